theorem q_267_0 : p_tb 267 0 = some (.aload_n 0, 1) := by decide +kernel
theorem q_267_1 : p_tb 267 1 = some (.iconst 0, 1) := by decide +kernel
theorem q_267_2 : p_tb 267 2 = some (.putfield 1, 3) := by decide +kernel
theorem q_267_5 : p_tb 267 5 = some (.aload_n 0, 1) := by decide +kernel
theorem q_267_6 : p_tb 267 6 = some (.sipush 200, 3) := by decide +kernel
theorem q_267_9 : p_tb 267 9 = some (.invokevirtual 226, 3) := by decide +kernel
theorem q_267_12 : p_tb 267 12 = some (.aload_n 0, 1) := by decide +kernel
theorem q_267_13 : p_tb 267 13 = some (.iconst 0, 1) := by decide +kernel
theorem q_267_14 : p_tb 267 14 = some (.putfield 161, 3) := by decide +kernel
theorem q_267_17 : p_tb 267 17 = some (.aload_n 0, 1) := by decide +kernel
theorem q_267_18 : p_tb 267 18 = some (.iconst 0, 1) := by decide +kernel
theorem q_267_19 : p_tb 267 19 = some (.putfield 382, 3) := by decide +kernel
theorem q_267_22 : p_tb 267 22 = some (.aload_n 0, 1) := by decide +kernel
theorem q_267_23 : p_tb 267 23 = some (.iconst 0, 1) := by decide +kernel
theorem q_267_24 : p_tb 267 24 = some (.putfield 398, 3) := by decide +kernel
theorem q_267_27 : p_tb 267 27 = some (.aload_n 0, 1) := by decide +kernel
theorem q_267_28 : p_tb 267 28 = some (.iconst 0, 1) := by decide +kernel
theorem q_267_29 : p_tb 267 29 = some (.putfield 385, 3) := by decide +kernel
theorem q_267_32 : p_tb 267 32 = some (.aload_n 0, 1) := by decide +kernel
theorem q_267_33 : p_tb 267 33 = some (.iconst 1, 1) := by decide +kernel
theorem q_267_34 : p_tb 267 34 = some (.putfield 392, 3) := by decide +kernel
theorem q_267_37 : p_tb 267 37 = some (.aload_n 0, 1) := by decide +kernel
theorem q_267_38 : p_tb 267 38 = some (.iconst 0, 1) := by decide +kernel
theorem q_267_39 : p_tb 267 39 = some (.putfield 401, 3) := by decide +kernel
theorem q_267_42 : p_tb 267 42 = some (.aload_n 0, 1) := by decide +kernel
theorem q_267_43 : p_tb 267 43 = some (.invokevirtual 173, 3) := by decide +kernel
theorem q_267_46 : p_tb 267 46 = some (.iconst 1, 1) := by decide +kernel
theorem q_267_47 : p_tb 267 47 = some (.istore_n 1, 1) := by decide +kernel
theorem q_267_48 : p_tb 267 48 = some (.iload_n 1, 1) := by decide +kernel
theorem q_267_49 : p_tb 267 49 = some (.ifCond .eq 83, 3) := by decide +kernel
theorem q_267_52 : p_tb 267 52 = some (.aload_n 0, 1) := by decide +kernel
theorem q_267_53 : p_tb 267 53 = some (.getfield 401, 3) := by decide +kernel
theorem q_267_56 : p_tb 267 56 = some (.ifCond .eq 45, 3) := by decide +kernel
theorem q_267_59 : p_tb 267 59 = some (.aload_n 0, 1) := by decide +kernel
theorem q_267_60 : p_tb 267 60 = some (.getfield 144, 3) := by decide +kernel
theorem q_267_63 : p_tb 267 63 = some (.ifCond .ne 38, 3) := by decide +kernel
theorem q_267_66 : p_tb 267 66 = some (.aload_n 0, 1) := by decide +kernel
theorem q_267_67 : p_tb 267 67 = some (.invokevirtual 404, 3) := by decide +kernel
theorem q_267_70 : p_tb 267 70 = some (.aload_n 0, 1) := by decide +kernel
theorem q_267_71 : p_tb 267 71 = some (.bipush 22, 2) := by decide +kernel
theorem q_267_73 : p_tb 267 73 = some (.invokevirtual 407, 3) := by decide +kernel
theorem q_267_76 : p_tb 267 76 = some (.aload_n 0, 1) := by decide +kernel
theorem q_267_77 : p_tb 267 77 = some (.getfield 385, 3) := by decide +kernel
theorem q_267_80 : p_tb 267 80 = some (.ifCond .le 16, 3) := by decide +kernel
theorem q_267_83 : p_tb 267 83 = some (.aload_n 0, 1) := by decide +kernel
theorem q_267_84 : p_tb 267 84 = some (.iconst 1, 1) := by decide +kernel
theorem q_267_85 : p_tb 267 85 = some (.invokevirtual 170, 3) := by decide +kernel
theorem q_267_88 : p_tb 267 88 = some (.pop, 1) := by decide +kernel
theorem q_267_89 : p_tb 267 89 = some (.iconst (-1), 1) := by decide +kernel
theorem q_267_90 : p_tb 267 90 = some (.aload_n 0, 1) := by decide +kernel
theorem q_267_91 : p_tb 267 91 = some (.getfield 164, 3) := by decide +kernel
theorem q_267_94 : p_tb 267 94 = some (.isub, 1) := by decide +kernel
theorem q_267_95 : p_tb 267 95 = some (.ireturn, 1) := by decide +kernel
theorem q_267_96 : p_tb 267 96 = some (.iconst 0, 1) := by decide +kernel
theorem q_267_97 : p_tb 267 97 = some (.istore_n 1, 1) := by decide +kernel
theorem q_267_98 : p_tb 267 98 = some (.goto (-50), 3) := by decide +kernel
theorem q_267_101 : p_tb 267 101 = some (.aload_n 0, 1) := by decide +kernel
theorem q_267_102 : p_tb 267 102 = some (.getfield 401, 3) := by decide +kernel
theorem q_267_105 : p_tb 267 105 = some (.ifCond .eq 13, 3) := by decide +kernel
theorem q_267_108 : p_tb 267 108 = some (.aload_n 0, 1) := by decide +kernel
theorem q_267_109 : p_tb 267 109 = some (.invokevirtual 410, 3) := by decide +kernel
theorem q_267_112 : p_tb 267 112 = some (.ifCond .ne (-64), 3) := by decide +kernel
theorem q_267_115 : p_tb 267 115 = some (.goto 10, 3) := by decide +kernel
theorem q_267_118 : p_tb 267 118 = some (.aload_n 0, 1) := by decide +kernel
theorem q_267_119 : p_tb 267 119 = some (.invokevirtual 413, 3) := by decide +kernel
theorem q_267_122 : p_tb 267 122 = some (.ifCond .ne (-74), 3) := by decide +kernel
theorem q_267_125 : p_tb 267 125 = some (.iconst (-1), 1) := by decide +kernel
theorem q_267_126 : p_tb 267 126 = some (.aload_n 0, 1) := by decide +kernel
theorem q_267_127 : p_tb 267 127 = some (.getfield 164, 3) := by decide +kernel
theorem q_267_130 : p_tb 267 130 = some (.isub, 1) := by decide +kernel
theorem q_267_131 : p_tb 267 131 = some (.ireturn, 1) := by decide +kernel
theorem q_267_132 : p_tb 267 132 = some (.aload_n 0, 1) := by decide +kernel
theorem q_267_133 : p_tb 267 133 = some (.getfield 33, 3) := by decide +kernel
theorem q_267_136 : p_tb 267 136 = some (.sipush 216, 3) := by decide +kernel
theorem q_267_139 : p_tb 267 139 = some (.aload_n 0, 1) := by decide +kernel
theorem q_267_140 : p_tb 267 140 = some (.getfield 382, 3) := by decide +kernel
theorem q_267_143 : p_tb 267 143 = some (.iastore, 1) := by decide +kernel
theorem q_267_144 : p_tb 267 144 = some (.iconst 0, 1) := by decide +kernel
theorem q_267_145 : p_tb 267 145 = some (.istore_n 2, 1) := by decide +kernel
theorem q_267_146 : p_tb 267 146 = some (.iload_n 2, 1) := by decide +kernel
theorem q_267_147 : p_tb 267 147 = some (.iconst 3, 1) := by decide +kernel
theorem q_267_148 : p_tb 267 148 = some (.aload_n 0, 1) := by decide +kernel
theorem q_267_149 : p_tb 267 149 = some (.getfield 382, 3) := by decide +kernel
theorem q_267_152 : p_tb 267 152 = some (.imul, 1) := by decide +kernel
theorem q_267_153 : p_tb 267 153 = some (.if_icmp .ge 25, 3) := by decide +kernel
theorem q_267_156 : p_tb 267 156 = some (.aload_n 0, 1) := by decide +kernel
theorem q_267_157 : p_tb 267 157 = some (.getfield 33, 3) := by decide +kernel
theorem q_267_160 : p_tb 267 160 = some (.sipush 217, 3) := by decide +kernel
theorem q_267_163 : p_tb 267 163 = some (.iload_n 2, 1) := by decide +kernel
theorem q_267_164 : p_tb 267 164 = some (.iadd, 1) := by decide +kernel
theorem q_267_165 : p_tb 267 165 = some (.aload_n 0, 1) := by decide +kernel
theorem q_267_166 : p_tb 267 166 = some (.getfield 40, 3) := by decide +kernel
theorem q_267_169 : p_tb 267 169 = some (.iload_n 2, 1) := by decide +kernel
theorem q_267_170 : p_tb 267 170 = some (.iaload, 1) := by decide +kernel
theorem q_267_171 : p_tb 267 171 = some (.iastore, 1) := by decide +kernel
theorem q_267_172 : p_tb 267 172 = some (.iinc 2 1, 3) := by decide +kernel
theorem q_267_175 : p_tb 267 175 = some (.goto (-29), 3) := by decide +kernel
theorem q_267_178 : p_tb 267 178 = some (.aload_n 0, 1) := by decide +kernel
theorem q_267_179 : p_tb 267 179 = some (.getfield 398, 3) := by decide +kernel
theorem q_267_182 : p_tb 267 182 = some (.ireturn, 1) := by decide +kernel
theorem t_ft_267_1 : p_f2 p_ft (p_mK 267) 1 = some (11, 0) := by decide +kernel
theorem t_ft_267_144 : p_f2 p_ft (p_mK 267) 144 = some (11, 11) := by decide +kernel
theorem t_ft_267_161 : p_f2 p_ft (p_mK 267) 161 = some (11, 15) := by decide +kernel
theorem t_ft_267_164 : p_f2 p_ft (p_mK 267) 164 = some (11, 16) := by decide +kernel
theorem t_ft_267_33 : p_f2 p_ft (p_mK 267) 33 = some (11, 6) := by decide +kernel
theorem t_ft_267_382 : p_f2 p_ft (p_mK 267) 382 = some (11, 33) := by decide +kernel
theorem t_ft_267_385 : p_f2 p_ft (p_mK 267) 385 = some (11, 35) := by decide +kernel
theorem t_ft_267_392 : p_f2 p_ft (p_mK 267) 392 = some (11, 36) := by decide +kernel
theorem t_ft_267_398 : p_f2 p_ft (p_mK 267) 398 = some (11, 34) := by decide +kernel
theorem t_ft_267_40 : p_f2 p_ft (p_mK 267) 40 = some (11, 8) := by decide +kernel
theorem t_ft_267_401 : p_f2 p_ft (p_mK 267) 401 = some (11, 37) := by decide +kernel
theorem t_mv_267_170 : p_f2 p_mv (p_mK 267) 170 = some 178 := by decide +kernel
theorem t_mv_267_173 : p_f2 p_mv (p_mK 267) 173 = some 177 := by decide +kernel
theorem t_mv_267_226 : p_f2 p_mv (p_mK 267) 226 = some 165 := by decide +kernel
theorem t_mv_267_404 : p_f2 p_mv (p_mK 267) 404 = some 263 := by decide +kernel
theorem t_mv_267_407 : p_f2 p_mv (p_mK 267) 407 = some 262 := by decide +kernel
theorem t_mv_267_410 : p_f2 p_mv (p_mK 267) 410 = some 266 := by decide +kernel
theorem t_mv_267_413 : p_f2 p_mv (p_mK 267) 413 = some 265 := by decide +kernel
theorem q_268_0 : p_tb 268 0 = some (.aload_n 0, 1) := by decide +kernel
theorem q_268_1 : p_tb 268 1 = some (.getfield 33, 3) := by decide +kernel
theorem q_268_4 : p_tb 268 4 = some (.iconst 1, 1) := by decide +kernel
theorem q_268_5 : p_tb 268 5 = some (.iaload, 1) := by decide +kernel
theorem q_268_6 : p_tb 268 6 = some (.ifCond .le 16, 3) := by decide +kernel
theorem q_268_9 : p_tb 268 9 = some (.aload_n 0, 1) := by decide +kernel
theorem q_268_10 : p_tb 268 10 = some (.getfield 33, 3) := by decide +kernel
theorem q_268_13 : p_tb 268 13 = some (.bipush 82, 2) := by decide +kernel
theorem q_268_15 : p_tb 268 15 = some (.iaload, 1) := by decide +kernel
theorem q_268_16 : p_tb 268 16 = some (.iload_n 1, 1) := by decide +kernel
theorem q_268_17 : p_tb 268 17 = some (.iconst 1, 1) := by decide +kernel
theorem q_268_18 : p_tb 268 18 = some (.iadd, 1) := by decide +kernel
theorem q_268_19 : p_tb 268 19 = some (.if_icmp .eq 26, 3) := by decide +kernel
theorem q_268_22 : p_tb 268 22 = some (.aload_n 0, 1) := by decide +kernel
theorem q_268_23 : p_tb 268 23 = some (.getfield 33, 3) := by decide +kernel
theorem q_268_26 : p_tb 268 26 = some (.iconst 1, 1) := by decide +kernel
theorem q_268_27 : p_tb 268 27 = some (.iaload, 1) := by decide +kernel
theorem q_268_28 : p_tb 268 28 = some (.iconst 1, 1) := by decide +kernel
theorem q_268_29 : p_tb 268 29 = some (.if_icmp .le 20, 3) := by decide +kernel
theorem q_268_32 : p_tb 268 32 = some (.aload_n 0, 1) := by decide +kernel
theorem q_268_33 : p_tb 268 33 = some (.getfield 33, 3) := by decide +kernel
theorem q_268_36 : p_tb 268 36 = some (.bipush 83, 2) := by decide +kernel
theorem q_268_38 : p_tb 268 38 = some (.iaload, 1) := by decide +kernel
theorem q_268_39 : p_tb 268 39 = some (.iload_n 1, 1) := by decide +kernel
theorem q_268_40 : p_tb 268 40 = some (.iconst 1, 1) := by decide +kernel
theorem q_268_41 : p_tb 268 41 = some (.iadd, 1) := by decide +kernel
theorem q_268_42 : p_tb 268 42 = some (.if_icmp .ne 7, 3) := by decide +kernel
theorem q_268_45 : p_tb 268 45 = some (.iconst 1, 1) := by decide +kernel
theorem q_268_46 : p_tb 268 46 = some (.goto 4, 3) := by decide +kernel
theorem q_268_49 : p_tb 268 49 = some (.iconst 0, 1) := by decide +kernel
theorem q_268_50 : p_tb 268 50 = some (.ireturn, 1) := by decide +kernel
theorem t_ft_268_33 : p_f2 p_ft (p_mK 268) 33 = some (11, 6) := by decide +kernel
theorem q_269_0 : p_tb 269 0 = some (.iload_n 2, 1) := by decide +kernel
theorem q_269_1 : p_tb 269 1 = some (.tableswitch 91 0 3 #[31, 51, 63, 69], 31) := by decide +kernel
theorem q_269_32 : p_tb 269 32 = some (.aload_n 0, 1) := by decide +kernel
theorem q_269_33 : p_tb 269 33 = some (.getfield 33, 3) := by decide +kernel
theorem q_269_36 : p_tb 269 36 = some (.bipush 73, 2) := by decide +kernel
theorem q_269_38 : p_tb 269 38 = some (.iaload, 1) := by decide +kernel
theorem q_269_39 : p_tb 269 39 = some (.iload_n 1, 1) := by decide +kernel
theorem q_269_40 : p_tb 269 40 = some (.invokestatic 198, 3) := by decide +kernel
theorem q_269_43 : p_tb 269 43 = some (.ifCond .ne 7, 3) := by decide +kernel
theorem q_269_46 : p_tb 269 46 = some (.iconst 1, 1) := by decide +kernel
theorem q_269_47 : p_tb 269 47 = some (.goto 4, 3) := by decide +kernel
theorem q_269_50 : p_tb 269 50 = some (.iconst 0, 1) := by decide +kernel
theorem q_269_51 : p_tb 269 51 = some (.ireturn, 1) := by decide +kernel
theorem q_269_52 : p_tb 269 52 = some (.aload_n 0, 1) := by decide +kernel
theorem q_269_53 : p_tb 269 53 = some (.getfield 33, 3) := by decide +kernel
theorem q_269_56 : p_tb 269 56 = some (.bipush 54, 2) := by decide +kernel
theorem q_269_58 : p_tb 269 58 = some (.iaload, 1) := by decide +kernel
theorem q_269_59 : p_tb 269 59 = some (.iload_n 1, 1) := by decide +kernel
theorem q_269_60 : p_tb 269 60 = some (.invokestatic 198, 3) := by decide +kernel
theorem q_269_63 : p_tb 269 63 = some (.ireturn, 1) := by decide +kernel
theorem q_269_64 : p_tb 269 64 = some (.aload_n 0, 1) := by decide +kernel
theorem q_269_65 : p_tb 269 65 = some (.iload_n 1, 1) := by decide +kernel
theorem q_269_66 : p_tb 269 66 = some (.invokevirtual 416, 3) := by decide +kernel
theorem q_269_69 : p_tb 269 69 = some (.ireturn, 1) := by decide +kernel
theorem q_269_70 : p_tb 269 70 = some (.aload_n 0, 1) := by decide +kernel
theorem q_269_71 : p_tb 269 71 = some (.iload_n 1, 1) := by decide +kernel
theorem q_269_72 : p_tb 269 72 = some (.iload 4, 2) := by decide +kernel
theorem q_269_74 : p_tb 269 74 = some (.invokevirtual 302, 3) := by decide +kernel
theorem q_269_77 : p_tb 269 77 = some (.aload_n 0, 1) := by decide +kernel
theorem q_269_78 : p_tb 269 78 = some (.getfield 33, 3) := by decide +kernel
theorem q_269_81 : p_tb 269 81 = some (.iconst 3, 1) := by decide +kernel
theorem q_269_82 : p_tb 269 82 = some (.iaload, 1) := by decide +kernel
theorem q_269_83 : p_tb 269 83 = some (.if_icmp .gt 7, 3) := by decide +kernel
theorem q_269_86 : p_tb 269 86 = some (.iconst 1, 1) := by decide +kernel
theorem q_269_87 : p_tb 269 87 = some (.goto 4, 3) := by decide +kernel
theorem q_269_90 : p_tb 269 90 = some (.iconst 0, 1) := by decide +kernel
theorem q_269_91 : p_tb 269 91 = some (.ireturn, 1) := by decide +kernel
theorem q_269_92 : p_tb 269 92 = some (.iload_n 2, 1) := by decide +kernel
theorem q_269_93 : p_tb 269 93 = some (.iconst 4, 1) := by decide +kernel
theorem q_269_94 : p_tb 269 94 = some (.if_icmp .ne 15, 3) := by decide +kernel
theorem q_269_97 : p_tb 269 97 = some (.aload_n 0, 1) := by decide +kernel
theorem q_269_98 : p_tb 269 98 = some (.getfield 33, 3) := by decide +kernel
theorem q_269_101 : p_tb 269 101 = some (.bipush 36, 2) := by decide +kernel
theorem q_269_103 : p_tb 269 103 = some (.iload_n 1, 1) := by decide +kernel
theorem q_269_104 : p_tb 269 104 = some (.iadd, 1) := by decide +kernel
theorem q_269_105 : p_tb 269 105 = some (.iaload, 1) := by decide +kernel
theorem q_269_106 : p_tb 269 106 = some (.goto 39, 3) := by decide +kernel
theorem q_269_109 : p_tb 269 109 = some (.iload_n 2, 1) := by decide +kernel
theorem q_269_110 : p_tb 269 110 = some (.iconst 5, 1) := by decide +kernel
theorem q_269_111 : p_tb 269 111 = some (.if_icmp .ne 15, 3) := by decide +kernel
theorem q_269_114 : p_tb 269 114 = some (.aload_n 0, 1) := by decide +kernel
theorem q_269_115 : p_tb 269 115 = some (.getfield 33, 3) := by decide +kernel
theorem q_269_118 : p_tb 269 118 = some (.bipush 11, 2) := by decide +kernel
theorem q_269_120 : p_tb 269 120 = some (.iload_n 1, 1) := by decide +kernel
theorem q_269_121 : p_tb 269 121 = some (.iadd, 1) := by decide +kernel
theorem q_269_122 : p_tb 269 122 = some (.iaload, 1) := by decide +kernel
theorem q_269_123 : p_tb 269 123 = some (.goto 22, 3) := by decide +kernel
theorem q_269_126 : p_tb 269 126 = some (.iload_n 2, 1) := by decide +kernel
theorem q_269_127 : p_tb 269 127 = some (.bipush 6, 2) := by decide +kernel
theorem q_269_129 : p_tb 269 129 = some (.if_icmp .ne 15, 3) := by decide +kernel
theorem q_269_132 : p_tb 269 132 = some (.aload_n 0, 1) := by decide +kernel
theorem q_269_133 : p_tb 269 133 = some (.getfield 33, 3) := by decide +kernel
theorem q_269_136 : p_tb 269 136 = some (.bipush 61, 2) := by decide +kernel
theorem q_269_138 : p_tb 269 138 = some (.iload_n 1, 1) := by decide +kernel
theorem q_269_139 : p_tb 269 139 = some (.iadd, 1) := by decide +kernel
theorem q_269_140 : p_tb 269 140 = some (.iaload, 1) := by decide +kernel
theorem q_269_141 : p_tb 269 141 = some (.goto 4, 3) := by decide +kernel
theorem q_269_144 : p_tb 269 144 = some (.iload_n 1, 1) := by decide +kernel
theorem q_269_145 : p_tb 269 145 = some (.istore 5, 2) := by decide +kernel
theorem q_269_147 : p_tb 269 147 = some (.iload_n 3, 1) := by decide +kernel
theorem q_269_148 : p_tb 269 148 = some (.bipush 60, 2) := by decide +kernel
theorem q_269_150 : p_tb 269 150 = some (.if_icmp .ne 18, 3) := by decide +kernel
theorem q_269_153 : p_tb 269 153 = some (.iload 5, 2) := by decide +kernel
theorem q_269_155 : p_tb 269 155 = some (.iload 4, 2) := by decide +kernel
theorem q_269_157 : p_tb 269 157 = some (.if_icmp .ge 7, 3) := by decide +kernel
theorem q_269_160 : p_tb 269 160 = some (.iconst 1, 1) := by decide +kernel
theorem q_269_161 : p_tb 269 161 = some (.goto 40, 3) := by decide +kernel
theorem q_269_164 : p_tb 269 164 = some (.iconst 0, 1) := by decide +kernel
theorem q_269_165 : p_tb 269 165 = some (.goto 36, 3) := by decide +kernel
theorem q_269_168 : p_tb 269 168 = some (.iload_n 3, 1) := by decide +kernel
theorem q_269_169 : p_tb 269 169 = some (.bipush 61, 2) := by decide +kernel
theorem q_269_171 : p_tb 269 171 = some (.if_icmp .ne 18, 3) := by decide +kernel
theorem q_269_174 : p_tb 269 174 = some (.iload 5, 2) := by decide +kernel
theorem q_269_176 : p_tb 269 176 = some (.iload 4, 2) := by decide +kernel
theorem q_269_178 : p_tb 269 178 = some (.if_icmp .ne 7, 3) := by decide +kernel
theorem q_269_181 : p_tb 269 181 = some (.iconst 1, 1) := by decide +kernel
theorem q_269_182 : p_tb 269 182 = some (.goto 19, 3) := by decide +kernel
theorem q_269_185 : p_tb 269 185 = some (.iconst 0, 1) := by decide +kernel
theorem q_269_186 : p_tb 269 186 = some (.goto 15, 3) := by decide +kernel
theorem q_269_189 : p_tb 269 189 = some (.iload 5, 2) := by decide +kernel
theorem q_269_191 : p_tb 269 191 = some (.iload 4, 2) := by decide +kernel
theorem q_269_193 : p_tb 269 193 = some (.if_icmp .le 7, 3) := by decide +kernel
theorem q_269_196 : p_tb 269 196 = some (.iconst 1, 1) := by decide +kernel
theorem q_269_197 : p_tb 269 197 = some (.goto 4, 3) := by decide +kernel
theorem q_269_200 : p_tb 269 200 = some (.iconst 0, 1) := by decide +kernel
theorem q_269_201 : p_tb 269 201 = some (.ireturn, 1) := by decide +kernel
theorem t_ft_269_33 : p_f2 p_ft (p_mK 269) 33 = some (11, 6) := by decide +kernel
theorem t_ms_269_198 : p_f2 p_ms (p_mK 269) 198 = some 167 := by decide +kernel
theorem t_mv_269_302 : p_f2 p_mv (p_mK 269) 302 = some 198 := by decide +kernel
theorem t_mv_269_416 : p_f2 p_mv (p_mK 269) 416 = some 268 := by decide +kernel
theorem q_270_0 : p_tb 270 0 = some (.iconst 0, 1) := by decide +kernel
theorem q_270_1 : p_tb 270 1 = some (.istore_n 2, 1) := by decide +kernel
theorem q_270_2 : p_tb 270 2 = some (.iconst 0, 1) := by decide +kernel
theorem q_270_3 : p_tb 270 3 = some (.istore_n 3, 1) := by decide +kernel
theorem q_270_4 : p_tb 270 4 = some (.iload_n 3, 1) := by decide +kernel
theorem q_270_5 : p_tb 270 5 = some (.aload_n 0, 1) := by decide +kernel
theorem q_270_6 : p_tb 270 6 = some (.getfield 33, 3) := by decide +kernel
theorem q_270_9 : p_tb 270 9 = some (.sipush 216, 3) := by decide +kernel
theorem q_270_12 : p_tb 270 12 = some (.iaload, 1) := by decide +kernel
theorem q_270_13 : p_tb 270 13 = some (.if_icmp .ge 199, 3) := by decide +kernel
theorem q_270_16 : p_tb 270 16 = some (.sipush 217, 3) := by decide +kernel
theorem q_270_19 : p_tb 270 19 = some (.iconst 3, 1) := by decide +kernel
theorem q_270_20 : p_tb 270 20 = some (.iload_n 3, 1) := by decide +kernel
theorem q_270_21 : p_tb 270 21 = some (.imul, 1) := by decide +kernel
theorem q_270_22 : p_tb 270 22 = some (.iadd, 1) := by decide +kernel
theorem q_270_23 : p_tb 270 23 = some (.istore 4, 2) := by decide +kernel
theorem q_270_25 : p_tb 270 25 = some (.aload_n 0, 1) := by decide +kernel
theorem q_270_26 : p_tb 270 26 = some (.getfield 33, 3) := by decide +kernel
theorem q_270_29 : p_tb 270 29 = some (.iload 4, 2) := by decide +kernel
theorem q_270_31 : p_tb 270 31 = some (.iaload, 1) := by decide +kernel
theorem q_270_32 : p_tb 270 32 = some (.bipush 20, 2) := by decide +kernel
theorem q_270_34 : p_tb 270 34 = some (.if_icmp .ne 30, 3) := by decide +kernel
theorem q_270_37 : p_tb 270 37 = some (.aload_n 0, 1) := by decide +kernel
theorem q_270_38 : p_tb 270 38 = some (.getfield 65, 3) := by decide +kernel
theorem q_270_41 : p_tb 270 41 = some (.iload_n 2, 1) := by decide +kernel
theorem q_270_42 : p_tb 270 42 = some (.iconst 1, 1) := by decide +kernel
theorem q_270_43 : p_tb 270 43 = some (.isub, 1) := by decide +kernel
theorem q_270_44 : p_tb 270 44 = some (.aload_n 0, 1) := by decide +kernel
theorem q_270_45 : p_tb 270 45 = some (.getfield 65, 3) := by decide +kernel
theorem q_270_48 : p_tb 270 48 = some (.iload_n 2, 1) := by decide +kernel
theorem q_270_49 : p_tb 270 49 = some (.iconst 1, 1) := by decide +kernel
theorem q_270_50 : p_tb 270 50 = some (.isub, 1) := by decide +kernel
theorem q_270_51 : p_tb 270 51 = some (.baload, 1) := by decide +kernel
theorem q_270_52 : p_tb 270 52 = some (.ifCond .ne 7, 3) := by decide +kernel
theorem q_270_55 : p_tb 270 55 = some (.iconst 1, 1) := by decide +kernel
theorem q_270_56 : p_tb 270 56 = some (.goto 4, 3) := by decide +kernel
theorem q_270_59 : p_tb 270 59 = some (.iconst 0, 1) := by decide +kernel
theorem q_270_60 : p_tb 270 60 = some (.bastore, 1) := by decide +kernel
theorem q_270_61 : p_tb 270 61 = some (.goto 145, 3) := by decide +kernel
theorem q_270_64 : p_tb 270 64 = some (.aload_n 0, 1) := by decide +kernel
theorem q_270_65 : p_tb 270 65 = some (.getfield 33, 3) := by decide +kernel
theorem q_270_68 : p_tb 270 68 = some (.iload 4, 2) := by decide +kernel
theorem q_270_70 : p_tb 270 70 = some (.iaload, 1) := by decide +kernel
theorem q_270_71 : p_tb 270 71 = some (.bipush 21, 2) := by decide +kernel
theorem q_270_73 : p_tb 270 73 = some (.if_icmp .eq 15, 3) := by decide +kernel
theorem q_270_76 : p_tb 270 76 = some (.aload_n 0, 1) := by decide +kernel
theorem q_270_77 : p_tb 270 77 = some (.getfield 33, 3) := by decide +kernel
theorem q_270_80 : p_tb 270 80 = some (.iload 4, 2) := by decide +kernel
theorem q_270_82 : p_tb 270 82 = some (.iaload, 1) := by decide +kernel
theorem q_270_83 : p_tb 270 83 = some (.bipush 22, 2) := by decide +kernel
theorem q_270_85 : p_tb 270 85 = some (.if_icmp .ne 82, 3) := by decide +kernel
theorem q_270_88 : p_tb 270 88 = some (.iinc 2 (-1), 3) := by decide +kernel
theorem q_270_91 : p_tb 270 91 = some (.aload_n 0, 1) := by decide +kernel
theorem q_270_92 : p_tb 270 92 = some (.getfield 65, 3) := by decide +kernel
theorem q_270_95 : p_tb 270 95 = some (.iload_n 2, 1) := by decide +kernel
theorem q_270_96 : p_tb 270 96 = some (.iconst 1, 1) := by decide +kernel
theorem q_270_97 : p_tb 270 97 = some (.isub, 1) := by decide +kernel
theorem q_270_98 : p_tb 270 98 = some (.aload_n 0, 1) := by decide +kernel
theorem q_270_99 : p_tb 270 99 = some (.getfield 33, 3) := by decide +kernel
theorem q_270_102 : p_tb 270 102 = some (.iload 4, 2) := by decide +kernel
theorem q_270_104 : p_tb 270 104 = some (.iaload, 1) := by decide +kernel
theorem q_270_105 : p_tb 270 105 = some (.bipush 21, 2) := by decide +kernel
theorem q_270_107 : p_tb 270 107 = some (.if_icmp .ne 31, 3) := by decide +kernel
theorem q_270_110 : p_tb 270 110 = some (.aload_n 0, 1) := by decide +kernel
theorem q_270_111 : p_tb 270 111 = some (.getfield 65, 3) := by decide +kernel
theorem q_270_114 : p_tb 270 114 = some (.iload_n 2, 1) := by decide +kernel
theorem q_270_115 : p_tb 270 115 = some (.iconst 1, 1) := by decide +kernel
theorem q_270_116 : p_tb 270 116 = some (.isub, 1) := by decide +kernel
theorem q_270_117 : p_tb 270 117 = some (.baload, 1) := by decide +kernel
theorem q_270_118 : p_tb 270 118 = some (.ifCond .eq 16, 3) := by decide +kernel
theorem q_270_121 : p_tb 270 121 = some (.aload_n 0, 1) := by decide +kernel
theorem q_270_122 : p_tb 270 122 = some (.getfield 65, 3) := by decide +kernel
theorem q_270_125 : p_tb 270 125 = some (.iload_n 2, 1) := by decide +kernel
theorem q_270_126 : p_tb 270 126 = some (.baload, 1) := by decide +kernel
theorem q_270_127 : p_tb 270 127 = some (.ifCond .eq 7, 3) := by decide +kernel
theorem q_270_130 : p_tb 270 130 = some (.iconst 1, 1) := by decide +kernel
theorem q_270_131 : p_tb 270 131 = some (.goto 32, 3) := by decide +kernel
theorem q_270_134 : p_tb 270 134 = some (.iconst 0, 1) := by decide +kernel
theorem q_270_135 : p_tb 270 135 = some (.goto 28, 3) := by decide +kernel
theorem q_270_138 : p_tb 270 138 = some (.aload_n 0, 1) := by decide +kernel
theorem q_270_139 : p_tb 270 139 = some (.getfield 65, 3) := by decide +kernel
theorem q_270_142 : p_tb 270 142 = some (.iload_n 2, 1) := by decide +kernel
theorem q_270_143 : p_tb 270 143 = some (.iconst 1, 1) := by decide +kernel
theorem q_270_144 : p_tb 270 144 = some (.isub, 1) := by decide +kernel
theorem q_270_145 : p_tb 270 145 = some (.baload, 1) := by decide +kernel
theorem q_270_146 : p_tb 270 146 = some (.ifCond .ne 12, 3) := by decide +kernel
theorem q_270_149 : p_tb 270 149 = some (.aload_n 0, 1) := by decide +kernel
theorem q_270_150 : p_tb 270 150 = some (.getfield 65, 3) := by decide +kernel
theorem q_270_153 : p_tb 270 153 = some (.iload_n 2, 1) := by decide +kernel
theorem q_270_154 : p_tb 270 154 = some (.baload, 1) := by decide +kernel
theorem q_270_155 : p_tb 270 155 = some (.ifCond .eq 7, 3) := by decide +kernel
theorem q_270_158 : p_tb 270 158 = some (.iconst 1, 1) := by decide +kernel
theorem q_270_159 : p_tb 270 159 = some (.goto 4, 3) := by decide +kernel
theorem q_270_162 : p_tb 270 162 = some (.iconst 0, 1) := by decide +kernel
theorem q_270_163 : p_tb 270 163 = some (.bastore, 1) := by decide +kernel
theorem q_270_164 : p_tb 270 164 = some (.goto 42, 3) := by decide +kernel
theorem q_270_167 : p_tb 270 167 = some (.aload_n 0, 1) := by decide +kernel
theorem q_270_168 : p_tb 270 168 = some (.getfield 65, 3) := by decide +kernel
theorem q_270_171 : p_tb 270 171 = some (.iload_n 2, 1) := by decide +kernel
theorem q_270_172 : p_tb 270 172 = some (.aload_n 0, 1) := by decide +kernel
theorem q_270_173 : p_tb 270 173 = some (.iload_n 1, 1) := by decide +kernel
theorem q_270_174 : p_tb 270 174 = some (.aload_n 0, 1) := by decide +kernel
theorem q_270_175 : p_tb 270 175 = some (.getfield 33, 3) := by decide +kernel
theorem q_270_178 : p_tb 270 178 = some (.iload 4, 2) := by decide +kernel
theorem q_270_180 : p_tb 270 180 = some (.iaload, 1) := by decide +kernel
theorem q_270_181 : p_tb 270 181 = some (.aload_n 0, 1) := by decide +kernel
theorem q_270_182 : p_tb 270 182 = some (.getfield 33, 3) := by decide +kernel
theorem q_270_185 : p_tb 270 185 = some (.iload 4, 2) := by decide +kernel
theorem q_270_187 : p_tb 270 187 = some (.iconst 1, 1) := by decide +kernel
theorem q_270_188 : p_tb 270 188 = some (.iadd, 1) := by decide +kernel
theorem q_270_189 : p_tb 270 189 = some (.iaload, 1) := by decide +kernel
theorem q_270_190 : p_tb 270 190 = some (.aload_n 0, 1) := by decide +kernel
theorem q_270_191 : p_tb 270 191 = some (.getfield 33, 3) := by decide +kernel
theorem q_270_194 : p_tb 270 194 = some (.iload 4, 2) := by decide +kernel
theorem q_270_196 : p_tb 270 196 = some (.iconst 2, 1) := by decide +kernel
theorem q_270_197 : p_tb 270 197 = some (.iadd, 1) := by decide +kernel
theorem q_270_198 : p_tb 270 198 = some (.iaload, 1) := by decide +kernel
theorem q_270_199 : p_tb 270 199 = some (.invokevirtual 419, 3) := by decide +kernel
theorem q_270_202 : p_tb 270 202 = some (.bastore, 1) := by decide +kernel
theorem q_270_203 : p_tb 270 203 = some (.iinc 2 1, 3) := by decide +kernel
theorem q_270_206 : p_tb 270 206 = some (.iinc 3 1, 3) := by decide +kernel
theorem q_270_209 : p_tb 270 209 = some (.goto (-205), 3) := by decide +kernel
theorem q_270_212 : p_tb 270 212 = some (.aload_n 0, 1) := by decide +kernel
theorem q_270_213 : p_tb 270 213 = some (.getfield 65, 3) := by decide +kernel
theorem q_270_216 : p_tb 270 216 = some (.iconst 0, 1) := by decide +kernel
theorem q_270_217 : p_tb 270 217 = some (.baload, 1) := by decide +kernel
theorem q_270_218 : p_tb 270 218 = some (.ireturn, 1) := by decide +kernel
theorem t_ft_270_33 : p_f2 p_ft (p_mK 270) 33 = some (11, 6) := by decide +kernel
theorem t_ft_270_65 : p_f2 p_ft (p_mK 270) 65 = some (11, 38) := by decide +kernel
theorem t_mv_270_419 : p_f2 p_mv (p_mK 270) 419 = some 269 := by decide +kernel
theorem gB_42_216_216 : gB 42 216 216 0 40 := gB.of (by decide +kernel)
theorem gB_52_0_44 : gB 52 0 44 0 1 := gB.of (by decide +kernel)
theorem gC_52_0_44 : gC 52 0 44 0 1 := gC.of (by decide +kernel)
theorem q_271_0 : p_tb 271 0 = some (.aload_n 0, 1) := by decide +kernel
theorem q_271_1 : p_tb 271 1 = some (.iconst 0, 1) := by decide +kernel
theorem q_271_2 : p_tb 271 2 = some (.putfield 1, 3) := by decide +kernel
theorem q_271_5 : p_tb 271 5 = some (.aload_n 0, 1) := by decide +kernel
theorem q_271_6 : p_tb 271 6 = some (.getfield 33, 3) := by decide +kernel
theorem q_271_9 : p_tb 271 9 = some (.sipush 216, 3) := by decide +kernel
theorem q_271_12 : p_tb 271 12 = some (.iaload, 1) := by decide +kernel
theorem q_271_13 : p_tb 271 13 = some (.ifCond .eq 8, 3) := by decide +kernel
theorem q_271_16 : p_tb 271 16 = some (.iload_n 1, 1) := by decide +kernel
theorem q_271_17 : p_tb 271 17 = some (.iconst (-1), 1) := by decide +kernel
theorem q_271_18 : p_tb 271 18 = some (.if_icmp .ge 5, 3) := by decide +kernel
theorem q_271_21 : p_tb 271 21 = some (.iconst (-1), 1) := by decide +kernel
theorem q_271_22 : p_tb 271 22 = some (.ireturn, 1) := by decide +kernel
theorem q_271_23 : p_tb 271 23 = some (.iconst 0, 1) := by decide +kernel
theorem q_271_24 : p_tb 271 24 = some (.istore_n 2, 1) := by decide +kernel
theorem q_271_25 : p_tb 271 25 = some (.iconst 0, 1) := by decide +kernel
theorem q_271_26 : p_tb 271 26 = some (.istore_n 3, 1) := by decide +kernel
theorem q_271_27 : p_tb 271 27 = some (.iload_n 3, 1) := by decide +kernel
theorem q_271_28 : p_tb 271 28 = some (.aload_n 0, 1) := by decide +kernel
theorem q_271_29 : p_tb 271 29 = some (.getfield 33, 3) := by decide +kernel
theorem q_271_32 : p_tb 271 32 = some (.iconst 0, 1) := by decide +kernel
theorem q_271_33 : p_tb 271 33 = some (.iaload, 1) := by decide +kernel
theorem q_271_34 : p_tb 271 34 = some (.if_icmp .ge 30, 3) := by decide +kernel
theorem q_271_37 : p_tb 271 37 = some (.aload_n 0, 1) := by decide +kernel
theorem q_271_38 : p_tb 271 38 = some (.iload_n 3, 1) := by decide +kernel
theorem q_271_39 : p_tb 271 39 = some (.invokevirtual 423, 3) := by decide +kernel
theorem q_271_42 : p_tb 271 42 = some (.ifCond .ne 6, 3) := by decide +kernel
theorem q_271_45 : p_tb 271 45 = some (.goto 13, 3) := by decide +kernel
theorem q_271_48 : p_tb 271 48 = some (.iload_n 2, 1) := by decide +kernel
theorem q_271_49 : p_tb 271 49 = some (.iload_n 1, 1) := by decide +kernel
theorem q_271_50 : p_tb 271 50 = some (.if_icmp .ne 5, 3) := by decide +kernel
theorem q_271_53 : p_tb 271 53 = some (.iload_n 3, 1) := by decide +kernel
theorem q_271_54 : p_tb 271 54 = some (.ireturn, 1) := by decide +kernel
theorem q_271_55 : p_tb 271 55 = some (.iinc 2 1, 3) := by decide +kernel
theorem q_271_58 : p_tb 271 58 = some (.iinc 3 1, 3) := by decide +kernel
theorem q_271_61 : p_tb 271 61 = some (.goto (-34), 3) := by decide +kernel
theorem q_271_64 : p_tb 271 64 = some (.iload_n 1, 1) := by decide +kernel
theorem q_271_65 : p_tb 271 65 = some (.iconst (-1), 1) := by decide +kernel
theorem q_271_66 : p_tb 271 66 = some (.if_icmp .ne 7, 3) := by decide +kernel
theorem q_271_69 : p_tb 271 69 = some (.iload_n 2, 1) := by decide +kernel
theorem q_271_70 : p_tb 271 70 = some (.goto 4, 3) := by decide +kernel
theorem q_271_73 : p_tb 271 73 = some (.iconst (-1), 1) := by decide +kernel
theorem q_271_74 : p_tb 271 74 = some (.ireturn, 1) := by decide +kernel
theorem t_ft_271_1 : p_f2 p_ft (p_mK 271) 1 = some (11, 0) := by decide +kernel
theorem t_ft_271_33 : p_f2 p_ft (p_mK 271) 33 = some (11, 6) := by decide +kernel
theorem t_mv_271_423 : p_f2 p_mv (p_mK 271) 423 = some 270 := by decide +kernel
theorem gSn.zero {r k : Nat → Int32} : gSn 0 0 0 0 r k := ⟨rfl, fun i hi => absurd hi (by omega), by decide⟩
theorem as217 {p : Nat} {x : Int32} (h : 217 ≤ p) : (g_as 42 p).1 ≤ x.toInt ∧ x.toInt ≤ (g_as 42 p).2 := by
  have e : g_as 42 p = (-2147483648, 2147483647) := by
    show g_s42 p = _
    unfold g_s42
    repeat rw [if_neg (by omega)]
  rw [e]; exact ⟨n_lo x, n_hi x⟩
theorem gst_up {M M1 : pM} {q : Nat} (h : g_st (fun i => o_a (M 296) (33 + i))) (U : gVv M M1 296 q) (hq : 216 ≤ q) : g_st (fun i => o_a (M1 296) (33 + i)) := by
  refine ⟨?_, ?_⟩
  · show (o_a (M1 296) 80).toInt ≤ (o_a (M1 296) 33).toInt; rw [U.2 80 (by omega), U.2 33 (by omega)]; exact h.1
  · show (o_a (M1 296) 81).toInt ≤ (o_a (M1 296) 33).toInt; rw [U.2 81 (by omega), U.2 33 (by omega)]; exact h.2
theorem c_X12_sentence (G : pG) (Kr : pK) (M : pM) (I : Iv gTT M)  (hK : ∀ (x : Int32) (M1 : pM), Iv gTT M1 → Fr [40, 42, 44, 51] M M1 → (gLz M1) → Kr.1 (some (.int x)) 311 M1) : PW G false 3 267 (p_mc 267) (p_msl 267) Kr 0 (lv_args 0 [.ref 294]) [] 311 M 0 0 := by
  have F : Fr [40, 42, 44, 51] M M := Fr.refl
  refine PW.aload_n q_267_0 rfl ?_
  refine PW.cI q_267_1 (by decide) fun c1 hc1 => ?_
  refine PW.pI q_267_2 (Or.inl t_ft_267_1) gF_40_0 gP_40_0 kd_294 Stab0 I (by decide) rfl (n_lo _) (n_hi _) fun M2 IM2 fM2 UM2 => ?_
  have FM2 := Fr.pu F UM2.1 kd_294 (rfl : List.contains [40, 42, 44, 51] 40 = true)
  have tr3 := UM2.i (c := 294) (k := 33) (Or.inr (by decide))
  have tr4 := UM2.i (c := 294) (k := 35) (Or.inr (by decide))
  have tr5 := UM2.i (c := 294) (k := 37) (Or.inr (by decide))
  have tr6 := UM2.i (c := 294) (k := 34) (Or.inr (by decide))
  have tr7 := UM2.i (c := 294) (k := 4) (Or.inr (by decide))
  have tr8 := UM2.i (c := 294) (k := 11) (Or.inr (by decide))
  refine PW.aload_n q_267_5 rfl ?_
  refine PW.cS q_267_6 (by decide) fun c9 hc9 => ?_
  refine PW.cV (as := [_]) (rest := []) q_267_9 t_mv_267_226 kd_294 IM2.1 (by decide) rfl (by decide) rfl rfl (Nat.le_of_ble_eq_true rfl) (Nat.le_of_ble_eq_true rfl) (by decide) (by decide) ?_
  have SM2 : Iv (gSv M2) M2 := gSv.of IM2
  refine PW.up (by decide) (c_X12_taken (gSv M2) (StabSv M2) G _ M2 SM2 c9 fun M10 IM10 GM10 TM10 => ?_)
  have FM10 := Fr.trans FM2 GM10 (rfl)
  have QM10 : Iv gTT M10 := ⟨IM10.1, IM10.2.1⟩
  have tr11 : o_i (M10 294) 29 = o_i (M2 294) 29 := IM10.2.2.1
  have tr12 : o_i (M10 294) 33 = o_i (M2 294) 33 := IM10.2.2.2.1
  have tr13 : o_i (M10 294) 35 = o_i (M2 294) 35 := IM10.2.2.2.2.1
  have tr14 : o_i (M10 294) 37 = o_i (M2 294) 37 := IM10.2.2.2.2.2.1
  have srM10 : o_a (M10 298) = o_a (M2 298) := IM10.2.2.2.2.2.2.1
  have skM10 : o_a (M10 305) = o_a (M2 305) := IM10.2.2.2.2.2.2.2
  refine PW.aload_n q_267_12 rfl ?_
  refine PW.cI q_267_13 (by decide) fun c15 hc15 => ?_
  refine PW.pI q_267_14 (Or.inl t_ft_267_161) gF_40_15 gP_40_15 kd_294 Stab0 QM10 (by decide) rfl (n_lo _) (n_hi _) fun M16 IM16 fM16 UM16 => ?_
  have FM16 := Fr.pu FM10 UM16.1 kd_294 (rfl : List.contains [40, 42, 44, 51] 40 = true)
  have tr17 := UM16.i (c := 294) (k := 33) (Or.inr (by decide))
  have tr18 := UM16.i (c := 294) (k := 35) (Or.inr (by decide))
  have tr19 := UM16.i (c := 294) (k := 37) (Or.inr (by decide))
  have tr20 := UM16.i (c := 294) (k := 34) (Or.inr (by decide))
  have tr21 := UM16.i (c := 294) (k := 4) (Or.inr (by decide))
  have tr22 := UM16.i (c := 294) (k := 11) (Or.inr (by decide))
  refine PW.aload_n q_267_17 rfl ?_
  refine PW.cI q_267_18 (by decide) fun c23 hc23 => ?_
  refine PW.pT q_267_19 (Or.inl t_ft_267_382) gF_40_33 gP_40_33 kd_294 IM16 (by decide) rfl (by omega) (by omega) fun M24 IM24 fM24 UM24 => ?_
  have FM24 := Fr.pu FM16 UM24.1 kd_294 (rfl : List.contains [40, 42, 44, 51] 40 = true)
  have tr25 := o_i_of fM24
  have tr26 := UM24.i (c := 294) (k := 35) (Or.inr (by decide))
  have tr27 := UM24.i (c := 294) (k := 37) (Or.inr (by decide))
  have tr28 := UM24.i (c := 294) (k := 34) (Or.inr (by decide))
  have tr29 := UM24.i (c := 294) (k := 4) (Or.inr (by decide))
  have tr30 := UM24.i (c := 294) (k := 11) (Or.inr (by decide))
  refine PW.aload_n q_267_22 rfl ?_
  refine PW.cI q_267_23 (by decide) fun c31 hc31 => ?_
  refine PW.pI q_267_24 (Or.inl t_ft_267_398) gF_40_34 gP_40_34 kd_294 Stab0 IM24 (by decide) rfl (by omega) (by omega) fun M32 IM32 fM32 UM32 => ?_
  have FM32 := Fr.pu FM24 UM32.1 kd_294 (rfl : List.contains [40, 42, 44, 51] 40 = true)
  have tr33 := UM32.i (c := 294) (k := 33) (Or.inr (by decide))
  have tr34 := UM32.i (c := 294) (k := 35) (Or.inr (by decide))
  have tr35 := UM32.i (c := 294) (k := 37) (Or.inr (by decide))
  have tr36 := o_i_of fM32
  have tr37 := UM32.i (c := 294) (k := 4) (Or.inr (by decide))
  have tr38 := UM32.i (c := 294) (k := 11) (Or.inr (by decide))
  refine PW.aload_n q_267_27 rfl ?_
  refine PW.cI q_267_28 (by decide) fun c39 hc39 => ?_
  refine PW.pT q_267_29 (Or.inl t_ft_267_385) gF_40_35 gP_40_35 kd_294 IM32 (by decide) rfl (by omega) (by omega) fun M40 IM40 fM40 UM40 => ?_
  have FM40 := Fr.pu FM32 UM40.1 kd_294 (rfl : List.contains [40, 42, 44, 51] 40 = true)
  have tr41 := UM40.i (c := 294) (k := 33) (Or.inr (by decide))
  have tr42 := o_i_of fM40
  have tr43 := UM40.i (c := 294) (k := 37) (Or.inr (by decide))
  have tr44 := UM40.i (c := 294) (k := 34) (Or.inr (by decide))
  have tr45 := UM40.i (c := 294) (k := 4) (Or.inr (by decide))
  have tr46 := UM40.i (c := 294) (k := 11) (Or.inr (by decide))
  refine PW.aload_n q_267_32 rfl ?_
  refine PW.cI q_267_33 (by decide) fun c47 hc47 => ?_
  refine PW.pI q_267_34 (Or.inl t_ft_267_392) gF_40_36 gP_40_36 kd_294 Stab0 IM40 (by decide) rfl (n_lo _) (n_hi _) fun M48 IM48 fM48 UM48 => ?_
  have FM48 := Fr.pu FM40 UM48.1 kd_294 (rfl : List.contains [40, 42, 44, 51] 40 = true)
  have tr49 := UM48.i (c := 294) (k := 33) (Or.inr (by decide))
  have tr50 := UM48.i (c := 294) (k := 35) (Or.inr (by decide))
  have tr51 := UM48.i (c := 294) (k := 37) (Or.inr (by decide))
  have tr52 := UM48.i (c := 294) (k := 34) (Or.inr (by decide))
  have tr53 := UM48.i (c := 294) (k := 4) (Or.inr (by decide))
  have tr54 := UM48.i (c := 294) (k := 11) (Or.inr (by decide))
  refine PW.aload_n q_267_37 rfl ?_
  refine PW.cI q_267_38 (by decide) fun c55 hc55 => ?_
  refine PW.pT q_267_39 (Or.inl t_ft_267_401) gF_40_37 gP_40_37 kd_294 IM48 (by decide) rfl (by omega) (by omega) fun M56 IM56 fM56 UM56 => ?_
  have FM56 := Fr.pu FM48 UM56.1 kd_294 (rfl : List.contains [40, 42, 44, 51] 40 = true)
  have tr57 := UM56.i (c := 294) (k := 33) (Or.inr (by decide))
  have tr58 := UM56.i (c := 294) (k := 35) (Or.inr (by decide))
  have tr59 := o_i_of fM56
  have tr60 := UM56.i (c := 294) (k := 34) (Or.inr (by decide))
  have tr61 := UM56.i (c := 294) (k := 4) (Or.inr (by decide))
  have tr62 := UM56.i (c := 294) (k := 11) (Or.inr (by decide))
  refine PW.aload_n q_267_42 rfl ?_
  refine PW.cV (as := []) (rest := []) q_267_43 t_mv_267_173 kd_294 IM56.1 (by decide) rfl (by decide) rfl rfl (Nat.le_of_ble_eq_true rfl) (Nat.le_of_ble_eq_true rfl) (by decide) (by decide) ?_
  have SM56 : Iv (gSv M56) M56 := gSv.of IM56
  refine PW.up (by decide) (c_X12_go (gSv M56) (StabSv M56) G _ M56 SM56  fun M63 IM63 GM63 PM63 TM63 => ?_)
  have FM63 := Fr.trans FM56 GM63 (rfl)
  obtain ⟨PaM63, PdM63, PbM63, PeM63⟩ := PM63
  have QM63 : Iv gTT M63 := ⟨IM63.1, IM63.2.1⟩
  have tr64 : o_i (M63 294) 29 = o_i (M56 294) 29 := IM63.2.2.1
  have tr65 : o_i (M63 294) 33 = o_i (M56 294) 33 := IM63.2.2.2.1
  have tr66 : o_i (M63 294) 35 = o_i (M56 294) 35 := IM63.2.2.2.2.1
  have tr67 : o_i (M63 294) 37 = o_i (M56 294) 37 := IM63.2.2.2.2.2.1
  have srM63 : o_a (M63 298) = o_a (M56 298) := IM63.2.2.2.2.2.2.1
  have skM63 : o_a (M63 305) = o_a (M56 305) := IM63.2.2.2.2.2.2.2
  refine PW.cI q_267_46 (by decide) fun c68 hc68 => ?_
  refine PW.istore_n q_267_47 (by decide) ?_
  have L267_48_69 : ∀ (n : Nat) (ML267_48_69 : pM) (v70 : Int32), Iv (gTT) ML267_48_69 → Fr [40, 42, 44, 51] M ML267_48_69 → 0 ≤ v70.toInt → v70.toInt ≤ 1 → gSm ML267_48_69 → 2 * (940 - o_i (ML267_48_69 294) 4) + 2 ≤ (n : Int) ∨ ((o_i (ML267_48_69 294) 11 = 0 ∨ o_i (ML267_48_69 294) 11 = 4) ∧ 2 * (940 - o_i (ML267_48_69 294) 4) + 1 ≤ (n : Int)) ∨ v70.toInt = 0 → v70.toInt = 1 ∨ (v70.toInt = 0 ∧ o_i (ML267_48_69 294) 37 = 1 ∧ o_i (ML267_48_69 294) 35 = 0) → gLz ML267_48_69 → PW G false 3 267 (p_mc 267) (p_msl 267) Kr 48 [(0, .ref 294), (1, .int v70)] [] 311 ML267_48_69 0 0 := by
    intro n
    induction n using Nat.strongRecOn with
    | ind n ih_L267_48_69 =>
    intro ML267_48_69 v70 IML267_48_69 FML267_48_69 hbL267_48_690 hbL267_48_691 hbL267_48_692 hbL267_48_693 hbL267_48_694 hbL267_48_695 
    refine PW.iload_n q_267_48 rfl ?_
    have hp94 := g_p940 IML267_48_69.1
    refine PW.jz_eq q_267_49 rfl (fun h71 => ?_) (fun h71 => ?_)
    · skip
      have hx132 : o_i (ML267_48_69 294) 37 = 1 ∧ o_i (ML267_48_69 294) 35 = 0 := by omega
      have w72 : gSn (o_i (ML267_48_69 294) 33) (o_i (ML267_48_69 294) 35) 1 (o_i (ML267_48_69 294) 34) (o_a (ML267_48_69 298)) (o_a (ML267_48_69 305)) := by have q := hbL267_48_692; unfold gSm at q; rw [show o_i (ML267_48_69 294) 37 = 1 from by omega] at q; exact q
      have hs73 : o_i (ML267_48_69 294) 33 + o_i (ML267_48_69 294) 35 + o_i (ML267_48_69 294) 37 ≤ 2 * o_i (ML267_48_69 294) 34 := hbL267_48_692.2.2
      have ho73 := g_on20 IML267_48_69.1
      have hc73 := g_co IML267_48_69.1
      have X74 : Iv (gX 296) ML267_48_69 := ⟨IML267_48_69.1, gX.of IML267_48_69.2⟩
      refine PW.aload_n q_267_132 rfl ?_
      refine PW.gR 296 q_267_133 (Or.inl t_ft_267_33) gF_40_6 kd_294 X74.1 (by decide) rfl ?_
      refine PW.cS q_267_136 (by decide) fun c75 hc75 => ?_
      refine PW.aload_n q_267_139 rfl ?_
      refine PW.gI q_267_140 (Or.inl t_ft_267_382) gF_40_33 kd_294 X74.1 (by decide) fun x76 fx76 hx76 kx76 => ?_
      have trx76 := o_i_of fx76
      refine PW.wB q_267_143 gA_42 kd_296 X74.1 (by decide) (by omega) (by omega) (by rw [show c75.toInt.toNat = 216 from by omega]; exact ⟨by show (0 : Int) ≤ _; omega, by show _ ≤ (40 : Int); omega⟩) fun M77 JM77 fM77 UM77 => ?_
      have IM77 : Iv (gX 296) M77 := ⟨JM77, gX.up X74.2 UM77.1 (by decide)⟩
      have FM77 := Fr.pu FML267_48_69 UM77.1 kd_296 (rfl : List.contains [40, 42, 44, 51] 42 = true)
      have tr78 : o_i (M77 294) 33 = o_i (ML267_48_69 294) 33 := by rw [UM77.1 294 (g_ne kd_294 kd_296 (by decide))]
      have tr79 : o_i (M77 294) 35 = o_i (ML267_48_69 294) 35 := by rw [UM77.1 294 (g_ne kd_294 kd_296 (by decide))]
      have tr80 : o_i (M77 294) 37 = o_i (ML267_48_69 294) 37 := by rw [UM77.1 294 (g_ne kd_294 kd_296 (by decide))]
      have tr81 : o_i (M77 294) 34 = o_i (ML267_48_69 294) 34 := by rw [UM77.1 294 (g_ne kd_294 kd_296 (by decide))]
      have tr82 : o_i (M77 294) 4 = o_i (ML267_48_69 294) 4 := by rw [UM77.1 294 (g_ne kd_294 kd_296 (by decide))]
      have tr83 : o_i (M77 294) 11 = o_i (ML267_48_69 294) 11 := by rw [UM77.1 294 (g_ne kd_294 kd_296 (by decide))]
      refine PW.cI q_267_144 (by decide) fun c84 hc84 => ?_
      refine PW.istore_n q_267_145 (by decide) ?_
      have L267_146_85 : ∀ (n : Nat) (ML267_146_85 : pM) (v86 : Int32), Iv (gX 296) ML267_146_85 → Fr [40, 42, 44, 51] M ML267_146_85 → 0 ≤ v86.toInt → v86.toInt ≤ 120 → g_st (fun i => o_a (ML267_146_85 296) (33 + i)) → (o_a (ML267_146_85 296) 216).toInt = o_i (ML267_146_85 294) 33 → gcp ML267_146_85 296 217 298 0 v86.toInt → ML267_146_85 294 = ML267_48_69 294 → ML267_146_85 298 = ML267_48_69 298 → gLz ML267_146_85 → (120 - v86.toInt).toNat = n → PW G false 3 267 (p_mc 267) (p_msl 267) Kr 146 [(0, .ref 294), (1, .int v70), (2, .int v86)] [] 311 ML267_146_85 0 0 := by
        intro n
        induction n using Nat.strongRecOn with
        | ind n ih_L267_146_85 =>
        intro ML267_146_85 v86 IML267_146_85 FML267_146_85 hbL267_146_850 hbL267_146_851 hbL267_146_852 hbL267_146_853 hbL267_146_854 hbL267_146_855 hbL267_146_856 hbL267_146_857 hmL267_146_85
        refine PW.iload_n q_267_146 rfl ?_
        refine PW.cI q_267_147 (by decide) fun c87 hc87 => ?_
        refine PW.aload_n q_267_148 rfl ?_
        refine PW.gI q_267_149 (Or.inl t_ft_267_382) gF_40_33 kd_294 IML267_146_85.1 (by decide) fun x88 fx88 hx88 kx88 => ?_
        have trx88 := o_i_of fx88
        refine PW.mulN q_267_152 (3) (by omega) x88 (fun h => n_eq.mpr (by omega)) (fun h => n_eq.mpr (by omega)) (by omega) (by omega) fun x89 hx89 => ?_
        refine PW.jc_ge q_267_153 rfl (fun h90 => ?_) (fun h90 => ?_)
        · skip
          have w33 : o_i (ML267_146_85 294) 33 = o_i (ML267_48_69 294) 33 := by rw [hbL267_146_855]
          have X91 : Iv gTT ML267_146_85 := ⟨IML267_146_85.1, gX.e296 IML267_146_85.2 ⟨hbL267_146_852, by rw [hbL267_146_853, hbL267_146_855]; exact gSn.RP w72 (by omega) (by omega) (fun z hz => by have w := hbL267_146_854 z (by omega); rw [Nat.zero_add, hbL267_146_856] at w; exact w)⟩⟩
          refine PW.aload_n q_267_178 rfl ?_
          refine PW.gI q_267_179 (Or.inl t_ft_267_398) gF_40_34 kd_294 X91.1 (by decide) fun x92 fx92 hx92 kx92 => ?_
          have trx92 := o_i_of fx92
          refine PW.rI q_267_182 rfl (by decide) (by decide) ?_
          exact hK x92 ML267_146_85 X91 FML267_146_85 hbL267_146_857
        · skip
          refine PW.aload_n q_267_156 rfl ?_
          refine PW.gR 296 q_267_157 (Or.inl t_ft_267_33) gF_40_6 kd_294 IML267_146_85.1 (by decide) rfl ?_
          refine PW.cS q_267_160 (by decide) fun c93 hc93 => ?_
          refine PW.iload_n q_267_163 rfl ?_
          refine PW.addN q_267_164 (by omega) (by omega) fun x94 hx94 => ?_
          refine PW.aload_n q_267_165 rfl ?_
          refine PW.gR 298 q_267_166 (Or.inl t_ft_267_40) gF_40_8 kd_294 IML267_146_85.1 (by decide) rfl ?_
          refine PW.iload_n q_267_169 rfl ?_
          refine PW.aH q_267_170 gA_44 kd_298 IML267_146_85.1 (by decide) (by omega) (by omega) fun x95 fx95 => ?_
          refine PW.wB q_267_171 gA_42 kd_296 IML267_146_85.1 (by decide) (by omega) (by omega) (as217 (by omega)) fun M96 JM96 fM96 UM96 => ?_
          have IM96 : Iv (gX 296) M96 := ⟨JM96, gX.up IML267_146_85.2 UM96.1 (by decide)⟩
          have FM96 := Fr.pu FML267_146_85 UM96.1 kd_296 (rfl : List.contains [40, 42, 44, 51] 42 = true)
          have tr97 : o_i (M96 294) 33 = o_i (ML267_146_85 294) 33 := by rw [UM96.1 294 (g_ne kd_294 kd_296 (by decide))]
          have tr98 : o_i (M96 294) 35 = o_i (ML267_146_85 294) 35 := by rw [UM96.1 294 (g_ne kd_294 kd_296 (by decide))]
          have tr99 : o_i (M96 294) 37 = o_i (ML267_146_85 294) 37 := by rw [UM96.1 294 (g_ne kd_294 kd_296 (by decide))]
          have tr100 : o_i (M96 294) 34 = o_i (ML267_146_85 294) 34 := by rw [UM96.1 294 (g_ne kd_294 kd_296 (by decide))]
          have tr101 : o_i (M96 294) 4 = o_i (ML267_146_85 294) 4 := by rw [UM96.1 294 (g_ne kd_294 kd_296 (by decide))]
          have tr102 : o_i (M96 294) 11 = o_i (ML267_146_85 294) 11 := by rw [UM96.1 294 (g_ne kd_294 kd_296 (by decide))]
          refine PW.incN q_267_172 rfl (by decide) (by decide) (by omega) (by omega) fun x103 hx103 => ?_
          refine PW.goto q_267_175 rfl ?_
          refine PW.lvS (lk1 rfl (lk1 rfl (lk1 rfl lk0))) (ih_L267_146_85 _ ?_ M96 x103 IM96 FM96 (by omega) (by omega) (gst_up hbL267_146_852 UM96 (by omega)) (by rw [UM96.2 216 (by omega), UM96.1 294 (by decide)]; exact hbL267_146_853) (gcp.step hbL267_146_854 UM96 (by omega) (by decide) fM96 (by omega) fx95 (by omega) (by omega)) ((UM96.1 294 (by decide)).trans hbL267_146_855) ((UM96.1 298 (by decide)).trans hbL267_146_856) ((congrArg (fun e => o_i e 2) (UM96.1 294 (by decide))).trans hbL267_146_857) rfl)
          omega
      exact PW.lvS (lk1 rfl (lk1 rfl (lk1 rfl lk0))) (L267_146_85 _ M77 c84 IM77 FM77 (by omega) (by omega) (gst_up (IML267_48_69.2.2.1).1 UM77 (by omega)) (by have e : c75.toInt.toNat = 216 := (by omega); rw [← e, fM77, UM77.1 294 (by decide)]; omega) (gcp.zero (by omega)) (UM77.1 294 (by decide)) (UM77.1 298 (by decide)) ((congrArg (fun e => o_i e 2) (UM77.1 294 (by decide))).trans hbL267_48_695) rfl)
    · skip
      refine PW.aload_n q_267_52 rfl ?_
      refine PW.gI q_267_53 (Or.inl t_ft_267_401) gF_40_37 kd_294 IML267_48_69.1 (by decide) fun x104 fx104 hx104 kx104 => ?_
      have trx104 := o_i_of fx104
      refine PW.jz_eq q_267_56 rfl (fun h105 => ?_) (fun h105 => ?_)
      · skip
        refine PW.aload_n q_267_101 rfl ?_
        refine PW.gE q_267_102 (Or.inl t_ft_267_401) gF_40_37 kd_294 IML267_48_69.1 (by decide) fx104 ?_
        have tr106 := o_i_of fx104
        refine PW.jz_eq q_267_105 rfl (fun h107 => ?_) (fun h107 => False.elim (by omega))
        refine PW.aload_n q_267_118 rfl ?_
        refine PW.cV (as := []) (rest := []) q_267_119 t_mv_267_413 kd_294 IML267_48_69.1 (by decide) rfl (by decide) rfl rfl (Nat.le_of_ble_eq_true rfl) (Nat.le_of_ble_eq_true rfl) (by decide) (by decide) ?_
        refine PW.up (by decide) (c_X12_operand G _ ML267_48_69 IML267_48_69 hbL267_48_692 (by omega) fun x109 M108 IM108 GM108 hx109 kx109 PM108 TM108 => ?_)
        have FM108 := Fr.trans FML267_48_69 GM108 (rfl)
        refine PW.jz_ne q_267_122 rfl (fun h110 => ?_) (fun h110 => ?_)
        · skip
          obtain ⟨se1, se2, se3, se4⟩ := PM108.resolve_left (by omega)
          have sq := g_p940 IM108.1
          have hn1 : 1 ≤ n := by omega
          refine PW.lvS (lk1 rfl (lk1 rfl lk0)) (ih_L267_48_69 (n - 1) ?_ M108 v70 IM108 FM108 (by omega) (by omega) se1 (by omega) (by omega) (TM108.trans hbL267_48_695))
          omega
        · skip
          refine PW.cI q_267_125 (by decide) fun c111 hc111 => ?_
          refine PW.aload_n q_267_126 rfl ?_
          refine PW.gI q_267_127 (Or.inl t_ft_267_164) gF_40_16 kd_294 IM108.1 (by decide) fun x112 fx112 hx112 kx112 => ?_
          clear hx112 kx112
          refine PW.subN q_267_130 (by have := n_lo x112; have := n_hi x112; omega) (by have := n_lo x112; have := n_hi x112; omega) fun x113 hx113 => ?_
          refine PW.rI q_267_131 rfl (by decide) (by decide) ?_
          exact hK x113 M108 IM108 FM108 (TM108.trans hbL267_48_695)
      · skip
        refine PW.aload_n q_267_59 rfl ?_
        refine PW.gI q_267_60 (Or.inl t_ft_267_144) gF_40_11 kd_294 IML267_48_69.1 (by decide) fun x114 fx114 hx114 kx114 => ?_
        have trx114 := o_i_of fx114
        clear hx114 kx114
        refine PW.jz_ne q_267_63 rfl (fun h115 => ?_) (fun h115 => ?_)
        · skip
          refine PW.aload_n q_267_101 rfl ?_
          refine PW.gE q_267_102 (Or.inl t_ft_267_401) gF_40_37 kd_294 IML267_48_69.1 (by decide) fx104 ?_
          have tr116 := o_i_of fx104
          refine PW.jz_eq q_267_105 rfl (fun h117 => False.elim (by omega)) (fun h117 => ?_)
          refine PW.aload_n q_267_108 rfl ?_
          refine PW.cV (as := []) (rest := []) q_267_109 t_mv_267_410 kd_294 IML267_48_69.1 (by decide) rfl (by decide) rfl rfl (Nat.le_of_ble_eq_true rfl) (Nat.le_of_ble_eq_true rfl) (by decide) (by decide) ?_
          refine PW.up (by decide) (c_X12_behind G _ ML267_48_69 IML267_48_69 hbL267_48_692 (by omega) fun x119 M118 IM118 GM118 hx119 kx119 PM118 TM118 => ?_)
          have FM118 := Fr.trans FML267_48_69 GM118 (rfl)
          refine PW.jz_ne q_267_112 rfl (fun h120 => ?_) (fun h120 => ?_)
          · skip
            obtain ⟨se1, se2, se3, se4⟩ := PM118.resolve_left (by omega)
            have sq := g_p940 IM118.1
            have hn1 : 1 ≤ n := by omega
            refine PW.lvS (lk1 rfl (lk1 rfl lk0)) (ih_L267_48_69 (n - 1) ?_ M118 v70 IM118 FM118 (by omega) (by omega) se1 (by omega) (by omega) (TM118.trans hbL267_48_695))
            omega
          · skip
            refine PW.goto q_267_115 rfl ?_
            refine PW.cI q_267_125 (by decide) fun c121 hc121 => ?_
            refine PW.aload_n q_267_126 rfl ?_
            refine PW.gI q_267_127 (Or.inl t_ft_267_164) gF_40_16 kd_294 IM118.1 (by decide) fun x122 fx122 hx122 kx122 => ?_
            clear hx122 kx122
            refine PW.subN q_267_130 (by have := n_lo x122; have := n_hi x122; omega) (by have := n_lo x122; have := n_hi x122; omega) fun x123 hx123 => ?_
            refine PW.rI q_267_131 rfl (by decide) (by decide) ?_
            exact hK x123 M118 IM118 FM118 (TM118.trans hbL267_48_695)
        · skip
          refine PW.aload_n q_267_66 rfl ?_
          refine PW.cV (as := []) (rest := []) q_267_67 t_mv_267_404 kd_294 IML267_48_69.1 (by decide) rfl (by decide) rfl rfl (Nat.le_of_ble_eq_true rfl) (Nat.le_of_ble_eq_true rfl) (by decide) (by decide) ?_
          refine PW.up (by decide) (c_X12_nots G _ ML267_48_69 IML267_48_69 hbL267_48_692 (by omega) fun M124 IM124 GM124 PM124 TM124 => ?_)
          have FM124 := Fr.trans FML267_48_69 GM124 (rfl)
          obtain ⟨NaM124, NbM124, NcM124, NeM124, NfM124⟩ := PM124
          refine PW.aload_n q_267_70 rfl ?_
          refine PW.cB q_267_71 (by decide) fun c125 hc125 => ?_
          refine PW.cV (as := [_]) (rest := []) q_267_73 t_mv_267_407 kd_294 IM124.1 (by decide) rfl (by decide) rfl rfl (Nat.le_of_ble_eq_true rfl) (Nat.le_of_ble_eq_true rfl) (by decide) (by decide) ?_
          refine PW.up (by decide) (c_X12_joins G _ M124 IM124 c125 NaM124 (by omega) fun M126 IM126 GM126 PM126 TM126 => ?_)
          have FM126 := Fr.trans FM124 GM126 (rfl)
          obtain ⟨NaM126, NbM126, NcM126, NeM126, NfM126, NgM126⟩ := PM126
          refine PW.aload_n q_267_76 rfl ?_
          refine PW.gI q_267_77 (Or.inl t_ft_267_385) gF_40_35 kd_294 IM126.1 (by decide) fun x127 fx127 hx127 kx127 => ?_
          have trx127 := o_i_of fx127
          refine PW.jz_le q_267_80 rfl (fun h128 => ?_) (fun h128 => ?_)
          · skip
            refine PW.cI q_267_96 (by decide) fun c129 hc129 => ?_
            refine PW.istore_n q_267_97 (by decide) ?_
            refine PW.goto q_267_98 rfl ?_
            refine PW.lvS (lk1 rfl (lk1 rfl lk0)) (ih_L267_48_69 (n - 1) ?_ M126 c129 IM126 FM126 (by omega) (by omega) NaM126 (by omega) (by omega) (TM126.1.trans (TM124.1.trans hbL267_48_695)))
            omega
          · skip
            refine PW.aload_n q_267_83 rfl ?_
            refine PW.cI q_267_84 (by decide) fun c130 hc130 => ?_
            refine PW.cV (as := [_]) (rest := []) q_267_85 t_mv_267_170 kd_294 IM126.1 (by decide) rfl (by decide) rfl rfl (Nat.le_of_ble_eq_true rfl) (Nat.le_of_ble_eq_true rfl) (by decide) (by decide) ?_
            have SM126 : Iv (gSv M126) M126 := gSv.of IM126
            refine PW.up (by decide) (c_X12_bad (gSv M126) (StabSv M126) G _ M126 SM126 c130 fun x132 M131 IM131 GM131 hx132 kx132 PM131 TM131 => ?_)
            have FM131 := Fr.trans FM126 GM131 (rfl)
            have QM131 : Iv gTT M131 := ⟨IM131.1, IM131.2.1⟩
            have tr133 : o_i (M131 294) 29 = o_i (M126 294) 29 := IM131.2.2.1
            have tr134 : o_i (M131 294) 33 = o_i (M126 294) 33 := IM131.2.2.2.1
            have tr135 : o_i (M131 294) 35 = o_i (M126 294) 35 := IM131.2.2.2.2.1
            have tr136 : o_i (M131 294) 37 = o_i (M126 294) 37 := IM131.2.2.2.2.2.1
            have srM131 : o_a (M131 298) = o_a (M126 298) := IM131.2.2.2.2.2.2.1
            have skM131 : o_a (M131 305) = o_a (M126 305) := IM131.2.2.2.2.2.2.2
            refine PW.pop q_267_88 rfl ?_
            refine PW.cI q_267_89 (by decide) fun c137 hc137 => ?_
            refine PW.aload_n q_267_90 rfl ?_
            refine PW.gI q_267_91 (Or.inl t_ft_267_164) gF_40_16 kd_294 QM131.1 (by decide) fun x138 fx138 hx138 kx138 => ?_
            clear hx138 kx138
            refine PW.subN q_267_94 (by have := n_lo x138; have := n_hi x138; omega) (by have := n_lo x138; have := n_hi x138; omega) fun x139 hx139 => ?_
            refine PW.rI q_267_95 rfl (by decide) (by decide) ?_
            exact hK x139 M131 QM131 FM131 (TM131.trans (TM126.1.trans (TM124.1.trans hbL267_48_695)))
  have hp94 := g_p940 QM63.1
  exact PW.lvS (lk1 rfl (lk1 rfl lk0)) (L267_48_69 (2 * (940 - o_i (M63 294) 4) + 2).toNat M63 c68 QM63 FM63 (by omega) (by omega) (gSm.of gSn.zero (by omega) (by omega) (by omega) (by omega) rfl rfl) (by omega) (by omega) (TM63.1.trans ((UM56.i (c := 294) (k := 2) (Or.inr (by decide))).trans ((UM48.i (c := 294) (k := 2) (Or.inr (by decide))).trans ((UM40.i (c := 294) (k := 2) (Or.inr (by decide))).trans ((UM32.i (c := 294) (k := 2) (Or.inr (by decide))).trans ((UM24.i (c := 294) (k := 2) (Or.inr (by decide))).trans ((UM16.i (c := 294) (k := 2) (Or.inr (by decide))).trans TM10.1))))))))
theorem c_X12_isSought (V : pM → Prop) (hV : Stab V) (G : pG) (Kr : pK) (M : pM) (I : Iv V M) (a1 : Int32) (hl_a1 : 0 ≤ a1.toInt) (hh_a1 : a1.toInt ≤ 5) (hK : ∀ (x : Int32) (M1 : pM), Iv V M1 → Fr [] M M1 → 0 ≤ x.toInt → x.toInt ≤ 1 → ((gLq M1 M) ∧ gHq M1 M) → Kr.1 (some (.int x)) 311 M1) : PW G false 0 268 (p_mc 268) (p_msl 268) Kr 0 (lv_args 0 [.ref 294, .int a1]) [] 311 M 0 0 := by
  have F : Fr [] M M := Fr.refl
  refine PW.aload_n q_268_0 rfl ?_
  refine PW.gR 296 q_268_1 (Or.inl t_ft_268_33) gF_40_6 kd_294 I.1 (by decide) rfl ?_
  refine PW.cI q_268_4 (by decide) fun c1 hc1 => ?_
  refine PW.aI q_268_5 gA_42 kd_296 I.1 (by decide) gB_42_1_1 (by decide) (by omega) (by omega) fun x2 fx2 hx2 kx2 => ?_
  have J22_4 : ∀ (MJ22_4 : pM), Iv (V) MJ22_4 → Fr [] M MJ22_4 → (gLq MJ22_4 M ∧ gHq MJ22_4 M) → PW G false 0 268 (p_mc 268) (p_msl 268) Kr 22 [(0, .ref 294), (1, .int a1)] [] 311 MJ22_4 0 0 := by
    intro MJ22_4  IMJ22_4 FMJ22_4 hbJ22_40
    refine PW.aload_n q_268_22 rfl ?_
    refine PW.gR 296 q_268_23 (Or.inl t_ft_268_33) gF_40_6 kd_294 IMJ22_4.1 (by decide) rfl ?_
    refine PW.cI q_268_26 (by decide) fun c5 hc5 => ?_
    refine PW.aI q_268_27 gA_42 kd_296 IMJ22_4.1 (by decide) gB_42_1_1 (by decide) (by omega) (by omega) fun x6 fx6 hx6 kx6 => ?_
    refine PW.cI q_268_28 (by decide) fun c7 hc7 => ?_
    refine PW.jc_le q_268_29 rfl (fun h8 => ?_) (fun h8 => ?_)
    · skip
      refine PW.cI q_268_49 (by decide) fun c9 hc9 => ?_
      refine PW.rZ q_268_50 rfl (by omega) (by omega) (by decide) (by decide) ?_
      exact hK c9 MJ22_4 IMJ22_4 FMJ22_4 (by omega) (by omega) ⟨hbJ22_40.1, hbJ22_40.2⟩
    · skip
      refine PW.aload_n q_268_32 rfl ?_
      refine PW.gR 296 q_268_33 (Or.inl t_ft_268_33) gF_40_6 kd_294 IMJ22_4.1 (by decide) rfl ?_
      refine PW.cB q_268_36 (by decide) fun c10 hc10 => ?_
      refine PW.aI q_268_38 gA_42 kd_296 IMJ22_4.1 (by decide) gB_42_83_83 (by decide) (by omega) (by omega) fun x11 fx11 hx11 kx11 => ?_
      refine PW.iload_n q_268_39 rfl ?_
      refine PW.cI q_268_40 (by decide) fun c12 hc12 => ?_
      refine PW.addN q_268_41 (by omega) (by omega) fun x13 hx13 => ?_
      refine PW.jc_ne q_268_42 rfl (fun h14 => ?_) (fun h14 => ?_)
      · skip
        refine PW.cI q_268_49 (by decide) fun c15 hc15 => ?_
        refine PW.rZ q_268_50 rfl (by omega) (by omega) (by decide) (by decide) ?_
        exact hK c15 MJ22_4 IMJ22_4 FMJ22_4 (by omega) (by omega) ⟨hbJ22_40.1, hbJ22_40.2⟩
      · skip
        refine PW.cI q_268_45 (by decide) fun c16 hc16 => ?_
        refine PW.goto q_268_46 rfl ?_
        refine PW.rZ q_268_50 rfl (by omega) (by omega) (by decide) (by decide) ?_
        exact hK c16 MJ22_4 IMJ22_4 FMJ22_4 (by omega) (by omega) ⟨hbJ22_40.1, hbJ22_40.2⟩
  refine PW.jz_le q_268_6 rfl (fun h3 => ?_) (fun h3 => ?_)
  · skip
    exact PW.lvS (lk1 rfl (lk1 rfl lk0)) (J22_4 M  I F ⟨rfl, gHq.refl⟩)
  · skip
    refine PW.aload_n q_268_9 rfl ?_
    refine PW.gR 296 q_268_10 (Or.inl t_ft_268_33) gF_40_6 kd_294 I.1 (by decide) rfl ?_
    refine PW.cB q_268_13 (by decide) fun c17 hc17 => ?_
    refine PW.aI q_268_15 gA_42 kd_296 I.1 (by decide) gB_42_82_82 (by decide) (by omega) (by omega) fun x18 fx18 hx18 kx18 => ?_
    refine PW.iload_n q_268_16 rfl ?_
    refine PW.cI q_268_17 (by decide) fun c19 hc19 => ?_
    refine PW.addN q_268_18 (by omega) (by omega) fun x20 hx20 => ?_
    refine PW.jc_eq q_268_19 rfl (fun h21 => ?_) (fun h21 => ?_)
    · skip
      refine PW.cI q_268_45 (by decide) fun c22 hc22 => ?_
      refine PW.goto q_268_46 rfl ?_
      refine PW.rZ q_268_50 rfl (by omega) (by omega) (by decide) (by decide) ?_
      exact hK c22 M I F (by omega) (by omega) ⟨rfl, gHq.refl⟩
    · skip
      exact PW.lvS (lk1 rfl (lk1 rfl lk0)) (J22_4 M  I F ⟨rfl, gHq.refl⟩)
theorem c_X12_isLeaf (V : pM → Prop) (hV : Stab V) (G : pG) (Kr : pK) (M : pM) (I : Iv V M) (a1 : Int32) (a2 : Int32) (a3 : Int32) (a4 : Int32) (hl_a1 : 0 ≤ a1.toInt) (hh_a1 : a1.toInt ≤ 5) (hp_0 : a2.toInt ≠ 3 ∨ (0 ≤ a4.toInt ∧ a4.toInt ≤ 5)) (hK : ∀ (x : Int32) (M1 : pM), Iv V M1 → Fr [] M M1 → 0 ≤ x.toInt → x.toInt ≤ 1 → ((gLq M1 M) ∧ gHq M1 M) → Kr.1 (some (.int x)) 311 M1) : PW G false 2 269 (p_mc 269) (p_msl 269) Kr 0 (lv_args 0 [.ref 294, .int a1, .int a2, .int a3, .int a4]) [] 311 M 0 0 := by
  have F : Fr [] M M := Fr.refl
  refine PW.iload_n q_269_0 rfl ?_
  have h1 : a2.toInt = 0 ∨ a2.toInt = 1 ∨ a2.toInt = 2 ∨ a2.toInt = 3 ∨ (a2.toInt < 0 ∨ 3 < a2.toInt) := by omega
  rcases h1 with h1 | h1 | h1 | h1 | h1
  · skip
    refine PW.sw1 (0) h1 q_269_1 (by decide) (by decide) rfl rfl ?_
    refine PW.aload_n q_269_32 rfl ?_
    refine PW.gR 296 q_269_33 (Or.inl t_ft_269_33) gF_40_6 kd_294 I.1 (by decide) rfl ?_
    refine PW.cB q_269_36 (by decide) fun c2 hc2 => ?_
    refine PW.aH q_269_38 gA_42 kd_296 I.1 (by decide) (by omega) (by omega) fun x3 fx3 => ?_
    refine PW.iload_n q_269_39 rfl ?_
    refine PW.callS (as := [_, _]) (rest := []) q_269_40 t_ms_269_198 (by decide) rfl (Nat.le_of_ble_eq_true rfl) (Nat.le_of_ble_eq_true rfl) (by decide) (by decide) ?_
    refine PW.iload_n q_167_0 rfl ?_
    refine PW.iload_n q_167_1 rfl ?_
    refine PW.shrH q_167_2 fun x4 => ?_
    refine PW.cI q_167_3 (by decide) fun c5 hc5 => ?_
    refine PW.andP q_167_4 (by omega) fun x6 hx6 kx6 => ?_
    refine PW.cI q_167_5 (by decide) fun c7 hc7 => ?_
    refine PW.jc_ne q_167_6 rfl (fun h8 => ?_) (fun h8 => ?_)
    · skip
      refine PW.cI q_167_13 (by decide) fun c9 hc9 => ?_
      refine PW.rZ q_167_14 rfl (by omega) (by omega) (by decide) (by decide) ?_
      refine PW.jz_ne q_269_43 rfl (fun h10 => False.elim (by omega)) (fun h10 => ?_)
      refine PW.cI q_269_46 (by decide) fun c11 hc11 => ?_
      refine PW.goto q_269_47 rfl ?_
      refine PW.rZ q_269_51 rfl (by omega) (by omega) (by decide) (by decide) ?_
      exact hK c11 M I F (by omega) (by omega) ⟨rfl, gHq.refl⟩
    · skip
      refine PW.cI q_167_9 (by decide) fun c12 hc12 => ?_
      refine PW.goto q_167_10 rfl ?_
      refine PW.rZ q_167_14 rfl (by omega) (by omega) (by decide) (by decide) ?_
      refine PW.jz_ne q_269_43 rfl (fun h13 => ?_) (fun h13 => False.elim (by omega))
      refine PW.cI q_269_50 (by decide) fun c14 hc14 => ?_
      refine PW.rZ q_269_51 rfl (by omega) (by omega) (by decide) (by decide) ?_
      exact hK c14 M I F (by omega) (by omega) ⟨rfl, gHq.refl⟩
  · skip
    refine PW.sw1 (1) h1 q_269_1 (by decide) (by decide) rfl rfl ?_
    refine PW.aload_n q_269_52 rfl ?_
    refine PW.gR 296 q_269_53 (Or.inl t_ft_269_33) gF_40_6 kd_294 I.1 (by decide) rfl ?_
    refine PW.cB q_269_56 (by decide) fun c15 hc15 => ?_
    refine PW.aH q_269_58 gA_42 kd_296 I.1 (by decide) (by omega) (by omega) fun x16 fx16 => ?_
    refine PW.iload_n q_269_59 rfl ?_
    refine PW.callS (as := [_, _]) (rest := []) q_269_60 t_ms_269_198 (by decide) rfl (Nat.le_of_ble_eq_true rfl) (Nat.le_of_ble_eq_true rfl) (by decide) (by decide) ?_
    refine PW.iload_n q_167_0 rfl ?_
    refine PW.iload_n q_167_1 rfl ?_
    refine PW.shrH q_167_2 fun x17 => ?_
    refine PW.cI q_167_3 (by decide) fun c18 hc18 => ?_
    refine PW.andP q_167_4 (by omega) fun x19 hx19 kx19 => ?_
    refine PW.cI q_167_5 (by decide) fun c20 hc20 => ?_
    refine PW.jc_ne q_167_6 rfl (fun h21 => ?_) (fun h21 => ?_)
    · skip
      refine PW.cI q_167_13 (by decide) fun c22 hc22 => ?_
      refine PW.rZ q_167_14 rfl (by omega) (by omega) (by decide) (by decide) ?_
      refine PW.rZ q_269_63 rfl (by omega) (by omega) (by decide) (by decide) ?_
      exact hK c22 M I F (by omega) (by omega) ⟨rfl, gHq.refl⟩
    · skip
      refine PW.cI q_167_9 (by decide) fun c23 hc23 => ?_
      refine PW.goto q_167_10 rfl ?_
      refine PW.rZ q_167_14 rfl (by omega) (by omega) (by decide) (by decide) ?_
      refine PW.rZ q_269_63 rfl (by omega) (by omega) (by decide) (by decide) ?_
      exact hK c23 M I F (by omega) (by omega) ⟨rfl, gHq.refl⟩
  · skip
    refine PW.sw1 (2) h1 q_269_1 (by decide) (by decide) rfl rfl ?_
    refine PW.aload_n q_269_64 rfl ?_
    refine PW.iload_n q_269_65 rfl ?_
    refine PW.cV (as := [_]) (rest := []) q_269_66 t_mv_269_416 kd_294 I.1 (by decide) rfl (by decide) rfl rfl (Nat.le_of_ble_eq_true rfl) (Nat.le_of_ble_eq_true rfl) (by decide) (by decide) ?_
    refine PW.up (by decide) (c_X12_isSought (V) (hV) G _ M I a1 (by omega) (by omega) fun x25 M24 IM24 GM24 hx25 kx25 TM24 => ?_)
    have FM24 := Fr.trans F GM24 (rfl)
    refine PW.rZ q_269_69 rfl (by omega) (by omega) (by decide) (by decide) ?_
    exact hK x25 M24 IM24 FM24 (by omega) (by omega) ⟨(congrArg (fun e => o_i e 2) (Fr.at GM24 kd_294 rfl)), (gHq.refl.cg (Fr.at GM24 kd_296 rfl) (Fr.at GM24 kd_294 rfl))⟩
  · skip
    refine PW.sw1 (3) h1 q_269_1 (by decide) (by decide) rfl rfl ?_
    refine PW.aload_n q_269_70 rfl ?_
    refine PW.iload_n q_269_71 rfl ?_
    refine PW.iload q_269_72 rfl ?_
    refine PW.cV (as := [_, _]) (rest := []) q_269_74 t_mv_269_302 kd_294 I.1 (by decide) rfl (by decide) rfl rfl (Nat.le_of_ble_eq_true rfl) (Nat.le_of_ble_eq_true rfl) (by decide) (by decide) ?_
    refine PW.aload_n q_198_0 rfl ?_
    refine PW.gR 296 q_198_1 (Or.inl t_ft_198_33) gF_40_6 kd_294 I.1 (by decide) rfl ?_
    refine PW.cB q_198_4 (by decide) fun c26 hc26 => ?_
    refine PW.iload_n q_198_6 rfl ?_
    refine PW.addN q_198_7 (by omega) (by omega) fun x27 hx27 => ?_
    refine PW.aH q_198_8 gA_42 kd_296 I.1 (by decide) (by omega) (by omega) fun x28 fx28 => ?_
    refine PW.aload_n q_198_9 rfl ?_
    refine PW.gR 296 q_198_10 (Or.inl t_ft_198_33) gF_40_6 kd_294 I.1 (by decide) rfl ?_
    refine PW.cB q_198_13 (by decide) fun c29 hc29 => ?_
    refine PW.iload_n q_198_15 rfl ?_
    refine PW.addN q_198_16 (by have := n_lo a4; have := n_hi a4; omega) (by have := n_lo a4; have := n_hi a4; omega) fun x30 hx30 => ?_
    refine PW.aH q_198_17 gA_42 kd_296 I.1 (by decide) (by omega) (by omega) fun x31 fx31 => ?_
    refine PW.callS (as := [_, _]) (rest := []) q_198_18 t_ms_198_244 (by decide) rfl (Nat.le_of_ble_eq_true rfl) (Nat.le_of_ble_eq_true rfl) (by decide) (by decide) ?_
    refine PW.iload_n q_170_0 rfl ?_
    refine PW.iload_n q_170_1 rfl ?_
    refine PW.jc_ge q_170_2 rfl (fun h32 => ?_) (fun h32 => ?_)
    · skip
      refine PW.iload_n q_170_11 rfl ?_
      refine PW.iload_n q_170_12 rfl ?_
      refine PW.subH q_170_13 fun x33 => ?_
      refine PW.rI q_170_14 rfl (by decide) (by decide) ?_
      refine PW.rI q_198_21 rfl (by decide) (by decide) ?_
      refine PW.aload_n q_269_77 rfl ?_
      refine PW.gR 296 q_269_78 (Or.inl t_ft_269_33) gF_40_6 kd_294 I.1 (by decide) rfl ?_
      refine PW.cI q_269_81 (by decide) fun c34 hc34 => ?_
      refine PW.aH q_269_82 gA_42 kd_296 I.1 (by decide) (by omega) (by omega) fun x35 fx35 => ?_
      refine PW.jc_gt q_269_83 rfl (fun h36 => ?_) (fun h36 => ?_)
      · skip
        refine PW.cI q_269_90 (by decide) fun c37 hc37 => ?_
        refine PW.rZ q_269_91 rfl (by omega) (by omega) (by decide) (by decide) ?_
        exact hK c37 M I F (by omega) (by omega) ⟨rfl, gHq.refl⟩
      · skip
        refine PW.cI q_269_86 (by decide) fun c38 hc38 => ?_
        refine PW.goto q_269_87 rfl ?_
        refine PW.rZ q_269_91 rfl (by omega) (by omega) (by decide) (by decide) ?_
        exact hK c38 M I F (by omega) (by omega) ⟨rfl, gHq.refl⟩
    · skip
      refine PW.iload_n q_170_5 rfl ?_
      refine PW.iload_n q_170_6 rfl ?_
      refine PW.subH q_170_7 fun x39 => ?_
      refine PW.goto q_170_8 rfl ?_
      refine PW.rI q_170_14 rfl (by decide) (by decide) ?_
      refine PW.rI q_198_21 rfl (by decide) (by decide) ?_
      refine PW.aload_n q_269_77 rfl ?_
      refine PW.gR 296 q_269_78 (Or.inl t_ft_269_33) gF_40_6 kd_294 I.1 (by decide) rfl ?_
      refine PW.cI q_269_81 (by decide) fun c40 hc40 => ?_
      refine PW.aH q_269_82 gA_42 kd_296 I.1 (by decide) (by omega) (by omega) fun x41 fx41 => ?_
      refine PW.jc_gt q_269_83 rfl (fun h42 => ?_) (fun h42 => ?_)
      · skip
        refine PW.cI q_269_90 (by decide) fun c43 hc43 => ?_
        refine PW.rZ q_269_91 rfl (by omega) (by omega) (by decide) (by decide) ?_
        exact hK c43 M I F (by omega) (by omega) ⟨rfl, gHq.refl⟩
      · skip
        refine PW.cI q_269_86 (by decide) fun c44 hc44 => ?_
        refine PW.goto q_269_87 rfl ?_
        refine PW.rZ q_269_91 rfl (by omega) (by omega) (by decide) (by decide) ?_
        exact hK c44 M I F (by omega) (by omega) ⟨rfl, gHq.refl⟩
  · skip
    refine PW.tswO q_269_1 h1 rfl ?_
    refine PW.iload_n q_269_92 rfl ?_
    refine PW.cI q_269_93 (by decide) fun c45 hc45 => ?_
    have J145_47 : ∀ (MJ145_47 : pM) (s48 : Int32), Iv (V) MJ145_47 → Fr [] M MJ145_47 → (gLq MJ145_47 M ∧ gHq MJ145_47 M) → PW G false 2 269 (p_mc 269) (p_msl 269) Kr 145 [(0, .ref 294), (1, .int a1), (2, .int a2), (3, .int a3), (4, .int a4)] [.int s48] 311 MJ145_47 0 0 := by
      intro MJ145_47 s48 IMJ145_47 FMJ145_47 hbJ145_470
      refine PW.istore q_269_145 (by decide) ?_
      refine PW.iload_n q_269_147 rfl ?_
      refine PW.cB q_269_148 (by decide) fun c49 hc49 => ?_
      refine PW.jc_ne q_269_150 rfl (fun h50 => ?_) (fun h50 => ?_)
      · skip
        refine PW.iload_n q_269_168 rfl ?_
        refine PW.cB q_269_169 (by decide) fun c51 hc51 => ?_
        refine PW.jc_ne q_269_171 rfl (fun h52 => ?_) (fun h52 => ?_)
        · skip
          refine PW.iload q_269_189 rfl ?_
          refine PW.iload q_269_191 rfl ?_
          refine PW.jc_le q_269_193 rfl (fun h53 => ?_) (fun h53 => ?_)
          · skip
            refine PW.cI q_269_200 (by decide) fun c54 hc54 => ?_
            refine PW.rZ q_269_201 rfl (by omega) (by omega) (by decide) (by decide) ?_
            exact hK c54 MJ145_47 IMJ145_47 FMJ145_47 (by omega) (by omega) ⟨hbJ145_470.1, hbJ145_470.2⟩
          · skip
            refine PW.cI q_269_196 (by decide) fun c55 hc55 => ?_
            refine PW.goto q_269_197 rfl ?_
            refine PW.rZ q_269_201 rfl (by omega) (by omega) (by decide) (by decide) ?_
            exact hK c55 MJ145_47 IMJ145_47 FMJ145_47 (by omega) (by omega) ⟨hbJ145_470.1, hbJ145_470.2⟩
        · skip
          refine PW.iload q_269_174 rfl ?_
          refine PW.iload q_269_176 rfl ?_
          refine PW.jc_ne q_269_178 rfl (fun h56 => ?_) (fun h56 => ?_)
          · skip
            refine PW.cI q_269_185 (by decide) fun c57 hc57 => ?_
            refine PW.goto q_269_186 rfl ?_
            refine PW.rZ q_269_201 rfl (by omega) (by omega) (by decide) (by decide) ?_
            exact hK c57 MJ145_47 IMJ145_47 FMJ145_47 (by omega) (by omega) ⟨hbJ145_470.1, hbJ145_470.2⟩
          · skip
            refine PW.cI q_269_181 (by decide) fun c58 hc58 => ?_
            refine PW.goto q_269_182 rfl ?_
            refine PW.rZ q_269_201 rfl (by omega) (by omega) (by decide) (by decide) ?_
            exact hK c58 MJ145_47 IMJ145_47 FMJ145_47 (by omega) (by omega) ⟨hbJ145_470.1, hbJ145_470.2⟩
      · skip
        refine PW.iload q_269_153 rfl ?_
        refine PW.iload q_269_155 rfl ?_
        refine PW.jc_ge q_269_157 rfl (fun h59 => ?_) (fun h59 => ?_)
        · skip
          refine PW.cI q_269_164 (by decide) fun c60 hc60 => ?_
          refine PW.goto q_269_165 rfl ?_
          refine PW.rZ q_269_201 rfl (by omega) (by omega) (by decide) (by decide) ?_
          exact hK c60 MJ145_47 IMJ145_47 FMJ145_47 (by omega) (by omega) ⟨hbJ145_470.1, hbJ145_470.2⟩
        · skip
          refine PW.cI q_269_160 (by decide) fun c61 hc61 => ?_
          refine PW.goto q_269_161 rfl ?_
          refine PW.rZ q_269_201 rfl (by omega) (by omega) (by decide) (by decide) ?_
          exact hK c61 MJ145_47 IMJ145_47 FMJ145_47 (by omega) (by omega) ⟨hbJ145_470.1, hbJ145_470.2⟩
    refine PW.jc_ne q_269_94 rfl (fun h46 => ?_) (fun h46 => ?_)
    · skip
      refine PW.iload_n q_269_109 rfl ?_
      refine PW.cI q_269_110 (by decide) fun c62 hc62 => ?_
      refine PW.jc_ne q_269_111 rfl (fun h63 => ?_) (fun h63 => ?_)
      · skip
        refine PW.iload_n q_269_126 rfl ?_
        refine PW.cB q_269_127 (by decide) fun c64 hc64 => ?_
        refine PW.jc_ne q_269_129 rfl (fun h65 => ?_) (fun h65 => ?_)
        · skip
          refine PW.iload_n q_269_144 rfl ?_
          exact PW.lvS (lk1 rfl (lk1 rfl (lk1 rfl (lk1 rfl (lk1 rfl lk0))))) (J145_47 M a1 I F ⟨rfl, gHq.refl⟩)
        · skip
          refine PW.aload_n q_269_132 rfl ?_
          refine PW.gR 296 q_269_133 (Or.inl t_ft_269_33) gF_40_6 kd_294 I.1 (by decide) rfl ?_
          refine PW.cB q_269_136 (by decide) fun c66 hc66 => ?_
          refine PW.iload_n q_269_138 rfl ?_
          refine PW.addN q_269_139 (by omega) (by omega) fun x67 hx67 => ?_
          refine PW.aH q_269_140 gA_42 kd_296 I.1 (by decide) (by omega) (by omega) fun x68 fx68 => ?_
          refine PW.goto q_269_141 rfl ?_
          exact PW.lvS (lk1 rfl (lk1 rfl (lk1 rfl (lk1 rfl (lk1 rfl lk0))))) (J145_47 M x68 I F ⟨rfl, gHq.refl⟩)
      · skip
        refine PW.aload_n q_269_114 rfl ?_
        refine PW.gR 296 q_269_115 (Or.inl t_ft_269_33) gF_40_6 kd_294 I.1 (by decide) rfl ?_
        refine PW.cB q_269_118 (by decide) fun c69 hc69 => ?_
        refine PW.iload_n q_269_120 rfl ?_
        refine PW.addN q_269_121 (by omega) (by omega) fun x70 hx70 => ?_
        refine PW.aI q_269_122 gA_42 kd_296 I.1 (by decide) gB_42_11_16 (by decide) (by omega) (by omega) fun x71 fx71 hx71 kx71 => ?_
        refine PW.goto q_269_123 rfl ?_
        exact PW.lvS (lk1 rfl (lk1 rfl (lk1 rfl (lk1 rfl (lk1 rfl lk0))))) (J145_47 M x71 I F ⟨rfl, gHq.refl⟩)
    · skip
      refine PW.aload_n q_269_97 rfl ?_
      refine PW.gR 296 q_269_98 (Or.inl t_ft_269_33) gF_40_6 kd_294 I.1 (by decide) rfl ?_
      refine PW.cB q_269_101 (by decide) fun c72 hc72 => ?_
      refine PW.iload_n q_269_103 rfl ?_
      refine PW.addN q_269_104 (by omega) (by omega) fun x73 hx73 => ?_
      refine PW.aH q_269_105 gA_42 kd_296 I.1 (by decide) (by omega) (by omega) fun x74 fx74 => ?_
      refine PW.goto q_269_106 rfl ?_
      exact PW.lvS (lk1 rfl (lk1 rfl (lk1 rfl (lk1 rfl (lk1 rfl lk0))))) (J145_47 M x74 I F ⟨rfl, gHq.refl⟩)
theorem c_X12_isSaid (G : pG) (Kr : pK) (M : pM) (I : Iv gTT M) (a1 : Int32) (hl_a1 : 0 ≤ a1.toInt) (hh_a1 : a1.toInt ≤ 5) (hK : ∀ (x : Int32) (M1 : pM), Iv gTT M1 → Fr [52] M M1 → 0 ≤ x.toInt → x.toInt ≤ 1 → ((gLq M1 M) ∧ gHq M1 M) → Kr.1 (some (.int x)) 311 M1) : PW G false 3 270 (p_mc 270) (p_msl 270) Kr 0 (lv_args 0 [.ref 294, .int a1]) [] 311 M 0 0 := by
  have F : Fr [52] M M := Fr.refl
  refine PW.cI q_270_0 (by decide) fun c1 hc1 => ?_
  refine PW.istore_n q_270_1 (by decide) ?_
  refine PW.cI q_270_2 (by decide) fun c2 hc2 => ?_
  refine PW.istore_n q_270_3 (by decide) ?_
  have L270_4_3 : ∀ (n : Nat) (ML270_4_3 : pM) (v4 v5 : Int32), Iv (gTT) ML270_4_3 → Fr [52] M ML270_4_3 → 0 ≤ v4.toInt → v4.toInt ≤ 40 → 0 ≤ v5.toInt → v5.toInt ≤ 40 → g_rp (fun i => o_a (M 296) (217 + i)) v5.toInt.toNat = some (v4.toInt).toNat → v4.toInt ≤ v5.toInt → (gLq ML270_4_3 M ∧ gHq ML270_4_3 M) → (40 - v5.toInt).toNat = n → PW G false 3 270 (p_mc 270) (p_msl 270) Kr 4 [(0, .ref 294), (1, .int a1), (2, .int v4), (3, .int v5)] [] 311 ML270_4_3 0 0 := by
    intro n
    induction n using Nat.strongRecOn with
    | ind n ih_L270_4_3 =>
    intro ML270_4_3 v4 v5 IML270_4_3 FML270_4_3 hbL270_4_30 hbL270_4_31 hbL270_4_32 hbL270_4_33 hbL270_4_34 hbL270_4_35 hbL270_4_36 hmL270_4_3
    refine PW.iload_n q_270_4 rfl ?_
    have hle6 := g_rp_le _ _ hbL270_4_34
    refine PW.aload_n q_270_5 rfl ?_
    refine PW.gR 296 q_270_6 (Or.inl t_ft_270_33) gF_40_6 kd_294 IML270_4_3.1 (by decide) rfl ?_
    refine PW.cS q_270_9 (by decide) fun c7 hc7 => ?_
    refine PW.aI q_270_12 gA_42 kd_296 IML270_4_3.1 (by decide) gB_42_216_216 (by decide) (by omega) (by omega) fun x8 fx8 hx8 kx8 => ?_
    have tc9 : (o_a (M 296) 216).toInt = x8.toInt := by rw [← Fr.at FML270_4_3 kd_296 rfl, show (216 : Nat) = c7.toInt.toNat from by omega, fx8]
    refine PW.jc_ge q_270_13 rfl (fun h10 => ?_) (fun h10 => ?_)
    · skip
      refine PW.aload_n q_270_212 rfl ?_
      refine PW.gR 306 q_270_213 (Or.inl t_ft_270_65) gF_40_38 kd_294 IML270_4_3.1 (by decide) rfl ?_
      refine PW.cI q_270_216 (by decide) fun c11 hc11 => ?_
      refine PW.aZ q_270_217 gA_52 kd_306 IML270_4_3.1 (by decide) gB_52_0_44 (by omega) (by omega) fun x12 fx12 hx12 kx12 => ?_
      refine PW.rZ q_270_218 rfl (by omega) (by omega) (by decide) (by decide) ?_
      exact hK x12 ML270_4_3 IML270_4_3 FML270_4_3 (by omega) (by omega) ⟨hbL270_4_36.1, hbL270_4_36.2⟩
    · skip
      refine PW.cS q_270_16 (by decide) fun c13 hc13 => ?_
      refine PW.cI q_270_19 (by decide) fun c14 hc14 => ?_
      refine PW.iload_n q_270_20 rfl ?_
      refine PW.mulN q_270_21 (3) (by omega) v5 (fun h => n_eq.mpr (by omega)) (fun h => n_eq.mpr (by omega)) (by omega) (by omega) fun x15 hx15 => ?_
      refine PW.addN q_270_22 (by omega) (by omega) fun x16 hx16 => ?_
      refine PW.istore q_270_23 (by decide) ?_
      refine PW.aload_n q_270_25 rfl ?_
      refine PW.gR 296 q_270_26 (Or.inl t_ft_270_33) gF_40_6 kd_294 IML270_4_3.1 (by decide) rfl ?_
      refine PW.iload q_270_29 rfl ?_
      refine PW.aH q_270_31 gA_42 kd_296 IML270_4_3.1 (by decide) (by omega) (by omega) fun x17 fx17 => ?_
      have tv18 : (o_a (M 296) (217 + 3 * v5.toInt.toNat)).toInt = x17.toInt := by rw [← Fr.at FML270_4_3 kd_296 rfl, show 217 + 3 * v5.toInt.toNat = x16.toInt.toNat from by omega, fx17]
      obtain ⟨m19, hm19, hr19⟩ := g_rp_at I.2.2.1.2 (i := v5.toInt.toNat) (by omega) hbL270_4_34
      refine PW.cB q_270_32 (by decide) fun c20 hc20 => ?_
      refine PW.jc_ne q_270_34 rfl (fun h21 => ?_) (fun h21 => ?_)
      · skip
        refine PW.aload_n q_270_64 rfl ?_
        refine PW.gR 296 q_270_65 (Or.inl t_ft_270_33) gF_40_6 kd_294 IML270_4_3.1 (by decide) rfl ?_
        refine PW.iload q_270_68 rfl ?_
        refine PW.aH q_270_70 gA_42 kd_296 IML270_4_3.1 (by decide) (by omega) (by omega) fun x22 fx22 => ?_
        have tv23 : (o_a (M 296) (217 + 3 * v5.toInt.toNat)).toInt = x22.toInt := by rw [← Fr.at FML270_4_3 kd_296 rfl, show 217 + 3 * v5.toInt.toNat = x16.toInt.toNat from by omega, fx22]
        refine PW.cB q_270_71 (by decide) fun c24 hc24 => ?_
        refine PW.jc_eq q_270_73 rfl (fun h25 => ?_) (fun h25 => ?_)
        · skip
          have hq26 := g_rs_two hm19 (by show (o_a (M 296) (217 + 3 * v5.toInt.toNat)).toInt = 21 ∨ (o_a (M 296) (217 + 3 * v5.toInt.toNat)).toInt = 22; omega)
          refine PW.incN q_270_88 rfl (by decide) (by decide) (by omega) (by omega) fun x27 hx27 => ?_
          refine PW.aload_n q_270_91 rfl ?_
          refine PW.gR 306 q_270_92 (Or.inl t_ft_270_65) gF_40_38 kd_294 IML270_4_3.1 (by decide) rfl ?_
          refine PW.iload_n q_270_95 rfl ?_
          refine PW.cI q_270_96 (by decide) fun c28 hc28 => ?_
          refine PW.subN q_270_97 (by have := n_lo x27; have := n_hi x27; omega) (by have := n_lo x27; have := n_hi x27; omega) fun x29 hx29 => ?_
          refine PW.aload_n q_270_98 rfl ?_
          refine PW.gR 296 q_270_99 (Or.inl t_ft_270_33) gF_40_6 kd_294 IML270_4_3.1 (by decide) rfl ?_
          refine PW.iload q_270_102 rfl ?_
          refine PW.aH q_270_104 gA_42 kd_296 IML270_4_3.1 (by decide) (by omega) (by omega) fun x30 fx30 => ?_
          have tv31 : (o_a (M 296) (217 + 3 * v5.toInt.toNat)).toInt = x30.toInt := by rw [← Fr.at FML270_4_3 kd_296 rfl, show 217 + 3 * v5.toInt.toNat = x16.toInt.toNat from by omega, fx30]
          refine PW.cB q_270_105 (by decide) fun c32 hc32 => ?_
          refine PW.jc_ne q_270_107 rfl (fun h33 => ?_) (fun h33 => ?_)
          · skip
            refine PW.aload_n q_270_138 rfl ?_
            refine PW.gR 306 q_270_139 (Or.inl t_ft_270_65) gF_40_38 kd_294 IML270_4_3.1 (by decide) rfl ?_
            refine PW.iload_n q_270_142 rfl ?_
            refine PW.cI q_270_143 (by decide) fun c34 hc34 => ?_
            refine PW.subN q_270_144 (by have := n_lo x27; have := n_hi x27; omega) (by have := n_lo x27; have := n_hi x27; omega) fun x35 hx35 => ?_
            -- index (-2, 38) of 45 at X12_isSaid 145
            refine PW.aZ q_270_145 gA_52 kd_306 IML270_4_3.1 (by decide) gB_52_0_44 (by omega) (by omega) fun x36 fx36 hx36 kx36 => ?_
            refine PW.jz_ne q_270_146 rfl (fun h37 => ?_) (fun h37 => ?_)
            · skip
              refine PW.cI q_270_158 (by decide) fun c38 hc38 => ?_
              refine PW.goto q_270_159 rfl ?_
              -- index (-2, 38) of 45 at X12_isSaid 163
              refine PW.wZ q_270_163 gA_52 kd_306 Stab0 IML270_4_3 (by decide) rfl gC_52_0_44 (by omega) (by omega) (by omega) (by omega) fun M39 IM39 fM39 UM39 => ?_
              have FM39 := Fr.pu FML270_4_3 UM39.1 kd_306 (rfl : List.contains [52] 52 = true)
              refine PW.goto q_270_164 rfl ?_
              refine PW.incN q_270_206 rfl (by decide) (by decide) (by omega) (by omega) fun x40 hx40 => ?_
              refine PW.goto q_270_209 rfl ?_
              refine PW.lvS (lk1 rfl (lk1 rfl (lk1 rfl (lk1 rfl lk0)))) (ih_L270_4_3 _ ?_ M39 x27 x40 IM39 FM39 (by omega) (by omega) (by omega) (by omega) (by rw [show x40.toInt.toNat = v5.toInt.toNat + 1 from by omega, hr19, show m19 = x27.toInt.toNat from by omega]) (by omega) ⟨((congrArg (fun e => o_i e 2) (UM39.1 294 (by decide))).trans hbL270_4_36.1), (hbL270_4_36.2.cg (UM39.1 296 (by decide)) (UM39.1 294 (by decide)))⟩ rfl)
              omega
            · skip
              refine PW.aload_n q_270_149 rfl ?_
              refine PW.gR 306 q_270_150 (Or.inl t_ft_270_65) gF_40_38 kd_294 IML270_4_3.1 (by decide) rfl ?_
              refine PW.iload_n q_270_153 rfl ?_
              -- index (-1, 39) of 45 at X12_isSaid 154
              refine PW.aZ q_270_154 gA_52 kd_306 IML270_4_3.1 (by decide) gB_52_0_44 (by omega) (by omega) fun x41 fx41 hx41 kx41 => ?_
              refine PW.jz_eq q_270_155 rfl (fun h42 => ?_) (fun h42 => ?_)
              · skip
                refine PW.cI q_270_162 (by decide) fun c43 hc43 => ?_
                -- index (-2, 38) of 45 at X12_isSaid 163
                refine PW.wZ q_270_163 gA_52 kd_306 Stab0 IML270_4_3 (by decide) rfl gC_52_0_44 (by omega) (by omega) (by omega) (by omega) fun M44 IM44 fM44 UM44 => ?_
                have FM44 := Fr.pu FML270_4_3 UM44.1 kd_306 (rfl : List.contains [52] 52 = true)
                refine PW.goto q_270_164 rfl ?_
                refine PW.incN q_270_206 rfl (by decide) (by decide) (by omega) (by omega) fun x45 hx45 => ?_
                refine PW.goto q_270_209 rfl ?_
                refine PW.lvS (lk1 rfl (lk1 rfl (lk1 rfl (lk1 rfl lk0)))) (ih_L270_4_3 _ ?_ M44 x27 x45 IM44 FM44 (by omega) (by omega) (by omega) (by omega) (by rw [show x45.toInt.toNat = v5.toInt.toNat + 1 from by omega, hr19, show m19 = x27.toInt.toNat from by omega]) (by omega) ⟨((congrArg (fun e => o_i e 2) (UM44.1 294 (by decide))).trans hbL270_4_36.1), (hbL270_4_36.2.cg (UM44.1 296 (by decide)) (UM44.1 294 (by decide)))⟩ rfl)
                omega
              · skip
                refine PW.cI q_270_158 (by decide) fun c46 hc46 => ?_
                refine PW.goto q_270_159 rfl ?_
                -- index (-2, 38) of 45 at X12_isSaid 163
                refine PW.wZ q_270_163 gA_52 kd_306 Stab0 IML270_4_3 (by decide) rfl gC_52_0_44 (by omega) (by omega) (by omega) (by omega) fun M47 IM47 fM47 UM47 => ?_
                have FM47 := Fr.pu FML270_4_3 UM47.1 kd_306 (rfl : List.contains [52] 52 = true)
                refine PW.goto q_270_164 rfl ?_
                refine PW.incN q_270_206 rfl (by decide) (by decide) (by omega) (by omega) fun x48 hx48 => ?_
                refine PW.goto q_270_209 rfl ?_
                refine PW.lvS (lk1 rfl (lk1 rfl (lk1 rfl (lk1 rfl lk0)))) (ih_L270_4_3 _ ?_ M47 x27 x48 IM47 FM47 (by omega) (by omega) (by omega) (by omega) (by rw [show x48.toInt.toNat = v5.toInt.toNat + 1 from by omega, hr19, show m19 = x27.toInt.toNat from by omega]) (by omega) ⟨((congrArg (fun e => o_i e 2) (UM47.1 294 (by decide))).trans hbL270_4_36.1), (hbL270_4_36.2.cg (UM47.1 296 (by decide)) (UM47.1 294 (by decide)))⟩ rfl)
                omega
          · skip
            refine PW.aload_n q_270_110 rfl ?_
            refine PW.gR 306 q_270_111 (Or.inl t_ft_270_65) gF_40_38 kd_294 IML270_4_3.1 (by decide) rfl ?_
            refine PW.iload_n q_270_114 rfl ?_
            refine PW.cI q_270_115 (by decide) fun c49 hc49 => ?_
            refine PW.subN q_270_116 (by have := n_lo x27; have := n_hi x27; omega) (by have := n_lo x27; have := n_hi x27; omega) fun x50 hx50 => ?_
            -- index (-2, 38) of 45 at X12_isSaid 117
            refine PW.aZ q_270_117 gA_52 kd_306 IML270_4_3.1 (by decide) gB_52_0_44 (by omega) (by omega) fun x51 fx51 hx51 kx51 => ?_
            refine PW.jz_eq q_270_118 rfl (fun h52 => ?_) (fun h52 => ?_)
            · skip
              refine PW.cI q_270_134 (by decide) fun c53 hc53 => ?_
              refine PW.goto q_270_135 rfl ?_
              -- index (-2, 38) of 45 at X12_isSaid 163
              refine PW.wZ q_270_163 gA_52 kd_306 Stab0 IML270_4_3 (by decide) rfl gC_52_0_44 (by omega) (by omega) (by omega) (by omega) fun M54 IM54 fM54 UM54 => ?_
              have FM54 := Fr.pu FML270_4_3 UM54.1 kd_306 (rfl : List.contains [52] 52 = true)
              refine PW.goto q_270_164 rfl ?_
              refine PW.incN q_270_206 rfl (by decide) (by decide) (by omega) (by omega) fun x55 hx55 => ?_
              refine PW.goto q_270_209 rfl ?_
              refine PW.lvS (lk1 rfl (lk1 rfl (lk1 rfl (lk1 rfl lk0)))) (ih_L270_4_3 _ ?_ M54 x27 x55 IM54 FM54 (by omega) (by omega) (by omega) (by omega) (by rw [show x55.toInt.toNat = v5.toInt.toNat + 1 from by omega, hr19, show m19 = x27.toInt.toNat from by omega]) (by omega) ⟨((congrArg (fun e => o_i e 2) (UM54.1 294 (by decide))).trans hbL270_4_36.1), (hbL270_4_36.2.cg (UM54.1 296 (by decide)) (UM54.1 294 (by decide)))⟩ rfl)
              omega
            · skip
              refine PW.aload_n q_270_121 rfl ?_
              refine PW.gR 306 q_270_122 (Or.inl t_ft_270_65) gF_40_38 kd_294 IML270_4_3.1 (by decide) rfl ?_
              refine PW.iload_n q_270_125 rfl ?_
              -- index (-1, 39) of 45 at X12_isSaid 126
              refine PW.aZ q_270_126 gA_52 kd_306 IML270_4_3.1 (by decide) gB_52_0_44 (by omega) (by omega) fun x56 fx56 hx56 kx56 => ?_
              refine PW.jz_eq q_270_127 rfl (fun h57 => ?_) (fun h57 => ?_)
              · skip
                refine PW.cI q_270_134 (by decide) fun c58 hc58 => ?_
                refine PW.goto q_270_135 rfl ?_
                -- index (-2, 38) of 45 at X12_isSaid 163
                refine PW.wZ q_270_163 gA_52 kd_306 Stab0 IML270_4_3 (by decide) rfl gC_52_0_44 (by omega) (by omega) (by omega) (by omega) fun M59 IM59 fM59 UM59 => ?_
                have FM59 := Fr.pu FML270_4_3 UM59.1 kd_306 (rfl : List.contains [52] 52 = true)
                refine PW.goto q_270_164 rfl ?_
                refine PW.incN q_270_206 rfl (by decide) (by decide) (by omega) (by omega) fun x60 hx60 => ?_
                refine PW.goto q_270_209 rfl ?_
                refine PW.lvS (lk1 rfl (lk1 rfl (lk1 rfl (lk1 rfl lk0)))) (ih_L270_4_3 _ ?_ M59 x27 x60 IM59 FM59 (by omega) (by omega) (by omega) (by omega) (by rw [show x60.toInt.toNat = v5.toInt.toNat + 1 from by omega, hr19, show m19 = x27.toInt.toNat from by omega]) (by omega) ⟨((congrArg (fun e => o_i e 2) (UM59.1 294 (by decide))).trans hbL270_4_36.1), (hbL270_4_36.2.cg (UM59.1 296 (by decide)) (UM59.1 294 (by decide)))⟩ rfl)
                omega
              · skip
                refine PW.cI q_270_130 (by decide) fun c61 hc61 => ?_
                refine PW.goto q_270_131 rfl ?_
                -- index (-2, 38) of 45 at X12_isSaid 163
                refine PW.wZ q_270_163 gA_52 kd_306 Stab0 IML270_4_3 (by decide) rfl gC_52_0_44 (by omega) (by omega) (by omega) (by omega) fun M62 IM62 fM62 UM62 => ?_
                have FM62 := Fr.pu FML270_4_3 UM62.1 kd_306 (rfl : List.contains [52] 52 = true)
                refine PW.goto q_270_164 rfl ?_
                refine PW.incN q_270_206 rfl (by decide) (by decide) (by omega) (by omega) fun x63 hx63 => ?_
                refine PW.goto q_270_209 rfl ?_
                refine PW.lvS (lk1 rfl (lk1 rfl (lk1 rfl (lk1 rfl lk0)))) (ih_L270_4_3 _ ?_ M62 x27 x63 IM62 FM62 (by omega) (by omega) (by omega) (by omega) (by rw [show x63.toInt.toNat = v5.toInt.toNat + 1 from by omega, hr19, show m19 = x27.toInt.toNat from by omega]) (by omega) ⟨((congrArg (fun e => o_i e 2) (UM62.1 294 (by decide))).trans hbL270_4_36.1), (hbL270_4_36.2.cg (UM62.1 296 (by decide)) (UM62.1 294 (by decide)))⟩ rfl)
                omega
        · skip
          refine PW.aload_n q_270_76 rfl ?_
          refine PW.gR 296 q_270_77 (Or.inl t_ft_270_33) gF_40_6 kd_294 IML270_4_3.1 (by decide) rfl ?_
          refine PW.iload q_270_80 rfl ?_
          refine PW.aH q_270_82 gA_42 kd_296 IML270_4_3.1 (by decide) (by omega) (by omega) fun x64 fx64 => ?_
          have tv65 : (o_a (M 296) (217 + 3 * v5.toInt.toNat)).toInt = x64.toInt := by rw [← Fr.at FML270_4_3 kd_296 rfl, show 217 + 3 * v5.toInt.toNat = x16.toInt.toNat from by omega, fx64]
          refine PW.cB q_270_83 (by decide) fun c66 hc66 => ?_
          refine PW.jc_ne q_270_85 rfl (fun h67 => ?_) (fun h67 => ?_)
          · skip
            have hq68 := g_rs_one hm19 (by show (o_a (M 296) (217 + 3 * v5.toInt.toNat)).toInt ≠ 20 ∧ (o_a (M 296) (217 + 3 * v5.toInt.toNat)).toInt ≠ 21 ∧ (o_a (M 296) (217 + 3 * v5.toInt.toNat)).toInt ≠ 22; omega)
            refine PW.aload_n q_270_167 rfl ?_
            refine PW.gR 306 q_270_168 (Or.inl t_ft_270_65) gF_40_38 kd_294 IML270_4_3.1 (by decide) rfl ?_
            refine PW.iload_n q_270_171 rfl ?_
            refine PW.aload_n q_270_172 rfl ?_
            refine PW.iload_n q_270_173 rfl ?_
            refine PW.aload_n q_270_174 rfl ?_
            refine PW.gR 296 q_270_175 (Or.inl t_ft_270_33) gF_40_6 kd_294 IML270_4_3.1 (by decide) rfl ?_
            refine PW.iload q_270_178 rfl ?_
            refine PW.aH q_270_180 gA_42 kd_296 IML270_4_3.1 (by decide) (by omega) (by omega) fun x69 fx69 => ?_
            have tv70 : (o_a (M 296) (217 + 3 * v5.toInt.toNat)).toInt = x69.toInt := by rw [← Fr.at FML270_4_3 kd_296 rfl, show 217 + 3 * v5.toInt.toNat = x16.toInt.toNat from by omega, fx69]
            refine PW.aload_n q_270_181 rfl ?_
            refine PW.gR 296 q_270_182 (Or.inl t_ft_270_33) gF_40_6 kd_294 IML270_4_3.1 (by decide) rfl ?_
            refine PW.iload q_270_185 rfl ?_
            refine PW.cI q_270_187 (by decide) fun c71 hc71 => ?_
            refine PW.addN q_270_188 (by omega) (by omega) fun x72 hx72 => ?_
            refine PW.aH q_270_189 gA_42 kd_296 IML270_4_3.1 (by decide) (by omega) (by omega) fun x73 fx73 => ?_
            refine PW.aload_n q_270_190 rfl ?_
            refine PW.gR 296 q_270_191 (Or.inl t_ft_270_33) gF_40_6 kd_294 IML270_4_3.1 (by decide) rfl ?_
            refine PW.iload q_270_194 rfl ?_
            refine PW.cI q_270_196 (by decide) fun c74 hc74 => ?_
            refine PW.addN q_270_197 (by omega) (by omega) fun x75 hx75 => ?_
            refine PW.aH q_270_198 gA_42 kd_296 IML270_4_3.1 (by decide) (by omega) (by omega) fun x76 fx76 => ?_
            have tv77 : (o_a (M 296) (217 + (3 * v5.toInt.toNat + 2))).toInt = x76.toInt := by rw [← Fr.at FML270_4_3 kd_296 rfl, show 217 + (3 * v5.toInt.toNat + 2) = x75.toInt.toNat from by omega, fx76]
            refine PW.cV (as := [_, _, _, _]) (rest := [_, _]) q_270_199 t_mv_270_419 kd_294 IML270_4_3.1 (by decide) rfl (by decide) rfl rfl (Nat.le_of_ble_eq_true rfl) (Nat.le_of_ble_eq_true rfl) (by decide) (by decide) ?_
            refine PW.up (by decide) (c_X12_isLeaf (gTT) (Stab0) G _ ML270_4_3 IML270_4_3 a1 x69 x73 x76 (by omega) (by omega) (by have w : (o_a (M 296) (217 + 3 * v5.toInt.toNat)).toInt ≠ 3 ∨ (0 ≤ (o_a (M 296) (217 + (3 * v5.toInt.toNat + 2))).toInt ∧ (o_a (M 296) (217 + (3 * v5.toInt.toNat + 2))).toInt ≤ 5) := g_RP.by I.2.2.1.2 (i := v5.toInt.toNat) (by omega); omega) fun x79 M78 IM78 GM78 hx79 kx79 TM78 => ?_)
            have FM78 := Fr.trans FML270_4_3 GM78 (rfl)
            refine PW.wZ q_270_202 gA_52 kd_306 Stab0 IM78 (by decide) rfl gC_52_0_44 (by omega) (by omega) (by omega) (by omega) fun M80 IM80 fM80 UM80 => ?_
            have FM80 := Fr.pu FM78 UM80.1 kd_306 (rfl : List.contains [52] 52 = true)
            refine PW.incN q_270_203 rfl (by decide) (by decide) (by omega) (by omega) fun x81 hx81 => ?_
            refine PW.incN q_270_206 rfl (by decide) (by decide) (by omega) (by omega) fun x82 hx82 => ?_
            refine PW.goto q_270_209 rfl ?_
            refine PW.lvS (lk1 rfl (lk1 rfl (lk1 rfl (lk1 rfl lk0)))) (ih_L270_4_3 _ ?_ M80 x81 x82 IM80 FM80 (by omega) (by omega) (by omega) (by omega) (by rw [show x82.toInt.toNat = v5.toInt.toNat + 1 from by omega, hr19, show m19 = x81.toInt.toNat from by omega]) (by omega) ⟨((congrArg (fun e => o_i e 2) (UM80.1 294 (by decide))).trans ((congrArg (fun e => o_i e 2) (Fr.at GM78 kd_294 rfl)).trans hbL270_4_36.1)), ((hbL270_4_36.2.cg (Fr.at GM78 kd_296 rfl) (Fr.at GM78 kd_294 rfl)).cg (UM80.1 296 (by decide)) (UM80.1 294 (by decide)))⟩ rfl)
            omega
          · skip
            have hq83 := g_rs_two hm19 (by show (o_a (M 296) (217 + 3 * v5.toInt.toNat)).toInt = 21 ∨ (o_a (M 296) (217 + 3 * v5.toInt.toNat)).toInt = 22; omega)
            refine PW.incN q_270_88 rfl (by decide) (by decide) (by omega) (by omega) fun x84 hx84 => ?_
            refine PW.aload_n q_270_91 rfl ?_
            refine PW.gR 306 q_270_92 (Or.inl t_ft_270_65) gF_40_38 kd_294 IML270_4_3.1 (by decide) rfl ?_
            refine PW.iload_n q_270_95 rfl ?_
            refine PW.cI q_270_96 (by decide) fun c85 hc85 => ?_
            refine PW.subN q_270_97 (by have := n_lo x84; have := n_hi x84; omega) (by have := n_lo x84; have := n_hi x84; omega) fun x86 hx86 => ?_
            refine PW.aload_n q_270_98 rfl ?_
            refine PW.gR 296 q_270_99 (Or.inl t_ft_270_33) gF_40_6 kd_294 IML270_4_3.1 (by decide) rfl ?_
            refine PW.iload q_270_102 rfl ?_
            refine PW.aH q_270_104 gA_42 kd_296 IML270_4_3.1 (by decide) (by omega) (by omega) fun x87 fx87 => ?_
            have tv88 : (o_a (M 296) (217 + 3 * v5.toInt.toNat)).toInt = x87.toInt := by rw [← Fr.at FML270_4_3 kd_296 rfl, show 217 + 3 * v5.toInt.toNat = x16.toInt.toNat from by omega, fx87]
            refine PW.cB q_270_105 (by decide) fun c89 hc89 => ?_
            refine PW.jc_ne q_270_107 rfl (fun h90 => ?_) (fun h90 => ?_)
            · skip
              refine PW.aload_n q_270_138 rfl ?_
              refine PW.gR 306 q_270_139 (Or.inl t_ft_270_65) gF_40_38 kd_294 IML270_4_3.1 (by decide) rfl ?_
              refine PW.iload_n q_270_142 rfl ?_
              refine PW.cI q_270_143 (by decide) fun c91 hc91 => ?_
              refine PW.subN q_270_144 (by have := n_lo x84; have := n_hi x84; omega) (by have := n_lo x84; have := n_hi x84; omega) fun x92 hx92 => ?_
              -- index (-2, 38) of 45 at X12_isSaid 145
              refine PW.aZ q_270_145 gA_52 kd_306 IML270_4_3.1 (by decide) gB_52_0_44 (by omega) (by omega) fun x93 fx93 hx93 kx93 => ?_
              refine PW.jz_ne q_270_146 rfl (fun h94 => ?_) (fun h94 => ?_)
              · skip
                refine PW.cI q_270_158 (by decide) fun c95 hc95 => ?_
                refine PW.goto q_270_159 rfl ?_
                -- index (-2, 38) of 45 at X12_isSaid 163
                refine PW.wZ q_270_163 gA_52 kd_306 Stab0 IML270_4_3 (by decide) rfl gC_52_0_44 (by omega) (by omega) (by omega) (by omega) fun M96 IM96 fM96 UM96 => ?_
                have FM96 := Fr.pu FML270_4_3 UM96.1 kd_306 (rfl : List.contains [52] 52 = true)
                refine PW.goto q_270_164 rfl ?_
                refine PW.incN q_270_206 rfl (by decide) (by decide) (by omega) (by omega) fun x97 hx97 => ?_
                refine PW.goto q_270_209 rfl ?_
                refine PW.lvS (lk1 rfl (lk1 rfl (lk1 rfl (lk1 rfl lk0)))) (ih_L270_4_3 _ ?_ M96 x84 x97 IM96 FM96 (by omega) (by omega) (by omega) (by omega) (by rw [show x97.toInt.toNat = v5.toInt.toNat + 1 from by omega, hr19, show m19 = x84.toInt.toNat from by omega]) (by omega) ⟨((congrArg (fun e => o_i e 2) (UM96.1 294 (by decide))).trans hbL270_4_36.1), (hbL270_4_36.2.cg (UM96.1 296 (by decide)) (UM96.1 294 (by decide)))⟩ rfl)
                omega
              · skip
                refine PW.aload_n q_270_149 rfl ?_
                refine PW.gR 306 q_270_150 (Or.inl t_ft_270_65) gF_40_38 kd_294 IML270_4_3.1 (by decide) rfl ?_
                refine PW.iload_n q_270_153 rfl ?_
                -- index (-1, 39) of 45 at X12_isSaid 154
                refine PW.aZ q_270_154 gA_52 kd_306 IML270_4_3.1 (by decide) gB_52_0_44 (by omega) (by omega) fun x98 fx98 hx98 kx98 => ?_
                refine PW.jz_eq q_270_155 rfl (fun h99 => ?_) (fun h99 => ?_)
                · skip
                  refine PW.cI q_270_162 (by decide) fun c100 hc100 => ?_
                  -- index (-2, 38) of 45 at X12_isSaid 163
                  refine PW.wZ q_270_163 gA_52 kd_306 Stab0 IML270_4_3 (by decide) rfl gC_52_0_44 (by omega) (by omega) (by omega) (by omega) fun M101 IM101 fM101 UM101 => ?_
                  have FM101 := Fr.pu FML270_4_3 UM101.1 kd_306 (rfl : List.contains [52] 52 = true)
                  refine PW.goto q_270_164 rfl ?_
                  refine PW.incN q_270_206 rfl (by decide) (by decide) (by omega) (by omega) fun x102 hx102 => ?_
                  refine PW.goto q_270_209 rfl ?_
                  refine PW.lvS (lk1 rfl (lk1 rfl (lk1 rfl (lk1 rfl lk0)))) (ih_L270_4_3 _ ?_ M101 x84 x102 IM101 FM101 (by omega) (by omega) (by omega) (by omega) (by rw [show x102.toInt.toNat = v5.toInt.toNat + 1 from by omega, hr19, show m19 = x84.toInt.toNat from by omega]) (by omega) ⟨((congrArg (fun e => o_i e 2) (UM101.1 294 (by decide))).trans hbL270_4_36.1), (hbL270_4_36.2.cg (UM101.1 296 (by decide)) (UM101.1 294 (by decide)))⟩ rfl)
                  omega
                · skip
                  refine PW.cI q_270_158 (by decide) fun c103 hc103 => ?_
                  refine PW.goto q_270_159 rfl ?_
                  -- index (-2, 38) of 45 at X12_isSaid 163
                  refine PW.wZ q_270_163 gA_52 kd_306 Stab0 IML270_4_3 (by decide) rfl gC_52_0_44 (by omega) (by omega) (by omega) (by omega) fun M104 IM104 fM104 UM104 => ?_
                  have FM104 := Fr.pu FML270_4_3 UM104.1 kd_306 (rfl : List.contains [52] 52 = true)
                  refine PW.goto q_270_164 rfl ?_
                  refine PW.incN q_270_206 rfl (by decide) (by decide) (by omega) (by omega) fun x105 hx105 => ?_
                  refine PW.goto q_270_209 rfl ?_
                  refine PW.lvS (lk1 rfl (lk1 rfl (lk1 rfl (lk1 rfl lk0)))) (ih_L270_4_3 _ ?_ M104 x84 x105 IM104 FM104 (by omega) (by omega) (by omega) (by omega) (by rw [show x105.toInt.toNat = v5.toInt.toNat + 1 from by omega, hr19, show m19 = x84.toInt.toNat from by omega]) (by omega) ⟨((congrArg (fun e => o_i e 2) (UM104.1 294 (by decide))).trans hbL270_4_36.1), (hbL270_4_36.2.cg (UM104.1 296 (by decide)) (UM104.1 294 (by decide)))⟩ rfl)
                  omega
            · skip
              refine PW.aload_n q_270_110 rfl ?_
              refine PW.gR 306 q_270_111 (Or.inl t_ft_270_65) gF_40_38 kd_294 IML270_4_3.1 (by decide) rfl ?_
              refine PW.iload_n q_270_114 rfl ?_
              refine PW.cI q_270_115 (by decide) fun c106 hc106 => ?_
              refine PW.subN q_270_116 (by have := n_lo x84; have := n_hi x84; omega) (by have := n_lo x84; have := n_hi x84; omega) fun x107 hx107 => ?_
              -- index (-2, 38) of 45 at X12_isSaid 117
              refine PW.aZ q_270_117 gA_52 kd_306 IML270_4_3.1 (by decide) gB_52_0_44 (by omega) (by omega) fun x108 fx108 hx108 kx108 => ?_
              refine PW.jz_eq q_270_118 rfl (fun h109 => ?_) (fun h109 => ?_)
              · skip
                refine PW.cI q_270_134 (by decide) fun c110 hc110 => ?_
                refine PW.goto q_270_135 rfl ?_
                -- index (-2, 38) of 45 at X12_isSaid 163
                refine PW.wZ q_270_163 gA_52 kd_306 Stab0 IML270_4_3 (by decide) rfl gC_52_0_44 (by omega) (by omega) (by omega) (by omega) fun M111 IM111 fM111 UM111 => ?_
                have FM111 := Fr.pu FML270_4_3 UM111.1 kd_306 (rfl : List.contains [52] 52 = true)
                refine PW.goto q_270_164 rfl ?_
                refine PW.incN q_270_206 rfl (by decide) (by decide) (by omega) (by omega) fun x112 hx112 => ?_
                refine PW.goto q_270_209 rfl ?_
                refine PW.lvS (lk1 rfl (lk1 rfl (lk1 rfl (lk1 rfl lk0)))) (ih_L270_4_3 _ ?_ M111 x84 x112 IM111 FM111 (by omega) (by omega) (by omega) (by omega) (by rw [show x112.toInt.toNat = v5.toInt.toNat + 1 from by omega, hr19, show m19 = x84.toInt.toNat from by omega]) (by omega) ⟨((congrArg (fun e => o_i e 2) (UM111.1 294 (by decide))).trans hbL270_4_36.1), (hbL270_4_36.2.cg (UM111.1 296 (by decide)) (UM111.1 294 (by decide)))⟩ rfl)
                omega
              · skip
                refine PW.aload_n q_270_121 rfl ?_
                refine PW.gR 306 q_270_122 (Or.inl t_ft_270_65) gF_40_38 kd_294 IML270_4_3.1 (by decide) rfl ?_
                refine PW.iload_n q_270_125 rfl ?_
                -- index (-1, 39) of 45 at X12_isSaid 126
                refine PW.aZ q_270_126 gA_52 kd_306 IML270_4_3.1 (by decide) gB_52_0_44 (by omega) (by omega) fun x113 fx113 hx113 kx113 => ?_
                refine PW.jz_eq q_270_127 rfl (fun h114 => ?_) (fun h114 => ?_)
                · skip
                  refine PW.cI q_270_134 (by decide) fun c115 hc115 => ?_
                  refine PW.goto q_270_135 rfl ?_
                  -- index (-2, 38) of 45 at X12_isSaid 163
                  refine PW.wZ q_270_163 gA_52 kd_306 Stab0 IML270_4_3 (by decide) rfl gC_52_0_44 (by omega) (by omega) (by omega) (by omega) fun M116 IM116 fM116 UM116 => ?_
                  have FM116 := Fr.pu FML270_4_3 UM116.1 kd_306 (rfl : List.contains [52] 52 = true)
                  refine PW.goto q_270_164 rfl ?_
                  refine PW.incN q_270_206 rfl (by decide) (by decide) (by omega) (by omega) fun x117 hx117 => ?_
                  refine PW.goto q_270_209 rfl ?_
                  refine PW.lvS (lk1 rfl (lk1 rfl (lk1 rfl (lk1 rfl lk0)))) (ih_L270_4_3 _ ?_ M116 x84 x117 IM116 FM116 (by omega) (by omega) (by omega) (by omega) (by rw [show x117.toInt.toNat = v5.toInt.toNat + 1 from by omega, hr19, show m19 = x84.toInt.toNat from by omega]) (by omega) ⟨((congrArg (fun e => o_i e 2) (UM116.1 294 (by decide))).trans hbL270_4_36.1), (hbL270_4_36.2.cg (UM116.1 296 (by decide)) (UM116.1 294 (by decide)))⟩ rfl)
                  omega
                · skip
                  refine PW.cI q_270_130 (by decide) fun c118 hc118 => ?_
                  refine PW.goto q_270_131 rfl ?_
                  -- index (-2, 38) of 45 at X12_isSaid 163
                  refine PW.wZ q_270_163 gA_52 kd_306 Stab0 IML270_4_3 (by decide) rfl gC_52_0_44 (by omega) (by omega) (by omega) (by omega) fun M119 IM119 fM119 UM119 => ?_
                  have FM119 := Fr.pu FML270_4_3 UM119.1 kd_306 (rfl : List.contains [52] 52 = true)
                  refine PW.goto q_270_164 rfl ?_
                  refine PW.incN q_270_206 rfl (by decide) (by decide) (by omega) (by omega) fun x120 hx120 => ?_
                  refine PW.goto q_270_209 rfl ?_
                  refine PW.lvS (lk1 rfl (lk1 rfl (lk1 rfl (lk1 rfl lk0)))) (ih_L270_4_3 _ ?_ M119 x84 x120 IM119 FM119 (by omega) (by omega) (by omega) (by omega) (by rw [show x120.toInt.toNat = v5.toInt.toNat + 1 from by omega, hr19, show m19 = x84.toInt.toNat from by omega]) (by omega) ⟨((congrArg (fun e => o_i e 2) (UM119.1 294 (by decide))).trans hbL270_4_36.1), (hbL270_4_36.2.cg (UM119.1 296 (by decide)) (UM119.1 294 (by decide)))⟩ rfl)
                  omega
      · skip
        have hq121 := g_rs_not hm19 (by show (o_a (M 296) (217 + 3 * v5.toInt.toNat)).toInt = 20; omega)
        refine PW.aload_n q_270_37 rfl ?_
        refine PW.gR 306 q_270_38 (Or.inl t_ft_270_65) gF_40_38 kd_294 IML270_4_3.1 (by decide) rfl ?_
        refine PW.iload_n q_270_41 rfl ?_
        refine PW.cI q_270_42 (by decide) fun c122 hc122 => ?_
        refine PW.subN q_270_43 (by omega) (by omega) fun x123 hx123 => ?_
        refine PW.aload_n q_270_44 rfl ?_
        refine PW.gR 306 q_270_45 (Or.inl t_ft_270_65) gF_40_38 kd_294 IML270_4_3.1 (by decide) rfl ?_
        refine PW.iload_n q_270_48 rfl ?_
        refine PW.cI q_270_49 (by decide) fun c124 hc124 => ?_
        refine PW.subN q_270_50 (by omega) (by omega) fun x125 hx125 => ?_
        -- index (-1, 39) of 45 at X12_isSaid 51
        refine PW.aZ q_270_51 gA_52 kd_306 IML270_4_3.1 (by decide) gB_52_0_44 (by omega) (by omega) fun x126 fx126 hx126 kx126 => ?_
        refine PW.jz_ne q_270_52 rfl (fun h127 => ?_) (fun h127 => ?_)
        · skip
          refine PW.cI q_270_59 (by decide) fun c128 hc128 => ?_
          -- index (-1, 39) of 45 at X12_isSaid 60
          refine PW.wZ q_270_60 gA_52 kd_306 Stab0 IML270_4_3 (by decide) rfl gC_52_0_44 (by omega) (by omega) (by omega) (by omega) fun M129 IM129 fM129 UM129 => ?_
          have FM129 := Fr.pu FML270_4_3 UM129.1 kd_306 (rfl : List.contains [52] 52 = true)
          refine PW.goto q_270_61 rfl ?_
          refine PW.incN q_270_206 rfl (by decide) (by decide) (by omega) (by omega) fun x130 hx130 => ?_
          refine PW.goto q_270_209 rfl ?_
          refine PW.lvS (lk1 rfl (lk1 rfl (lk1 rfl (lk1 rfl lk0)))) (ih_L270_4_3 _ ?_ M129 v4 x130 IM129 FM129 (by omega) (by omega) (by omega) (by omega) (by rw [show x130.toInt.toNat = v5.toInt.toNat + 1 from by omega, hr19, show m19 = v4.toInt.toNat from by omega]) (by omega) ⟨((congrArg (fun e => o_i e 2) (UM129.1 294 (by decide))).trans hbL270_4_36.1), (hbL270_4_36.2.cg (UM129.1 296 (by decide)) (UM129.1 294 (by decide)))⟩ rfl)
          omega
        · skip
          refine PW.cI q_270_55 (by decide) fun c131 hc131 => ?_
          refine PW.goto q_270_56 rfl ?_
          -- index (-1, 39) of 45 at X12_isSaid 60
          refine PW.wZ q_270_60 gA_52 kd_306 Stab0 IML270_4_3 (by decide) rfl gC_52_0_44 (by omega) (by omega) (by omega) (by omega) fun M132 IM132 fM132 UM132 => ?_
          have FM132 := Fr.pu FML270_4_3 UM132.1 kd_306 (rfl : List.contains [52] 52 = true)
          refine PW.goto q_270_61 rfl ?_
          refine PW.incN q_270_206 rfl (by decide) (by decide) (by omega) (by omega) fun x133 hx133 => ?_
          refine PW.goto q_270_209 rfl ?_
          refine PW.lvS (lk1 rfl (lk1 rfl (lk1 rfl (lk1 rfl lk0)))) (ih_L270_4_3 _ ?_ M132 v4 x133 IM132 FM132 (by omega) (by omega) (by omega) (by omega) (by rw [show x133.toInt.toNat = v5.toInt.toNat + 1 from by omega, hr19, show m19 = v4.toInt.toNat from by omega]) (by omega) ⟨((congrArg (fun e => o_i e 2) (UM132.1 294 (by decide))).trans hbL270_4_36.1), (hbL270_4_36.2.cg (UM132.1 296 (by decide)) (UM132.1 294 (by decide)))⟩ rfl)
          omega
  exact PW.lvS (lk1 rfl (lk1 rfl (lk1 rfl (lk1 rfl lk0)))) (L270_4_3 _ M c1 c2 I F (by omega) (by omega) (by omega) (by omega) (by rw [show c2.toInt.toNat = 0 from by omega, show c1.toInt.toNat = 0 from by omega]; rfl) (by omega) ⟨rfl, gHq.refl⟩ rfl)
theorem c_X12_told (G : pG) (Kr : pK) (M : pM) (I : Iv gTT M) (a1 : Int32) (hK : ∀ (x : Int32) (M1 : pM), Iv gTT M1 → Fr [40, 52] M M1 → ((gLq M1 M) ∧ gHq M1 M) → Kr.1 (some (.int x)) 311 M1) : PW G false 4 271 (p_mc 271) (p_msl 271) Kr 0 (lv_args 0 [.ref 294, .int a1]) [] 311 M 0 0 := by
  have F : Fr [40, 52] M M := Fr.refl
  refine PW.aload_n q_271_0 rfl ?_
  refine PW.cI q_271_1 (by decide) fun c1 hc1 => ?_
  refine PW.pI q_271_2 (Or.inl t_ft_271_1) gF_40_0 gP_40_0 kd_294 Stab0 I (by decide) rfl (n_lo _) (n_hi _) fun M2 IM2 fM2 UM2 => ?_
  have FM2 := Fr.pu F UM2.1 kd_294 (rfl : List.contains [40, 52] 40 = true)
  refine PW.aload_n q_271_5 rfl ?_
  refine PW.gR 296 q_271_6 (Or.inl t_ft_271_33) gF_40_6 kd_294 IM2.1 (by decide) rfl ?_
  refine PW.cS q_271_9 (by decide) fun c3 hc3 => ?_
  refine PW.aI q_271_12 gA_42 kd_296 IM2.1 (by decide) gB_42_216_216 (by decide) (by omega) (by omega) fun x4 fx4 hx4 kx4 => ?_
  refine PW.jz_eq q_271_13 rfl (fun h5 => ?_) (fun h5 => ?_)
  · skip
    refine PW.cI q_271_21 (by decide) fun c6 hc6 => ?_
    refine PW.rI q_271_22 rfl (by decide) (by decide) ?_
    exact hK c6 M2 IM2 FM2 ⟨(UM2.i (c := 294) (k := 2) (Or.inr (by decide))), (gHq.refl.pu UM2 (by decide))⟩
  · skip
    refine PW.iload_n q_271_16 rfl ?_
    refine PW.cI q_271_17 (by decide) fun c7 hc7 => ?_
    refine PW.jc_ge q_271_18 rfl (fun h8 => ?_) (fun h8 => ?_)
    · skip
      refine PW.cI q_271_23 (by decide) fun c9 hc9 => ?_
      refine PW.istore_n q_271_24 (by decide) ?_
      refine PW.cI q_271_25 (by decide) fun c10 hc10 => ?_
      refine PW.istore_n q_271_26 (by decide) ?_
      have L271_27_11 : ∀ (n : Nat) (ML271_27_11 : pM) (v12 v13 : Int32), Iv (gTT) ML271_27_11 → Fr [40, 52] M ML271_27_11 → 0 ≤ v13.toInt → v13.toInt ≤ 6 → (gLq ML271_27_11 M ∧ gHq ML271_27_11 M) → (6 - v13.toInt).toNat = n → PW G false 4 271 (p_mc 271) (p_msl 271) Kr 27 [(0, .ref 294), (1, .int a1), (2, .int v12), (3, .int v13)] [] 311 ML271_27_11 0 0 := by
        intro n
        induction n using Nat.strongRecOn with
        | ind n ih_L271_27_11 =>
        intro ML271_27_11 v12 v13 IML271_27_11 FML271_27_11 hbL271_27_110 hbL271_27_111 hbL271_27_112 hmL271_27_11
        refine PW.iload_n q_271_27 rfl ?_
        refine PW.aload_n q_271_28 rfl ?_
        refine PW.gR 296 q_271_29 (Or.inl t_ft_271_33) gF_40_6 kd_294 IML271_27_11.1 (by decide) rfl ?_
        refine PW.cI q_271_32 (by decide) fun c14 hc14 => ?_
        refine PW.aI q_271_33 gA_42 kd_296 IML271_27_11.1 (by decide) gB_42_0_0 (by decide) (by omega) (by omega) fun x15 fx15 hx15 kx15 => ?_
        refine PW.jc_ge q_271_34 rfl (fun h16 => ?_) (fun h16 => ?_)
        · skip
          refine PW.iload_n q_271_64 rfl ?_
          refine PW.cI q_271_65 (by decide) fun c17 hc17 => ?_
          refine PW.jc_ne q_271_66 rfl (fun h18 => ?_) (fun h18 => ?_)
          · skip
            refine PW.cI q_271_73 (by decide) fun c19 hc19 => ?_
            refine PW.rI q_271_74 rfl (by decide) (by decide) ?_
            exact hK c19 ML271_27_11 IML271_27_11 FML271_27_11 ⟨hbL271_27_112.1, hbL271_27_112.2⟩
          · skip
            refine PW.iload_n q_271_69 rfl ?_
            refine PW.goto q_271_70 rfl ?_
            refine PW.rI q_271_74 rfl (by decide) (by decide) ?_
            exact hK v12 ML271_27_11 IML271_27_11 FML271_27_11 ⟨hbL271_27_112.1, hbL271_27_112.2⟩
        · skip
          refine PW.aload_n q_271_37 rfl ?_
          refine PW.iload_n q_271_38 rfl ?_
          refine PW.cV (as := [_]) (rest := []) q_271_39 t_mv_271_423 kd_294 IML271_27_11.1 (by decide) rfl (by decide) rfl rfl (Nat.le_of_ble_eq_true rfl) (Nat.le_of_ble_eq_true rfl) (by decide) (by decide) ?_
          refine PW.up (by decide) (c_X12_isSaid G _ ML271_27_11 IML271_27_11 v13 (by omega) (by omega) fun x21 M20 IM20 GM20 hx21 kx21 TM20 => ?_)
          have FM20 := Fr.trans FML271_27_11 GM20 (rfl)
          have J58_23 : ∀ (MJ58_23 : pM) (v24 : Int32), Iv (gTT) MJ58_23 → Fr [40, 52] M MJ58_23 → (gLq MJ58_23 M ∧ gHq MJ58_23 M) → PW G false 4 271 (p_mc 271) (p_msl 271) Kr 58 [(0, .ref 294), (1, .int a1), (2, .int v24), (3, .int v13)] [] 311 MJ58_23 0 0 := by
            intro MJ58_23 v24 IMJ58_23 FMJ58_23 hbJ58_230
            refine PW.incN q_271_58 rfl (by decide) (by decide) (by omega) (by omega) fun x25 hx25 => ?_
            refine PW.goto q_271_61 rfl ?_
            refine PW.lvS (lk1 rfl (lk1 rfl (lk1 rfl (lk1 rfl lk0)))) (ih_L271_27_11 _ ?_ MJ58_23 v24 x25 IMJ58_23 FMJ58_23 (by omega) (by omega) ⟨hbJ58_230.1, hbJ58_230.2⟩ rfl)
            omega
          refine PW.jz_ne q_271_42 rfl (fun h22 => ?_) (fun h22 => ?_)
          · skip
            refine PW.iload_n q_271_48 rfl ?_
            refine PW.iload_n q_271_49 rfl ?_
            refine PW.jc_ne q_271_50 rfl (fun h26 => ?_) (fun h26 => ?_)
            · skip
              refine PW.incH q_271_55 rfl (by decide) fun x27 => ?_
              exact PW.lvS (lk1 rfl (lk1 rfl (lk1 rfl (lk1 rfl lk0)))) (J58_23 M20 x27 IM20 FM20 ⟨((congrArg (fun e => o_i e 2) (Fr.at GM20 kd_294 rfl)).trans hbL271_27_112.1), (hbL271_27_112.2.cg (Fr.at GM20 kd_296 rfl) (Fr.at GM20 kd_294 rfl))⟩)
            · skip
              refine PW.iload_n q_271_53 rfl ?_
              refine PW.rI q_271_54 rfl (by decide) (by decide) ?_
              exact hK v13 M20 IM20 FM20 ⟨((congrArg (fun e => o_i e 2) (Fr.at GM20 kd_294 rfl)).trans hbL271_27_112.1), (hbL271_27_112.2.cg (Fr.at GM20 kd_296 rfl) (Fr.at GM20 kd_294 rfl))⟩
          · skip
            refine PW.goto q_271_45 rfl ?_
            exact PW.lvS (lk1 rfl (lk1 rfl (lk1 rfl (lk1 rfl lk0)))) (J58_23 M20 v12 IM20 FM20 ⟨((congrArg (fun e => o_i e 2) (Fr.at GM20 kd_294 rfl)).trans hbL271_27_112.1), (hbL271_27_112.2.cg (Fr.at GM20 kd_296 rfl) (Fr.at GM20 kd_294 rfl))⟩)
      exact PW.lvS (lk1 rfl (lk1 rfl (lk1 rfl (lk1 rfl lk0)))) (L271_27_11 _ M2 c9 c10 IM2 FM2 (by omega) (by omega) ⟨(UM2.i (c := 294) (k := 2) (Or.inr (by decide))), (gHq.refl.pu UM2 (by decide))⟩ rfl)
    · skip
      refine PW.cI q_271_21 (by decide) fun c28 hc28 => ?_
      refine PW.rI q_271_22 rfl (by decide) (by decide) ?_
      exact hK c28 M2 IM2 FM2 ⟨(UM2.i (c := 294) (k := 2) (Or.inr (by decide))), (gHq.refl.pu UM2 (by decide))⟩
