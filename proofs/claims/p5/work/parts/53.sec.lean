theorem q_203_0 : p_tb 203 0 = some (.iload_n 1, 1) := by decide +kernel
theorem q_203_1 : p_tb 203 1 = some (.iconst 1, 1) := by decide +kernel
theorem q_203_2 : p_tb 203 2 = some (.iadd, 1) := by decide +kernel
theorem q_203_3 : p_tb 203 3 = some (.aload_n 0, 1) := by decide +kernel
theorem q_203_4 : p_tb 203 4 = some (.getfield 33, 3) := by decide +kernel
theorem q_203_7 : p_tb 203 7 = some (.iconst 0, 1) := by decide +kernel
theorem q_203_8 : p_tb 203 8 = some (.iaload, 1) := by decide +kernel
theorem q_203_9 : p_tb 203 9 = some (.irem, 1) := by decide +kernel
theorem q_203_10 : p_tb 203 10 = some (.ireturn, 1) := by decide +kernel
theorem t_ft_203_33 : p_f2 p_ft (p_mK 203) 33 = some (11, 6) := by decide +kernel
theorem gB_42_0_0 : gB 42 0 0 0 6 := gB.of (by decide +kernel)
theorem q_170_0 : p_tb 170 0 = some (.iload_n 0, 1) := by decide +kernel
theorem q_170_1 : p_tb 170 1 = some (.iload_n 1, 1) := by decide +kernel
theorem q_170_2 : p_tb 170 2 = some (.if_icmp .ge 9, 3) := by decide +kernel
theorem q_170_5 : p_tb 170 5 = some (.iload_n 1, 1) := by decide +kernel
theorem q_170_6 : p_tb 170 6 = some (.iload_n 0, 1) := by decide +kernel
theorem q_170_7 : p_tb 170 7 = some (.isub, 1) := by decide +kernel
theorem q_170_8 : p_tb 170 8 = some (.goto 6, 3) := by decide +kernel
theorem q_170_11 : p_tb 170 11 = some (.iload_n 0, 1) := by decide +kernel
theorem q_170_12 : p_tb 170 12 = some (.iload_n 1, 1) := by decide +kernel
theorem q_170_13 : p_tb 170 13 = some (.isub, 1) := by decide +kernel
theorem q_170_14 : p_tb 170 14 = some (.ireturn, 1) := by decide +kernel
theorem q_204_0 : p_tb 204 0 = some (.iconst (-1), 1) := by decide +kernel
theorem q_204_1 : p_tb 204 1 = some (.istore_n 3, 1) := by decide +kernel
theorem q_204_2 : p_tb 204 2 = some (.iconst 0, 1) := by decide +kernel
theorem q_204_3 : p_tb 204 3 = some (.istore 4, 2) := by decide +kernel
theorem q_204_5 : p_tb 204 5 = some (.iload 4, 2) := by decide +kernel
theorem q_204_7 : p_tb 204 7 = some (.aload_n 0, 1) := by decide +kernel
theorem q_204_8 : p_tb 204 8 = some (.getfield 33, 3) := by decide +kernel
theorem q_204_11 : p_tb 204 11 = some (.iconst 0, 1) := by decide +kernel
theorem q_204_12 : p_tb 204 12 = some (.iaload, 1) := by decide +kernel
theorem q_204_13 : p_tb 204 13 = some (.if_icmp .ge 52, 3) := by decide +kernel
theorem q_204_16 : p_tb 204 16 = some (.iload 4, 2) := by decide +kernel
theorem q_204_18 : p_tb 204 18 = some (.iload_n 2, 1) := by decide +kernel
theorem q_204_19 : p_tb 204 19 = some (.if_icmp .eq 40, 3) := by decide +kernel
theorem q_204_22 : p_tb 204 22 = some (.iload_n 3, 1) := by decide +kernel
theorem q_204_23 : p_tb 204 23 = some (.ifCond .lt 33, 3) := by decide +kernel
theorem q_204_26 : p_tb 204 26 = some (.aload_n 0, 1) := by decide +kernel
theorem q_204_27 : p_tb 204 27 = some (.getfield 33, 3) := by decide +kernel
theorem q_204_30 : p_tb 204 30 = some (.bipush 36, 2) := by decide +kernel
theorem q_204_32 : p_tb 204 32 = some (.iload 4, 2) := by decide +kernel
theorem q_204_34 : p_tb 204 34 = some (.iadd, 1) := by decide +kernel
theorem q_204_35 : p_tb 204 35 = some (.iaload, 1) := by decide +kernel
theorem q_204_36 : p_tb 204 36 = some (.iload_n 1, 1) := by decide +kernel
theorem q_204_37 : p_tb 204 37 = some (.invokestatic 244, 3) := by decide +kernel
theorem q_204_40 : p_tb 204 40 = some (.aload_n 0, 1) := by decide +kernel
theorem q_204_41 : p_tb 204 41 = some (.getfield 33, 3) := by decide +kernel
theorem q_204_44 : p_tb 204 44 = some (.bipush 36, 2) := by decide +kernel
theorem q_204_46 : p_tb 204 46 = some (.iload_n 3, 1) := by decide +kernel
theorem q_204_47 : p_tb 204 47 = some (.iadd, 1) := by decide +kernel
theorem q_204_48 : p_tb 204 48 = some (.iaload, 1) := by decide +kernel
theorem q_204_49 : p_tb 204 49 = some (.iload_n 1, 1) := by decide +kernel
theorem q_204_50 : p_tb 204 50 = some (.invokestatic 244, 3) := by decide +kernel
theorem q_204_53 : p_tb 204 53 = some (.if_icmp .ge 6, 3) := by decide +kernel
theorem q_204_56 : p_tb 204 56 = some (.iload 4, 2) := by decide +kernel
theorem q_204_58 : p_tb 204 58 = some (.istore_n 3, 1) := by decide +kernel
theorem q_204_59 : p_tb 204 59 = some (.iinc 4 1, 3) := by decide +kernel
theorem q_204_62 : p_tb 204 62 = some (.goto (-57), 3) := by decide +kernel
theorem q_204_65 : p_tb 204 65 = some (.iload_n 3, 1) := by decide +kernel
theorem q_204_66 : p_tb 204 66 = some (.ireturn, 1) := by decide +kernel
theorem t_ft_204_33 : p_f2 p_ft (p_mK 204) 33 = some (11, 6) := by decide +kernel
theorem t_ms_204_244 : p_f2 p_ms (p_mK 204) 244 = some 170 := by decide +kernel
theorem q_205_0 : p_tb 205 0 = some (.iconst (-1), 1) := by decide +kernel
theorem q_205_1 : p_tb 205 1 = some (.istore 4, 2) := by decide +kernel
theorem q_205_3 : p_tb 205 3 = some (.iconst 0, 1) := by decide +kernel
theorem q_205_4 : p_tb 205 4 = some (.istore 5, 2) := by decide +kernel
theorem q_205_6 : p_tb 205 6 = some (.iload 5, 2) := by decide +kernel
theorem q_205_8 : p_tb 205 8 = some (.iload_n 2, 1) := by decide +kernel
theorem q_205_9 : p_tb 205 9 = some (.if_icmp .ge 39, 3) := by decide +kernel
theorem q_205_12 : p_tb 205 12 = some (.iload 5, 2) := by decide +kernel
theorem q_205_14 : p_tb 205 14 = some (.iload_n 3, 1) := by decide +kernel
theorem q_205_15 : p_tb 205 15 = some (.if_icmp .eq 27, 3) := by decide +kernel
theorem q_205_18 : p_tb 205 18 = some (.iload 4, 2) := by decide +kernel
theorem q_205_20 : p_tb 205 20 = some (.ifCond .lt 18, 3) := by decide +kernel
theorem q_205_23 : p_tb 205 23 = some (.aload_n 0, 1) := by decide +kernel
theorem q_205_24 : p_tb 205 24 = some (.iload_n 1, 1) := by decide +kernel
theorem q_205_25 : p_tb 205 25 = some (.iload 5, 2) := by decide +kernel
theorem q_205_27 : p_tb 205 27 = some (.iadd, 1) := by decide +kernel
theorem q_205_28 : p_tb 205 28 = some (.iaload, 1) := by decide +kernel
theorem q_205_29 : p_tb 205 29 = some (.aload_n 0, 1) := by decide +kernel
theorem q_205_30 : p_tb 205 30 = some (.iload_n 1, 1) := by decide +kernel
theorem q_205_31 : p_tb 205 31 = some (.iload 4, 2) := by decide +kernel
theorem q_205_33 : p_tb 205 33 = some (.iadd, 1) := by decide +kernel
theorem q_205_34 : p_tb 205 34 = some (.iaload, 1) := by decide +kernel
theorem q_205_35 : p_tb 205 35 = some (.if_icmp .ge 7, 3) := by decide +kernel
theorem q_205_38 : p_tb 205 38 = some (.iload 5, 2) := by decide +kernel
theorem q_205_40 : p_tb 205 40 = some (.istore 4, 2) := by decide +kernel
theorem q_205_42 : p_tb 205 42 = some (.iinc 5 1, 3) := by decide +kernel
theorem q_205_45 : p_tb 205 45 = some (.goto (-39), 3) := by decide +kernel
theorem q_205_48 : p_tb 205 48 = some (.iload 4, 2) := by decide +kernel
theorem q_205_50 : p_tb 205 50 = some (.ireturn, 1) := by decide +kernel
theorem gB_42_88_99 : gB 42 88 99 0 602 := gB.of (by decide +kernel)
theorem q_206_0 : p_tb 206 0 = some (.aload_n 0, 1) := by decide +kernel
theorem q_206_1 : p_tb 206 1 = some (.getfield 33, 3) := by decide +kernel
theorem q_206_4 : p_tb 206 4 = some (.bipush 86, 2) := by decide +kernel
theorem q_206_6 : p_tb 206 6 = some (.iload_n 1, 1) := by decide +kernel
theorem q_206_7 : p_tb 206 7 = some (.iadd, 1) := by decide +kernel
theorem q_206_8 : p_tb 206 8 = some (.iaload, 1) := by decide +kernel
theorem q_206_9 : p_tb 206 9 = some (.istore_n 2, 1) := by decide +kernel
theorem q_206_10 : p_tb 206 10 = some (.aload_n 0, 1) := by decide +kernel
theorem q_206_11 : p_tb 206 11 = some (.getfield 33, 3) := by decide +kernel
theorem q_206_14 : p_tb 206 14 = some (.iconst 0, 1) := by decide +kernel
theorem q_206_15 : p_tb 206 15 = some (.iaload, 1) := by decide +kernel
theorem q_206_16 : p_tb 206 16 = some (.iconst 2, 1) := by decide +kernel
theorem q_206_17 : p_tb 206 17 = some (.if_icmp .ge 5, 3) := by decide +kernel
theorem q_206_20 : p_tb 206 20 = some (.iconst (-1), 1) := by decide +kernel
theorem q_206_21 : p_tb 206 21 = some (.ireturn, 1) := by decide +kernel
theorem q_206_22 : p_tb 206 22 = some (.aload_n 0, 1) := by decide +kernel
theorem q_206_23 : p_tb 206 23 = some (.getfield 33, 3) := by decide +kernel
theorem q_206_26 : p_tb 206 26 = some (.bipush 34, 2) := by decide +kernel
theorem q_206_28 : p_tb 206 28 = some (.iaload, 1) := by decide +kernel
theorem q_206_29 : p_tb 206 29 = some (.ifCond .le 26, 3) := by decide +kernel
theorem q_206_32 : p_tb 206 32 = some (.aload_n 0, 1) := by decide +kernel
theorem q_206_33 : p_tb 206 33 = some (.getfield 33, 3) := by decide +kernel
theorem q_206_36 : p_tb 206 36 = some (.bipush 34, 2) := by decide +kernel
theorem q_206_38 : p_tb 206 38 = some (.iaload, 1) := by decide +kernel
theorem q_206_39 : p_tb 206 39 = some (.iconst 1, 1) := by decide +kernel
theorem q_206_40 : p_tb 206 40 = some (.isub, 1) := by decide +kernel
theorem q_206_41 : p_tb 206 41 = some (.iload_n 2, 1) := by decide +kernel
theorem q_206_42 : p_tb 206 42 = some (.if_icmp .eq 13, 3) := by decide +kernel
theorem q_206_45 : p_tb 206 45 = some (.aload_n 0, 1) := by decide +kernel
theorem q_206_46 : p_tb 206 46 = some (.getfield 33, 3) := by decide +kernel
theorem q_206_49 : p_tb 206 49 = some (.bipush 34, 2) := by decide +kernel
theorem q_206_51 : p_tb 206 51 = some (.iaload, 1) := by decide +kernel
theorem q_206_52 : p_tb 206 52 = some (.iconst 1, 1) := by decide +kernel
theorem q_206_53 : p_tb 206 53 = some (.isub, 1) := by decide +kernel
theorem q_206_54 : p_tb 206 54 = some (.ireturn, 1) := by decide +kernel
theorem q_206_55 : p_tb 206 55 = some (.aload_n 0, 1) := by decide +kernel
theorem q_206_56 : p_tb 206 56 = some (.getfield 33, 3) := by decide +kernel
theorem q_206_59 : p_tb 206 59 = some (.bipush 29, 2) := by decide +kernel
theorem q_206_61 : p_tb 206 61 = some (.iload_n 1, 1) := by decide +kernel
theorem q_206_62 : p_tb 206 62 = some (.iadd, 1) := by decide +kernel
theorem q_206_63 : p_tb 206 63 = some (.iaload, 1) := by decide +kernel
theorem q_206_64 : p_tb 206 64 = some (.tableswitch 106 1 3 #[28, 43, 65], 28) := by decide +kernel
theorem q_206_92 : p_tb 206 92 = some (.aload_n 0, 1) := by decide +kernel
theorem q_206_93 : p_tb 206 93 = some (.aload_n 0, 1) := by decide +kernel
theorem q_206_94 : p_tb 206 94 = some (.getfield 33, 3) := by decide +kernel
theorem q_206_97 : p_tb 206 97 = some (.bipush 74, 2) := by decide +kernel
theorem q_206_99 : p_tb 206 99 = some (.iload_n 1, 1) := by decide +kernel
theorem q_206_100 : p_tb 206 100 = some (.iadd, 1) := by decide +kernel
theorem q_206_101 : p_tb 206 101 = some (.iaload, 1) := by decide +kernel
theorem q_206_102 : p_tb 206 102 = some (.iload_n 2, 1) := by decide +kernel
theorem q_206_103 : p_tb 206 103 = some (.invokevirtual 257, 3) := by decide +kernel
theorem q_206_106 : p_tb 206 106 = some (.ireturn, 1) := by decide +kernel
theorem q_206_107 : p_tb 206 107 = some (.aload_n 0, 1) := by decide +kernel
theorem q_206_108 : p_tb 206 108 = some (.getfield 33, 3) := by decide +kernel
theorem q_206_111 : p_tb 206 111 = some (.bipush 88, 2) := by decide +kernel
theorem q_206_113 : p_tb 206 113 = some (.bipush 6, 2) := by decide +kernel
theorem q_206_115 : p_tb 206 115 = some (.iload_n 1, 1) := by decide +kernel
theorem q_206_116 : p_tb 206 116 = some (.imul, 1) := by decide +kernel
theorem q_206_117 : p_tb 206 117 = some (.iadd, 1) := by decide +kernel
theorem q_206_118 : p_tb 206 118 = some (.aload_n 0, 1) := by decide +kernel
theorem q_206_119 : p_tb 206 119 = some (.getfield 33, 3) := by decide +kernel
theorem q_206_122 : p_tb 206 122 = some (.iconst 0, 1) := by decide +kernel
theorem q_206_123 : p_tb 206 123 = some (.iaload, 1) := by decide +kernel
theorem q_206_124 : p_tb 206 124 = some (.iload_n 2, 1) := by decide +kernel
theorem q_206_125 : p_tb 206 125 = some (.invokestatic 260, 3) := by decide +kernel
theorem q_206_128 : p_tb 206 128 = some (.ireturn, 1) := by decide +kernel
theorem q_206_129 : p_tb 206 129 = some (.aload_n 0, 1) := by decide +kernel
theorem q_206_130 : p_tb 206 130 = some (.getfield 33, 3) := by decide +kernel
theorem q_206_133 : p_tb 206 133 = some (.bipush 35, 2) := by decide +kernel
theorem q_206_135 : p_tb 206 135 = some (.iaload, 1) := by decide +kernel
theorem q_206_136 : p_tb 206 136 = some (.ifCond .le 28, 3) := by decide +kernel
theorem q_206_139 : p_tb 206 139 = some (.aload_n 0, 1) := by decide +kernel
theorem q_206_140 : p_tb 206 140 = some (.getfield 33, 3) := by decide +kernel
theorem q_206_143 : p_tb 206 143 = some (.bipush 35, 2) := by decide +kernel
theorem q_206_145 : p_tb 206 145 = some (.iaload, 1) := by decide +kernel
theorem q_206_146 : p_tb 206 146 = some (.iconst 1, 1) := by decide +kernel
theorem q_206_147 : p_tb 206 147 = some (.isub, 1) := by decide +kernel
theorem q_206_148 : p_tb 206 148 = some (.iload_n 2, 1) := by decide +kernel
theorem q_206_149 : p_tb 206 149 = some (.if_icmp .eq 15, 3) := by decide +kernel
theorem q_206_152 : p_tb 206 152 = some (.aload_n 0, 1) := by decide +kernel
theorem q_206_153 : p_tb 206 153 = some (.getfield 33, 3) := by decide +kernel
theorem q_206_156 : p_tb 206 156 = some (.bipush 35, 2) := by decide +kernel
theorem q_206_158 : p_tb 206 158 = some (.iaload, 1) := by decide +kernel
theorem q_206_159 : p_tb 206 159 = some (.iconst 1, 1) := by decide +kernel
theorem q_206_160 : p_tb 206 160 = some (.isub, 1) := by decide +kernel
theorem q_206_161 : p_tb 206 161 = some (.goto 8, 3) := by decide +kernel
theorem q_206_164 : p_tb 206 164 = some (.aload_n 0, 1) := by decide +kernel
theorem q_206_165 : p_tb 206 165 = some (.iload_n 2, 1) := by decide +kernel
theorem q_206_166 : p_tb 206 166 = some (.invokevirtual 264, 3) := by decide +kernel
theorem q_206_169 : p_tb 206 169 = some (.ireturn, 1) := by decide +kernel
theorem q_206_170 : p_tb 206 170 = some (.aload_n 0, 1) := by decide +kernel
theorem q_206_171 : p_tb 206 171 = some (.iload_n 2, 1) := by decide +kernel
theorem q_206_172 : p_tb 206 172 = some (.invokevirtual 264, 3) := by decide +kernel
theorem q_206_175 : p_tb 206 175 = some (.ireturn, 1) := by decide +kernel
theorem t_ft_206_33 : p_f2 p_ft (p_mK 206) 33 = some (11, 6) := by decide +kernel
theorem t_ms_206_260 : p_f2 p_ms (p_mK 206) 260 = some 205 := by decide +kernel
theorem t_mv_206_257 : p_f2 p_mv (p_mK 206) 257 = some 204 := by decide +kernel
theorem t_mv_206_264 : p_f2 p_mv (p_mK 206) 264 = some 203 := by decide +kernel
theorem gB_42_34_34 : gB 42 34 34 0 6 := gB.of (by decide +kernel)
theorem gB_42_35_35 : gB 42 35 35 0 6 := gB.of (by decide +kernel)
theorem gB_42_86_87 : gB 42 86 87 0 5 := gB.of (by decide +kernel)
theorem q_168_0 : p_tb 168 0 = some (.iload_n 0, 1) := by decide +kernel
theorem q_168_1 : p_tb 168 1 = some (.iload_n 1, 1) := by decide +kernel
theorem q_168_2 : p_tb 168 2 = some (.if_icmp .ge 7, 3) := by decide +kernel
theorem q_168_5 : p_tb 168 5 = some (.iload_n 0, 1) := by decide +kernel
theorem q_168_6 : p_tb 168 6 = some (.goto 4, 3) := by decide +kernel
theorem q_168_9 : p_tb 168 9 = some (.iload_n 1, 1) := by decide +kernel
theorem q_168_10 : p_tb 168 10 = some (.ireturn, 1) := by decide +kernel
theorem q_169_0 : p_tb 169 0 = some (.iload_n 0, 1) := by decide +kernel
theorem q_169_1 : p_tb 169 1 = some (.iload_n 1, 1) := by decide +kernel
theorem q_169_2 : p_tb 169 2 = some (.if_icmp .le 7, 3) := by decide +kernel
theorem q_169_5 : p_tb 169 5 = some (.iload_n 0, 1) := by decide +kernel
theorem q_169_6 : p_tb 169 6 = some (.goto 4, 3) := by decide +kernel
theorem q_169_9 : p_tb 169 9 = some (.iload_n 1, 1) := by decide +kernel
theorem q_169_10 : p_tb 169 10 = some (.ireturn, 1) := by decide +kernel
theorem q_207_0 : p_tb 207 0 = some (.aload_n 0, 1) := by decide +kernel
theorem q_207_1 : p_tb 207 1 = some (.getfield 33, 3) := by decide +kernel
theorem q_207_4 : p_tb 207 4 = some (.bipush 36, 2) := by decide +kernel
theorem q_207_6 : p_tb 207 6 = some (.iload_n 1, 1) := by decide +kernel
theorem q_207_7 : p_tb 207 7 = some (.iadd, 1) := by decide +kernel
theorem q_207_8 : p_tb 207 8 = some (.iaload, 1) := by decide +kernel
theorem q_207_9 : p_tb 207 9 = some (.istore_n 2, 1) := by decide +kernel
theorem q_207_10 : p_tb 207 10 = some (.aload_n 0, 1) := by decide +kernel
theorem q_207_11 : p_tb 207 11 = some (.getfield 33, 3) := by decide +kernel
theorem q_207_14 : p_tb 207 14 = some (.bipush 42, 2) := by decide +kernel
theorem q_207_16 : p_tb 207 16 = some (.iload_n 1, 1) := by decide +kernel
theorem q_207_17 : p_tb 207 17 = some (.iadd, 1) := by decide +kernel
theorem q_207_18 : p_tb 207 18 = some (.iaload, 1) := by decide +kernel
theorem q_207_19 : p_tb 207 19 = some (.iconst 1, 1) := by decide +kernel
theorem q_207_20 : p_tb 207 20 = some (.if_icmp .ne 21, 3) := by decide +kernel
theorem q_207_23 : p_tb 207 23 = some (.iconst 0, 1) := by decide +kernel
theorem q_207_24 : p_tb 207 24 = some (.iload_n 2, 1) := by decide +kernel
theorem q_207_25 : p_tb 207 25 = some (.aload_n 0, 1) := by decide +kernel
theorem q_207_26 : p_tb 207 26 = some (.getfield 33, 3) := by decide +kernel
theorem q_207_29 : p_tb 207 29 = some (.bipush 11, 2) := by decide +kernel
theorem q_207_31 : p_tb 207 31 = some (.iload_n 1, 1) := by decide +kernel
theorem q_207_32 : p_tb 207 32 = some (.iadd, 1) := by decide +kernel
theorem q_207_33 : p_tb 207 33 = some (.iaload, 1) := by decide +kernel
theorem q_207_34 : p_tb 207 34 = some (.isub, 1) := by decide +kernel
theorem q_207_35 : p_tb 207 35 = some (.invokestatic 268, 3) := by decide +kernel
theorem q_207_38 : p_tb 207 38 = some (.goto 23, 3) := by decide +kernel
theorem q_207_41 : p_tb 207 41 = some (.aload_n 0, 1) := by decide +kernel
theorem q_207_42 : p_tb 207 42 = some (.getfield 33, 3) := by decide +kernel
theorem q_207_45 : p_tb 207 45 = some (.iconst 2, 1) := by decide +kernel
theorem q_207_46 : p_tb 207 46 = some (.iaload, 1) := by decide +kernel
theorem q_207_47 : p_tb 207 47 = some (.iload_n 2, 1) := by decide +kernel
theorem q_207_48 : p_tb 207 48 = some (.aload_n 0, 1) := by decide +kernel
theorem q_207_49 : p_tb 207 49 = some (.getfield 33, 3) := by decide +kernel
theorem q_207_52 : p_tb 207 52 = some (.bipush 11, 2) := by decide +kernel
theorem q_207_54 : p_tb 207 54 = some (.iload_n 1, 1) := by decide +kernel
theorem q_207_55 : p_tb 207 55 = some (.iadd, 1) := by decide +kernel
theorem q_207_56 : p_tb 207 56 = some (.iaload, 1) := by decide +kernel
theorem q_207_57 : p_tb 207 57 = some (.iadd, 1) := by decide +kernel
theorem q_207_58 : p_tb 207 58 = some (.invokestatic 271, 3) := by decide +kernel
theorem q_207_61 : p_tb 207 61 = some (.istore_n 3, 1) := by decide +kernel
theorem q_207_62 : p_tb 207 62 = some (.aload_n 0, 1) := by decide +kernel
theorem q_207_63 : p_tb 207 63 = some (.getfield 33, 3) := by decide +kernel
theorem q_207_66 : p_tb 207 66 = some (.bipush 36, 2) := by decide +kernel
theorem q_207_68 : p_tb 207 68 = some (.iload_n 1, 1) := by decide +kernel
theorem q_207_69 : p_tb 207 69 = some (.iadd, 1) := by decide +kernel
theorem q_207_70 : p_tb 207 70 = some (.iload_n 3, 1) := by decide +kernel
theorem q_207_71 : p_tb 207 71 = some (.iastore, 1) := by decide +kernel
theorem q_207_72 : p_tb 207 72 = some (.aload_n 0, 1) := by decide +kernel
theorem q_207_73 : p_tb 207 73 = some (.getfield 33, 3) := by decide +kernel
theorem q_207_76 : p_tb 207 76 = some (.bipush 67, 2) := by decide +kernel
theorem q_207_78 : p_tb 207 78 = some (.iload_n 1, 1) := by decide +kernel
theorem q_207_79 : p_tb 207 79 = some (.iadd, 1) := by decide +kernel
theorem q_207_80 : p_tb 207 80 = some (.dup2, 1) := by decide +kernel
theorem q_207_81 : p_tb 207 81 = some (.iaload, 1) := by decide +kernel
theorem q_207_82 : p_tb 207 82 = some (.iload_n 2, 1) := by decide +kernel
theorem q_207_83 : p_tb 207 83 = some (.iload_n 3, 1) := by decide +kernel
theorem q_207_84 : p_tb 207 84 = some (.invokestatic 244, 3) := by decide +kernel
theorem q_207_87 : p_tb 207 87 = some (.iadd, 1) := by decide +kernel
theorem q_207_88 : p_tb 207 88 = some (.iastore, 1) := by decide +kernel
theorem q_207_89 : p_tb 207 89 = some (.aload_n 0, 1) := by decide +kernel
theorem q_207_90 : p_tb 207 90 = some (.getfield 33, 3) := by decide +kernel
theorem q_207_93 : p_tb 207 93 = some (.bipush 73, 2) := by decide +kernel
theorem q_207_95 : p_tb 207 95 = some (.dup2, 1) := by decide +kernel
theorem q_207_96 : p_tb 207 96 = some (.iaload, 1) := by decide +kernel
theorem q_207_97 : p_tb 207 97 = some (.iload_n 2, 1) := by decide +kernel
theorem q_207_98 : p_tb 207 98 = some (.iload_n 3, 1) := by decide +kernel
theorem q_207_99 : p_tb 207 99 = some (.if_icmp .eq 9, 3) := by decide +kernel
theorem q_207_102 : p_tb 207 102 = some (.iconst 1, 1) := by decide +kernel
theorem q_207_103 : p_tb 207 103 = some (.iload_n 1, 1) := by decide +kernel
theorem q_207_104 : p_tb 207 104 = some (.ishl, 1) := by decide +kernel
theorem q_207_105 : p_tb 207 105 = some (.goto 4, 3) := by decide +kernel
theorem q_207_108 : p_tb 207 108 = some (.iconst 0, 1) := by decide +kernel
theorem q_207_109 : p_tb 207 109 = some (.ior, 1) := by decide +kernel
theorem q_207_110 : p_tb 207 110 = some (.iastore, 1) := by decide +kernel
theorem q_207_111 : p_tb 207 111 = some (.return_, 1) := by decide +kernel
theorem t_ft_207_33 : p_f2 p_ft (p_mK 207) 33 = some (11, 6) := by decide +kernel
theorem t_ms_207_244 : p_f2 p_ms (p_mK 207) 244 = some 170 := by decide +kernel
theorem t_ms_207_268 : p_f2 p_ms (p_mK 207) 268 = some 169 := by decide +kernel
theorem t_ms_207_271 : p_f2 p_ms (p_mK 207) 271 = some 168 := by decide +kernel
theorem gB_42_11_16 : gB 42 11 16 0 9 := gB.of (by decide +kernel)
theorem gN_36_41 : ∀ c, 36 ≤ c → c ≤ 41 → g_no c := fun c h1 h2 => by unfold g_no; omega
theorem gN_67_72 : ∀ c, 67 ≤ c → c ≤ 72 → g_no c := fun c h1 h2 => by unfold g_no; omega
theorem gN_73_73 : ∀ c, 73 ≤ c → c ≤ 73 → g_no c := fun c h1 h2 => by unfold g_no; omega
theorem gC_42_36_41 : gC 42 36 41 (-2147483648) 2147483647 := gC.of (by decide +kernel)
theorem gC_42_67_72 : gC 42 67 72 (-2147483648) 2147483647 := gC.of (by decide +kernel)
theorem gC_42_73_73 : gC 42 73 73 (-2147483648) 2147483647 := gC.of (by decide +kernel)
theorem q_208_0 : p_tb 208 0 = some (.aload_n 0, 1) := by decide +kernel
theorem q_208_1 : p_tb 208 1 = some (.getfield 33, 3) := by decide +kernel
theorem q_208_4 : p_tb 208 4 = some (.bipush 55, 2) := by decide +kernel
theorem q_208_6 : p_tb 208 6 = some (.iload_n 2, 1) := by decide +kernel
theorem q_208_7 : p_tb 208 7 = some (.iadd, 1) := by decide +kernel
theorem q_208_8 : p_tb 208 8 = some (.aload_n 0, 1) := by decide +kernel
theorem q_208_9 : p_tb 208 9 = some (.getfield 33, 3) := by decide +kernel
theorem q_208_12 : p_tb 208 12 = some (.bipush 33, 2) := by decide +kernel
theorem q_208_14 : p_tb 208 14 = some (.iaload, 1) := by decide +kernel
theorem q_208_15 : p_tb 208 15 = some (.iconst 1, 1) := by decide +kernel
theorem q_208_16 : p_tb 208 16 = some (.iadd, 1) := by decide +kernel
theorem q_208_17 : p_tb 208 17 = some (.iastore, 1) := by decide +kernel
theorem q_208_18 : p_tb 208 18 = some (.aload_n 0, 1) := by decide +kernel
theorem q_208_19 : p_tb 208 19 = some (.getfield 33, 3) := by decide +kernel
theorem q_208_22 : p_tb 208 22 = some (.bipush 61, 2) := by decide +kernel
theorem q_208_24 : p_tb 208 24 = some (.iload_n 2, 1) := by decide +kernel
theorem q_208_25 : p_tb 208 25 = some (.iadd, 1) := by decide +kernel
theorem q_208_26 : p_tb 208 26 = some (.dup2, 1) := by decide +kernel
theorem q_208_27 : p_tb 208 27 = some (.iaload, 1) := by decide +kernel
theorem q_208_28 : p_tb 208 28 = some (.iconst 1, 1) := by decide +kernel
theorem q_208_29 : p_tb 208 29 = some (.iadd, 1) := by decide +kernel
theorem q_208_30 : p_tb 208 30 = some (.iastore, 1) := by decide +kernel
theorem q_208_31 : p_tb 208 31 = some (.aload_n 0, 1) := by decide +kernel
theorem q_208_32 : p_tb 208 32 = some (.getfield 33, 3) := by decide +kernel
theorem q_208_35 : p_tb 208 35 = some (.bipush 100, 2) := by decide +kernel
theorem q_208_37 : p_tb 208 37 = some (.bipush 6, 2) := by decide +kernel
theorem q_208_39 : p_tb 208 39 = some (.aload_n 0, 1) := by decide +kernel
theorem q_208_40 : p_tb 208 40 = some (.getfield 33, 3) := by decide +kernel
theorem q_208_43 : p_tb 208 43 = some (.bipush 86, 2) := by decide +kernel
theorem q_208_45 : p_tb 208 45 = some (.iload_n 1, 1) := by decide +kernel
theorem q_208_46 : p_tb 208 46 = some (.iadd, 1) := by decide +kernel
theorem q_208_47 : p_tb 208 47 = some (.iaload, 1) := by decide +kernel
theorem q_208_48 : p_tb 208 48 = some (.imul, 1) := by decide +kernel
theorem q_208_49 : p_tb 208 49 = some (.iadd, 1) := by decide +kernel
theorem q_208_50 : p_tb 208 50 = some (.iload_n 2, 1) := by decide +kernel
theorem q_208_51 : p_tb 208 51 = some (.iadd, 1) := by decide +kernel
theorem q_208_52 : p_tb 208 52 = some (.dup2, 1) := by decide +kernel
theorem q_208_53 : p_tb 208 53 = some (.iaload, 1) := by decide +kernel
theorem q_208_54 : p_tb 208 54 = some (.iconst 1, 1) := by decide +kernel
theorem q_208_55 : p_tb 208 55 = some (.iadd, 1) := by decide +kernel
theorem q_208_56 : p_tb 208 56 = some (.iastore, 1) := by decide +kernel
theorem q_208_57 : p_tb 208 57 = some (.aload_n 0, 1) := by decide +kernel
theorem q_208_58 : p_tb 208 58 = some (.getfield 33, 3) := by decide +kernel
theorem q_208_61 : p_tb 208 61 = some (.bipush 88, 2) := by decide +kernel
theorem q_208_63 : p_tb 208 63 = some (.bipush 6, 2) := by decide +kernel
theorem q_208_65 : p_tb 208 65 = some (.iload_n 1, 1) := by decide +kernel
theorem q_208_66 : p_tb 208 66 = some (.imul, 1) := by decide +kernel
theorem q_208_67 : p_tb 208 67 = some (.iadd, 1) := by decide +kernel
theorem q_208_68 : p_tb 208 68 = some (.iload_n 2, 1) := by decide +kernel
theorem q_208_69 : p_tb 208 69 = some (.iadd, 1) := by decide +kernel
theorem q_208_70 : p_tb 208 70 = some (.aload_n 0, 1) := by decide +kernel
theorem q_208_71 : p_tb 208 71 = some (.getfield 33, 3) := by decide +kernel
theorem q_208_74 : p_tb 208 74 = some (.bipush 33, 2) := by decide +kernel
theorem q_208_76 : p_tb 208 76 = some (.iaload, 1) := by decide +kernel
theorem q_208_77 : p_tb 208 77 = some (.iconst 2, 1) := by decide +kernel
theorem q_208_78 : p_tb 208 78 = some (.iadd, 1) := by decide +kernel
theorem q_208_79 : p_tb 208 79 = some (.iastore, 1) := by decide +kernel
theorem q_208_80 : p_tb 208 80 = some (.bipush 20, 2) := by decide +kernel
theorem q_208_82 : p_tb 208 82 = some (.iload_n 1, 1) := by decide +kernel
theorem q_208_83 : p_tb 208 83 = some (.imul, 1) := by decide +kernel
theorem q_208_84 : p_tb 208 84 = some (.aload_n 0, 1) := by decide +kernel
theorem q_208_85 : p_tb 208 85 = some (.getfield 33, 3) := by decide +kernel
theorem q_208_88 : p_tb 208 88 = some (.bipush 80, 2) := by decide +kernel
theorem q_208_90 : p_tb 208 90 = some (.iload_n 1, 1) := by decide +kernel
theorem q_208_91 : p_tb 208 91 = some (.iadd, 1) := by decide +kernel
theorem q_208_92 : p_tb 208 92 = some (.iaload, 1) := by decide +kernel
theorem q_208_93 : p_tb 208 93 = some (.bipush 20, 2) := by decide +kernel
theorem q_208_95 : p_tb 208 95 = some (.irem, 1) := by decide +kernel
theorem q_208_96 : p_tb 208 96 = some (.iadd, 1) := by decide +kernel
theorem q_208_97 : p_tb 208 97 = some (.istore_n 3, 1) := by decide +kernel
theorem q_208_98 : p_tb 208 98 = some (.aload_n 0, 1) := by decide +kernel
theorem q_208_99 : p_tb 208 99 = some (.getfield 33, 3) := by decide +kernel
theorem q_208_102 : p_tb 208 102 = some (.sipush 136, 3) := by decide +kernel
theorem q_208_105 : p_tb 208 105 = some (.iload_n 3, 1) := by decide +kernel
theorem q_208_106 : p_tb 208 106 = some (.iadd, 1) := by decide +kernel
theorem q_208_107 : p_tb 208 107 = some (.iload_n 2, 1) := by decide +kernel
theorem q_208_108 : p_tb 208 108 = some (.iastore, 1) := by decide +kernel
theorem q_208_109 : p_tb 208 109 = some (.aload_n 0, 1) := by decide +kernel
theorem q_208_110 : p_tb 208 110 = some (.getfield 33, 3) := by decide +kernel
theorem q_208_113 : p_tb 208 113 = some (.sipush 176, 3) := by decide +kernel
theorem q_208_116 : p_tb 208 116 = some (.iload_n 3, 1) := by decide +kernel
theorem q_208_117 : p_tb 208 117 = some (.iadd, 1) := by decide +kernel
theorem q_208_118 : p_tb 208 118 = some (.aload_n 0, 1) := by decide +kernel
theorem q_208_119 : p_tb 208 119 = some (.getfield 33, 3) := by decide +kernel
theorem q_208_122 : p_tb 208 122 = some (.bipush 36, 2) := by decide +kernel
theorem q_208_124 : p_tb 208 124 = some (.iload_n 2, 1) := by decide +kernel
theorem q_208_125 : p_tb 208 125 = some (.iadd, 1) := by decide +kernel
theorem q_208_126 : p_tb 208 126 = some (.iaload, 1) := by decide +kernel
theorem q_208_127 : p_tb 208 127 = some (.iastore, 1) := by decide +kernel
theorem q_208_128 : p_tb 208 128 = some (.aload_n 0, 1) := by decide +kernel
theorem q_208_129 : p_tb 208 129 = some (.getfield 33, 3) := by decide +kernel
theorem q_208_132 : p_tb 208 132 = some (.bipush 86, 2) := by decide +kernel
theorem q_208_134 : p_tb 208 134 = some (.iload_n 1, 1) := by decide +kernel
theorem q_208_135 : p_tb 208 135 = some (.iadd, 1) := by decide +kernel
theorem q_208_136 : p_tb 208 136 = some (.iload_n 2, 1) := by decide +kernel
theorem q_208_137 : p_tb 208 137 = some (.iastore, 1) := by decide +kernel
theorem q_208_138 : p_tb 208 138 = some (.aload_n 0, 1) := by decide +kernel
theorem q_208_139 : p_tb 208 139 = some (.getfield 33, 3) := by decide +kernel
theorem q_208_142 : p_tb 208 142 = some (.bipush 84, 2) := by decide +kernel
theorem q_208_144 : p_tb 208 144 = some (.iload_n 1, 1) := by decide +kernel
theorem q_208_145 : p_tb 208 145 = some (.iadd, 1) := by decide +kernel
theorem q_208_146 : p_tb 208 146 = some (.aload_n 0, 1) := by decide +kernel
theorem q_208_147 : p_tb 208 147 = some (.getfield 33, 3) := by decide +kernel
theorem q_208_150 : p_tb 208 150 = some (.bipush 27, 2) := by decide +kernel
theorem q_208_152 : p_tb 208 152 = some (.iload_n 1, 1) := by decide +kernel
theorem q_208_153 : p_tb 208 153 = some (.iadd, 1) := by decide +kernel
theorem q_208_154 : p_tb 208 154 = some (.iaload, 1) := by decide +kernel
theorem q_208_155 : p_tb 208 155 = some (.iastore, 1) := by decide +kernel
theorem q_208_156 : p_tb 208 156 = some (.aload_n 0, 1) := by decide +kernel
theorem q_208_157 : p_tb 208 157 = some (.getfield 33, 3) := by decide +kernel
theorem q_208_160 : p_tb 208 160 = some (.bipush 82, 2) := by decide +kernel
theorem q_208_162 : p_tb 208 162 = some (.iload_n 1, 1) := by decide +kernel
theorem q_208_163 : p_tb 208 163 = some (.iadd, 1) := by decide +kernel
theorem q_208_164 : p_tb 208 164 = some (.iconst 0, 1) := by decide +kernel
theorem q_208_165 : p_tb 208 165 = some (.iastore, 1) := by decide +kernel
theorem q_208_166 : p_tb 208 166 = some (.aload_n 0, 1) := by decide +kernel
theorem q_208_167 : p_tb 208 167 = some (.getfield 33, 3) := by decide +kernel
theorem q_208_170 : p_tb 208 170 = some (.bipush 80, 2) := by decide +kernel
theorem q_208_172 : p_tb 208 172 = some (.iload_n 1, 1) := by decide +kernel
theorem q_208_173 : p_tb 208 173 = some (.iadd, 1) := by decide +kernel
theorem q_208_174 : p_tb 208 174 = some (.dup2, 1) := by decide +kernel
theorem q_208_175 : p_tb 208 175 = some (.iaload, 1) := by decide +kernel
theorem q_208_176 : p_tb 208 176 = some (.iconst 1, 1) := by decide +kernel
theorem q_208_177 : p_tb 208 177 = some (.iadd, 1) := by decide +kernel
theorem q_208_178 : p_tb 208 178 = some (.iastore, 1) := by decide +kernel
theorem q_208_179 : p_tb 208 179 = some (.aload_n 0, 1) := by decide +kernel
theorem q_208_180 : p_tb 208 180 = some (.getfield 33, 3) := by decide +kernel
theorem q_208_183 : p_tb 208 183 = some (.bipush 34, 2) := by decide +kernel
theorem q_208_185 : p_tb 208 185 = some (.iaload, 1) := by decide +kernel
theorem q_208_186 : p_tb 208 186 = some (.iload_n 2, 1) := by decide +kernel
theorem q_208_187 : p_tb 208 187 = some (.iconst 1, 1) := by decide +kernel
theorem q_208_188 : p_tb 208 188 = some (.iadd, 1) := by decide +kernel
theorem q_208_189 : p_tb 208 189 = some (.if_icmp .ne 11, 3) := by decide +kernel
theorem q_208_192 : p_tb 208 192 = some (.aload_n 0, 1) := by decide +kernel
theorem q_208_193 : p_tb 208 193 = some (.getfield 33, 3) := by decide +kernel
theorem q_208_196 : p_tb 208 196 = some (.bipush 34, 2) := by decide +kernel
theorem q_208_198 : p_tb 208 198 = some (.iconst 0, 1) := by decide +kernel
theorem q_208_199 : p_tb 208 199 = some (.iastore, 1) := by decide +kernel
theorem q_208_200 : p_tb 208 200 = some (.aload_n 0, 1) := by decide +kernel
theorem q_208_201 : p_tb 208 201 = some (.getfield 33, 3) := by decide +kernel
theorem q_208_204 : p_tb 208 204 = some (.bipush 31, 2) := by decide +kernel
theorem q_208_206 : p_tb 208 206 = some (.iload_n 1, 1) := by decide +kernel
theorem q_208_207 : p_tb 208 207 = some (.iadd, 1) := by decide +kernel
theorem q_208_208 : p_tb 208 208 = some (.iaload, 1) := by decide +kernel
theorem q_208_209 : p_tb 208 209 = some (.ifCond .le 49, 3) := by decide +kernel
theorem q_208_212 : p_tb 208 212 = some (.aload_n 0, 1) := by decide +kernel
theorem q_208_213 : p_tb 208 213 = some (.getfield 33, 3) := by decide +kernel
theorem q_208_216 : p_tb 208 216 = some (.bipush 80, 2) := by decide +kernel
theorem q_208_218 : p_tb 208 218 = some (.iload_n 1, 1) := by decide +kernel
theorem q_208_219 : p_tb 208 219 = some (.iadd, 1) := by decide +kernel
theorem q_208_220 : p_tb 208 220 = some (.iaload, 1) := by decide +kernel
theorem q_208_221 : p_tb 208 221 = some (.aload_n 0, 1) := by decide +kernel
theorem q_208_222 : p_tb 208 222 = some (.getfield 33, 3) := by decide +kernel
theorem q_208_225 : p_tb 208 225 = some (.bipush 31, 2) := by decide +kernel
theorem q_208_227 : p_tb 208 227 = some (.iload_n 1, 1) := by decide +kernel
theorem q_208_228 : p_tb 208 228 = some (.iadd, 1) := by decide +kernel
theorem q_208_229 : p_tb 208 229 = some (.iaload, 1) := by decide +kernel
theorem q_208_230 : p_tb 208 230 = some (.irem, 1) := by decide +kernel
theorem q_208_231 : p_tb 208 231 = some (.ifCond .ne 27, 3) := by decide +kernel
theorem q_208_234 : p_tb 208 234 = some (.aload_n 0, 1) := by decide +kernel
theorem q_208_235 : p_tb 208 235 = some (.getfield 33, 3) := by decide +kernel
theorem q_208_238 : p_tb 208 238 = some (.bipush 76, 2) := by decide +kernel
theorem q_208_240 : p_tb 208 240 = some (.iload_n 1, 1) := by decide +kernel
theorem q_208_241 : p_tb 208 241 = some (.iadd, 1) := by decide +kernel
theorem q_208_242 : p_tb 208 242 = some (.iconst 1, 1) := by decide +kernel
theorem q_208_243 : p_tb 208 243 = some (.aload_n 0, 1) := by decide +kernel
theorem q_208_244 : p_tb 208 244 = some (.getfield 33, 3) := by decide +kernel
theorem q_208_247 : p_tb 208 247 = some (.bipush 76, 2) := by decide +kernel
theorem q_208_249 : p_tb 208 249 = some (.iload_n 1, 1) := by decide +kernel
theorem q_208_250 : p_tb 208 250 = some (.iadd, 1) := by decide +kernel
theorem q_208_251 : p_tb 208 251 = some (.iaload, 1) := by decide +kernel
theorem q_208_252 : p_tb 208 252 = some (.iconst 1, 1) := by decide +kernel
theorem q_208_253 : p_tb 208 253 = some (.isub, 1) := by decide +kernel
theorem q_208_254 : p_tb 208 254 = some (.invokestatic 268, 3) := by decide +kernel
theorem q_208_257 : p_tb 208 257 = some (.iastore, 1) := by decide +kernel
theorem q_208_258 : p_tb 208 258 = some (.return_, 1) := by decide +kernel
theorem t_ft_208_33 : p_f2 p_ft (p_mK 208) 33 = some (11, 6) := by decide +kernel
theorem t_ms_208_268 : p_f2 p_ms (p_mK 208) 268 = some 169 := by decide +kernel
theorem gB_42_33_33 : gB 42 33 33 0 600 := gB.of (by decide +kernel)
theorem gB_42_80_80 : gB 42 80 80 0 600 := gB.of (by decide +kernel)
theorem gB_42_86_86 : gB 42 86 86 0 5 := gB.of (by decide +kernel)
theorem gN_100_135 : ∀ c, 100 ≤ c → c ≤ 135 → g_no c := fun c h1 h2 => by unfold g_no; omega
theorem gN_136_155 : ∀ c, 136 ≤ c → c ≤ 155 → g_no c := fun c h1 h2 => by unfold g_no; omega
theorem gN_176_195 : ∀ c, 176 ≤ c → c ≤ 195 → g_no c := fun c h1 h2 => by unfold g_no; omega
theorem gN_34_34 : ∀ c, 34 ≤ c → c ≤ 34 → g_no c := fun c h1 h2 => by unfold g_no; omega
theorem gN_55_60 : ∀ c, 55 ≤ c → c ≤ 60 → g_no c := fun c h1 h2 => by unfold g_no; omega
theorem gN_61_66 : ∀ c, 61 ≤ c → c ≤ 66 → g_no c := fun c h1 h2 => by unfold g_no; omega
theorem gN_76_76 : ∀ c, 76 ≤ c → c ≤ 76 → g_no c := fun c h1 h2 => by unfold g_no; omega
theorem gN_82_82 : ∀ c, 82 ≤ c → c ≤ 82 → g_no c := fun c h1 h2 => by unfold g_no; omega
theorem gN_84_84 : ∀ c, 84 ≤ c → c ≤ 84 → g_no c := fun c h1 h2 => by unfold g_no; omega
theorem gN_86_86 : ∀ c, 86 ≤ c → c ≤ 86 → g_no c := fun c h1 h2 => by unfold g_no; omega
theorem gN_88_93 : ∀ c, 88 ≤ c → c ≤ 93 → g_no c := fun c h1 h2 => by unfold g_no; omega
theorem gC_42_100_135 : gC 42 100 135 (-2147483648) 2147483647 := gC.of (by decide +kernel)
theorem gC_42_136_155 : gC 42 136 155 (-2147483648) 2147483647 := gC.of (by decide +kernel)
theorem gC_42_176_195 : gC 42 176 195 (-2147483648) 2147483647 := gC.of (by decide +kernel)
theorem gC_42_34_34 : gC 42 34 34 0 6 := gC.of (by decide +kernel)
theorem gC_42_55_60 : gC 42 55 60 (-2147483648) 2147483647 := gC.of (by decide +kernel)
theorem gC_42_61_66 : gC 42 61 66 (-2147483648) 2147483647 := gC.of (by decide +kernel)
theorem gC_42_76_76 : gC 42 76 76 (-2147483648) 2147483647 := gC.of (by decide +kernel)
theorem gC_42_82_82 : gC 42 82 82 0 6 := gC.of (by decide +kernel)
theorem gC_42_84_84 : gC 42 84 84 (-2147483648) 2147483647 := gC.of (by decide +kernel)
theorem gC_42_86_86 : gC 42 86 86 0 5 := gC.of (by decide +kernel)
theorem gC_42_88_93 : gC 42 88 93 0 602 := gC.of (by decide +kernel)
theorem gB_42_81_81 : gB 42 81 81 0 600 := gB.of (by decide +kernel)
theorem gB_42_87_87 : gB 42 87 87 0 5 := gB.of (by decide +kernel)
theorem gN_156_175 : ∀ c, 156 ≤ c → c ≤ 175 → g_no c := fun c h1 h2 => by unfold g_no; omega
theorem gN_196_215 : ∀ c, 196 ≤ c → c ≤ 215 → g_no c := fun c h1 h2 => by unfold g_no; omega
theorem gN_77_77 : ∀ c, 77 ≤ c → c ≤ 77 → g_no c := fun c h1 h2 => by unfold g_no; omega
theorem gN_83_83 : ∀ c, 83 ≤ c → c ≤ 83 → g_no c := fun c h1 h2 => by unfold g_no; omega
theorem gN_85_85 : ∀ c, 85 ≤ c → c ≤ 85 → g_no c := fun c h1 h2 => by unfold g_no; omega
theorem gN_87_87 : ∀ c, 87 ≤ c → c ≤ 87 → g_no c := fun c h1 h2 => by unfold g_no; omega
theorem gN_94_99 : ∀ c, 94 ≤ c → c ≤ 99 → g_no c := fun c h1 h2 => by unfold g_no; omega
theorem gC_42_156_175 : gC 42 156 175 (-2147483648) 2147483647 := gC.of (by decide +kernel)
theorem gC_42_196_215 : gC 42 196 215 (-2147483648) 2147483647 := gC.of (by decide +kernel)
theorem gC_42_77_77 : gC 42 77 77 (-2147483648) 2147483647 := gC.of (by decide +kernel)
theorem gC_42_83_83 : gC 42 83 83 0 6 := gC.of (by decide +kernel)
theorem gC_42_85_85 : gC 42 85 85 (-2147483648) 2147483647 := gC.of (by decide +kernel)
theorem gC_42_87_87 : gC 42 87 87 0 5 := gC.of (by decide +kernel)
theorem gC_42_94_99 : gC 42 94 99 0 602 := gC.of (by decide +kernel)
theorem q_209_0 : p_tb 209 0 = some (.aload_n 0, 1) := by decide +kernel
theorem q_209_1 : p_tb 209 1 = some (.getfield 33, 3) := by decide +kernel
theorem q_209_4 : p_tb 209 4 = some (.bipush 84, 2) := by decide +kernel
theorem q_209_6 : p_tb 209 6 = some (.iload_n 1, 1) := by decide +kernel
theorem q_209_7 : p_tb 209 7 = some (.iadd, 1) := by decide +kernel
theorem q_209_8 : p_tb 209 8 = some (.iaload, 1) := by decide +kernel
theorem q_209_9 : p_tb 209 9 = some (.ifCond .le 17, 3) := by decide +kernel
theorem q_209_12 : p_tb 209 12 = some (.aload_n 0, 1) := by decide +kernel
theorem q_209_13 : p_tb 209 13 = some (.getfield 33, 3) := by decide +kernel
theorem q_209_16 : p_tb 209 16 = some (.bipush 84, 2) := by decide +kernel
theorem q_209_18 : p_tb 209 18 = some (.iload_n 1, 1) := by decide +kernel
theorem q_209_19 : p_tb 209 19 = some (.iadd, 1) := by decide +kernel
theorem q_209_20 : p_tb 209 20 = some (.dup2, 1) := by decide +kernel
theorem q_209_21 : p_tb 209 21 = some (.iaload, 1) := by decide +kernel
theorem q_209_22 : p_tb 209 22 = some (.iconst 1, 1) := by decide +kernel
theorem q_209_23 : p_tb 209 23 = some (.isub, 1) := by decide +kernel
theorem q_209_24 : p_tb 209 24 = some (.iastore, 1) := by decide +kernel
theorem q_209_25 : p_tb 209 25 = some (.return_, 1) := by decide +kernel
theorem q_209_26 : p_tb 209 26 = some (.aload_n 0, 1) := by decide +kernel
theorem q_209_27 : p_tb 209 27 = some (.getfield 33, 3) := by decide +kernel
theorem q_209_30 : p_tb 209 30 = some (.bipush 82, 2) := by decide +kernel
theorem q_209_32 : p_tb 209 32 = some (.iload_n 1, 1) := by decide +kernel
theorem q_209_33 : p_tb 209 33 = some (.iadd, 1) := by decide +kernel
theorem q_209_34 : p_tb 209 34 = some (.iaload, 1) := by decide +kernel
theorem q_209_35 : p_tb 209 35 = some (.ifCond .ne 19, 3) := by decide +kernel
theorem q_209_38 : p_tb 209 38 = some (.aload_n 0, 1) := by decide +kernel
theorem q_209_39 : p_tb 209 39 = some (.getfield 33, 3) := by decide +kernel
theorem q_209_42 : p_tb 209 42 = some (.bipush 82, 2) := by decide +kernel
theorem q_209_44 : p_tb 209 44 = some (.iload_n 1, 1) := by decide +kernel
theorem q_209_45 : p_tb 209 45 = some (.iadd, 1) := by decide +kernel
theorem q_209_46 : p_tb 209 46 = some (.aload_n 0, 1) := by decide +kernel
theorem q_209_47 : p_tb 209 47 = some (.iload_n 1, 1) := by decide +kernel
theorem q_209_48 : p_tb 209 48 = some (.invokevirtual 274, 3) := by decide +kernel
theorem q_209_51 : p_tb 209 51 = some (.iconst 1, 1) := by decide +kernel
theorem q_209_52 : p_tb 209 52 = some (.iadd, 1) := by decide +kernel
theorem q_209_53 : p_tb 209 53 = some (.iastore, 1) := by decide +kernel
theorem q_209_54 : p_tb 209 54 = some (.aload_n 0, 1) := by decide +kernel
theorem q_209_55 : p_tb 209 55 = some (.getfield 33, 3) := by decide +kernel
theorem q_209_58 : p_tb 209 58 = some (.bipush 82, 2) := by decide +kernel
theorem q_209_60 : p_tb 209 60 = some (.iload_n 1, 1) := by decide +kernel
theorem q_209_61 : p_tb 209 61 = some (.iadd, 1) := by decide +kernel
theorem q_209_62 : p_tb 209 62 = some (.iaload, 1) := by decide +kernel
theorem q_209_63 : p_tb 209 63 = some (.ifCond .ne 4, 3) := by decide +kernel
theorem q_209_66 : p_tb 209 66 = some (.return_, 1) := by decide +kernel
theorem q_209_67 : p_tb 209 67 = some (.aload_n 0, 1) := by decide +kernel
theorem q_209_68 : p_tb 209 68 = some (.getfield 33, 3) := by decide +kernel
theorem q_209_71 : p_tb 209 71 = some (.bipush 82, 2) := by decide +kernel
theorem q_209_73 : p_tb 209 73 = some (.iload_n 1, 1) := by decide +kernel
theorem q_209_74 : p_tb 209 74 = some (.iadd, 1) := by decide +kernel
theorem q_209_75 : p_tb 209 75 = some (.iaload, 1) := by decide +kernel
theorem q_209_76 : p_tb 209 76 = some (.iconst 1, 1) := by decide +kernel
theorem q_209_77 : p_tb 209 77 = some (.isub, 1) := by decide +kernel
theorem q_209_78 : p_tb 209 78 = some (.istore_n 2, 1) := by decide +kernel
theorem q_209_79 : p_tb 209 79 = some (.aload_n 0, 1) := by decide +kernel
theorem q_209_80 : p_tb 209 80 = some (.getfield 33, 3) := by decide +kernel
theorem q_209_83 : p_tb 209 83 = some (.bipush 74, 2) := by decide +kernel
theorem q_209_85 : p_tb 209 85 = some (.iload_n 1, 1) := by decide +kernel
theorem q_209_86 : p_tb 209 86 = some (.iadd, 1) := by decide +kernel
theorem q_209_87 : p_tb 209 87 = some (.iaload, 1) := by decide +kernel
theorem q_209_88 : p_tb 209 88 = some (.aload_n 0, 1) := by decide +kernel
theorem q_209_89 : p_tb 209 89 = some (.getfield 33, 3) := by decide +kernel
theorem q_209_92 : p_tb 209 92 = some (.bipush 36, 2) := by decide +kernel
theorem q_209_94 : p_tb 209 94 = some (.iload_n 2, 1) := by decide +kernel
theorem q_209_95 : p_tb 209 95 = some (.iadd, 1) := by decide +kernel
theorem q_209_96 : p_tb 209 96 = some (.iaload, 1) := by decide +kernel
theorem q_209_97 : p_tb 209 97 = some (.invokestatic 244, 3) := by decide +kernel
theorem q_209_100 : p_tb 209 100 = some (.istore_n 3, 1) := by decide +kernel
theorem q_209_101 : p_tb 209 101 = some (.iload_n 3, 1) := by decide +kernel
theorem q_209_102 : p_tb 209 102 = some (.aload_n 0, 1) := by decide +kernel
theorem q_209_103 : p_tb 209 103 = some (.getfield 33, 3) := by decide +kernel
theorem q_209_106 : p_tb 209 106 = some (.bipush 76, 2) := by decide +kernel
theorem q_209_108 : p_tb 209 108 = some (.iload_n 1, 1) := by decide +kernel
theorem q_209_109 : p_tb 209 109 = some (.iadd, 1) := by decide +kernel
theorem q_209_110 : p_tb 209 110 = some (.iaload, 1) := by decide +kernel
theorem q_209_111 : p_tb 209 111 = some (.if_icmp .gt 41, 3) := by decide +kernel
theorem q_209_114 : p_tb 209 114 = some (.aload_n 0, 1) := by decide +kernel
theorem q_209_115 : p_tb 209 115 = some (.getfield 33, 3) := by decide +kernel
theorem q_209_118 : p_tb 209 118 = some (.bipush 78, 2) := by decide +kernel
theorem q_209_120 : p_tb 209 120 = some (.iload_n 1, 1) := by decide +kernel
theorem q_209_121 : p_tb 209 121 = some (.iadd, 1) := by decide +kernel
theorem q_209_122 : p_tb 209 122 = some (.dup2, 1) := by decide +kernel
theorem q_209_123 : p_tb 209 123 = some (.iaload, 1) := by decide +kernel
theorem q_209_124 : p_tb 209 124 = some (.iload_n 3, 1) := by decide +kernel
theorem q_209_125 : p_tb 209 125 = some (.iadd, 1) := by decide +kernel
theorem q_209_126 : p_tb 209 126 = some (.iastore, 1) := by decide +kernel
theorem q_209_127 : p_tb 209 127 = some (.aload_n 0, 1) := by decide +kernel
theorem q_209_128 : p_tb 209 128 = some (.getfield 33, 3) := by decide +kernel
theorem q_209_131 : p_tb 209 131 = some (.bipush 74, 2) := by decide +kernel
theorem q_209_133 : p_tb 209 133 = some (.iload_n 1, 1) := by decide +kernel
theorem q_209_134 : p_tb 209 134 = some (.iadd, 1) := by decide +kernel
theorem q_209_135 : p_tb 209 135 = some (.aload_n 0, 1) := by decide +kernel
theorem q_209_136 : p_tb 209 136 = some (.getfield 33, 3) := by decide +kernel
theorem q_209_139 : p_tb 209 139 = some (.bipush 36, 2) := by decide +kernel
theorem q_209_141 : p_tb 209 141 = some (.iload_n 2, 1) := by decide +kernel
theorem q_209_142 : p_tb 209 142 = some (.iadd, 1) := by decide +kernel
theorem q_209_143 : p_tb 209 143 = some (.iaload, 1) := by decide +kernel
theorem q_209_144 : p_tb 209 144 = some (.iastore, 1) := by decide +kernel
theorem q_209_145 : p_tb 209 145 = some (.aload_n 0, 1) := by decide +kernel
theorem q_209_146 : p_tb 209 146 = some (.iload_n 1, 1) := by decide +kernel
theorem q_209_147 : p_tb 209 147 = some (.iload_n 2, 1) := by decide +kernel
theorem q_209_148 : p_tb 209 148 = some (.invokevirtual 277, 3) := by decide +kernel
theorem q_209_151 : p_tb 209 151 = some (.return_, 1) := by decide +kernel
theorem q_209_152 : p_tb 209 152 = some (.aload_n 0, 1) := by decide +kernel
theorem q_209_153 : p_tb 209 153 = some (.getfield 33, 3) := by decide +kernel
theorem q_209_156 : p_tb 209 156 = some (.bipush 78, 2) := by decide +kernel
theorem q_209_158 : p_tb 209 158 = some (.iload_n 1, 1) := by decide +kernel
theorem q_209_159 : p_tb 209 159 = some (.iadd, 1) := by decide +kernel
theorem q_209_160 : p_tb 209 160 = some (.dup2, 1) := by decide +kernel
theorem q_209_161 : p_tb 209 161 = some (.iaload, 1) := by decide +kernel
theorem q_209_162 : p_tb 209 162 = some (.aload_n 0, 1) := by decide +kernel
theorem q_209_163 : p_tb 209 163 = some (.getfield 33, 3) := by decide +kernel
theorem q_209_166 : p_tb 209 166 = some (.bipush 76, 2) := by decide +kernel
theorem q_209_168 : p_tb 209 168 = some (.iload_n 1, 1) := by decide +kernel
theorem q_209_169 : p_tb 209 169 = some (.iadd, 1) := by decide +kernel
theorem q_209_170 : p_tb 209 170 = some (.iaload, 1) := by decide +kernel
theorem q_209_171 : p_tb 209 171 = some (.iadd, 1) := by decide +kernel
theorem q_209_172 : p_tb 209 172 = some (.iastore, 1) := by decide +kernel
theorem q_209_173 : p_tb 209 173 = some (.aload_n 0, 1) := by decide +kernel
theorem q_209_174 : p_tb 209 174 = some (.getfield 33, 3) := by decide +kernel
theorem q_209_177 : p_tb 209 177 = some (.bipush 74, 2) := by decide +kernel
theorem q_209_179 : p_tb 209 179 = some (.iload_n 1, 1) := by decide +kernel
theorem q_209_180 : p_tb 209 180 = some (.iadd, 1) := by decide +kernel
theorem q_209_181 : p_tb 209 181 = some (.dup2, 1) := by decide +kernel
theorem q_209_182 : p_tb 209 182 = some (.iaload, 1) := by decide +kernel
theorem q_209_183 : p_tb 209 183 = some (.aload_n 0, 1) := by decide +kernel
theorem q_209_184 : p_tb 209 184 = some (.getfield 33, 3) := by decide +kernel
theorem q_209_187 : p_tb 209 187 = some (.bipush 36, 2) := by decide +kernel
theorem q_209_189 : p_tb 209 189 = some (.iload_n 2, 1) := by decide +kernel
theorem q_209_190 : p_tb 209 190 = some (.iadd, 1) := by decide +kernel
theorem q_209_191 : p_tb 209 191 = some (.iaload, 1) := by decide +kernel
theorem q_209_192 : p_tb 209 192 = some (.aload_n 0, 1) := by decide +kernel
theorem q_209_193 : p_tb 209 193 = some (.getfield 33, 3) := by decide +kernel
theorem q_209_196 : p_tb 209 196 = some (.bipush 74, 2) := by decide +kernel
theorem q_209_198 : p_tb 209 198 = some (.iload_n 1, 1) := by decide +kernel
theorem q_209_199 : p_tb 209 199 = some (.iadd, 1) := by decide +kernel
theorem q_209_200 : p_tb 209 200 = some (.iaload, 1) := by decide +kernel
theorem q_209_201 : p_tb 209 201 = some (.if_icmp .le 15, 3) := by decide +kernel
theorem q_209_204 : p_tb 209 204 = some (.aload_n 0, 1) := by decide +kernel
theorem q_209_205 : p_tb 209 205 = some (.getfield 33, 3) := by decide +kernel
theorem q_209_208 : p_tb 209 208 = some (.bipush 76, 2) := by decide +kernel
theorem q_209_210 : p_tb 209 210 = some (.iload_n 1, 1) := by decide +kernel
theorem q_209_211 : p_tb 209 211 = some (.iadd, 1) := by decide +kernel
theorem q_209_212 : p_tb 209 212 = some (.iaload, 1) := by decide +kernel
theorem q_209_213 : p_tb 209 213 = some (.goto 13, 3) := by decide +kernel
theorem q_209_216 : p_tb 209 216 = some (.aload_n 0, 1) := by decide +kernel
theorem q_209_217 : p_tb 209 217 = some (.getfield 33, 3) := by decide +kernel
theorem q_209_220 : p_tb 209 220 = some (.bipush 76, 2) := by decide +kernel
theorem q_209_222 : p_tb 209 222 = some (.iload_n 1, 1) := by decide +kernel
theorem q_209_223 : p_tb 209 223 = some (.iadd, 1) := by decide +kernel
theorem q_209_224 : p_tb 209 224 = some (.iaload, 1) := by decide +kernel
theorem q_209_225 : p_tb 209 225 = some (.ineg, 1) := by decide +kernel
theorem q_209_226 : p_tb 209 226 = some (.iadd, 1) := by decide +kernel
theorem q_209_227 : p_tb 209 227 = some (.iastore, 1) := by decide +kernel
theorem q_209_228 : p_tb 209 228 = some (.return_, 1) := by decide +kernel
theorem t_ft_209_33 : p_f2 p_ft (p_mK 209) 33 = some (11, 6) := by decide +kernel
theorem t_ms_209_244 : p_f2 p_ms (p_mK 209) 244 = some 170 := by decide +kernel
theorem t_mv_209_274 : p_f2 p_mv (p_mK 209) 274 = some 206 := by decide +kernel
theorem t_mv_209_277 : p_f2 p_mv (p_mK 209) 277 = some 208 := by decide +kernel
theorem gB_42_82_82 : gB 42 82 82 0 6 := gB.of (by decide +kernel)
theorem gN_74_74 : ∀ c, 74 ≤ c → c ≤ 74 → g_no c := fun c h1 h2 => by unfold g_no; omega
theorem gN_78_78 : ∀ c, 78 ≤ c → c ≤ 78 → g_no c := fun c h1 h2 => by unfold g_no; omega
theorem gC_42_74_74 : gC 42 74 74 (-2147483648) 2147483647 := gC.of (by decide +kernel)
theorem gC_42_78_78 : gC 42 78 78 (-2147483648) 2147483647 := gC.of (by decide +kernel)
theorem gB_42_83_83 : gB 42 83 83 0 6 := gB.of (by decide +kernel)
theorem gN_75_75 : ∀ c, 75 ≤ c → c ≤ 75 → g_no c := fun c h1 h2 => by unfold g_no; omega
theorem gN_79_79 : ∀ c, 79 ≤ c → c ≤ 79 → g_no c := fun c h1 h2 => by unfold g_no; omega
theorem gC_42_75_75 : gC 42 75 75 (-2147483648) 2147483647 := gC.of (by decide +kernel)
theorem gC_42_79_79 : gC 42 79 79 (-2147483648) 2147483647 := gC.of (by decide +kernel)
theorem q_210_0 : p_tb 210 0 = some (.aload_n 0, 1) := by decide +kernel
theorem q_210_1 : p_tb 210 1 = some (.getfield 33, 3) := by decide +kernel
theorem q_210_4 : p_tb 210 4 = some (.bipush 73, 2) := by decide +kernel
theorem q_210_6 : p_tb 210 6 = some (.iconst 0, 1) := by decide +kernel
theorem q_210_7 : p_tb 210 7 = some (.iastore, 1) := by decide +kernel
theorem q_210_8 : p_tb 210 8 = some (.iconst 0, 1) := by decide +kernel
theorem q_210_9 : p_tb 210 9 = some (.istore_n 1, 1) := by decide +kernel
theorem q_210_10 : p_tb 210 10 = some (.iload_n 1, 1) := by decide +kernel
theorem q_210_11 : p_tb 210 11 = some (.aload_n 0, 1) := by decide +kernel
theorem q_210_12 : p_tb 210 12 = some (.getfield 33, 3) := by decide +kernel
theorem q_210_15 : p_tb 210 15 = some (.iconst 0, 1) := by decide +kernel
theorem q_210_16 : p_tb 210 16 = some (.iaload, 1) := by decide +kernel
theorem q_210_17 : p_tb 210 17 = some (.if_icmp .ge 41, 3) := by decide +kernel
theorem q_210_20 : p_tb 210 20 = some (.aload_n 0, 1) := by decide +kernel
theorem q_210_21 : p_tb 210 21 = some (.getfield 33, 3) := by decide +kernel
theorem q_210_24 : p_tb 210 24 = some (.bipush 48, 2) := by decide +kernel
theorem q_210_26 : p_tb 210 26 = some (.iload_n 1, 1) := by decide +kernel
theorem q_210_27 : p_tb 210 27 = some (.iadd, 1) := by decide +kernel
theorem q_210_28 : p_tb 210 28 = some (.iaload, 1) := by decide +kernel
theorem q_210_29 : p_tb 210 29 = some (.iconst 1, 1) := by decide +kernel
theorem q_210_30 : p_tb 210 30 = some (.if_icmp .ne 22, 3) := by decide +kernel
theorem q_210_33 : p_tb 210 33 = some (.aload_n 0, 1) := by decide +kernel
theorem q_210_34 : p_tb 210 34 = some (.getfield 33, 3) := by decide +kernel
theorem q_210_37 : p_tb 210 37 = some (.bipush 54, 2) := by decide +kernel
theorem q_210_39 : p_tb 210 39 = some (.iaload, 1) := by decide +kernel
theorem q_210_40 : p_tb 210 40 = some (.iload_n 1, 1) := by decide +kernel
theorem q_210_41 : p_tb 210 41 = some (.invokestatic 198, 3) := by decide +kernel
theorem q_210_44 : p_tb 210 44 = some (.ifCond .ne 8, 3) := by decide +kernel
theorem q_210_47 : p_tb 210 47 = some (.aload_n 0, 1) := by decide +kernel
theorem q_210_48 : p_tb 210 48 = some (.iload_n 1, 1) := by decide +kernel
theorem q_210_49 : p_tb 210 49 = some (.invokevirtual 281, 3) := by decide +kernel
theorem q_210_52 : p_tb 210 52 = some (.iinc 1 1, 3) := by decide +kernel
theorem q_210_55 : p_tb 210 55 = some (.goto (-45), 3) := by decide +kernel
theorem q_210_58 : p_tb 210 58 = some (.iconst 0, 1) := by decide +kernel
theorem q_210_59 : p_tb 210 59 = some (.istore_n 1, 1) := by decide +kernel
theorem q_210_60 : p_tb 210 60 = some (.iload_n 1, 1) := by decide +kernel
theorem q_210_61 : p_tb 210 61 = some (.aload_n 0, 1) := by decide +kernel
theorem q_210_62 : p_tb 210 62 = some (.getfield 33, 3) := by decide +kernel
theorem q_210_65 : p_tb 210 65 = some (.iconst 1, 1) := by decide +kernel
theorem q_210_66 : p_tb 210 66 = some (.iaload, 1) := by decide +kernel
theorem q_210_67 : p_tb 210 67 = some (.if_icmp .ge 14, 3) := by decide +kernel
theorem q_210_70 : p_tb 210 70 = some (.aload_n 0, 1) := by decide +kernel
theorem q_210_71 : p_tb 210 71 = some (.iload_n 1, 1) := by decide +kernel
theorem q_210_72 : p_tb 210 72 = some (.invokevirtual 284, 3) := by decide +kernel
theorem q_210_75 : p_tb 210 75 = some (.iinc 1 1, 3) := by decide +kernel
theorem q_210_78 : p_tb 210 78 = some (.goto (-18), 3) := by decide +kernel
theorem q_210_81 : p_tb 210 81 = some (.iconst 0, 1) := by decide +kernel
theorem q_210_82 : p_tb 210 82 = some (.istore_n 1, 1) := by decide +kernel
theorem q_210_83 : p_tb 210 83 = some (.iload_n 1, 1) := by decide +kernel
theorem q_210_84 : p_tb 210 84 = some (.aload_n 0, 1) := by decide +kernel
theorem q_210_85 : p_tb 210 85 = some (.getfield 33, 3) := by decide +kernel
theorem q_210_88 : p_tb 210 88 = some (.iconst 0, 1) := by decide +kernel
theorem q_210_89 : p_tb 210 89 = some (.iaload, 1) := by decide +kernel
theorem q_210_90 : p_tb 210 90 = some (.if_icmp .ge 116, 3) := by decide +kernel
theorem q_210_93 : p_tb 210 93 = some (.aload_n 0, 1) := by decide +kernel
theorem q_210_94 : p_tb 210 94 = some (.getfield 33, 3) := by decide +kernel
theorem q_210_97 : p_tb 210 97 = some (.bipush 55, 2) := by decide +kernel
theorem q_210_99 : p_tb 210 99 = some (.iload_n 1, 1) := by decide +kernel
theorem q_210_100 : p_tb 210 100 = some (.iadd, 1) := by decide +kernel
theorem q_210_101 : p_tb 210 101 = some (.iaload, 1) := by decide +kernel
theorem q_210_102 : p_tb 210 102 = some (.aload_n 0, 1) := by decide +kernel
theorem q_210_103 : p_tb 210 103 = some (.getfield 33, 3) := by decide +kernel
theorem q_210_106 : p_tb 210 106 = some (.bipush 33, 2) := by decide +kernel
theorem q_210_108 : p_tb 210 108 = some (.iaload, 1) := by decide +kernel
theorem q_210_109 : p_tb 210 109 = some (.iconst 1, 1) := by decide +kernel
theorem q_210_110 : p_tb 210 110 = some (.iadd, 1) := by decide +kernel
theorem q_210_111 : p_tb 210 111 = some (.if_icmp .ne 21, 3) := by decide +kernel
theorem q_210_114 : p_tb 210 114 = some (.aload_n 0, 1) := by decide +kernel
theorem q_210_115 : p_tb 210 115 = some (.getfield 33, 3) := by decide +kernel
theorem q_210_118 : p_tb 210 118 = some (.bipush 54, 2) := by decide +kernel
theorem q_210_120 : p_tb 210 120 = some (.dup2, 1) := by decide +kernel
theorem q_210_121 : p_tb 210 121 = some (.iaload, 1) := by decide +kernel
theorem q_210_122 : p_tb 210 122 = some (.iconst 1, 1) := by decide +kernel
theorem q_210_123 : p_tb 210 123 = some (.iload_n 1, 1) := by decide +kernel
theorem q_210_124 : p_tb 210 124 = some (.ishl, 1) := by decide +kernel
theorem q_210_125 : p_tb 210 125 = some (.iconst (-1), 1) := by decide +kernel
theorem q_210_126 : p_tb 210 126 = some (.ixor, 1) := by decide +kernel
theorem q_210_127 : p_tb 210 127 = some (.iand, 1) := by decide +kernel
theorem q_210_128 : p_tb 210 128 = some (.iastore, 1) := by decide +kernel
theorem q_210_129 : p_tb 210 129 = some (.goto 71, 3) := by decide +kernel
theorem q_210_132 : p_tb 210 132 = some (.aload_n 0, 1) := by decide +kernel
theorem q_210_133 : p_tb 210 133 = some (.getfield 33, 3) := by decide +kernel
theorem q_210_136 : p_tb 210 136 = some (.iconst 4, 1) := by decide +kernel
theorem q_210_137 : p_tb 210 137 = some (.iaload, 1) := by decide +kernel
theorem q_210_138 : p_tb 210 138 = some (.ifCond .le 62, 3) := by decide +kernel
theorem q_210_141 : p_tb 210 141 = some (.aload_n 0, 1) := by decide +kernel
theorem q_210_142 : p_tb 210 142 = some (.getfield 33, 3) := by decide +kernel
theorem q_210_145 : p_tb 210 145 = some (.bipush 33, 2) := by decide +kernel
theorem q_210_147 : p_tb 210 147 = some (.iaload, 1) := by decide +kernel
theorem q_210_148 : p_tb 210 148 = some (.iconst 1, 1) := by decide +kernel
theorem q_210_149 : p_tb 210 149 = some (.iadd, 1) := by decide +kernel
theorem q_210_150 : p_tb 210 150 = some (.aload_n 0, 1) := by decide +kernel
theorem q_210_151 : p_tb 210 151 = some (.getfield 33, 3) := by decide +kernel
theorem q_210_154 : p_tb 210 154 = some (.iconst 4, 1) := by decide +kernel
theorem q_210_155 : p_tb 210 155 = some (.iaload, 1) := by decide +kernel
theorem q_210_156 : p_tb 210 156 = some (.if_icmp .lt 44, 3) := by decide +kernel
theorem q_210_159 : p_tb 210 159 = some (.aload_n 0, 1) := by decide +kernel
theorem q_210_160 : p_tb 210 160 = some (.getfield 33, 3) := by decide +kernel
theorem q_210_163 : p_tb 210 163 = some (.bipush 55, 2) := by decide +kernel
theorem q_210_165 : p_tb 210 165 = some (.iload_n 1, 1) := by decide +kernel
theorem q_210_166 : p_tb 210 166 = some (.iadd, 1) := by decide +kernel
theorem q_210_167 : p_tb 210 167 = some (.iaload, 1) := by decide +kernel
theorem q_210_168 : p_tb 210 168 = some (.aload_n 0, 1) := by decide +kernel
theorem q_210_169 : p_tb 210 169 = some (.getfield 33, 3) := by decide +kernel
theorem q_210_172 : p_tb 210 172 = some (.bipush 33, 2) := by decide +kernel
theorem q_210_174 : p_tb 210 174 = some (.iaload, 1) := by decide +kernel
theorem q_210_175 : p_tb 210 175 = some (.iconst 1, 1) := by decide +kernel
theorem q_210_176 : p_tb 210 176 = some (.iadd, 1) := by decide +kernel
theorem q_210_177 : p_tb 210 177 = some (.aload_n 0, 1) := by decide +kernel
theorem q_210_178 : p_tb 210 178 = some (.getfield 33, 3) := by decide +kernel
theorem q_210_181 : p_tb 210 181 = some (.iconst 4, 1) := by decide +kernel
theorem q_210_182 : p_tb 210 182 = some (.iaload, 1) := by decide +kernel
theorem q_210_183 : p_tb 210 183 = some (.isub, 1) := by decide +kernel
theorem q_210_184 : p_tb 210 184 = some (.if_icmp .gt 16, 3) := by decide +kernel
theorem q_210_187 : p_tb 210 187 = some (.aload_n 0, 1) := by decide +kernel
theorem q_210_188 : p_tb 210 188 = some (.getfield 33, 3) := by decide +kernel
theorem q_210_191 : p_tb 210 191 = some (.bipush 54, 2) := by decide +kernel
theorem q_210_193 : p_tb 210 193 = some (.dup2, 1) := by decide +kernel
theorem q_210_194 : p_tb 210 194 = some (.iaload, 1) := by decide +kernel
theorem q_210_195 : p_tb 210 195 = some (.iconst 1, 1) := by decide +kernel
theorem q_210_196 : p_tb 210 196 = some (.iload_n 1, 1) := by decide +kernel
theorem q_210_197 : p_tb 210 197 = some (.ishl, 1) := by decide +kernel
theorem q_210_198 : p_tb 210 198 = some (.ior, 1) := by decide +kernel
theorem q_210_199 : p_tb 210 199 = some (.iastore, 1) := by decide +kernel
theorem q_210_200 : p_tb 210 200 = some (.iinc 1 1, 3) := by decide +kernel
theorem q_210_203 : p_tb 210 203 = some (.goto (-120), 3) := by decide +kernel
theorem q_210_206 : p_tb 210 206 = some (.aload_n 0, 1) := by decide +kernel
theorem q_210_207 : p_tb 210 207 = some (.getfield 33, 3) := by decide +kernel
theorem q_210_210 : p_tb 210 210 = some (.bipush 33, 2) := by decide +kernel
theorem q_210_212 : p_tb 210 212 = some (.dup2, 1) := by decide +kernel
theorem q_210_213 : p_tb 210 213 = some (.iaload, 1) := by decide +kernel
theorem q_210_214 : p_tb 210 214 = some (.iconst 1, 1) := by decide +kernel
theorem q_210_215 : p_tb 210 215 = some (.iadd, 1) := by decide +kernel
theorem q_210_216 : p_tb 210 216 = some (.iastore, 1) := by decide +kernel
theorem q_210_217 : p_tb 210 217 = some (.return_, 1) := by decide +kernel
theorem t_ft_210_33 : p_f2 p_ft (p_mK 210) 33 = some (11, 6) := by decide +kernel
theorem t_ms_210_198 : p_f2 p_ms (p_mK 210) 198 = some 167 := by decide +kernel
theorem t_mv_210_281 : p_f2 p_mv (p_mK 210) 281 = some 207 := by decide +kernel
theorem t_mv_210_284 : p_f2 p_mv (p_mK 210) 284 = some 209 := by decide +kernel
theorem gB_42_1_1 : gB 42 1 1 0 2 := gB.of (by decide +kernel)
theorem gN_54_54 : ∀ c, 54 ≤ c → c ≤ 54 → g_no c := fun c h1 h2 => by unfold g_no; omega
theorem gC_42_54_54 : gC 42 54 54 (-2147483648) 2147483647 := gC.of (by decide +kernel)
theorem q_211_0 : p_tb 211 0 = some (.iconst 0, 1) := by decide +kernel
theorem q_211_1 : p_tb 211 1 = some (.istore_n 2, 1) := by decide +kernel
theorem q_211_2 : p_tb 211 2 = some (.iload_n 2, 1) := by decide +kernel
theorem q_211_3 : p_tb 211 3 = some (.iload_n 1, 1) := by decide +kernel
theorem q_211_4 : p_tb 211 4 = some (.if_icmp .ge 26, 3) := by decide +kernel
theorem q_211_7 : p_tb 211 7 = some (.aload_n 0, 1) := by decide +kernel
theorem q_211_8 : p_tb 211 8 = some (.getfield 33, 3) := by decide +kernel
theorem q_211_11 : p_tb 211 11 = some (.bipush 33, 2) := by decide +kernel
theorem q_211_13 : p_tb 211 13 = some (.iaload, 1) := by decide +kernel
theorem q_211_14 : p_tb 211 14 = some (.sipush 600, 3) := by decide +kernel
theorem q_211_17 : p_tb 211 17 = some (.if_icmp .ge 13, 3) := by decide +kernel
theorem q_211_20 : p_tb 211 20 = some (.aload_n 0, 1) := by decide +kernel
theorem q_211_21 : p_tb 211 21 = some (.invokevirtual 287, 3) := by decide +kernel
theorem q_211_24 : p_tb 211 24 = some (.iinc 2 1, 3) := by decide +kernel
theorem q_211_27 : p_tb 211 27 = some (.goto (-25), 3) := by decide +kernel
theorem q_211_30 : p_tb 211 30 = some (.iload_n 2, 1) := by decide +kernel
theorem q_211_31 : p_tb 211 31 = some (.ireturn, 1) := by decide +kernel
theorem t_ft_211_33 : p_f2 p_ft (p_mK 211) 33 = some (11, 6) := by decide +kernel
theorem t_mv_211_287 : p_f2 p_mv (p_mK 211) 287 = some 210 := by decide +kernel
/-- the reference's second and the turns of its dogs are c, a, b; all else is whole -/
def gY (c a b : Int) (M : pM) : Prop := g_T M ∧ ((o_a (M 296) 33).toInt = c ∧ (o_a (M 296) 80).toInt = a ∧ (o_a (M 296) 81).toInt = b ∧ gRp M) ∧ g_st (o_a (M 302)) ∧ (∀ u, u < 8 → g_st (fun i => o_a (M 301) (183 * u + i))) ∧ (∀ u, u < 2 → g_sa (fun i => o_a (M 307) (397 * u + i)))
theorem gY.of {M : pM} (h : gTT M) : gY (o_a (M 296) 33).toInt (o_a (M 296) 80).toInt (o_a (M 296) 81).toInt M := ⟨h.1, ⟨rfl, rfl, rfl, h.2.1.2⟩, h.2.2⟩
theorem gY.end {c a b : Int} {M : pM} (h : gY c a b M) (h1 : a ≤ c) (h2 : b ≤ c) : gTT M := ⟨h.1, ⟨⟨by show (o_a (M 296) 80).toInt ≤ (o_a (M 296) 33).toInt; rw [h.2.1.1, h.2.1.2.1]; exact h1, by show (o_a (M 296) 81).toInt ≤ (o_a (M 296) 33).toInt; rw [h.2.1.1, h.2.1.2.2.1]; exact h2⟩, h.2.1.2.2.2⟩, h.2.2⟩
theorem StabY (c a b : Int) : Stab (gY c a b) := by
  refine ⟨fun M M1 a i K h U hk hs hs2 => ⟨U.T hk hs h.1, ?_⟩, fun M M1 a K h U hk hs hs2 => ⟨gVT U hk hs h.1, ?_⟩, fun M M1 q h U hn => ⟨gVT U.1 kd_296 (by decide) h.1, ?_⟩⟩
  · have s : ∀ c, (g_sh (g_kd c)).1 ≠ 0 → M1 c = M c := fun c h => U.1 c fun e => h (by rw [e, hk]; exact hs2)
    unfold gRp
    rw [s 296 (by decide), s 302 (by decide), s 301 (by decide), s 307 (by decide)]
    exact h.2
  · have s : ∀ c K2, g_kd c = K2 → g_sA K2 = true → M1 c = M c := fun c K2 h1 h2 => U c fun e => by
      subst e; rw [h1] at hk; subst hk; rw [h2] at hs2; cases hs2
    unfold gRp
    rw [s 296 42 rfl rfl, s 302 48 rfl rfl, s 301 47 rfl rfl, s 307 53 rfl rfl]
    exact h.2
  · obtain ⟨n1, n2, n3, n4⟩ := hn
    rw [U.1 302 (by decide), U.1 301 (by decide), U.1 307 (by decide), U.2 33 (Ne.symm n1), U.2 80 (Ne.symm n2), U.2 81 (Ne.symm n3)]
    exact ⟨⟨h.2.1.1, h.2.1.2.1, h.2.1.2.2.1, gRp.step h.2.1.2.2.2 U n4⟩, h.2.2⟩
theorem gY.p {c a b : Int} {M M1 : pM} {q : Nat} (h : gY c a b M) (U : gVv M M1 296 q) (hq : q < 216) : g_T M1 ∧ gRp M1 ∧ g_st (o_a (M1 302)) ∧ (∀ u, u < 8 → g_st (fun i => o_a (M1 301) (183 * u + i))) ∧ (∀ u, u < 2 → g_sa (fun i => o_a (M1 307) (397 * u + i))) := by
  rw [U.1 302 (by decide), U.1 301 (by decide), U.1 307 (by decide)]
  exact ⟨gVT U.1 kd_296 (by decide) h.1, gRp.step h.2.1.2.2.2 U hq, h.2.2⟩
theorem gY.p33 {c a b z : Int} {M M1 : pM} {q : Nat} {x : Int32} (h : gY c a b M) (U : gVv M M1 296 q) (hq : q = 33) (hv : o_a (M1 296) q = x) (hz : x.toInt = z) : gY z a b M1 := by
  subst hq
  have w := h.p U (by decide)
  exact ⟨w.1, ⟨by rw [hv]; exact hz, by rw [U.2 80 (by decide)]; exact h.2.1.2.1, by rw [U.2 81 (by decide)]; exact h.2.1.2.2.1, w.2.1⟩, w.2.2⟩
theorem gY.p80 {c a b z : Int} {M M1 : pM} {q : Nat} {x : Int32} (h : gY c a b M) (U : gVv M M1 296 q) (hq : q = 80) (hv : o_a (M1 296) q = x) (hz : x.toInt = z) : gY c z b M1 := by
  subst hq
  have w := h.p U (by decide)
  exact ⟨w.1, ⟨by rw [U.2 33 (by decide)]; exact h.2.1.1, by rw [hv]; exact hz, by rw [U.2 81 (by decide)]; exact h.2.1.2.2.1, w.2.1⟩, w.2.2⟩
theorem gY.p81 {c a b z : Int} {M M1 : pM} {q : Nat} {x : Int32} (h : gY c a b M) (U : gVv M M1 296 q) (hq : q = 81) (hv : o_a (M1 296) q = x) (hz : x.toInt = z) : gY c a z M1 := by
  subst hq
  have w := h.p U (by decide)
  exact ⟨w.1, ⟨by rw [U.2 33 (by decide)]; exact h.2.1.1, by rw [U.2 80 (by decide)]; exact h.2.1.2.1, by rw [hv]; exact hz, w.2.1⟩, w.2.2⟩
theorem g_3380 {M : pM} (I : InvB M) : 0 ≤ (o_a (M 296) 80).toInt ∧ 0 ≤ (o_a (M 296) 81).toInt := ⟨((InvB.arr I kd_296 (by decide) gA_42).2.2 80 (by decide)).1, ((InvB.arr I kd_296 (by decide) gA_42).2.2 81 (by decide)).1⟩
theorem c_X12_othersOf (V : pM → Prop) (hV : Stab V) (G : pG) (Kr : pK) (M : pM) (I : Iv V M) (a1 : Int32) (hl_a1 : 0 ≤ a1.toInt) (hh_a1 : a1.toInt ≤ 5) (hp_0 : 1 ≤ (o_a (M 296) 0).toInt) (hK : ∀ (x : Int32) (M1 : pM), Iv V M1 → Fr [] M M1 → 0 ≤ x.toInt → x.toInt ≤ 5 → ((gLq M1 M) ∧ gHq M1 M) → Kr.1 (some (.int x)) 311 M1) : PW G false 0 203 (p_mc 203) (p_msl 203) Kr 0 (lv_args 0 [.ref 294, .int a1]) [] 311 M 0 0 := by
  have F : Fr [] M M := Fr.refl
  refine PW.iload_n q_203_0 rfl ?_
  refine PW.cI q_203_1 (by decide) fun c1 hc1 => ?_
  refine PW.addN q_203_2 (by omega) (by omega) fun x2 hx2 => ?_
  refine PW.aload_n q_203_3 rfl ?_
  refine PW.gR 296 q_203_4 (Or.inl t_ft_203_33) gF_40_6 kd_294 I.1 (by decide) rfl ?_
  refine PW.cI q_203_7 (by decide) fun c3 hc3 => ?_
  refine PW.aI q_203_8 gA_42 kd_296 I.1 (by decide) gB_42_0_0 (by decide) (by omega) (by omega) fun x4 fx4 hx4 kx4 => ?_
  have ty5 : (o_a (M 296) 0).toInt = x4.toInt := by have e : c3.toInt.toNat = 0 := (by omega); rw [e] at fx4; rw [fx4]
  refine PW.remP q_203_9 (by omega) (by omega) fun x6 hx6 kx6 ex6 => ?_
  clear ex6
  refine PW.rI q_203_10 rfl (by decide) (by decide) ?_
  exact hK x6 M I F (by omega) (by omega) ⟨rfl, gHq.refl⟩
theorem c_X12_nearestTo (V : pM → Prop) (hV : Stab V) (G : pG) (Kr : pK) (M : pM) (I : Iv V M) (a1 : Int32) (a2 : Int32) (hK : ∀ (x : Int32) (M1 : pM), Iv V M1 → Fr [] M M1 → -1 ≤ x.toInt → x.toInt ≤ 5 → ((gLq M1 M) ∧ gHq M1 M) → Kr.1 (some (.int x)) 311 M1) : PW G false 1 204 (p_mc 204) (p_msl 204) Kr 0 (lv_args 0 [.ref 294, .int a1, .int a2]) [] 311 M 0 0 := by
  have F : Fr [] M M := Fr.refl
  refine PW.cI q_204_0 (by decide) fun c1 hc1 => ?_
  refine PW.istore_n q_204_1 (by decide) ?_
  refine PW.cI q_204_2 (by decide) fun c2 hc2 => ?_
  refine PW.istore q_204_3 (by decide) ?_
  have L204_5_3 : ∀ (n : Nat) (ML204_5_3 : pM) (v4 v5 : Int32), Iv (V) ML204_5_3 → Fr [] M ML204_5_3 → -1 ≤ v4.toInt → v4.toInt ≤ 5 → 0 ≤ v5.toInt → v5.toInt ≤ 6 → (gLq ML204_5_3 M ∧ gHq ML204_5_3 M) → (6 - v5.toInt).toNat = n → PW G false 1 204 (p_mc 204) (p_msl 204) Kr 5 [(0, .ref 294), (1, .int a1), (2, .int a2), (3, .int v4), (4, .int v5)] [] 311 ML204_5_3 0 0 := by
    intro n
    induction n using Nat.strongRecOn with
    | ind n ih_L204_5_3 =>
    intro ML204_5_3 v4 v5 IML204_5_3 FML204_5_3 hbL204_5_30 hbL204_5_31 hbL204_5_32 hbL204_5_33 hbL204_5_34 hmL204_5_3
    refine PW.iload q_204_5 rfl ?_
    refine PW.aload_n q_204_7 rfl ?_
    refine PW.gR 296 q_204_8 (Or.inl t_ft_204_33) gF_40_6 kd_294 IML204_5_3.1 (by decide) rfl ?_
    refine PW.cI q_204_11 (by decide) fun c6 hc6 => ?_
    refine PW.aI q_204_12 gA_42 kd_296 IML204_5_3.1 (by decide) gB_42_0_0 (by decide) (by omega) (by omega) fun x7 fx7 hx7 kx7 => ?_
    refine PW.jc_ge q_204_13 rfl (fun h8 => ?_) (fun h8 => ?_)
    · skip
      refine PW.iload_n q_204_65 rfl ?_
      refine PW.rI q_204_66 rfl (by decide) (by decide) ?_
      exact hK v4 ML204_5_3 IML204_5_3 FML204_5_3 (by omega) (by omega) ⟨hbL204_5_34.1, hbL204_5_34.2⟩
    · skip
      refine PW.iload q_204_16 rfl ?_
      refine PW.iload_n q_204_18 rfl ?_
      have J59_10 : ∀ (MJ59_10 : pM) (v11 : Int32), Iv (V) MJ59_10 → Fr [] M MJ59_10 → -1 ≤ v11.toInt → v11.toInt ≤ 5 → (gLq MJ59_10 M ∧ gHq MJ59_10 M) → PW G false 1 204 (p_mc 204) (p_msl 204) Kr 59 [(0, .ref 294), (1, .int a1), (2, .int a2), (3, .int v11), (4, .int v5)] [] 311 MJ59_10 0 0 := by
        intro MJ59_10 v11 IMJ59_10 FMJ59_10 hbJ59_100 hbJ59_101 hbJ59_102
        refine PW.incN q_204_59 rfl (by decide) (by decide) (by omega) (by omega) fun x12 hx12 => ?_
        refine PW.goto q_204_62 rfl ?_
        refine PW.lvS (lk1 rfl (lk1 rfl (lk1 rfl (lk1 rfl (lk1 rfl lk0))))) (ih_L204_5_3 _ ?_ MJ59_10 v11 x12 IMJ59_10 FMJ59_10 (by omega) (by omega) (by omega) (by omega) ⟨hbJ59_102.1, hbJ59_102.2⟩ rfl)
        omega
      refine PW.jc_eq q_204_19 rfl (fun h9 => ?_) (fun h9 => ?_)
      · skip
        exact PW.lvS (lk1 rfl (lk1 rfl (lk1 rfl (lk1 rfl (lk1 rfl lk0))))) (J59_10 ML204_5_3 v4 IML204_5_3 FML204_5_3 (by omega) (by omega) ⟨hbL204_5_34.1, hbL204_5_34.2⟩)
      · skip
        refine PW.iload_n q_204_22 rfl ?_
        have J56_14 : ∀ (MJ56_14 : pM), Iv (V) MJ56_14 → Fr [] M MJ56_14 → (gLq MJ56_14 M ∧ gHq MJ56_14 M) → PW G false 1 204 (p_mc 204) (p_msl 204) Kr 56 [(0, .ref 294), (1, .int a1), (2, .int a2), (3, .int v4), (4, .int v5)] [] 311 MJ56_14 0 0 := by
          intro MJ56_14  IMJ56_14 FMJ56_14 hbJ56_140
          refine PW.iload q_204_56 rfl ?_
          refine PW.istore_n q_204_58 (by decide) ?_
          exact PW.lvS (lk1 rfl (lk1 rfl (lk1 rfl (lk1 rfl (lk1 rfl lk0))))) (J59_10 MJ56_14 v5 IMJ56_14 FMJ56_14 (by omega) (by omega) ⟨hbJ56_140.1, hbJ56_140.2⟩)
        refine PW.jz_lt q_204_23 rfl (fun h13 => ?_) (fun h13 => ?_)
        · skip
          exact PW.lvS (lk1 rfl (lk1 rfl (lk1 rfl (lk1 rfl (lk1 rfl lk0))))) (J56_14 ML204_5_3  IML204_5_3 FML204_5_3 ⟨hbL204_5_34.1, hbL204_5_34.2⟩)
        · skip
          refine PW.aload_n q_204_26 rfl ?_
          refine PW.gR 296 q_204_27 (Or.inl t_ft_204_33) gF_40_6 kd_294 IML204_5_3.1 (by decide) rfl ?_
          refine PW.cB q_204_30 (by decide) fun c15 hc15 => ?_
          refine PW.iload q_204_32 rfl ?_
          refine PW.addN q_204_34 (by omega) (by omega) fun x16 hx16 => ?_
          refine PW.aH q_204_35 gA_42 kd_296 IML204_5_3.1 (by decide) (by omega) (by omega) fun x17 fx17 => ?_
          refine PW.iload_n q_204_36 rfl ?_
          refine PW.callS (as := [_, _]) (rest := []) q_204_37 t_ms_204_244 (by decide) rfl (Nat.le_of_ble_eq_true rfl) (Nat.le_of_ble_eq_true rfl) (by decide) (by decide) ?_
          refine PW.iload_n q_170_0 rfl ?_
          refine PW.iload_n q_170_1 rfl ?_
          refine PW.jc_ge q_170_2 rfl (fun h18 => ?_) (fun h18 => ?_)
          · skip
            refine PW.iload_n q_170_11 rfl ?_
            refine PW.iload_n q_170_12 rfl ?_
            refine PW.subH q_170_13 fun x19 => ?_
            refine PW.rI q_170_14 rfl (by decide) (by decide) ?_
            refine PW.aload_n q_204_40 rfl ?_
            refine PW.gR 296 q_204_41 (Or.inl t_ft_204_33) gF_40_6 kd_294 IML204_5_3.1 (by decide) rfl ?_
            refine PW.cB q_204_44 (by decide) fun c20 hc20 => ?_
            refine PW.iload_n q_204_46 rfl ?_
            refine PW.addN q_204_47 (by omega) (by omega) fun x21 hx21 => ?_
            refine PW.aH q_204_48 gA_42 kd_296 IML204_5_3.1 (by decide) (by omega) (by omega) fun x22 fx22 => ?_
            refine PW.iload_n q_204_49 rfl ?_
            refine PW.callS (as := [_, _]) (rest := [_]) q_204_50 t_ms_204_244 (by decide) rfl (Nat.le_of_ble_eq_true rfl) (Nat.le_of_ble_eq_true rfl) (by decide) (by decide) ?_
            refine PW.iload_n q_170_0 rfl ?_
            refine PW.iload_n q_170_1 rfl ?_
            refine PW.jc_ge q_170_2 rfl (fun h23 => ?_) (fun h23 => ?_)
            · skip
              refine PW.iload_n q_170_11 rfl ?_
              refine PW.iload_n q_170_12 rfl ?_
              refine PW.subH q_170_13 fun x24 => ?_
              refine PW.rI q_170_14 rfl (by decide) (by decide) ?_
              refine PW.jc_ge q_204_53 rfl (fun h25 => ?_) (fun h25 => ?_)
              · skip
                exact PW.lvS (lk1 rfl (lk1 rfl (lk1 rfl (lk1 rfl (lk1 rfl lk0))))) (J59_10 ML204_5_3 v4 IML204_5_3 FML204_5_3 (by omega) (by omega) ⟨hbL204_5_34.1, hbL204_5_34.2⟩)
              · skip
                exact PW.lvS (lk1 rfl (lk1 rfl (lk1 rfl (lk1 rfl (lk1 rfl lk0))))) (J56_14 ML204_5_3  IML204_5_3 FML204_5_3 ⟨hbL204_5_34.1, hbL204_5_34.2⟩)
            · skip
              refine PW.iload_n q_170_5 rfl ?_
              refine PW.iload_n q_170_6 rfl ?_
              refine PW.subH q_170_7 fun x26 => ?_
              refine PW.goto q_170_8 rfl ?_
              refine PW.rI q_170_14 rfl (by decide) (by decide) ?_
              refine PW.jc_ge q_204_53 rfl (fun h27 => ?_) (fun h27 => ?_)
              · skip
                exact PW.lvS (lk1 rfl (lk1 rfl (lk1 rfl (lk1 rfl (lk1 rfl lk0))))) (J59_10 ML204_5_3 v4 IML204_5_3 FML204_5_3 (by omega) (by omega) ⟨hbL204_5_34.1, hbL204_5_34.2⟩)
              · skip
                exact PW.lvS (lk1 rfl (lk1 rfl (lk1 rfl (lk1 rfl (lk1 rfl lk0))))) (J56_14 ML204_5_3  IML204_5_3 FML204_5_3 ⟨hbL204_5_34.1, hbL204_5_34.2⟩)
          · skip
            refine PW.iload_n q_170_5 rfl ?_
            refine PW.iload_n q_170_6 rfl ?_
            refine PW.subH q_170_7 fun x28 => ?_
            refine PW.goto q_170_8 rfl ?_
            refine PW.rI q_170_14 rfl (by decide) (by decide) ?_
            refine PW.aload_n q_204_40 rfl ?_
            refine PW.gR 296 q_204_41 (Or.inl t_ft_204_33) gF_40_6 kd_294 IML204_5_3.1 (by decide) rfl ?_
            refine PW.cB q_204_44 (by decide) fun c29 hc29 => ?_
            refine PW.iload_n q_204_46 rfl ?_
            refine PW.addN q_204_47 (by omega) (by omega) fun x30 hx30 => ?_
            refine PW.aH q_204_48 gA_42 kd_296 IML204_5_3.1 (by decide) (by omega) (by omega) fun x31 fx31 => ?_
            refine PW.iload_n q_204_49 rfl ?_
            refine PW.callS (as := [_, _]) (rest := [_]) q_204_50 t_ms_204_244 (by decide) rfl (Nat.le_of_ble_eq_true rfl) (Nat.le_of_ble_eq_true rfl) (by decide) (by decide) ?_
            refine PW.iload_n q_170_0 rfl ?_
            refine PW.iload_n q_170_1 rfl ?_
            refine PW.jc_ge q_170_2 rfl (fun h32 => ?_) (fun h32 => ?_)
            · skip
              refine PW.iload_n q_170_11 rfl ?_
              refine PW.iload_n q_170_12 rfl ?_
              refine PW.subH q_170_13 fun x33 => ?_
              refine PW.rI q_170_14 rfl (by decide) (by decide) ?_
              refine PW.jc_ge q_204_53 rfl (fun h34 => ?_) (fun h34 => ?_)
              · skip
                exact PW.lvS (lk1 rfl (lk1 rfl (lk1 rfl (lk1 rfl (lk1 rfl lk0))))) (J59_10 ML204_5_3 v4 IML204_5_3 FML204_5_3 (by omega) (by omega) ⟨hbL204_5_34.1, hbL204_5_34.2⟩)
              · skip
                exact PW.lvS (lk1 rfl (lk1 rfl (lk1 rfl (lk1 rfl (lk1 rfl lk0))))) (J56_14 ML204_5_3  IML204_5_3 FML204_5_3 ⟨hbL204_5_34.1, hbL204_5_34.2⟩)
            · skip
              refine PW.iload_n q_170_5 rfl ?_
              refine PW.iload_n q_170_6 rfl ?_
              refine PW.subH q_170_7 fun x35 => ?_
              refine PW.goto q_170_8 rfl ?_
              refine PW.rI q_170_14 rfl (by decide) (by decide) ?_
              refine PW.jc_ge q_204_53 rfl (fun h36 => ?_) (fun h36 => ?_)
              · skip
                exact PW.lvS (lk1 rfl (lk1 rfl (lk1 rfl (lk1 rfl (lk1 rfl lk0))))) (J59_10 ML204_5_3 v4 IML204_5_3 FML204_5_3 (by omega) (by omega) ⟨hbL204_5_34.1, hbL204_5_34.2⟩)
              · skip
                exact PW.lvS (lk1 rfl (lk1 rfl (lk1 rfl (lk1 rfl (lk1 rfl lk0))))) (J56_14 ML204_5_3  IML204_5_3 FML204_5_3 ⟨hbL204_5_34.1, hbL204_5_34.2⟩)
  exact PW.lvS (lk1 rfl (lk1 rfl (lk1 rfl (lk1 rfl (lk1 rfl lk0))))) (L204_5_3 _ M c1 c2 I F (by omega) (by omega) (by omega) (by omega) ⟨rfl, gHq.refl⟩ rfl)
theorem c_X12_longestAgo (V : pM → Prop) (hV : Stab V) (G : pG) (Kr : pK) (M : pM) (I : Iv V M) (a1 : Int32) (a2 : Int32) (a3 : Int32) (hl_a1 : 88 ≤ a1.toInt) (hh_a1 : a1.toInt ≤ 94) (hl_a2 : 0 ≤ a2.toInt) (hh_a2 : a2.toInt ≤ 6) (hK : ∀ (x : Int32) (M1 : pM), Iv V M1 → Fr [] M M1 → -1 ≤ x.toInt → x.toInt ≤ 5 → Kr.1 (some (.int x)) 311 M1) : PW G false 0 205 (p_mc 205) (p_msl 205) Kr 0 (lv_args 0 [.ref 296, .int a1, .int a2, .int a3]) [] 311 M 0 0 := by
  have F : Fr [] M M := Fr.refl
  refine PW.cI q_205_0 (by decide) fun c1 hc1 => ?_
  refine PW.istore q_205_1 (by decide) ?_
  refine PW.cI q_205_3 (by decide) fun c2 hc2 => ?_
  refine PW.istore q_205_4 (by decide) ?_
  have L205_6_3 : ∀ (n : Nat) (ML205_6_3 : pM) (v4 v5 : Int32), Iv (V) ML205_6_3 → Fr [] M ML205_6_3 → -1 ≤ v4.toInt → v4.toInt ≤ 5 → 0 ≤ v5.toInt → v5.toInt ≤ 6 → (6 - v5.toInt).toNat = n → PW G false 0 205 (p_mc 205) (p_msl 205) Kr 6 [(0, .ref 296), (1, .int a1), (2, .int a2), (3, .int a3), (4, .int v4), (5, .int v5)] [] 311 ML205_6_3 0 0 := by
    intro n
    induction n using Nat.strongRecOn with
    | ind n ih_L205_6_3 =>
    intro ML205_6_3 v4 v5 IML205_6_3 FML205_6_3 hbL205_6_30 hbL205_6_31 hbL205_6_32 hbL205_6_33 hmL205_6_3
    refine PW.iload q_205_6 rfl ?_
    refine PW.iload_n q_205_8 rfl ?_
    refine PW.jc_ge q_205_9 rfl (fun h6 => ?_) (fun h6 => ?_)
    · skip
      refine PW.iload q_205_48 rfl ?_
      refine PW.rI q_205_50 rfl (by decide) (by decide) ?_
      exact hK v4 ML205_6_3 IML205_6_3 FML205_6_3 (by omega) (by omega)
    · skip
      refine PW.iload q_205_12 rfl ?_
      refine PW.iload_n q_205_14 rfl ?_
      have J42_8 : ∀ (MJ42_8 : pM) (v9 : Int32), Iv (V) MJ42_8 → Fr [] M MJ42_8 → -1 ≤ v9.toInt → v9.toInt ≤ 5 → PW G false 0 205 (p_mc 205) (p_msl 205) Kr 42 [(0, .ref 296), (1, .int a1), (2, .int a2), (3, .int a3), (4, .int v9), (5, .int v5)] [] 311 MJ42_8 0 0 := by
        intro MJ42_8 v9 IMJ42_8 FMJ42_8 hbJ42_80 hbJ42_81
        refine PW.incN q_205_42 rfl (by decide) (by decide) (by omega) (by omega) fun x10 hx10 => ?_
        refine PW.goto q_205_45 rfl ?_
        refine PW.lvS (lk1 rfl (lk1 rfl (lk1 rfl (lk1 rfl (lk1 rfl (lk1 rfl lk0)))))) (ih_L205_6_3 _ ?_ MJ42_8 v9 x10 IMJ42_8 FMJ42_8 (by omega) (by omega) (by omega) (by omega) rfl)
        omega
      refine PW.jc_eq q_205_15 rfl (fun h7 => ?_) (fun h7 => ?_)
      · skip
        exact PW.lvS (lk1 rfl (lk1 rfl (lk1 rfl (lk1 rfl (lk1 rfl (lk1 rfl lk0)))))) (J42_8 ML205_6_3 v4 IML205_6_3 FML205_6_3 (by omega) (by omega))
      · skip
        refine PW.iload q_205_18 rfl ?_
        have J38_12 : ∀ (MJ38_12 : pM), Iv (V) MJ38_12 → Fr [] M MJ38_12 → PW G false 0 205 (p_mc 205) (p_msl 205) Kr 38 [(0, .ref 296), (1, .int a1), (2, .int a2), (3, .int a3), (4, .int v4), (5, .int v5)] [] 311 MJ38_12 0 0 := by
          intro MJ38_12  IMJ38_12 FMJ38_12 
          refine PW.iload q_205_38 rfl ?_
          refine PW.istore q_205_40 (by decide) ?_
          exact PW.lvS (lk1 rfl (lk1 rfl (lk1 rfl (lk1 rfl (lk1 rfl (lk1 rfl lk0)))))) (J42_8 MJ38_12 v5 IMJ38_12 FMJ38_12 (by omega) (by omega))
        refine PW.jz_lt q_205_20 rfl (fun h11 => ?_) (fun h11 => ?_)
        · skip
          exact PW.lvS (lk1 rfl (lk1 rfl (lk1 rfl (lk1 rfl (lk1 rfl (lk1 rfl lk0)))))) (J38_12 ML205_6_3  IML205_6_3 FML205_6_3 )
        · skip
          refine PW.aload_n q_205_23 rfl ?_
          refine PW.iload_n q_205_24 rfl ?_
          refine PW.iload q_205_25 rfl ?_
          refine PW.addN q_205_27 (by omega) (by omega) fun x13 hx13 => ?_
          refine PW.aI q_205_28 gA_42 kd_296 IML205_6_3.1 (by decide) gB_42_88_99 (by decide) (by omega) (by omega) fun x14 fx14 hx14 kx14 => ?_
          refine PW.aload_n q_205_29 rfl ?_
          refine PW.iload_n q_205_30 rfl ?_
          refine PW.iload q_205_31 rfl ?_
          refine PW.addN q_205_33 (by omega) (by omega) fun x15 hx15 => ?_
          refine PW.aI q_205_34 gA_42 kd_296 IML205_6_3.1 (by decide) gB_42_88_99 (by decide) (by omega) (by omega) fun x16 fx16 hx16 kx16 => ?_
          refine PW.jc_ge q_205_35 rfl (fun h17 => ?_) (fun h17 => ?_)
          · skip
            exact PW.lvS (lk1 rfl (lk1 rfl (lk1 rfl (lk1 rfl (lk1 rfl (lk1 rfl lk0)))))) (J42_8 ML205_6_3 v4 IML205_6_3 FML205_6_3 (by omega) (by omega))
          · skip
            exact PW.lvS (lk1 rfl (lk1 rfl (lk1 rfl (lk1 rfl (lk1 rfl (lk1 rfl lk0)))))) (J38_12 ML205_6_3  IML205_6_3 FML205_6_3 )
  exact PW.lvS (lk1 rfl (lk1 rfl (lk1 rfl (lk1 rfl (lk1 rfl (lk1 rfl lk0)))))) (L205_6_3 _ M c1 c2 I F (by omega) (by omega) (by omega) (by omega) rfl)
theorem c_X12_longestAgo_s (V : pM → Prop) (hV : Stab V) (G : pG) (Kr : pK) (M : pM) (I : Iv V M) (a1 : Int32) (a2 : Int32) (a3 : Int32) (hl_a1 : 0 ≤ a1.toInt) (hh_a1 : a1.toInt ≤ 0) (hl_a2 : 0 ≤ a2.toInt) (hh_a2 : a2.toInt ≤ 6) (hK : ∀ (x : Int32) (M1 : pM), Iv V M1 → Fr [] M M1 → -1 ≤ x.toInt → x.toInt ≤ 5 → Kr.1 (some (.int x)) 311 M1) : PW G false 0 205 (p_mc 205) (p_msl 205) Kr 0 (lv_args 0 [.ref 303, .int a1, .int a2, .int a3]) [] 311 M 0 0 := by
  have F : Fr [] M M := Fr.refl
  refine PW.cI q_205_0 (by decide) fun c1 hc1 => ?_
  refine PW.istore q_205_1 (by decide) ?_
  refine PW.cI q_205_3 (by decide) fun c2 hc2 => ?_
  refine PW.istore q_205_4 (by decide) ?_
  have L205_6_3 : ∀ (n : Nat) (ML205_6_3 : pM) (v4 v5 : Int32), Iv (V) ML205_6_3 → Fr [] M ML205_6_3 → -1 ≤ v4.toInt → v4.toInt ≤ 5 → 0 ≤ v5.toInt → v5.toInt ≤ 6 → (6 - v5.toInt).toNat = n → PW G false 0 205 (p_mc 205) (p_msl 205) Kr 6 [(0, .ref 303), (1, .int a1), (2, .int a2), (3, .int a3), (4, .int v4), (5, .int v5)] [] 311 ML205_6_3 0 0 := by
    intro n
    induction n using Nat.strongRecOn with
    | ind n ih_L205_6_3 =>
    intro ML205_6_3 v4 v5 IML205_6_3 FML205_6_3 hbL205_6_30 hbL205_6_31 hbL205_6_32 hbL205_6_33 hmL205_6_3
    refine PW.iload q_205_6 rfl ?_
    refine PW.iload_n q_205_8 rfl ?_
    refine PW.jc_ge q_205_9 rfl (fun h6 => ?_) (fun h6 => ?_)
    · skip
      refine PW.iload q_205_48 rfl ?_
      refine PW.rI q_205_50 rfl (by decide) (by decide) ?_
      exact hK v4 ML205_6_3 IML205_6_3 FML205_6_3 (by omega) (by omega)
    · skip
      refine PW.iload q_205_12 rfl ?_
      refine PW.iload_n q_205_14 rfl ?_
      have J42_8 : ∀ (MJ42_8 : pM) (v9 : Int32), Iv (V) MJ42_8 → Fr [] M MJ42_8 → -1 ≤ v9.toInt → v9.toInt ≤ 5 → PW G false 0 205 (p_mc 205) (p_msl 205) Kr 42 [(0, .ref 303), (1, .int a1), (2, .int a2), (3, .int a3), (4, .int v9), (5, .int v5)] [] 311 MJ42_8 0 0 := by
        intro MJ42_8 v9 IMJ42_8 FMJ42_8 hbJ42_80 hbJ42_81
        refine PW.incN q_205_42 rfl (by decide) (by decide) (by omega) (by omega) fun x10 hx10 => ?_
        refine PW.goto q_205_45 rfl ?_
        refine PW.lvS (lk1 rfl (lk1 rfl (lk1 rfl (lk1 rfl (lk1 rfl (lk1 rfl lk0)))))) (ih_L205_6_3 _ ?_ MJ42_8 v9 x10 IMJ42_8 FMJ42_8 (by omega) (by omega) (by omega) (by omega) rfl)
        omega
      refine PW.jc_eq q_205_15 rfl (fun h7 => ?_) (fun h7 => ?_)
      · skip
        exact PW.lvS (lk1 rfl (lk1 rfl (lk1 rfl (lk1 rfl (lk1 rfl (lk1 rfl lk0)))))) (J42_8 ML205_6_3 v4 IML205_6_3 FML205_6_3 (by omega) (by omega))
      · skip
        refine PW.iload q_205_18 rfl ?_
        have J38_12 : ∀ (MJ38_12 : pM), Iv (V) MJ38_12 → Fr [] M MJ38_12 → PW G false 0 205 (p_mc 205) (p_msl 205) Kr 38 [(0, .ref 303), (1, .int a1), (2, .int a2), (3, .int a3), (4, .int v4), (5, .int v5)] [] 311 MJ38_12 0 0 := by
          intro MJ38_12  IMJ38_12 FMJ38_12 
          refine PW.iload q_205_38 rfl ?_
          refine PW.istore q_205_40 (by decide) ?_
          exact PW.lvS (lk1 rfl (lk1 rfl (lk1 rfl (lk1 rfl (lk1 rfl (lk1 rfl lk0)))))) (J42_8 MJ38_12 v5 IMJ38_12 FMJ38_12 (by omega) (by omega))
        refine PW.jz_lt q_205_20 rfl (fun h11 => ?_) (fun h11 => ?_)
        · skip
          exact PW.lvS (lk1 rfl (lk1 rfl (lk1 rfl (lk1 rfl (lk1 rfl (lk1 rfl lk0)))))) (J38_12 ML205_6_3  IML205_6_3 FML205_6_3 )
        · skip
          refine PW.aload_n q_205_23 rfl ?_
          refine PW.iload_n q_205_24 rfl ?_
          refine PW.iload q_205_25 rfl ?_
          refine PW.addN q_205_27 (by omega) (by omega) fun x13 hx13 => ?_
          refine PW.aH q_205_28 gA_49 kd_303 IML205_6_3.1 (by decide) (by omega) (by omega) fun x14 fx14 => ?_
          refine PW.aload_n q_205_29 rfl ?_
          refine PW.iload_n q_205_30 rfl ?_
          refine PW.iload q_205_31 rfl ?_
          refine PW.addN q_205_33 (by omega) (by omega) fun x15 hx15 => ?_
          refine PW.aH q_205_34 gA_49 kd_303 IML205_6_3.1 (by decide) (by omega) (by omega) fun x16 fx16 => ?_
          refine PW.jc_ge q_205_35 rfl (fun h17 => ?_) (fun h17 => ?_)
          · skip
            exact PW.lvS (lk1 rfl (lk1 rfl (lk1 rfl (lk1 rfl (lk1 rfl (lk1 rfl lk0)))))) (J42_8 ML205_6_3 v4 IML205_6_3 FML205_6_3 (by omega) (by omega))
          · skip
            exact PW.lvS (lk1 rfl (lk1 rfl (lk1 rfl (lk1 rfl (lk1 rfl (lk1 rfl lk0)))))) (J38_12 ML205_6_3  IML205_6_3 FML205_6_3 )
  exact PW.lvS (lk1 rfl (lk1 rfl (lk1 rfl (lk1 rfl (lk1 rfl (lk1 rfl lk0)))))) (L205_6_3 _ M c1 c2 I F (by omega) (by omega) (by omega) (by omega) rfl)
theorem c_X12_choice (V : pM → Prop) (hV : Stab V) (G : pG) (Kr : pK) (M : pM) (I : Iv V M) (a1 : Int32) (hl_a1 : 0 ≤ a1.toInt) (hh_a1 : a1.toInt ≤ 1) (hK : ∀ (x : Int32) (M1 : pM), Iv V M1 → Fr [] M M1 → -1 ≤ x.toInt → x.toInt ≤ 5 → ((gLq M1 M) ∧ gHq M1 M) → Kr.1 (some (.int x)) 311 M1) : PW G false 2 206 (p_mc 206) (p_msl 206) Kr 0 (lv_args 0 [.ref 294, .int a1]) [] 311 M 0 0 := by
  have F : Fr [] M M := Fr.refl
  refine PW.aload_n q_206_0 rfl ?_
  refine PW.gR 296 q_206_1 (Or.inl t_ft_206_33) gF_40_6 kd_294 I.1 (by decide) rfl ?_
  refine PW.cB q_206_4 (by decide) fun c1 hc1 => ?_
  refine PW.iload_n q_206_6 rfl ?_
  refine PW.addN q_206_7 (by omega) (by omega) fun x2 hx2 => ?_
  refine PW.aI q_206_8 gA_42 kd_296 I.1 (by decide) gB_42_86_87 (by decide) (by omega) (by omega) fun x3 fx3 hx3 kx3 => ?_
  refine PW.istore_n q_206_9 (by decide) ?_
  refine PW.aload_n q_206_10 rfl ?_
  refine PW.gR 296 q_206_11 (Or.inl t_ft_206_33) gF_40_6 kd_294 I.1 (by decide) rfl ?_
  refine PW.cI q_206_14 (by decide) fun c4 hc4 => ?_
  refine PW.aI q_206_15 gA_42 kd_296 I.1 (by decide) gB_42_0_0 (by decide) (by omega) (by omega) fun x5 fx5 hx5 kx5 => ?_
  have ty6 : (o_a (M 296) 0).toInt = x5.toInt := by have e : c4.toInt.toNat = 0 := (by omega); rw [e] at fx5; rw [fx5]
  have elx5 : o_a (M 296) 0 = x5 := by have e : c4.toInt.toNat = 0 := (by omega); rw [e] at fx5; exact fx5
  refine PW.cI q_206_16 (by decide) fun c7 hc7 => ?_
  refine PW.jc_ge q_206_17 rfl (fun h8 => ?_) (fun h8 => ?_)
  · skip
    refine PW.aload_n q_206_22 rfl ?_
    refine PW.gR 296 q_206_23 (Or.inl t_ft_206_33) gF_40_6 kd_294 I.1 (by decide) rfl ?_
    refine PW.cB q_206_26 (by decide) fun c9 hc9 => ?_
    refine PW.aI q_206_28 gA_42 kd_296 I.1 (by decide) gB_42_34_34 (by decide) (by omega) (by omega) fun x10 fx10 hx10 kx10 => ?_
    have elx10 : o_a (M 296) 34 = x10 := by have e : c9.toInt.toNat = 34 := (by omega); rw [e] at fx10; exact fx10
    refine PW.jz_le q_206_29 rfl (fun h11 => ?_) (fun h11 => ?_)
    · skip
      refine PW.aload_n q_206_55 rfl ?_
      refine PW.gR 296 q_206_56 (Or.inl t_ft_206_33) gF_40_6 kd_294 I.1 (by decide) rfl ?_
      refine PW.cB q_206_59 (by decide) fun c12 hc12 => ?_
      refine PW.iload_n q_206_61 rfl ?_
      refine PW.addN q_206_62 (by omega) (by omega) fun x13 hx13 => ?_
      refine PW.aH q_206_63 gA_42 kd_296 I.1 (by decide) (by omega) (by omega) fun x14 fx14 => ?_
      have h15 : x14.toInt = 1 ∨ x14.toInt = 2 ∨ x14.toInt = 3 ∨ (x14.toInt < 1 ∨ 3 < x14.toInt) := by omega
      rcases h15 with h15 | h15 | h15 | h15
      · skip
        refine PW.sw1 (1) h15 q_206_64 (by decide) (by decide) rfl rfl ?_
        refine PW.aload_n q_206_92 rfl ?_
        refine PW.aload_n q_206_93 rfl ?_
        refine PW.gR 296 q_206_94 (Or.inl t_ft_206_33) gF_40_6 kd_294 I.1 (by decide) rfl ?_
        refine PW.cB q_206_97 (by decide) fun c16 hc16 => ?_
        refine PW.iload_n q_206_99 rfl ?_
        refine PW.addN q_206_100 (by omega) (by omega) fun x17 hx17 => ?_
        refine PW.aH q_206_101 gA_42 kd_296 I.1 (by decide) (by omega) (by omega) fun x18 fx18 => ?_
        refine PW.iload_n q_206_102 rfl ?_
        refine PW.cV (as := [_, _]) (rest := []) q_206_103 t_mv_206_257 kd_294 I.1 (by decide) rfl (by decide) rfl rfl (Nat.le_of_ble_eq_true rfl) (Nat.le_of_ble_eq_true rfl) (by decide) (by decide) ?_
        refine PW.up (by decide) (c_X12_nearestTo (V) (hV) G _ M I x18 x3 fun x20 M19 IM19 GM19 hx20 kx20 TM19 => ?_)
        have FM19 := Fr.trans F GM19 (rfl)
        have ty21 : (o_a (M19 296) 0).toInt = (o_a (M 296) 0).toInt := by rw [Fr.at GM19 kd_296 (by decide)]
        refine PW.rI q_206_106 rfl (by decide) (by decide) ?_
        exact hK x20 M19 IM19 FM19 (by omega) (by omega) ⟨(congrArg (fun e => o_i e 2) (Fr.at GM19 kd_294 rfl)), (gHq.refl.cg (Fr.at GM19 kd_296 rfl) (Fr.at GM19 kd_294 rfl))⟩
      · skip
        refine PW.sw1 (2) h15 q_206_64 (by decide) (by decide) rfl rfl ?_
        refine PW.aload_n q_206_107 rfl ?_
        refine PW.gR 296 q_206_108 (Or.inl t_ft_206_33) gF_40_6 kd_294 I.1 (by decide) rfl ?_
        refine PW.cB q_206_111 (by decide) fun c22 hc22 => ?_
        refine PW.cB q_206_113 (by decide) fun c23 hc23 => ?_
        refine PW.iload_n q_206_115 rfl ?_
        refine PW.mulN q_206_116 (6) (by omega) a1 (fun h => n_eq.mpr (by omega)) (fun h => n_eq.mpr (by omega)) (by omega) (by omega) fun x24 hx24 => ?_
        refine PW.addN q_206_117 (by omega) (by omega) fun x25 hx25 => ?_
        refine PW.aload_n q_206_118 rfl ?_
        refine PW.gR 296 q_206_119 (Or.inl t_ft_206_33) gF_40_6 kd_294 I.1 (by decide) rfl ?_
        refine PW.cI q_206_122 (by decide) fun c26 hc26 => ?_
        refine PW.aI q_206_123 gA_42 kd_296 I.1 (by decide) gB_42_0_0 (by decide) (by omega) (by omega) fun x27 fx27 hx27 kx27 => ?_
        have ty28 : (o_a (M 296) 0).toInt = x27.toInt := by have e : c26.toInt.toNat = 0 := (by omega); rw [e] at fx27; rw [fx27]
        have elx27 : o_a (M 296) 0 = x27 := by have e : c26.toInt.toNat = 0 := (by omega); rw [e] at fx27; exact fx27
        have ezx27 : x27.toInt = x5.toInt := by rw [← elx27, elx5]
        refine PW.iload_n q_206_124 rfl ?_
        refine PW.callS (as := [_, _, _, _]) (rest := []) q_206_125 t_ms_206_260 (by decide) rfl (Nat.le_of_ble_eq_true rfl) (Nat.le_of_ble_eq_true rfl) (by decide) (by decide) ?_
        refine PW.up (by decide) (c_X12_longestAgo (V) (hV) G _ M I x25 x27 x3 (by omega) (by omega) (by omega) (by omega) fun x30 M29 IM29 GM29 hx30 kx30 => ?_)
        have FM29 := Fr.trans F GM29 (rfl)
        have ty31 : (o_a (M29 296) 0).toInt = (o_a (M 296) 0).toInt := by rw [Fr.at GM29 kd_296 (by decide)]
        refine PW.rI q_206_128 rfl (by decide) (by decide) ?_
        exact hK x30 M29 IM29 FM29 (by omega) (by omega) ⟨(congrArg (fun e => o_i e 2) (Fr.at GM29 kd_294 rfl)), (gHq.refl.cg (Fr.at GM29 kd_296 rfl) (Fr.at GM29 kd_294 rfl))⟩
      · skip
        refine PW.sw1 (3) h15 q_206_64 (by decide) (by decide) rfl rfl ?_
        refine PW.aload_n q_206_129 rfl ?_
        refine PW.gR 296 q_206_130 (Or.inl t_ft_206_33) gF_40_6 kd_294 I.1 (by decide) rfl ?_
        refine PW.cB q_206_133 (by decide) fun c32 hc32 => ?_
        refine PW.aI q_206_135 gA_42 kd_296 I.1 (by decide) gB_42_35_35 (by decide) (by omega) (by omega) fun x33 fx33 hx33 kx33 => ?_
        have elx33 : o_a (M 296) 35 = x33 := by have e : c32.toInt.toNat = 35 := (by omega); rw [e] at fx33; exact fx33
        refine PW.jz_le q_206_136 rfl (fun h34 => ?_) (fun h34 => ?_)
        · skip
          refine PW.aload_n q_206_164 rfl ?_
          refine PW.iload_n q_206_165 rfl ?_
          refine PW.cV (as := [_]) (rest := []) q_206_166 t_mv_206_264 kd_294 I.1 (by decide) rfl (by decide) rfl rfl (Nat.le_of_ble_eq_true rfl) (Nat.le_of_ble_eq_true rfl) (by decide) (by decide) ?_
          refine PW.up (by decide) (c_X12_othersOf (V) (hV) G _ M I x3 (by omega) (by omega) (by omega) fun x36 M35 IM35 GM35 hx36 kx36 TM35 => ?_)
          have FM35 := Fr.trans F GM35 (rfl)
          have ty37 : (o_a (M35 296) 0).toInt = (o_a (M 296) 0).toInt := by rw [Fr.at GM35 kd_296 (by decide)]
          refine PW.rI q_206_169 rfl (by decide) (by decide) ?_
          exact hK x36 M35 IM35 FM35 (by omega) (by omega) ⟨(congrArg (fun e => o_i e 2) (Fr.at GM35 kd_294 rfl)), (gHq.refl.cg (Fr.at GM35 kd_296 rfl) (Fr.at GM35 kd_294 rfl))⟩
        · skip
          refine PW.aload_n q_206_139 rfl ?_
          refine PW.gR 296 q_206_140 (Or.inl t_ft_206_33) gF_40_6 kd_294 I.1 (by decide) rfl ?_
          refine PW.cB q_206_143 (by decide) fun c38 hc38 => ?_
          refine PW.aI q_206_145 gA_42 kd_296 I.1 (by decide) gB_42_35_35 (by decide) (by omega) (by omega) fun x39 fx39 hx39 kx39 => ?_
          have elx39 : o_a (M 296) 35 = x39 := by have e : c38.toInt.toNat = 35 := (by omega); rw [e] at fx39; exact fx39
          have ezx39 : x39.toInt = x33.toInt := by rw [← elx39, elx33]
          refine PW.cI q_206_146 (by decide) fun c40 hc40 => ?_
          refine PW.subN q_206_147 (by omega) (by omega) fun x41 hx41 => ?_
          refine PW.iload_n q_206_148 rfl ?_
          refine PW.jc_eq q_206_149 rfl (fun h42 => ?_) (fun h42 => ?_)
          · skip
            refine PW.aload_n q_206_164 rfl ?_
            refine PW.iload_n q_206_165 rfl ?_
            refine PW.cV (as := [_]) (rest := []) q_206_166 t_mv_206_264 kd_294 I.1 (by decide) rfl (by decide) rfl rfl (Nat.le_of_ble_eq_true rfl) (Nat.le_of_ble_eq_true rfl) (by decide) (by decide) ?_
            refine PW.up (by decide) (c_X12_othersOf (V) (hV) G _ M I x3 (by omega) (by omega) (by omega) fun x44 M43 IM43 GM43 hx44 kx44 TM43 => ?_)
            have FM43 := Fr.trans F GM43 (rfl)
            have ty45 : (o_a (M43 296) 0).toInt = (o_a (M 296) 0).toInt := by rw [Fr.at GM43 kd_296 (by decide)]
            refine PW.rI q_206_169 rfl (by decide) (by decide) ?_
            exact hK x44 M43 IM43 FM43 (by omega) (by omega) ⟨(congrArg (fun e => o_i e 2) (Fr.at GM43 kd_294 rfl)), (gHq.refl.cg (Fr.at GM43 kd_296 rfl) (Fr.at GM43 kd_294 rfl))⟩
          · skip
            refine PW.aload_n q_206_152 rfl ?_
            refine PW.gR 296 q_206_153 (Or.inl t_ft_206_33) gF_40_6 kd_294 I.1 (by decide) rfl ?_
            refine PW.cB q_206_156 (by decide) fun c46 hc46 => ?_
            refine PW.aI q_206_158 gA_42 kd_296 I.1 (by decide) gB_42_35_35 (by decide) (by omega) (by omega) fun x47 fx47 hx47 kx47 => ?_
            have elx47 : o_a (M 296) 35 = x47 := by have e : c46.toInt.toNat = 35 := (by omega); rw [e] at fx47; exact fx47
            have ezx47 : x47.toInt = x39.toInt := by rw [← elx47, elx39]
            refine PW.cI q_206_159 (by decide) fun c48 hc48 => ?_
            refine PW.subN q_206_160 (by omega) (by omega) fun x49 hx49 => ?_
            refine PW.goto q_206_161 rfl ?_
            refine PW.rI q_206_169 rfl (by decide) (by decide) ?_
            exact hK x49 M I F (by omega) (by omega) ⟨rfl, gHq.refl⟩
      · skip
        refine PW.tswO q_206_64 h15 rfl ?_
        refine PW.aload_n q_206_170 rfl ?_
        refine PW.iload_n q_206_171 rfl ?_
        refine PW.cV (as := [_]) (rest := []) q_206_172 t_mv_206_264 kd_294 I.1 (by decide) rfl (by decide) rfl rfl (Nat.le_of_ble_eq_true rfl) (Nat.le_of_ble_eq_true rfl) (by decide) (by decide) ?_
        refine PW.up (by decide) (c_X12_othersOf (V) (hV) G _ M I x3 (by omega) (by omega) (by omega) fun x51 M50 IM50 GM50 hx51 kx51 TM50 => ?_)
        have FM50 := Fr.trans F GM50 (rfl)
        have ty52 : (o_a (M50 296) 0).toInt = (o_a (M 296) 0).toInt := by rw [Fr.at GM50 kd_296 (by decide)]
        refine PW.rI q_206_175 rfl (by decide) (by decide) ?_
        exact hK x51 M50 IM50 FM50 (by omega) (by omega) ⟨(congrArg (fun e => o_i e 2) (Fr.at GM50 kd_294 rfl)), (gHq.refl.cg (Fr.at GM50 kd_296 rfl) (Fr.at GM50 kd_294 rfl))⟩
    · skip
      refine PW.aload_n q_206_32 rfl ?_
      refine PW.gR 296 q_206_33 (Or.inl t_ft_206_33) gF_40_6 kd_294 I.1 (by decide) rfl ?_
      refine PW.cB q_206_36 (by decide) fun c53 hc53 => ?_
      refine PW.aI q_206_38 gA_42 kd_296 I.1 (by decide) gB_42_34_34 (by decide) (by omega) (by omega) fun x54 fx54 hx54 kx54 => ?_
      have elx54 : o_a (M 296) 34 = x54 := by have e : c53.toInt.toNat = 34 := (by omega); rw [e] at fx54; exact fx54
      have ezx54 : x54.toInt = x10.toInt := by rw [← elx54, elx10]
      refine PW.cI q_206_39 (by decide) fun c55 hc55 => ?_
      refine PW.subN q_206_40 (by omega) (by omega) fun x56 hx56 => ?_
      refine PW.iload_n q_206_41 rfl ?_
      refine PW.jc_eq q_206_42 rfl (fun h57 => ?_) (fun h57 => ?_)
      · skip
        refine PW.aload_n q_206_55 rfl ?_
        refine PW.gR 296 q_206_56 (Or.inl t_ft_206_33) gF_40_6 kd_294 I.1 (by decide) rfl ?_
        refine PW.cB q_206_59 (by decide) fun c58 hc58 => ?_
        refine PW.iload_n q_206_61 rfl ?_
        refine PW.addN q_206_62 (by omega) (by omega) fun x59 hx59 => ?_
        refine PW.aH q_206_63 gA_42 kd_296 I.1 (by decide) (by omega) (by omega) fun x60 fx60 => ?_
        have h61 : x60.toInt = 1 ∨ x60.toInt = 2 ∨ x60.toInt = 3 ∨ (x60.toInt < 1 ∨ 3 < x60.toInt) := by omega
        rcases h61 with h61 | h61 | h61 | h61
        · skip
          refine PW.sw1 (1) h61 q_206_64 (by decide) (by decide) rfl rfl ?_
          refine PW.aload_n q_206_92 rfl ?_
          refine PW.aload_n q_206_93 rfl ?_
          refine PW.gR 296 q_206_94 (Or.inl t_ft_206_33) gF_40_6 kd_294 I.1 (by decide) rfl ?_
          refine PW.cB q_206_97 (by decide) fun c62 hc62 => ?_
          refine PW.iload_n q_206_99 rfl ?_
          refine PW.addN q_206_100 (by omega) (by omega) fun x63 hx63 => ?_
          refine PW.aH q_206_101 gA_42 kd_296 I.1 (by decide) (by omega) (by omega) fun x64 fx64 => ?_
          refine PW.iload_n q_206_102 rfl ?_
          refine PW.cV (as := [_, _]) (rest := []) q_206_103 t_mv_206_257 kd_294 I.1 (by decide) rfl (by decide) rfl rfl (Nat.le_of_ble_eq_true rfl) (Nat.le_of_ble_eq_true rfl) (by decide) (by decide) ?_
          refine PW.up (by decide) (c_X12_nearestTo (V) (hV) G _ M I x64 x3 fun x66 M65 IM65 GM65 hx66 kx66 TM65 => ?_)
          have FM65 := Fr.trans F GM65 (rfl)
          have ty67 : (o_a (M65 296) 0).toInt = (o_a (M 296) 0).toInt := by rw [Fr.at GM65 kd_296 (by decide)]
          refine PW.rI q_206_106 rfl (by decide) (by decide) ?_
          exact hK x66 M65 IM65 FM65 (by omega) (by omega) ⟨(congrArg (fun e => o_i e 2) (Fr.at GM65 kd_294 rfl)), (gHq.refl.cg (Fr.at GM65 kd_296 rfl) (Fr.at GM65 kd_294 rfl))⟩
        · skip
          refine PW.sw1 (2) h61 q_206_64 (by decide) (by decide) rfl rfl ?_
          refine PW.aload_n q_206_107 rfl ?_
          refine PW.gR 296 q_206_108 (Or.inl t_ft_206_33) gF_40_6 kd_294 I.1 (by decide) rfl ?_
          refine PW.cB q_206_111 (by decide) fun c68 hc68 => ?_
          refine PW.cB q_206_113 (by decide) fun c69 hc69 => ?_
          refine PW.iload_n q_206_115 rfl ?_
          refine PW.mulN q_206_116 (6) (by omega) a1 (fun h => n_eq.mpr (by omega)) (fun h => n_eq.mpr (by omega)) (by omega) (by omega) fun x70 hx70 => ?_
          refine PW.addN q_206_117 (by omega) (by omega) fun x71 hx71 => ?_
          refine PW.aload_n q_206_118 rfl ?_
          refine PW.gR 296 q_206_119 (Or.inl t_ft_206_33) gF_40_6 kd_294 I.1 (by decide) rfl ?_
          refine PW.cI q_206_122 (by decide) fun c72 hc72 => ?_
          refine PW.aI q_206_123 gA_42 kd_296 I.1 (by decide) gB_42_0_0 (by decide) (by omega) (by omega) fun x73 fx73 hx73 kx73 => ?_
          have ty74 : (o_a (M 296) 0).toInt = x73.toInt := by have e : c72.toInt.toNat = 0 := (by omega); rw [e] at fx73; rw [fx73]
          have elx73 : o_a (M 296) 0 = x73 := by have e : c72.toInt.toNat = 0 := (by omega); rw [e] at fx73; exact fx73
          have ezx73 : x73.toInt = x5.toInt := by rw [← elx73, elx5]
          refine PW.iload_n q_206_124 rfl ?_
          refine PW.callS (as := [_, _, _, _]) (rest := []) q_206_125 t_ms_206_260 (by decide) rfl (Nat.le_of_ble_eq_true rfl) (Nat.le_of_ble_eq_true rfl) (by decide) (by decide) ?_
          refine PW.up (by decide) (c_X12_longestAgo (V) (hV) G _ M I x71 x73 x3 (by omega) (by omega) (by omega) (by omega) fun x76 M75 IM75 GM75 hx76 kx76 => ?_)
          have FM75 := Fr.trans F GM75 (rfl)
          have ty77 : (o_a (M75 296) 0).toInt = (o_a (M 296) 0).toInt := by rw [Fr.at GM75 kd_296 (by decide)]
          refine PW.rI q_206_128 rfl (by decide) (by decide) ?_
          exact hK x76 M75 IM75 FM75 (by omega) (by omega) ⟨(congrArg (fun e => o_i e 2) (Fr.at GM75 kd_294 rfl)), (gHq.refl.cg (Fr.at GM75 kd_296 rfl) (Fr.at GM75 kd_294 rfl))⟩
        · skip
          refine PW.sw1 (3) h61 q_206_64 (by decide) (by decide) rfl rfl ?_
          refine PW.aload_n q_206_129 rfl ?_
          refine PW.gR 296 q_206_130 (Or.inl t_ft_206_33) gF_40_6 kd_294 I.1 (by decide) rfl ?_
          refine PW.cB q_206_133 (by decide) fun c78 hc78 => ?_
          refine PW.aI q_206_135 gA_42 kd_296 I.1 (by decide) gB_42_35_35 (by decide) (by omega) (by omega) fun x79 fx79 hx79 kx79 => ?_
          have elx79 : o_a (M 296) 35 = x79 := by have e : c78.toInt.toNat = 35 := (by omega); rw [e] at fx79; exact fx79
          refine PW.jz_le q_206_136 rfl (fun h80 => ?_) (fun h80 => ?_)
          · skip
            refine PW.aload_n q_206_164 rfl ?_
            refine PW.iload_n q_206_165 rfl ?_
            refine PW.cV (as := [_]) (rest := []) q_206_166 t_mv_206_264 kd_294 I.1 (by decide) rfl (by decide) rfl rfl (Nat.le_of_ble_eq_true rfl) (Nat.le_of_ble_eq_true rfl) (by decide) (by decide) ?_
            refine PW.up (by decide) (c_X12_othersOf (V) (hV) G _ M I x3 (by omega) (by omega) (by omega) fun x82 M81 IM81 GM81 hx82 kx82 TM81 => ?_)
            have FM81 := Fr.trans F GM81 (rfl)
            have ty83 : (o_a (M81 296) 0).toInt = (o_a (M 296) 0).toInt := by rw [Fr.at GM81 kd_296 (by decide)]
            refine PW.rI q_206_169 rfl (by decide) (by decide) ?_
            exact hK x82 M81 IM81 FM81 (by omega) (by omega) ⟨(congrArg (fun e => o_i e 2) (Fr.at GM81 kd_294 rfl)), (gHq.refl.cg (Fr.at GM81 kd_296 rfl) (Fr.at GM81 kd_294 rfl))⟩
          · skip
            refine PW.aload_n q_206_139 rfl ?_
            refine PW.gR 296 q_206_140 (Or.inl t_ft_206_33) gF_40_6 kd_294 I.1 (by decide) rfl ?_
            refine PW.cB q_206_143 (by decide) fun c84 hc84 => ?_
            refine PW.aI q_206_145 gA_42 kd_296 I.1 (by decide) gB_42_35_35 (by decide) (by omega) (by omega) fun x85 fx85 hx85 kx85 => ?_
            have elx85 : o_a (M 296) 35 = x85 := by have e : c84.toInt.toNat = 35 := (by omega); rw [e] at fx85; exact fx85
            have ezx85 : x85.toInt = x79.toInt := by rw [← elx85, elx79]
            refine PW.cI q_206_146 (by decide) fun c86 hc86 => ?_
            refine PW.subN q_206_147 (by omega) (by omega) fun x87 hx87 => ?_
            refine PW.iload_n q_206_148 rfl ?_
            refine PW.jc_eq q_206_149 rfl (fun h88 => ?_) (fun h88 => ?_)
            · skip
              refine PW.aload_n q_206_164 rfl ?_
              refine PW.iload_n q_206_165 rfl ?_
              refine PW.cV (as := [_]) (rest := []) q_206_166 t_mv_206_264 kd_294 I.1 (by decide) rfl (by decide) rfl rfl (Nat.le_of_ble_eq_true rfl) (Nat.le_of_ble_eq_true rfl) (by decide) (by decide) ?_
              refine PW.up (by decide) (c_X12_othersOf (V) (hV) G _ M I x3 (by omega) (by omega) (by omega) fun x90 M89 IM89 GM89 hx90 kx90 TM89 => ?_)
              have FM89 := Fr.trans F GM89 (rfl)
              have ty91 : (o_a (M89 296) 0).toInt = (o_a (M 296) 0).toInt := by rw [Fr.at GM89 kd_296 (by decide)]
              refine PW.rI q_206_169 rfl (by decide) (by decide) ?_
              exact hK x90 M89 IM89 FM89 (by omega) (by omega) ⟨(congrArg (fun e => o_i e 2) (Fr.at GM89 kd_294 rfl)), (gHq.refl.cg (Fr.at GM89 kd_296 rfl) (Fr.at GM89 kd_294 rfl))⟩
            · skip
              refine PW.aload_n q_206_152 rfl ?_
              refine PW.gR 296 q_206_153 (Or.inl t_ft_206_33) gF_40_6 kd_294 I.1 (by decide) rfl ?_
              refine PW.cB q_206_156 (by decide) fun c92 hc92 => ?_
              refine PW.aI q_206_158 gA_42 kd_296 I.1 (by decide) gB_42_35_35 (by decide) (by omega) (by omega) fun x93 fx93 hx93 kx93 => ?_
              have elx93 : o_a (M 296) 35 = x93 := by have e : c92.toInt.toNat = 35 := (by omega); rw [e] at fx93; exact fx93
              have ezx93 : x93.toInt = x85.toInt := by rw [← elx93, elx85]
              refine PW.cI q_206_159 (by decide) fun c94 hc94 => ?_
              refine PW.subN q_206_160 (by omega) (by omega) fun x95 hx95 => ?_
              refine PW.goto q_206_161 rfl ?_
              refine PW.rI q_206_169 rfl (by decide) (by decide) ?_
              exact hK x95 M I F (by omega) (by omega) ⟨rfl, gHq.refl⟩
        · skip
          refine PW.tswO q_206_64 h61 rfl ?_
          refine PW.aload_n q_206_170 rfl ?_
          refine PW.iload_n q_206_171 rfl ?_
          refine PW.cV (as := [_]) (rest := []) q_206_172 t_mv_206_264 kd_294 I.1 (by decide) rfl (by decide) rfl rfl (Nat.le_of_ble_eq_true rfl) (Nat.le_of_ble_eq_true rfl) (by decide) (by decide) ?_
          refine PW.up (by decide) (c_X12_othersOf (V) (hV) G _ M I x3 (by omega) (by omega) (by omega) fun x97 M96 IM96 GM96 hx97 kx97 TM96 => ?_)
          have FM96 := Fr.trans F GM96 (rfl)
          have ty98 : (o_a (M96 296) 0).toInt = (o_a (M 296) 0).toInt := by rw [Fr.at GM96 kd_296 (by decide)]
          refine PW.rI q_206_175 rfl (by decide) (by decide) ?_
          exact hK x97 M96 IM96 FM96 (by omega) (by omega) ⟨(congrArg (fun e => o_i e 2) (Fr.at GM96 kd_294 rfl)), (gHq.refl.cg (Fr.at GM96 kd_296 rfl) (Fr.at GM96 kd_294 rfl))⟩
      · skip
        refine PW.aload_n q_206_45 rfl ?_
        refine PW.gR 296 q_206_46 (Or.inl t_ft_206_33) gF_40_6 kd_294 I.1 (by decide) rfl ?_
        refine PW.cB q_206_49 (by decide) fun c99 hc99 => ?_
        refine PW.aI q_206_51 gA_42 kd_296 I.1 (by decide) gB_42_34_34 (by decide) (by omega) (by omega) fun x100 fx100 hx100 kx100 => ?_
        have elx100 : o_a (M 296) 34 = x100 := by have e : c99.toInt.toNat = 34 := (by omega); rw [e] at fx100; exact fx100
        have ezx100 : x100.toInt = x54.toInt := by rw [← elx100, elx54]
        refine PW.cI q_206_52 (by decide) fun c101 hc101 => ?_
        refine PW.subN q_206_53 (by omega) (by omega) fun x102 hx102 => ?_
        refine PW.rI q_206_54 rfl (by decide) (by decide) ?_
        exact hK x102 M I F (by omega) (by omega) ⟨rfl, gHq.refl⟩
  · skip
    refine PW.cI q_206_20 (by decide) fun c103 hc103 => ?_
    refine PW.rI q_206_21 rfl (by decide) (by decide) ?_
    exact hK c103 M I F (by omega) (by omega) ⟨rfl, gHq.refl⟩
theorem c_X12_walksOn (V : pM → Prop) (hV : Stab V) (G : pG) (Kr : pK) (M : pM) (I : Iv V M) (a1 : Int32) (hl_a1 : 0 ≤ a1.toInt) (hh_a1 : a1.toInt ≤ 5) (hK : ∀ (M1 : pM), Iv V M1 → Fr [42] M M1 → ((gLq M1 M) ∧ gHq M1 M) → Kr.1 none 311 M1) : PW G false 1 207 (p_mc 207) (p_msl 207) Kr 0 (lv_args 0 [.ref 294, .int a1]) [] 311 M 0 0 := by
  have F : Fr [42] M M := Fr.refl
  refine PW.aload_n q_207_0 rfl ?_
  refine PW.gR 296 q_207_1 (Or.inl t_ft_207_33) gF_40_6 kd_294 I.1 (by decide) rfl ?_
  refine PW.cB q_207_4 (by decide) fun c1 hc1 => ?_
  refine PW.iload_n q_207_6 rfl ?_
  refine PW.addN q_207_7 (by omega) (by omega) fun x2 hx2 => ?_
  refine PW.aH q_207_8 gA_42 kd_296 I.1 (by decide) (by omega) (by omega) fun x3 fx3 => ?_
  refine PW.istore_n q_207_9 (by decide) ?_
  refine PW.aload_n q_207_10 rfl ?_
  refine PW.gR 296 q_207_11 (Or.inl t_ft_207_33) gF_40_6 kd_294 I.1 (by decide) rfl ?_
  refine PW.cB q_207_14 (by decide) fun c4 hc4 => ?_
  refine PW.iload_n q_207_16 rfl ?_
  refine PW.addN q_207_17 (by omega) (by omega) fun x5 hx5 => ?_
  refine PW.aH q_207_18 gA_42 kd_296 I.1 (by decide) (by omega) (by omega) fun x6 fx6 => ?_
  refine PW.cI q_207_19 (by decide) fun c7 hc7 => ?_
  have J61_9 : ∀ (MJ61_9 : pM) (s10 : Int32), Iv (V) MJ61_9 → Fr [42] M MJ61_9 → (gLq MJ61_9 M ∧ gHq MJ61_9 M) → PW G false 1 207 (p_mc 207) (p_msl 207) Kr 61 [(0, .ref 294), (1, .int a1), (2, .int x3)] [.int s10] 311 MJ61_9 0 0 := by
    intro MJ61_9 s10 IMJ61_9 FMJ61_9 hbJ61_90
    refine PW.istore_n q_207_61 (by decide) ?_
    refine PW.aload_n q_207_62 rfl ?_
    refine PW.gR 296 q_207_63 (Or.inl t_ft_207_33) gF_40_6 kd_294 IMJ61_9.1 (by decide) rfl ?_
    refine PW.cB q_207_66 (by decide) fun c11 hc11 => ?_
    refine PW.iload_n q_207_68 rfl ?_
    refine PW.addN q_207_69 (by omega) (by omega) fun x12 hx12 => ?_
    refine PW.iload_n q_207_70 rfl ?_
    refine PW.wS q_207_71 hV IMJ61_9 gC_42_36_41 gN_36_41 (by decide) (by omega) (by omega) (n_lo _) (n_hi _) fun M13 IM13 fM13 UM13 => ?_
    have FM13 := Fr.pu FMJ61_9 UM13.1 kd_296 (rfl : List.contains [42] 42 = true)
    refine PW.aload_n q_207_72 rfl ?_
    refine PW.gR 296 q_207_73 (Or.inl t_ft_207_33) gF_40_6 kd_294 IM13.1 (by decide) rfl ?_
    refine PW.cB q_207_76 (by decide) fun c14 hc14 => ?_
    refine PW.iload_n q_207_78 rfl ?_
    refine PW.addN q_207_79 (by omega) (by omega) fun x15 hx15 => ?_
    refine PW.dup2 q_207_80 rfl rfl ?_
    refine PW.aH q_207_81 gA_42 kd_296 IM13.1 (by decide) (by omega) (by omega) fun x16 fx16 => ?_
    refine PW.iload_n q_207_82 rfl ?_
    refine PW.iload_n q_207_83 rfl ?_
    refine PW.callS (as := [_, _]) (rest := [_, _, _]) q_207_84 t_ms_207_244 (by decide) rfl (Nat.le_of_ble_eq_true rfl) (Nat.le_of_ble_eq_true rfl) (by decide) (by decide) ?_
    refine PW.iload_n q_170_0 rfl ?_
    refine PW.iload_n q_170_1 rfl ?_
    refine PW.jc_ge q_170_2 rfl (fun h17 => ?_) (fun h17 => ?_)
    · skip
      refine PW.iload_n q_170_11 rfl ?_
      refine PW.iload_n q_170_12 rfl ?_
      refine PW.subH q_170_13 fun x18 => ?_
      refine PW.rI q_170_14 rfl (by decide) (by decide) ?_
      refine PW.addH q_207_87 fun x19 => ?_
      refine PW.wS q_207_88 hV IM13 gC_42_67_72 gN_67_72 (by decide) (by omega) (by omega) (n_lo _) (n_hi _) fun M20 IM20 fM20 UM20 => ?_
      have FM20 := Fr.pu FM13 UM20.1 kd_296 (rfl : List.contains [42] 42 = true)
      refine PW.aload_n q_207_89 rfl ?_
      refine PW.gR 296 q_207_90 (Or.inl t_ft_207_33) gF_40_6 kd_294 IM20.1 (by decide) rfl ?_
      refine PW.cB q_207_93 (by decide) fun c21 hc21 => ?_
      refine PW.dup2 q_207_95 rfl rfl ?_
      refine PW.aH q_207_96 gA_42 kd_296 IM20.1 (by decide) (by omega) (by omega) fun x22 fx22 => ?_
      refine PW.iload_n q_207_97 rfl ?_
      refine PW.iload_n q_207_98 rfl ?_
      refine PW.jc_eq q_207_99 rfl (fun h23 => ?_) (fun h23 => ?_)
      · skip
        refine PW.cI q_207_108 (by decide) fun c24 hc24 => ?_
        refine PW.orH q_207_109 fun x25 => ?_
        refine PW.wS q_207_110 hV IM20 gC_42_73_73 gN_73_73 (by decide) (by omega) (by omega) (n_lo _) (n_hi _) fun M26 IM26 fM26 UM26 => ?_
        have FM26 := Fr.pu FM20 UM26.1 kd_296 (rfl : List.contains [42] 42 = true)
        refine PW.vret q_207_111 rfl (by decide) (by decide) ?_
        exact hK M26 IM26 FM26 ⟨((congrArg (fun e => o_i e 2) (UM26.1 294 (by decide))).trans ((congrArg (fun e => o_i e 2) (UM20.1 294 (by decide))).trans ((congrArg (fun e => o_i e 2) (UM13.1 294 (by decide))).trans hbJ61_90.1))), (((hbJ61_90.2.st UM13 (by omega)).st UM20 (by omega)).st UM26 (by omega))⟩
      · skip
        refine PW.cI q_207_102 (by decide) fun c27 hc27 => ?_
        refine PW.iload_n q_207_103 rfl ?_
        refine PW.shlH q_207_104 fun x28 => ?_
        refine PW.goto q_207_105 rfl ?_
        refine PW.orH q_207_109 fun x29 => ?_
        refine PW.wS q_207_110 hV IM20 gC_42_73_73 gN_73_73 (by decide) (by omega) (by omega) (n_lo _) (n_hi _) fun M30 IM30 fM30 UM30 => ?_
        have FM30 := Fr.pu FM20 UM30.1 kd_296 (rfl : List.contains [42] 42 = true)
        refine PW.vret q_207_111 rfl (by decide) (by decide) ?_
        exact hK M30 IM30 FM30 ⟨((congrArg (fun e => o_i e 2) (UM30.1 294 (by decide))).trans ((congrArg (fun e => o_i e 2) (UM20.1 294 (by decide))).trans ((congrArg (fun e => o_i e 2) (UM13.1 294 (by decide))).trans hbJ61_90.1))), (((hbJ61_90.2.st UM13 (by omega)).st UM20 (by omega)).st UM30 (by omega))⟩
    · skip
      refine PW.iload_n q_170_5 rfl ?_
      refine PW.iload_n q_170_6 rfl ?_
      refine PW.subH q_170_7 fun x31 => ?_
      refine PW.goto q_170_8 rfl ?_
      refine PW.rI q_170_14 rfl (by decide) (by decide) ?_
      refine PW.addH q_207_87 fun x32 => ?_
      refine PW.wS q_207_88 hV IM13 gC_42_67_72 gN_67_72 (by decide) (by omega) (by omega) (n_lo _) (n_hi _) fun M33 IM33 fM33 UM33 => ?_
      have FM33 := Fr.pu FM13 UM33.1 kd_296 (rfl : List.contains [42] 42 = true)
      refine PW.aload_n q_207_89 rfl ?_
      refine PW.gR 296 q_207_90 (Or.inl t_ft_207_33) gF_40_6 kd_294 IM33.1 (by decide) rfl ?_
      refine PW.cB q_207_93 (by decide) fun c34 hc34 => ?_
      refine PW.dup2 q_207_95 rfl rfl ?_
      refine PW.aH q_207_96 gA_42 kd_296 IM33.1 (by decide) (by omega) (by omega) fun x35 fx35 => ?_
      refine PW.iload_n q_207_97 rfl ?_
      refine PW.iload_n q_207_98 rfl ?_
      refine PW.jc_eq q_207_99 rfl (fun h36 => ?_) (fun h36 => ?_)
      · skip
        refine PW.cI q_207_108 (by decide) fun c37 hc37 => ?_
        refine PW.orH q_207_109 fun x38 => ?_
        refine PW.wS q_207_110 hV IM33 gC_42_73_73 gN_73_73 (by decide) (by omega) (by omega) (n_lo _) (n_hi _) fun M39 IM39 fM39 UM39 => ?_
        have FM39 := Fr.pu FM33 UM39.1 kd_296 (rfl : List.contains [42] 42 = true)
        refine PW.vret q_207_111 rfl (by decide) (by decide) ?_
        exact hK M39 IM39 FM39 ⟨((congrArg (fun e => o_i e 2) (UM39.1 294 (by decide))).trans ((congrArg (fun e => o_i e 2) (UM33.1 294 (by decide))).trans ((congrArg (fun e => o_i e 2) (UM13.1 294 (by decide))).trans hbJ61_90.1))), (((hbJ61_90.2.st UM13 (by omega)).st UM33 (by omega)).st UM39 (by omega))⟩
      · skip
        refine PW.cI q_207_102 (by decide) fun c40 hc40 => ?_
        refine PW.iload_n q_207_103 rfl ?_
        refine PW.shlH q_207_104 fun x41 => ?_
        refine PW.goto q_207_105 rfl ?_
        refine PW.orH q_207_109 fun x42 => ?_
        refine PW.wS q_207_110 hV IM33 gC_42_73_73 gN_73_73 (by decide) (by omega) (by omega) (n_lo _) (n_hi _) fun M43 IM43 fM43 UM43 => ?_
        have FM43 := Fr.pu FM33 UM43.1 kd_296 (rfl : List.contains [42] 42 = true)
        refine PW.vret q_207_111 rfl (by decide) (by decide) ?_
        exact hK M43 IM43 FM43 ⟨((congrArg (fun e => o_i e 2) (UM43.1 294 (by decide))).trans ((congrArg (fun e => o_i e 2) (UM33.1 294 (by decide))).trans ((congrArg (fun e => o_i e 2) (UM13.1 294 (by decide))).trans hbJ61_90.1))), (((hbJ61_90.2.st UM13 (by omega)).st UM33 (by omega)).st UM43 (by omega))⟩
  refine PW.jc_ne q_207_20 rfl (fun h8 => ?_) (fun h8 => ?_)
  · skip
    refine PW.aload_n q_207_41 rfl ?_
    refine PW.gR 296 q_207_42 (Or.inl t_ft_207_33) gF_40_6 kd_294 I.1 (by decide) rfl ?_
    refine PW.cI q_207_45 (by decide) fun c44 hc44 => ?_
    refine PW.aH q_207_46 gA_42 kd_296 I.1 (by decide) (by omega) (by omega) fun x45 fx45 => ?_
    refine PW.iload_n q_207_47 rfl ?_
    refine PW.aload_n q_207_48 rfl ?_
    refine PW.gR 296 q_207_49 (Or.inl t_ft_207_33) gF_40_6 kd_294 I.1 (by decide) rfl ?_
    refine PW.cB q_207_52 (by decide) fun c46 hc46 => ?_
    refine PW.iload_n q_207_54 rfl ?_
    refine PW.addN q_207_55 (by omega) (by omega) fun x47 hx47 => ?_
    refine PW.aI q_207_56 gA_42 kd_296 I.1 (by decide) gB_42_11_16 (by decide) (by omega) (by omega) fun x48 fx48 hx48 kx48 => ?_
    refine PW.addH q_207_57 fun x49 => ?_
    refine PW.callS (as := [_, _]) (rest := []) q_207_58 t_ms_207_271 (by decide) rfl (Nat.le_of_ble_eq_true rfl) (Nat.le_of_ble_eq_true rfl) (by decide) (by decide) ?_
    refine PW.iload_n q_168_0 rfl ?_
    refine PW.iload_n q_168_1 rfl ?_
    refine PW.jc_ge q_168_2 rfl (fun h50 => ?_) (fun h50 => ?_)
    · skip
      refine PW.iload_n q_168_9 rfl ?_
      refine PW.rI q_168_10 rfl (by decide) (by decide) ?_
      exact PW.lvS (lk1 rfl (lk1 rfl (lk1 rfl lk0))) (J61_9 M x49 I F ⟨rfl, gHq.refl⟩)
    · skip
      refine PW.iload_n q_168_5 rfl ?_
      refine PW.goto q_168_6 rfl ?_
      refine PW.rI q_168_10 rfl (by decide) (by decide) ?_
      exact PW.lvS (lk1 rfl (lk1 rfl (lk1 rfl lk0))) (J61_9 M x45 I F ⟨rfl, gHq.refl⟩)
  · skip
    refine PW.cI q_207_23 (by decide) fun c51 hc51 => ?_
    refine PW.iload_n q_207_24 rfl ?_
    refine PW.aload_n q_207_25 rfl ?_
    refine PW.gR 296 q_207_26 (Or.inl t_ft_207_33) gF_40_6 kd_294 I.1 (by decide) rfl ?_
    refine PW.cB q_207_29 (by decide) fun c52 hc52 => ?_
    refine PW.iload_n q_207_31 rfl ?_
    refine PW.addN q_207_32 (by omega) (by omega) fun x53 hx53 => ?_
    refine PW.aI q_207_33 gA_42 kd_296 I.1 (by decide) gB_42_11_16 (by decide) (by omega) (by omega) fun x54 fx54 hx54 kx54 => ?_
    refine PW.subH q_207_34 fun x55 => ?_
    refine PW.callS (as := [_, _]) (rest := []) q_207_35 t_ms_207_268 (by decide) rfl (Nat.le_of_ble_eq_true rfl) (Nat.le_of_ble_eq_true rfl) (by decide) (by decide) ?_
    refine PW.iload_n q_169_0 rfl ?_
    refine PW.iload_n q_169_1 rfl ?_
    refine PW.jc_le q_169_2 rfl (fun h56 => ?_) (fun h56 => ?_)
    · skip
      refine PW.iload_n q_169_9 rfl ?_
      refine PW.rI q_169_10 rfl (by decide) (by decide) ?_
      refine PW.goto q_207_38 rfl ?_
      exact PW.lvS (lk1 rfl (lk1 rfl (lk1 rfl lk0))) (J61_9 M x55 I F ⟨rfl, gHq.refl⟩)
    · skip
      refine PW.iload_n q_169_5 rfl ?_
      refine PW.goto q_169_6 rfl ?_
      refine PW.rI q_169_10 rfl (by decide) (by decide) ?_
      refine PW.goto q_207_38 rfl ?_
      exact PW.lvS (lk1 rfl (lk1 rfl (lk1 rfl lk0))) (J61_9 M c51 I F ⟨rfl, gHq.refl⟩)
theorem c_X12_sees_0 (c a b : Int) (G : pG) (Kr : pK) (M : pM) (I : Iv (gY c a b) M) (a1 : Int32) (a2 : Int32) (hl_a1 : 0 ≤ a1.toInt) (hh_a1 : a1.toInt ≤ 0) (hl_a2 : 0 ≤ a2.toInt) (hh_a2 : a2.toInt ≤ 5) (hp_0 : 0 ≤ a) (hp_1 : a ≤ 599) (hK : ∀ (M1 : pM), Iv (gY c (a + 1) (b)) M1 → Fr [42] M M1 → (gLq M1 M ∧ gHq M1 M) → Kr.1 none 311 M1) : PW G false 1 208 (p_mc 208) (p_msl 208) Kr 0 (lv_args 0 [.ref 294, .int a1, .int a2]) [] 311 M 0 0 := by
  have F : Fr [42] M M := Fr.refl
  refine PW.aload_n q_208_0 rfl ?_
  refine PW.gR 296 q_208_1 (Or.inl t_ft_208_33) gF_40_6 kd_294 I.1 (by decide) rfl ?_
  refine PW.cB q_208_4 (by decide) fun c1 hc1 => ?_
  refine PW.iload_n q_208_6 rfl ?_
  refine PW.addN q_208_7 (by omega) (by omega) fun x2 hx2 => ?_
  refine PW.aload_n q_208_8 rfl ?_
  refine PW.gR 296 q_208_9 (Or.inl t_ft_208_33) gF_40_6 kd_294 I.1 (by decide) rfl ?_
  refine PW.cB q_208_12 (by decide) fun c3 hc3 => ?_
  refine PW.aI q_208_14 gA_42 kd_296 I.1 (by decide) gB_42_33_33 (by decide) (by omega) (by omega) fun x4 fx4 hx4 kx4 => ?_
  have eyx4 : x4.toInt = c := by have w := I.2.2.1.1; have e : c3.toInt.toNat = 33 := (by omega); rw [← e, fx4] at w; exact w
  have elx4 : o_a (M 296) 33 = x4 := by have e : c3.toInt.toNat = 33 := (by omega); rw [e] at fx4; exact fx4
  refine PW.cI q_208_15 (by decide) fun c5 hc5 => ?_
  refine PW.addN q_208_16 (by omega) (by omega) fun x6 hx6 => ?_
  refine PW.wS q_208_17 (StabY c a b) I gC_42_55_60 gN_55_60 (by decide) (by omega) (by omega) (n_lo _) (n_hi _) fun M7 IM7 fM7 UM7 => ?_
  have FM7 := Fr.pu F UM7.1 kd_296 (rfl : List.contains [42] 42 = true)
  refine PW.aload_n q_208_18 rfl ?_
  refine PW.gR 296 q_208_19 (Or.inl t_ft_208_33) gF_40_6 kd_294 IM7.1 (by decide) rfl ?_
  refine PW.cB q_208_22 (by decide) fun c8 hc8 => ?_
  refine PW.iload_n q_208_24 rfl ?_
  refine PW.addN q_208_25 (by omega) (by omega) fun x9 hx9 => ?_
  refine PW.dup2 q_208_26 rfl rfl ?_
  refine PW.aH q_208_27 gA_42 kd_296 IM7.1 (by decide) (by omega) (by omega) fun x10 fx10 => ?_
  refine PW.cI q_208_28 (by decide) fun c11 hc11 => ?_
  refine PW.addH q_208_29 fun x12 => ?_
  refine PW.wS q_208_30 (StabY c a b) IM7 gC_42_61_66 gN_61_66 (by decide) (by omega) (by omega) (n_lo _) (n_hi _) fun M13 IM13 fM13 UM13 => ?_
  have FM13 := Fr.pu FM7 UM13.1 kd_296 (rfl : List.contains [42] 42 = true)
  refine PW.aload_n q_208_31 rfl ?_
  refine PW.gR 296 q_208_32 (Or.inl t_ft_208_33) gF_40_6 kd_294 IM13.1 (by decide) rfl ?_
  refine PW.cB q_208_35 (by decide) fun c14 hc14 => ?_
  refine PW.cB q_208_37 (by decide) fun c15 hc15 => ?_
  refine PW.aload_n q_208_39 rfl ?_
  refine PW.gR 296 q_208_40 (Or.inl t_ft_208_33) gF_40_6 kd_294 IM13.1 (by decide) rfl ?_
  refine PW.cB q_208_43 (by decide) fun c16 hc16 => ?_
  refine PW.iload_n q_208_45 rfl ?_
  refine PW.addN q_208_46 (by omega) (by omega) fun x17 hx17 => ?_
  refine PW.aI q_208_47 gA_42 kd_296 IM13.1 (by decide) gB_42_86_86 (by decide) (by omega) (by omega) fun x18 fx18 hx18 kx18 => ?_
  have elx18 : o_a (M13 296) 86 = x18 := by have e : x17.toInt.toNat = 86 := (by omega); rw [e] at fx18; exact fx18
  refine PW.mulN q_208_48 (6) (by omega) x18 (fun h => n_eq.mpr (by omega)) (fun h => n_eq.mpr (by omega)) (by omega) (by omega) fun x19 hx19 => ?_
  refine PW.addN q_208_49 (by omega) (by omega) fun x20 hx20 => ?_
  refine PW.iload_n q_208_50 rfl ?_
  refine PW.addN q_208_51 (by omega) (by omega) fun x21 hx21 => ?_
  refine PW.dup2 q_208_52 rfl rfl ?_
  refine PW.aH q_208_53 gA_42 kd_296 IM13.1 (by decide) (by omega) (by omega) fun x22 fx22 => ?_
  refine PW.cI q_208_54 (by decide) fun c23 hc23 => ?_
  refine PW.addH q_208_55 fun x24 => ?_
  refine PW.wS q_208_56 (StabY c a b) IM13 gC_42_100_135 gN_100_135 (by decide) (by omega) (by omega) (n_lo _) (n_hi _) fun M25 IM25 fM25 UM25 => ?_
  have FM25 := Fr.pu FM13 UM25.1 kd_296 (rfl : List.contains [42] 42 = true)
  refine PW.aload_n q_208_57 rfl ?_
  refine PW.gR 296 q_208_58 (Or.inl t_ft_208_33) gF_40_6 kd_294 IM25.1 (by decide) rfl ?_
  refine PW.cB q_208_61 (by decide) fun c26 hc26 => ?_
  refine PW.cB q_208_63 (by decide) fun c27 hc27 => ?_
  refine PW.iload_n q_208_65 rfl ?_
  refine PW.mulN q_208_66 (6) (by omega) a1 (fun h => n_eq.mpr (by omega)) (fun h => n_eq.mpr (by omega)) (by omega) (by omega) fun x28 hx28 => ?_
  refine PW.addN q_208_67 (by omega) (by omega) fun x29 hx29 => ?_
  refine PW.iload_n q_208_68 rfl ?_
  refine PW.addN q_208_69 (by omega) (by omega) fun x30 hx30 => ?_
  refine PW.aload_n q_208_70 rfl ?_
  refine PW.gR 296 q_208_71 (Or.inl t_ft_208_33) gF_40_6 kd_294 IM25.1 (by decide) rfl ?_
  refine PW.cB q_208_74 (by decide) fun c31 hc31 => ?_
  refine PW.aI q_208_76 gA_42 kd_296 IM25.1 (by decide) gB_42_33_33 (by decide) (by omega) (by omega) fun x32 fx32 hx32 kx32 => ?_
  have eyx32 : x32.toInt = c := by have w := IM25.2.2.1.1; have e : c31.toInt.toNat = 33 := (by omega); rw [← e, fx32] at w; exact w
  have elx32 : o_a (M25 296) 33 = x32 := by have e : c31.toInt.toNat = 33 := (by omega); rw [e] at fx32; exact fx32
  have ezx32 : x32.toInt = x4.toInt := by rw [← elx32, ((UM25.2 33 (by omega)).trans ((UM13.2 33 (by omega)).trans ((UM7.2 33 (by omega)).trans elx4)))]
  refine PW.cI q_208_77 (by decide) fun c33 hc33 => ?_
  refine PW.addN q_208_78 (by omega) (by omega) fun x34 hx34 => ?_
  refine PW.wS q_208_79 (StabY c a b) IM25 gC_42_88_93 gN_88_93 (by decide) (by omega) (by omega) (by omega) (by omega) fun M35 IM35 fM35 UM35 => ?_
  have FM35 := Fr.pu FM25 UM35.1 kd_296 (rfl : List.contains [42] 42 = true)
  refine PW.cB q_208_80 (by decide) fun c36 hc36 => ?_
  refine PW.iload_n q_208_82 rfl ?_
  refine PW.mulN q_208_83 (20) (by omega) a1 (fun h => n_eq.mpr (by omega)) (fun h => n_eq.mpr (by omega)) (by omega) (by omega) fun x37 hx37 => ?_
  refine PW.aload_n q_208_84 rfl ?_
  refine PW.gR 296 q_208_85 (Or.inl t_ft_208_33) gF_40_6 kd_294 IM35.1 (by decide) rfl ?_
  refine PW.cB q_208_88 (by decide) fun c38 hc38 => ?_
  refine PW.iload_n q_208_90 rfl ?_
  refine PW.addN q_208_91 (by omega) (by omega) fun x39 hx39 => ?_
  refine PW.aI q_208_92 gA_42 kd_296 IM35.1 (by decide) gB_42_80_80 (by decide) (by omega) (by omega) fun x40 fx40 hx40 kx40 => ?_
  have eyx40 : x40.toInt = a := by have w := IM35.2.2.1.2.1; have e : x39.toInt.toNat = 80 := (by omega); rw [← e, fx40] at w; exact w
  have elx40 : o_a (M35 296) 80 = x40 := by have e : x39.toInt.toNat = 80 := (by omega); rw [e] at fx40; exact fx40
  refine PW.cB q_208_93 (by decide) fun c41 hc41 => ?_
  refine PW.remP q_208_95 (by omega) (by omega) fun x42 hx42 kx42 ex42 => ?_
  clear ex42
  refine PW.addN q_208_96 (by omega) (by omega) fun x43 hx43 => ?_
  refine PW.istore_n q_208_97 (by decide) ?_
  refine PW.aload_n q_208_98 rfl ?_
  refine PW.gR 296 q_208_99 (Or.inl t_ft_208_33) gF_40_6 kd_294 IM35.1 (by decide) rfl ?_
  refine PW.cS q_208_102 (by decide) fun c44 hc44 => ?_
  refine PW.iload_n q_208_105 rfl ?_
  refine PW.addN q_208_106 (by omega) (by omega) fun x45 hx45 => ?_
  refine PW.iload_n q_208_107 rfl ?_
  refine PW.wS q_208_108 (StabY c a b) IM35 gC_42_136_155 gN_136_155 (by decide) (by omega) (by omega) (n_lo _) (n_hi _) fun M46 IM46 fM46 UM46 => ?_
  have FM46 := Fr.pu FM35 UM46.1 kd_296 (rfl : List.contains [42] 42 = true)
  refine PW.aload_n q_208_109 rfl ?_
  refine PW.gR 296 q_208_110 (Or.inl t_ft_208_33) gF_40_6 kd_294 IM46.1 (by decide) rfl ?_
  refine PW.cS q_208_113 (by decide) fun c47 hc47 => ?_
  refine PW.iload_n q_208_116 rfl ?_
  refine PW.addN q_208_117 (by omega) (by omega) fun x48 hx48 => ?_
  refine PW.aload_n q_208_118 rfl ?_
  refine PW.gR 296 q_208_119 (Or.inl t_ft_208_33) gF_40_6 kd_294 IM46.1 (by decide) rfl ?_
  refine PW.cB q_208_122 (by decide) fun c49 hc49 => ?_
  refine PW.iload_n q_208_124 rfl ?_
  refine PW.addN q_208_125 (by omega) (by omega) fun x50 hx50 => ?_
  refine PW.aH q_208_126 gA_42 kd_296 IM46.1 (by decide) (by omega) (by omega) fun x51 fx51 => ?_
  refine PW.wS q_208_127 (StabY c a b) IM46 gC_42_176_195 gN_176_195 (by decide) (by omega) (by omega) (n_lo _) (n_hi _) fun M52 IM52 fM52 UM52 => ?_
  have FM52 := Fr.pu FM46 UM52.1 kd_296 (rfl : List.contains [42] 42 = true)
  refine PW.aload_n q_208_128 rfl ?_
  refine PW.gR 296 q_208_129 (Or.inl t_ft_208_33) gF_40_6 kd_294 IM52.1 (by decide) rfl ?_
  refine PW.cB q_208_132 (by decide) fun c53 hc53 => ?_
  refine PW.iload_n q_208_134 rfl ?_
  refine PW.addN q_208_135 (by omega) (by omega) fun x54 hx54 => ?_
  refine PW.iload_n q_208_136 rfl ?_
  refine PW.wS q_208_137 (StabY c a b) IM52 gC_42_86_86 gN_86_86 (by decide) (by omega) (by omega) (by omega) (by omega) fun M55 IM55 fM55 UM55 => ?_
  have FM55 := Fr.pu FM52 UM55.1 kd_296 (rfl : List.contains [42] 42 = true)
  have elM55 : o_a (M55 296) 86 = a2 := by have e : x54.toInt.toNat = 86 := (by omega); rw [e] at fM55; exact fM55
  refine PW.aload_n q_208_138 rfl ?_
  refine PW.gR 296 q_208_139 (Or.inl t_ft_208_33) gF_40_6 kd_294 IM55.1 (by decide) rfl ?_
  refine PW.cB q_208_142 (by decide) fun c56 hc56 => ?_
  refine PW.iload_n q_208_144 rfl ?_
  refine PW.addN q_208_145 (by omega) (by omega) fun x57 hx57 => ?_
  refine PW.aload_n q_208_146 rfl ?_
  refine PW.gR 296 q_208_147 (Or.inl t_ft_208_33) gF_40_6 kd_294 IM55.1 (by decide) rfl ?_
  refine PW.cB q_208_150 (by decide) fun c58 hc58 => ?_
  refine PW.iload_n q_208_152 rfl ?_
  refine PW.addN q_208_153 (by omega) (by omega) fun x59 hx59 => ?_
  refine PW.aH q_208_154 gA_42 kd_296 IM55.1 (by decide) (by omega) (by omega) fun x60 fx60 => ?_
  have elx60 : o_a (M55 296) 27 = x60 := by have e : x59.toInt.toNat = 27 := (by omega); rw [e] at fx60; exact fx60
  refine PW.wS q_208_155 (StabY c a b) IM55 gC_42_84_84 gN_84_84 (by decide) (by omega) (by omega) (n_lo _) (n_hi _) fun M61 IM61 fM61 UM61 => ?_
  have FM61 := Fr.pu FM55 UM61.1 kd_296 (rfl : List.contains [42] 42 = true)
  have elM61 : o_a (M61 296) 84 = x60 := by have e : x57.toInt.toNat = 84 := (by omega); rw [e] at fM61; exact fM61
  refine PW.aload_n q_208_156 rfl ?_
  refine PW.gR 296 q_208_157 (Or.inl t_ft_208_33) gF_40_6 kd_294 IM61.1 (by decide) rfl ?_
  refine PW.cB q_208_160 (by decide) fun c62 hc62 => ?_
  refine PW.iload_n q_208_162 rfl ?_
  refine PW.addN q_208_163 (by omega) (by omega) fun x63 hx63 => ?_
  refine PW.cI q_208_164 (by decide) fun c64 hc64 => ?_
  refine PW.wS q_208_165 (StabY c a b) IM61 gC_42_82_82 gN_82_82 (by decide) (by omega) (by omega) (by omega) (by omega) fun M65 IM65 fM65 UM65 => ?_
  have FM65 := Fr.pu FM61 UM65.1 kd_296 (rfl : List.contains [42] 42 = true)
  have elM65 : o_a (M65 296) 82 = c64 := by have e : x63.toInt.toNat = 82 := (by omega); rw [e] at fM65; exact fM65
  refine PW.aload_n q_208_166 rfl ?_
  refine PW.gR 296 q_208_167 (Or.inl t_ft_208_33) gF_40_6 kd_294 IM65.1 (by decide) rfl ?_
  refine PW.cB q_208_170 (by decide) fun c66 hc66 => ?_
  refine PW.iload_n q_208_172 rfl ?_
  refine PW.addN q_208_173 (by omega) (by omega) fun x67 hx67 => ?_
  refine PW.dup2 q_208_174 rfl rfl ?_
  refine PW.aI q_208_175 gA_42 kd_296 IM65.1 (by decide) gB_42_80_80 (by decide) (by omega) (by omega) fun x68 fx68 hx68 kx68 => ?_
  have eyx68 : x68.toInt = a := by have w := IM65.2.2.1.2.1; have e : x67.toInt.toNat = 80 := (by omega); rw [← e, fx68] at w; exact w
  have elx68 : o_a (M65 296) 80 = x68 := by have e : x67.toInt.toNat = 80 := (by omega); rw [e] at fx68; exact fx68
  have ezx68 : x68.toInt = x40.toInt := by rw [← elx68, ((UM65.2 80 (by omega)).trans ((UM61.2 80 (by omega)).trans ((UM55.2 80 (by omega)).trans ((UM52.2 80 (by omega)).trans ((UM46.2 80 (by omega)).trans elx40)))))]
  refine PW.cI q_208_176 (by decide) fun c69 hc69 => ?_
  refine PW.addN q_208_177 (by omega) (by omega) fun x70 hx70 => ?_
  refine PW.wB q_208_178 gA_42 kd_296 IM65.1 (by decide) (by omega) (by omega) (by rw [show x67.toInt.toNat = 80 from by omega]; exact ⟨by show (0 : Int) ≤ _; omega, by show _ ≤ (600 : Int); omega⟩) fun M71 JM71 fM71 UM71 => ?_
  have IM71 : Iv (gY c (a + 1) b) M71 := ⟨JM71, gY.p80 IM65.2 UM71 (by omega) fM71 (by omega)⟩
  have FM71 := Fr.pu FM65 UM71.1 kd_296 (rfl : List.contains [42] 42 = true)
  refine PW.aload_n q_208_179 rfl ?_
  refine PW.gR 296 q_208_180 (Or.inl t_ft_208_33) gF_40_6 kd_294 IM71.1 (by decide) rfl ?_
  refine PW.cB q_208_183 (by decide) fun c72 hc72 => ?_
  refine PW.aI q_208_185 gA_42 kd_296 IM71.1 (by decide) gB_42_34_34 (by decide) (by omega) (by omega) fun x73 fx73 hx73 kx73 => ?_
  have elx73 : o_a (M71 296) 34 = x73 := by have e : c72.toInt.toNat = 34 := (by omega); rw [e] at fx73; exact fx73
  refine PW.iload_n q_208_186 rfl ?_
  refine PW.cI q_208_187 (by decide) fun c74 hc74 => ?_
  refine PW.addN q_208_188 (by omega) (by omega) fun x75 hx75 => ?_
  have J200_77 : ∀ (MJ200_77 : pM), Iv (gY c (a + 1) b) MJ200_77 → Fr [42] M MJ200_77 → (gLq MJ200_77 M ∧ gHq MJ200_77 M) → PW G false 1 208 (p_mc 208) (p_msl 208) Kr 200 [(0, .ref 294), (1, .int a1), (2, .int a2), (3, .int x43)] [] 311 MJ200_77 0 0 := by
    intro MJ200_77  IMJ200_77 FMJ200_77 hbJ200_770
    refine PW.aload_n q_208_200 rfl ?_
    refine PW.gR 296 q_208_201 (Or.inl t_ft_208_33) gF_40_6 kd_294 IMJ200_77.1 (by decide) rfl ?_
    refine PW.cB q_208_204 (by decide) fun c78 hc78 => ?_
    refine PW.iload_n q_208_206 rfl ?_
    refine PW.addN q_208_207 (by omega) (by omega) fun x79 hx79 => ?_
    refine PW.aH q_208_208 gA_42 kd_296 IMJ200_77.1 (by decide) (by omega) (by omega) fun x80 fx80 => ?_
    have elx80 : o_a (MJ200_77 296) 31 = x80 := by have e : x79.toInt.toNat = 31 := (by omega); rw [e] at fx80; exact fx80
    refine PW.jz_le q_208_209 rfl (fun h81 => ?_) (fun h81 => ?_)
    · skip
      refine PW.vret q_208_258 rfl (by decide) (by decide) ?_
      exact hK MJ200_77 IMJ200_77 FMJ200_77 ⟨hbJ200_770.1, hbJ200_770.2⟩
    · skip
      refine PW.aload_n q_208_212 rfl ?_
      refine PW.gR 296 q_208_213 (Or.inl t_ft_208_33) gF_40_6 kd_294 IMJ200_77.1 (by decide) rfl ?_
      refine PW.cB q_208_216 (by decide) fun c82 hc82 => ?_
      refine PW.iload_n q_208_218 rfl ?_
      refine PW.addN q_208_219 (by omega) (by omega) fun x83 hx83 => ?_
      refine PW.aI q_208_220 gA_42 kd_296 IMJ200_77.1 (by decide) gB_42_80_80 (by decide) (by omega) (by omega) fun x84 fx84 hx84 kx84 => ?_
      have eyx84 : x84.toInt = a + 1 := by have w := IMJ200_77.2.2.1.2.1; have e : x83.toInt.toNat = 80 := (by omega); rw [← e, fx84] at w; exact w
      have elx84 : o_a (MJ200_77 296) 80 = x84 := by have e : x83.toInt.toNat = 80 := (by omega); rw [e] at fx84; exact fx84
      refine PW.aload_n q_208_221 rfl ?_
      refine PW.gR 296 q_208_222 (Or.inl t_ft_208_33) gF_40_6 kd_294 IMJ200_77.1 (by decide) rfl ?_
      refine PW.cB q_208_225 (by decide) fun c85 hc85 => ?_
      refine PW.iload_n q_208_227 rfl ?_
      refine PW.addN q_208_228 (by omega) (by omega) fun x86 hx86 => ?_
      refine PW.aH q_208_229 gA_42 kd_296 IMJ200_77.1 (by decide) (by omega) (by omega) fun x87 fx87 => ?_
      have elx87 : o_a (MJ200_77 296) 31 = x87 := by have e : x86.toInt.toNat = 31 := (by omega); rw [e] at fx87; exact fx87
      have ezx87 : x87.toInt = x80.toInt := by rw [← elx87, elx80]
      refine PW.remP q_208_230 (by omega) (by omega) fun x88 hx88 kx88 ex88 => ?_
      clear ex88
      refine PW.jz_ne q_208_231 rfl (fun h89 => ?_) (fun h89 => ?_)
      · skip
        refine PW.vret q_208_258 rfl (by decide) (by decide) ?_
        exact hK MJ200_77 IMJ200_77 FMJ200_77 ⟨hbJ200_770.1, hbJ200_770.2⟩
      · skip
        refine PW.aload_n q_208_234 rfl ?_
        refine PW.gR 296 q_208_235 (Or.inl t_ft_208_33) gF_40_6 kd_294 IMJ200_77.1 (by decide) rfl ?_
        refine PW.cB q_208_238 (by decide) fun c90 hc90 => ?_
        refine PW.iload_n q_208_240 rfl ?_
        refine PW.addN q_208_241 (by omega) (by omega) fun x91 hx91 => ?_
        refine PW.cI q_208_242 (by decide) fun c92 hc92 => ?_
        refine PW.aload_n q_208_243 rfl ?_
        refine PW.gR 296 q_208_244 (Or.inl t_ft_208_33) gF_40_6 kd_294 IMJ200_77.1 (by decide) rfl ?_
        refine PW.cB q_208_247 (by decide) fun c93 hc93 => ?_
        refine PW.iload_n q_208_249 rfl ?_
        refine PW.addN q_208_250 (by omega) (by omega) fun x94 hx94 => ?_
        refine PW.aH q_208_251 gA_42 kd_296 IMJ200_77.1 (by decide) (by omega) (by omega) fun x95 fx95 => ?_
        have elx95 : o_a (MJ200_77 296) 76 = x95 := by have e : x94.toInt.toNat = 76 := (by omega); rw [e] at fx95; exact fx95
        refine PW.cI q_208_252 (by decide) fun c96 hc96 => ?_
        refine PW.subH q_208_253 fun x97 => ?_
        refine PW.callS (as := [_, _]) (rest := [_, _]) q_208_254 t_ms_208_268 (by decide) rfl (Nat.le_of_ble_eq_true rfl) (Nat.le_of_ble_eq_true rfl) (by decide) (by decide) ?_
        refine PW.iload_n q_169_0 rfl ?_
        refine PW.iload_n q_169_1 rfl ?_
        refine PW.jc_le q_169_2 rfl (fun h98 => ?_) (fun h98 => ?_)
        · skip
          refine PW.iload_n q_169_9 rfl ?_
          refine PW.rI q_169_10 rfl (by decide) (by decide) ?_
          refine PW.wS q_208_257 (StabY c (a + 1) b) IMJ200_77 gC_42_76_76 gN_76_76 (by decide) (by omega) (by omega) (n_lo _) (n_hi _) fun M99 IM99 fM99 UM99 => ?_
          have FM99 := Fr.pu FMJ200_77 UM99.1 kd_296 (rfl : List.contains [42] 42 = true)
          have elM99 : o_a (M99 296) 76 = x97 := by have e : x91.toInt.toNat = 76 := (by omega); rw [e] at fM99; exact fM99
          refine PW.vret q_208_258 rfl (by decide) (by decide) ?_
          exact hK M99 IM99 FM99 ⟨((congrArg (fun e => o_i e 2) (UM99.1 294 (by decide))).trans hbJ200_770.1), (hbJ200_770.2.st UM99 (by omega))⟩
        · skip
          refine PW.iload_n q_169_5 rfl ?_
          refine PW.goto q_169_6 rfl ?_
          refine PW.rI q_169_10 rfl (by decide) (by decide) ?_
          refine PW.wS q_208_257 (StabY c (a + 1) b) IMJ200_77 gC_42_76_76 gN_76_76 (by decide) (by omega) (by omega) (n_lo _) (n_hi _) fun M100 IM100 fM100 UM100 => ?_
          have FM100 := Fr.pu FMJ200_77 UM100.1 kd_296 (rfl : List.contains [42] 42 = true)
          have elM100 : o_a (M100 296) 76 = c92 := by have e : x91.toInt.toNat = 76 := (by omega); rw [e] at fM100; exact fM100
          refine PW.vret q_208_258 rfl (by decide) (by decide) ?_
          exact hK M100 IM100 FM100 ⟨((congrArg (fun e => o_i e 2) (UM100.1 294 (by decide))).trans hbJ200_770.1), (hbJ200_770.2.st UM100 (by omega))⟩
  refine PW.jc_ne q_208_189 rfl (fun h76 => ?_) (fun h76 => ?_)
  · skip
    exact PW.lvS (lk1 rfl (lk1 rfl (lk1 rfl (lk1 rfl lk0)))) (J200_77 M71  IM71 FM71 ⟨((congrArg (fun e => o_i e 2) (UM71.1 294 (by decide))).trans ((congrArg (fun e => o_i e 2) (UM65.1 294 (by decide))).trans ((congrArg (fun e => o_i e 2) (UM61.1 294 (by decide))).trans ((congrArg (fun e => o_i e 2) (UM55.1 294 (by decide))).trans ((congrArg (fun e => o_i e 2) (UM52.1 294 (by decide))).trans ((congrArg (fun e => o_i e 2) (UM46.1 294 (by decide))).trans ((congrArg (fun e => o_i e 2) (UM35.1 294 (by decide))).trans ((congrArg (fun e => o_i e 2) (UM25.1 294 (by decide))).trans ((congrArg (fun e => o_i e 2) (UM13.1 294 (by decide))).trans (congrArg (fun e => o_i e 2) (UM7.1 294 (by decide)))))))))))), ((((((((((gHq.refl.st UM7 (by omega)).st UM13 (by omega)).st UM25 (by omega)).st UM35 (by omega)).st UM46 (by omega)).st UM52 (by omega)).st UM55 (by omega)).st UM61 (by omega)).st UM65 (by omega)).st UM71 (by omega))⟩)
  · skip
    refine PW.aload_n q_208_192 rfl ?_
    refine PW.gR 296 q_208_193 (Or.inl t_ft_208_33) gF_40_6 kd_294 IM71.1 (by decide) rfl ?_
    refine PW.cB q_208_196 (by decide) fun c101 hc101 => ?_
    refine PW.cI q_208_198 (by decide) fun c102 hc102 => ?_
    refine PW.wS q_208_199 (StabY c (a + 1) b) IM71 gC_42_34_34 gN_34_34 (by decide) (by omega) (by omega) (by omega) (by omega) fun M103 IM103 fM103 UM103 => ?_
    have FM103 := Fr.pu FM71 UM103.1 kd_296 (rfl : List.contains [42] 42 = true)
    have elM103 : o_a (M103 296) 34 = c102 := by have e : c101.toInt.toNat = 34 := (by omega); rw [e] at fM103; exact fM103
    exact PW.lvS (lk1 rfl (lk1 rfl (lk1 rfl (lk1 rfl lk0)))) (J200_77 M103  IM103 FM103 ⟨((congrArg (fun e => o_i e 2) (UM103.1 294 (by decide))).trans ((congrArg (fun e => o_i e 2) (UM71.1 294 (by decide))).trans ((congrArg (fun e => o_i e 2) (UM65.1 294 (by decide))).trans ((congrArg (fun e => o_i e 2) (UM61.1 294 (by decide))).trans ((congrArg (fun e => o_i e 2) (UM55.1 294 (by decide))).trans ((congrArg (fun e => o_i e 2) (UM52.1 294 (by decide))).trans ((congrArg (fun e => o_i e 2) (UM46.1 294 (by decide))).trans ((congrArg (fun e => o_i e 2) (UM35.1 294 (by decide))).trans ((congrArg (fun e => o_i e 2) (UM25.1 294 (by decide))).trans ((congrArg (fun e => o_i e 2) (UM13.1 294 (by decide))).trans (congrArg (fun e => o_i e 2) (UM7.1 294 (by decide))))))))))))), (((((((((((gHq.refl.st UM7 (by omega)).st UM13 (by omega)).st UM25 (by omega)).st UM35 (by omega)).st UM46 (by omega)).st UM52 (by omega)).st UM55 (by omega)).st UM61 (by omega)).st UM65 (by omega)).st UM71 (by omega)).st UM103 (by omega))⟩)
theorem c_X12_sees_1 (c a b : Int) (G : pG) (Kr : pK) (M : pM) (I : Iv (gY c a b) M) (a1 : Int32) (a2 : Int32) (hl_a1 : 1 ≤ a1.toInt) (hh_a1 : a1.toInt ≤ 1) (hl_a2 : 0 ≤ a2.toInt) (hh_a2 : a2.toInt ≤ 5) (hp_0 : 0 ≤ b) (hp_1 : b ≤ 599) (hK : ∀ (M1 : pM), Iv (gY c (a) (b + 1)) M1 → Fr [42] M M1 → (gLq M1 M ∧ gHq M1 M) → Kr.1 none 311 M1) : PW G false 1 208 (p_mc 208) (p_msl 208) Kr 0 (lv_args 0 [.ref 294, .int a1, .int a2]) [] 311 M 0 0 := by
  have F : Fr [42] M M := Fr.refl
  refine PW.aload_n q_208_0 rfl ?_
  refine PW.gR 296 q_208_1 (Or.inl t_ft_208_33) gF_40_6 kd_294 I.1 (by decide) rfl ?_
  refine PW.cB q_208_4 (by decide) fun c1 hc1 => ?_
  refine PW.iload_n q_208_6 rfl ?_
  refine PW.addN q_208_7 (by omega) (by omega) fun x2 hx2 => ?_
  refine PW.aload_n q_208_8 rfl ?_
  refine PW.gR 296 q_208_9 (Or.inl t_ft_208_33) gF_40_6 kd_294 I.1 (by decide) rfl ?_
  refine PW.cB q_208_12 (by decide) fun c3 hc3 => ?_
  refine PW.aI q_208_14 gA_42 kd_296 I.1 (by decide) gB_42_33_33 (by decide) (by omega) (by omega) fun x4 fx4 hx4 kx4 => ?_
  have eyx4 : x4.toInt = c := by have w := I.2.2.1.1; have e : c3.toInt.toNat = 33 := (by omega); rw [← e, fx4] at w; exact w
  have elx4 : o_a (M 296) 33 = x4 := by have e : c3.toInt.toNat = 33 := (by omega); rw [e] at fx4; exact fx4
  refine PW.cI q_208_15 (by decide) fun c5 hc5 => ?_
  refine PW.addN q_208_16 (by omega) (by omega) fun x6 hx6 => ?_
  refine PW.wS q_208_17 (StabY c a b) I gC_42_55_60 gN_55_60 (by decide) (by omega) (by omega) (n_lo _) (n_hi _) fun M7 IM7 fM7 UM7 => ?_
  have FM7 := Fr.pu F UM7.1 kd_296 (rfl : List.contains [42] 42 = true)
  refine PW.aload_n q_208_18 rfl ?_
  refine PW.gR 296 q_208_19 (Or.inl t_ft_208_33) gF_40_6 kd_294 IM7.1 (by decide) rfl ?_
  refine PW.cB q_208_22 (by decide) fun c8 hc8 => ?_
  refine PW.iload_n q_208_24 rfl ?_
  refine PW.addN q_208_25 (by omega) (by omega) fun x9 hx9 => ?_
  refine PW.dup2 q_208_26 rfl rfl ?_
  refine PW.aH q_208_27 gA_42 kd_296 IM7.1 (by decide) (by omega) (by omega) fun x10 fx10 => ?_
  refine PW.cI q_208_28 (by decide) fun c11 hc11 => ?_
  refine PW.addH q_208_29 fun x12 => ?_
  refine PW.wS q_208_30 (StabY c a b) IM7 gC_42_61_66 gN_61_66 (by decide) (by omega) (by omega) (n_lo _) (n_hi _) fun M13 IM13 fM13 UM13 => ?_
  have FM13 := Fr.pu FM7 UM13.1 kd_296 (rfl : List.contains [42] 42 = true)
  refine PW.aload_n q_208_31 rfl ?_
  refine PW.gR 296 q_208_32 (Or.inl t_ft_208_33) gF_40_6 kd_294 IM13.1 (by decide) rfl ?_
  refine PW.cB q_208_35 (by decide) fun c14 hc14 => ?_
  refine PW.cB q_208_37 (by decide) fun c15 hc15 => ?_
  refine PW.aload_n q_208_39 rfl ?_
  refine PW.gR 296 q_208_40 (Or.inl t_ft_208_33) gF_40_6 kd_294 IM13.1 (by decide) rfl ?_
  refine PW.cB q_208_43 (by decide) fun c16 hc16 => ?_
  refine PW.iload_n q_208_45 rfl ?_
  refine PW.addN q_208_46 (by omega) (by omega) fun x17 hx17 => ?_
  refine PW.aI q_208_47 gA_42 kd_296 IM13.1 (by decide) gB_42_87_87 (by decide) (by omega) (by omega) fun x18 fx18 hx18 kx18 => ?_
  have elx18 : o_a (M13 296) 87 = x18 := by have e : x17.toInt.toNat = 87 := (by omega); rw [e] at fx18; exact fx18
  refine PW.mulN q_208_48 (6) (by omega) x18 (fun h => n_eq.mpr (by omega)) (fun h => n_eq.mpr (by omega)) (by omega) (by omega) fun x19 hx19 => ?_
  refine PW.addN q_208_49 (by omega) (by omega) fun x20 hx20 => ?_
  refine PW.iload_n q_208_50 rfl ?_
  refine PW.addN q_208_51 (by omega) (by omega) fun x21 hx21 => ?_
  refine PW.dup2 q_208_52 rfl rfl ?_
  refine PW.aH q_208_53 gA_42 kd_296 IM13.1 (by decide) (by omega) (by omega) fun x22 fx22 => ?_
  refine PW.cI q_208_54 (by decide) fun c23 hc23 => ?_
  refine PW.addH q_208_55 fun x24 => ?_
  refine PW.wS q_208_56 (StabY c a b) IM13 gC_42_100_135 gN_100_135 (by decide) (by omega) (by omega) (n_lo _) (n_hi _) fun M25 IM25 fM25 UM25 => ?_
  have FM25 := Fr.pu FM13 UM25.1 kd_296 (rfl : List.contains [42] 42 = true)
  refine PW.aload_n q_208_57 rfl ?_
  refine PW.gR 296 q_208_58 (Or.inl t_ft_208_33) gF_40_6 kd_294 IM25.1 (by decide) rfl ?_
  refine PW.cB q_208_61 (by decide) fun c26 hc26 => ?_
  refine PW.cB q_208_63 (by decide) fun c27 hc27 => ?_
  refine PW.iload_n q_208_65 rfl ?_
  refine PW.mulN q_208_66 (6) (by omega) a1 (fun h => n_eq.mpr (by omega)) (fun h => n_eq.mpr (by omega)) (by omega) (by omega) fun x28 hx28 => ?_
  refine PW.addN q_208_67 (by omega) (by omega) fun x29 hx29 => ?_
  refine PW.iload_n q_208_68 rfl ?_
  refine PW.addN q_208_69 (by omega) (by omega) fun x30 hx30 => ?_
  refine PW.aload_n q_208_70 rfl ?_
  refine PW.gR 296 q_208_71 (Or.inl t_ft_208_33) gF_40_6 kd_294 IM25.1 (by decide) rfl ?_
  refine PW.cB q_208_74 (by decide) fun c31 hc31 => ?_
  refine PW.aI q_208_76 gA_42 kd_296 IM25.1 (by decide) gB_42_33_33 (by decide) (by omega) (by omega) fun x32 fx32 hx32 kx32 => ?_
  have eyx32 : x32.toInt = c := by have w := IM25.2.2.1.1; have e : c31.toInt.toNat = 33 := (by omega); rw [← e, fx32] at w; exact w
  have elx32 : o_a (M25 296) 33 = x32 := by have e : c31.toInt.toNat = 33 := (by omega); rw [e] at fx32; exact fx32
  have ezx32 : x32.toInt = x4.toInt := by rw [← elx32, ((UM25.2 33 (by omega)).trans ((UM13.2 33 (by omega)).trans ((UM7.2 33 (by omega)).trans elx4)))]
  refine PW.cI q_208_77 (by decide) fun c33 hc33 => ?_
  refine PW.addN q_208_78 (by omega) (by omega) fun x34 hx34 => ?_
  refine PW.wS q_208_79 (StabY c a b) IM25 gC_42_94_99 gN_94_99 (by decide) (by omega) (by omega) (by omega) (by omega) fun M35 IM35 fM35 UM35 => ?_
  have FM35 := Fr.pu FM25 UM35.1 kd_296 (rfl : List.contains [42] 42 = true)
  refine PW.cB q_208_80 (by decide) fun c36 hc36 => ?_
  refine PW.iload_n q_208_82 rfl ?_
  refine PW.mulN q_208_83 (20) (by omega) a1 (fun h => n_eq.mpr (by omega)) (fun h => n_eq.mpr (by omega)) (by omega) (by omega) fun x37 hx37 => ?_
  refine PW.aload_n q_208_84 rfl ?_
  refine PW.gR 296 q_208_85 (Or.inl t_ft_208_33) gF_40_6 kd_294 IM35.1 (by decide) rfl ?_
  refine PW.cB q_208_88 (by decide) fun c38 hc38 => ?_
  refine PW.iload_n q_208_90 rfl ?_
  refine PW.addN q_208_91 (by omega) (by omega) fun x39 hx39 => ?_
  refine PW.aI q_208_92 gA_42 kd_296 IM35.1 (by decide) gB_42_81_81 (by decide) (by omega) (by omega) fun x40 fx40 hx40 kx40 => ?_
  have eyx40 : x40.toInt = b := by have w := IM35.2.2.1.2.2.1; have e : x39.toInt.toNat = 81 := (by omega); rw [← e, fx40] at w; exact w
  have elx40 : o_a (M35 296) 81 = x40 := by have e : x39.toInt.toNat = 81 := (by omega); rw [e] at fx40; exact fx40
  refine PW.cB q_208_93 (by decide) fun c41 hc41 => ?_
  refine PW.remP q_208_95 (by omega) (by omega) fun x42 hx42 kx42 ex42 => ?_
  clear ex42
  refine PW.addN q_208_96 (by omega) (by omega) fun x43 hx43 => ?_
  refine PW.istore_n q_208_97 (by decide) ?_
  refine PW.aload_n q_208_98 rfl ?_
  refine PW.gR 296 q_208_99 (Or.inl t_ft_208_33) gF_40_6 kd_294 IM35.1 (by decide) rfl ?_
  refine PW.cS q_208_102 (by decide) fun c44 hc44 => ?_
  refine PW.iload_n q_208_105 rfl ?_
  refine PW.addN q_208_106 (by omega) (by omega) fun x45 hx45 => ?_
  refine PW.iload_n q_208_107 rfl ?_
  refine PW.wS q_208_108 (StabY c a b) IM35 gC_42_156_175 gN_156_175 (by decide) (by omega) (by omega) (n_lo _) (n_hi _) fun M46 IM46 fM46 UM46 => ?_
  have FM46 := Fr.pu FM35 UM46.1 kd_296 (rfl : List.contains [42] 42 = true)
  refine PW.aload_n q_208_109 rfl ?_
  refine PW.gR 296 q_208_110 (Or.inl t_ft_208_33) gF_40_6 kd_294 IM46.1 (by decide) rfl ?_
  refine PW.cS q_208_113 (by decide) fun c47 hc47 => ?_
  refine PW.iload_n q_208_116 rfl ?_
  refine PW.addN q_208_117 (by omega) (by omega) fun x48 hx48 => ?_
  refine PW.aload_n q_208_118 rfl ?_
  refine PW.gR 296 q_208_119 (Or.inl t_ft_208_33) gF_40_6 kd_294 IM46.1 (by decide) rfl ?_
  refine PW.cB q_208_122 (by decide) fun c49 hc49 => ?_
  refine PW.iload_n q_208_124 rfl ?_
  refine PW.addN q_208_125 (by omega) (by omega) fun x50 hx50 => ?_
  refine PW.aH q_208_126 gA_42 kd_296 IM46.1 (by decide) (by omega) (by omega) fun x51 fx51 => ?_
  refine PW.wS q_208_127 (StabY c a b) IM46 gC_42_196_215 gN_196_215 (by decide) (by omega) (by omega) (n_lo _) (n_hi _) fun M52 IM52 fM52 UM52 => ?_
  have FM52 := Fr.pu FM46 UM52.1 kd_296 (rfl : List.contains [42] 42 = true)
  refine PW.aload_n q_208_128 rfl ?_
  refine PW.gR 296 q_208_129 (Or.inl t_ft_208_33) gF_40_6 kd_294 IM52.1 (by decide) rfl ?_
  refine PW.cB q_208_132 (by decide) fun c53 hc53 => ?_
  refine PW.iload_n q_208_134 rfl ?_
  refine PW.addN q_208_135 (by omega) (by omega) fun x54 hx54 => ?_
  refine PW.iload_n q_208_136 rfl ?_
  refine PW.wS q_208_137 (StabY c a b) IM52 gC_42_87_87 gN_87_87 (by decide) (by omega) (by omega) (by omega) (by omega) fun M55 IM55 fM55 UM55 => ?_
  have FM55 := Fr.pu FM52 UM55.1 kd_296 (rfl : List.contains [42] 42 = true)
  have elM55 : o_a (M55 296) 87 = a2 := by have e : x54.toInt.toNat = 87 := (by omega); rw [e] at fM55; exact fM55
  refine PW.aload_n q_208_138 rfl ?_
  refine PW.gR 296 q_208_139 (Or.inl t_ft_208_33) gF_40_6 kd_294 IM55.1 (by decide) rfl ?_
  refine PW.cB q_208_142 (by decide) fun c56 hc56 => ?_
  refine PW.iload_n q_208_144 rfl ?_
  refine PW.addN q_208_145 (by omega) (by omega) fun x57 hx57 => ?_
  refine PW.aload_n q_208_146 rfl ?_
  refine PW.gR 296 q_208_147 (Or.inl t_ft_208_33) gF_40_6 kd_294 IM55.1 (by decide) rfl ?_
  refine PW.cB q_208_150 (by decide) fun c58 hc58 => ?_
  refine PW.iload_n q_208_152 rfl ?_
  refine PW.addN q_208_153 (by omega) (by omega) fun x59 hx59 => ?_
  refine PW.aH q_208_154 gA_42 kd_296 IM55.1 (by decide) (by omega) (by omega) fun x60 fx60 => ?_
  have elx60 : o_a (M55 296) 28 = x60 := by have e : x59.toInt.toNat = 28 := (by omega); rw [e] at fx60; exact fx60
  refine PW.wS q_208_155 (StabY c a b) IM55 gC_42_85_85 gN_85_85 (by decide) (by omega) (by omega) (n_lo _) (n_hi _) fun M61 IM61 fM61 UM61 => ?_
  have FM61 := Fr.pu FM55 UM61.1 kd_296 (rfl : List.contains [42] 42 = true)
  have elM61 : o_a (M61 296) 85 = x60 := by have e : x57.toInt.toNat = 85 := (by omega); rw [e] at fM61; exact fM61
  refine PW.aload_n q_208_156 rfl ?_
  refine PW.gR 296 q_208_157 (Or.inl t_ft_208_33) gF_40_6 kd_294 IM61.1 (by decide) rfl ?_
  refine PW.cB q_208_160 (by decide) fun c62 hc62 => ?_
  refine PW.iload_n q_208_162 rfl ?_
  refine PW.addN q_208_163 (by omega) (by omega) fun x63 hx63 => ?_
  refine PW.cI q_208_164 (by decide) fun c64 hc64 => ?_
  refine PW.wS q_208_165 (StabY c a b) IM61 gC_42_83_83 gN_83_83 (by decide) (by omega) (by omega) (by omega) (by omega) fun M65 IM65 fM65 UM65 => ?_
  have FM65 := Fr.pu FM61 UM65.1 kd_296 (rfl : List.contains [42] 42 = true)
  have elM65 : o_a (M65 296) 83 = c64 := by have e : x63.toInt.toNat = 83 := (by omega); rw [e] at fM65; exact fM65
  refine PW.aload_n q_208_166 rfl ?_
  refine PW.gR 296 q_208_167 (Or.inl t_ft_208_33) gF_40_6 kd_294 IM65.1 (by decide) rfl ?_
  refine PW.cB q_208_170 (by decide) fun c66 hc66 => ?_
  refine PW.iload_n q_208_172 rfl ?_
  refine PW.addN q_208_173 (by omega) (by omega) fun x67 hx67 => ?_
  refine PW.dup2 q_208_174 rfl rfl ?_
  refine PW.aI q_208_175 gA_42 kd_296 IM65.1 (by decide) gB_42_81_81 (by decide) (by omega) (by omega) fun x68 fx68 hx68 kx68 => ?_
  have eyx68 : x68.toInt = b := by have w := IM65.2.2.1.2.2.1; have e : x67.toInt.toNat = 81 := (by omega); rw [← e, fx68] at w; exact w
  have elx68 : o_a (M65 296) 81 = x68 := by have e : x67.toInt.toNat = 81 := (by omega); rw [e] at fx68; exact fx68
  have ezx68 : x68.toInt = x40.toInt := by rw [← elx68, ((UM65.2 81 (by omega)).trans ((UM61.2 81 (by omega)).trans ((UM55.2 81 (by omega)).trans ((UM52.2 81 (by omega)).trans ((UM46.2 81 (by omega)).trans elx40)))))]
  refine PW.cI q_208_176 (by decide) fun c69 hc69 => ?_
  refine PW.addN q_208_177 (by omega) (by omega) fun x70 hx70 => ?_
  refine PW.wB q_208_178 gA_42 kd_296 IM65.1 (by decide) (by omega) (by omega) (by rw [show x67.toInt.toNat = 81 from by omega]; exact ⟨by show (0 : Int) ≤ _; omega, by show _ ≤ (600 : Int); omega⟩) fun M71 JM71 fM71 UM71 => ?_
  have IM71 : Iv (gY c a (b + 1)) M71 := ⟨JM71, gY.p81 IM65.2 UM71 (by omega) fM71 (by omega)⟩
  have FM71 := Fr.pu FM65 UM71.1 kd_296 (rfl : List.contains [42] 42 = true)
  refine PW.aload_n q_208_179 rfl ?_
  refine PW.gR 296 q_208_180 (Or.inl t_ft_208_33) gF_40_6 kd_294 IM71.1 (by decide) rfl ?_
  refine PW.cB q_208_183 (by decide) fun c72 hc72 => ?_
  refine PW.aI q_208_185 gA_42 kd_296 IM71.1 (by decide) gB_42_34_34 (by decide) (by omega) (by omega) fun x73 fx73 hx73 kx73 => ?_
  have elx73 : o_a (M71 296) 34 = x73 := by have e : c72.toInt.toNat = 34 := (by omega); rw [e] at fx73; exact fx73
  refine PW.iload_n q_208_186 rfl ?_
  refine PW.cI q_208_187 (by decide) fun c74 hc74 => ?_
  refine PW.addN q_208_188 (by omega) (by omega) fun x75 hx75 => ?_
  have J200_77 : ∀ (MJ200_77 : pM), Iv (gY c a (b + 1)) MJ200_77 → Fr [42] M MJ200_77 → (gLq MJ200_77 M ∧ gHq MJ200_77 M) → PW G false 1 208 (p_mc 208) (p_msl 208) Kr 200 [(0, .ref 294), (1, .int a1), (2, .int a2), (3, .int x43)] [] 311 MJ200_77 0 0 := by
    intro MJ200_77  IMJ200_77 FMJ200_77 hbJ200_770
    refine PW.aload_n q_208_200 rfl ?_
    refine PW.gR 296 q_208_201 (Or.inl t_ft_208_33) gF_40_6 kd_294 IMJ200_77.1 (by decide) rfl ?_
    refine PW.cB q_208_204 (by decide) fun c78 hc78 => ?_
    refine PW.iload_n q_208_206 rfl ?_
    refine PW.addN q_208_207 (by omega) (by omega) fun x79 hx79 => ?_
    refine PW.aH q_208_208 gA_42 kd_296 IMJ200_77.1 (by decide) (by omega) (by omega) fun x80 fx80 => ?_
    have elx80 : o_a (MJ200_77 296) 32 = x80 := by have e : x79.toInt.toNat = 32 := (by omega); rw [e] at fx80; exact fx80
    refine PW.jz_le q_208_209 rfl (fun h81 => ?_) (fun h81 => ?_)
    · skip
      refine PW.vret q_208_258 rfl (by decide) (by decide) ?_
      exact hK MJ200_77 IMJ200_77 FMJ200_77 ⟨hbJ200_770.1, hbJ200_770.2⟩
    · skip
      refine PW.aload_n q_208_212 rfl ?_
      refine PW.gR 296 q_208_213 (Or.inl t_ft_208_33) gF_40_6 kd_294 IMJ200_77.1 (by decide) rfl ?_
      refine PW.cB q_208_216 (by decide) fun c82 hc82 => ?_
      refine PW.iload_n q_208_218 rfl ?_
      refine PW.addN q_208_219 (by omega) (by omega) fun x83 hx83 => ?_
      refine PW.aI q_208_220 gA_42 kd_296 IMJ200_77.1 (by decide) gB_42_81_81 (by decide) (by omega) (by omega) fun x84 fx84 hx84 kx84 => ?_
      have eyx84 : x84.toInt = b + 1 := by have w := IMJ200_77.2.2.1.2.2.1; have e : x83.toInt.toNat = 81 := (by omega); rw [← e, fx84] at w; exact w
      have elx84 : o_a (MJ200_77 296) 81 = x84 := by have e : x83.toInt.toNat = 81 := (by omega); rw [e] at fx84; exact fx84
      refine PW.aload_n q_208_221 rfl ?_
      refine PW.gR 296 q_208_222 (Or.inl t_ft_208_33) gF_40_6 kd_294 IMJ200_77.1 (by decide) rfl ?_
      refine PW.cB q_208_225 (by decide) fun c85 hc85 => ?_
      refine PW.iload_n q_208_227 rfl ?_
      refine PW.addN q_208_228 (by omega) (by omega) fun x86 hx86 => ?_
      refine PW.aH q_208_229 gA_42 kd_296 IMJ200_77.1 (by decide) (by omega) (by omega) fun x87 fx87 => ?_
      have elx87 : o_a (MJ200_77 296) 32 = x87 := by have e : x86.toInt.toNat = 32 := (by omega); rw [e] at fx87; exact fx87
      have ezx87 : x87.toInt = x80.toInt := by rw [← elx87, elx80]
      refine PW.remP q_208_230 (by omega) (by omega) fun x88 hx88 kx88 ex88 => ?_
      clear ex88
      refine PW.jz_ne q_208_231 rfl (fun h89 => ?_) (fun h89 => ?_)
      · skip
        refine PW.vret q_208_258 rfl (by decide) (by decide) ?_
        exact hK MJ200_77 IMJ200_77 FMJ200_77 ⟨hbJ200_770.1, hbJ200_770.2⟩
      · skip
        refine PW.aload_n q_208_234 rfl ?_
        refine PW.gR 296 q_208_235 (Or.inl t_ft_208_33) gF_40_6 kd_294 IMJ200_77.1 (by decide) rfl ?_
        refine PW.cB q_208_238 (by decide) fun c90 hc90 => ?_
        refine PW.iload_n q_208_240 rfl ?_
        refine PW.addN q_208_241 (by omega) (by omega) fun x91 hx91 => ?_
        refine PW.cI q_208_242 (by decide) fun c92 hc92 => ?_
        refine PW.aload_n q_208_243 rfl ?_
        refine PW.gR 296 q_208_244 (Or.inl t_ft_208_33) gF_40_6 kd_294 IMJ200_77.1 (by decide) rfl ?_
        refine PW.cB q_208_247 (by decide) fun c93 hc93 => ?_
        refine PW.iload_n q_208_249 rfl ?_
        refine PW.addN q_208_250 (by omega) (by omega) fun x94 hx94 => ?_
        refine PW.aH q_208_251 gA_42 kd_296 IMJ200_77.1 (by decide) (by omega) (by omega) fun x95 fx95 => ?_
        have elx95 : o_a (MJ200_77 296) 77 = x95 := by have e : x94.toInt.toNat = 77 := (by omega); rw [e] at fx95; exact fx95
        refine PW.cI q_208_252 (by decide) fun c96 hc96 => ?_
        refine PW.subH q_208_253 fun x97 => ?_
        refine PW.callS (as := [_, _]) (rest := [_, _]) q_208_254 t_ms_208_268 (by decide) rfl (Nat.le_of_ble_eq_true rfl) (Nat.le_of_ble_eq_true rfl) (by decide) (by decide) ?_
        refine PW.iload_n q_169_0 rfl ?_
        refine PW.iload_n q_169_1 rfl ?_
        refine PW.jc_le q_169_2 rfl (fun h98 => ?_) (fun h98 => ?_)
        · skip
          refine PW.iload_n q_169_9 rfl ?_
          refine PW.rI q_169_10 rfl (by decide) (by decide) ?_
          refine PW.wS q_208_257 (StabY c a (b + 1)) IMJ200_77 gC_42_77_77 gN_77_77 (by decide) (by omega) (by omega) (n_lo _) (n_hi _) fun M99 IM99 fM99 UM99 => ?_
          have FM99 := Fr.pu FMJ200_77 UM99.1 kd_296 (rfl : List.contains [42] 42 = true)
          have elM99 : o_a (M99 296) 77 = x97 := by have e : x91.toInt.toNat = 77 := (by omega); rw [e] at fM99; exact fM99
          refine PW.vret q_208_258 rfl (by decide) (by decide) ?_
          exact hK M99 IM99 FM99 ⟨((congrArg (fun e => o_i e 2) (UM99.1 294 (by decide))).trans hbJ200_770.1), (hbJ200_770.2.st UM99 (by omega))⟩
        · skip
          refine PW.iload_n q_169_5 rfl ?_
          refine PW.goto q_169_6 rfl ?_
          refine PW.rI q_169_10 rfl (by decide) (by decide) ?_
          refine PW.wS q_208_257 (StabY c a (b + 1)) IMJ200_77 gC_42_77_77 gN_77_77 (by decide) (by omega) (by omega) (n_lo _) (n_hi _) fun M100 IM100 fM100 UM100 => ?_
          have FM100 := Fr.pu FMJ200_77 UM100.1 kd_296 (rfl : List.contains [42] 42 = true)
          have elM100 : o_a (M100 296) 77 = c92 := by have e : x91.toInt.toNat = 77 := (by omega); rw [e] at fM100; exact fM100
          refine PW.vret q_208_258 rfl (by decide) (by decide) ?_
          exact hK M100 IM100 FM100 ⟨((congrArg (fun e => o_i e 2) (UM100.1 294 (by decide))).trans hbJ200_770.1), (hbJ200_770.2.st UM100 (by omega))⟩
  refine PW.jc_ne q_208_189 rfl (fun h76 => ?_) (fun h76 => ?_)
  · skip
    exact PW.lvS (lk1 rfl (lk1 rfl (lk1 rfl (lk1 rfl lk0)))) (J200_77 M71  IM71 FM71 ⟨((congrArg (fun e => o_i e 2) (UM71.1 294 (by decide))).trans ((congrArg (fun e => o_i e 2) (UM65.1 294 (by decide))).trans ((congrArg (fun e => o_i e 2) (UM61.1 294 (by decide))).trans ((congrArg (fun e => o_i e 2) (UM55.1 294 (by decide))).trans ((congrArg (fun e => o_i e 2) (UM52.1 294 (by decide))).trans ((congrArg (fun e => o_i e 2) (UM46.1 294 (by decide))).trans ((congrArg (fun e => o_i e 2) (UM35.1 294 (by decide))).trans ((congrArg (fun e => o_i e 2) (UM25.1 294 (by decide))).trans ((congrArg (fun e => o_i e 2) (UM13.1 294 (by decide))).trans (congrArg (fun e => o_i e 2) (UM7.1 294 (by decide)))))))))))), ((((((((((gHq.refl.st UM7 (by omega)).st UM13 (by omega)).st UM25 (by omega)).st UM35 (by omega)).st UM46 (by omega)).st UM52 (by omega)).st UM55 (by omega)).st UM61 (by omega)).st UM65 (by omega)).st UM71 (by omega))⟩)
  · skip
    refine PW.aload_n q_208_192 rfl ?_
    refine PW.gR 296 q_208_193 (Or.inl t_ft_208_33) gF_40_6 kd_294 IM71.1 (by decide) rfl ?_
    refine PW.cB q_208_196 (by decide) fun c101 hc101 => ?_
    refine PW.cI q_208_198 (by decide) fun c102 hc102 => ?_
    refine PW.wS q_208_199 (StabY c a (b + 1)) IM71 gC_42_34_34 gN_34_34 (by decide) (by omega) (by omega) (by omega) (by omega) fun M103 IM103 fM103 UM103 => ?_
    have FM103 := Fr.pu FM71 UM103.1 kd_296 (rfl : List.contains [42] 42 = true)
    have elM103 : o_a (M103 296) 34 = c102 := by have e : c101.toInt.toNat = 34 := (by omega); rw [e] at fM103; exact fM103
    exact PW.lvS (lk1 rfl (lk1 rfl (lk1 rfl (lk1 rfl lk0)))) (J200_77 M103  IM103 FM103 ⟨((congrArg (fun e => o_i e 2) (UM103.1 294 (by decide))).trans ((congrArg (fun e => o_i e 2) (UM71.1 294 (by decide))).trans ((congrArg (fun e => o_i e 2) (UM65.1 294 (by decide))).trans ((congrArg (fun e => o_i e 2) (UM61.1 294 (by decide))).trans ((congrArg (fun e => o_i e 2) (UM55.1 294 (by decide))).trans ((congrArg (fun e => o_i e 2) (UM52.1 294 (by decide))).trans ((congrArg (fun e => o_i e 2) (UM46.1 294 (by decide))).trans ((congrArg (fun e => o_i e 2) (UM35.1 294 (by decide))).trans ((congrArg (fun e => o_i e 2) (UM25.1 294 (by decide))).trans ((congrArg (fun e => o_i e 2) (UM13.1 294 (by decide))).trans (congrArg (fun e => o_i e 2) (UM7.1 294 (by decide))))))))))))), (((((((((((gHq.refl.st UM7 (by omega)).st UM13 (by omega)).st UM25 (by omega)).st UM35 (by omega)).st UM46 (by omega)).st UM52 (by omega)).st UM55 (by omega)).st UM61 (by omega)).st UM65 (by omega)).st UM71 (by omega)).st UM103 (by omega))⟩)
theorem c_X12_dogRuns_0 (c a b : Int) (G : pG) (Kr : pK) (M : pM) (I : Iv (gY c a b) M) (a1 : Int32) (hl_a1 : 0 ≤ a1.toInt) (hh_a1 : a1.toInt ≤ 0) (hp_0 : 0 ≤ a) (hp_1 : a ≤ 599) (hK : ∀ (M1 : pM) (t1 : Int), a ≤ t1 → t1 ≤ a + 1 → Iv (gY c t1 b) M1 → Fr [42] M M1 → (gLq M1 M ∧ gHq M1 M) → Kr.1 none 311 M1) : PW G false 3 209 (p_mc 209) (p_msl 209) Kr 0 (lv_args 0 [.ref 294, .int a1]) [] 311 M 0 0 := by
  have F : Fr [42] M M := Fr.refl
  refine PW.aload_n q_209_0 rfl ?_
  refine PW.gR 296 q_209_1 (Or.inl t_ft_209_33) gF_40_6 kd_294 I.1 (by decide) rfl ?_
  refine PW.cB q_209_4 (by decide) fun c1 hc1 => ?_
  refine PW.iload_n q_209_6 rfl ?_
  refine PW.addN q_209_7 (by omega) (by omega) fun x2 hx2 => ?_
  refine PW.aH q_209_8 gA_42 kd_296 I.1 (by decide) (by omega) (by omega) fun x3 fx3 => ?_
  have elx3 : o_a (M 296) 84 = x3 := by have e : x2.toInt.toNat = 84 := (by omega); rw [e] at fx3; exact fx3
  refine PW.jz_le q_209_9 rfl (fun h4 => ?_) (fun h4 => ?_)
  · skip
    refine PW.aload_n q_209_26 rfl ?_
    refine PW.gR 296 q_209_27 (Or.inl t_ft_209_33) gF_40_6 kd_294 I.1 (by decide) rfl ?_
    refine PW.cB q_209_30 (by decide) fun c5 hc5 => ?_
    refine PW.iload_n q_209_32 rfl ?_
    refine PW.addN q_209_33 (by omega) (by omega) fun x6 hx6 => ?_
    refine PW.aI q_209_34 gA_42 kd_296 I.1 (by decide) gB_42_82_82 (by decide) (by omega) (by omega) fun x7 fx7 hx7 kx7 => ?_
    have elx7 : o_a (M 296) 82 = x7 := by have e : x6.toInt.toNat = 82 := (by omega); rw [e] at fx7; exact fx7
    have J54_9 : ∀ (MJ54_9 : pM), Iv (gY c a b) MJ54_9 → Fr [42] M MJ54_9 → (gLq MJ54_9 M ∧ gHq MJ54_9 M) → PW G false 3 209 (p_mc 209) (p_msl 209) Kr 54 [(0, .ref 294), (1, .int a1)] [] 311 MJ54_9 0 0 := by
      intro MJ54_9  IMJ54_9 FMJ54_9 hbJ54_90
      refine PW.aload_n q_209_54 rfl ?_
      refine PW.gR 296 q_209_55 (Or.inl t_ft_209_33) gF_40_6 kd_294 IMJ54_9.1 (by decide) rfl ?_
      refine PW.cB q_209_58 (by decide) fun c10 hc10 => ?_
      refine PW.iload_n q_209_60 rfl ?_
      refine PW.addN q_209_61 (by omega) (by omega) fun x11 hx11 => ?_
      refine PW.aI q_209_62 gA_42 kd_296 IMJ54_9.1 (by decide) gB_42_82_82 (by decide) (by omega) (by omega) fun x12 fx12 hx12 kx12 => ?_
      have elx12 : o_a (MJ54_9 296) 82 = x12 := by have e : x11.toInt.toNat = 82 := (by omega); rw [e] at fx12; exact fx12
      refine PW.jz_ne q_209_63 rfl (fun h13 => ?_) (fun h13 => ?_)
      · skip
        refine PW.aload_n q_209_67 rfl ?_
        refine PW.gR 296 q_209_68 (Or.inl t_ft_209_33) gF_40_6 kd_294 IMJ54_9.1 (by decide) rfl ?_
        refine PW.cB q_209_71 (by decide) fun c14 hc14 => ?_
        refine PW.iload_n q_209_73 rfl ?_
        refine PW.addN q_209_74 (by omega) (by omega) fun x15 hx15 => ?_
        refine PW.aI q_209_75 gA_42 kd_296 IMJ54_9.1 (by decide) gB_42_82_82 (by decide) (by omega) (by omega) fun x16 fx16 hx16 kx16 => ?_
        have elx16 : o_a (MJ54_9 296) 82 = x16 := by have e : x15.toInt.toNat = 82 := (by omega); rw [e] at fx16; exact fx16
        have ezx16 : x16.toInt = x12.toInt := by rw [← elx16, elx12]
        refine PW.cI q_209_76 (by decide) fun c17 hc17 => ?_
        refine PW.subN q_209_77 (by omega) (by omega) fun x18 hx18 => ?_
        refine PW.istore_n q_209_78 (by decide) ?_
        refine PW.aload_n q_209_79 rfl ?_
        refine PW.gR 296 q_209_80 (Or.inl t_ft_209_33) gF_40_6 kd_294 IMJ54_9.1 (by decide) rfl ?_
        refine PW.cB q_209_83 (by decide) fun c19 hc19 => ?_
        refine PW.iload_n q_209_85 rfl ?_
        refine PW.addN q_209_86 (by omega) (by omega) fun x20 hx20 => ?_
        refine PW.aH q_209_87 gA_42 kd_296 IMJ54_9.1 (by decide) (by omega) (by omega) fun x21 fx21 => ?_
        have elx21 : o_a (MJ54_9 296) 74 = x21 := by have e : x20.toInt.toNat = 74 := (by omega); rw [e] at fx21; exact fx21
        refine PW.aload_n q_209_88 rfl ?_
        refine PW.gR 296 q_209_89 (Or.inl t_ft_209_33) gF_40_6 kd_294 IMJ54_9.1 (by decide) rfl ?_
        refine PW.cB q_209_92 (by decide) fun c22 hc22 => ?_
        refine PW.iload_n q_209_94 rfl ?_
        refine PW.addN q_209_95 (by omega) (by omega) fun x23 hx23 => ?_
        refine PW.aH q_209_96 gA_42 kd_296 IMJ54_9.1 (by decide) (by omega) (by omega) fun x24 fx24 => ?_
        refine PW.callS (as := [_, _]) (rest := []) q_209_97 t_ms_209_244 (by decide) rfl (Nat.le_of_ble_eq_true rfl) (Nat.le_of_ble_eq_true rfl) (by decide) (by decide) ?_
        refine PW.iload_n q_170_0 rfl ?_
        refine PW.iload_n q_170_1 rfl ?_
        refine PW.jc_ge q_170_2 rfl (fun h25 => ?_) (fun h25 => ?_)
        · skip
          refine PW.iload_n q_170_11 rfl ?_
          refine PW.iload_n q_170_12 rfl ?_
          refine PW.subH q_170_13 fun x26 => ?_
          refine PW.rI q_170_14 rfl (by decide) (by decide) ?_
          refine PW.istore_n q_209_100 (by decide) ?_
          refine PW.iload_n q_209_101 rfl ?_
          refine PW.aload_n q_209_102 rfl ?_
          refine PW.gR 296 q_209_103 (Or.inl t_ft_209_33) gF_40_6 kd_294 IMJ54_9.1 (by decide) rfl ?_
          refine PW.cB q_209_106 (by decide) fun c27 hc27 => ?_
          refine PW.iload_n q_209_108 rfl ?_
          refine PW.addN q_209_109 (by omega) (by omega) fun x28 hx28 => ?_
          refine PW.aH q_209_110 gA_42 kd_296 IMJ54_9.1 (by decide) (by omega) (by omega) fun x29 fx29 => ?_
          have elx29 : o_a (MJ54_9 296) 76 = x29 := by have e : x28.toInt.toNat = 76 := (by omega); rw [e] at fx29; exact fx29
          refine PW.jc_gt q_209_111 rfl (fun h30 => ?_) (fun h30 => ?_)
          · skip
            refine PW.aload_n q_209_152 rfl ?_
            refine PW.gR 296 q_209_153 (Or.inl t_ft_209_33) gF_40_6 kd_294 IMJ54_9.1 (by decide) rfl ?_
            refine PW.cB q_209_156 (by decide) fun c31 hc31 => ?_
            refine PW.iload_n q_209_158 rfl ?_
            refine PW.addN q_209_159 (by omega) (by omega) fun x32 hx32 => ?_
            refine PW.dup2 q_209_160 rfl rfl ?_
            refine PW.aH q_209_161 gA_42 kd_296 IMJ54_9.1 (by decide) (by omega) (by omega) fun x33 fx33 => ?_
            have elx33 : o_a (MJ54_9 296) 78 = x33 := by have e : x32.toInt.toNat = 78 := (by omega); rw [e] at fx33; exact fx33
            refine PW.aload_n q_209_162 rfl ?_
            refine PW.gR 296 q_209_163 (Or.inl t_ft_209_33) gF_40_6 kd_294 IMJ54_9.1 (by decide) rfl ?_
            refine PW.cB q_209_166 (by decide) fun c34 hc34 => ?_
            refine PW.iload_n q_209_168 rfl ?_
            refine PW.addN q_209_169 (by omega) (by omega) fun x35 hx35 => ?_
            refine PW.aH q_209_170 gA_42 kd_296 IMJ54_9.1 (by decide) (by omega) (by omega) fun x36 fx36 => ?_
            have elx36 : o_a (MJ54_9 296) 76 = x36 := by have e : x35.toInt.toNat = 76 := (by omega); rw [e] at fx36; exact fx36
            have ezx36 : x36.toInt = x29.toInt := by rw [← elx36, elx29]
            refine PW.addH q_209_171 fun x37 => ?_
            refine PW.wS q_209_172 (StabY c a b) IMJ54_9 gC_42_78_78 gN_78_78 (by decide) (by omega) (by omega) (n_lo _) (n_hi _) fun M38 IM38 fM38 UM38 => ?_
            have FM38 := Fr.pu FMJ54_9 UM38.1 kd_296 (rfl : List.contains [42] 42 = true)
            have elM38 : o_a (M38 296) 78 = x37 := by have e : x32.toInt.toNat = 78 := (by omega); rw [e] at fM38; exact fM38
            refine PW.aload_n q_209_173 rfl ?_
            refine PW.gR 296 q_209_174 (Or.inl t_ft_209_33) gF_40_6 kd_294 IM38.1 (by decide) rfl ?_
            refine PW.cB q_209_177 (by decide) fun c39 hc39 => ?_
            refine PW.iload_n q_209_179 rfl ?_
            refine PW.addN q_209_180 (by omega) (by omega) fun x40 hx40 => ?_
            refine PW.dup2 q_209_181 rfl rfl ?_
            refine PW.aH q_209_182 gA_42 kd_296 IM38.1 (by decide) (by omega) (by omega) fun x41 fx41 => ?_
            have elx41 : o_a (M38 296) 74 = x41 := by have e : x40.toInt.toNat = 74 := (by omega); rw [e] at fx41; exact fx41
            have ezx41 : x41.toInt = x21.toInt := by rw [← elx41, ((UM38.2 74 (by omega)).trans elx21)]
            refine PW.aload_n q_209_183 rfl ?_
            refine PW.gR 296 q_209_184 (Or.inl t_ft_209_33) gF_40_6 kd_294 IM38.1 (by decide) rfl ?_
            refine PW.cB q_209_187 (by decide) fun c42 hc42 => ?_
            refine PW.iload_n q_209_189 rfl ?_
            refine PW.addN q_209_190 (by omega) (by omega) fun x43 hx43 => ?_
            refine PW.aH q_209_191 gA_42 kd_296 IM38.1 (by decide) (by omega) (by omega) fun x44 fx44 => ?_
            refine PW.aload_n q_209_192 rfl ?_
            refine PW.gR 296 q_209_193 (Or.inl t_ft_209_33) gF_40_6 kd_294 IM38.1 (by decide) rfl ?_
            refine PW.cB q_209_196 (by decide) fun c45 hc45 => ?_
            refine PW.iload_n q_209_198 rfl ?_
            refine PW.addN q_209_199 (by omega) (by omega) fun x46 hx46 => ?_
            refine PW.aH q_209_200 gA_42 kd_296 IM38.1 (by decide) (by omega) (by omega) fun x47 fx47 => ?_
            have elx47 : o_a (M38 296) 74 = x47 := by have e : x46.toInt.toNat = 74 := (by omega); rw [e] at fx47; exact fx47
            have ezx47 : x47.toInt = x41.toInt := by rw [← elx47, elx41]
            refine PW.jc_le q_209_201 rfl (fun h48 => ?_) (fun h48 => ?_)
            · skip
              refine PW.aload_n q_209_216 rfl ?_
              refine PW.gR 296 q_209_217 (Or.inl t_ft_209_33) gF_40_6 kd_294 IM38.1 (by decide) rfl ?_
              refine PW.cB q_209_220 (by decide) fun c49 hc49 => ?_
              refine PW.iload_n q_209_222 rfl ?_
              refine PW.addN q_209_223 (by omega) (by omega) fun x50 hx50 => ?_
              refine PW.aH q_209_224 gA_42 kd_296 IM38.1 (by decide) (by omega) (by omega) fun x51 fx51 => ?_
              have elx51 : o_a (M38 296) 76 = x51 := by have e : x50.toInt.toNat = 76 := (by omega); rw [e] at fx51; exact fx51
              have ezx51 : x51.toInt = x36.toInt := by rw [← elx51, ((UM38.2 76 (by omega)).trans elx36)]
              refine PW.negH q_209_225 fun x52 => ?_
              refine PW.addH q_209_226 fun x53 => ?_
              refine PW.wS q_209_227 (StabY c a b) IM38 gC_42_74_74 gN_74_74 (by decide) (by omega) (by omega) (n_lo _) (n_hi _) fun M54 IM54 fM54 UM54 => ?_
              have FM54 := Fr.pu FM38 UM54.1 kd_296 (rfl : List.contains [42] 42 = true)
              have elM54 : o_a (M54 296) 74 = x53 := by have e : x40.toInt.toNat = 74 := (by omega); rw [e] at fM54; exact fM54
              refine PW.vret q_209_228 rfl (by decide) (by decide) ?_
              exact hK M54 (a) (by omega) (by omega) IM54 FM54 ⟨((congrArg (fun e => o_i e 2) (UM54.1 294 (by decide))).trans ((congrArg (fun e => o_i e 2) (UM38.1 294 (by decide))).trans hbJ54_90.1)), ((hbJ54_90.2.st UM38 (by omega)).st UM54 (by omega))⟩
            · skip
              refine PW.aload_n q_209_204 rfl ?_
              refine PW.gR 296 q_209_205 (Or.inl t_ft_209_33) gF_40_6 kd_294 IM38.1 (by decide) rfl ?_
              refine PW.cB q_209_208 (by decide) fun c55 hc55 => ?_
              refine PW.iload_n q_209_210 rfl ?_
              refine PW.addN q_209_211 (by omega) (by omega) fun x56 hx56 => ?_
              refine PW.aH q_209_212 gA_42 kd_296 IM38.1 (by decide) (by omega) (by omega) fun x57 fx57 => ?_
              have elx57 : o_a (M38 296) 76 = x57 := by have e : x56.toInt.toNat = 76 := (by omega); rw [e] at fx57; exact fx57
              have ezx57 : x57.toInt = x36.toInt := by rw [← elx57, ((UM38.2 76 (by omega)).trans elx36)]
              refine PW.goto q_209_213 rfl ?_
              refine PW.addH q_209_226 fun x58 => ?_
              refine PW.wS q_209_227 (StabY c a b) IM38 gC_42_74_74 gN_74_74 (by decide) (by omega) (by omega) (n_lo _) (n_hi _) fun M59 IM59 fM59 UM59 => ?_
              have FM59 := Fr.pu FM38 UM59.1 kd_296 (rfl : List.contains [42] 42 = true)
              have elM59 : o_a (M59 296) 74 = x58 := by have e : x40.toInt.toNat = 74 := (by omega); rw [e] at fM59; exact fM59
              refine PW.vret q_209_228 rfl (by decide) (by decide) ?_
              exact hK M59 (a) (by omega) (by omega) IM59 FM59 ⟨((congrArg (fun e => o_i e 2) (UM59.1 294 (by decide))).trans ((congrArg (fun e => o_i e 2) (UM38.1 294 (by decide))).trans hbJ54_90.1)), ((hbJ54_90.2.st UM38 (by omega)).st UM59 (by omega))⟩
          · skip
            refine PW.aload_n q_209_114 rfl ?_
            refine PW.gR 296 q_209_115 (Or.inl t_ft_209_33) gF_40_6 kd_294 IMJ54_9.1 (by decide) rfl ?_
            refine PW.cB q_209_118 (by decide) fun c60 hc60 => ?_
            refine PW.iload_n q_209_120 rfl ?_
            refine PW.addN q_209_121 (by omega) (by omega) fun x61 hx61 => ?_
            refine PW.dup2 q_209_122 rfl rfl ?_
            refine PW.aH q_209_123 gA_42 kd_296 IMJ54_9.1 (by decide) (by omega) (by omega) fun x62 fx62 => ?_
            have elx62 : o_a (MJ54_9 296) 78 = x62 := by have e : x61.toInt.toNat = 78 := (by omega); rw [e] at fx62; exact fx62
            refine PW.iload_n q_209_124 rfl ?_
            refine PW.addH q_209_125 fun x63 => ?_
            refine PW.wS q_209_126 (StabY c a b) IMJ54_9 gC_42_78_78 gN_78_78 (by decide) (by omega) (by omega) (n_lo _) (n_hi _) fun M64 IM64 fM64 UM64 => ?_
            have FM64 := Fr.pu FMJ54_9 UM64.1 kd_296 (rfl : List.contains [42] 42 = true)
            have elM64 : o_a (M64 296) 78 = x63 := by have e : x61.toInt.toNat = 78 := (by omega); rw [e] at fM64; exact fM64
            refine PW.aload_n q_209_127 rfl ?_
            refine PW.gR 296 q_209_128 (Or.inl t_ft_209_33) gF_40_6 kd_294 IM64.1 (by decide) rfl ?_
            refine PW.cB q_209_131 (by decide) fun c65 hc65 => ?_
            refine PW.iload_n q_209_133 rfl ?_
            refine PW.addN q_209_134 (by omega) (by omega) fun x66 hx66 => ?_
            refine PW.aload_n q_209_135 rfl ?_
            refine PW.gR 296 q_209_136 (Or.inl t_ft_209_33) gF_40_6 kd_294 IM64.1 (by decide) rfl ?_
            refine PW.cB q_209_139 (by decide) fun c67 hc67 => ?_
            refine PW.iload_n q_209_141 rfl ?_
            refine PW.addN q_209_142 (by omega) (by omega) fun x68 hx68 => ?_
            refine PW.aH q_209_143 gA_42 kd_296 IM64.1 (by decide) (by omega) (by omega) fun x69 fx69 => ?_
            refine PW.wS q_209_144 (StabY c a b) IM64 gC_42_74_74 gN_74_74 (by decide) (by omega) (by omega) (n_lo _) (n_hi _) fun M70 IM70 fM70 UM70 => ?_
            have FM70 := Fr.pu FM64 UM70.1 kd_296 (rfl : List.contains [42] 42 = true)
            have elM70 : o_a (M70 296) 74 = x69 := by have e : x66.toInt.toNat = 74 := (by omega); rw [e] at fM70; exact fM70
            refine PW.aload_n q_209_145 rfl ?_
            refine PW.iload_n q_209_146 rfl ?_
            refine PW.iload_n q_209_147 rfl ?_
            refine PW.cV (as := [_, _]) (rest := []) q_209_148 t_mv_209_277 kd_294 IM70.1 (by decide) rfl (by decide) rfl rfl (Nat.le_of_ble_eq_true rfl) (Nat.le_of_ble_eq_true rfl) (by decide) (by decide) ?_
            refine PW.up (by decide) (c_X12_sees_0 (c) (a) (b) G _ M70 IM70 a1 x18 (by omega) (by omega) (by omega) (by omega) (by omega) (by omega) fun M71 IM71 GM71 TM71 => ?_)
            have FM71 := Fr.trans FM70 GM71 (rfl)
            refine PW.vret q_209_151 rfl (by decide) (by decide) ?_
            exact hK M71 (a + 1) (by omega) (by omega) IM71 FM71 ⟨((congrArg (fun e => o_i e 2) (Fr.at GM71 kd_294 rfl)).trans ((congrArg (fun e => o_i e 2) (UM70.1 294 (by decide))).trans ((congrArg (fun e => o_i e 2) (UM64.1 294 (by decide))).trans hbJ54_90.1))), (((hbJ54_90.2.st UM64 (by omega)).st UM70 (by omega)).tr TM71.2)⟩
        · skip
          refine PW.iload_n q_170_5 rfl ?_
          refine PW.iload_n q_170_6 rfl ?_
          refine PW.subH q_170_7 fun x72 => ?_
          refine PW.goto q_170_8 rfl ?_
          refine PW.rI q_170_14 rfl (by decide) (by decide) ?_
          refine PW.istore_n q_209_100 (by decide) ?_
          refine PW.iload_n q_209_101 rfl ?_
          refine PW.aload_n q_209_102 rfl ?_
          refine PW.gR 296 q_209_103 (Or.inl t_ft_209_33) gF_40_6 kd_294 IMJ54_9.1 (by decide) rfl ?_
          refine PW.cB q_209_106 (by decide) fun c73 hc73 => ?_
          refine PW.iload_n q_209_108 rfl ?_
          refine PW.addN q_209_109 (by omega) (by omega) fun x74 hx74 => ?_
          refine PW.aH q_209_110 gA_42 kd_296 IMJ54_9.1 (by decide) (by omega) (by omega) fun x75 fx75 => ?_
          have elx75 : o_a (MJ54_9 296) 76 = x75 := by have e : x74.toInt.toNat = 76 := (by omega); rw [e] at fx75; exact fx75
          refine PW.jc_gt q_209_111 rfl (fun h76 => ?_) (fun h76 => ?_)
          · skip
            refine PW.aload_n q_209_152 rfl ?_
            refine PW.gR 296 q_209_153 (Or.inl t_ft_209_33) gF_40_6 kd_294 IMJ54_9.1 (by decide) rfl ?_
            refine PW.cB q_209_156 (by decide) fun c77 hc77 => ?_
            refine PW.iload_n q_209_158 rfl ?_
            refine PW.addN q_209_159 (by omega) (by omega) fun x78 hx78 => ?_
            refine PW.dup2 q_209_160 rfl rfl ?_
            refine PW.aH q_209_161 gA_42 kd_296 IMJ54_9.1 (by decide) (by omega) (by omega) fun x79 fx79 => ?_
            have elx79 : o_a (MJ54_9 296) 78 = x79 := by have e : x78.toInt.toNat = 78 := (by omega); rw [e] at fx79; exact fx79
            refine PW.aload_n q_209_162 rfl ?_
            refine PW.gR 296 q_209_163 (Or.inl t_ft_209_33) gF_40_6 kd_294 IMJ54_9.1 (by decide) rfl ?_
            refine PW.cB q_209_166 (by decide) fun c80 hc80 => ?_
            refine PW.iload_n q_209_168 rfl ?_
            refine PW.addN q_209_169 (by omega) (by omega) fun x81 hx81 => ?_
            refine PW.aH q_209_170 gA_42 kd_296 IMJ54_9.1 (by decide) (by omega) (by omega) fun x82 fx82 => ?_
            have elx82 : o_a (MJ54_9 296) 76 = x82 := by have e : x81.toInt.toNat = 76 := (by omega); rw [e] at fx82; exact fx82
            have ezx82 : x82.toInt = x75.toInt := by rw [← elx82, elx75]
            refine PW.addH q_209_171 fun x83 => ?_
            refine PW.wS q_209_172 (StabY c a b) IMJ54_9 gC_42_78_78 gN_78_78 (by decide) (by omega) (by omega) (n_lo _) (n_hi _) fun M84 IM84 fM84 UM84 => ?_
            have FM84 := Fr.pu FMJ54_9 UM84.1 kd_296 (rfl : List.contains [42] 42 = true)
            have elM84 : o_a (M84 296) 78 = x83 := by have e : x78.toInt.toNat = 78 := (by omega); rw [e] at fM84; exact fM84
            refine PW.aload_n q_209_173 rfl ?_
            refine PW.gR 296 q_209_174 (Or.inl t_ft_209_33) gF_40_6 kd_294 IM84.1 (by decide) rfl ?_
            refine PW.cB q_209_177 (by decide) fun c85 hc85 => ?_
            refine PW.iload_n q_209_179 rfl ?_
            refine PW.addN q_209_180 (by omega) (by omega) fun x86 hx86 => ?_
            refine PW.dup2 q_209_181 rfl rfl ?_
            refine PW.aH q_209_182 gA_42 kd_296 IM84.1 (by decide) (by omega) (by omega) fun x87 fx87 => ?_
            have elx87 : o_a (M84 296) 74 = x87 := by have e : x86.toInt.toNat = 74 := (by omega); rw [e] at fx87; exact fx87
            have ezx87 : x87.toInt = x21.toInt := by rw [← elx87, ((UM84.2 74 (by omega)).trans elx21)]
            refine PW.aload_n q_209_183 rfl ?_
            refine PW.gR 296 q_209_184 (Or.inl t_ft_209_33) gF_40_6 kd_294 IM84.1 (by decide) rfl ?_
            refine PW.cB q_209_187 (by decide) fun c88 hc88 => ?_
            refine PW.iload_n q_209_189 rfl ?_
            refine PW.addN q_209_190 (by omega) (by omega) fun x89 hx89 => ?_
            refine PW.aH q_209_191 gA_42 kd_296 IM84.1 (by decide) (by omega) (by omega) fun x90 fx90 => ?_
            refine PW.aload_n q_209_192 rfl ?_
            refine PW.gR 296 q_209_193 (Or.inl t_ft_209_33) gF_40_6 kd_294 IM84.1 (by decide) rfl ?_
            refine PW.cB q_209_196 (by decide) fun c91 hc91 => ?_
            refine PW.iload_n q_209_198 rfl ?_
            refine PW.addN q_209_199 (by omega) (by omega) fun x92 hx92 => ?_
            refine PW.aH q_209_200 gA_42 kd_296 IM84.1 (by decide) (by omega) (by omega) fun x93 fx93 => ?_
            have elx93 : o_a (M84 296) 74 = x93 := by have e : x92.toInt.toNat = 74 := (by omega); rw [e] at fx93; exact fx93
            have ezx93 : x93.toInt = x87.toInt := by rw [← elx93, elx87]
            refine PW.jc_le q_209_201 rfl (fun h94 => ?_) (fun h94 => ?_)
            · skip
              refine PW.aload_n q_209_216 rfl ?_
              refine PW.gR 296 q_209_217 (Or.inl t_ft_209_33) gF_40_6 kd_294 IM84.1 (by decide) rfl ?_
              refine PW.cB q_209_220 (by decide) fun c95 hc95 => ?_
              refine PW.iload_n q_209_222 rfl ?_
              refine PW.addN q_209_223 (by omega) (by omega) fun x96 hx96 => ?_
              refine PW.aH q_209_224 gA_42 kd_296 IM84.1 (by decide) (by omega) (by omega) fun x97 fx97 => ?_
              have elx97 : o_a (M84 296) 76 = x97 := by have e : x96.toInt.toNat = 76 := (by omega); rw [e] at fx97; exact fx97
              have ezx97 : x97.toInt = x82.toInt := by rw [← elx97, ((UM84.2 76 (by omega)).trans elx82)]
              refine PW.negH q_209_225 fun x98 => ?_
              refine PW.addH q_209_226 fun x99 => ?_
              refine PW.wS q_209_227 (StabY c a b) IM84 gC_42_74_74 gN_74_74 (by decide) (by omega) (by omega) (n_lo _) (n_hi _) fun M100 IM100 fM100 UM100 => ?_
              have FM100 := Fr.pu FM84 UM100.1 kd_296 (rfl : List.contains [42] 42 = true)
              have elM100 : o_a (M100 296) 74 = x99 := by have e : x86.toInt.toNat = 74 := (by omega); rw [e] at fM100; exact fM100
              refine PW.vret q_209_228 rfl (by decide) (by decide) ?_
              exact hK M100 (a) (by omega) (by omega) IM100 FM100 ⟨((congrArg (fun e => o_i e 2) (UM100.1 294 (by decide))).trans ((congrArg (fun e => o_i e 2) (UM84.1 294 (by decide))).trans hbJ54_90.1)), ((hbJ54_90.2.st UM84 (by omega)).st UM100 (by omega))⟩
            · skip
              refine PW.aload_n q_209_204 rfl ?_
              refine PW.gR 296 q_209_205 (Or.inl t_ft_209_33) gF_40_6 kd_294 IM84.1 (by decide) rfl ?_
              refine PW.cB q_209_208 (by decide) fun c101 hc101 => ?_
              refine PW.iload_n q_209_210 rfl ?_
              refine PW.addN q_209_211 (by omega) (by omega) fun x102 hx102 => ?_
              refine PW.aH q_209_212 gA_42 kd_296 IM84.1 (by decide) (by omega) (by omega) fun x103 fx103 => ?_
              have elx103 : o_a (M84 296) 76 = x103 := by have e : x102.toInt.toNat = 76 := (by omega); rw [e] at fx103; exact fx103
              have ezx103 : x103.toInt = x82.toInt := by rw [← elx103, ((UM84.2 76 (by omega)).trans elx82)]
              refine PW.goto q_209_213 rfl ?_
              refine PW.addH q_209_226 fun x104 => ?_
              refine PW.wS q_209_227 (StabY c a b) IM84 gC_42_74_74 gN_74_74 (by decide) (by omega) (by omega) (n_lo _) (n_hi _) fun M105 IM105 fM105 UM105 => ?_
              have FM105 := Fr.pu FM84 UM105.1 kd_296 (rfl : List.contains [42] 42 = true)
              have elM105 : o_a (M105 296) 74 = x104 := by have e : x86.toInt.toNat = 74 := (by omega); rw [e] at fM105; exact fM105
              refine PW.vret q_209_228 rfl (by decide) (by decide) ?_
              exact hK M105 (a) (by omega) (by omega) IM105 FM105 ⟨((congrArg (fun e => o_i e 2) (UM105.1 294 (by decide))).trans ((congrArg (fun e => o_i e 2) (UM84.1 294 (by decide))).trans hbJ54_90.1)), ((hbJ54_90.2.st UM84 (by omega)).st UM105 (by omega))⟩
          · skip
            refine PW.aload_n q_209_114 rfl ?_
            refine PW.gR 296 q_209_115 (Or.inl t_ft_209_33) gF_40_6 kd_294 IMJ54_9.1 (by decide) rfl ?_
            refine PW.cB q_209_118 (by decide) fun c106 hc106 => ?_
            refine PW.iload_n q_209_120 rfl ?_
            refine PW.addN q_209_121 (by omega) (by omega) fun x107 hx107 => ?_
            refine PW.dup2 q_209_122 rfl rfl ?_
            refine PW.aH q_209_123 gA_42 kd_296 IMJ54_9.1 (by decide) (by omega) (by omega) fun x108 fx108 => ?_
            have elx108 : o_a (MJ54_9 296) 78 = x108 := by have e : x107.toInt.toNat = 78 := (by omega); rw [e] at fx108; exact fx108
            refine PW.iload_n q_209_124 rfl ?_
            refine PW.addH q_209_125 fun x109 => ?_
            refine PW.wS q_209_126 (StabY c a b) IMJ54_9 gC_42_78_78 gN_78_78 (by decide) (by omega) (by omega) (n_lo _) (n_hi _) fun M110 IM110 fM110 UM110 => ?_
            have FM110 := Fr.pu FMJ54_9 UM110.1 kd_296 (rfl : List.contains [42] 42 = true)
            have elM110 : o_a (M110 296) 78 = x109 := by have e : x107.toInt.toNat = 78 := (by omega); rw [e] at fM110; exact fM110
            refine PW.aload_n q_209_127 rfl ?_
            refine PW.gR 296 q_209_128 (Or.inl t_ft_209_33) gF_40_6 kd_294 IM110.1 (by decide) rfl ?_
            refine PW.cB q_209_131 (by decide) fun c111 hc111 => ?_
            refine PW.iload_n q_209_133 rfl ?_
            refine PW.addN q_209_134 (by omega) (by omega) fun x112 hx112 => ?_
            refine PW.aload_n q_209_135 rfl ?_
            refine PW.gR 296 q_209_136 (Or.inl t_ft_209_33) gF_40_6 kd_294 IM110.1 (by decide) rfl ?_
            refine PW.cB q_209_139 (by decide) fun c113 hc113 => ?_
            refine PW.iload_n q_209_141 rfl ?_
            refine PW.addN q_209_142 (by omega) (by omega) fun x114 hx114 => ?_
            refine PW.aH q_209_143 gA_42 kd_296 IM110.1 (by decide) (by omega) (by omega) fun x115 fx115 => ?_
            refine PW.wS q_209_144 (StabY c a b) IM110 gC_42_74_74 gN_74_74 (by decide) (by omega) (by omega) (n_lo _) (n_hi _) fun M116 IM116 fM116 UM116 => ?_
            have FM116 := Fr.pu FM110 UM116.1 kd_296 (rfl : List.contains [42] 42 = true)
            have elM116 : o_a (M116 296) 74 = x115 := by have e : x112.toInt.toNat = 74 := (by omega); rw [e] at fM116; exact fM116
            refine PW.aload_n q_209_145 rfl ?_
            refine PW.iload_n q_209_146 rfl ?_
            refine PW.iload_n q_209_147 rfl ?_
            refine PW.cV (as := [_, _]) (rest := []) q_209_148 t_mv_209_277 kd_294 IM116.1 (by decide) rfl (by decide) rfl rfl (Nat.le_of_ble_eq_true rfl) (Nat.le_of_ble_eq_true rfl) (by decide) (by decide) ?_
            refine PW.up (by decide) (c_X12_sees_0 (c) (a) (b) G _ M116 IM116 a1 x18 (by omega) (by omega) (by omega) (by omega) (by omega) (by omega) fun M117 IM117 GM117 TM117 => ?_)
            have FM117 := Fr.trans FM116 GM117 (rfl)
            refine PW.vret q_209_151 rfl (by decide) (by decide) ?_
            exact hK M117 (a + 1) (by omega) (by omega) IM117 FM117 ⟨((congrArg (fun e => o_i e 2) (Fr.at GM117 kd_294 rfl)).trans ((congrArg (fun e => o_i e 2) (UM116.1 294 (by decide))).trans ((congrArg (fun e => o_i e 2) (UM110.1 294 (by decide))).trans hbJ54_90.1))), (((hbJ54_90.2.st UM110 (by omega)).st UM116 (by omega)).tr TM117.2)⟩
      · skip
        refine PW.vret q_209_66 rfl (by decide) (by decide) ?_
        exact hK MJ54_9 (a) (by omega) (by omega) IMJ54_9 FMJ54_9 ⟨hbJ54_90.1, hbJ54_90.2⟩
    refine PW.jz_ne q_209_35 rfl (fun h8 => ?_) (fun h8 => ?_)
    · skip
      exact PW.lvS (lk1 rfl (lk1 rfl lk0)) (J54_9 M  I F ⟨rfl, gHq.refl⟩)
    · skip
      refine PW.aload_n q_209_38 rfl ?_
      refine PW.gR 296 q_209_39 (Or.inl t_ft_209_33) gF_40_6 kd_294 I.1 (by decide) rfl ?_
      refine PW.cB q_209_42 (by decide) fun c118 hc118 => ?_
      refine PW.iload_n q_209_44 rfl ?_
      refine PW.addN q_209_45 (by omega) (by omega) fun x119 hx119 => ?_
      refine PW.aload_n q_209_46 rfl ?_
      refine PW.iload_n q_209_47 rfl ?_
      refine PW.cV (as := [_]) (rest := [_, _]) q_209_48 t_mv_209_274 kd_294 I.1 (by decide) rfl (by decide) rfl rfl (Nat.le_of_ble_eq_true rfl) (Nat.le_of_ble_eq_true rfl) (by decide) (by decide) ?_
      refine PW.up (by decide) (c_X12_choice (gY c a b) ((StabY c a b)) G _ M I a1 (by omega) (by omega) fun x121 M120 IM120 GM120 hx121 kx121 TM120 => ?_)
      have FM120 := Fr.trans F GM120 (rfl)
      refine PW.cI q_209_51 (by decide) fun c122 hc122 => ?_
      refine PW.addN q_209_52 (by omega) (by omega) fun x123 hx123 => ?_
      refine PW.wS q_209_53 (StabY c a b) IM120 gC_42_82_82 gN_82_82 (by decide) (by omega) (by omega) (by omega) (by omega) fun M124 IM124 fM124 UM124 => ?_
      have FM124 := Fr.pu FM120 UM124.1 kd_296 (rfl : List.contains [42] 42 = true)
      have elM124 : o_a (M124 296) 82 = x123 := by have e : x119.toInt.toNat = 82 := (by omega); rw [e] at fM124; exact fM124
      exact PW.lvS (lk1 rfl (lk1 rfl lk0)) (J54_9 M124  IM124 FM124 ⟨((congrArg (fun e => o_i e 2) (UM124.1 294 (by decide))).trans (congrArg (fun e => o_i e 2) (Fr.at GM120 kd_294 rfl))), ((gHq.refl.cg (Fr.at GM120 kd_296 rfl) (Fr.at GM120 kd_294 rfl)).st UM124 (by omega))⟩)
  · skip
    refine PW.aload_n q_209_12 rfl ?_
    refine PW.gR 296 q_209_13 (Or.inl t_ft_209_33) gF_40_6 kd_294 I.1 (by decide) rfl ?_
    refine PW.cB q_209_16 (by decide) fun c125 hc125 => ?_
    refine PW.iload_n q_209_18 rfl ?_
    refine PW.addN q_209_19 (by omega) (by omega) fun x126 hx126 => ?_
    refine PW.dup2 q_209_20 rfl rfl ?_
    refine PW.aH q_209_21 gA_42 kd_296 I.1 (by decide) (by omega) (by omega) fun x127 fx127 => ?_
    have elx127 : o_a (M 296) 84 = x127 := by have e : x126.toInt.toNat = 84 := (by omega); rw [e] at fx127; exact fx127
    have ezx127 : x127.toInt = x3.toInt := by rw [← elx127, elx3]
    refine PW.cI q_209_22 (by decide) fun c128 hc128 => ?_
    refine PW.subN q_209_23 (by have := n_lo x127; have := n_hi x127; omega) (by have := n_lo x127; have := n_hi x127; omega) fun x129 hx129 => ?_
    refine PW.wS q_209_24 (StabY c a b) I gC_42_84_84 gN_84_84 (by decide) (by omega) (by omega) (n_lo _) (n_hi _) fun M130 IM130 fM130 UM130 => ?_
    have FM130 := Fr.pu F UM130.1 kd_296 (rfl : List.contains [42] 42 = true)
    have elM130 : o_a (M130 296) 84 = x129 := by have e : x126.toInt.toNat = 84 := (by omega); rw [e] at fM130; exact fM130
    refine PW.vret q_209_25 rfl (by decide) (by decide) ?_
    exact hK M130 (a) (by omega) (by omega) IM130 FM130 ⟨(congrArg (fun e => o_i e 2) (UM130.1 294 (by decide))), (gHq.refl.st UM130 (by omega))⟩
theorem c_X12_dogRuns_1 (c a b : Int) (G : pG) (Kr : pK) (M : pM) (I : Iv (gY c a b) M) (a1 : Int32) (hl_a1 : 1 ≤ a1.toInt) (hh_a1 : a1.toInt ≤ 1) (hp_0 : 0 ≤ b) (hp_1 : b ≤ 599) (hK : ∀ (M1 : pM) (t1 : Int), b ≤ t1 → t1 ≤ b + 1 → Iv (gY c a t1) M1 → Fr [42] M M1 → (gLq M1 M ∧ gHq M1 M) → Kr.1 none 311 M1) : PW G false 3 209 (p_mc 209) (p_msl 209) Kr 0 (lv_args 0 [.ref 294, .int a1]) [] 311 M 0 0 := by
  have F : Fr [42] M M := Fr.refl
  refine PW.aload_n q_209_0 rfl ?_
  refine PW.gR 296 q_209_1 (Or.inl t_ft_209_33) gF_40_6 kd_294 I.1 (by decide) rfl ?_
  refine PW.cB q_209_4 (by decide) fun c1 hc1 => ?_
  refine PW.iload_n q_209_6 rfl ?_
  refine PW.addN q_209_7 (by omega) (by omega) fun x2 hx2 => ?_
  refine PW.aH q_209_8 gA_42 kd_296 I.1 (by decide) (by omega) (by omega) fun x3 fx3 => ?_
  have elx3 : o_a (M 296) 85 = x3 := by have e : x2.toInt.toNat = 85 := (by omega); rw [e] at fx3; exact fx3
  refine PW.jz_le q_209_9 rfl (fun h4 => ?_) (fun h4 => ?_)
  · skip
    refine PW.aload_n q_209_26 rfl ?_
    refine PW.gR 296 q_209_27 (Or.inl t_ft_209_33) gF_40_6 kd_294 I.1 (by decide) rfl ?_
    refine PW.cB q_209_30 (by decide) fun c5 hc5 => ?_
    refine PW.iload_n q_209_32 rfl ?_
    refine PW.addN q_209_33 (by omega) (by omega) fun x6 hx6 => ?_
    refine PW.aI q_209_34 gA_42 kd_296 I.1 (by decide) gB_42_83_83 (by decide) (by omega) (by omega) fun x7 fx7 hx7 kx7 => ?_
    have elx7 : o_a (M 296) 83 = x7 := by have e : x6.toInt.toNat = 83 := (by omega); rw [e] at fx7; exact fx7
    have J54_9 : ∀ (MJ54_9 : pM), Iv (gY c a b) MJ54_9 → Fr [42] M MJ54_9 → (gLq MJ54_9 M ∧ gHq MJ54_9 M) → PW G false 3 209 (p_mc 209) (p_msl 209) Kr 54 [(0, .ref 294), (1, .int a1)] [] 311 MJ54_9 0 0 := by
      intro MJ54_9  IMJ54_9 FMJ54_9 hbJ54_90
      refine PW.aload_n q_209_54 rfl ?_
      refine PW.gR 296 q_209_55 (Or.inl t_ft_209_33) gF_40_6 kd_294 IMJ54_9.1 (by decide) rfl ?_
      refine PW.cB q_209_58 (by decide) fun c10 hc10 => ?_
      refine PW.iload_n q_209_60 rfl ?_
      refine PW.addN q_209_61 (by omega) (by omega) fun x11 hx11 => ?_
      refine PW.aI q_209_62 gA_42 kd_296 IMJ54_9.1 (by decide) gB_42_83_83 (by decide) (by omega) (by omega) fun x12 fx12 hx12 kx12 => ?_
      have elx12 : o_a (MJ54_9 296) 83 = x12 := by have e : x11.toInt.toNat = 83 := (by omega); rw [e] at fx12; exact fx12
      refine PW.jz_ne q_209_63 rfl (fun h13 => ?_) (fun h13 => ?_)
      · skip
        refine PW.aload_n q_209_67 rfl ?_
        refine PW.gR 296 q_209_68 (Or.inl t_ft_209_33) gF_40_6 kd_294 IMJ54_9.1 (by decide) rfl ?_
        refine PW.cB q_209_71 (by decide) fun c14 hc14 => ?_
        refine PW.iload_n q_209_73 rfl ?_
        refine PW.addN q_209_74 (by omega) (by omega) fun x15 hx15 => ?_
        refine PW.aI q_209_75 gA_42 kd_296 IMJ54_9.1 (by decide) gB_42_83_83 (by decide) (by omega) (by omega) fun x16 fx16 hx16 kx16 => ?_
        have elx16 : o_a (MJ54_9 296) 83 = x16 := by have e : x15.toInt.toNat = 83 := (by omega); rw [e] at fx16; exact fx16
        have ezx16 : x16.toInt = x12.toInt := by rw [← elx16, elx12]
        refine PW.cI q_209_76 (by decide) fun c17 hc17 => ?_
        refine PW.subN q_209_77 (by omega) (by omega) fun x18 hx18 => ?_
        refine PW.istore_n q_209_78 (by decide) ?_
        refine PW.aload_n q_209_79 rfl ?_
        refine PW.gR 296 q_209_80 (Or.inl t_ft_209_33) gF_40_6 kd_294 IMJ54_9.1 (by decide) rfl ?_
        refine PW.cB q_209_83 (by decide) fun c19 hc19 => ?_
        refine PW.iload_n q_209_85 rfl ?_
        refine PW.addN q_209_86 (by omega) (by omega) fun x20 hx20 => ?_
        refine PW.aH q_209_87 gA_42 kd_296 IMJ54_9.1 (by decide) (by omega) (by omega) fun x21 fx21 => ?_
        have elx21 : o_a (MJ54_9 296) 75 = x21 := by have e : x20.toInt.toNat = 75 := (by omega); rw [e] at fx21; exact fx21
        refine PW.aload_n q_209_88 rfl ?_
        refine PW.gR 296 q_209_89 (Or.inl t_ft_209_33) gF_40_6 kd_294 IMJ54_9.1 (by decide) rfl ?_
        refine PW.cB q_209_92 (by decide) fun c22 hc22 => ?_
        refine PW.iload_n q_209_94 rfl ?_
        refine PW.addN q_209_95 (by omega) (by omega) fun x23 hx23 => ?_
        refine PW.aH q_209_96 gA_42 kd_296 IMJ54_9.1 (by decide) (by omega) (by omega) fun x24 fx24 => ?_
        refine PW.callS (as := [_, _]) (rest := []) q_209_97 t_ms_209_244 (by decide) rfl (Nat.le_of_ble_eq_true rfl) (Nat.le_of_ble_eq_true rfl) (by decide) (by decide) ?_
        refine PW.iload_n q_170_0 rfl ?_
        refine PW.iload_n q_170_1 rfl ?_
        refine PW.jc_ge q_170_2 rfl (fun h25 => ?_) (fun h25 => ?_)
        · skip
          refine PW.iload_n q_170_11 rfl ?_
          refine PW.iload_n q_170_12 rfl ?_
          refine PW.subH q_170_13 fun x26 => ?_
          refine PW.rI q_170_14 rfl (by decide) (by decide) ?_
          refine PW.istore_n q_209_100 (by decide) ?_
          refine PW.iload_n q_209_101 rfl ?_
          refine PW.aload_n q_209_102 rfl ?_
          refine PW.gR 296 q_209_103 (Or.inl t_ft_209_33) gF_40_6 kd_294 IMJ54_9.1 (by decide) rfl ?_
          refine PW.cB q_209_106 (by decide) fun c27 hc27 => ?_
          refine PW.iload_n q_209_108 rfl ?_
          refine PW.addN q_209_109 (by omega) (by omega) fun x28 hx28 => ?_
          refine PW.aH q_209_110 gA_42 kd_296 IMJ54_9.1 (by decide) (by omega) (by omega) fun x29 fx29 => ?_
          have elx29 : o_a (MJ54_9 296) 77 = x29 := by have e : x28.toInt.toNat = 77 := (by omega); rw [e] at fx29; exact fx29
          refine PW.jc_gt q_209_111 rfl (fun h30 => ?_) (fun h30 => ?_)
          · skip
            refine PW.aload_n q_209_152 rfl ?_
            refine PW.gR 296 q_209_153 (Or.inl t_ft_209_33) gF_40_6 kd_294 IMJ54_9.1 (by decide) rfl ?_
            refine PW.cB q_209_156 (by decide) fun c31 hc31 => ?_
            refine PW.iload_n q_209_158 rfl ?_
            refine PW.addN q_209_159 (by omega) (by omega) fun x32 hx32 => ?_
            refine PW.dup2 q_209_160 rfl rfl ?_
            refine PW.aH q_209_161 gA_42 kd_296 IMJ54_9.1 (by decide) (by omega) (by omega) fun x33 fx33 => ?_
            have elx33 : o_a (MJ54_9 296) 79 = x33 := by have e : x32.toInt.toNat = 79 := (by omega); rw [e] at fx33; exact fx33
            refine PW.aload_n q_209_162 rfl ?_
            refine PW.gR 296 q_209_163 (Or.inl t_ft_209_33) gF_40_6 kd_294 IMJ54_9.1 (by decide) rfl ?_
            refine PW.cB q_209_166 (by decide) fun c34 hc34 => ?_
            refine PW.iload_n q_209_168 rfl ?_
            refine PW.addN q_209_169 (by omega) (by omega) fun x35 hx35 => ?_
            refine PW.aH q_209_170 gA_42 kd_296 IMJ54_9.1 (by decide) (by omega) (by omega) fun x36 fx36 => ?_
            have elx36 : o_a (MJ54_9 296) 77 = x36 := by have e : x35.toInt.toNat = 77 := (by omega); rw [e] at fx36; exact fx36
            have ezx36 : x36.toInt = x29.toInt := by rw [← elx36, elx29]
            refine PW.addH q_209_171 fun x37 => ?_
            refine PW.wS q_209_172 (StabY c a b) IMJ54_9 gC_42_79_79 gN_79_79 (by decide) (by omega) (by omega) (n_lo _) (n_hi _) fun M38 IM38 fM38 UM38 => ?_
            have FM38 := Fr.pu FMJ54_9 UM38.1 kd_296 (rfl : List.contains [42] 42 = true)
            have elM38 : o_a (M38 296) 79 = x37 := by have e : x32.toInt.toNat = 79 := (by omega); rw [e] at fM38; exact fM38
            refine PW.aload_n q_209_173 rfl ?_
            refine PW.gR 296 q_209_174 (Or.inl t_ft_209_33) gF_40_6 kd_294 IM38.1 (by decide) rfl ?_
            refine PW.cB q_209_177 (by decide) fun c39 hc39 => ?_
            refine PW.iload_n q_209_179 rfl ?_
            refine PW.addN q_209_180 (by omega) (by omega) fun x40 hx40 => ?_
            refine PW.dup2 q_209_181 rfl rfl ?_
            refine PW.aH q_209_182 gA_42 kd_296 IM38.1 (by decide) (by omega) (by omega) fun x41 fx41 => ?_
            have elx41 : o_a (M38 296) 75 = x41 := by have e : x40.toInt.toNat = 75 := (by omega); rw [e] at fx41; exact fx41
            have ezx41 : x41.toInt = x21.toInt := by rw [← elx41, ((UM38.2 75 (by omega)).trans elx21)]
            refine PW.aload_n q_209_183 rfl ?_
            refine PW.gR 296 q_209_184 (Or.inl t_ft_209_33) gF_40_6 kd_294 IM38.1 (by decide) rfl ?_
            refine PW.cB q_209_187 (by decide) fun c42 hc42 => ?_
            refine PW.iload_n q_209_189 rfl ?_
            refine PW.addN q_209_190 (by omega) (by omega) fun x43 hx43 => ?_
            refine PW.aH q_209_191 gA_42 kd_296 IM38.1 (by decide) (by omega) (by omega) fun x44 fx44 => ?_
            refine PW.aload_n q_209_192 rfl ?_
            refine PW.gR 296 q_209_193 (Or.inl t_ft_209_33) gF_40_6 kd_294 IM38.1 (by decide) rfl ?_
            refine PW.cB q_209_196 (by decide) fun c45 hc45 => ?_
            refine PW.iload_n q_209_198 rfl ?_
            refine PW.addN q_209_199 (by omega) (by omega) fun x46 hx46 => ?_
            refine PW.aH q_209_200 gA_42 kd_296 IM38.1 (by decide) (by omega) (by omega) fun x47 fx47 => ?_
            have elx47 : o_a (M38 296) 75 = x47 := by have e : x46.toInt.toNat = 75 := (by omega); rw [e] at fx47; exact fx47
            have ezx47 : x47.toInt = x41.toInt := by rw [← elx47, elx41]
            refine PW.jc_le q_209_201 rfl (fun h48 => ?_) (fun h48 => ?_)
            · skip
              refine PW.aload_n q_209_216 rfl ?_
              refine PW.gR 296 q_209_217 (Or.inl t_ft_209_33) gF_40_6 kd_294 IM38.1 (by decide) rfl ?_
              refine PW.cB q_209_220 (by decide) fun c49 hc49 => ?_
              refine PW.iload_n q_209_222 rfl ?_
              refine PW.addN q_209_223 (by omega) (by omega) fun x50 hx50 => ?_
              refine PW.aH q_209_224 gA_42 kd_296 IM38.1 (by decide) (by omega) (by omega) fun x51 fx51 => ?_
              have elx51 : o_a (M38 296) 77 = x51 := by have e : x50.toInt.toNat = 77 := (by omega); rw [e] at fx51; exact fx51
              have ezx51 : x51.toInt = x36.toInt := by rw [← elx51, ((UM38.2 77 (by omega)).trans elx36)]
              refine PW.negH q_209_225 fun x52 => ?_
              refine PW.addH q_209_226 fun x53 => ?_
              refine PW.wS q_209_227 (StabY c a b) IM38 gC_42_75_75 gN_75_75 (by decide) (by omega) (by omega) (n_lo _) (n_hi _) fun M54 IM54 fM54 UM54 => ?_
              have FM54 := Fr.pu FM38 UM54.1 kd_296 (rfl : List.contains [42] 42 = true)
              have elM54 : o_a (M54 296) 75 = x53 := by have e : x40.toInt.toNat = 75 := (by omega); rw [e] at fM54; exact fM54
              refine PW.vret q_209_228 rfl (by decide) (by decide) ?_
              exact hK M54 (b) (by omega) (by omega) IM54 FM54 ⟨((congrArg (fun e => o_i e 2) (UM54.1 294 (by decide))).trans ((congrArg (fun e => o_i e 2) (UM38.1 294 (by decide))).trans hbJ54_90.1)), ((hbJ54_90.2.st UM38 (by omega)).st UM54 (by omega))⟩
            · skip
              refine PW.aload_n q_209_204 rfl ?_
              refine PW.gR 296 q_209_205 (Or.inl t_ft_209_33) gF_40_6 kd_294 IM38.1 (by decide) rfl ?_
              refine PW.cB q_209_208 (by decide) fun c55 hc55 => ?_
              refine PW.iload_n q_209_210 rfl ?_
              refine PW.addN q_209_211 (by omega) (by omega) fun x56 hx56 => ?_
              refine PW.aH q_209_212 gA_42 kd_296 IM38.1 (by decide) (by omega) (by omega) fun x57 fx57 => ?_
              have elx57 : o_a (M38 296) 77 = x57 := by have e : x56.toInt.toNat = 77 := (by omega); rw [e] at fx57; exact fx57
              have ezx57 : x57.toInt = x36.toInt := by rw [← elx57, ((UM38.2 77 (by omega)).trans elx36)]
              refine PW.goto q_209_213 rfl ?_
              refine PW.addH q_209_226 fun x58 => ?_
              refine PW.wS q_209_227 (StabY c a b) IM38 gC_42_75_75 gN_75_75 (by decide) (by omega) (by omega) (n_lo _) (n_hi _) fun M59 IM59 fM59 UM59 => ?_
              have FM59 := Fr.pu FM38 UM59.1 kd_296 (rfl : List.contains [42] 42 = true)
              have elM59 : o_a (M59 296) 75 = x58 := by have e : x40.toInt.toNat = 75 := (by omega); rw [e] at fM59; exact fM59
              refine PW.vret q_209_228 rfl (by decide) (by decide) ?_
              exact hK M59 (b) (by omega) (by omega) IM59 FM59 ⟨((congrArg (fun e => o_i e 2) (UM59.1 294 (by decide))).trans ((congrArg (fun e => o_i e 2) (UM38.1 294 (by decide))).trans hbJ54_90.1)), ((hbJ54_90.2.st UM38 (by omega)).st UM59 (by omega))⟩
          · skip
            refine PW.aload_n q_209_114 rfl ?_
            refine PW.gR 296 q_209_115 (Or.inl t_ft_209_33) gF_40_6 kd_294 IMJ54_9.1 (by decide) rfl ?_
            refine PW.cB q_209_118 (by decide) fun c60 hc60 => ?_
            refine PW.iload_n q_209_120 rfl ?_
            refine PW.addN q_209_121 (by omega) (by omega) fun x61 hx61 => ?_
            refine PW.dup2 q_209_122 rfl rfl ?_
            refine PW.aH q_209_123 gA_42 kd_296 IMJ54_9.1 (by decide) (by omega) (by omega) fun x62 fx62 => ?_
            have elx62 : o_a (MJ54_9 296) 79 = x62 := by have e : x61.toInt.toNat = 79 := (by omega); rw [e] at fx62; exact fx62
            refine PW.iload_n q_209_124 rfl ?_
            refine PW.addH q_209_125 fun x63 => ?_
            refine PW.wS q_209_126 (StabY c a b) IMJ54_9 gC_42_79_79 gN_79_79 (by decide) (by omega) (by omega) (n_lo _) (n_hi _) fun M64 IM64 fM64 UM64 => ?_
            have FM64 := Fr.pu FMJ54_9 UM64.1 kd_296 (rfl : List.contains [42] 42 = true)
            have elM64 : o_a (M64 296) 79 = x63 := by have e : x61.toInt.toNat = 79 := (by omega); rw [e] at fM64; exact fM64
            refine PW.aload_n q_209_127 rfl ?_
            refine PW.gR 296 q_209_128 (Or.inl t_ft_209_33) gF_40_6 kd_294 IM64.1 (by decide) rfl ?_
            refine PW.cB q_209_131 (by decide) fun c65 hc65 => ?_
            refine PW.iload_n q_209_133 rfl ?_
            refine PW.addN q_209_134 (by omega) (by omega) fun x66 hx66 => ?_
            refine PW.aload_n q_209_135 rfl ?_
            refine PW.gR 296 q_209_136 (Or.inl t_ft_209_33) gF_40_6 kd_294 IM64.1 (by decide) rfl ?_
            refine PW.cB q_209_139 (by decide) fun c67 hc67 => ?_
            refine PW.iload_n q_209_141 rfl ?_
            refine PW.addN q_209_142 (by omega) (by omega) fun x68 hx68 => ?_
            refine PW.aH q_209_143 gA_42 kd_296 IM64.1 (by decide) (by omega) (by omega) fun x69 fx69 => ?_
            refine PW.wS q_209_144 (StabY c a b) IM64 gC_42_75_75 gN_75_75 (by decide) (by omega) (by omega) (n_lo _) (n_hi _) fun M70 IM70 fM70 UM70 => ?_
            have FM70 := Fr.pu FM64 UM70.1 kd_296 (rfl : List.contains [42] 42 = true)
            have elM70 : o_a (M70 296) 75 = x69 := by have e : x66.toInt.toNat = 75 := (by omega); rw [e] at fM70; exact fM70
            refine PW.aload_n q_209_145 rfl ?_
            refine PW.iload_n q_209_146 rfl ?_
            refine PW.iload_n q_209_147 rfl ?_
            refine PW.cV (as := [_, _]) (rest := []) q_209_148 t_mv_209_277 kd_294 IM70.1 (by decide) rfl (by decide) rfl rfl (Nat.le_of_ble_eq_true rfl) (Nat.le_of_ble_eq_true rfl) (by decide) (by decide) ?_
            refine PW.up (by decide) (c_X12_sees_1 (c) (a) (b) G _ M70 IM70 a1 x18 (by omega) (by omega) (by omega) (by omega) (by omega) (by omega) fun M71 IM71 GM71 TM71 => ?_)
            have FM71 := Fr.trans FM70 GM71 (rfl)
            refine PW.vret q_209_151 rfl (by decide) (by decide) ?_
            exact hK M71 (b + 1) (by omega) (by omega) IM71 FM71 ⟨((congrArg (fun e => o_i e 2) (Fr.at GM71 kd_294 rfl)).trans ((congrArg (fun e => o_i e 2) (UM70.1 294 (by decide))).trans ((congrArg (fun e => o_i e 2) (UM64.1 294 (by decide))).trans hbJ54_90.1))), (((hbJ54_90.2.st UM64 (by omega)).st UM70 (by omega)).tr TM71.2)⟩
        · skip
          refine PW.iload_n q_170_5 rfl ?_
          refine PW.iload_n q_170_6 rfl ?_
          refine PW.subH q_170_7 fun x72 => ?_
          refine PW.goto q_170_8 rfl ?_
          refine PW.rI q_170_14 rfl (by decide) (by decide) ?_
          refine PW.istore_n q_209_100 (by decide) ?_
          refine PW.iload_n q_209_101 rfl ?_
          refine PW.aload_n q_209_102 rfl ?_
          refine PW.gR 296 q_209_103 (Or.inl t_ft_209_33) gF_40_6 kd_294 IMJ54_9.1 (by decide) rfl ?_
          refine PW.cB q_209_106 (by decide) fun c73 hc73 => ?_
          refine PW.iload_n q_209_108 rfl ?_
          refine PW.addN q_209_109 (by omega) (by omega) fun x74 hx74 => ?_
          refine PW.aH q_209_110 gA_42 kd_296 IMJ54_9.1 (by decide) (by omega) (by omega) fun x75 fx75 => ?_
          have elx75 : o_a (MJ54_9 296) 77 = x75 := by have e : x74.toInt.toNat = 77 := (by omega); rw [e] at fx75; exact fx75
          refine PW.jc_gt q_209_111 rfl (fun h76 => ?_) (fun h76 => ?_)
          · skip
            refine PW.aload_n q_209_152 rfl ?_
            refine PW.gR 296 q_209_153 (Or.inl t_ft_209_33) gF_40_6 kd_294 IMJ54_9.1 (by decide) rfl ?_
            refine PW.cB q_209_156 (by decide) fun c77 hc77 => ?_
            refine PW.iload_n q_209_158 rfl ?_
            refine PW.addN q_209_159 (by omega) (by omega) fun x78 hx78 => ?_
            refine PW.dup2 q_209_160 rfl rfl ?_
            refine PW.aH q_209_161 gA_42 kd_296 IMJ54_9.1 (by decide) (by omega) (by omega) fun x79 fx79 => ?_
            have elx79 : o_a (MJ54_9 296) 79 = x79 := by have e : x78.toInt.toNat = 79 := (by omega); rw [e] at fx79; exact fx79
            refine PW.aload_n q_209_162 rfl ?_
            refine PW.gR 296 q_209_163 (Or.inl t_ft_209_33) gF_40_6 kd_294 IMJ54_9.1 (by decide) rfl ?_
            refine PW.cB q_209_166 (by decide) fun c80 hc80 => ?_
            refine PW.iload_n q_209_168 rfl ?_
            refine PW.addN q_209_169 (by omega) (by omega) fun x81 hx81 => ?_
            refine PW.aH q_209_170 gA_42 kd_296 IMJ54_9.1 (by decide) (by omega) (by omega) fun x82 fx82 => ?_
            have elx82 : o_a (MJ54_9 296) 77 = x82 := by have e : x81.toInt.toNat = 77 := (by omega); rw [e] at fx82; exact fx82
            have ezx82 : x82.toInt = x75.toInt := by rw [← elx82, elx75]
            refine PW.addH q_209_171 fun x83 => ?_
            refine PW.wS q_209_172 (StabY c a b) IMJ54_9 gC_42_79_79 gN_79_79 (by decide) (by omega) (by omega) (n_lo _) (n_hi _) fun M84 IM84 fM84 UM84 => ?_
            have FM84 := Fr.pu FMJ54_9 UM84.1 kd_296 (rfl : List.contains [42] 42 = true)
            have elM84 : o_a (M84 296) 79 = x83 := by have e : x78.toInt.toNat = 79 := (by omega); rw [e] at fM84; exact fM84
            refine PW.aload_n q_209_173 rfl ?_
            refine PW.gR 296 q_209_174 (Or.inl t_ft_209_33) gF_40_6 kd_294 IM84.1 (by decide) rfl ?_
            refine PW.cB q_209_177 (by decide) fun c85 hc85 => ?_
            refine PW.iload_n q_209_179 rfl ?_
            refine PW.addN q_209_180 (by omega) (by omega) fun x86 hx86 => ?_
            refine PW.dup2 q_209_181 rfl rfl ?_
            refine PW.aH q_209_182 gA_42 kd_296 IM84.1 (by decide) (by omega) (by omega) fun x87 fx87 => ?_
            have elx87 : o_a (M84 296) 75 = x87 := by have e : x86.toInt.toNat = 75 := (by omega); rw [e] at fx87; exact fx87
            have ezx87 : x87.toInt = x21.toInt := by rw [← elx87, ((UM84.2 75 (by omega)).trans elx21)]
            refine PW.aload_n q_209_183 rfl ?_
            refine PW.gR 296 q_209_184 (Or.inl t_ft_209_33) gF_40_6 kd_294 IM84.1 (by decide) rfl ?_
            refine PW.cB q_209_187 (by decide) fun c88 hc88 => ?_
            refine PW.iload_n q_209_189 rfl ?_
            refine PW.addN q_209_190 (by omega) (by omega) fun x89 hx89 => ?_
            refine PW.aH q_209_191 gA_42 kd_296 IM84.1 (by decide) (by omega) (by omega) fun x90 fx90 => ?_
            refine PW.aload_n q_209_192 rfl ?_
            refine PW.gR 296 q_209_193 (Or.inl t_ft_209_33) gF_40_6 kd_294 IM84.1 (by decide) rfl ?_
            refine PW.cB q_209_196 (by decide) fun c91 hc91 => ?_
            refine PW.iload_n q_209_198 rfl ?_
            refine PW.addN q_209_199 (by omega) (by omega) fun x92 hx92 => ?_
            refine PW.aH q_209_200 gA_42 kd_296 IM84.1 (by decide) (by omega) (by omega) fun x93 fx93 => ?_
            have elx93 : o_a (M84 296) 75 = x93 := by have e : x92.toInt.toNat = 75 := (by omega); rw [e] at fx93; exact fx93
            have ezx93 : x93.toInt = x87.toInt := by rw [← elx93, elx87]
            refine PW.jc_le q_209_201 rfl (fun h94 => ?_) (fun h94 => ?_)
            · skip
              refine PW.aload_n q_209_216 rfl ?_
              refine PW.gR 296 q_209_217 (Or.inl t_ft_209_33) gF_40_6 kd_294 IM84.1 (by decide) rfl ?_
              refine PW.cB q_209_220 (by decide) fun c95 hc95 => ?_
              refine PW.iload_n q_209_222 rfl ?_
              refine PW.addN q_209_223 (by omega) (by omega) fun x96 hx96 => ?_
              refine PW.aH q_209_224 gA_42 kd_296 IM84.1 (by decide) (by omega) (by omega) fun x97 fx97 => ?_
              have elx97 : o_a (M84 296) 77 = x97 := by have e : x96.toInt.toNat = 77 := (by omega); rw [e] at fx97; exact fx97
              have ezx97 : x97.toInt = x82.toInt := by rw [← elx97, ((UM84.2 77 (by omega)).trans elx82)]
              refine PW.negH q_209_225 fun x98 => ?_
              refine PW.addH q_209_226 fun x99 => ?_
              refine PW.wS q_209_227 (StabY c a b) IM84 gC_42_75_75 gN_75_75 (by decide) (by omega) (by omega) (n_lo _) (n_hi _) fun M100 IM100 fM100 UM100 => ?_
              have FM100 := Fr.pu FM84 UM100.1 kd_296 (rfl : List.contains [42] 42 = true)
              have elM100 : o_a (M100 296) 75 = x99 := by have e : x86.toInt.toNat = 75 := (by omega); rw [e] at fM100; exact fM100
              refine PW.vret q_209_228 rfl (by decide) (by decide) ?_
              exact hK M100 (b) (by omega) (by omega) IM100 FM100 ⟨((congrArg (fun e => o_i e 2) (UM100.1 294 (by decide))).trans ((congrArg (fun e => o_i e 2) (UM84.1 294 (by decide))).trans hbJ54_90.1)), ((hbJ54_90.2.st UM84 (by omega)).st UM100 (by omega))⟩
            · skip
              refine PW.aload_n q_209_204 rfl ?_
              refine PW.gR 296 q_209_205 (Or.inl t_ft_209_33) gF_40_6 kd_294 IM84.1 (by decide) rfl ?_
              refine PW.cB q_209_208 (by decide) fun c101 hc101 => ?_
              refine PW.iload_n q_209_210 rfl ?_
              refine PW.addN q_209_211 (by omega) (by omega) fun x102 hx102 => ?_
              refine PW.aH q_209_212 gA_42 kd_296 IM84.1 (by decide) (by omega) (by omega) fun x103 fx103 => ?_
              have elx103 : o_a (M84 296) 77 = x103 := by have e : x102.toInt.toNat = 77 := (by omega); rw [e] at fx103; exact fx103
              have ezx103 : x103.toInt = x82.toInt := by rw [← elx103, ((UM84.2 77 (by omega)).trans elx82)]
              refine PW.goto q_209_213 rfl ?_
              refine PW.addH q_209_226 fun x104 => ?_
              refine PW.wS q_209_227 (StabY c a b) IM84 gC_42_75_75 gN_75_75 (by decide) (by omega) (by omega) (n_lo _) (n_hi _) fun M105 IM105 fM105 UM105 => ?_
              have FM105 := Fr.pu FM84 UM105.1 kd_296 (rfl : List.contains [42] 42 = true)
              have elM105 : o_a (M105 296) 75 = x104 := by have e : x86.toInt.toNat = 75 := (by omega); rw [e] at fM105; exact fM105
              refine PW.vret q_209_228 rfl (by decide) (by decide) ?_
              exact hK M105 (b) (by omega) (by omega) IM105 FM105 ⟨((congrArg (fun e => o_i e 2) (UM105.1 294 (by decide))).trans ((congrArg (fun e => o_i e 2) (UM84.1 294 (by decide))).trans hbJ54_90.1)), ((hbJ54_90.2.st UM84 (by omega)).st UM105 (by omega))⟩
          · skip
            refine PW.aload_n q_209_114 rfl ?_
            refine PW.gR 296 q_209_115 (Or.inl t_ft_209_33) gF_40_6 kd_294 IMJ54_9.1 (by decide) rfl ?_
            refine PW.cB q_209_118 (by decide) fun c106 hc106 => ?_
            refine PW.iload_n q_209_120 rfl ?_
            refine PW.addN q_209_121 (by omega) (by omega) fun x107 hx107 => ?_
            refine PW.dup2 q_209_122 rfl rfl ?_
            refine PW.aH q_209_123 gA_42 kd_296 IMJ54_9.1 (by decide) (by omega) (by omega) fun x108 fx108 => ?_
            have elx108 : o_a (MJ54_9 296) 79 = x108 := by have e : x107.toInt.toNat = 79 := (by omega); rw [e] at fx108; exact fx108
            refine PW.iload_n q_209_124 rfl ?_
            refine PW.addH q_209_125 fun x109 => ?_
            refine PW.wS q_209_126 (StabY c a b) IMJ54_9 gC_42_79_79 gN_79_79 (by decide) (by omega) (by omega) (n_lo _) (n_hi _) fun M110 IM110 fM110 UM110 => ?_
            have FM110 := Fr.pu FMJ54_9 UM110.1 kd_296 (rfl : List.contains [42] 42 = true)
            have elM110 : o_a (M110 296) 79 = x109 := by have e : x107.toInt.toNat = 79 := (by omega); rw [e] at fM110; exact fM110
            refine PW.aload_n q_209_127 rfl ?_
            refine PW.gR 296 q_209_128 (Or.inl t_ft_209_33) gF_40_6 kd_294 IM110.1 (by decide) rfl ?_
            refine PW.cB q_209_131 (by decide) fun c111 hc111 => ?_
            refine PW.iload_n q_209_133 rfl ?_
            refine PW.addN q_209_134 (by omega) (by omega) fun x112 hx112 => ?_
            refine PW.aload_n q_209_135 rfl ?_
            refine PW.gR 296 q_209_136 (Or.inl t_ft_209_33) gF_40_6 kd_294 IM110.1 (by decide) rfl ?_
            refine PW.cB q_209_139 (by decide) fun c113 hc113 => ?_
            refine PW.iload_n q_209_141 rfl ?_
            refine PW.addN q_209_142 (by omega) (by omega) fun x114 hx114 => ?_
            refine PW.aH q_209_143 gA_42 kd_296 IM110.1 (by decide) (by omega) (by omega) fun x115 fx115 => ?_
            refine PW.wS q_209_144 (StabY c a b) IM110 gC_42_75_75 gN_75_75 (by decide) (by omega) (by omega) (n_lo _) (n_hi _) fun M116 IM116 fM116 UM116 => ?_
            have FM116 := Fr.pu FM110 UM116.1 kd_296 (rfl : List.contains [42] 42 = true)
            have elM116 : o_a (M116 296) 75 = x115 := by have e : x112.toInt.toNat = 75 := (by omega); rw [e] at fM116; exact fM116
            refine PW.aload_n q_209_145 rfl ?_
            refine PW.iload_n q_209_146 rfl ?_
            refine PW.iload_n q_209_147 rfl ?_
            refine PW.cV (as := [_, _]) (rest := []) q_209_148 t_mv_209_277 kd_294 IM116.1 (by decide) rfl (by decide) rfl rfl (Nat.le_of_ble_eq_true rfl) (Nat.le_of_ble_eq_true rfl) (by decide) (by decide) ?_
            refine PW.up (by decide) (c_X12_sees_1 (c) (a) (b) G _ M116 IM116 a1 x18 (by omega) (by omega) (by omega) (by omega) (by omega) (by omega) fun M117 IM117 GM117 TM117 => ?_)
            have FM117 := Fr.trans FM116 GM117 (rfl)
            refine PW.vret q_209_151 rfl (by decide) (by decide) ?_
            exact hK M117 (b + 1) (by omega) (by omega) IM117 FM117 ⟨((congrArg (fun e => o_i e 2) (Fr.at GM117 kd_294 rfl)).trans ((congrArg (fun e => o_i e 2) (UM116.1 294 (by decide))).trans ((congrArg (fun e => o_i e 2) (UM110.1 294 (by decide))).trans hbJ54_90.1))), (((hbJ54_90.2.st UM110 (by omega)).st UM116 (by omega)).tr TM117.2)⟩
      · skip
        refine PW.vret q_209_66 rfl (by decide) (by decide) ?_
        exact hK MJ54_9 (b) (by omega) (by omega) IMJ54_9 FMJ54_9 ⟨hbJ54_90.1, hbJ54_90.2⟩
    refine PW.jz_ne q_209_35 rfl (fun h8 => ?_) (fun h8 => ?_)
    · skip
      exact PW.lvS (lk1 rfl (lk1 rfl lk0)) (J54_9 M  I F ⟨rfl, gHq.refl⟩)
    · skip
      refine PW.aload_n q_209_38 rfl ?_
      refine PW.gR 296 q_209_39 (Or.inl t_ft_209_33) gF_40_6 kd_294 I.1 (by decide) rfl ?_
      refine PW.cB q_209_42 (by decide) fun c118 hc118 => ?_
      refine PW.iload_n q_209_44 rfl ?_
      refine PW.addN q_209_45 (by omega) (by omega) fun x119 hx119 => ?_
      refine PW.aload_n q_209_46 rfl ?_
      refine PW.iload_n q_209_47 rfl ?_
      refine PW.cV (as := [_]) (rest := [_, _]) q_209_48 t_mv_209_274 kd_294 I.1 (by decide) rfl (by decide) rfl rfl (Nat.le_of_ble_eq_true rfl) (Nat.le_of_ble_eq_true rfl) (by decide) (by decide) ?_
      refine PW.up (by decide) (c_X12_choice (gY c a b) ((StabY c a b)) G _ M I a1 (by omega) (by omega) fun x121 M120 IM120 GM120 hx121 kx121 TM120 => ?_)
      have FM120 := Fr.trans F GM120 (rfl)
      refine PW.cI q_209_51 (by decide) fun c122 hc122 => ?_
      refine PW.addN q_209_52 (by omega) (by omega) fun x123 hx123 => ?_
      refine PW.wS q_209_53 (StabY c a b) IM120 gC_42_83_83 gN_83_83 (by decide) (by omega) (by omega) (by omega) (by omega) fun M124 IM124 fM124 UM124 => ?_
      have FM124 := Fr.pu FM120 UM124.1 kd_296 (rfl : List.contains [42] 42 = true)
      have elM124 : o_a (M124 296) 83 = x123 := by have e : x119.toInt.toNat = 83 := (by omega); rw [e] at fM124; exact fM124
      exact PW.lvS (lk1 rfl (lk1 rfl lk0)) (J54_9 M124  IM124 FM124 ⟨((congrArg (fun e => o_i e 2) (UM124.1 294 (by decide))).trans (congrArg (fun e => o_i e 2) (Fr.at GM120 kd_294 rfl))), ((gHq.refl.cg (Fr.at GM120 kd_296 rfl) (Fr.at GM120 kd_294 rfl)).st UM124 (by omega))⟩)
  · skip
    refine PW.aload_n q_209_12 rfl ?_
    refine PW.gR 296 q_209_13 (Or.inl t_ft_209_33) gF_40_6 kd_294 I.1 (by decide) rfl ?_
    refine PW.cB q_209_16 (by decide) fun c125 hc125 => ?_
    refine PW.iload_n q_209_18 rfl ?_
    refine PW.addN q_209_19 (by omega) (by omega) fun x126 hx126 => ?_
    refine PW.dup2 q_209_20 rfl rfl ?_
    refine PW.aH q_209_21 gA_42 kd_296 I.1 (by decide) (by omega) (by omega) fun x127 fx127 => ?_
    have elx127 : o_a (M 296) 85 = x127 := by have e : x126.toInt.toNat = 85 := (by omega); rw [e] at fx127; exact fx127
    have ezx127 : x127.toInt = x3.toInt := by rw [← elx127, elx3]
    refine PW.cI q_209_22 (by decide) fun c128 hc128 => ?_
    refine PW.subN q_209_23 (by have := n_lo x127; have := n_hi x127; omega) (by have := n_lo x127; have := n_hi x127; omega) fun x129 hx129 => ?_
    refine PW.wS q_209_24 (StabY c a b) I gC_42_85_85 gN_85_85 (by decide) (by omega) (by omega) (n_lo _) (n_hi _) fun M130 IM130 fM130 UM130 => ?_
    have FM130 := Fr.pu F UM130.1 kd_296 (rfl : List.contains [42] 42 = true)
    have elM130 : o_a (M130 296) 85 = x129 := by have e : x126.toInt.toNat = 85 := (by omega); rw [e] at fM130; exact fM130
    refine PW.vret q_209_25 rfl (by decide) (by decide) ?_
    exact hK M130 (b) (by omega) (by omega) IM130 FM130 ⟨(congrArg (fun e => o_i e 2) (UM130.1 294 (by decide))), (gHq.refl.st UM130 (by omega))⟩
theorem c_X12_second (G : pG) (Kr : pK) (M : pM) (I : Iv gTT M) (hp_0 : (o_a (M 296) 33).toInt ≤ 599) (hK : ∀ (M1 : pM), Iv gTT M1 → Fr [42] M M1 → ((o_a (M1 296) 33).toInt = (o_a (M 296) 33).toInt + 1) → ((gLq M1 M) ∧ gHq M1 M) → Kr.1 none 311 M1) : PW G false 4 210 (p_mc 210) (p_msl 210) Kr 0 (lv_args 0 [.ref 294]) [] 311 M 0 0 := by
  have F : Fr [42] M M := Fr.refl
  obtain ⟨c, hc⟩ : ∃ c, c = (o_a (M 296) 33).toInt := ⟨_, rfl⟩
  obtain ⟨a, ha⟩ : ∃ a, a = (o_a (M 296) 80).toInt := ⟨_, rfl⟩
  obtain ⟨b, hb⟩ : ∃ b, b = (o_a (M 296) 81).toInt := ⟨_, rfl⟩
  have hac : a ≤ c := by rw [ha, hc]; exact I.2.2.1.1.1
  have hbc : b ≤ c := by rw [hb, hc]; exact I.2.2.1.1.2
  have h00 := g_3380 I.1
  rw [← ha, ← hb] at h00
  rw [← hc] at hp_0
  have IY : Iv (gY c a b) M := ⟨I.1, by rw [hc, ha, hb]; exact gY.of I.2⟩
  refine PW.aload_n q_210_0 rfl ?_
  refine PW.gR 296 q_210_1 (Or.inl t_ft_210_33) gF_40_6 kd_294 IY.1 (by decide) rfl ?_
  refine PW.cB q_210_4 (by decide) fun c1 hc1 => ?_
  refine PW.cI q_210_6 (by decide) fun c2 hc2 => ?_
  refine PW.wS q_210_7 (StabY c a b) IY gC_42_73_73 gN_73_73 (by decide) (by omega) (by omega) (n_lo _) (n_hi _) fun M3 IM3 fM3 UM3 => ?_
  have FM3 := Fr.pu F UM3.1 kd_296 (rfl : List.contains [42] 42 = true)
  refine PW.cI q_210_8 (by decide) fun c4 hc4 => ?_
  refine PW.istore_n q_210_9 (by decide) ?_
  have L210_10_5 : ∀ (n : Nat) (ML210_10_5 : pM) (v6 : Int32), Iv (gY c a b) ML210_10_5 → Fr [42] M ML210_10_5 → 0 ≤ v6.toInt → v6.toInt ≤ 6 → (gLq ML210_10_5 M ∧ gHq ML210_10_5 M) → (6 - v6.toInt).toNat = n → PW G false 4 210 (p_mc 210) (p_msl 210) Kr 10 [(0, .ref 294), (1, .int v6)] [] 311 ML210_10_5 0 0 := by
    intro n
    induction n using Nat.strongRecOn with
    | ind n ih_L210_10_5 =>
    intro ML210_10_5 v6 IML210_10_5 FML210_10_5 hbL210_10_50 hbL210_10_51 hbL210_10_52 hmL210_10_5
    refine PW.iload_n q_210_10 rfl ?_
    refine PW.aload_n q_210_11 rfl ?_
    refine PW.gR 296 q_210_12 (Or.inl t_ft_210_33) gF_40_6 kd_294 IML210_10_5.1 (by decide) rfl ?_
    refine PW.cI q_210_15 (by decide) fun c7 hc7 => ?_
    refine PW.aI q_210_16 gA_42 kd_296 IML210_10_5.1 (by decide) gB_42_0_0 (by decide) (by omega) (by omega) fun x8 fx8 hx8 kx8 => ?_
    refine PW.jc_ge q_210_17 rfl (fun h9 => ?_) (fun h9 => ?_)
    · skip
      refine PW.cI q_210_58 (by decide) fun c10 hc10 => ?_
      refine PW.istore_n q_210_59 (by decide) ?_
      refine PW.iload_n q_210_60 rfl ?_
      refine PW.aload_n q_210_61 rfl ?_
      refine PW.gR 296 q_210_62 (Or.inl t_ft_210_33) gF_40_6 kd_294 IML210_10_5.1 (by decide) rfl ?_
      refine PW.cI q_210_65 (by decide) fun c11 hc11 => ?_
      refine PW.aI q_210_66 gA_42 kd_296 IML210_10_5.1 (by decide) gB_42_1_1 (by decide) (by omega) (by omega) fun x12 fx12 hx12 kx12 => ?_
      refine PW.jc_ge q_210_67 rfl (fun h13 => ?_) (fun h13 => ?_)
      · skip
        refine PW.cI q_210_81 (by decide) fun c14 hc14 => ?_
        refine PW.istore_n q_210_82 (by decide) ?_
        have L210_83_15 : ∀ (n : Nat) (ML210_83_15 : pM) (v16 : Int32), Iv (gY c a b) ML210_83_15 → Fr [42] M ML210_83_15 → 0 ≤ v16.toInt → v16.toInt ≤ 6 → (gLq ML210_83_15 M ∧ gHq ML210_83_15 M) → (6 - v16.toInt).toNat = n → PW G false 4 210 (p_mc 210) (p_msl 210) Kr 83 [(0, .ref 294), (1, .int v16)] [] 311 ML210_83_15 0 0 := by
          intro n
          induction n using Nat.strongRecOn with
          | ind n ih_L210_83_15 =>
          intro ML210_83_15 v16 IML210_83_15 FML210_83_15 hbL210_83_150 hbL210_83_151 hbL210_83_152 hmL210_83_15
          refine PW.iload_n q_210_83 rfl ?_
          refine PW.aload_n q_210_84 rfl ?_
          refine PW.gR 296 q_210_85 (Or.inl t_ft_210_33) gF_40_6 kd_294 IML210_83_15.1 (by decide) rfl ?_
          refine PW.cI q_210_88 (by decide) fun c17 hc17 => ?_
          refine PW.aI q_210_89 gA_42 kd_296 IML210_83_15.1 (by decide) gB_42_0_0 (by decide) (by omega) (by omega) fun x18 fx18 hx18 kx18 => ?_
          refine PW.jc_ge q_210_90 rfl (fun h19 => ?_) (fun h19 => ?_)
          · skip
            refine PW.aload_n q_210_206 rfl ?_
            refine PW.gR 296 q_210_207 (Or.inl t_ft_210_33) gF_40_6 kd_294 IML210_83_15.1 (by decide) rfl ?_
            refine PW.cB q_210_210 (by decide) fun c20 hc20 => ?_
            refine PW.dup2 q_210_212 rfl rfl ?_
            refine PW.aI q_210_213 gA_42 kd_296 IML210_83_15.1 (by decide) gB_42_33_33 (by decide) (by omega) (by omega) fun x21 fx21 hx21 kx21 => ?_
            have eyx21 : x21.toInt = c := by have w := IML210_83_15.2.2.1.1; have e : c20.toInt.toNat = 33 := (by omega); rw [← e, fx21] at w; exact w
            refine PW.cI q_210_214 (by decide) fun c22 hc22 => ?_
            refine PW.addN q_210_215 (by have := n_lo x21; have := n_hi x21; omega) (by have := n_lo x21; have := n_hi x21; omega) fun x23 hx23 => ?_
            refine PW.wB q_210_216 gA_42 kd_296 IML210_83_15.1 (by decide) (by omega) (by omega) (by rw [show c20.toInt.toNat = 33 from by omega]; exact ⟨by show (0 : Int) ≤ _; omega, by show _ ≤ (600 : Int); omega⟩) fun M24 JM24 fM24 UM24 => ?_
            have IM24 : Iv (gY (c + 1) a b) M24 := ⟨JM24, gY.p33 IML210_83_15.2 UM24 (by omega) fM24 (by omega)⟩
            have FM24 := Fr.pu FML210_83_15 UM24.1 kd_296 (rfl : List.contains [42] 42 = true)
            refine PW.vret q_210_217 rfl (by decide) (by decide) ?_
            exact hK M24 ⟨IM24.1, IM24.2.end (by omega) (by omega)⟩ FM24 (by rw [IM24.2.2.1.1, hc]) ⟨((congrArg (fun e => o_i e 2) (UM24.1 294 (by decide))).trans hbL210_83_152.1), (hbL210_83_152.2.st UM24 (by omega))⟩
          · skip
            refine PW.aload_n q_210_93 rfl ?_
            refine PW.gR 296 q_210_94 (Or.inl t_ft_210_33) gF_40_6 kd_294 IML210_83_15.1 (by decide) rfl ?_
            refine PW.cB q_210_97 (by decide) fun c25 hc25 => ?_
            refine PW.iload_n q_210_99 rfl ?_
            refine PW.addN q_210_100 (by omega) (by omega) fun x26 hx26 => ?_
            refine PW.aH q_210_101 gA_42 kd_296 IML210_83_15.1 (by decide) (by omega) (by omega) fun x27 fx27 => ?_
            refine PW.aload_n q_210_102 rfl ?_
            refine PW.gR 296 q_210_103 (Or.inl t_ft_210_33) gF_40_6 kd_294 IML210_83_15.1 (by decide) rfl ?_
            refine PW.cB q_210_106 (by decide) fun c28 hc28 => ?_
            refine PW.aI q_210_108 gA_42 kd_296 IML210_83_15.1 (by decide) gB_42_33_33 (by decide) (by omega) (by omega) fun x29 fx29 hx29 kx29 => ?_
            have eyx29 : x29.toInt = c := by have w := IML210_83_15.2.2.1.1; have e : c28.toInt.toNat = 33 := (by omega); rw [← e, fx29] at w; exact w
            refine PW.cI q_210_109 (by decide) fun c30 hc30 => ?_
            refine PW.addN q_210_110 (by omega) (by omega) fun x31 hx31 => ?_
            have J200_33 : ∀ (MJ200_33 : pM), Iv (gY c a b) MJ200_33 → Fr [42] M MJ200_33 → (gLq MJ200_33 M ∧ gHq MJ200_33 M) → PW G false 4 210 (p_mc 210) (p_msl 210) Kr 200 [(0, .ref 294), (1, .int v16)] [] 311 MJ200_33 0 0 := by
              intro MJ200_33  IMJ200_33 FMJ200_33 hbJ200_330
              refine PW.incN q_210_200 rfl (by decide) (by decide) (by omega) (by omega) fun x34 hx34 => ?_
              refine PW.goto q_210_203 rfl ?_
              refine PW.lvS (lk1 rfl (lk1 rfl lk0)) (ih_L210_83_15 _ ?_ MJ200_33 x34 IMJ200_33 FMJ200_33 (by omega) (by omega) ⟨hbJ200_330.1, hbJ200_330.2⟩ rfl)
              omega
            refine PW.jc_ne q_210_111 rfl (fun h32 => ?_) (fun h32 => ?_)
            · skip
              refine PW.aload_n q_210_132 rfl ?_
              refine PW.gR 296 q_210_133 (Or.inl t_ft_210_33) gF_40_6 kd_294 IML210_83_15.1 (by decide) rfl ?_
              refine PW.cI q_210_136 (by decide) fun c35 hc35 => ?_
              refine PW.aH q_210_137 gA_42 kd_296 IML210_83_15.1 (by decide) (by omega) (by omega) fun x36 fx36 => ?_
              refine PW.jz_le q_210_138 rfl (fun h37 => ?_) (fun h37 => ?_)
              · skip
                exact PW.lvS (lk1 rfl (lk1 rfl lk0)) (J200_33 ML210_83_15  IML210_83_15 FML210_83_15 ⟨hbL210_83_152.1, hbL210_83_152.2⟩)
              · skip
                refine PW.aload_n q_210_141 rfl ?_
                refine PW.gR 296 q_210_142 (Or.inl t_ft_210_33) gF_40_6 kd_294 IML210_83_15.1 (by decide) rfl ?_
                refine PW.cB q_210_145 (by decide) fun c38 hc38 => ?_
                refine PW.aI q_210_147 gA_42 kd_296 IML210_83_15.1 (by decide) gB_42_33_33 (by decide) (by omega) (by omega) fun x39 fx39 hx39 kx39 => ?_
                have eyx39 : x39.toInt = c := by have w := IML210_83_15.2.2.1.1; have e : c38.toInt.toNat = 33 := (by omega); rw [← e, fx39] at w; exact w
                refine PW.cI q_210_148 (by decide) fun c40 hc40 => ?_
                refine PW.addN q_210_149 (by omega) (by omega) fun x41 hx41 => ?_
                refine PW.aload_n q_210_150 rfl ?_
                refine PW.gR 296 q_210_151 (Or.inl t_ft_210_33) gF_40_6 kd_294 IML210_83_15.1 (by decide) rfl ?_
                refine PW.cI q_210_154 (by decide) fun c42 hc42 => ?_
                refine PW.aH q_210_155 gA_42 kd_296 IML210_83_15.1 (by decide) (by omega) (by omega) fun x43 fx43 => ?_
                refine PW.jc_lt q_210_156 rfl (fun h44 => ?_) (fun h44 => ?_)
                · skip
                  exact PW.lvS (lk1 rfl (lk1 rfl lk0)) (J200_33 ML210_83_15  IML210_83_15 FML210_83_15 ⟨hbL210_83_152.1, hbL210_83_152.2⟩)
                · skip
                  refine PW.aload_n q_210_159 rfl ?_
                  refine PW.gR 296 q_210_160 (Or.inl t_ft_210_33) gF_40_6 kd_294 IML210_83_15.1 (by decide) rfl ?_
                  refine PW.cB q_210_163 (by decide) fun c45 hc45 => ?_
                  refine PW.iload_n q_210_165 rfl ?_
                  refine PW.addN q_210_166 (by omega) (by omega) fun x46 hx46 => ?_
                  refine PW.aH q_210_167 gA_42 kd_296 IML210_83_15.1 (by decide) (by omega) (by omega) fun x47 fx47 => ?_
                  refine PW.aload_n q_210_168 rfl ?_
                  refine PW.gR 296 q_210_169 (Or.inl t_ft_210_33) gF_40_6 kd_294 IML210_83_15.1 (by decide) rfl ?_
                  refine PW.cB q_210_172 (by decide) fun c48 hc48 => ?_
                  refine PW.aI q_210_174 gA_42 kd_296 IML210_83_15.1 (by decide) gB_42_33_33 (by decide) (by omega) (by omega) fun x49 fx49 hx49 kx49 => ?_
                  have eyx49 : x49.toInt = c := by have w := IML210_83_15.2.2.1.1; have e : c48.toInt.toNat = 33 := (by omega); rw [← e, fx49] at w; exact w
                  refine PW.cI q_210_175 (by decide) fun c50 hc50 => ?_
                  refine PW.addN q_210_176 (by omega) (by omega) fun x51 hx51 => ?_
                  refine PW.aload_n q_210_177 rfl ?_
                  refine PW.gR 296 q_210_178 (Or.inl t_ft_210_33) gF_40_6 kd_294 IML210_83_15.1 (by decide) rfl ?_
                  refine PW.cI q_210_181 (by decide) fun c52 hc52 => ?_
                  refine PW.aH q_210_182 gA_42 kd_296 IML210_83_15.1 (by decide) (by omega) (by omega) fun x53 fx53 => ?_
                  refine PW.subH q_210_183 fun x54 => ?_
                  refine PW.jc_gt q_210_184 rfl (fun h55 => ?_) (fun h55 => ?_)
                  · skip
                    exact PW.lvS (lk1 rfl (lk1 rfl lk0)) (J200_33 ML210_83_15  IML210_83_15 FML210_83_15 ⟨hbL210_83_152.1, hbL210_83_152.2⟩)
                  · skip
                    refine PW.aload_n q_210_187 rfl ?_
                    refine PW.gR 296 q_210_188 (Or.inl t_ft_210_33) gF_40_6 kd_294 IML210_83_15.1 (by decide) rfl ?_
                    refine PW.cB q_210_191 (by decide) fun c56 hc56 => ?_
                    refine PW.dup2 q_210_193 rfl rfl ?_
                    refine PW.aH q_210_194 gA_42 kd_296 IML210_83_15.1 (by decide) (by omega) (by omega) fun x57 fx57 => ?_
                    refine PW.cI q_210_195 (by decide) fun c58 hc58 => ?_
                    refine PW.iload_n q_210_196 rfl ?_
                    refine PW.shlH q_210_197 fun x59 => ?_
                    refine PW.orH q_210_198 fun x60 => ?_
                    refine PW.wS q_210_199 (StabY c a b) IML210_83_15 gC_42_54_54 gN_54_54 (by decide) (by omega) (by omega) (n_lo _) (n_hi _) fun M61 IM61 fM61 UM61 => ?_
                    have FM61 := Fr.pu FML210_83_15 UM61.1 kd_296 (rfl : List.contains [42] 42 = true)
                    exact PW.lvS (lk1 rfl (lk1 rfl lk0)) (J200_33 M61  IM61 FM61 ⟨((congrArg (fun e => o_i e 2) (UM61.1 294 (by decide))).trans hbL210_83_152.1), (hbL210_83_152.2.st UM61 (by omega))⟩)
            · skip
              refine PW.aload_n q_210_114 rfl ?_
              refine PW.gR 296 q_210_115 (Or.inl t_ft_210_33) gF_40_6 kd_294 IML210_83_15.1 (by decide) rfl ?_
              refine PW.cB q_210_118 (by decide) fun c62 hc62 => ?_
              refine PW.dup2 q_210_120 rfl rfl ?_
              refine PW.aH q_210_121 gA_42 kd_296 IML210_83_15.1 (by decide) (by omega) (by omega) fun x63 fx63 => ?_
              refine PW.cI q_210_122 (by decide) fun c64 hc64 => ?_
              refine PW.iload_n q_210_123 rfl ?_
              refine PW.shlH q_210_124 fun x65 => ?_
              refine PW.cI q_210_125 (by decide) fun c66 hc66 => ?_
              refine PW.xorH q_210_126 fun x67 => ?_
              refine PW.andH q_210_127 fun x68 => ?_
              refine PW.wS q_210_128 (StabY c a b) IML210_83_15 gC_42_54_54 gN_54_54 (by decide) (by omega) (by omega) (n_lo _) (n_hi _) fun M69 IM69 fM69 UM69 => ?_
              have FM69 := Fr.pu FML210_83_15 UM69.1 kd_296 (rfl : List.contains [42] 42 = true)
              refine PW.goto q_210_129 rfl ?_
              exact PW.lvS (lk1 rfl (lk1 rfl lk0)) (J200_33 M69  IM69 FM69 ⟨((congrArg (fun e => o_i e 2) (UM69.1 294 (by decide))).trans hbL210_83_152.1), (hbL210_83_152.2.st UM69 (by omega))⟩)
        exact PW.lvS (lk1 rfl (lk1 rfl lk0)) (L210_83_15 _ ML210_10_5 c14 IML210_10_5 FML210_10_5 (by omega) (by omega) ⟨hbL210_10_52.1, hbL210_10_52.2⟩ rfl)
      · skip
        refine PW.aload_n q_210_70 rfl ?_
        refine PW.iload_n q_210_71 rfl ?_
        refine PW.cV (as := [_]) (rest := []) q_210_72 t_mv_210_284 kd_294 IML210_10_5.1 (by decide) rfl (by decide) rfl rfl (Nat.le_of_ble_eq_true rfl) (Nat.le_of_ble_eq_true rfl) (by decide) (by decide) ?_
        refine PW.up (by decide) (c_X12_dogRuns_0 (c) (a) (b) G _ ML210_10_5 IML210_10_5 c10 (by omega) (by omega) (by omega) (by omega) fun M71 t70 hlt70 hht70 IM71 GM71 TM71 => ?_)
        have FM71 := Fr.trans FML210_10_5 GM71 (rfl)
        refine PW.incN q_210_75 rfl (by decide) (by decide) (by omega) (by omega) fun x72 hx72 => ?_
        refine PW.goto q_210_78 rfl ?_
        refine PW.iload_n q_210_60 rfl ?_
        refine PW.aload_n q_210_61 rfl ?_
        refine PW.gR 296 q_210_62 (Or.inl t_ft_210_33) gF_40_6 kd_294 IM71.1 (by decide) rfl ?_
        refine PW.cI q_210_65 (by decide) fun c73 hc73 => ?_
        refine PW.aI q_210_66 gA_42 kd_296 IM71.1 (by decide) gB_42_1_1 (by decide) (by omega) (by omega) fun x74 fx74 hx74 kx74 => ?_
        refine PW.jc_ge q_210_67 rfl (fun h75 => ?_) (fun h75 => ?_)
        · skip
          refine PW.cI q_210_81 (by decide) fun c76 hc76 => ?_
          refine PW.istore_n q_210_82 (by decide) ?_
          have L210_83_77 : ∀ (n : Nat) (ML210_83_77 : pM) (v78 : Int32), Iv (gY c t70 b) ML210_83_77 → Fr [42] M ML210_83_77 → 0 ≤ v78.toInt → v78.toInt ≤ 6 → (gLq ML210_83_77 M ∧ gHq ML210_83_77 M) → (6 - v78.toInt).toNat = n → PW G false 4 210 (p_mc 210) (p_msl 210) Kr 83 [(0, .ref 294), (1, .int v78)] [] 311 ML210_83_77 0 0 := by
            intro n
            induction n using Nat.strongRecOn with
            | ind n ih_L210_83_77 =>
            intro ML210_83_77 v78 IML210_83_77 FML210_83_77 hbL210_83_770 hbL210_83_771 hbL210_83_772 hmL210_83_77
            refine PW.iload_n q_210_83 rfl ?_
            refine PW.aload_n q_210_84 rfl ?_
            refine PW.gR 296 q_210_85 (Or.inl t_ft_210_33) gF_40_6 kd_294 IML210_83_77.1 (by decide) rfl ?_
            refine PW.cI q_210_88 (by decide) fun c79 hc79 => ?_
            refine PW.aI q_210_89 gA_42 kd_296 IML210_83_77.1 (by decide) gB_42_0_0 (by decide) (by omega) (by omega) fun x80 fx80 hx80 kx80 => ?_
            refine PW.jc_ge q_210_90 rfl (fun h81 => ?_) (fun h81 => ?_)
            · skip
              refine PW.aload_n q_210_206 rfl ?_
              refine PW.gR 296 q_210_207 (Or.inl t_ft_210_33) gF_40_6 kd_294 IML210_83_77.1 (by decide) rfl ?_
              refine PW.cB q_210_210 (by decide) fun c82 hc82 => ?_
              refine PW.dup2 q_210_212 rfl rfl ?_
              refine PW.aI q_210_213 gA_42 kd_296 IML210_83_77.1 (by decide) gB_42_33_33 (by decide) (by omega) (by omega) fun x83 fx83 hx83 kx83 => ?_
              have eyx83 : x83.toInt = c := by have w := IML210_83_77.2.2.1.1; have e : c82.toInt.toNat = 33 := (by omega); rw [← e, fx83] at w; exact w
              refine PW.cI q_210_214 (by decide) fun c84 hc84 => ?_
              refine PW.addN q_210_215 (by have := n_lo x83; have := n_hi x83; omega) (by have := n_lo x83; have := n_hi x83; omega) fun x85 hx85 => ?_
              refine PW.wB q_210_216 gA_42 kd_296 IML210_83_77.1 (by decide) (by omega) (by omega) (by rw [show c82.toInt.toNat = 33 from by omega]; exact ⟨by show (0 : Int) ≤ _; omega, by show _ ≤ (600 : Int); omega⟩) fun M86 JM86 fM86 UM86 => ?_
              have IM86 : Iv (gY (c + 1) t70 b) M86 := ⟨JM86, gY.p33 IML210_83_77.2 UM86 (by omega) fM86 (by omega)⟩
              have FM86 := Fr.pu FML210_83_77 UM86.1 kd_296 (rfl : List.contains [42] 42 = true)
              refine PW.vret q_210_217 rfl (by decide) (by decide) ?_
              exact hK M86 ⟨IM86.1, IM86.2.end (by omega) (by omega)⟩ FM86 (by rw [IM86.2.2.1.1, hc]) ⟨((congrArg (fun e => o_i e 2) (UM86.1 294 (by decide))).trans hbL210_83_772.1), (hbL210_83_772.2.st UM86 (by omega))⟩
            · skip
              refine PW.aload_n q_210_93 rfl ?_
              refine PW.gR 296 q_210_94 (Or.inl t_ft_210_33) gF_40_6 kd_294 IML210_83_77.1 (by decide) rfl ?_
              refine PW.cB q_210_97 (by decide) fun c87 hc87 => ?_
              refine PW.iload_n q_210_99 rfl ?_
              refine PW.addN q_210_100 (by omega) (by omega) fun x88 hx88 => ?_
              refine PW.aH q_210_101 gA_42 kd_296 IML210_83_77.1 (by decide) (by omega) (by omega) fun x89 fx89 => ?_
              refine PW.aload_n q_210_102 rfl ?_
              refine PW.gR 296 q_210_103 (Or.inl t_ft_210_33) gF_40_6 kd_294 IML210_83_77.1 (by decide) rfl ?_
              refine PW.cB q_210_106 (by decide) fun c90 hc90 => ?_
              refine PW.aI q_210_108 gA_42 kd_296 IML210_83_77.1 (by decide) gB_42_33_33 (by decide) (by omega) (by omega) fun x91 fx91 hx91 kx91 => ?_
              have eyx91 : x91.toInt = c := by have w := IML210_83_77.2.2.1.1; have e : c90.toInt.toNat = 33 := (by omega); rw [← e, fx91] at w; exact w
              refine PW.cI q_210_109 (by decide) fun c92 hc92 => ?_
              refine PW.addN q_210_110 (by omega) (by omega) fun x93 hx93 => ?_
              have J200_95 : ∀ (MJ200_95 : pM), Iv (gY c t70 b) MJ200_95 → Fr [42] M MJ200_95 → (gLq MJ200_95 M ∧ gHq MJ200_95 M) → PW G false 4 210 (p_mc 210) (p_msl 210) Kr 200 [(0, .ref 294), (1, .int v78)] [] 311 MJ200_95 0 0 := by
                intro MJ200_95  IMJ200_95 FMJ200_95 hbJ200_950
                refine PW.incN q_210_200 rfl (by decide) (by decide) (by omega) (by omega) fun x96 hx96 => ?_
                refine PW.goto q_210_203 rfl ?_
                refine PW.lvS (lk1 rfl (lk1 rfl lk0)) (ih_L210_83_77 _ ?_ MJ200_95 x96 IMJ200_95 FMJ200_95 (by omega) (by omega) ⟨hbJ200_950.1, hbJ200_950.2⟩ rfl)
                omega
              refine PW.jc_ne q_210_111 rfl (fun h94 => ?_) (fun h94 => ?_)
              · skip
                refine PW.aload_n q_210_132 rfl ?_
                refine PW.gR 296 q_210_133 (Or.inl t_ft_210_33) gF_40_6 kd_294 IML210_83_77.1 (by decide) rfl ?_
                refine PW.cI q_210_136 (by decide) fun c97 hc97 => ?_
                refine PW.aH q_210_137 gA_42 kd_296 IML210_83_77.1 (by decide) (by omega) (by omega) fun x98 fx98 => ?_
                refine PW.jz_le q_210_138 rfl (fun h99 => ?_) (fun h99 => ?_)
                · skip
                  exact PW.lvS (lk1 rfl (lk1 rfl lk0)) (J200_95 ML210_83_77  IML210_83_77 FML210_83_77 ⟨hbL210_83_772.1, hbL210_83_772.2⟩)
                · skip
                  refine PW.aload_n q_210_141 rfl ?_
                  refine PW.gR 296 q_210_142 (Or.inl t_ft_210_33) gF_40_6 kd_294 IML210_83_77.1 (by decide) rfl ?_
                  refine PW.cB q_210_145 (by decide) fun c100 hc100 => ?_
                  refine PW.aI q_210_147 gA_42 kd_296 IML210_83_77.1 (by decide) gB_42_33_33 (by decide) (by omega) (by omega) fun x101 fx101 hx101 kx101 => ?_
                  have eyx101 : x101.toInt = c := by have w := IML210_83_77.2.2.1.1; have e : c100.toInt.toNat = 33 := (by omega); rw [← e, fx101] at w; exact w
                  refine PW.cI q_210_148 (by decide) fun c102 hc102 => ?_
                  refine PW.addN q_210_149 (by omega) (by omega) fun x103 hx103 => ?_
                  refine PW.aload_n q_210_150 rfl ?_
                  refine PW.gR 296 q_210_151 (Or.inl t_ft_210_33) gF_40_6 kd_294 IML210_83_77.1 (by decide) rfl ?_
                  refine PW.cI q_210_154 (by decide) fun c104 hc104 => ?_
                  refine PW.aH q_210_155 gA_42 kd_296 IML210_83_77.1 (by decide) (by omega) (by omega) fun x105 fx105 => ?_
                  refine PW.jc_lt q_210_156 rfl (fun h106 => ?_) (fun h106 => ?_)
                  · skip
                    exact PW.lvS (lk1 rfl (lk1 rfl lk0)) (J200_95 ML210_83_77  IML210_83_77 FML210_83_77 ⟨hbL210_83_772.1, hbL210_83_772.2⟩)
                  · skip
                    refine PW.aload_n q_210_159 rfl ?_
                    refine PW.gR 296 q_210_160 (Or.inl t_ft_210_33) gF_40_6 kd_294 IML210_83_77.1 (by decide) rfl ?_
                    refine PW.cB q_210_163 (by decide) fun c107 hc107 => ?_
                    refine PW.iload_n q_210_165 rfl ?_
                    refine PW.addN q_210_166 (by omega) (by omega) fun x108 hx108 => ?_
                    refine PW.aH q_210_167 gA_42 kd_296 IML210_83_77.1 (by decide) (by omega) (by omega) fun x109 fx109 => ?_
                    refine PW.aload_n q_210_168 rfl ?_
                    refine PW.gR 296 q_210_169 (Or.inl t_ft_210_33) gF_40_6 kd_294 IML210_83_77.1 (by decide) rfl ?_
                    refine PW.cB q_210_172 (by decide) fun c110 hc110 => ?_
                    refine PW.aI q_210_174 gA_42 kd_296 IML210_83_77.1 (by decide) gB_42_33_33 (by decide) (by omega) (by omega) fun x111 fx111 hx111 kx111 => ?_
                    have eyx111 : x111.toInt = c := by have w := IML210_83_77.2.2.1.1; have e : c110.toInt.toNat = 33 := (by omega); rw [← e, fx111] at w; exact w
                    refine PW.cI q_210_175 (by decide) fun c112 hc112 => ?_
                    refine PW.addN q_210_176 (by omega) (by omega) fun x113 hx113 => ?_
                    refine PW.aload_n q_210_177 rfl ?_
                    refine PW.gR 296 q_210_178 (Or.inl t_ft_210_33) gF_40_6 kd_294 IML210_83_77.1 (by decide) rfl ?_
                    refine PW.cI q_210_181 (by decide) fun c114 hc114 => ?_
                    refine PW.aH q_210_182 gA_42 kd_296 IML210_83_77.1 (by decide) (by omega) (by omega) fun x115 fx115 => ?_
                    refine PW.subH q_210_183 fun x116 => ?_
                    refine PW.jc_gt q_210_184 rfl (fun h117 => ?_) (fun h117 => ?_)
                    · skip
                      exact PW.lvS (lk1 rfl (lk1 rfl lk0)) (J200_95 ML210_83_77  IML210_83_77 FML210_83_77 ⟨hbL210_83_772.1, hbL210_83_772.2⟩)
                    · skip
                      refine PW.aload_n q_210_187 rfl ?_
                      refine PW.gR 296 q_210_188 (Or.inl t_ft_210_33) gF_40_6 kd_294 IML210_83_77.1 (by decide) rfl ?_
                      refine PW.cB q_210_191 (by decide) fun c118 hc118 => ?_
                      refine PW.dup2 q_210_193 rfl rfl ?_
                      refine PW.aH q_210_194 gA_42 kd_296 IML210_83_77.1 (by decide) (by omega) (by omega) fun x119 fx119 => ?_
                      refine PW.cI q_210_195 (by decide) fun c120 hc120 => ?_
                      refine PW.iload_n q_210_196 rfl ?_
                      refine PW.shlH q_210_197 fun x121 => ?_
                      refine PW.orH q_210_198 fun x122 => ?_
                      refine PW.wS q_210_199 (StabY c t70 b) IML210_83_77 gC_42_54_54 gN_54_54 (by decide) (by omega) (by omega) (n_lo _) (n_hi _) fun M123 IM123 fM123 UM123 => ?_
                      have FM123 := Fr.pu FML210_83_77 UM123.1 kd_296 (rfl : List.contains [42] 42 = true)
                      exact PW.lvS (lk1 rfl (lk1 rfl lk0)) (J200_95 M123  IM123 FM123 ⟨((congrArg (fun e => o_i e 2) (UM123.1 294 (by decide))).trans hbL210_83_772.1), (hbL210_83_772.2.st UM123 (by omega))⟩)
              · skip
                refine PW.aload_n q_210_114 rfl ?_
                refine PW.gR 296 q_210_115 (Or.inl t_ft_210_33) gF_40_6 kd_294 IML210_83_77.1 (by decide) rfl ?_
                refine PW.cB q_210_118 (by decide) fun c124 hc124 => ?_
                refine PW.dup2 q_210_120 rfl rfl ?_
                refine PW.aH q_210_121 gA_42 kd_296 IML210_83_77.1 (by decide) (by omega) (by omega) fun x125 fx125 => ?_
                refine PW.cI q_210_122 (by decide) fun c126 hc126 => ?_
                refine PW.iload_n q_210_123 rfl ?_
                refine PW.shlH q_210_124 fun x127 => ?_
                refine PW.cI q_210_125 (by decide) fun c128 hc128 => ?_
                refine PW.xorH q_210_126 fun x129 => ?_
                refine PW.andH q_210_127 fun x130 => ?_
                refine PW.wS q_210_128 (StabY c t70 b) IML210_83_77 gC_42_54_54 gN_54_54 (by decide) (by omega) (by omega) (n_lo _) (n_hi _) fun M131 IM131 fM131 UM131 => ?_
                have FM131 := Fr.pu FML210_83_77 UM131.1 kd_296 (rfl : List.contains [42] 42 = true)
                refine PW.goto q_210_129 rfl ?_
                exact PW.lvS (lk1 rfl (lk1 rfl lk0)) (J200_95 M131  IM131 FM131 ⟨((congrArg (fun e => o_i e 2) (UM131.1 294 (by decide))).trans hbL210_83_772.1), (hbL210_83_772.2.st UM131 (by omega))⟩)
          exact PW.lvS (lk1 rfl (lk1 rfl lk0)) (L210_83_77 _ M71 c76 IM71 FM71 (by omega) (by omega) ⟨((congrArg (fun e => o_i e 2) (Fr.at GM71 kd_294 rfl)).trans hbL210_10_52.1), (hbL210_10_52.2.tr TM71.2)⟩ rfl)
        · skip
          refine PW.aload_n q_210_70 rfl ?_
          refine PW.iload_n q_210_71 rfl ?_
          refine PW.cV (as := [_]) (rest := []) q_210_72 t_mv_210_284 kd_294 IM71.1 (by decide) rfl (by decide) rfl rfl (Nat.le_of_ble_eq_true rfl) (Nat.le_of_ble_eq_true rfl) (by decide) (by decide) ?_
          refine PW.up (by decide) (c_X12_dogRuns_1 (c) (t70) (b) G _ M71 IM71 x72 (by omega) (by omega) (by omega) (by omega) fun M133 t132 hlt132 hht132 IM133 GM133 TM133 => ?_)
          have FM133 := Fr.trans FM71 GM133 (rfl)
          refine PW.incN q_210_75 rfl (by decide) (by decide) (by omega) (by omega) fun x134 hx134 => ?_
          refine PW.goto q_210_78 rfl ?_
          refine PW.iload_n q_210_60 rfl ?_
          refine PW.aload_n q_210_61 rfl ?_
          refine PW.gR 296 q_210_62 (Or.inl t_ft_210_33) gF_40_6 kd_294 IM133.1 (by decide) rfl ?_
          refine PW.cI q_210_65 (by decide) fun c135 hc135 => ?_
          refine PW.aI q_210_66 gA_42 kd_296 IM133.1 (by decide) gB_42_1_1 (by decide) (by omega) (by omega) fun x136 fx136 hx136 kx136 => ?_
          refine PW.jc_ge q_210_67 rfl (fun h137 => ?_) (fun h137 => False.elim (by omega))
          refine PW.cI q_210_81 (by decide) fun c138 hc138 => ?_
          refine PW.istore_n q_210_82 (by decide) ?_
          have L210_83_139 : ∀ (n : Nat) (ML210_83_139 : pM) (v140 : Int32), Iv (gY c t70 t132) ML210_83_139 → Fr [42] M ML210_83_139 → 0 ≤ v140.toInt → v140.toInt ≤ 6 → (gLq ML210_83_139 M ∧ gHq ML210_83_139 M) → (6 - v140.toInt).toNat = n → PW G false 4 210 (p_mc 210) (p_msl 210) Kr 83 [(0, .ref 294), (1, .int v140)] [] 311 ML210_83_139 0 0 := by
            intro n
            induction n using Nat.strongRecOn with
            | ind n ih_L210_83_139 =>
            intro ML210_83_139 v140 IML210_83_139 FML210_83_139 hbL210_83_1390 hbL210_83_1391 hbL210_83_1392 hmL210_83_139
            refine PW.iload_n q_210_83 rfl ?_
            refine PW.aload_n q_210_84 rfl ?_
            refine PW.gR 296 q_210_85 (Or.inl t_ft_210_33) gF_40_6 kd_294 IML210_83_139.1 (by decide) rfl ?_
            refine PW.cI q_210_88 (by decide) fun c141 hc141 => ?_
            refine PW.aI q_210_89 gA_42 kd_296 IML210_83_139.1 (by decide) gB_42_0_0 (by decide) (by omega) (by omega) fun x142 fx142 hx142 kx142 => ?_
            refine PW.jc_ge q_210_90 rfl (fun h143 => ?_) (fun h143 => ?_)
            · skip
              refine PW.aload_n q_210_206 rfl ?_
              refine PW.gR 296 q_210_207 (Or.inl t_ft_210_33) gF_40_6 kd_294 IML210_83_139.1 (by decide) rfl ?_
              refine PW.cB q_210_210 (by decide) fun c144 hc144 => ?_
              refine PW.dup2 q_210_212 rfl rfl ?_
              refine PW.aI q_210_213 gA_42 kd_296 IML210_83_139.1 (by decide) gB_42_33_33 (by decide) (by omega) (by omega) fun x145 fx145 hx145 kx145 => ?_
              have eyx145 : x145.toInt = c := by have w := IML210_83_139.2.2.1.1; have e : c144.toInt.toNat = 33 := (by omega); rw [← e, fx145] at w; exact w
              refine PW.cI q_210_214 (by decide) fun c146 hc146 => ?_
              refine PW.addN q_210_215 (by have := n_lo x145; have := n_hi x145; omega) (by have := n_lo x145; have := n_hi x145; omega) fun x147 hx147 => ?_
              refine PW.wB q_210_216 gA_42 kd_296 IML210_83_139.1 (by decide) (by omega) (by omega) (by rw [show c144.toInt.toNat = 33 from by omega]; exact ⟨by show (0 : Int) ≤ _; omega, by show _ ≤ (600 : Int); omega⟩) fun M148 JM148 fM148 UM148 => ?_
              have IM148 : Iv (gY (c + 1) t70 t132) M148 := ⟨JM148, gY.p33 IML210_83_139.2 UM148 (by omega) fM148 (by omega)⟩
              have FM148 := Fr.pu FML210_83_139 UM148.1 kd_296 (rfl : List.contains [42] 42 = true)
              refine PW.vret q_210_217 rfl (by decide) (by decide) ?_
              exact hK M148 ⟨IM148.1, IM148.2.end (by omega) (by omega)⟩ FM148 (by rw [IM148.2.2.1.1, hc]) ⟨((congrArg (fun e => o_i e 2) (UM148.1 294 (by decide))).trans hbL210_83_1392.1), (hbL210_83_1392.2.st UM148 (by omega))⟩
            · skip
              refine PW.aload_n q_210_93 rfl ?_
              refine PW.gR 296 q_210_94 (Or.inl t_ft_210_33) gF_40_6 kd_294 IML210_83_139.1 (by decide) rfl ?_
              refine PW.cB q_210_97 (by decide) fun c149 hc149 => ?_
              refine PW.iload_n q_210_99 rfl ?_
              refine PW.addN q_210_100 (by omega) (by omega) fun x150 hx150 => ?_
              refine PW.aH q_210_101 gA_42 kd_296 IML210_83_139.1 (by decide) (by omega) (by omega) fun x151 fx151 => ?_
              refine PW.aload_n q_210_102 rfl ?_
              refine PW.gR 296 q_210_103 (Or.inl t_ft_210_33) gF_40_6 kd_294 IML210_83_139.1 (by decide) rfl ?_
              refine PW.cB q_210_106 (by decide) fun c152 hc152 => ?_
              refine PW.aI q_210_108 gA_42 kd_296 IML210_83_139.1 (by decide) gB_42_33_33 (by decide) (by omega) (by omega) fun x153 fx153 hx153 kx153 => ?_
              have eyx153 : x153.toInt = c := by have w := IML210_83_139.2.2.1.1; have e : c152.toInt.toNat = 33 := (by omega); rw [← e, fx153] at w; exact w
              refine PW.cI q_210_109 (by decide) fun c154 hc154 => ?_
              refine PW.addN q_210_110 (by omega) (by omega) fun x155 hx155 => ?_
              have J200_157 : ∀ (MJ200_157 : pM), Iv (gY c t70 t132) MJ200_157 → Fr [42] M MJ200_157 → (gLq MJ200_157 M ∧ gHq MJ200_157 M) → PW G false 4 210 (p_mc 210) (p_msl 210) Kr 200 [(0, .ref 294), (1, .int v140)] [] 311 MJ200_157 0 0 := by
                intro MJ200_157  IMJ200_157 FMJ200_157 hbJ200_1570
                refine PW.incN q_210_200 rfl (by decide) (by decide) (by omega) (by omega) fun x158 hx158 => ?_
                refine PW.goto q_210_203 rfl ?_
                refine PW.lvS (lk1 rfl (lk1 rfl lk0)) (ih_L210_83_139 _ ?_ MJ200_157 x158 IMJ200_157 FMJ200_157 (by omega) (by omega) ⟨hbJ200_1570.1, hbJ200_1570.2⟩ rfl)
                omega
              refine PW.jc_ne q_210_111 rfl (fun h156 => ?_) (fun h156 => ?_)
              · skip
                refine PW.aload_n q_210_132 rfl ?_
                refine PW.gR 296 q_210_133 (Or.inl t_ft_210_33) gF_40_6 kd_294 IML210_83_139.1 (by decide) rfl ?_
                refine PW.cI q_210_136 (by decide) fun c159 hc159 => ?_
                refine PW.aH q_210_137 gA_42 kd_296 IML210_83_139.1 (by decide) (by omega) (by omega) fun x160 fx160 => ?_
                refine PW.jz_le q_210_138 rfl (fun h161 => ?_) (fun h161 => ?_)
                · skip
                  exact PW.lvS (lk1 rfl (lk1 rfl lk0)) (J200_157 ML210_83_139  IML210_83_139 FML210_83_139 ⟨hbL210_83_1392.1, hbL210_83_1392.2⟩)
                · skip
                  refine PW.aload_n q_210_141 rfl ?_
                  refine PW.gR 296 q_210_142 (Or.inl t_ft_210_33) gF_40_6 kd_294 IML210_83_139.1 (by decide) rfl ?_
                  refine PW.cB q_210_145 (by decide) fun c162 hc162 => ?_
                  refine PW.aI q_210_147 gA_42 kd_296 IML210_83_139.1 (by decide) gB_42_33_33 (by decide) (by omega) (by omega) fun x163 fx163 hx163 kx163 => ?_
                  have eyx163 : x163.toInt = c := by have w := IML210_83_139.2.2.1.1; have e : c162.toInt.toNat = 33 := (by omega); rw [← e, fx163] at w; exact w
                  refine PW.cI q_210_148 (by decide) fun c164 hc164 => ?_
                  refine PW.addN q_210_149 (by omega) (by omega) fun x165 hx165 => ?_
                  refine PW.aload_n q_210_150 rfl ?_
                  refine PW.gR 296 q_210_151 (Or.inl t_ft_210_33) gF_40_6 kd_294 IML210_83_139.1 (by decide) rfl ?_
                  refine PW.cI q_210_154 (by decide) fun c166 hc166 => ?_
                  refine PW.aH q_210_155 gA_42 kd_296 IML210_83_139.1 (by decide) (by omega) (by omega) fun x167 fx167 => ?_
                  refine PW.jc_lt q_210_156 rfl (fun h168 => ?_) (fun h168 => ?_)
                  · skip
                    exact PW.lvS (lk1 rfl (lk1 rfl lk0)) (J200_157 ML210_83_139  IML210_83_139 FML210_83_139 ⟨hbL210_83_1392.1, hbL210_83_1392.2⟩)
                  · skip
                    refine PW.aload_n q_210_159 rfl ?_
                    refine PW.gR 296 q_210_160 (Or.inl t_ft_210_33) gF_40_6 kd_294 IML210_83_139.1 (by decide) rfl ?_
                    refine PW.cB q_210_163 (by decide) fun c169 hc169 => ?_
                    refine PW.iload_n q_210_165 rfl ?_
                    refine PW.addN q_210_166 (by omega) (by omega) fun x170 hx170 => ?_
                    refine PW.aH q_210_167 gA_42 kd_296 IML210_83_139.1 (by decide) (by omega) (by omega) fun x171 fx171 => ?_
                    refine PW.aload_n q_210_168 rfl ?_
                    refine PW.gR 296 q_210_169 (Or.inl t_ft_210_33) gF_40_6 kd_294 IML210_83_139.1 (by decide) rfl ?_
                    refine PW.cB q_210_172 (by decide) fun c172 hc172 => ?_
                    refine PW.aI q_210_174 gA_42 kd_296 IML210_83_139.1 (by decide) gB_42_33_33 (by decide) (by omega) (by omega) fun x173 fx173 hx173 kx173 => ?_
                    have eyx173 : x173.toInt = c := by have w := IML210_83_139.2.2.1.1; have e : c172.toInt.toNat = 33 := (by omega); rw [← e, fx173] at w; exact w
                    refine PW.cI q_210_175 (by decide) fun c174 hc174 => ?_
                    refine PW.addN q_210_176 (by omega) (by omega) fun x175 hx175 => ?_
                    refine PW.aload_n q_210_177 rfl ?_
                    refine PW.gR 296 q_210_178 (Or.inl t_ft_210_33) gF_40_6 kd_294 IML210_83_139.1 (by decide) rfl ?_
                    refine PW.cI q_210_181 (by decide) fun c176 hc176 => ?_
                    refine PW.aH q_210_182 gA_42 kd_296 IML210_83_139.1 (by decide) (by omega) (by omega) fun x177 fx177 => ?_
                    refine PW.subH q_210_183 fun x178 => ?_
                    refine PW.jc_gt q_210_184 rfl (fun h179 => ?_) (fun h179 => ?_)
                    · skip
                      exact PW.lvS (lk1 rfl (lk1 rfl lk0)) (J200_157 ML210_83_139  IML210_83_139 FML210_83_139 ⟨hbL210_83_1392.1, hbL210_83_1392.2⟩)
                    · skip
                      refine PW.aload_n q_210_187 rfl ?_
                      refine PW.gR 296 q_210_188 (Or.inl t_ft_210_33) gF_40_6 kd_294 IML210_83_139.1 (by decide) rfl ?_
                      refine PW.cB q_210_191 (by decide) fun c180 hc180 => ?_
                      refine PW.dup2 q_210_193 rfl rfl ?_
                      refine PW.aH q_210_194 gA_42 kd_296 IML210_83_139.1 (by decide) (by omega) (by omega) fun x181 fx181 => ?_
                      refine PW.cI q_210_195 (by decide) fun c182 hc182 => ?_
                      refine PW.iload_n q_210_196 rfl ?_
                      refine PW.shlH q_210_197 fun x183 => ?_
                      refine PW.orH q_210_198 fun x184 => ?_
                      refine PW.wS q_210_199 (StabY c t70 t132) IML210_83_139 gC_42_54_54 gN_54_54 (by decide) (by omega) (by omega) (n_lo _) (n_hi _) fun M185 IM185 fM185 UM185 => ?_
                      have FM185 := Fr.pu FML210_83_139 UM185.1 kd_296 (rfl : List.contains [42] 42 = true)
                      exact PW.lvS (lk1 rfl (lk1 rfl lk0)) (J200_157 M185  IM185 FM185 ⟨((congrArg (fun e => o_i e 2) (UM185.1 294 (by decide))).trans hbL210_83_1392.1), (hbL210_83_1392.2.st UM185 (by omega))⟩)
              · skip
                refine PW.aload_n q_210_114 rfl ?_
                refine PW.gR 296 q_210_115 (Or.inl t_ft_210_33) gF_40_6 kd_294 IML210_83_139.1 (by decide) rfl ?_
                refine PW.cB q_210_118 (by decide) fun c186 hc186 => ?_
                refine PW.dup2 q_210_120 rfl rfl ?_
                refine PW.aH q_210_121 gA_42 kd_296 IML210_83_139.1 (by decide) (by omega) (by omega) fun x187 fx187 => ?_
                refine PW.cI q_210_122 (by decide) fun c188 hc188 => ?_
                refine PW.iload_n q_210_123 rfl ?_
                refine PW.shlH q_210_124 fun x189 => ?_
                refine PW.cI q_210_125 (by decide) fun c190 hc190 => ?_
                refine PW.xorH q_210_126 fun x191 => ?_
                refine PW.andH q_210_127 fun x192 => ?_
                refine PW.wS q_210_128 (StabY c t70 t132) IML210_83_139 gC_42_54_54 gN_54_54 (by decide) (by omega) (by omega) (n_lo _) (n_hi _) fun M193 IM193 fM193 UM193 => ?_
                have FM193 := Fr.pu FML210_83_139 UM193.1 kd_296 (rfl : List.contains [42] 42 = true)
                refine PW.goto q_210_129 rfl ?_
                exact PW.lvS (lk1 rfl (lk1 rfl lk0)) (J200_157 M193  IM193 FM193 ⟨((congrArg (fun e => o_i e 2) (UM193.1 294 (by decide))).trans hbL210_83_1392.1), (hbL210_83_1392.2.st UM193 (by omega))⟩)
          exact PW.lvS (lk1 rfl (lk1 rfl lk0)) (L210_83_139 _ M133 c138 IM133 FM133 (by omega) (by omega) ⟨((congrArg (fun e => o_i e 2) (Fr.at GM133 kd_294 rfl)).trans ((congrArg (fun e => o_i e 2) (Fr.at GM71 kd_294 rfl)).trans hbL210_10_52.1)), ((hbL210_10_52.2.tr TM71.2).tr TM133.2)⟩ rfl)
    · skip
      refine PW.aload_n q_210_20 rfl ?_
      refine PW.gR 296 q_210_21 (Or.inl t_ft_210_33) gF_40_6 kd_294 IML210_10_5.1 (by decide) rfl ?_
      refine PW.cB q_210_24 (by decide) fun c194 hc194 => ?_
      refine PW.iload_n q_210_26 rfl ?_
      refine PW.addN q_210_27 (by omega) (by omega) fun x195 hx195 => ?_
      refine PW.aH q_210_28 gA_42 kd_296 IML210_10_5.1 (by decide) (by omega) (by omega) fun x196 fx196 => ?_
      refine PW.cI q_210_29 (by decide) fun c197 hc197 => ?_
      have J52_199 : ∀ (MJ52_199 : pM), Iv (gY c a b) MJ52_199 → Fr [42] M MJ52_199 → (gLq MJ52_199 M ∧ gHq MJ52_199 M) → PW G false 4 210 (p_mc 210) (p_msl 210) Kr 52 [(0, .ref 294), (1, .int v6)] [] 311 MJ52_199 0 0 := by
        intro MJ52_199  IMJ52_199 FMJ52_199 hbJ52_1990
        refine PW.incN q_210_52 rfl (by decide) (by decide) (by omega) (by omega) fun x200 hx200 => ?_
        refine PW.goto q_210_55 rfl ?_
        refine PW.lvS (lk1 rfl (lk1 rfl lk0)) (ih_L210_10_5 _ ?_ MJ52_199 x200 IMJ52_199 FMJ52_199 (by omega) (by omega) ⟨hbJ52_1990.1, hbJ52_1990.2⟩ rfl)
        omega
      refine PW.jc_ne q_210_30 rfl (fun h198 => ?_) (fun h198 => ?_)
      · skip
        exact PW.lvS (lk1 rfl (lk1 rfl lk0)) (J52_199 ML210_10_5  IML210_10_5 FML210_10_5 ⟨hbL210_10_52.1, hbL210_10_52.2⟩)
      · skip
        refine PW.aload_n q_210_33 rfl ?_
        refine PW.gR 296 q_210_34 (Or.inl t_ft_210_33) gF_40_6 kd_294 IML210_10_5.1 (by decide) rfl ?_
        refine PW.cB q_210_37 (by decide) fun c201 hc201 => ?_
        refine PW.aH q_210_39 gA_42 kd_296 IML210_10_5.1 (by decide) (by omega) (by omega) fun x202 fx202 => ?_
        refine PW.iload_n q_210_40 rfl ?_
        refine PW.callS (as := [_, _]) (rest := []) q_210_41 t_ms_210_198 (by decide) rfl (Nat.le_of_ble_eq_true rfl) (Nat.le_of_ble_eq_true rfl) (by decide) (by decide) ?_
        refine PW.iload_n q_167_0 rfl ?_
        refine PW.iload_n q_167_1 rfl ?_
        refine PW.shrH q_167_2 fun x203 => ?_
        refine PW.cI q_167_3 (by decide) fun c204 hc204 => ?_
        refine PW.andP q_167_4 (by omega) fun x205 hx205 kx205 => ?_
        refine PW.cI q_167_5 (by decide) fun c206 hc206 => ?_
        refine PW.jc_ne q_167_6 rfl (fun h207 => ?_) (fun h207 => ?_)
        · skip
          refine PW.cI q_167_13 (by decide) fun c208 hc208 => ?_
          refine PW.rZ q_167_14 rfl (by omega) (by omega) (by decide) (by decide) ?_
          refine PW.jz_ne q_210_44 rfl (fun h209 => False.elim (by omega)) (fun h209 => ?_)
          refine PW.aload_n q_210_47 rfl ?_
          refine PW.iload_n q_210_48 rfl ?_
          refine PW.cV (as := [_]) (rest := []) q_210_49 t_mv_210_281 kd_294 IML210_10_5.1 (by decide) rfl (by decide) rfl rfl (Nat.le_of_ble_eq_true rfl) (Nat.le_of_ble_eq_true rfl) (by decide) (by decide) ?_
          refine PW.up (by decide) (c_X12_walksOn (gY c a b) ((StabY c a b)) G _ ML210_10_5 IML210_10_5 v6 (by omega) (by omega) fun M210 IM210 GM210 TM210 => ?_)
          have FM210 := Fr.trans FML210_10_5 GM210 (rfl)
          exact PW.lvS (lk1 rfl (lk1 rfl lk0)) (J52_199 M210  IM210 FM210 ⟨((congrArg (fun e => o_i e 2) (Fr.at GM210 kd_294 rfl)).trans hbL210_10_52.1), (hbL210_10_52.2.tr TM210.2)⟩)
        · skip
          refine PW.cI q_167_9 (by decide) fun c211 hc211 => ?_
          refine PW.goto q_167_10 rfl ?_
          refine PW.rZ q_167_14 rfl (by omega) (by omega) (by decide) (by decide) ?_
          refine PW.jz_ne q_210_44 rfl (fun h212 => ?_) (fun h212 => False.elim (by omega))
          exact PW.lvS (lk1 rfl (lk1 rfl lk0)) (J52_199 ML210_10_5  IML210_10_5 FML210_10_5 ⟨hbL210_10_52.1, hbL210_10_52.2⟩)
  exact PW.lvS (lk1 rfl (lk1 rfl lk0)) (L210_10_5 _ M3 c4 IM3 FM3 (by omega) (by omega) ⟨(congrArg (fun e => o_i e 2) (UM3.1 294 (by decide))), (gHq.refl.st UM3 (by omega))⟩ rfl)
theorem c_X12_goesOn (G : pG) (Kr : pK) (M : pM) (I : Iv gTT M) (a1 : Int32) (hK : ∀ (x : Int32) (M1 : pM), Iv gTT M1 → Fr [42] M M1 → 0 ≤ x.toInt → ((gLq M1 M) ∧ gHq M1 M) → Kr.1 (some (.int x)) 311 M1) : PW G false 5 211 (p_mc 211) (p_msl 211) Kr 0 (lv_args 0 [.ref 294, .int a1]) [] 311 M 0 0 := by
  have F : Fr [42] M M := Fr.refl
  have hn1 := n_hi a1
  refine PW.cI q_211_0 (by decide) fun c1 hc1 => ?_
  refine PW.istore_n q_211_1 (by decide) ?_
  have L211_2_2 : ∀ (n : Nat) (ML211_2_2 : pM) (v3 : Int32), Iv (gTT) ML211_2_2 → Fr [42] M ML211_2_2 → 0 ≤ v3.toInt → (gLq ML211_2_2 M ∧ gHq ML211_2_2 M) → (2147483647 - v3.toInt).toNat = n → PW G false 5 211 (p_mc 211) (p_msl 211) Kr 2 [(0, .ref 294), (1, .int a1), (2, .int v3)] [] 311 ML211_2_2 0 0 := by
    intro n
    induction n using Nat.strongRecOn with
    | ind n ih_L211_2_2 =>
    intro ML211_2_2 v3 IML211_2_2 FML211_2_2 hbL211_2_20 hbL211_2_21 hmL211_2_2
    refine PW.iload_n q_211_2 rfl ?_
    refine PW.iload_n q_211_3 rfl ?_
    refine PW.jc_ge q_211_4 rfl (fun h4 => ?_) (fun h4 => ?_)
    · skip
      refine PW.iload_n q_211_30 rfl ?_
      refine PW.rI q_211_31 rfl (by decide) (by decide) ?_
      exact hK v3 ML211_2_2 IML211_2_2 FML211_2_2 (by omega) ⟨hbL211_2_21.1, hbL211_2_21.2⟩
    · skip
      refine PW.aload_n q_211_7 rfl ?_
      refine PW.gR 296 q_211_8 (Or.inl t_ft_211_33) gF_40_6 kd_294 IML211_2_2.1 (by decide) rfl ?_
      refine PW.cB q_211_11 (by decide) fun c5 hc5 => ?_
      refine PW.aI q_211_13 gA_42 kd_296 IML211_2_2.1 (by decide) gB_42_33_33 (by decide) (by omega) (by omega) fun x6 fx6 hx6 kx6 => ?_
      have ty7 : (o_a (ML211_2_2 296) 33).toInt = x6.toInt := by have e : c5.toInt.toNat = 33 := (by omega); rw [e] at fx6; rw [fx6]
      refine PW.cS q_211_14 (by decide) fun c8 hc8 => ?_
      refine PW.jc_ge q_211_17 rfl (fun h9 => ?_) (fun h9 => ?_)
      · skip
        refine PW.iload_n q_211_30 rfl ?_
        refine PW.rI q_211_31 rfl (by decide) (by decide) ?_
        exact hK v3 ML211_2_2 IML211_2_2 FML211_2_2 (by omega) ⟨hbL211_2_21.1, hbL211_2_21.2⟩
      · skip
        refine PW.aload_n q_211_20 rfl ?_
        refine PW.cV (as := []) (rest := []) q_211_21 t_mv_211_287 kd_294 IML211_2_2.1 (by decide) rfl (by decide) rfl rfl (Nat.le_of_ble_eq_true rfl) (Nat.le_of_ble_eq_true rfl) (by decide) (by decide) ?_
        refine PW.up (by decide) (c_X12_second G _ ML211_2_2 IML211_2_2 (by omega) fun M10 IM10 GM10 PM10 TM10 => ?_)
        have FM10 := Fr.trans FML211_2_2 GM10 (rfl)
        refine PW.incN q_211_24 rfl (by decide) (by decide) (by have := n_lo v3; have := n_hi v3; omega) (by have := n_lo v3; have := n_hi v3; omega) fun x11 hx11 => ?_
        refine PW.goto q_211_27 rfl ?_
        refine PW.lvS (lk1 rfl (lk1 rfl (lk1 rfl lk0))) (ih_L211_2_2 _ ?_ M10 x11 IM10 FM10 (by omega) ⟨((congrArg (fun e => o_i e 2) (Fr.at GM10 kd_294 rfl)).trans hbL211_2_21.1), (hbL211_2_21.2.tr TM10.2)⟩ rfl)
        omega
  exact PW.lvS (lk1 rfl (lk1 rfl (lk1 rfl lk0))) (L211_2_2 _ M c1 I F (by omega) ⟨rfl, gHq.refl⟩ rfl)
