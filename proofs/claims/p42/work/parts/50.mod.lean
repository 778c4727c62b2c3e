theorem q_161_0 : p_tb 161 0 = some (.aload_n 0, 1) := by decide +kernel
theorem q_161_1 : p_tb 161 1 = some (.iload_n 1, 1) := by decide +kernel
theorem q_161_2 : p_tb 161 2 = some (.ifCond .eq 7, 3) := by decide +kernel
theorem q_161_5 : p_tb 161 5 = some (.iconst 1, 1) := by decide +kernel
theorem q_161_6 : p_tb 161 6 = some (.goto 4, 3) := by decide +kernel
theorem q_161_9 : p_tb 161 9 = some (.iconst 0, 1) := by decide +kernel
theorem q_161_10 : p_tb 161 10 = some (.putfield 1, 3) := by decide +kernel
theorem q_161_13 : p_tb 161 13 = some (.iload_n 1, 1) := by decide +kernel
theorem q_161_14 : p_tb 161 14 = some (.ireturn, 1) := by decide +kernel
theorem t_ft_161_1 : p_f2 p_ft (p_mK 161) 1 = some (11, 0) := by decide +kernel
theorem q_162_0 : p_tb 162 0 = some (.aload_n 0, 1) := by decide +kernel
theorem q_162_1 : p_tb 162 1 = some (.iconst 0, 1) := by decide +kernel
theorem q_162_2 : p_tb 162 2 = some (.putfield 1, 3) := by decide +kernel
theorem q_162_5 : p_tb 162 5 = some (.aload_n 0, 1) := by decide +kernel
theorem q_162_6 : p_tb 162 6 = some (.getfield 7, 3) := by decide +kernel
theorem q_162_9 : p_tb 162 9 = some (.bipush 20, 2) := by decide +kernel
theorem q_162_11 : p_tb 162 11 = some (.iadd, 1) := by decide +kernel
theorem q_162_12 : p_tb 162 12 = some (.sipush 940, 3) := by decide +kernel
theorem q_162_15 : p_tb 162 15 = some (.if_icmp .le 5, 3) := by decide +kernel
theorem q_162_18 : p_tb 162 18 = some (.iconst (-1), 1) := by decide +kernel
theorem q_162_19 : p_tb 162 19 = some (.ireturn, 1) := by decide +kernel
theorem q_162_20 : p_tb 162 20 = some (.aload_n 0, 1) := by decide +kernel
theorem q_162_21 : p_tb 162 21 = some (.iload_n 1, 1) := by decide +kernel
theorem q_162_22 : p_tb 162 22 = some (.invokevirtual 10, 3) := by decide +kernel
theorem q_162_25 : p_tb 162 25 = some (.aload_n 0, 1) := by decide +kernel
theorem q_162_26 : p_tb 162 26 = some (.iload_n 2, 1) := by decide +kernel
theorem q_162_27 : p_tb 162 27 = some (.invokevirtual 10, 3) := by decide +kernel
theorem q_162_30 : p_tb 162 30 = some (.aload_n 0, 1) := by decide +kernel
theorem q_162_31 : p_tb 162 31 = some (.iload_n 3, 1) := by decide +kernel
theorem q_162_32 : p_tb 162 32 = some (.invokevirtual 10, 3) := by decide +kernel
theorem q_162_35 : p_tb 162 35 = some (.aload_n 0, 1) := by decide +kernel
theorem q_162_36 : p_tb 162 36 = some (.iload 4, 2) := by decide +kernel
theorem q_162_38 : p_tb 162 38 = some (.invokevirtual 10, 3) := by decide +kernel
theorem q_162_41 : p_tb 162 41 = some (.aload_n 0, 1) := by decide +kernel
theorem q_162_42 : p_tb 162 42 = some (.iload 5, 2) := by decide +kernel
theorem q_162_44 : p_tb 162 44 = some (.invokevirtual 10, 3) := by decide +kernel
theorem q_162_47 : p_tb 162 47 = some (.aload_n 0, 1) := by decide +kernel
theorem q_162_48 : p_tb 162 48 = some (.getfield 7, 3) := by decide +kernel
theorem q_162_51 : p_tb 162 51 = some (.ireturn, 1) := by decide +kernel
theorem q_163_0 : p_tb 163 0 = some (.bipush 24, 2) := by decide +kernel
theorem q_163_2 : p_tb 163 2 = some (.istore_n 2, 1) := by decide +kernel
theorem q_163_3 : p_tb 163 3 = some (.iload_n 2, 1) := by decide +kernel
theorem q_163_4 : p_tb 163 4 = some (.ifCond .lt 32, 3) := by decide +kernel
theorem q_163_7 : p_tb 163 7 = some (.aload_n 0, 1) := by decide +kernel
theorem q_163_8 : p_tb 163 8 = some (.getfield 14, 3) := by decide +kernel
theorem q_163_11 : p_tb 163 11 = some (.aload_n 0, 1) := by decide +kernel
theorem q_163_12 : p_tb 163 12 = some (.getfield 7, 3) := by decide +kernel
theorem q_163_15 : p_tb 163 15 = some (.iload_n 1, 1) := by decide +kernel
theorem q_163_16 : p_tb 163 16 = some (.iload_n 2, 1) := by decide +kernel
theorem q_163_17 : p_tb 163 17 = some (.ishr, 1) := by decide +kernel
theorem q_163_18 : p_tb 163 18 = some (.i2b, 1) := by decide +kernel
theorem q_163_19 : p_tb 163 19 = some (.bastore, 1) := by decide +kernel
theorem q_163_20 : p_tb 163 20 = some (.aload_n 0, 1) := by decide +kernel
theorem q_163_21 : p_tb 163 21 = some (.dup, 1) := by decide +kernel
theorem q_163_22 : p_tb 163 22 = some (.getfield 7, 3) := by decide +kernel
theorem q_163_25 : p_tb 163 25 = some (.iconst 1, 1) := by decide +kernel
theorem q_163_26 : p_tb 163 26 = some (.iadd, 1) := by decide +kernel
theorem q_163_27 : p_tb 163 27 = some (.putfield 7, 3) := by decide +kernel
theorem q_163_30 : p_tb 163 30 = some (.iinc 2 (-8), 3) := by decide +kernel
theorem q_163_33 : p_tb 163 33 = some (.goto (-30), 3) := by decide +kernel
theorem q_163_36 : p_tb 163 36 = some (.return_, 1) := by decide +kernel
theorem t_ft_162_1 : p_f2 p_ft (p_mK 162) 1 = some (11, 0) := by decide +kernel
theorem t_ft_162_7 : p_f2 p_ft (p_mK 162) 7 = some (11, 2) := by decide +kernel
theorem t_ft_163_14 : p_f2 p_ft (p_mK 163) 14 = some (11, 1) := by decide +kernel
theorem t_ft_163_7 : p_f2 p_ft (p_mK 163) 7 = some (11, 2) := by decide +kernel
theorem t_mv_162_10 : p_f2 p_mv (p_mK 162) 10 = some 163 := by decide +kernel
theorem gC_41_0_939 : gC 41 0 939 (-128) 127 := gC.of (by decide +kernel)
theorem q_164_0 : p_tb 164 0 = some (.aload_n 0, 1) := by decide +kernel
theorem q_164_1 : p_tb 164 1 = some (.iconst 0, 1) := by decide +kernel
theorem q_164_2 : p_tb 164 2 = some (.putfield 1, 3) := by decide +kernel
theorem q_164_5 : p_tb 164 5 = some (.iload_n 1, 1) := by decide +kernel
theorem q_164_6 : p_tb 164 6 = some (.ifCond .lt 11, 3) := by decide +kernel
theorem q_164_9 : p_tb 164 9 = some (.iload_n 1, 1) := by decide +kernel
theorem q_164_10 : p_tb 164 10 = some (.aload_n 0, 1) := by decide +kernel
theorem q_164_11 : p_tb 164 11 = some (.getfield 7, 3) := by decide +kernel
theorem q_164_14 : p_tb 164 14 = some (.if_icmp .le 5, 3) := by decide +kernel
theorem q_164_17 : p_tb 164 17 = some (.iconst 0, 1) := by decide +kernel
theorem q_164_18 : p_tb 164 18 = some (.ireturn, 1) := by decide +kernel
theorem q_164_19 : p_tb 164 19 = some (.aload_n 0, 1) := by decide +kernel
theorem q_164_20 : p_tb 164 20 = some (.iload_n 1, 1) := by decide +kernel
theorem q_164_21 : p_tb 164 21 = some (.putfield 7, 3) := by decide +kernel
theorem q_164_24 : p_tb 164 24 = some (.iconst 1, 1) := by decide +kernel
theorem q_164_25 : p_tb 164 25 = some (.ireturn, 1) := by decide +kernel
theorem t_ft_164_1 : p_f2 p_ft (p_mK 164) 1 = some (11, 0) := by decide +kernel
theorem t_ft_164_7 : p_f2 p_ft (p_mK 164) 7 = some (11, 2) := by decide +kernel
theorem q_165_0 : p_tb 165 0 = some (.aload_n 0, 1) := by decide +kernel
theorem q_165_1 : p_tb 165 1 = some (.aload_n 0, 1) := by decide +kernel
theorem q_165_2 : p_tb 165 2 = some (.getfield 7, 3) := by decide +kernel
theorem q_165_5 : p_tb 165 5 = some (.putfield 18, 3) := by decide +kernel
theorem q_165_8 : p_tb 165 8 = some (.aload_n 0, 1) := by decide +kernel
theorem q_165_9 : p_tb 165 9 = some (.iconst 0, 1) := by decide +kernel
theorem q_165_10 : p_tb 165 10 = some (.putfield 7, 3) := by decide +kernel
theorem q_165_13 : p_tb 165 13 = some (.aload_n 0, 1) := by decide +kernel
theorem q_165_14 : p_tb 165 14 = some (.iconst 0, 1) := by decide +kernel
theorem q_165_15 : p_tb 165 15 = some (.putfield 21, 3) := by decide +kernel
theorem q_165_18 : p_tb 165 18 = some (.aload_n 0, 1) := by decide +kernel
theorem q_165_19 : p_tb 165 19 = some (.iload_n 1, 1) := by decide +kernel
theorem q_165_20 : p_tb 165 20 = some (.putfield 24, 3) := by decide +kernel
theorem q_165_23 : p_tb 165 23 = some (.return_, 1) := by decide +kernel
theorem t_ft_165_18 : p_f2 p_ft (p_mK 165) 18 = some (11, 3) := by decide +kernel
theorem t_ft_165_21 : p_f2 p_ft (p_mK 165) 21 = some (11, 4) := by decide +kernel
theorem t_ft_165_24 : p_f2 p_ft (p_mK 165) 24 = some (11, 5) := by decide +kernel
theorem t_ft_165_7 : p_f2 p_ft (p_mK 165) 7 = some (11, 2) := by decide +kernel
theorem q_172_0 : p_tb 172 0 = some (.aload_n 0, 1) := by decide +kernel
theorem q_172_1 : p_tb 172 1 = some (.getfield 14, 3) := by decide +kernel
theorem q_172_4 : p_tb 172 4 = some (.iload_n 1, 1) := by decide +kernel
theorem q_172_5 : p_tb 172 5 = some (.baload, 1) := by decide +kernel
theorem q_172_6 : p_tb 172 6 = some (.sipush 255, 3) := by decide +kernel
theorem q_172_9 : p_tb 172 9 = some (.iand, 1) := by decide +kernel
theorem q_172_10 : p_tb 172 10 = some (.ireturn, 1) := by decide +kernel
theorem t_ft_172_14 : p_f2 p_ft (p_mK 172) 14 = some (11, 1) := by decide +kernel
theorem q_174_0 : p_tb 174 0 = some (.aload_n 0, 1) := by decide +kernel
theorem q_174_1 : p_tb 174 1 = some (.getfield 21, 3) := by decide +kernel
theorem q_174_4 : p_tb 174 4 = some (.aload_n 0, 1) := by decide +kernel
theorem q_174_5 : p_tb 174 5 = some (.getfield 18, 3) := by decide +kernel
theorem q_174_8 : p_tb 174 8 = some (.if_icmp .ge 19, 3) := by decide +kernel
theorem q_174_11 : p_tb 174 11 = some (.aload_n 0, 1) := by decide +kernel
theorem q_174_12 : p_tb 174 12 = some (.getfield 14, 3) := by decide +kernel
theorem q_174_15 : p_tb 174 15 = some (.aload_n 0, 1) := by decide +kernel
theorem q_174_16 : p_tb 174 16 = some (.getfield 21, 3) := by decide +kernel
theorem q_174_19 : p_tb 174 19 = some (.baload, 1) := by decide +kernel
theorem q_174_20 : p_tb 174 20 = some (.sipush 255, 3) := by decide +kernel
theorem q_174_23 : p_tb 174 23 = some (.iand, 1) := by decide +kernel
theorem q_174_24 : p_tb 174 24 = some (.goto 4, 3) := by decide +kernel
theorem q_174_27 : p_tb 174 27 = some (.iconst (-1), 1) := by decide +kernel
theorem q_174_28 : p_tb 174 28 = some (.ireturn, 1) := by decide +kernel
theorem t_ft_174_14 : p_f2 p_ft (p_mK 174) 14 = some (11, 1) := by decide +kernel
theorem t_ft_174_18 : p_f2 p_ft (p_mK 174) 18 = some (11, 3) := by decide +kernel
theorem t_ft_174_21 : p_f2 p_ft (p_mK 174) 21 = some (11, 4) := by decide +kernel
theorem q_175_0 : p_tb 175 0 = some (.iload_n 0, 1) := by decide +kernel
theorem q_175_1 : p_tb 175 1 = some (.bipush 97, 2) := by decide +kernel
theorem q_175_3 : p_tb 175 3 = some (.if_icmp .lt 13, 3) := by decide +kernel
theorem q_175_6 : p_tb 175 6 = some (.iload_n 0, 1) := by decide +kernel
theorem q_175_7 : p_tb 175 7 = some (.bipush 122, 2) := by decide +kernel
theorem q_175_9 : p_tb 175 9 = some (.if_icmp .gt 7, 3) := by decide +kernel
theorem q_175_12 : p_tb 175 12 = some (.iconst 1, 1) := by decide +kernel
theorem q_175_13 : p_tb 175 13 = some (.goto 4, 3) := by decide +kernel
theorem q_175_16 : p_tb 175 16 = some (.iconst 0, 1) := by decide +kernel
theorem q_175_17 : p_tb 175 17 = some (.ireturn, 1) := by decide +kernel
theorem q_176_0 : p_tb 176 0 = some (.iload_n 0, 1) := by decide +kernel
theorem q_176_1 : p_tb 176 1 = some (.bipush 48, 2) := by decide +kernel
theorem q_176_3 : p_tb 176 3 = some (.if_icmp .lt 13, 3) := by decide +kernel
theorem q_176_6 : p_tb 176 6 = some (.iload_n 0, 1) := by decide +kernel
theorem q_176_7 : p_tb 176 7 = some (.bipush 57, 2) := by decide +kernel
theorem q_176_9 : p_tb 176 9 = some (.if_icmp .gt 7, 3) := by decide +kernel
theorem q_176_12 : p_tb 176 12 = some (.iconst 1, 1) := by decide +kernel
theorem q_176_13 : p_tb 176 13 = some (.goto 4, 3) := by decide +kernel
theorem q_176_16 : p_tb 176 16 = some (.iconst 0, 1) := by decide +kernel
theorem q_176_17 : p_tb 176 17 = some (.ireturn, 1) := by decide +kernel
theorem q_177_0 : p_tb 177 0 = some (.aload_n 0, 1) := by decide +kernel
theorem q_177_1 : p_tb 177 1 = some (.invokevirtual 134, 3) := by decide +kernel
theorem q_177_4 : p_tb 177 4 = some (.bipush 32, 2) := by decide +kernel
theorem q_177_6 : p_tb 177 6 = some (.if_icmp .eq 12, 3) := by decide +kernel
theorem q_177_9 : p_tb 177 9 = some (.aload_n 0, 1) := by decide +kernel
theorem q_177_10 : p_tb 177 10 = some (.invokevirtual 134, 3) := by decide +kernel
theorem q_177_13 : p_tb 177 13 = some (.bipush 10, 2) := by decide +kernel
theorem q_177_15 : p_tb 177 15 = some (.if_icmp .ne 16, 3) := by decide +kernel
theorem q_177_18 : p_tb 177 18 = some (.aload_n 0, 1) := by decide +kernel
theorem q_177_19 : p_tb 177 19 = some (.dup, 1) := by decide +kernel
theorem q_177_20 : p_tb 177 20 = some (.getfield 21, 3) := by decide +kernel
theorem q_177_23 : p_tb 177 23 = some (.iconst 1, 1) := by decide +kernel
theorem q_177_24 : p_tb 177 24 = some (.iadd, 1) := by decide +kernel
theorem q_177_25 : p_tb 177 25 = some (.putfield 21, 3) := by decide +kernel
theorem q_177_28 : p_tb 177 28 = some (.goto (-28), 3) := by decide +kernel
theorem q_177_31 : p_tb 177 31 = some (.aload_n 0, 1) := by decide +kernel
theorem q_177_32 : p_tb 177 32 = some (.aload_n 0, 1) := by decide +kernel
theorem q_177_33 : p_tb 177 33 = some (.getfield 21, 3) := by decide +kernel
theorem q_177_36 : p_tb 177 36 = some (.putfield 138, 3) := by decide +kernel
theorem q_177_39 : p_tb 177 39 = some (.aload_n 0, 1) := by decide +kernel
theorem q_177_40 : p_tb 177 40 = some (.iconst 0, 1) := by decide +kernel
theorem q_177_41 : p_tb 177 41 = some (.putfield 141, 3) := by decide +kernel
theorem q_177_44 : p_tb 177 44 = some (.aload_n 0, 1) := by decide +kernel
theorem q_177_45 : p_tb 177 45 = some (.getfield 18, 3) := by decide +kernel
theorem q_177_48 : p_tb 177 48 = some (.aload_n 0, 1) := by decide +kernel
theorem q_177_49 : p_tb 177 49 = some (.getfield 24, 3) := by decide +kernel
theorem q_177_52 : p_tb 177 52 = some (.if_icmp .le 28, 3) := by decide +kernel
theorem q_177_55 : p_tb 177 55 = some (.aload_n 0, 1) := by decide +kernel
theorem q_177_56 : p_tb 177 56 = some (.getfield 21, 3) := by decide +kernel
theorem q_177_59 : p_tb 177 59 = some (.aload_n 0, 1) := by decide +kernel
theorem q_177_60 : p_tb 177 60 = some (.getfield 24, 3) := by decide +kernel
theorem q_177_63 : p_tb 177 63 = some (.if_icmp .lt 17, 3) := by decide +kernel
theorem q_177_66 : p_tb 177 66 = some (.aload_n 0, 1) := by decide +kernel
theorem q_177_67 : p_tb 177 67 = some (.aload_n 0, 1) := by decide +kernel
theorem q_177_68 : p_tb 177 68 = some (.getfield 24, 3) := by decide +kernel
theorem q_177_71 : p_tb 177 71 = some (.putfield 138, 3) := by decide +kernel
theorem q_177_74 : p_tb 177 74 = some (.aload_n 0, 1) := by decide +kernel
theorem q_177_75 : p_tb 177 75 = some (.iconst 4, 1) := by decide +kernel
theorem q_177_76 : p_tb 177 76 = some (.putfield 144, 3) := by decide +kernel
theorem q_177_79 : p_tb 177 79 = some (.return_, 1) := by decide +kernel
theorem q_177_80 : p_tb 177 80 = some (.aload_n 0, 1) := by decide +kernel
theorem q_177_81 : p_tb 177 81 = some (.invokevirtual 134, 3) := by decide +kernel
theorem q_177_84 : p_tb 177 84 = some (.istore_n 1, 1) := by decide +kernel
theorem q_177_85 : p_tb 177 85 = some (.iload_n 1, 1) := by decide +kernel
theorem q_177_86 : p_tb 177 86 = some (.ifCond .ge 9, 3) := by decide +kernel
theorem q_177_89 : p_tb 177 89 = some (.aload_n 0, 1) := by decide +kernel
theorem q_177_90 : p_tb 177 90 = some (.iconst 0, 1) := by decide +kernel
theorem q_177_91 : p_tb 177 91 = some (.putfield 144, 3) := by decide +kernel
theorem q_177_94 : p_tb 177 94 = some (.return_, 1) := by decide +kernel
theorem q_177_95 : p_tb 177 95 = some (.iload_n 1, 1) := by decide +kernel
theorem q_177_96 : p_tb 177 96 = some (.invokestatic 147, 3) := by decide +kernel
theorem q_177_99 : p_tb 177 99 = some (.ifCond .ne 65, 3) := by decide +kernel
theorem q_177_102 : p_tb 177 102 = some (.iload_n 1, 1) := by decide +kernel
theorem q_177_103 : p_tb 177 103 = some (.invokestatic 151, 3) := by decide +kernel
theorem q_177_106 : p_tb 177 106 = some (.ifCond .ne 58, 3) := by decide +kernel
theorem q_177_109 : p_tb 177 109 = some (.aload_n 0, 1) := by decide +kernel
theorem q_177_110 : p_tb 177 110 = some (.iload_n 1, 1) := by decide +kernel
theorem q_177_111 : p_tb 177 111 = some (.bipush 59, 2) := by decide +kernel
theorem q_177_113 : p_tb 177 113 = some (.if_icmp .eq 27, 3) := by decide +kernel
theorem q_177_116 : p_tb 177 116 = some (.iload_n 1, 1) := by decide +kernel
theorem q_177_117 : p_tb 177 117 = some (.bipush 40, 2) := by decide +kernel
theorem q_177_119 : p_tb 177 119 = some (.if_icmp .eq 21, 3) := by decide +kernel
theorem q_177_122 : p_tb 177 122 = some (.iload_n 1, 1) := by decide +kernel
theorem q_177_123 : p_tb 177 123 = some (.bipush 41, 2) := by decide +kernel
theorem q_177_125 : p_tb 177 125 = some (.if_icmp .eq 15, 3) := by decide +kernel
theorem q_177_128 : p_tb 177 128 = some (.iload_n 1, 1) := by decide +kernel
theorem q_177_129 : p_tb 177 129 = some (.bipush 60, 2) := by decide +kernel
theorem q_177_131 : p_tb 177 131 = some (.if_icmp .lt 13, 3) := by decide +kernel
theorem q_177_134 : p_tb 177 134 = some (.iload_n 1, 1) := by decide +kernel
theorem q_177_135 : p_tb 177 135 = some (.bipush 62, 2) := by decide +kernel
theorem q_177_137 : p_tb 177 137 = some (.if_icmp .gt 7, 3) := by decide +kernel
theorem q_177_140 : p_tb 177 140 = some (.iconst 3, 1) := by decide +kernel
theorem q_177_141 : p_tb 177 141 = some (.goto 4, 3) := by decide +kernel
theorem q_177_144 : p_tb 177 144 = some (.iconst 4, 1) := by decide +kernel
theorem q_177_145 : p_tb 177 145 = some (.putfield 144, 3) := by decide +kernel
theorem q_177_148 : p_tb 177 148 = some (.aload_n 0, 1) := by decide +kernel
theorem q_177_149 : p_tb 177 149 = some (.iload_n 1, 1) := by decide +kernel
theorem q_177_150 : p_tb 177 150 = some (.putfield 154, 3) := by decide +kernel
theorem q_177_153 : p_tb 177 153 = some (.aload_n 0, 1) := by decide +kernel
theorem q_177_154 : p_tb 177 154 = some (.dup, 1) := by decide +kernel
theorem q_177_155 : p_tb 177 155 = some (.getfield 21, 3) := by decide +kernel
theorem q_177_158 : p_tb 177 158 = some (.iconst 1, 1) := by decide +kernel
theorem q_177_159 : p_tb 177 159 = some (.iadd, 1) := by decide +kernel
theorem q_177_160 : p_tb 177 160 = some (.putfield 21, 3) := by decide +kernel
theorem q_177_163 : p_tb 177 163 = some (.return_, 1) := by decide +kernel
theorem q_177_164 : p_tb 177 164 = some (.iload_n 1, 1) := by decide +kernel
theorem q_177_165 : p_tb 177 165 = some (.invokestatic 147, 3) := by decide +kernel
theorem q_177_168 : p_tb 177 168 = some (.istore_n 2, 1) := by decide +kernel
theorem q_177_169 : p_tb 177 169 = some (.iconst 1, 1) := by decide +kernel
theorem q_177_170 : p_tb 177 170 = some (.istore_n 3, 1) := by decide +kernel
theorem q_177_171 : p_tb 177 171 = some (.aload_n 0, 1) := by decide +kernel
theorem q_177_172 : p_tb 177 172 = some (.lconst 0, 1) := by decide +kernel
theorem q_177_173 : p_tb 177 173 = some (.putfield 157, 3) := by decide +kernel
theorem q_177_176 : p_tb 177 176 = some (.aload_n 0, 1) := by decide +kernel
theorem q_177_177 : p_tb 177 177 = some (.iconst 0, 1) := by decide +kernel
theorem q_177_178 : p_tb 177 178 = some (.putfield 154, 3) := by decide +kernel
theorem q_177_181 : p_tb 177 181 = some (.aload_n 0, 1) := by decide +kernel
theorem q_177_182 : p_tb 177 182 = some (.invokevirtual 134, 3) := by decide +kernel
theorem q_177_185 : p_tb 177 185 = some (.invokestatic 147, 3) := by decide +kernel
theorem q_177_188 : p_tb 177 188 = some (.ifCond .ne 13, 3) := by decide +kernel
theorem q_177_191 : p_tb 177 191 = some (.aload_n 0, 1) := by decide +kernel
theorem q_177_192 : p_tb 177 192 = some (.invokevirtual 134, 3) := by decide +kernel
theorem q_177_195 : p_tb 177 195 = some (.invokestatic 151, 3) := by decide +kernel
theorem q_177_198 : p_tb 177 198 = some (.ifCond .eq 100, 3) := by decide +kernel
theorem q_177_201 : p_tb 177 201 = some (.iload_n 3, 1) := by decide +kernel
theorem q_177_202 : p_tb 177 202 = some (.ifCond .eq 18, 3) := by decide +kernel
theorem q_177_205 : p_tb 177 205 = some (.aload_n 0, 1) := by decide +kernel
theorem q_177_206 : p_tb 177 206 = some (.invokevirtual 134, 3) := by decide +kernel
theorem q_177_209 : p_tb 177 209 = some (.invokestatic 147, 3) := by decide +kernel
theorem q_177_212 : p_tb 177 212 = some (.iload_n 2, 1) := by decide +kernel
theorem q_177_213 : p_tb 177 213 = some (.if_icmp .ne 7, 3) := by decide +kernel
theorem q_177_216 : p_tb 177 216 = some (.iconst 1, 1) := by decide +kernel
theorem q_177_217 : p_tb 177 217 = some (.goto 4, 3) := by decide +kernel
theorem q_177_220 : p_tb 177 220 = some (.iconst 0, 1) := by decide +kernel
theorem q_177_221 : p_tb 177 221 = some (.istore_n 3, 1) := by decide +kernel
theorem q_177_222 : p_tb 177 222 = some (.aload_n 0, 1) := by decide +kernel
theorem q_177_223 : p_tb 177 223 = some (.getfield 141, 3) := by decide +kernel
theorem q_177_226 : p_tb 177 226 = some (.bipush 7, 2) := by decide +kernel
theorem q_177_228 : p_tb 177 228 = some (.if_icmp .ge 20, 3) := by decide +kernel
theorem q_177_231 : p_tb 177 231 = some (.aload_n 0, 1) := by decide +kernel
theorem q_177_232 : p_tb 177 232 = some (.aload_n 0, 1) := by decide +kernel
theorem q_177_233 : p_tb 177 233 = some (.getfield 157, 3) := by decide +kernel
theorem q_177_236 : p_tb 177 236 = some (.bipush 8, 2) := by decide +kernel
theorem q_177_238 : p_tb 177 238 = some (.lshl, 1) := by decide +kernel
theorem q_177_239 : p_tb 177 239 = some (.aload_n 0, 1) := by decide +kernel
theorem q_177_240 : p_tb 177 240 = some (.invokevirtual 134, 3) := by decide +kernel
theorem q_177_243 : p_tb 177 243 = some (.i2l, 1) := by decide +kernel
theorem q_177_244 : p_tb 177 244 = some (.lor, 1) := by decide +kernel
theorem q_177_245 : p_tb 177 245 = some (.putfield 157, 3) := by decide +kernel
theorem q_177_248 : p_tb 177 248 = some (.aload_n 0, 1) := by decide +kernel
theorem q_177_249 : p_tb 177 249 = some (.getfield 141, 3) := by decide +kernel
theorem q_177_252 : p_tb 177 252 = some (.iconst 3, 1) := by decide +kernel
theorem q_177_253 : p_tb 177 253 = some (.if_icmp .ge 22, 3) := by decide +kernel
theorem q_177_256 : p_tb 177 256 = some (.aload_n 0, 1) := by decide +kernel
theorem q_177_257 : p_tb 177 257 = some (.bipush 10, 2) := by decide +kernel
theorem q_177_259 : p_tb 177 259 = some (.aload_n 0, 1) := by decide +kernel
theorem q_177_260 : p_tb 177 260 = some (.getfield 154, 3) := by decide +kernel
theorem q_177_263 : p_tb 177 263 = some (.imul, 1) := by decide +kernel
theorem q_177_264 : p_tb 177 264 = some (.aload_n 0, 1) := by decide +kernel
theorem q_177_265 : p_tb 177 265 = some (.invokevirtual 134, 3) := by decide +kernel
theorem q_177_268 : p_tb 177 268 = some (.iadd, 1) := by decide +kernel
theorem q_177_269 : p_tb 177 269 = some (.bipush 48, 2) := by decide +kernel
theorem q_177_271 : p_tb 177 271 = some (.isub, 1) := by decide +kernel
theorem q_177_272 : p_tb 177 272 = some (.putfield 154, 3) := by decide +kernel
theorem q_177_275 : p_tb 177 275 = some (.aload_n 0, 1) := by decide +kernel
theorem q_177_276 : p_tb 177 276 = some (.dup, 1) := by decide +kernel
theorem q_177_277 : p_tb 177 277 = some (.getfield 141, 3) := by decide +kernel
theorem q_177_280 : p_tb 177 280 = some (.iconst 1, 1) := by decide +kernel
theorem q_177_281 : p_tb 177 281 = some (.iadd, 1) := by decide +kernel
theorem q_177_282 : p_tb 177 282 = some (.putfield 141, 3) := by decide +kernel
theorem q_177_285 : p_tb 177 285 = some (.aload_n 0, 1) := by decide +kernel
theorem q_177_286 : p_tb 177 286 = some (.dup, 1) := by decide +kernel
theorem q_177_287 : p_tb 177 287 = some (.getfield 21, 3) := by decide +kernel
theorem q_177_290 : p_tb 177 290 = some (.iconst 1, 1) := by decide +kernel
theorem q_177_291 : p_tb 177 291 = some (.iadd, 1) := by decide +kernel
theorem q_177_292 : p_tb 177 292 = some (.putfield 21, 3) := by decide +kernel
theorem q_177_295 : p_tb 177 295 = some (.goto (-114), 3) := by decide +kernel
theorem q_177_298 : p_tb 177 298 = some (.aload_n 0, 1) := by decide +kernel
theorem q_177_299 : p_tb 177 299 = some (.iload_n 3, 1) := by decide +kernel
theorem q_177_300 : p_tb 177 300 = some (.ifCond .eq 20, 3) := by decide +kernel
theorem q_177_303 : p_tb 177 303 = some (.aload_n 0, 1) := by decide +kernel
theorem q_177_304 : p_tb 177 304 = some (.getfield 141, 3) := by decide +kernel
theorem q_177_307 : p_tb 177 307 = some (.iload_n 2, 1) := by decide +kernel
theorem q_177_308 : p_tb 177 308 = some (.ifCond .eq 8, 3) := by decide +kernel
theorem q_177_311 : p_tb 177 311 = some (.bipush 7, 2) := by decide +kernel
theorem q_177_313 : p_tb 177 313 = some (.goto 4, 3) := by decide +kernel
theorem q_177_316 : p_tb 177 316 = some (.iconst 3, 1) := by decide +kernel
theorem q_177_317 : p_tb 177 317 = some (.if_icmp .le 7, 3) := by decide +kernel
theorem q_177_320 : p_tb 177 320 = some (.iconst 4, 1) := by decide +kernel
theorem q_177_321 : p_tb 177 321 = some (.goto 12, 3) := by decide +kernel
theorem q_177_324 : p_tb 177 324 = some (.iload_n 2, 1) := by decide +kernel
theorem q_177_325 : p_tb 177 325 = some (.ifCond .eq 7, 3) := by decide +kernel
theorem q_177_328 : p_tb 177 328 = some (.iconst 1, 1) := by decide +kernel
theorem q_177_329 : p_tb 177 329 = some (.goto 4, 3) := by decide +kernel
theorem q_177_332 : p_tb 177 332 = some (.iconst 2, 1) := by decide +kernel
theorem q_177_333 : p_tb 177 333 = some (.putfield 144, 3) := by decide +kernel
theorem q_177_336 : p_tb 177 336 = some (.return_, 1) := by decide +kernel
theorem t_ft_177_138 : p_f2 p_ft (p_mK 177) 138 = some (11, 12) := by decide +kernel
theorem t_ft_177_141 : p_f2 p_ft (p_mK 177) 141 = some (11, 13) := by decide +kernel
theorem t_ft_177_144 : p_f2 p_ft (p_mK 177) 144 = some (11, 11) := by decide +kernel
theorem t_ft_177_154 : p_f2 p_ft (p_mK 177) 154 = some (11, 14) := by decide +kernel
theorem t_ft_177_157 : p_f2 p_ft (p_mK 177) 157 = some (11, 17) := by decide +kernel
theorem t_ft_177_18 : p_f2 p_ft (p_mK 177) 18 = some (11, 3) := by decide +kernel
theorem t_ft_177_21 : p_f2 p_ft (p_mK 177) 21 = some (11, 4) := by decide +kernel
theorem t_ft_177_24 : p_f2 p_ft (p_mK 177) 24 = some (11, 5) := by decide +kernel
theorem t_ms_177_147 : p_f2 p_ms (p_mK 177) 147 = some 175 := by decide +kernel
theorem t_ms_177_151 : p_f2 p_ms (p_mK 177) 151 = some 176 := by decide +kernel
theorem t_mv_177_134 : p_f2 p_mv (p_mK 177) 134 = some 174 := by decide +kernel
theorem c_X12_throwsIf (V : pM → Prop) (hV : Stab V) (G : pG) (Kr : pK) (M : pM) (I : Iv V M) (a1 : Int32) (hl_a1 : 0 ≤ a1.toInt) (hh_a1 : a1.toInt ≤ 1) (hK : ∀ (x : Int32) (M1 : pM), Iv V M1 → Fr [40] M M1 → 0 ≤ x.toInt → x.toInt ≤ 1 → (x.toInt = a1.toInt) → Kr.1 (some (.int x)) 311 M1) : PW G false 0 161 (p_mc 161) (p_msl 161) Kr 0 (lv_args 0 [.ref 294, .int a1]) [] 311 M 0 0 := by
  have F : Fr [40] M M := Fr.refl
  refine PW.aload_n q_161_0 rfl ?_
  refine PW.iload_n q_161_1 rfl ?_
  refine PW.jz_eq q_161_2 rfl (fun h1 => ?_) (fun h1 => ?_)
  · skip
    refine PW.cI q_161_9 (by decide) fun c2 hc2 => ?_
    refine PW.pI q_161_10 (Or.inl t_ft_161_1) gF_40_0 gP_40_0 kd_294 hV I (by decide) rfl (n_lo _) (n_hi _) fun M3 IM3 fM3 UM3 => ?_
    have FM3 := Fr.pu F UM3.1 kd_294 (rfl : List.contains [40] 40 = true)
    refine PW.iload_n q_161_13 rfl ?_
    refine PW.rZ q_161_14 rfl (by omega) (by omega) (by decide) (by decide) ?_
    exact hK a1 M3 IM3 FM3 (by omega) (by omega) (by omega)
  · skip
    refine PW.cI q_161_5 (by decide) fun c4 hc4 => ?_
    refine PW.goto q_161_6 rfl ?_
    refine PW.pI q_161_10 (Or.inl t_ft_161_1) gF_40_0 gP_40_0 kd_294 hV I (by decide) rfl (n_lo _) (n_hi _) fun M5 IM5 fM5 UM5 => ?_
    have FM5 := Fr.pu F UM5.1 kd_294 (rfl : List.contains [40] 40 = true)
    refine PW.iload_n q_161_13 rfl ?_
    refine PW.rZ q_161_14 rfl (by omega) (by omega) (by decide) (by decide) ?_
    exact hK a1 M5 IM5 FM5 (by omega) (by omega) (by omega)
theorem c_X12_feed (V : pM → Prop) (hV : Stab V) (G : pG) (Kr : pK) (M : pM) (I : Iv V M) (a1 : Int32) (a2 : Int32) (a3 : Int32) (a4 : Int32) (a5 : Int32) (hK : ∀ (x : Int32) (M1 : pM), Iv V M1 → Fr [40, 41] M M1 → Kr.1 (some (.int x)) 311 M1) : PW G false 1 162 (p_mc 162) (p_msl 162) Kr 0 (lv_args 0 [.ref 294, .int a1, .int a2, .int a3, .int a4, .int a5]) [] 311 M 0 0 := by
  have F : Fr [40, 41] M M := Fr.refl
  refine PW.aload_n q_162_0 rfl ?_
  refine PW.cI q_162_1 (by decide) fun c1 hc1 => ?_
  refine PW.pI q_162_2 (Or.inl t_ft_162_1) gF_40_0 gP_40_0 kd_294 hV I (by decide) rfl (n_lo _) (n_hi _) fun M2 IM2 fM2 UM2 => ?_
  have FM2 := Fr.pu F UM2.1 kd_294 (rfl : List.contains [40, 41] 40 = true)
  refine PW.aload_n q_162_5 rfl ?_
  refine PW.gI q_162_6 (Or.inl t_ft_162_7) gF_40_2 kd_294 IM2.1 (by decide) fun x3 fx3 hx3 kx3 => ?_
  refine PW.cB q_162_9 (by decide) fun c4 hc4 => ?_
  refine PW.addN q_162_11 (by omega) (by omega) fun x5 hx5 => ?_
  refine PW.cS q_162_12 (by decide) fun c6 hc6 => ?_
  refine PW.jc_le q_162_15 rfl (fun h7 => ?_) (fun h7 => ?_)
  · skip
    refine PW.aload_n q_162_20 rfl ?_
    refine PW.iload_n q_162_21 rfl ?_
    refine PW.cV (as := [_]) (rest := []) q_162_22 t_mv_162_10 kd_294 IM2.1 (by decide) rfl (by decide) rfl rfl (Nat.le_of_ble_eq_true rfl) (Nat.le_of_ble_eq_true rfl) (by decide) (by decide) ?_
    refine PW.cB q_163_0 (by decide) fun c8 hc8 => ?_
    refine PW.istore_n q_163_2 (by decide) ?_
    refine PW.iload_n q_163_3 rfl ?_
    refine PW.jz_lt q_163_4 rfl (fun h9 => False.elim (by omega)) (fun h9 => ?_)
    refine PW.aload_n q_163_7 rfl ?_
    refine PW.gR 295 q_163_8 (Or.inl t_ft_163_14) gF_40_1 kd_294 IM2.1 (by decide) rfl ?_
    refine PW.aload_n q_163_11 rfl ?_
    refine PW.gE q_163_12 (Or.inl t_ft_163_7) gF_40_2 kd_294 IM2.1 (by decide) fx3 ?_
    refine PW.iload_n q_163_15 rfl ?_
    refine PW.iload_n q_163_16 rfl ?_
    refine PW.shrH q_163_17 fun x10 => ?_
    refine PW.bH q_163_18 fun x11 => ?_
    -- index (0, 940) of 940 at X12_four 19
    refine PW.wY q_163_19 gA_41 kd_295 hV IM2 (by decide) rfl gC_41_0_939 (by omega) (by omega) fun M12 IM12 UM12 => ?_
    have FM12 := Fr.pu FM2 UM12.1 kd_295 (rfl : List.contains [40, 41] 41 = true)
    refine PW.aload_n q_163_20 rfl ?_
    refine PW.dup q_163_21 rfl ?_
    refine PW.gE q_163_22 (Or.inl t_ft_163_7) gF_40_2 kd_294 IM12.1 (by decide) ((congrArg (fun e => o_f e 2) (UM12.1 _ (g_ne kd_294 kd_295 (by decide)))).trans fx3) ?_
    refine PW.cI q_163_25 (by decide) fun c13 hc13 => ?_
    refine PW.addN q_163_26 (by omega) (by omega) fun x14 hx14 => ?_
    refine PW.pI q_163_27 (Or.inl t_ft_163_7) gF_40_2 gP_40_2 kd_294 hV IM12 (by decide) rfl (by omega) (by omega) fun M15 IM15 fM15 UM15 => ?_
    have FM15 := Fr.pu FM12 UM15.1 kd_294 (rfl : List.contains [40, 41] 40 = true)
    refine PW.incN q_163_30 rfl (by decide) (by decide) (by omega) (by omega) fun x16 hx16 => ?_
    refine PW.goto q_163_33 rfl ?_
    refine PW.iload_n q_163_3 rfl ?_
    refine PW.jz_lt q_163_4 rfl (fun h17 => False.elim (by omega)) (fun h17 => ?_)
    refine PW.aload_n q_163_7 rfl ?_
    refine PW.gR 295 q_163_8 (Or.inl t_ft_163_14) gF_40_1 kd_294 IM15.1 (by decide) rfl ?_
    refine PW.aload_n q_163_11 rfl ?_
    refine PW.gE q_163_12 (Or.inl t_ft_163_7) gF_40_2 kd_294 IM15.1 (by decide) fM15 ?_
    refine PW.iload_n q_163_15 rfl ?_
    refine PW.iload_n q_163_16 rfl ?_
    refine PW.shrH q_163_17 fun x18 => ?_
    refine PW.bH q_163_18 fun x19 => ?_
    -- index (1, 941) of 940 at X12_four 19
    refine PW.wY q_163_19 gA_41 kd_295 hV IM15 (by decide) rfl gC_41_0_939 (by omega) (by omega) fun M20 IM20 UM20 => ?_
    have FM20 := Fr.pu FM15 UM20.1 kd_295 (rfl : List.contains [40, 41] 41 = true)
    refine PW.aload_n q_163_20 rfl ?_
    refine PW.dup q_163_21 rfl ?_
    refine PW.gE q_163_22 (Or.inl t_ft_163_7) gF_40_2 kd_294 IM20.1 (by decide) ((congrArg (fun e => o_f e 2) (UM20.1 _ (g_ne kd_294 kd_295 (by decide)))).trans fM15) ?_
    refine PW.cI q_163_25 (by decide) fun c21 hc21 => ?_
    refine PW.addN q_163_26 (by omega) (by omega) fun x22 hx22 => ?_
    refine PW.pI q_163_27 (Or.inl t_ft_163_7) gF_40_2 gP_40_2 kd_294 hV IM20 (by decide) rfl (by omega) (by omega) fun M23 IM23 fM23 UM23 => ?_
    have FM23 := Fr.pu FM20 UM23.1 kd_294 (rfl : List.contains [40, 41] 40 = true)
    refine PW.incN q_163_30 rfl (by decide) (by decide) (by omega) (by omega) fun x24 hx24 => ?_
    refine PW.goto q_163_33 rfl ?_
    refine PW.iload_n q_163_3 rfl ?_
    refine PW.jz_lt q_163_4 rfl (fun h25 => False.elim (by omega)) (fun h25 => ?_)
    refine PW.aload_n q_163_7 rfl ?_
    refine PW.gR 295 q_163_8 (Or.inl t_ft_163_14) gF_40_1 kd_294 IM23.1 (by decide) rfl ?_
    refine PW.aload_n q_163_11 rfl ?_
    refine PW.gE q_163_12 (Or.inl t_ft_163_7) gF_40_2 kd_294 IM23.1 (by decide) fM23 ?_
    refine PW.iload_n q_163_15 rfl ?_
    refine PW.iload_n q_163_16 rfl ?_
    refine PW.shrH q_163_17 fun x26 => ?_
    refine PW.bH q_163_18 fun x27 => ?_
    -- index (2, 942) of 940 at X12_four 19
    refine PW.wY q_163_19 gA_41 kd_295 hV IM23 (by decide) rfl gC_41_0_939 (by omega) (by omega) fun M28 IM28 UM28 => ?_
    have FM28 := Fr.pu FM23 UM28.1 kd_295 (rfl : List.contains [40, 41] 41 = true)
    refine PW.aload_n q_163_20 rfl ?_
    refine PW.dup q_163_21 rfl ?_
    refine PW.gE q_163_22 (Or.inl t_ft_163_7) gF_40_2 kd_294 IM28.1 (by decide) ((congrArg (fun e => o_f e 2) (UM28.1 _ (g_ne kd_294 kd_295 (by decide)))).trans fM23) ?_
    refine PW.cI q_163_25 (by decide) fun c29 hc29 => ?_
    refine PW.addN q_163_26 (by omega) (by omega) fun x30 hx30 => ?_
    refine PW.pI q_163_27 (Or.inl t_ft_163_7) gF_40_2 gP_40_2 kd_294 hV IM28 (by decide) rfl (by omega) (by omega) fun M31 IM31 fM31 UM31 => ?_
    have FM31 := Fr.pu FM28 UM31.1 kd_294 (rfl : List.contains [40, 41] 40 = true)
    refine PW.incN q_163_30 rfl (by decide) (by decide) (by omega) (by omega) fun x32 hx32 => ?_
    refine PW.goto q_163_33 rfl ?_
    refine PW.iload_n q_163_3 rfl ?_
    refine PW.jz_lt q_163_4 rfl (fun h33 => False.elim (by omega)) (fun h33 => ?_)
    refine PW.aload_n q_163_7 rfl ?_
    refine PW.gR 295 q_163_8 (Or.inl t_ft_163_14) gF_40_1 kd_294 IM31.1 (by decide) rfl ?_
    refine PW.aload_n q_163_11 rfl ?_
    refine PW.gE q_163_12 (Or.inl t_ft_163_7) gF_40_2 kd_294 IM31.1 (by decide) fM31 ?_
    refine PW.iload_n q_163_15 rfl ?_
    refine PW.iload_n q_163_16 rfl ?_
    refine PW.shrH q_163_17 fun x34 => ?_
    refine PW.bH q_163_18 fun x35 => ?_
    -- index (3, 943) of 940 at X12_four 19
    refine PW.wY q_163_19 gA_41 kd_295 hV IM31 (by decide) rfl gC_41_0_939 (by omega) (by omega) fun M36 IM36 UM36 => ?_
    have FM36 := Fr.pu FM31 UM36.1 kd_295 (rfl : List.contains [40, 41] 41 = true)
    refine PW.aload_n q_163_20 rfl ?_
    refine PW.dup q_163_21 rfl ?_
    refine PW.gE q_163_22 (Or.inl t_ft_163_7) gF_40_2 kd_294 IM36.1 (by decide) ((congrArg (fun e => o_f e 2) (UM36.1 _ (g_ne kd_294 kd_295 (by decide)))).trans fM31) ?_
    refine PW.cI q_163_25 (by decide) fun c37 hc37 => ?_
    refine PW.addN q_163_26 (by omega) (by omega) fun x38 hx38 => ?_
    refine PW.pI q_163_27 (Or.inl t_ft_163_7) gF_40_2 gP_40_2 kd_294 hV IM36 (by decide) rfl (by omega) (by omega) fun M39 IM39 fM39 UM39 => ?_
    have FM39 := Fr.pu FM36 UM39.1 kd_294 (rfl : List.contains [40, 41] 40 = true)
    refine PW.incN q_163_30 rfl (by decide) (by decide) (by omega) (by omega) fun x40 hx40 => ?_
    refine PW.goto q_163_33 rfl ?_
    refine PW.iload_n q_163_3 rfl ?_
    refine PW.jz_lt q_163_4 rfl (fun h41 => ?_) (fun h41 => False.elim (by omega))
    refine PW.vret q_163_36 rfl (by decide) (by decide) ?_
    refine PW.aload_n q_162_25 rfl ?_
    refine PW.iload_n q_162_26 rfl ?_
    refine PW.cV (as := [_]) (rest := []) q_162_27 t_mv_162_10 kd_294 IM39.1 (by decide) rfl (by decide) rfl rfl (Nat.le_of_ble_eq_true rfl) (Nat.le_of_ble_eq_true rfl) (by decide) (by decide) ?_
    refine PW.cB q_163_0 (by decide) fun c42 hc42 => ?_
    refine PW.istore_n q_163_2 (by decide) ?_
    refine PW.iload_n q_163_3 rfl ?_
    refine PW.jz_lt q_163_4 rfl (fun h43 => False.elim (by omega)) (fun h43 => ?_)
    refine PW.aload_n q_163_7 rfl ?_
    refine PW.gR 295 q_163_8 (Or.inl t_ft_163_14) gF_40_1 kd_294 IM39.1 (by decide) rfl ?_
    refine PW.aload_n q_163_11 rfl ?_
    refine PW.gE q_163_12 (Or.inl t_ft_163_7) gF_40_2 kd_294 IM39.1 (by decide) fM39 ?_
    refine PW.iload_n q_163_15 rfl ?_
    refine PW.iload_n q_163_16 rfl ?_
    refine PW.shrH q_163_17 fun x44 => ?_
    refine PW.bH q_163_18 fun x45 => ?_
    -- index (4, 944) of 940 at X12_four 19
    refine PW.wY q_163_19 gA_41 kd_295 hV IM39 (by decide) rfl gC_41_0_939 (by omega) (by omega) fun M46 IM46 UM46 => ?_
    have FM46 := Fr.pu FM39 UM46.1 kd_295 (rfl : List.contains [40, 41] 41 = true)
    refine PW.aload_n q_163_20 rfl ?_
    refine PW.dup q_163_21 rfl ?_
    refine PW.gE q_163_22 (Or.inl t_ft_163_7) gF_40_2 kd_294 IM46.1 (by decide) ((congrArg (fun e => o_f e 2) (UM46.1 _ (g_ne kd_294 kd_295 (by decide)))).trans fM39) ?_
    refine PW.cI q_163_25 (by decide) fun c47 hc47 => ?_
    refine PW.addN q_163_26 (by omega) (by omega) fun x48 hx48 => ?_
    refine PW.pI q_163_27 (Or.inl t_ft_163_7) gF_40_2 gP_40_2 kd_294 hV IM46 (by decide) rfl (by omega) (by omega) fun M49 IM49 fM49 UM49 => ?_
    have FM49 := Fr.pu FM46 UM49.1 kd_294 (rfl : List.contains [40, 41] 40 = true)
    refine PW.incN q_163_30 rfl (by decide) (by decide) (by omega) (by omega) fun x50 hx50 => ?_
    refine PW.goto q_163_33 rfl ?_
    refine PW.iload_n q_163_3 rfl ?_
    refine PW.jz_lt q_163_4 rfl (fun h51 => False.elim (by omega)) (fun h51 => ?_)
    refine PW.aload_n q_163_7 rfl ?_
    refine PW.gR 295 q_163_8 (Or.inl t_ft_163_14) gF_40_1 kd_294 IM49.1 (by decide) rfl ?_
    refine PW.aload_n q_163_11 rfl ?_
    refine PW.gE q_163_12 (Or.inl t_ft_163_7) gF_40_2 kd_294 IM49.1 (by decide) fM49 ?_
    refine PW.iload_n q_163_15 rfl ?_
    refine PW.iload_n q_163_16 rfl ?_
    refine PW.shrH q_163_17 fun x52 => ?_
    refine PW.bH q_163_18 fun x53 => ?_
    -- index (5, 945) of 940 at X12_four 19
    refine PW.wY q_163_19 gA_41 kd_295 hV IM49 (by decide) rfl gC_41_0_939 (by omega) (by omega) fun M54 IM54 UM54 => ?_
    have FM54 := Fr.pu FM49 UM54.1 kd_295 (rfl : List.contains [40, 41] 41 = true)
    refine PW.aload_n q_163_20 rfl ?_
    refine PW.dup q_163_21 rfl ?_
    refine PW.gE q_163_22 (Or.inl t_ft_163_7) gF_40_2 kd_294 IM54.1 (by decide) ((congrArg (fun e => o_f e 2) (UM54.1 _ (g_ne kd_294 kd_295 (by decide)))).trans fM49) ?_
    refine PW.cI q_163_25 (by decide) fun c55 hc55 => ?_
    refine PW.addN q_163_26 (by omega) (by omega) fun x56 hx56 => ?_
    refine PW.pI q_163_27 (Or.inl t_ft_163_7) gF_40_2 gP_40_2 kd_294 hV IM54 (by decide) rfl (by omega) (by omega) fun M57 IM57 fM57 UM57 => ?_
    have FM57 := Fr.pu FM54 UM57.1 kd_294 (rfl : List.contains [40, 41] 40 = true)
    refine PW.incN q_163_30 rfl (by decide) (by decide) (by omega) (by omega) fun x58 hx58 => ?_
    refine PW.goto q_163_33 rfl ?_
    refine PW.iload_n q_163_3 rfl ?_
    refine PW.jz_lt q_163_4 rfl (fun h59 => False.elim (by omega)) (fun h59 => ?_)
    refine PW.aload_n q_163_7 rfl ?_
    refine PW.gR 295 q_163_8 (Or.inl t_ft_163_14) gF_40_1 kd_294 IM57.1 (by decide) rfl ?_
    refine PW.aload_n q_163_11 rfl ?_
    refine PW.gE q_163_12 (Or.inl t_ft_163_7) gF_40_2 kd_294 IM57.1 (by decide) fM57 ?_
    refine PW.iload_n q_163_15 rfl ?_
    refine PW.iload_n q_163_16 rfl ?_
    refine PW.shrH q_163_17 fun x60 => ?_
    refine PW.bH q_163_18 fun x61 => ?_
    -- index (6, 946) of 940 at X12_four 19
    refine PW.wY q_163_19 gA_41 kd_295 hV IM57 (by decide) rfl gC_41_0_939 (by omega) (by omega) fun M62 IM62 UM62 => ?_
    have FM62 := Fr.pu FM57 UM62.1 kd_295 (rfl : List.contains [40, 41] 41 = true)
    refine PW.aload_n q_163_20 rfl ?_
    refine PW.dup q_163_21 rfl ?_
    refine PW.gE q_163_22 (Or.inl t_ft_163_7) gF_40_2 kd_294 IM62.1 (by decide) ((congrArg (fun e => o_f e 2) (UM62.1 _ (g_ne kd_294 kd_295 (by decide)))).trans fM57) ?_
    refine PW.cI q_163_25 (by decide) fun c63 hc63 => ?_
    refine PW.addN q_163_26 (by omega) (by omega) fun x64 hx64 => ?_
    refine PW.pI q_163_27 (Or.inl t_ft_163_7) gF_40_2 gP_40_2 kd_294 hV IM62 (by decide) rfl (by omega) (by omega) fun M65 IM65 fM65 UM65 => ?_
    have FM65 := Fr.pu FM62 UM65.1 kd_294 (rfl : List.contains [40, 41] 40 = true)
    refine PW.incN q_163_30 rfl (by decide) (by decide) (by omega) (by omega) fun x66 hx66 => ?_
    refine PW.goto q_163_33 rfl ?_
    refine PW.iload_n q_163_3 rfl ?_
    refine PW.jz_lt q_163_4 rfl (fun h67 => False.elim (by omega)) (fun h67 => ?_)
    refine PW.aload_n q_163_7 rfl ?_
    refine PW.gR 295 q_163_8 (Or.inl t_ft_163_14) gF_40_1 kd_294 IM65.1 (by decide) rfl ?_
    refine PW.aload_n q_163_11 rfl ?_
    refine PW.gE q_163_12 (Or.inl t_ft_163_7) gF_40_2 kd_294 IM65.1 (by decide) fM65 ?_
    refine PW.iload_n q_163_15 rfl ?_
    refine PW.iload_n q_163_16 rfl ?_
    refine PW.shrH q_163_17 fun x68 => ?_
    refine PW.bH q_163_18 fun x69 => ?_
    -- index (7, 947) of 940 at X12_four 19
    refine PW.wY q_163_19 gA_41 kd_295 hV IM65 (by decide) rfl gC_41_0_939 (by omega) (by omega) fun M70 IM70 UM70 => ?_
    have FM70 := Fr.pu FM65 UM70.1 kd_295 (rfl : List.contains [40, 41] 41 = true)
    refine PW.aload_n q_163_20 rfl ?_
    refine PW.dup q_163_21 rfl ?_
    refine PW.gE q_163_22 (Or.inl t_ft_163_7) gF_40_2 kd_294 IM70.1 (by decide) ((congrArg (fun e => o_f e 2) (UM70.1 _ (g_ne kd_294 kd_295 (by decide)))).trans fM65) ?_
    refine PW.cI q_163_25 (by decide) fun c71 hc71 => ?_
    refine PW.addN q_163_26 (by omega) (by omega) fun x72 hx72 => ?_
    refine PW.pI q_163_27 (Or.inl t_ft_163_7) gF_40_2 gP_40_2 kd_294 hV IM70 (by decide) rfl (by omega) (by omega) fun M73 IM73 fM73 UM73 => ?_
    have FM73 := Fr.pu FM70 UM73.1 kd_294 (rfl : List.contains [40, 41] 40 = true)
    refine PW.incN q_163_30 rfl (by decide) (by decide) (by omega) (by omega) fun x74 hx74 => ?_
    refine PW.goto q_163_33 rfl ?_
    refine PW.iload_n q_163_3 rfl ?_
    refine PW.jz_lt q_163_4 rfl (fun h75 => ?_) (fun h75 => False.elim (by omega))
    refine PW.vret q_163_36 rfl (by decide) (by decide) ?_
    refine PW.aload_n q_162_30 rfl ?_
    refine PW.iload_n q_162_31 rfl ?_
    refine PW.cV (as := [_]) (rest := []) q_162_32 t_mv_162_10 kd_294 IM73.1 (by decide) rfl (by decide) rfl rfl (Nat.le_of_ble_eq_true rfl) (Nat.le_of_ble_eq_true rfl) (by decide) (by decide) ?_
    refine PW.cB q_163_0 (by decide) fun c76 hc76 => ?_
    refine PW.istore_n q_163_2 (by decide) ?_
    refine PW.iload_n q_163_3 rfl ?_
    refine PW.jz_lt q_163_4 rfl (fun h77 => False.elim (by omega)) (fun h77 => ?_)
    refine PW.aload_n q_163_7 rfl ?_
    refine PW.gR 295 q_163_8 (Or.inl t_ft_163_14) gF_40_1 kd_294 IM73.1 (by decide) rfl ?_
    refine PW.aload_n q_163_11 rfl ?_
    refine PW.gE q_163_12 (Or.inl t_ft_163_7) gF_40_2 kd_294 IM73.1 (by decide) fM73 ?_
    refine PW.iload_n q_163_15 rfl ?_
    refine PW.iload_n q_163_16 rfl ?_
    refine PW.shrH q_163_17 fun x78 => ?_
    refine PW.bH q_163_18 fun x79 => ?_
    -- index (8, 948) of 940 at X12_four 19
    refine PW.wY q_163_19 gA_41 kd_295 hV IM73 (by decide) rfl gC_41_0_939 (by omega) (by omega) fun M80 IM80 UM80 => ?_
    have FM80 := Fr.pu FM73 UM80.1 kd_295 (rfl : List.contains [40, 41] 41 = true)
    refine PW.aload_n q_163_20 rfl ?_
    refine PW.dup q_163_21 rfl ?_
    refine PW.gE q_163_22 (Or.inl t_ft_163_7) gF_40_2 kd_294 IM80.1 (by decide) ((congrArg (fun e => o_f e 2) (UM80.1 _ (g_ne kd_294 kd_295 (by decide)))).trans fM73) ?_
    refine PW.cI q_163_25 (by decide) fun c81 hc81 => ?_
    refine PW.addN q_163_26 (by omega) (by omega) fun x82 hx82 => ?_
    refine PW.pI q_163_27 (Or.inl t_ft_163_7) gF_40_2 gP_40_2 kd_294 hV IM80 (by decide) rfl (by omega) (by omega) fun M83 IM83 fM83 UM83 => ?_
    have FM83 := Fr.pu FM80 UM83.1 kd_294 (rfl : List.contains [40, 41] 40 = true)
    refine PW.incN q_163_30 rfl (by decide) (by decide) (by omega) (by omega) fun x84 hx84 => ?_
    refine PW.goto q_163_33 rfl ?_
    refine PW.iload_n q_163_3 rfl ?_
    refine PW.jz_lt q_163_4 rfl (fun h85 => False.elim (by omega)) (fun h85 => ?_)
    refine PW.aload_n q_163_7 rfl ?_
    refine PW.gR 295 q_163_8 (Or.inl t_ft_163_14) gF_40_1 kd_294 IM83.1 (by decide) rfl ?_
    refine PW.aload_n q_163_11 rfl ?_
    refine PW.gE q_163_12 (Or.inl t_ft_163_7) gF_40_2 kd_294 IM83.1 (by decide) fM83 ?_
    refine PW.iload_n q_163_15 rfl ?_
    refine PW.iload_n q_163_16 rfl ?_
    refine PW.shrH q_163_17 fun x86 => ?_
    refine PW.bH q_163_18 fun x87 => ?_
    -- index (9, 949) of 940 at X12_four 19
    refine PW.wY q_163_19 gA_41 kd_295 hV IM83 (by decide) rfl gC_41_0_939 (by omega) (by omega) fun M88 IM88 UM88 => ?_
    have FM88 := Fr.pu FM83 UM88.1 kd_295 (rfl : List.contains [40, 41] 41 = true)
    refine PW.aload_n q_163_20 rfl ?_
    refine PW.dup q_163_21 rfl ?_
    refine PW.gE q_163_22 (Or.inl t_ft_163_7) gF_40_2 kd_294 IM88.1 (by decide) ((congrArg (fun e => o_f e 2) (UM88.1 _ (g_ne kd_294 kd_295 (by decide)))).trans fM83) ?_
    refine PW.cI q_163_25 (by decide) fun c89 hc89 => ?_
    refine PW.addN q_163_26 (by omega) (by omega) fun x90 hx90 => ?_
    refine PW.pI q_163_27 (Or.inl t_ft_163_7) gF_40_2 gP_40_2 kd_294 hV IM88 (by decide) rfl (by omega) (by omega) fun M91 IM91 fM91 UM91 => ?_
    have FM91 := Fr.pu FM88 UM91.1 kd_294 (rfl : List.contains [40, 41] 40 = true)
    refine PW.incN q_163_30 rfl (by decide) (by decide) (by omega) (by omega) fun x92 hx92 => ?_
    refine PW.goto q_163_33 rfl ?_
    refine PW.iload_n q_163_3 rfl ?_
    refine PW.jz_lt q_163_4 rfl (fun h93 => False.elim (by omega)) (fun h93 => ?_)
    refine PW.aload_n q_163_7 rfl ?_
    refine PW.gR 295 q_163_8 (Or.inl t_ft_163_14) gF_40_1 kd_294 IM91.1 (by decide) rfl ?_
    refine PW.aload_n q_163_11 rfl ?_
    refine PW.gE q_163_12 (Or.inl t_ft_163_7) gF_40_2 kd_294 IM91.1 (by decide) fM91 ?_
    refine PW.iload_n q_163_15 rfl ?_
    refine PW.iload_n q_163_16 rfl ?_
    refine PW.shrH q_163_17 fun x94 => ?_
    refine PW.bH q_163_18 fun x95 => ?_
    -- index (10, 950) of 940 at X12_four 19
    refine PW.wY q_163_19 gA_41 kd_295 hV IM91 (by decide) rfl gC_41_0_939 (by omega) (by omega) fun M96 IM96 UM96 => ?_
    have FM96 := Fr.pu FM91 UM96.1 kd_295 (rfl : List.contains [40, 41] 41 = true)
    refine PW.aload_n q_163_20 rfl ?_
    refine PW.dup q_163_21 rfl ?_
    refine PW.gE q_163_22 (Or.inl t_ft_163_7) gF_40_2 kd_294 IM96.1 (by decide) ((congrArg (fun e => o_f e 2) (UM96.1 _ (g_ne kd_294 kd_295 (by decide)))).trans fM91) ?_
    refine PW.cI q_163_25 (by decide) fun c97 hc97 => ?_
    refine PW.addN q_163_26 (by omega) (by omega) fun x98 hx98 => ?_
    refine PW.pI q_163_27 (Or.inl t_ft_163_7) gF_40_2 gP_40_2 kd_294 hV IM96 (by decide) rfl (by omega) (by omega) fun M99 IM99 fM99 UM99 => ?_
    have FM99 := Fr.pu FM96 UM99.1 kd_294 (rfl : List.contains [40, 41] 40 = true)
    refine PW.incN q_163_30 rfl (by decide) (by decide) (by omega) (by omega) fun x100 hx100 => ?_
    refine PW.goto q_163_33 rfl ?_
    refine PW.iload_n q_163_3 rfl ?_
    refine PW.jz_lt q_163_4 rfl (fun h101 => False.elim (by omega)) (fun h101 => ?_)
    refine PW.aload_n q_163_7 rfl ?_
    refine PW.gR 295 q_163_8 (Or.inl t_ft_163_14) gF_40_1 kd_294 IM99.1 (by decide) rfl ?_
    refine PW.aload_n q_163_11 rfl ?_
    refine PW.gE q_163_12 (Or.inl t_ft_163_7) gF_40_2 kd_294 IM99.1 (by decide) fM99 ?_
    refine PW.iload_n q_163_15 rfl ?_
    refine PW.iload_n q_163_16 rfl ?_
    refine PW.shrH q_163_17 fun x102 => ?_
    refine PW.bH q_163_18 fun x103 => ?_
    -- index (11, 951) of 940 at X12_four 19
    refine PW.wY q_163_19 gA_41 kd_295 hV IM99 (by decide) rfl gC_41_0_939 (by omega) (by omega) fun M104 IM104 UM104 => ?_
    have FM104 := Fr.pu FM99 UM104.1 kd_295 (rfl : List.contains [40, 41] 41 = true)
    refine PW.aload_n q_163_20 rfl ?_
    refine PW.dup q_163_21 rfl ?_
    refine PW.gE q_163_22 (Or.inl t_ft_163_7) gF_40_2 kd_294 IM104.1 (by decide) ((congrArg (fun e => o_f e 2) (UM104.1 _ (g_ne kd_294 kd_295 (by decide)))).trans fM99) ?_
    refine PW.cI q_163_25 (by decide) fun c105 hc105 => ?_
    refine PW.addN q_163_26 (by omega) (by omega) fun x106 hx106 => ?_
    refine PW.pI q_163_27 (Or.inl t_ft_163_7) gF_40_2 gP_40_2 kd_294 hV IM104 (by decide) rfl (by omega) (by omega) fun M107 IM107 fM107 UM107 => ?_
    have FM107 := Fr.pu FM104 UM107.1 kd_294 (rfl : List.contains [40, 41] 40 = true)
    refine PW.incN q_163_30 rfl (by decide) (by decide) (by omega) (by omega) fun x108 hx108 => ?_
    refine PW.goto q_163_33 rfl ?_
    refine PW.iload_n q_163_3 rfl ?_
    refine PW.jz_lt q_163_4 rfl (fun h109 => ?_) (fun h109 => False.elim (by omega))
    refine PW.vret q_163_36 rfl (by decide) (by decide) ?_
    refine PW.aload_n q_162_35 rfl ?_
    refine PW.iload q_162_36 rfl ?_
    refine PW.cV (as := [_]) (rest := []) q_162_38 t_mv_162_10 kd_294 IM107.1 (by decide) rfl (by decide) rfl rfl (Nat.le_of_ble_eq_true rfl) (Nat.le_of_ble_eq_true rfl) (by decide) (by decide) ?_
    refine PW.cB q_163_0 (by decide) fun c110 hc110 => ?_
    refine PW.istore_n q_163_2 (by decide) ?_
    refine PW.iload_n q_163_3 rfl ?_
    refine PW.jz_lt q_163_4 rfl (fun h111 => False.elim (by omega)) (fun h111 => ?_)
    refine PW.aload_n q_163_7 rfl ?_
    refine PW.gR 295 q_163_8 (Or.inl t_ft_163_14) gF_40_1 kd_294 IM107.1 (by decide) rfl ?_
    refine PW.aload_n q_163_11 rfl ?_
    refine PW.gE q_163_12 (Or.inl t_ft_163_7) gF_40_2 kd_294 IM107.1 (by decide) fM107 ?_
    refine PW.iload_n q_163_15 rfl ?_
    refine PW.iload_n q_163_16 rfl ?_
    refine PW.shrH q_163_17 fun x112 => ?_
    refine PW.bH q_163_18 fun x113 => ?_
    -- index (12, 952) of 940 at X12_four 19
    refine PW.wY q_163_19 gA_41 kd_295 hV IM107 (by decide) rfl gC_41_0_939 (by omega) (by omega) fun M114 IM114 UM114 => ?_
    have FM114 := Fr.pu FM107 UM114.1 kd_295 (rfl : List.contains [40, 41] 41 = true)
    refine PW.aload_n q_163_20 rfl ?_
    refine PW.dup q_163_21 rfl ?_
    refine PW.gE q_163_22 (Or.inl t_ft_163_7) gF_40_2 kd_294 IM114.1 (by decide) ((congrArg (fun e => o_f e 2) (UM114.1 _ (g_ne kd_294 kd_295 (by decide)))).trans fM107) ?_
    refine PW.cI q_163_25 (by decide) fun c115 hc115 => ?_
    refine PW.addN q_163_26 (by omega) (by omega) fun x116 hx116 => ?_
    refine PW.pI q_163_27 (Or.inl t_ft_163_7) gF_40_2 gP_40_2 kd_294 hV IM114 (by decide) rfl (by omega) (by omega) fun M117 IM117 fM117 UM117 => ?_
    have FM117 := Fr.pu FM114 UM117.1 kd_294 (rfl : List.contains [40, 41] 40 = true)
    refine PW.incN q_163_30 rfl (by decide) (by decide) (by omega) (by omega) fun x118 hx118 => ?_
    refine PW.goto q_163_33 rfl ?_
    refine PW.iload_n q_163_3 rfl ?_
    refine PW.jz_lt q_163_4 rfl (fun h119 => False.elim (by omega)) (fun h119 => ?_)
    refine PW.aload_n q_163_7 rfl ?_
    refine PW.gR 295 q_163_8 (Or.inl t_ft_163_14) gF_40_1 kd_294 IM117.1 (by decide) rfl ?_
    refine PW.aload_n q_163_11 rfl ?_
    refine PW.gE q_163_12 (Or.inl t_ft_163_7) gF_40_2 kd_294 IM117.1 (by decide) fM117 ?_
    refine PW.iload_n q_163_15 rfl ?_
    refine PW.iload_n q_163_16 rfl ?_
    refine PW.shrH q_163_17 fun x120 => ?_
    refine PW.bH q_163_18 fun x121 => ?_
    -- index (13, 953) of 940 at X12_four 19
    refine PW.wY q_163_19 gA_41 kd_295 hV IM117 (by decide) rfl gC_41_0_939 (by omega) (by omega) fun M122 IM122 UM122 => ?_
    have FM122 := Fr.pu FM117 UM122.1 kd_295 (rfl : List.contains [40, 41] 41 = true)
    refine PW.aload_n q_163_20 rfl ?_
    refine PW.dup q_163_21 rfl ?_
    refine PW.gE q_163_22 (Or.inl t_ft_163_7) gF_40_2 kd_294 IM122.1 (by decide) ((congrArg (fun e => o_f e 2) (UM122.1 _ (g_ne kd_294 kd_295 (by decide)))).trans fM117) ?_
    refine PW.cI q_163_25 (by decide) fun c123 hc123 => ?_
    refine PW.addN q_163_26 (by omega) (by omega) fun x124 hx124 => ?_
    refine PW.pI q_163_27 (Or.inl t_ft_163_7) gF_40_2 gP_40_2 kd_294 hV IM122 (by decide) rfl (by omega) (by omega) fun M125 IM125 fM125 UM125 => ?_
    have FM125 := Fr.pu FM122 UM125.1 kd_294 (rfl : List.contains [40, 41] 40 = true)
    refine PW.incN q_163_30 rfl (by decide) (by decide) (by omega) (by omega) fun x126 hx126 => ?_
    refine PW.goto q_163_33 rfl ?_
    refine PW.iload_n q_163_3 rfl ?_
    refine PW.jz_lt q_163_4 rfl (fun h127 => False.elim (by omega)) (fun h127 => ?_)
    refine PW.aload_n q_163_7 rfl ?_
    refine PW.gR 295 q_163_8 (Or.inl t_ft_163_14) gF_40_1 kd_294 IM125.1 (by decide) rfl ?_
    refine PW.aload_n q_163_11 rfl ?_
    refine PW.gE q_163_12 (Or.inl t_ft_163_7) gF_40_2 kd_294 IM125.1 (by decide) fM125 ?_
    refine PW.iload_n q_163_15 rfl ?_
    refine PW.iload_n q_163_16 rfl ?_
    refine PW.shrH q_163_17 fun x128 => ?_
    refine PW.bH q_163_18 fun x129 => ?_
    -- index (14, 954) of 940 at X12_four 19
    refine PW.wY q_163_19 gA_41 kd_295 hV IM125 (by decide) rfl gC_41_0_939 (by omega) (by omega) fun M130 IM130 UM130 => ?_
    have FM130 := Fr.pu FM125 UM130.1 kd_295 (rfl : List.contains [40, 41] 41 = true)
    refine PW.aload_n q_163_20 rfl ?_
    refine PW.dup q_163_21 rfl ?_
    refine PW.gE q_163_22 (Or.inl t_ft_163_7) gF_40_2 kd_294 IM130.1 (by decide) ((congrArg (fun e => o_f e 2) (UM130.1 _ (g_ne kd_294 kd_295 (by decide)))).trans fM125) ?_
    refine PW.cI q_163_25 (by decide) fun c131 hc131 => ?_
    refine PW.addN q_163_26 (by omega) (by omega) fun x132 hx132 => ?_
    refine PW.pI q_163_27 (Or.inl t_ft_163_7) gF_40_2 gP_40_2 kd_294 hV IM130 (by decide) rfl (by omega) (by omega) fun M133 IM133 fM133 UM133 => ?_
    have FM133 := Fr.pu FM130 UM133.1 kd_294 (rfl : List.contains [40, 41] 40 = true)
    refine PW.incN q_163_30 rfl (by decide) (by decide) (by omega) (by omega) fun x134 hx134 => ?_
    refine PW.goto q_163_33 rfl ?_
    refine PW.iload_n q_163_3 rfl ?_
    refine PW.jz_lt q_163_4 rfl (fun h135 => False.elim (by omega)) (fun h135 => ?_)
    refine PW.aload_n q_163_7 rfl ?_
    refine PW.gR 295 q_163_8 (Or.inl t_ft_163_14) gF_40_1 kd_294 IM133.1 (by decide) rfl ?_
    refine PW.aload_n q_163_11 rfl ?_
    refine PW.gE q_163_12 (Or.inl t_ft_163_7) gF_40_2 kd_294 IM133.1 (by decide) fM133 ?_
    refine PW.iload_n q_163_15 rfl ?_
    refine PW.iload_n q_163_16 rfl ?_
    refine PW.shrH q_163_17 fun x136 => ?_
    refine PW.bH q_163_18 fun x137 => ?_
    -- index (15, 955) of 940 at X12_four 19
    refine PW.wY q_163_19 gA_41 kd_295 hV IM133 (by decide) rfl gC_41_0_939 (by omega) (by omega) fun M138 IM138 UM138 => ?_
    have FM138 := Fr.pu FM133 UM138.1 kd_295 (rfl : List.contains [40, 41] 41 = true)
    refine PW.aload_n q_163_20 rfl ?_
    refine PW.dup q_163_21 rfl ?_
    refine PW.gE q_163_22 (Or.inl t_ft_163_7) gF_40_2 kd_294 IM138.1 (by decide) ((congrArg (fun e => o_f e 2) (UM138.1 _ (g_ne kd_294 kd_295 (by decide)))).trans fM133) ?_
    refine PW.cI q_163_25 (by decide) fun c139 hc139 => ?_
    refine PW.addN q_163_26 (by omega) (by omega) fun x140 hx140 => ?_
    refine PW.pI q_163_27 (Or.inl t_ft_163_7) gF_40_2 gP_40_2 kd_294 hV IM138 (by decide) rfl (by omega) (by omega) fun M141 IM141 fM141 UM141 => ?_
    have FM141 := Fr.pu FM138 UM141.1 kd_294 (rfl : List.contains [40, 41] 40 = true)
    refine PW.incN q_163_30 rfl (by decide) (by decide) (by omega) (by omega) fun x142 hx142 => ?_
    refine PW.goto q_163_33 rfl ?_
    refine PW.iload_n q_163_3 rfl ?_
    refine PW.jz_lt q_163_4 rfl (fun h143 => ?_) (fun h143 => False.elim (by omega))
    refine PW.vret q_163_36 rfl (by decide) (by decide) ?_
    refine PW.aload_n q_162_41 rfl ?_
    refine PW.iload q_162_42 rfl ?_
    refine PW.cV (as := [_]) (rest := []) q_162_44 t_mv_162_10 kd_294 IM141.1 (by decide) rfl (by decide) rfl rfl (Nat.le_of_ble_eq_true rfl) (Nat.le_of_ble_eq_true rfl) (by decide) (by decide) ?_
    refine PW.cB q_163_0 (by decide) fun c144 hc144 => ?_
    refine PW.istore_n q_163_2 (by decide) ?_
    refine PW.iload_n q_163_3 rfl ?_
    refine PW.jz_lt q_163_4 rfl (fun h145 => False.elim (by omega)) (fun h145 => ?_)
    refine PW.aload_n q_163_7 rfl ?_
    refine PW.gR 295 q_163_8 (Or.inl t_ft_163_14) gF_40_1 kd_294 IM141.1 (by decide) rfl ?_
    refine PW.aload_n q_163_11 rfl ?_
    refine PW.gE q_163_12 (Or.inl t_ft_163_7) gF_40_2 kd_294 IM141.1 (by decide) fM141 ?_
    refine PW.iload_n q_163_15 rfl ?_
    refine PW.iload_n q_163_16 rfl ?_
    refine PW.shrH q_163_17 fun x146 => ?_
    refine PW.bH q_163_18 fun x147 => ?_
    -- index (16, 956) of 940 at X12_four 19
    refine PW.wY q_163_19 gA_41 kd_295 hV IM141 (by decide) rfl gC_41_0_939 (by omega) (by omega) fun M148 IM148 UM148 => ?_
    have FM148 := Fr.pu FM141 UM148.1 kd_295 (rfl : List.contains [40, 41] 41 = true)
    refine PW.aload_n q_163_20 rfl ?_
    refine PW.dup q_163_21 rfl ?_
    refine PW.gE q_163_22 (Or.inl t_ft_163_7) gF_40_2 kd_294 IM148.1 (by decide) ((congrArg (fun e => o_f e 2) (UM148.1 _ (g_ne kd_294 kd_295 (by decide)))).trans fM141) ?_
    refine PW.cI q_163_25 (by decide) fun c149 hc149 => ?_
    refine PW.addN q_163_26 (by omega) (by omega) fun x150 hx150 => ?_
    refine PW.pI q_163_27 (Or.inl t_ft_163_7) gF_40_2 gP_40_2 kd_294 hV IM148 (by decide) rfl (by omega) (by omega) fun M151 IM151 fM151 UM151 => ?_
    have FM151 := Fr.pu FM148 UM151.1 kd_294 (rfl : List.contains [40, 41] 40 = true)
    refine PW.incN q_163_30 rfl (by decide) (by decide) (by omega) (by omega) fun x152 hx152 => ?_
    refine PW.goto q_163_33 rfl ?_
    refine PW.iload_n q_163_3 rfl ?_
    refine PW.jz_lt q_163_4 rfl (fun h153 => False.elim (by omega)) (fun h153 => ?_)
    refine PW.aload_n q_163_7 rfl ?_
    refine PW.gR 295 q_163_8 (Or.inl t_ft_163_14) gF_40_1 kd_294 IM151.1 (by decide) rfl ?_
    refine PW.aload_n q_163_11 rfl ?_
    refine PW.gE q_163_12 (Or.inl t_ft_163_7) gF_40_2 kd_294 IM151.1 (by decide) fM151 ?_
    refine PW.iload_n q_163_15 rfl ?_
    refine PW.iload_n q_163_16 rfl ?_
    refine PW.shrH q_163_17 fun x154 => ?_
    refine PW.bH q_163_18 fun x155 => ?_
    -- index (17, 957) of 940 at X12_four 19
    refine PW.wY q_163_19 gA_41 kd_295 hV IM151 (by decide) rfl gC_41_0_939 (by omega) (by omega) fun M156 IM156 UM156 => ?_
    have FM156 := Fr.pu FM151 UM156.1 kd_295 (rfl : List.contains [40, 41] 41 = true)
    refine PW.aload_n q_163_20 rfl ?_
    refine PW.dup q_163_21 rfl ?_
    refine PW.gE q_163_22 (Or.inl t_ft_163_7) gF_40_2 kd_294 IM156.1 (by decide) ((congrArg (fun e => o_f e 2) (UM156.1 _ (g_ne kd_294 kd_295 (by decide)))).trans fM151) ?_
    refine PW.cI q_163_25 (by decide) fun c157 hc157 => ?_
    refine PW.addN q_163_26 (by omega) (by omega) fun x158 hx158 => ?_
    refine PW.pI q_163_27 (Or.inl t_ft_163_7) gF_40_2 gP_40_2 kd_294 hV IM156 (by decide) rfl (by omega) (by omega) fun M159 IM159 fM159 UM159 => ?_
    have FM159 := Fr.pu FM156 UM159.1 kd_294 (rfl : List.contains [40, 41] 40 = true)
    refine PW.incN q_163_30 rfl (by decide) (by decide) (by omega) (by omega) fun x160 hx160 => ?_
    refine PW.goto q_163_33 rfl ?_
    refine PW.iload_n q_163_3 rfl ?_
    refine PW.jz_lt q_163_4 rfl (fun h161 => False.elim (by omega)) (fun h161 => ?_)
    refine PW.aload_n q_163_7 rfl ?_
    refine PW.gR 295 q_163_8 (Or.inl t_ft_163_14) gF_40_1 kd_294 IM159.1 (by decide) rfl ?_
    refine PW.aload_n q_163_11 rfl ?_
    refine PW.gE q_163_12 (Or.inl t_ft_163_7) gF_40_2 kd_294 IM159.1 (by decide) fM159 ?_
    refine PW.iload_n q_163_15 rfl ?_
    refine PW.iload_n q_163_16 rfl ?_
    refine PW.shrH q_163_17 fun x162 => ?_
    refine PW.bH q_163_18 fun x163 => ?_
    -- index (18, 958) of 940 at X12_four 19
    refine PW.wY q_163_19 gA_41 kd_295 hV IM159 (by decide) rfl gC_41_0_939 (by omega) (by omega) fun M164 IM164 UM164 => ?_
    have FM164 := Fr.pu FM159 UM164.1 kd_295 (rfl : List.contains [40, 41] 41 = true)
    refine PW.aload_n q_163_20 rfl ?_
    refine PW.dup q_163_21 rfl ?_
    refine PW.gE q_163_22 (Or.inl t_ft_163_7) gF_40_2 kd_294 IM164.1 (by decide) ((congrArg (fun e => o_f e 2) (UM164.1 _ (g_ne kd_294 kd_295 (by decide)))).trans fM159) ?_
    refine PW.cI q_163_25 (by decide) fun c165 hc165 => ?_
    refine PW.addN q_163_26 (by omega) (by omega) fun x166 hx166 => ?_
    refine PW.pI q_163_27 (Or.inl t_ft_163_7) gF_40_2 gP_40_2 kd_294 hV IM164 (by decide) rfl (by omega) (by omega) fun M167 IM167 fM167 UM167 => ?_
    have FM167 := Fr.pu FM164 UM167.1 kd_294 (rfl : List.contains [40, 41] 40 = true)
    refine PW.incN q_163_30 rfl (by decide) (by decide) (by omega) (by omega) fun x168 hx168 => ?_
    refine PW.goto q_163_33 rfl ?_
    refine PW.iload_n q_163_3 rfl ?_
    refine PW.jz_lt q_163_4 rfl (fun h169 => False.elim (by omega)) (fun h169 => ?_)
    refine PW.aload_n q_163_7 rfl ?_
    refine PW.gR 295 q_163_8 (Or.inl t_ft_163_14) gF_40_1 kd_294 IM167.1 (by decide) rfl ?_
    refine PW.aload_n q_163_11 rfl ?_
    refine PW.gE q_163_12 (Or.inl t_ft_163_7) gF_40_2 kd_294 IM167.1 (by decide) fM167 ?_
    refine PW.iload_n q_163_15 rfl ?_
    refine PW.iload_n q_163_16 rfl ?_
    refine PW.shrH q_163_17 fun x170 => ?_
    refine PW.bH q_163_18 fun x171 => ?_
    -- index (19, 959) of 940 at X12_four 19
    refine PW.wY q_163_19 gA_41 kd_295 hV IM167 (by decide) rfl gC_41_0_939 (by omega) (by omega) fun M172 IM172 UM172 => ?_
    have FM172 := Fr.pu FM167 UM172.1 kd_295 (rfl : List.contains [40, 41] 41 = true)
    refine PW.aload_n q_163_20 rfl ?_
    refine PW.dup q_163_21 rfl ?_
    refine PW.gE q_163_22 (Or.inl t_ft_163_7) gF_40_2 kd_294 IM172.1 (by decide) ((congrArg (fun e => o_f e 2) (UM172.1 _ (g_ne kd_294 kd_295 (by decide)))).trans fM167) ?_
    refine PW.cI q_163_25 (by decide) fun c173 hc173 => ?_
    refine PW.addN q_163_26 (by omega) (by omega) fun x174 hx174 => ?_
    refine PW.pI q_163_27 (Or.inl t_ft_163_7) gF_40_2 gP_40_2 kd_294 hV IM172 (by decide) rfl (by omega) (by omega) fun M175 IM175 fM175 UM175 => ?_
    have FM175 := Fr.pu FM172 UM175.1 kd_294 (rfl : List.contains [40, 41] 40 = true)
    refine PW.incN q_163_30 rfl (by decide) (by decide) (by omega) (by omega) fun x176 hx176 => ?_
    refine PW.goto q_163_33 rfl ?_
    refine PW.iload_n q_163_3 rfl ?_
    refine PW.jz_lt q_163_4 rfl (fun h177 => ?_) (fun h177 => False.elim (by omega))
    refine PW.vret q_163_36 rfl (by decide) (by decide) ?_
    refine PW.aload_n q_162_47 rfl ?_
    refine PW.gE q_162_48 (Or.inl t_ft_162_7) gF_40_2 kd_294 IM175.1 (by decide) fM175 ?_
    refine PW.rI q_162_51 rfl (by decide) (by decide) ?_
    exact hK x174 M175 IM175 FM175
  · skip
    refine PW.cI q_162_18 (by decide) fun c178 hc178 => ?_
    refine PW.rI q_162_19 rfl (by decide) (by decide) ?_
    exact hK c178 M2 IM2 FM2
theorem c_X12_end (V : pM → Prop) (hV : Stab V) (G : pG) (Kr : pK) (M : pM) (I : Iv V M) (a1 : Int32) (hK : ∀ (x : Int32) (M1 : pM), Iv V M1 → Fr [40] M M1 → 0 ≤ x.toInt → x.toInt ≤ 1 → Kr.1 (some (.int x)) 311 M1) : PW G false 0 164 (p_mc 164) (p_msl 164) Kr 0 (lv_args 0 [.ref 294, .int a1]) [] 311 M 0 0 := by
  have F : Fr [40] M M := Fr.refl
  refine PW.aload_n q_164_0 rfl ?_
  refine PW.cI q_164_1 (by decide) fun c1 hc1 => ?_
  refine PW.pI q_164_2 (Or.inl t_ft_164_1) gF_40_0 gP_40_0 kd_294 hV I (by decide) rfl (n_lo _) (n_hi _) fun M2 IM2 fM2 UM2 => ?_
  have FM2 := Fr.pu F UM2.1 kd_294 (rfl : List.contains [40] 40 = true)
  refine PW.iload_n q_164_5 rfl ?_
  refine PW.jz_lt q_164_6 rfl (fun h3 => ?_) (fun h3 => ?_)
  · skip
    refine PW.cI q_164_17 (by decide) fun c4 hc4 => ?_
    refine PW.rZ q_164_18 rfl (by omega) (by omega) (by decide) (by decide) ?_
    exact hK c4 M2 IM2 FM2 (by omega) (by omega)
  · skip
    refine PW.iload_n q_164_9 rfl ?_
    refine PW.aload_n q_164_10 rfl ?_
    refine PW.gI q_164_11 (Or.inl t_ft_164_7) gF_40_2 kd_294 IM2.1 (by decide) fun x5 fx5 hx5 kx5 => ?_
    refine PW.jc_le q_164_14 rfl (fun h6 => ?_) (fun h6 => ?_)
    · skip
      refine PW.aload_n q_164_19 rfl ?_
      refine PW.iload_n q_164_20 rfl ?_
      refine PW.pI q_164_21 (Or.inl t_ft_164_7) gF_40_2 gP_40_2 kd_294 hV IM2 (by decide) rfl (by omega) (by omega) fun M7 IM7 fM7 UM7 => ?_
      have FM7 := Fr.pu FM2 UM7.1 kd_294 (rfl : List.contains [40] 40 = true)
      refine PW.cI q_164_24 (by decide) fun c8 hc8 => ?_
      refine PW.rZ q_164_25 rfl (by omega) (by omega) (by decide) (by decide) ?_
      exact hK c8 M7 IM7 FM7 (by omega) (by omega)
    · skip
      refine PW.cI q_164_17 (by decide) fun c9 hc9 => ?_
      refine PW.rZ q_164_18 rfl (by omega) (by omega) (by decide) (by decide) ?_
      exact hK c9 M2 IM2 FM2 (by omega) (by omega)
theorem c_X12_taken (V : pM → Prop) (hV : Stab V) (G : pG) (Kr : pK) (M : pM) (I : Iv V M) (a1 : Int32) (hK : ∀ (M1 : pM), Iv V M1 → Fr [40] M M1 → Kr.1 none 311 M1) : PW G false 0 165 (p_mc 165) (p_msl 165) Kr 0 (lv_args 0 [.ref 294, .int a1]) [] 311 M 0 0 := by
  have F : Fr [40] M M := Fr.refl
  refine PW.aload_n q_165_0 rfl ?_
  refine PW.aload_n q_165_1 rfl ?_
  refine PW.gI q_165_2 (Or.inl t_ft_165_7) gF_40_2 kd_294 I.1 (by decide) fun x1 fx1 hx1 kx1 => ?_
  refine PW.pI q_165_5 (Or.inl t_ft_165_18) gF_40_3 gP_40_3 kd_294 hV I (by decide) rfl (by omega) (by omega) fun M2 IM2 fM2 UM2 => ?_
  have FM2 := Fr.pu F UM2.1 kd_294 (rfl : List.contains [40] 40 = true)
  refine PW.aload_n q_165_8 rfl ?_
  refine PW.cI q_165_9 (by decide) fun c3 hc3 => ?_
  refine PW.pI q_165_10 (Or.inl t_ft_165_7) gF_40_2 gP_40_2 kd_294 hV IM2 (by decide) rfl (by omega) (by omega) fun M4 IM4 fM4 UM4 => ?_
  have FM4 := Fr.pu FM2 UM4.1 kd_294 (rfl : List.contains [40] 40 = true)
  refine PW.aload_n q_165_13 rfl ?_
  refine PW.cI q_165_14 (by decide) fun c5 hc5 => ?_
  refine PW.pI q_165_15 (Or.inl t_ft_165_21) gF_40_4 gP_40_4 kd_294 hV IM4 (by decide) rfl (by omega) (by omega) fun M6 IM6 fM6 UM6 => ?_
  have FM6 := Fr.pu FM4 UM6.1 kd_294 (rfl : List.contains [40] 40 = true)
  refine PW.aload_n q_165_18 rfl ?_
  refine PW.iload_n q_165_19 rfl ?_
  refine PW.pI q_165_20 (Or.inl t_ft_165_24) gF_40_5 gP_40_5 kd_294 hV IM6 (by decide) rfl (n_lo _) (n_hi _) fun M7 IM7 fM7 UM7 => ?_
  have FM7 := Fr.pu FM6 UM7.1 kd_294 (rfl : List.contains [40] 40 = true)
  refine PW.vret q_165_23 rfl (by decide) (by decide) ?_
  exact hK M7 IM7 FM7
theorem c_X12_octet (V : pM → Prop) (hV : Stab V) (G : pG) (Kr : pK) (M : pM) (I : Iv V M) (a1 : Int32) (hl_a1 : 0 ≤ a1.toInt) (hh_a1 : a1.toInt ≤ 939) (hK : ∀ (x : Int32) (M1 : pM), Iv V M1 → Fr [] M M1 → 0 ≤ x.toInt → x.toInt ≤ 255 → Kr.1 (some (.int x)) 311 M1) : PW G false 0 172 (p_mc 172) (p_msl 172) Kr 0 (lv_args 0 [.ref 294, .int a1]) [] 311 M 0 0 := by
  have F : Fr [] M M := Fr.refl
  refine PW.aload_n q_172_0 rfl ?_
  refine PW.gR 295 q_172_1 (Or.inl t_ft_172_14) gF_40_1 kd_294 I.1 (by decide) rfl ?_
  refine PW.iload_n q_172_4 rfl ?_
  refine PW.aY q_172_5 gA_41 kd_295 I.1 (by decide) (by omega) (by omega) fun x1 fx1 => ?_
  refine PW.cS q_172_6 (by decide) fun c2 hc2 => ?_
  refine PW.andP q_172_9 (by omega) fun x3 hx3 kx3 => ?_
  refine PW.rI q_172_10 rfl (by decide) (by decide) ?_
  exact hK x3 M I F (by omega) (by omega)
/-- the byte that the reference reads next -/
def gpk (M : pM) : Int := if o_i (M 294) 4 < o_i (M 294) 3 then (o_a (M 295) (o_i (M 294) 4).toNat &&& 255).toInt else -1
theorem gpk_U {M M1 : pM} {k : Nat} (U : gU M M1 294 k) (h1 : 4 ≠ k) (h2 : 3 ≠ k) : gpk M1 = gpk M := by
  unfold gpk
  rw [U.i (Or.inr h1), U.i (Or.inr h2), U.1 295 (by decide)]
theorem gpk_F {l : List Nat} {M M1 : pM} (F : Fr l M M1) (h1 : l.contains 40 = false) (h2 : l.contains 41 = false) : gpk M1 = gpk M := by
  unfold gpk
  rw [F.at kd_294 h1, F.at kd_295 h2]
theorem c_X12_peek (V : pM → Prop) (hV : Stab V) (G : pG) (Kr : pK) (M : pM) (I : Iv V M)  (hK : ∀ (x : Int32) (M1 : pM), Iv V M1 → Fr [] M M1 → -1 ≤ x.toInt → x.toInt ≤ 255 → (x.toInt = gpk M1 ∧ (x.toInt = -1 ∨ (o_i (M1 294) 4 + 1 ≤ o_i (M1 294) 3 ∧ o_i (M1 294) 3 ≤ 940))) → Kr.1 (some (.int x)) 311 M1) : PW G false 0 174 (p_mc 174) (p_msl 174) Kr 0 (lv_args 0 [.ref 294]) [] 311 M 0 0 := by
  have F : Fr [] M M := Fr.refl
  refine PW.aload_n q_174_0 rfl ?_
  refine PW.gI q_174_1 (Or.inl t_ft_174_21) gF_40_4 kd_294 I.1 (by decide) fun x1 fx1 hx1 kx1 => ?_
  refine PW.aload_n q_174_4 rfl ?_
  refine PW.gI q_174_5 (Or.inl t_ft_174_18) gF_40_3 kd_294 I.1 (by decide) fun x2 fx2 hx2 kx2 => ?_
  refine PW.jc_ge q_174_8 rfl (fun h3 => ?_) (fun h3 => ?_)
  · skip
    refine PW.cI q_174_27 (by decide) fun c4 hc4 => ?_
    refine PW.rI q_174_28 rfl (by decide) (by decide) ?_
    exact hK c4 M I F (by omega) (by omega) ⟨by unfold gpk; rw [o_i_of fx1, o_i_of fx2, if_neg (by omega)]; omega, Or.inl (by omega)⟩
  · skip
    refine PW.aload_n q_174_11 rfl ?_
    refine PW.gR 295 q_174_12 (Or.inl t_ft_174_14) gF_40_1 kd_294 I.1 (by decide) rfl ?_
    refine PW.aload_n q_174_15 rfl ?_
    refine PW.gE q_174_16 (Or.inl t_ft_174_21) gF_40_4 kd_294 I.1 (by decide) fx1 ?_
    refine PW.aY q_174_19 gA_41 kd_295 I.1 (by decide) (by omega) (by omega) fun x5 fx5 => ?_
    refine PW.cS q_174_20 (by decide) fun c6 hc6 => ?_
    refine PW.andE q_174_23 (by omega) fun x7 zx7 hx7 kx7 => ?_
    refine PW.goto q_174_24 rfl ?_
    refine PW.rI q_174_28 rfl (by decide) (by decide) ?_
    exact hK x7 M I F (by omega) (by omega) ⟨by unfold gpk; rw [o_i_of fx1, o_i_of fx2, if_pos (by omega), fx5, zx7, n_255 hc6], Or.inr (by rw [o_i_of fx1, o_i_of fx2]; omega)⟩
theorem c_X12_isSmall (V : pM → Prop) (hV : Stab V) (G : pG) (Kr : pK) (M : pM) (I : Iv V M) (a0 : Int32) (hK : ∀ (x : Int32) (M1 : pM), Iv V M1 → Fr [] M M1 → 0 ≤ x.toInt → x.toInt ≤ 1 → ((x.toInt = 1 ∧ 97 ≤ a0.toInt ∧ a0.toInt ≤ 122) ∨ (x.toInt = 0 ∧ (a0.toInt < 97 ∨ 122 < a0.toInt))) → Kr.1 (some (.int x)) 311 M1) : PW G false 0 175 (p_mc 175) (p_msl 175) Kr 0 (lv_args 0 [.int a0]) [] 311 M 0 0 := by
  have F : Fr [] M M := Fr.refl
  refine PW.iload_n q_175_0 rfl ?_
  refine PW.cB q_175_1 (by decide) fun c1 hc1 => ?_
  refine PW.jc_lt q_175_3 rfl (fun h2 => ?_) (fun h2 => ?_)
  · skip
    refine PW.cI q_175_16 (by decide) fun c3 hc3 => ?_
    refine PW.rZ q_175_17 rfl (by omega) (by omega) (by decide) (by decide) ?_
    exact hK c3 M I F (by omega) (by omega) (by omega)
  · skip
    refine PW.iload_n q_175_6 rfl ?_
    refine PW.cB q_175_7 (by decide) fun c4 hc4 => ?_
    refine PW.jc_gt q_175_9 rfl (fun h5 => ?_) (fun h5 => ?_)
    · skip
      refine PW.cI q_175_16 (by decide) fun c6 hc6 => ?_
      refine PW.rZ q_175_17 rfl (by omega) (by omega) (by decide) (by decide) ?_
      exact hK c6 M I F (by omega) (by omega) (by omega)
    · skip
      refine PW.cI q_175_12 (by decide) fun c7 hc7 => ?_
      refine PW.goto q_175_13 rfl ?_
      refine PW.rZ q_175_17 rfl (by omega) (by omega) (by decide) (by decide) ?_
      exact hK c7 M I F (by omega) (by omega) (by omega)
theorem c_X12_isDigit (V : pM → Prop) (hV : Stab V) (G : pG) (Kr : pK) (M : pM) (I : Iv V M) (a0 : Int32) (hK : ∀ (x : Int32) (M1 : pM), Iv V M1 → Fr [] M M1 → 0 ≤ x.toInt → x.toInt ≤ 1 → ((x.toInt = 1 ∧ 48 ≤ a0.toInt ∧ a0.toInt ≤ 57) ∨ (x.toInt = 0 ∧ (a0.toInt < 48 ∨ 57 < a0.toInt))) → Kr.1 (some (.int x)) 311 M1) : PW G false 0 176 (p_mc 176) (p_msl 176) Kr 0 (lv_args 0 [.int a0]) [] 311 M 0 0 := by
  have F : Fr [] M M := Fr.refl
  refine PW.iload_n q_176_0 rfl ?_
  refine PW.cB q_176_1 (by decide) fun c1 hc1 => ?_
  refine PW.jc_lt q_176_3 rfl (fun h2 => ?_) (fun h2 => ?_)
  · skip
    refine PW.cI q_176_16 (by decide) fun c3 hc3 => ?_
    refine PW.rZ q_176_17 rfl (by omega) (by omega) (by decide) (by decide) ?_
    exact hK c3 M I F (by omega) (by omega) (by omega)
  · skip
    refine PW.iload_n q_176_6 rfl ?_
    refine PW.cB q_176_7 (by decide) fun c4 hc4 => ?_
    refine PW.jc_gt q_176_9 rfl (fun h5 => ?_) (fun h5 => ?_)
    · skip
      refine PW.cI q_176_16 (by decide) fun c6 hc6 => ?_
      refine PW.rZ q_176_17 rfl (by omega) (by omega) (by decide) (by decide) ?_
      exact hK c6 M I F (by omega) (by omega) (by omega)
    · skip
      refine PW.cI q_176_12 (by decide) fun c7 hc7 => ?_
      refine PW.goto q_176_13 rfl ?_
      refine PW.rZ q_176_17 rfl (by omega) (by omega) (by decide) (by decide) ?_
      exact hK c7 M I F (by omega) (by omega) (by omega)
theorem c_X12_go (V : pM → Prop) (hV : Stab V) (G : pG) (Kr : pK) (M : pM) (I : Iv V M)  (hK : ∀ (M1 : pM), Iv V M1 → Fr [40] M M1 → (o_i (M 294) 4 ≤ o_i (M1 294) 4 ∧ (o_i (M1 294) 11 = 0 ∨ o_i (M1 294) 11 = 4 ∨ o_i (M 294) 4 + 1 ≤ o_i (M1 294) 4) ∧ o_i (M1 294) 18 = o_i (M 294) 18) → Kr.1 none 311 M1) : PW G false 1 177 (p_mc 177) (p_msl 177) Kr 0 (lv_args 0 [.ref 294]) [] 311 M 0 0 := by
  have F : Fr [40] M M := Fr.refl
  have L177_0_1 : ∀ (n : Nat) (ML177_0_1 : pM), Iv (V) ML177_0_1 → Fr [40] M ML177_0_1 → o_i (M 294) 4 ≤ o_i (ML177_0_1 294) 4 → o_i (ML177_0_1 294) 18 = o_i (M 294) 18 → (940 - o_i (ML177_0_1 294) 4).toNat = n → PW G false 1 177 (p_mc 177) (p_msl 177) Kr 0 [(0, .ref 294)] [] 311 ML177_0_1 0 0 := by
    intro n
    induction n using Nat.strongRecOn with
    | ind n ih_L177_0_1 =>
    intro ML177_0_1  IML177_0_1 FML177_0_1 hbL177_0_10 hbL177_0_11 hmL177_0_1
    refine PW.aload_n q_177_0 rfl ?_
    refine PW.cV (as := []) (rest := []) q_177_1 t_mv_177_134 kd_294 IML177_0_1.1 (by decide) rfl (by decide) rfl rfl (Nat.le_of_ble_eq_true rfl) (Nat.le_of_ble_eq_true rfl) (by decide) (by decide) ?_
    refine PW.up (by decide) (c_X12_peek (V) (hV) G _ ML177_0_1 IML177_0_1  fun x3 M2 IM2 GM2 hx3 kx3 PM2 => ?_)
    have FM2 := Fr.trans FML177_0_1 GM2 (rfl)
    have tg4 := gpk_F GM2 (by decide) (by decide)
    have tr5 : o_i (M2 294) 4 = o_i (ML177_0_1 294) 4 := by rw [Fr.at GM2 kd_294 (by decide)]
    have tr6 : o_i (M2 294) 3 = o_i (ML177_0_1 294) 3 := by rw [Fr.at GM2 kd_294 (by decide)]
    have tr7 : o_i (M2 294) 11 = o_i (ML177_0_1 294) 11 := by rw [Fr.at GM2 kd_294 (by decide)]
    have tr8 : o_i (M2 294) 18 = o_i (ML177_0_1 294) 18 := by rw [Fr.at GM2 kd_294 (by decide)]
    refine PW.cB q_177_4 (by decide) fun c9 hc9 => ?_
    refine PW.jc_eq q_177_6 rfl (fun h10 => ?_) (fun h10 => ?_)
    · skip
      refine PW.aload_n q_177_18 rfl ?_
      refine PW.dup q_177_19 rfl ?_
      refine PW.gI q_177_20 (Or.inl t_ft_177_21) gF_40_4 kd_294 IM2.1 (by decide) fun x11 fx11 hx11 kx11 => ?_
      have trx11 := o_i_of fx11
      refine PW.cI q_177_23 (by decide) fun c12 hc12 => ?_
      refine PW.addN q_177_24 (by omega) (by omega) fun x13 hx13 => ?_
      refine PW.pI q_177_25 (Or.inl t_ft_177_21) gF_40_4 gP_40_4 kd_294 hV IM2 (by decide) rfl (by omega) (by omega) fun M14 IM14 fM14 UM14 => ?_
      have FM14 := Fr.pu FM2 UM14.1 kd_294 (rfl : List.contains [40] 40 = true)
      have tr15 := o_i_of fM14
      have tr16 := UM14.i (c := 294) (k := 3) (Or.inr (by decide))
      have tr17 := UM14.i (c := 294) (k := 11) (Or.inr (by decide))
      have tr18 := UM14.i (c := 294) (k := 18) (Or.inr (by decide))
      refine PW.goto q_177_28 rfl ?_
      refine PW.lvS (lk1 rfl lk0) (ih_L177_0_1 _ ?_ M14  IM14 FM14 (by omega) (by omega) rfl)
      omega
    · skip
      refine PW.aload_n q_177_9 rfl ?_
      refine PW.cV (as := []) (rest := []) q_177_10 t_mv_177_134 kd_294 IM2.1 (by decide) rfl (by decide) rfl rfl (Nat.le_of_ble_eq_true rfl) (Nat.le_of_ble_eq_true rfl) (by decide) (by decide) ?_
      refine PW.up (by decide) (c_X12_peek (V) (hV) G _ M2 IM2  fun x20 M19 IM19 GM19 hx20 kx20 PM19 => ?_)
      have FM19 := Fr.trans FM2 GM19 (rfl)
      have tg21 := gpk_F GM19 (by decide) (by decide)
      have tr22 : o_i (M19 294) 4 = o_i (M2 294) 4 := by rw [Fr.at GM19 kd_294 (by decide)]
      have tr23 : o_i (M19 294) 3 = o_i (M2 294) 3 := by rw [Fr.at GM19 kd_294 (by decide)]
      have tr24 : o_i (M19 294) 11 = o_i (M2 294) 11 := by rw [Fr.at GM19 kd_294 (by decide)]
      have tr25 : o_i (M19 294) 18 = o_i (M2 294) 18 := by rw [Fr.at GM19 kd_294 (by decide)]
      refine PW.cB q_177_13 (by decide) fun c26 hc26 => ?_
      refine PW.jc_ne q_177_15 rfl (fun h27 => ?_) (fun h27 => ?_)
      · skip
        refine PW.aload_n q_177_31 rfl ?_
        refine PW.aload_n q_177_32 rfl ?_
        refine PW.gI q_177_33 (Or.inl t_ft_177_21) gF_40_4 kd_294 IM19.1 (by decide) fun x28 fx28 hx28 kx28 => ?_
        have trx28 := o_i_of fx28
        refine PW.pI q_177_36 (Or.inl t_ft_177_138) gF_40_12 gP_40_12 kd_294 hV IM19 (by decide) rfl (n_lo _) (n_hi _) fun M29 IM29 fM29 UM29 => ?_
        have FM29 := Fr.pu FM19 UM29.1 kd_294 (rfl : List.contains [40] 40 = true)
        have tg30 := gpk_U UM29 (by decide) (by decide)
        have tr31 := UM29.i (c := 294) (k := 4) (Or.inr (by decide))
        have tr32 := UM29.i (c := 294) (k := 3) (Or.inr (by decide))
        have tr33 := UM29.i (c := 294) (k := 11) (Or.inr (by decide))
        have tr34 := UM29.i (c := 294) (k := 18) (Or.inr (by decide))
        refine PW.aload_n q_177_39 rfl ?_
        refine PW.cI q_177_40 (by decide) fun c35 hc35 => ?_
        refine PW.pI q_177_41 (Or.inl t_ft_177_141) gF_40_13 gP_40_13 kd_294 hV IM29 (by decide) rfl (n_lo _) (n_hi _) fun M36 IM36 fM36 UM36 => ?_
        have FM36 := Fr.pu FM29 UM36.1 kd_294 (rfl : List.contains [40] 40 = true)
        have tg37 := gpk_U UM36 (by decide) (by decide)
        have tr38 := UM36.i (c := 294) (k := 4) (Or.inr (by decide))
        have tr39 := UM36.i (c := 294) (k := 3) (Or.inr (by decide))
        have tr40 := UM36.i (c := 294) (k := 11) (Or.inr (by decide))
        have tr41 := UM36.i (c := 294) (k := 18) (Or.inr (by decide))
        refine PW.aload_n q_177_44 rfl ?_
        refine PW.gI q_177_45 (Or.inl t_ft_177_18) gF_40_3 kd_294 IM36.1 (by decide) fun x42 fx42 hx42 kx42 => ?_
        have trx42 := o_i_of fx42
        refine PW.aload_n q_177_48 rfl ?_
        refine PW.gI q_177_49 (Or.inl t_ft_177_24) gF_40_5 kd_294 IM36.1 (by decide) fun x43 fx43 hx43 kx43 => ?_
        clear hx43 kx43
        have J80_45 : ∀ (MJ80_45 : pM), Iv (V) MJ80_45 → Fr [40] M MJ80_45 → o_i (MJ80_45 294) 4 = o_i (M36 294) 4 → o_i (MJ80_45 294) 3 = o_i (M36 294) 3 → o_i (MJ80_45 294) 11 = o_i (M36 294) 11 → o_i (MJ80_45 294) 18 = o_i (M36 294) 18 → gpk MJ80_45 = gpk M36 → o_f (MJ80_45 294) 4 = .int x28 → o_f (MJ80_45 294) 12 = .int x28 → o_f (MJ80_45 294) 13 = .int c35 → o_f (MJ80_45 294) 3 = .int x42 → o_f (MJ80_45 294) 5 = .int x43 → PW G false 1 177 (p_mc 177) (p_msl 177) Kr 80 [(0, .ref 294)] [] 311 MJ80_45 0 0 := by
          intro MJ80_45  IMJ80_45 FMJ80_45 hbJ80_450 hbJ80_451 hbJ80_452 hbJ80_453 hbJ80_454 hbJ80_455 hbJ80_456 hbJ80_457 hbJ80_458 hbJ80_459
          refine PW.aload_n q_177_80 rfl ?_
          refine PW.cV (as := []) (rest := []) q_177_81 t_mv_177_134 kd_294 IMJ80_45.1 (by decide) rfl (by decide) rfl rfl (Nat.le_of_ble_eq_true rfl) (Nat.le_of_ble_eq_true rfl) (by decide) (by decide) ?_
          refine PW.up (by decide) (c_X12_peek (V) (hV) G _ MJ80_45 IMJ80_45  fun x47 M46 IM46 GM46 hx47 kx47 PM46 => ?_)
          have FM46 := Fr.trans FMJ80_45 GM46 (rfl)
          have tg48 := gpk_F GM46 (by decide) (by decide)
          have tr49 : o_i (M46 294) 4 = o_i (MJ80_45 294) 4 := by rw [Fr.at GM46 kd_294 (by decide)]
          have tr50 : o_i (M46 294) 3 = o_i (MJ80_45 294) 3 := by rw [Fr.at GM46 kd_294 (by decide)]
          have tr51 : o_i (M46 294) 11 = o_i (MJ80_45 294) 11 := by rw [Fr.at GM46 kd_294 (by decide)]
          have tr52 : o_i (M46 294) 18 = o_i (MJ80_45 294) 18 := by rw [Fr.at GM46 kd_294 (by decide)]
          refine PW.istore_n q_177_84 (by decide) ?_
          refine PW.iload_n q_177_85 rfl ?_
          refine PW.jz_ge q_177_86 rfl (fun h53 => ?_) (fun h53 => ?_)
          · skip
            refine PW.iload_n q_177_95 rfl ?_
            refine PW.callS (as := [_]) (rest := []) q_177_96 t_ms_177_147 (by decide) rfl (Nat.le_of_ble_eq_true rfl) (Nat.le_of_ble_eq_true rfl) (by decide) (by decide) ?_
            refine PW.up (by decide) (c_X12_isSmall (V) (hV) G _ M46 IM46 x47 fun x55 M54 IM54 GM54 hx55 kx55 PM54 => ?_)
            have FM54 := Fr.trans FM46 GM54 (rfl)
            have tg56 := gpk_F GM54 (by decide) (by decide)
            have tr57 : o_i (M54 294) 4 = o_i (M46 294) 4 := by rw [Fr.at GM54 kd_294 (by decide)]
            have tr58 : o_i (M54 294) 3 = o_i (M46 294) 3 := by rw [Fr.at GM54 kd_294 (by decide)]
            have tr59 : o_i (M54 294) 11 = o_i (M46 294) 11 := by rw [Fr.at GM54 kd_294 (by decide)]
            have tr60 : o_i (M54 294) 18 = o_i (M46 294) 18 := by rw [Fr.at GM54 kd_294 (by decide)]
            have J164_62 : ∀ (MJ164_62 : pM), Iv (V) MJ164_62 → Fr [40] M MJ164_62 → (97 ≤ x47.toInt ∧ x47.toInt ≤ 122) ∨ (48 ≤ x47.toInt ∧ x47.toInt ≤ 57) → o_i (MJ164_62 294) 4 = o_i (M54 294) 4 → o_i (MJ164_62 294) 3 = o_i (M54 294) 3 → o_i (MJ164_62 294) 11 = o_i (M54 294) 11 → o_i (MJ164_62 294) 18 = o_i (M54 294) 18 → gpk MJ164_62 = gpk M54 → o_f (MJ164_62 294) 4 = .int x28 → o_f (MJ164_62 294) 12 = .int x28 → o_f (MJ164_62 294) 13 = .int c35 → o_f (MJ164_62 294) 3 = .int x42 → o_f (MJ164_62 294) 5 = .int x43 → PW G false 1 177 (p_mc 177) (p_msl 177) Kr 164 [(0, .ref 294), (1, .int x47)] [] 311 MJ164_62 0 0 := by
              intro MJ164_62  IMJ164_62 FMJ164_62 hbJ164_620 hbJ164_621 hbJ164_622 hbJ164_623 hbJ164_624 hbJ164_625 hbJ164_626 hbJ164_627 hbJ164_628 hbJ164_629 hbJ164_6210
              refine PW.iload_n q_177_164 rfl ?_
              refine PW.callS (as := [_]) (rest := []) q_177_165 t_ms_177_147 (by decide) rfl (Nat.le_of_ble_eq_true rfl) (Nat.le_of_ble_eq_true rfl) (by decide) (by decide) ?_
              refine PW.up (by decide) (c_X12_isSmall (V) (hV) G _ MJ164_62 IMJ164_62 x47 fun x64 M63 IM63 GM63 hx64 kx64 PM63 => ?_)
              have FM63 := Fr.trans FMJ164_62 GM63 (rfl)
              have tg65 := gpk_F GM63 (by decide) (by decide)
              have tr66 : o_i (M63 294) 4 = o_i (MJ164_62 294) 4 := by rw [Fr.at GM63 kd_294 (by decide)]
              have tr67 : o_i (M63 294) 3 = o_i (MJ164_62 294) 3 := by rw [Fr.at GM63 kd_294 (by decide)]
              have tr68 : o_i (M63 294) 11 = o_i (MJ164_62 294) 11 := by rw [Fr.at GM63 kd_294 (by decide)]
              have tr69 : o_i (M63 294) 18 = o_i (MJ164_62 294) 18 := by rw [Fr.at GM63 kd_294 (by decide)]
              refine PW.istore_n q_177_168 (by decide) ?_
              refine PW.cI q_177_169 (by decide) fun c70 hc70 => ?_
              refine PW.istore_n q_177_170 (by decide) ?_
              refine PW.aload_n q_177_171 rfl ?_
              refine PW.lconst q_177_172 ?_
              refine PW.pL q_177_173 (Or.inl t_ft_177_157) gF_40_17 gP_40_17 kd_294 hV IM63 (by decide) rfl fun M71 IM71 fM71 UM71 => ?_
              have FM71 := Fr.pu FM63 UM71.1 kd_294 (rfl : List.contains [40] 40 = true)
              have tg72 := gpk_U UM71 (by decide) (by decide)
              have tr73 := UM71.i (c := 294) (k := 4) (Or.inr (by decide))
              have tr74 := UM71.i (c := 294) (k := 3) (Or.inr (by decide))
              have tr75 := UM71.i (c := 294) (k := 11) (Or.inr (by decide))
              have tr76 := UM71.i (c := 294) (k := 18) (Or.inr (by decide))
              refine PW.aload_n q_177_176 rfl ?_
              refine PW.cI q_177_177 (by decide) fun c77 hc77 => ?_
              refine PW.pI q_177_178 (Or.inl t_ft_177_154) gF_40_14 gP_40_14 kd_294 hV IM71 (by decide) rfl (n_lo _) (n_hi _) fun M78 IM78 fM78 UM78 => ?_
              have FM78 := Fr.pu FM71 UM78.1 kd_294 (rfl : List.contains [40] 40 = true)
              have tg79 := gpk_U UM78 (by decide) (by decide)
              have tr80 := UM78.i (c := 294) (k := 4) (Or.inr (by decide))
              have tr81 := UM78.i (c := 294) (k := 3) (Or.inr (by decide))
              have tr82 := UM78.i (c := 294) (k := 11) (Or.inr (by decide))
              have tr83 := UM78.i (c := 294) (k := 18) (Or.inr (by decide))
              refine PW.aload_n q_177_181 rfl ?_
              refine PW.cV (as := []) (rest := []) q_177_182 t_mv_177_134 kd_294 IM78.1 (by decide) rfl (by decide) rfl rfl (Nat.le_of_ble_eq_true rfl) (Nat.le_of_ble_eq_true rfl) (by decide) (by decide) ?_
              refine PW.up (by decide) (c_X12_peek (V) (hV) G _ M78 IM78  fun x85 M84 IM84 GM84 hx85 kx85 PM84 => ?_)
              have FM84 := Fr.trans FM78 GM84 (rfl)
              have tg86 := gpk_F GM84 (by decide) (by decide)
              have tr87 : o_i (M84 294) 4 = o_i (M78 294) 4 := by rw [Fr.at GM84 kd_294 (by decide)]
              have tr88 : o_i (M84 294) 3 = o_i (M78 294) 3 := by rw [Fr.at GM84 kd_294 (by decide)]
              have tr89 : o_i (M84 294) 11 = o_i (M78 294) 11 := by rw [Fr.at GM84 kd_294 (by decide)]
              have tr90 : o_i (M84 294) 18 = o_i (M78 294) 18 := by rw [Fr.at GM84 kd_294 (by decide)]
              refine PW.callS (as := [_]) (rest := []) q_177_185 t_ms_177_147 (by decide) rfl (Nat.le_of_ble_eq_true rfl) (Nat.le_of_ble_eq_true rfl) (by decide) (by decide) ?_
              refine PW.up (by decide) (c_X12_isSmall (V) (hV) G _ M84 IM84 x85 fun x92 M91 IM91 GM91 hx92 kx92 PM91 => ?_)
              have FM91 := Fr.trans FM84 GM91 (rfl)
              have tg93 := gpk_F GM91 (by decide) (by decide)
              have tr94 : o_i (M91 294) 4 = o_i (M84 294) 4 := by rw [Fr.at GM91 kd_294 (by decide)]
              have tr95 : o_i (M91 294) 3 = o_i (M84 294) 3 := by rw [Fr.at GM91 kd_294 (by decide)]
              have tr96 : o_i (M91 294) 11 = o_i (M84 294) 11 := by rw [Fr.at GM91 kd_294 (by decide)]
              have tr97 : o_i (M91 294) 18 = o_i (M84 294) 18 := by rw [Fr.at GM91 kd_294 (by decide)]
              have J201_99 : ∀ (MJ201_99 : pM), Iv (V) MJ201_99 → Fr [40] M MJ201_99 → o_i (MJ201_99 294) 4 + 1 ≤ o_i (MJ201_99 294) 3 → o_i (MJ201_99 294) 3 ≤ 940 → o_i (MJ201_99 294) 4 = o_i (M91 294) 4 → o_i (MJ201_99 294) 3 = o_i (M91 294) 3 → o_i (MJ201_99 294) 11 = o_i (M91 294) 11 → o_i (MJ201_99 294) 18 = o_i (M91 294) 18 → gpk MJ201_99 = gpk M91 → o_f (MJ201_99 294) 4 = .int x28 → o_f (MJ201_99 294) 12 = .int x28 → o_f (MJ201_99 294) 13 = .int c35 → o_f (MJ201_99 294) 3 = .int x42 → o_f (MJ201_99 294) 5 = .int x43 → o_f (MJ201_99 294) 14 = .int c77 → PW G false 1 177 (p_mc 177) (p_msl 177) Kr 201 [(0, .ref 294), (1, .int x47), (2, .int x64), (3, .int c70)] [] 311 MJ201_99 0 0 := by
                intro MJ201_99  IMJ201_99 FMJ201_99 hbJ201_990 hbJ201_991 hbJ201_992 hbJ201_993 hbJ201_994 hbJ201_995 hbJ201_996 hbJ201_997 hbJ201_998 hbJ201_999 hbJ201_9910 hbJ201_9911 hbJ201_9912
                refine PW.iload_n q_177_201 rfl ?_
                refine PW.jz_eq q_177_202 rfl (fun h100 => False.elim (by omega)) (fun h100 => ?_)
                refine PW.aload_n q_177_205 rfl ?_
                refine PW.cV (as := []) (rest := []) q_177_206 t_mv_177_134 kd_294 IMJ201_99.1 (by decide) rfl (by decide) rfl rfl (Nat.le_of_ble_eq_true rfl) (Nat.le_of_ble_eq_true rfl) (by decide) (by decide) ?_
                refine PW.up (by decide) (c_X12_peek (V) (hV) G _ MJ201_99 IMJ201_99  fun x102 M101 IM101 GM101 hx102 kx102 PM101 => ?_)
                have FM101 := Fr.trans FMJ201_99 GM101 (rfl)
                have tg103 := gpk_F GM101 (by decide) (by decide)
                have tr104 : o_i (M101 294) 4 = o_i (MJ201_99 294) 4 := by rw [Fr.at GM101 kd_294 (by decide)]
                have tr105 : o_i (M101 294) 3 = o_i (MJ201_99 294) 3 := by rw [Fr.at GM101 kd_294 (by decide)]
                have tr106 : o_i (M101 294) 11 = o_i (MJ201_99 294) 11 := by rw [Fr.at GM101 kd_294 (by decide)]
                have tr107 : o_i (M101 294) 18 = o_i (MJ201_99 294) 18 := by rw [Fr.at GM101 kd_294 (by decide)]
                refine PW.callS (as := [_]) (rest := []) q_177_209 t_ms_177_147 (by decide) rfl (Nat.le_of_ble_eq_true rfl) (Nat.le_of_ble_eq_true rfl) (by decide) (by decide) ?_
                refine PW.up (by decide) (c_X12_isSmall (V) (hV) G _ M101 IM101 x102 fun x109 M108 IM108 GM108 hx109 kx109 PM108 => ?_)
                have FM108 := Fr.trans FM101 GM108 (rfl)
                have tg110 := gpk_F GM108 (by decide) (by decide)
                have tr111 : o_i (M108 294) 4 = o_i (M101 294) 4 := by rw [Fr.at GM108 kd_294 (by decide)]
                have tr112 : o_i (M108 294) 3 = o_i (M101 294) 3 := by rw [Fr.at GM108 kd_294 (by decide)]
                have tr113 : o_i (M108 294) 11 = o_i (M101 294) 11 := by rw [Fr.at GM108 kd_294 (by decide)]
                have tr114 : o_i (M108 294) 18 = o_i (M101 294) 18 := by rw [Fr.at GM108 kd_294 (by decide)]
                refine PW.iload_n q_177_212 rfl ?_
                have J221_116 : ∀ (MJ221_116 : pM) (s117 : Int32), Iv (V) MJ221_116 → Fr [40] M MJ221_116 → 0 ≤ s117.toInt → s117.toInt ≤ 1 → o_i (MJ221_116 294) 4 = o_i (M108 294) 4 → o_i (MJ221_116 294) 3 = o_i (M108 294) 3 → o_i (MJ221_116 294) 11 = o_i (M108 294) 11 → o_i (MJ221_116 294) 18 = o_i (M108 294) 18 → gpk MJ221_116 = gpk M108 → o_f (MJ221_116 294) 4 = .int x28 → o_f (MJ221_116 294) 12 = .int x28 → o_f (MJ221_116 294) 13 = .int c35 → o_f (MJ221_116 294) 3 = .int x42 → o_f (MJ221_116 294) 5 = .int x43 → o_f (MJ221_116 294) 14 = .int c77 → PW G false 1 177 (p_mc 177) (p_msl 177) Kr 221 [(0, .ref 294), (1, .int x47), (2, .int x64), (3, .int c70)] [.int s117] 311 MJ221_116 0 0 := by
                  intro MJ221_116 s117 IMJ221_116 FMJ221_116 hbJ221_1160 hbJ221_1161 hbJ221_1162 hbJ221_1163 hbJ221_1164 hbJ221_1165 hbJ221_1166 hbJ221_1167 hbJ221_1168 hbJ221_1169 hbJ221_11610 hbJ221_11611 hbJ221_11612
                  refine PW.istore_n q_177_221 (by decide) ?_
                  refine PW.aload_n q_177_222 rfl ?_
                  refine PW.gE q_177_223 (Or.inl t_ft_177_141) gF_40_13 kd_294 IMJ221_116.1 (by decide) hbJ221_1169 ?_
                  refine PW.cB q_177_226 (by decide) fun c118 hc118 => ?_
                  refine PW.jc_ge q_177_228 rfl (fun h119 => False.elim (by omega)) (fun h119 => ?_)
                  refine PW.aload_n q_177_231 rfl ?_
                  refine PW.aload_n q_177_232 rfl ?_
                  refine PW.gL q_177_233 (Or.inl t_ft_177_157) gF_40_17 kd_294 IMJ221_116.1 (by decide) fun l120 fl120 => ?_
                  refine PW.cB q_177_236 (by decide) fun c121 hc121 => ?_
                  refine PW.lshl q_177_238 ?_
                  refine PW.aload_n q_177_239 rfl ?_
                  refine PW.cV (as := []) (rest := [_, _]) q_177_240 t_mv_177_134 kd_294 IMJ221_116.1 (by decide) rfl (by decide) rfl rfl (Nat.le_of_ble_eq_true rfl) (Nat.le_of_ble_eq_true rfl) (by decide) (by decide) ?_
                  refine PW.up (by decide) (c_X12_peek (V) (hV) G _ MJ221_116 IMJ221_116  fun x123 M122 IM122 GM122 hx123 kx123 PM122 => ?_)
                  have FM122 := Fr.trans FMJ221_116 GM122 (rfl)
                  have tg124 := gpk_F GM122 (by decide) (by decide)
                  have tr125 : o_i (M122 294) 4 = o_i (MJ221_116 294) 4 := by rw [Fr.at GM122 kd_294 (by decide)]
                  have tr126 : o_i (M122 294) 3 = o_i (MJ221_116 294) 3 := by rw [Fr.at GM122 kd_294 (by decide)]
                  have tr127 : o_i (M122 294) 11 = o_i (MJ221_116 294) 11 := by rw [Fr.at GM122 kd_294 (by decide)]
                  have tr128 : o_i (M122 294) 18 = o_i (MJ221_116 294) 18 := by rw [Fr.at GM122 kd_294 (by decide)]
                  refine PW.i2l q_177_243 ?_
                  refine PW.lor q_177_244 ?_
                  refine PW.pL q_177_245 (Or.inl t_ft_177_157) gF_40_17 gP_40_17 kd_294 hV IM122 (by decide) rfl fun M129 IM129 fM129 UM129 => ?_
                  have FM129 := Fr.pu FM122 UM129.1 kd_294 (rfl : List.contains [40] 40 = true)
                  have tg130 := gpk_U UM129 (by decide) (by decide)
                  have tr131 := UM129.i (c := 294) (k := 4) (Or.inr (by decide))
                  have tr132 := UM129.i (c := 294) (k := 3) (Or.inr (by decide))
                  have tr133 := UM129.i (c := 294) (k := 11) (Or.inr (by decide))
                  have tr134 := UM129.i (c := 294) (k := 18) (Or.inr (by decide))
                  refine PW.aload_n q_177_248 rfl ?_
                  refine PW.gE q_177_249 (Or.inl t_ft_177_141) gF_40_13 kd_294 IM129.1 (by decide) ((UM129.f (Or.inr (by decide))).trans ((congrArg (fun e => o_f e 13) (Fr.at GM122 kd_294 (by decide))).trans hbJ221_1169)) ?_
                  refine PW.cI q_177_252 (by decide) fun c135 hc135 => ?_
                  refine PW.jc_ge q_177_253 rfl (fun h136 => False.elim (by omega)) (fun h136 => ?_)
                  refine PW.aload_n q_177_256 rfl ?_
                  refine PW.cB q_177_257 (by decide) fun c137 hc137 => ?_
                  refine PW.aload_n q_177_259 rfl ?_
                  refine PW.gE q_177_260 (Or.inl t_ft_177_154) gF_40_14 kd_294 IM129.1 (by decide) ((UM129.f (Or.inr (by decide))).trans ((congrArg (fun e => o_f e 14) (Fr.at GM122 kd_294 (by decide))).trans hbJ221_11612)) ?_
                  refine PW.mulN q_177_263 (10) (by omega) c77 (fun h => n_eq.mpr (by omega)) (fun h => n_eq.mpr (by omega)) (by omega) (by omega) fun x138 hx138 => ?_
                  refine PW.aload_n q_177_264 rfl ?_
                  refine PW.cV (as := []) (rest := [_, _]) q_177_265 t_mv_177_134 kd_294 IM129.1 (by decide) rfl (by decide) rfl rfl (Nat.le_of_ble_eq_true rfl) (Nat.le_of_ble_eq_true rfl) (by decide) (by decide) ?_
                  refine PW.up (by decide) (c_X12_peek (V) (hV) G _ M129 IM129  fun x140 M139 IM139 GM139 hx140 kx140 PM139 => ?_)
                  have FM139 := Fr.trans FM129 GM139 (rfl)
                  have tg141 := gpk_F GM139 (by decide) (by decide)
                  have tr142 : o_i (M139 294) 4 = o_i (M129 294) 4 := by rw [Fr.at GM139 kd_294 (by decide)]
                  have tr143 : o_i (M139 294) 3 = o_i (M129 294) 3 := by rw [Fr.at GM139 kd_294 (by decide)]
                  have tr144 : o_i (M139 294) 11 = o_i (M129 294) 11 := by rw [Fr.at GM139 kd_294 (by decide)]
                  have tr145 : o_i (M139 294) 18 = o_i (M129 294) 18 := by rw [Fr.at GM139 kd_294 (by decide)]
                  refine PW.addN q_177_268 (by omega) (by omega) fun x146 hx146 => ?_
                  refine PW.cB q_177_269 (by decide) fun c147 hc147 => ?_
                  refine PW.subN q_177_271 (by omega) (by omega) fun x148 hx148 => ?_
                  refine PW.pI q_177_272 (Or.inl t_ft_177_154) gF_40_14 gP_40_14 kd_294 hV IM139 (by decide) rfl (n_lo _) (n_hi _) fun M149 IM149 fM149 UM149 => ?_
                  have FM149 := Fr.pu FM139 UM149.1 kd_294 (rfl : List.contains [40] 40 = true)
                  have tg150 := gpk_U UM149 (by decide) (by decide)
                  have tr151 := UM149.i (c := 294) (k := 4) (Or.inr (by decide))
                  have tr152 := UM149.i (c := 294) (k := 3) (Or.inr (by decide))
                  have tr153 := UM149.i (c := 294) (k := 11) (Or.inr (by decide))
                  have tr154 := UM149.i (c := 294) (k := 18) (Or.inr (by decide))
                  refine PW.aload_n q_177_275 rfl ?_
                  refine PW.dup q_177_276 rfl ?_
                  refine PW.gE q_177_277 (Or.inl t_ft_177_141) gF_40_13 kd_294 IM149.1 (by decide) ((UM149.f (Or.inr (by decide))).trans ((congrArg (fun e => o_f e 13) (Fr.at GM139 kd_294 (by decide))).trans ((UM129.f (Or.inr (by decide))).trans ((congrArg (fun e => o_f e 13) (Fr.at GM122 kd_294 (by decide))).trans hbJ221_1169)))) ?_
                  refine PW.cI q_177_280 (by decide) fun c155 hc155 => ?_
                  refine PW.addN q_177_281 (by omega) (by omega) fun x156 hx156 => ?_
                  refine PW.pI q_177_282 (Or.inl t_ft_177_141) gF_40_13 gP_40_13 kd_294 hV IM149 (by decide) rfl (n_lo _) (n_hi _) fun M157 IM157 fM157 UM157 => ?_
                  have FM157 := Fr.pu FM149 UM157.1 kd_294 (rfl : List.contains [40] 40 = true)
                  have tg158 := gpk_U UM157 (by decide) (by decide)
                  have tr159 := UM157.i (c := 294) (k := 4) (Or.inr (by decide))
                  have tr160 := UM157.i (c := 294) (k := 3) (Or.inr (by decide))
                  have tr161 := UM157.i (c := 294) (k := 11) (Or.inr (by decide))
                  have tr162 := UM157.i (c := 294) (k := 18) (Or.inr (by decide))
                  refine PW.aload_n q_177_285 rfl ?_
                  refine PW.dup q_177_286 rfl ?_
                  refine PW.gE q_177_287 (Or.inl t_ft_177_21) gF_40_4 kd_294 IM157.1 (by decide) ((UM157.f (Or.inr (by decide))).trans ((UM149.f (Or.inr (by decide))).trans ((congrArg (fun e => o_f e 4) (Fr.at GM139 kd_294 (by decide))).trans ((UM129.f (Or.inr (by decide))).trans ((congrArg (fun e => o_f e 4) (Fr.at GM122 kd_294 (by decide))).trans hbJ221_1167))))) ?_
                  have tr163 := o_i_of ((UM157.f (Or.inr (by decide))).trans ((UM149.f (Or.inr (by decide))).trans ((congrArg (fun e => o_f e 4) (Fr.at GM139 kd_294 (by decide))).trans ((UM129.f (Or.inr (by decide))).trans ((congrArg (fun e => o_f e 4) (Fr.at GM122 kd_294 (by decide))).trans hbJ221_1167)))))
                  refine PW.cI q_177_290 (by decide) fun c164 hc164 => ?_
                  refine PW.addN q_177_291 (by omega) (by omega) fun x165 hx165 => ?_
                  refine PW.pI q_177_292 (Or.inl t_ft_177_21) gF_40_4 gP_40_4 kd_294 hV IM157 (by decide) rfl (by omega) (by omega) fun M166 IM166 fM166 UM166 => ?_
                  have FM166 := Fr.pu FM157 UM166.1 kd_294 (rfl : List.contains [40] 40 = true)
                  have tr167 := o_i_of fM166
                  have tr168 := UM166.i (c := 294) (k := 3) (Or.inr (by decide))
                  have tr169 := UM166.i (c := 294) (k := 11) (Or.inr (by decide))
                  have tr170 := UM166.i (c := 294) (k := 18) (Or.inr (by decide))
                  refine PW.goto q_177_295 rfl ?_
                  have L177_181_171 : ∀ (n : Nat) (ML177_181_171 : pM) (v172 : Int32), Iv (V) ML177_181_171 → Fr [40] M ML177_181_171 → 0 ≤ v172.toInt → v172.toInt ≤ 1 → o_i (M 294) 4 + 1 ≤ o_i (ML177_181_171 294) 4 → o_i (ML177_181_171 294) 18 = o_i (M 294) 18 → (940 - o_i (ML177_181_171 294) 4).toNat = n → PW G false 1 177 (p_mc 177) (p_msl 177) Kr 181 [(0, .ref 294), (1, .int x47), (2, .int x64), (3, .int v172)] [] 311 ML177_181_171 0 0 := by
                    intro n
                    induction n using Nat.strongRecOn with
                    | ind n ih_L177_181_171 =>
                    intro ML177_181_171 v172 IML177_181_171 FML177_181_171 hbL177_181_1710 hbL177_181_1711 hbL177_181_1712 hbL177_181_1713 hmL177_181_171
                    refine PW.aload_n q_177_181 rfl ?_
                    refine PW.cV (as := []) (rest := []) q_177_182 t_mv_177_134 kd_294 IML177_181_171.1 (by decide) rfl (by decide) rfl rfl (Nat.le_of_ble_eq_true rfl) (Nat.le_of_ble_eq_true rfl) (by decide) (by decide) ?_
                    refine PW.up (by decide) (c_X12_peek (V) (hV) G _ ML177_181_171 IML177_181_171  fun x174 M173 IM173 GM173 hx174 kx174 PM173 => ?_)
                    have FM173 := Fr.trans FML177_181_171 GM173 (rfl)
                    have tg175 := gpk_F GM173 (by decide) (by decide)
                    have tr176 : o_i (M173 294) 4 = o_i (ML177_181_171 294) 4 := by rw [Fr.at GM173 kd_294 (by decide)]
                    have tr177 : o_i (M173 294) 3 = o_i (ML177_181_171 294) 3 := by rw [Fr.at GM173 kd_294 (by decide)]
                    have tr178 : o_i (M173 294) 11 = o_i (ML177_181_171 294) 11 := by rw [Fr.at GM173 kd_294 (by decide)]
                    have tr179 : o_i (M173 294) 18 = o_i (ML177_181_171 294) 18 := by rw [Fr.at GM173 kd_294 (by decide)]
                    refine PW.callS (as := [_]) (rest := []) q_177_185 t_ms_177_147 (by decide) rfl (Nat.le_of_ble_eq_true rfl) (Nat.le_of_ble_eq_true rfl) (by decide) (by decide) ?_
                    refine PW.up (by decide) (c_X12_isSmall (V) (hV) G _ M173 IM173 x174 fun x181 M180 IM180 GM180 hx181 kx181 PM180 => ?_)
                    have FM180 := Fr.trans FM173 GM180 (rfl)
                    have tg182 := gpk_F GM180 (by decide) (by decide)
                    have tr183 : o_i (M180 294) 4 = o_i (M173 294) 4 := by rw [Fr.at GM180 kd_294 (by decide)]
                    have tr184 : o_i (M180 294) 3 = o_i (M173 294) 3 := by rw [Fr.at GM180 kd_294 (by decide)]
                    have tr185 : o_i (M180 294) 11 = o_i (M173 294) 11 := by rw [Fr.at GM180 kd_294 (by decide)]
                    have tr186 : o_i (M180 294) 18 = o_i (M173 294) 18 := by rw [Fr.at GM180 kd_294 (by decide)]
                    have J201_188 : ∀ (MJ201_188 : pM), Iv (V) MJ201_188 → Fr [40] M MJ201_188 → o_i (MJ201_188 294) 4 + 1 ≤ o_i (MJ201_188 294) 3 → o_i (MJ201_188 294) 3 ≤ 940 → o_i (MJ201_188 294) 4 = o_i (M180 294) 4 → o_i (MJ201_188 294) 3 = o_i (M180 294) 3 → o_i (MJ201_188 294) 11 = o_i (M180 294) 11 → o_i (MJ201_188 294) 18 = o_i (M180 294) 18 → gpk MJ201_188 = gpk M180 → PW G false 1 177 (p_mc 177) (p_msl 177) Kr 201 [(0, .ref 294), (1, .int x47), (2, .int x64), (3, .int v172)] [] 311 MJ201_188 0 0 := by
                      intro MJ201_188  IMJ201_188 FMJ201_188 hbJ201_1880 hbJ201_1881 hbJ201_1882 hbJ201_1883 hbJ201_1884 hbJ201_1885 hbJ201_1886
                      refine PW.iload_n q_177_201 rfl ?_
                      have J220_190 : ∀ (MJ220_190 : pM), Iv (V) MJ220_190 → Fr [40] M MJ220_190 → o_i (MJ220_190 294) 4 = o_i (MJ201_188 294) 4 → o_i (MJ220_190 294) 3 = o_i (MJ201_188 294) 3 → o_i (MJ220_190 294) 11 = o_i (MJ201_188 294) 11 → o_i (MJ220_190 294) 18 = o_i (MJ201_188 294) 18 → gpk MJ220_190 = gpk MJ201_188 → PW G false 1 177 (p_mc 177) (p_msl 177) Kr 220 [(0, .ref 294), (1, .int x47), (2, .int x64), (3, .int v172)] [] 311 MJ220_190 0 0 := by
                        intro MJ220_190  IMJ220_190 FMJ220_190 hbJ220_1900 hbJ220_1901 hbJ220_1902 hbJ220_1903 hbJ220_1904
                        refine PW.cI q_177_220 (by decide) fun c191 hc191 => ?_
                        refine PW.istore_n q_177_221 (by decide) ?_
                        refine PW.aload_n q_177_222 rfl ?_
                        refine PW.gI q_177_223 (Or.inl t_ft_177_141) gF_40_13 kd_294 IMJ220_190.1 (by decide) fun x192 fx192 hx192 kx192 => ?_
                        clear hx192 kx192
                        refine PW.cB q_177_226 (by decide) fun c193 hc193 => ?_
                        have J248_195 : ∀ (MJ248_195 : pM), Iv (V) MJ248_195 → Fr [40] M MJ248_195 → o_i (MJ248_195 294) 4 = o_i (MJ220_190 294) 4 → o_i (MJ248_195 294) 3 = o_i (MJ220_190 294) 3 → o_i (MJ248_195 294) 11 = o_i (MJ220_190 294) 11 → o_i (MJ248_195 294) 18 = o_i (MJ220_190 294) 18 → gpk MJ248_195 = gpk MJ220_190 → o_f (MJ248_195 294) 13 = .int x192 → PW G false 1 177 (p_mc 177) (p_msl 177) Kr 248 [(0, .ref 294), (1, .int x47), (2, .int x64), (3, .int c191)] [] 311 MJ248_195 0 0 := by
                          intro MJ248_195  IMJ248_195 FMJ248_195 hbJ248_1950 hbJ248_1951 hbJ248_1952 hbJ248_1953 hbJ248_1954 hbJ248_1955
                          refine PW.aload_n q_177_248 rfl ?_
                          refine PW.gE q_177_249 (Or.inl t_ft_177_141) gF_40_13 kd_294 IMJ248_195.1 (by decide) hbJ248_1955 ?_
                          refine PW.cI q_177_252 (by decide) fun c196 hc196 => ?_
                          have J275_198 : ∀ (MJ275_198 : pM), Iv (V) MJ275_198 → Fr [40] M MJ275_198 → o_i (MJ275_198 294) 4 = o_i (MJ248_195 294) 4 → o_i (MJ275_198 294) 3 = o_i (MJ248_195 294) 3 → o_i (MJ275_198 294) 11 = o_i (MJ248_195 294) 11 → o_i (MJ275_198 294) 18 = o_i (MJ248_195 294) 18 → gpk MJ275_198 = gpk MJ248_195 → o_f (MJ275_198 294) 13 = .int x192 → PW G false 1 177 (p_mc 177) (p_msl 177) Kr 275 [(0, .ref 294), (1, .int x47), (2, .int x64), (3, .int c191)] [] 311 MJ275_198 0 0 := by
                            intro MJ275_198  IMJ275_198 FMJ275_198 hbJ275_1980 hbJ275_1981 hbJ275_1982 hbJ275_1983 hbJ275_1984 hbJ275_1985
                            refine PW.aload_n q_177_275 rfl ?_
                            refine PW.dup q_177_276 rfl ?_
                            refine PW.gE q_177_277 (Or.inl t_ft_177_141) gF_40_13 kd_294 IMJ275_198.1 (by decide) hbJ275_1985 ?_
                            refine PW.cI q_177_280 (by decide) fun c199 hc199 => ?_
                            refine PW.addH q_177_281 fun x200 => ?_
                            refine PW.pI q_177_282 (Or.inl t_ft_177_141) gF_40_13 gP_40_13 kd_294 hV IMJ275_198 (by decide) rfl (n_lo _) (n_hi _) fun M201 IM201 fM201 UM201 => ?_
                            have FM201 := Fr.pu FMJ275_198 UM201.1 kd_294 (rfl : List.contains [40] 40 = true)
                            have tg202 := gpk_U UM201 (by decide) (by decide)
                            have tr203 := UM201.i (c := 294) (k := 4) (Or.inr (by decide))
                            have tr204 := UM201.i (c := 294) (k := 3) (Or.inr (by decide))
                            have tr205 := UM201.i (c := 294) (k := 11) (Or.inr (by decide))
                            have tr206 := UM201.i (c := 294) (k := 18) (Or.inr (by decide))
                            refine PW.aload_n q_177_285 rfl ?_
                            refine PW.dup q_177_286 rfl ?_
                            refine PW.gI q_177_287 (Or.inl t_ft_177_21) gF_40_4 kd_294 IM201.1 (by decide) fun x207 fx207 hx207 kx207 => ?_
                            have trx207 := o_i_of fx207
                            refine PW.cI q_177_290 (by decide) fun c208 hc208 => ?_
                            refine PW.addN q_177_291 (by omega) (by omega) fun x209 hx209 => ?_
                            refine PW.pI q_177_292 (Or.inl t_ft_177_21) gF_40_4 gP_40_4 kd_294 hV IM201 (by decide) rfl (by omega) (by omega) fun M210 IM210 fM210 UM210 => ?_
                            have FM210 := Fr.pu FM201 UM210.1 kd_294 (rfl : List.contains [40] 40 = true)
                            have tr211 := o_i_of fM210
                            have tr212 := UM210.i (c := 294) (k := 3) (Or.inr (by decide))
                            have tr213 := UM210.i (c := 294) (k := 11) (Or.inr (by decide))
                            have tr214 := UM210.i (c := 294) (k := 18) (Or.inr (by decide))
                            refine PW.goto q_177_295 rfl ?_
                            refine PW.lvS (lk1 rfl (lk1 rfl (lk1 rfl (lk1 rfl lk0)))) (ih_L177_181_171 _ ?_ M210 c191 IM210 FM210 (by omega) (by omega) (by omega) (by omega) rfl)
                            omega
                          refine PW.jc_ge q_177_253 rfl (fun h197 => ?_) (fun h197 => ?_)
                          · skip
                            exact PW.lvS (lk1 rfl (lk1 rfl (lk1 rfl (lk1 rfl lk0)))) (J275_198 MJ248_195  IMJ248_195 FMJ248_195 (by omega) (by omega) (by omega) (by omega) (by omega) hbJ248_1955)
                          · skip
                            refine PW.aload_n q_177_256 rfl ?_
                            refine PW.cB q_177_257 (by decide) fun c215 hc215 => ?_
                            refine PW.aload_n q_177_259 rfl ?_
                            refine PW.gI q_177_260 (Or.inl t_ft_177_154) gF_40_14 kd_294 IMJ248_195.1 (by decide) fun x216 fx216 hx216 kx216 => ?_
                            clear hx216 kx216
                            refine PW.mulH q_177_263 fun x217 => ?_
                            refine PW.aload_n q_177_264 rfl ?_
                            refine PW.cV (as := []) (rest := [_, _]) q_177_265 t_mv_177_134 kd_294 IMJ248_195.1 (by decide) rfl (by decide) rfl rfl (Nat.le_of_ble_eq_true rfl) (Nat.le_of_ble_eq_true rfl) (by decide) (by decide) ?_
                            refine PW.up (by decide) (c_X12_peek (V) (hV) G _ MJ248_195 IMJ248_195  fun x219 M218 IM218 GM218 hx219 kx219 PM218 => ?_)
                            have FM218 := Fr.trans FMJ248_195 GM218 (rfl)
                            have tg220 := gpk_F GM218 (by decide) (by decide)
                            have tr221 : o_i (M218 294) 4 = o_i (MJ248_195 294) 4 := by rw [Fr.at GM218 kd_294 (by decide)]
                            have tr222 : o_i (M218 294) 3 = o_i (MJ248_195 294) 3 := by rw [Fr.at GM218 kd_294 (by decide)]
                            have tr223 : o_i (M218 294) 11 = o_i (MJ248_195 294) 11 := by rw [Fr.at GM218 kd_294 (by decide)]
                            have tr224 : o_i (M218 294) 18 = o_i (MJ248_195 294) 18 := by rw [Fr.at GM218 kd_294 (by decide)]
                            refine PW.addH q_177_268 fun x225 => ?_
                            refine PW.cB q_177_269 (by decide) fun c226 hc226 => ?_
                            refine PW.subH q_177_271 fun x227 => ?_
                            refine PW.pI q_177_272 (Or.inl t_ft_177_154) gF_40_14 gP_40_14 kd_294 hV IM218 (by decide) rfl (n_lo _) (n_hi _) fun M228 IM228 fM228 UM228 => ?_
                            have FM228 := Fr.pu FM218 UM228.1 kd_294 (rfl : List.contains [40] 40 = true)
                            have tg229 := gpk_U UM228 (by decide) (by decide)
                            have tr230 := UM228.i (c := 294) (k := 4) (Or.inr (by decide))
                            have tr231 := UM228.i (c := 294) (k := 3) (Or.inr (by decide))
                            have tr232 := UM228.i (c := 294) (k := 11) (Or.inr (by decide))
                            have tr233 := UM228.i (c := 294) (k := 18) (Or.inr (by decide))
                            exact PW.lvS (lk1 rfl (lk1 rfl (lk1 rfl (lk1 rfl lk0)))) (J275_198 M228  IM228 FM228 (by omega) (by omega) (by omega) (by omega) (by omega) ((UM228.f (Or.inr (by decide))).trans ((congrArg (fun e => o_f e 13) (Fr.at GM218 kd_294 (by decide))).trans hbJ248_1955)))
                        refine PW.jc_ge q_177_228 rfl (fun h194 => ?_) (fun h194 => ?_)
                        · skip
                          exact PW.lvS (lk1 rfl (lk1 rfl (lk1 rfl (lk1 rfl lk0)))) (J248_195 MJ220_190  IMJ220_190 FMJ220_190 (by omega) (by omega) (by omega) (by omega) (by omega) fx192)
                        · skip
                          refine PW.aload_n q_177_231 rfl ?_
                          refine PW.aload_n q_177_232 rfl ?_
                          refine PW.gL q_177_233 (Or.inl t_ft_177_157) gF_40_17 kd_294 IMJ220_190.1 (by decide) fun l234 fl234 => ?_
                          refine PW.cB q_177_236 (by decide) fun c235 hc235 => ?_
                          refine PW.lshl q_177_238 ?_
                          refine PW.aload_n q_177_239 rfl ?_
                          refine PW.cV (as := []) (rest := [_, _]) q_177_240 t_mv_177_134 kd_294 IMJ220_190.1 (by decide) rfl (by decide) rfl rfl (Nat.le_of_ble_eq_true rfl) (Nat.le_of_ble_eq_true rfl) (by decide) (by decide) ?_
                          refine PW.up (by decide) (c_X12_peek (V) (hV) G _ MJ220_190 IMJ220_190  fun x237 M236 IM236 GM236 hx237 kx237 PM236 => ?_)
                          have FM236 := Fr.trans FMJ220_190 GM236 (rfl)
                          have tg238 := gpk_F GM236 (by decide) (by decide)
                          have tr239 : o_i (M236 294) 4 = o_i (MJ220_190 294) 4 := by rw [Fr.at GM236 kd_294 (by decide)]
                          have tr240 : o_i (M236 294) 3 = o_i (MJ220_190 294) 3 := by rw [Fr.at GM236 kd_294 (by decide)]
                          have tr241 : o_i (M236 294) 11 = o_i (MJ220_190 294) 11 := by rw [Fr.at GM236 kd_294 (by decide)]
                          have tr242 : o_i (M236 294) 18 = o_i (MJ220_190 294) 18 := by rw [Fr.at GM236 kd_294 (by decide)]
                          refine PW.i2l q_177_243 ?_
                          refine PW.lor q_177_244 ?_
                          refine PW.pL q_177_245 (Or.inl t_ft_177_157) gF_40_17 gP_40_17 kd_294 hV IM236 (by decide) rfl fun M243 IM243 fM243 UM243 => ?_
                          have FM243 := Fr.pu FM236 UM243.1 kd_294 (rfl : List.contains [40] 40 = true)
                          have tg244 := gpk_U UM243 (by decide) (by decide)
                          have tr245 := UM243.i (c := 294) (k := 4) (Or.inr (by decide))
                          have tr246 := UM243.i (c := 294) (k := 3) (Or.inr (by decide))
                          have tr247 := UM243.i (c := 294) (k := 11) (Or.inr (by decide))
                          have tr248 := UM243.i (c := 294) (k := 18) (Or.inr (by decide))
                          exact PW.lvS (lk1 rfl (lk1 rfl (lk1 rfl (lk1 rfl lk0)))) (J248_195 M243  IM243 FM243 (by omega) (by omega) (by omega) (by omega) (by omega) ((UM243.f (Or.inr (by decide))).trans ((congrArg (fun e => o_f e 13) (Fr.at GM236 kd_294 (by decide))).trans fx192)))
                      refine PW.jz_eq q_177_202 rfl (fun h189 => ?_) (fun h189 => ?_)
                      · skip
                        exact PW.lvS (lk1 rfl (lk1 rfl (lk1 rfl (lk1 rfl lk0)))) (J220_190 MJ201_188  IMJ201_188 FMJ201_188 (by omega) (by omega) (by omega) (by omega) (by omega))
                      · skip
                        refine PW.aload_n q_177_205 rfl ?_
                        refine PW.cV (as := []) (rest := []) q_177_206 t_mv_177_134 kd_294 IMJ201_188.1 (by decide) rfl (by decide) rfl rfl (Nat.le_of_ble_eq_true rfl) (Nat.le_of_ble_eq_true rfl) (by decide) (by decide) ?_
                        refine PW.up (by decide) (c_X12_peek (V) (hV) G _ MJ201_188 IMJ201_188  fun x250 M249 IM249 GM249 hx250 kx250 PM249 => ?_)
                        have FM249 := Fr.trans FMJ201_188 GM249 (rfl)
                        have tg251 := gpk_F GM249 (by decide) (by decide)
                        have tr252 : o_i (M249 294) 4 = o_i (MJ201_188 294) 4 := by rw [Fr.at GM249 kd_294 (by decide)]
                        have tr253 : o_i (M249 294) 3 = o_i (MJ201_188 294) 3 := by rw [Fr.at GM249 kd_294 (by decide)]
                        have tr254 : o_i (M249 294) 11 = o_i (MJ201_188 294) 11 := by rw [Fr.at GM249 kd_294 (by decide)]
                        have tr255 : o_i (M249 294) 18 = o_i (MJ201_188 294) 18 := by rw [Fr.at GM249 kd_294 (by decide)]
                        refine PW.callS (as := [_]) (rest := []) q_177_209 t_ms_177_147 (by decide) rfl (Nat.le_of_ble_eq_true rfl) (Nat.le_of_ble_eq_true rfl) (by decide) (by decide) ?_
                        refine PW.up (by decide) (c_X12_isSmall (V) (hV) G _ M249 IM249 x250 fun x257 M256 IM256 GM256 hx257 kx257 PM256 => ?_)
                        have FM256 := Fr.trans FM249 GM256 (rfl)
                        have tg258 := gpk_F GM256 (by decide) (by decide)
                        have tr259 : o_i (M256 294) 4 = o_i (M249 294) 4 := by rw [Fr.at GM256 kd_294 (by decide)]
                        have tr260 : o_i (M256 294) 3 = o_i (M249 294) 3 := by rw [Fr.at GM256 kd_294 (by decide)]
                        have tr261 : o_i (M256 294) 11 = o_i (M249 294) 11 := by rw [Fr.at GM256 kd_294 (by decide)]
                        have tr262 : o_i (M256 294) 18 = o_i (M249 294) 18 := by rw [Fr.at GM256 kd_294 (by decide)]
                        refine PW.iload_n q_177_212 rfl ?_
                        refine PW.jc_ne q_177_213 rfl (fun h263 => ?_) (fun h263 => ?_)
                        · skip
                          exact PW.lvS (lk1 rfl (lk1 rfl (lk1 rfl (lk1 rfl lk0)))) (J220_190 M256  IM256 FM256 (by omega) (by omega) (by omega) (by omega) (by omega))
                        · skip
                          refine PW.cI q_177_216 (by decide) fun c264 hc264 => ?_
                          refine PW.goto q_177_217 rfl ?_
                          refine PW.istore_n q_177_221 (by decide) ?_
                          refine PW.aload_n q_177_222 rfl ?_
                          refine PW.gI q_177_223 (Or.inl t_ft_177_141) gF_40_13 kd_294 IM256.1 (by decide) fun x265 fx265 hx265 kx265 => ?_
                          clear hx265 kx265
                          refine PW.cB q_177_226 (by decide) fun c266 hc266 => ?_
                          have J248_268 : ∀ (MJ248_268 : pM), Iv (V) MJ248_268 → Fr [40] M MJ248_268 → o_i (MJ248_268 294) 4 = o_i (M256 294) 4 → o_i (MJ248_268 294) 3 = o_i (M256 294) 3 → o_i (MJ248_268 294) 11 = o_i (M256 294) 11 → o_i (MJ248_268 294) 18 = o_i (M256 294) 18 → gpk MJ248_268 = gpk M256 → o_f (MJ248_268 294) 13 = .int x265 → PW G false 1 177 (p_mc 177) (p_msl 177) Kr 248 [(0, .ref 294), (1, .int x47), (2, .int x64), (3, .int c264)] [] 311 MJ248_268 0 0 := by
                            intro MJ248_268  IMJ248_268 FMJ248_268 hbJ248_2680 hbJ248_2681 hbJ248_2682 hbJ248_2683 hbJ248_2684 hbJ248_2685
                            refine PW.aload_n q_177_248 rfl ?_
                            refine PW.gE q_177_249 (Or.inl t_ft_177_141) gF_40_13 kd_294 IMJ248_268.1 (by decide) hbJ248_2685 ?_
                            refine PW.cI q_177_252 (by decide) fun c269 hc269 => ?_
                            have J275_271 : ∀ (MJ275_271 : pM), Iv (V) MJ275_271 → Fr [40] M MJ275_271 → o_i (MJ275_271 294) 4 = o_i (MJ248_268 294) 4 → o_i (MJ275_271 294) 3 = o_i (MJ248_268 294) 3 → o_i (MJ275_271 294) 11 = o_i (MJ248_268 294) 11 → o_i (MJ275_271 294) 18 = o_i (MJ248_268 294) 18 → gpk MJ275_271 = gpk MJ248_268 → o_f (MJ275_271 294) 13 = .int x265 → PW G false 1 177 (p_mc 177) (p_msl 177) Kr 275 [(0, .ref 294), (1, .int x47), (2, .int x64), (3, .int c264)] [] 311 MJ275_271 0 0 := by
                              intro MJ275_271  IMJ275_271 FMJ275_271 hbJ275_2710 hbJ275_2711 hbJ275_2712 hbJ275_2713 hbJ275_2714 hbJ275_2715
                              refine PW.aload_n q_177_275 rfl ?_
                              refine PW.dup q_177_276 rfl ?_
                              refine PW.gE q_177_277 (Or.inl t_ft_177_141) gF_40_13 kd_294 IMJ275_271.1 (by decide) hbJ275_2715 ?_
                              refine PW.cI q_177_280 (by decide) fun c272 hc272 => ?_
                              refine PW.addH q_177_281 fun x273 => ?_
                              refine PW.pI q_177_282 (Or.inl t_ft_177_141) gF_40_13 gP_40_13 kd_294 hV IMJ275_271 (by decide) rfl (n_lo _) (n_hi _) fun M274 IM274 fM274 UM274 => ?_
                              have FM274 := Fr.pu FMJ275_271 UM274.1 kd_294 (rfl : List.contains [40] 40 = true)
                              have tg275 := gpk_U UM274 (by decide) (by decide)
                              have tr276 := UM274.i (c := 294) (k := 4) (Or.inr (by decide))
                              have tr277 := UM274.i (c := 294) (k := 3) (Or.inr (by decide))
                              have tr278 := UM274.i (c := 294) (k := 11) (Or.inr (by decide))
                              have tr279 := UM274.i (c := 294) (k := 18) (Or.inr (by decide))
                              refine PW.aload_n q_177_285 rfl ?_
                              refine PW.dup q_177_286 rfl ?_
                              refine PW.gI q_177_287 (Or.inl t_ft_177_21) gF_40_4 kd_294 IM274.1 (by decide) fun x280 fx280 hx280 kx280 => ?_
                              have trx280 := o_i_of fx280
                              refine PW.cI q_177_290 (by decide) fun c281 hc281 => ?_
                              refine PW.addN q_177_291 (by omega) (by omega) fun x282 hx282 => ?_
                              refine PW.pI q_177_292 (Or.inl t_ft_177_21) gF_40_4 gP_40_4 kd_294 hV IM274 (by decide) rfl (by omega) (by omega) fun M283 IM283 fM283 UM283 => ?_
                              have FM283 := Fr.pu FM274 UM283.1 kd_294 (rfl : List.contains [40] 40 = true)
                              have tr284 := o_i_of fM283
                              have tr285 := UM283.i (c := 294) (k := 3) (Or.inr (by decide))
                              have tr286 := UM283.i (c := 294) (k := 11) (Or.inr (by decide))
                              have tr287 := UM283.i (c := 294) (k := 18) (Or.inr (by decide))
                              refine PW.goto q_177_295 rfl ?_
                              refine PW.lvS (lk1 rfl (lk1 rfl (lk1 rfl (lk1 rfl lk0)))) (ih_L177_181_171 _ ?_ M283 c264 IM283 FM283 (by omega) (by omega) (by omega) (by omega) rfl)
                              omega
                            refine PW.jc_ge q_177_253 rfl (fun h270 => ?_) (fun h270 => ?_)
                            · skip
                              exact PW.lvS (lk1 rfl (lk1 rfl (lk1 rfl (lk1 rfl lk0)))) (J275_271 MJ248_268  IMJ248_268 FMJ248_268 (by omega) (by omega) (by omega) (by omega) (by omega) hbJ248_2685)
                            · skip
                              refine PW.aload_n q_177_256 rfl ?_
                              refine PW.cB q_177_257 (by decide) fun c288 hc288 => ?_
                              refine PW.aload_n q_177_259 rfl ?_
                              refine PW.gI q_177_260 (Or.inl t_ft_177_154) gF_40_14 kd_294 IMJ248_268.1 (by decide) fun x289 fx289 hx289 kx289 => ?_
                              clear hx289 kx289
                              refine PW.mulH q_177_263 fun x290 => ?_
                              refine PW.aload_n q_177_264 rfl ?_
                              refine PW.cV (as := []) (rest := [_, _]) q_177_265 t_mv_177_134 kd_294 IMJ248_268.1 (by decide) rfl (by decide) rfl rfl (Nat.le_of_ble_eq_true rfl) (Nat.le_of_ble_eq_true rfl) (by decide) (by decide) ?_
                              refine PW.up (by decide) (c_X12_peek (V) (hV) G _ MJ248_268 IMJ248_268  fun x292 M291 IM291 GM291 hx292 kx292 PM291 => ?_)
                              have FM291 := Fr.trans FMJ248_268 GM291 (rfl)
                              have tg293 := gpk_F GM291 (by decide) (by decide)
                              have tr294 : o_i (M291 294) 4 = o_i (MJ248_268 294) 4 := by rw [Fr.at GM291 kd_294 (by decide)]
                              have tr295 : o_i (M291 294) 3 = o_i (MJ248_268 294) 3 := by rw [Fr.at GM291 kd_294 (by decide)]
                              have tr296 : o_i (M291 294) 11 = o_i (MJ248_268 294) 11 := by rw [Fr.at GM291 kd_294 (by decide)]
                              have tr297 : o_i (M291 294) 18 = o_i (MJ248_268 294) 18 := by rw [Fr.at GM291 kd_294 (by decide)]
                              refine PW.addH q_177_268 fun x298 => ?_
                              refine PW.cB q_177_269 (by decide) fun c299 hc299 => ?_
                              refine PW.subH q_177_271 fun x300 => ?_
                              refine PW.pI q_177_272 (Or.inl t_ft_177_154) gF_40_14 gP_40_14 kd_294 hV IM291 (by decide) rfl (n_lo _) (n_hi _) fun M301 IM301 fM301 UM301 => ?_
                              have FM301 := Fr.pu FM291 UM301.1 kd_294 (rfl : List.contains [40] 40 = true)
                              have tg302 := gpk_U UM301 (by decide) (by decide)
                              have tr303 := UM301.i (c := 294) (k := 4) (Or.inr (by decide))
                              have tr304 := UM301.i (c := 294) (k := 3) (Or.inr (by decide))
                              have tr305 := UM301.i (c := 294) (k := 11) (Or.inr (by decide))
                              have tr306 := UM301.i (c := 294) (k := 18) (Or.inr (by decide))
                              exact PW.lvS (lk1 rfl (lk1 rfl (lk1 rfl (lk1 rfl lk0)))) (J275_271 M301  IM301 FM301 (by omega) (by omega) (by omega) (by omega) (by omega) ((UM301.f (Or.inr (by decide))).trans ((congrArg (fun e => o_f e 13) (Fr.at GM291 kd_294 (by decide))).trans hbJ248_2685)))
                          refine PW.jc_ge q_177_228 rfl (fun h267 => ?_) (fun h267 => ?_)
                          · skip
                            exact PW.lvS (lk1 rfl (lk1 rfl (lk1 rfl (lk1 rfl lk0)))) (J248_268 M256  IM256 FM256 (by omega) (by omega) (by omega) (by omega) (by omega) fx265)
                          · skip
                            refine PW.aload_n q_177_231 rfl ?_
                            refine PW.aload_n q_177_232 rfl ?_
                            refine PW.gL q_177_233 (Or.inl t_ft_177_157) gF_40_17 kd_294 IM256.1 (by decide) fun l307 fl307 => ?_
                            refine PW.cB q_177_236 (by decide) fun c308 hc308 => ?_
                            refine PW.lshl q_177_238 ?_
                            refine PW.aload_n q_177_239 rfl ?_
                            refine PW.cV (as := []) (rest := [_, _]) q_177_240 t_mv_177_134 kd_294 IM256.1 (by decide) rfl (by decide) rfl rfl (Nat.le_of_ble_eq_true rfl) (Nat.le_of_ble_eq_true rfl) (by decide) (by decide) ?_
                            refine PW.up (by decide) (c_X12_peek (V) (hV) G _ M256 IM256  fun x310 M309 IM309 GM309 hx310 kx310 PM309 => ?_)
                            have FM309 := Fr.trans FM256 GM309 (rfl)
                            have tg311 := gpk_F GM309 (by decide) (by decide)
                            have tr312 : o_i (M309 294) 4 = o_i (M256 294) 4 := by rw [Fr.at GM309 kd_294 (by decide)]
                            have tr313 : o_i (M309 294) 3 = o_i (M256 294) 3 := by rw [Fr.at GM309 kd_294 (by decide)]
                            have tr314 : o_i (M309 294) 11 = o_i (M256 294) 11 := by rw [Fr.at GM309 kd_294 (by decide)]
                            have tr315 : o_i (M309 294) 18 = o_i (M256 294) 18 := by rw [Fr.at GM309 kd_294 (by decide)]
                            refine PW.i2l q_177_243 ?_
                            refine PW.lor q_177_244 ?_
                            refine PW.pL q_177_245 (Or.inl t_ft_177_157) gF_40_17 gP_40_17 kd_294 hV IM309 (by decide) rfl fun M316 IM316 fM316 UM316 => ?_
                            have FM316 := Fr.pu FM309 UM316.1 kd_294 (rfl : List.contains [40] 40 = true)
                            have tg317 := gpk_U UM316 (by decide) (by decide)
                            have tr318 := UM316.i (c := 294) (k := 4) (Or.inr (by decide))
                            have tr319 := UM316.i (c := 294) (k := 3) (Or.inr (by decide))
                            have tr320 := UM316.i (c := 294) (k := 11) (Or.inr (by decide))
                            have tr321 := UM316.i (c := 294) (k := 18) (Or.inr (by decide))
                            exact PW.lvS (lk1 rfl (lk1 rfl (lk1 rfl (lk1 rfl lk0)))) (J248_268 M316  IM316 FM316 (by omega) (by omega) (by omega) (by omega) (by omega) ((UM316.f (Or.inr (by decide))).trans ((congrArg (fun e => o_f e 13) (Fr.at GM309 kd_294 (by decide))).trans fx265)))
                    refine PW.jz_ne q_177_188 rfl (fun h187 => ?_) (fun h187 => ?_)
                    · skip
                      exact PW.lvS (lk1 rfl (lk1 rfl (lk1 rfl (lk1 rfl lk0)))) (J201_188 M180  IM180 FM180 (by omega) (by omega) (by omega) (by omega) (by omega) (by omega) (by omega))
                    · skip
                      refine PW.aload_n q_177_191 rfl ?_
                      refine PW.cV (as := []) (rest := []) q_177_192 t_mv_177_134 kd_294 IM180.1 (by decide) rfl (by decide) rfl rfl (Nat.le_of_ble_eq_true rfl) (Nat.le_of_ble_eq_true rfl) (by decide) (by decide) ?_
                      refine PW.up (by decide) (c_X12_peek (V) (hV) G _ M180 IM180  fun x323 M322 IM322 GM322 hx323 kx323 PM322 => ?_)
                      have FM322 := Fr.trans FM180 GM322 (rfl)
                      have tg324 := gpk_F GM322 (by decide) (by decide)
                      have tr325 : o_i (M322 294) 4 = o_i (M180 294) 4 := by rw [Fr.at GM322 kd_294 (by decide)]
                      have tr326 : o_i (M322 294) 3 = o_i (M180 294) 3 := by rw [Fr.at GM322 kd_294 (by decide)]
                      have tr327 : o_i (M322 294) 11 = o_i (M180 294) 11 := by rw [Fr.at GM322 kd_294 (by decide)]
                      have tr328 : o_i (M322 294) 18 = o_i (M180 294) 18 := by rw [Fr.at GM322 kd_294 (by decide)]
                      refine PW.callS (as := [_]) (rest := []) q_177_195 t_ms_177_151 (by decide) rfl (Nat.le_of_ble_eq_true rfl) (Nat.le_of_ble_eq_true rfl) (by decide) (by decide) ?_
                      refine PW.up (by decide) (c_X12_isDigit (V) (hV) G _ M322 IM322 x323 fun x330 M329 IM329 GM329 hx330 kx330 PM329 => ?_)
                      have FM329 := Fr.trans FM322 GM329 (rfl)
                      have tg331 := gpk_F GM329 (by decide) (by decide)
                      have tr332 : o_i (M329 294) 4 = o_i (M322 294) 4 := by rw [Fr.at GM329 kd_294 (by decide)]
                      have tr333 : o_i (M329 294) 3 = o_i (M322 294) 3 := by rw [Fr.at GM329 kd_294 (by decide)]
                      have tr334 : o_i (M329 294) 11 = o_i (M322 294) 11 := by rw [Fr.at GM329 kd_294 (by decide)]
                      have tr335 : o_i (M329 294) 18 = o_i (M322 294) 18 := by rw [Fr.at GM329 kd_294 (by decide)]
                      refine PW.jz_eq q_177_198 rfl (fun h336 => ?_) (fun h336 => ?_)
                      · skip
                        refine PW.aload_n q_177_298 rfl ?_
                        refine PW.iload_n q_177_299 rfl ?_
                        refine PW.jz_eq q_177_300 rfl (fun h337 => ?_) (fun h337 => ?_)
                        · skip
                          refine PW.cI q_177_320 (by decide) fun c338 hc338 => ?_
                          refine PW.goto q_177_321 rfl ?_
                          refine PW.pI q_177_333 (Or.inl t_ft_177_144) gF_40_11 gP_40_11 kd_294 hV IM329 (by decide) rfl (n_lo _) (n_hi _) fun M339 IM339 fM339 UM339 => ?_
                          have FM339 := Fr.pu FM329 UM339.1 kd_294 (rfl : List.contains [40] 40 = true)
                          have tg340 := gpk_U UM339 (by decide) (by decide)
                          have tr341 := UM339.i (c := 294) (k := 4) (Or.inr (by decide))
                          have tr342 := UM339.i (c := 294) (k := 3) (Or.inr (by decide))
                          have tr343 := o_i_of fM339
                          have tr344 := UM339.i (c := 294) (k := 18) (Or.inr (by decide))
                          refine PW.vret q_177_336 rfl (by decide) (by decide) ?_
                          exact hK M339 IM339 FM339 (by omega)
                        · skip
                          refine PW.aload_n q_177_303 rfl ?_
                          refine PW.gI q_177_304 (Or.inl t_ft_177_141) gF_40_13 kd_294 IM329.1 (by decide) fun x345 fx345 hx345 kx345 => ?_
                          clear hx345 kx345
                          refine PW.iload_n q_177_307 rfl ?_
                          have J317_347 : ∀ (MJ317_347 : pM) (s348 : Int32), Iv (V) MJ317_347 → Fr [40] M MJ317_347 → 3 ≤ s348.toInt → s348.toInt ≤ 7 → o_i (MJ317_347 294) 4 = o_i (M329 294) 4 → o_i (MJ317_347 294) 3 = o_i (M329 294) 3 → o_i (MJ317_347 294) 11 = o_i (M329 294) 11 → o_i (MJ317_347 294) 18 = o_i (M329 294) 18 → gpk MJ317_347 = gpk M329 → o_f (MJ317_347 294) 13 = .int x345 → PW G false 1 177 (p_mc 177) (p_msl 177) Kr 317 [(0, .ref 294), (1, .int x47), (2, .int x64), (3, .int v172)] [.int s348, .int x345, .ref 294] 311 MJ317_347 0 0 := by
                            intro MJ317_347 s348 IMJ317_347 FMJ317_347 hbJ317_3470 hbJ317_3471 hbJ317_3472 hbJ317_3473 hbJ317_3474 hbJ317_3475 hbJ317_3476 hbJ317_3477
                            refine PW.jc_le q_177_317 rfl (fun h349 => ?_) (fun h349 => ?_)
                            · skip
                              refine PW.iload_n q_177_324 rfl ?_
                              refine PW.jz_eq q_177_325 rfl (fun h350 => ?_) (fun h350 => ?_)
                              · skip
                                refine PW.cI q_177_332 (by decide) fun c351 hc351 => ?_
                                refine PW.pI q_177_333 (Or.inl t_ft_177_144) gF_40_11 gP_40_11 kd_294 hV IMJ317_347 (by decide) rfl (n_lo _) (n_hi _) fun M352 IM352 fM352 UM352 => ?_
                                have FM352 := Fr.pu FMJ317_347 UM352.1 kd_294 (rfl : List.contains [40] 40 = true)
                                have tg353 := gpk_U UM352 (by decide) (by decide)
                                have tr354 := UM352.i (c := 294) (k := 4) (Or.inr (by decide))
                                have tr355 := UM352.i (c := 294) (k := 3) (Or.inr (by decide))
                                have tr356 := o_i_of fM352
                                have tr357 := UM352.i (c := 294) (k := 18) (Or.inr (by decide))
                                refine PW.vret q_177_336 rfl (by decide) (by decide) ?_
                                exact hK M352 IM352 FM352 (by omega)
                              · skip
                                refine PW.cI q_177_328 (by decide) fun c358 hc358 => ?_
                                refine PW.goto q_177_329 rfl ?_
                                refine PW.pI q_177_333 (Or.inl t_ft_177_144) gF_40_11 gP_40_11 kd_294 hV IMJ317_347 (by decide) rfl (n_lo _) (n_hi _) fun M359 IM359 fM359 UM359 => ?_
                                have FM359 := Fr.pu FMJ317_347 UM359.1 kd_294 (rfl : List.contains [40] 40 = true)
                                have tg360 := gpk_U UM359 (by decide) (by decide)
                                have tr361 := UM359.i (c := 294) (k := 4) (Or.inr (by decide))
                                have tr362 := UM359.i (c := 294) (k := 3) (Or.inr (by decide))
                                have tr363 := o_i_of fM359
                                have tr364 := UM359.i (c := 294) (k := 18) (Or.inr (by decide))
                                refine PW.vret q_177_336 rfl (by decide) (by decide) ?_
                                exact hK M359 IM359 FM359 (by omega)
                            · skip
                              refine PW.cI q_177_320 (by decide) fun c365 hc365 => ?_
                              refine PW.goto q_177_321 rfl ?_
                              refine PW.pI q_177_333 (Or.inl t_ft_177_144) gF_40_11 gP_40_11 kd_294 hV IMJ317_347 (by decide) rfl (n_lo _) (n_hi _) fun M366 IM366 fM366 UM366 => ?_
                              have FM366 := Fr.pu FMJ317_347 UM366.1 kd_294 (rfl : List.contains [40] 40 = true)
                              have tg367 := gpk_U UM366 (by decide) (by decide)
                              have tr368 := UM366.i (c := 294) (k := 4) (Or.inr (by decide))
                              have tr369 := UM366.i (c := 294) (k := 3) (Or.inr (by decide))
                              have tr370 := o_i_of fM366
                              have tr371 := UM366.i (c := 294) (k := 18) (Or.inr (by decide))
                              refine PW.vret q_177_336 rfl (by decide) (by decide) ?_
                              exact hK M366 IM366 FM366 (by omega)
                          refine PW.jz_eq q_177_308 rfl (fun h346 => ?_) (fun h346 => ?_)
                          · skip
                            refine PW.cI q_177_316 (by decide) fun c372 hc372 => ?_
                            exact PW.lvS (lk1 rfl (lk1 rfl (lk1 rfl (lk1 rfl lk0)))) (J317_347 M329 c372 IM329 FM329 (by omega) (by omega) (by omega) (by omega) (by omega) (by omega) (by omega) fx345)
                          · skip
                            refine PW.cB q_177_311 (by decide) fun c373 hc373 => ?_
                            refine PW.goto q_177_313 rfl ?_
                            exact PW.lvS (lk1 rfl (lk1 rfl (lk1 rfl (lk1 rfl lk0)))) (J317_347 M329 c373 IM329 FM329 (by omega) (by omega) (by omega) (by omega) (by omega) (by omega) (by omega) fx345)
                      · skip
                        exact PW.lvS (lk1 rfl (lk1 rfl (lk1 rfl (lk1 rfl lk0)))) (J201_188 M329  IM329 FM329 (by omega) (by omega) (by omega) (by omega) (by omega) (by omega) (by omega))
                  exact PW.lvS (lk1 rfl (lk1 rfl (lk1 rfl (lk1 rfl lk0)))) (L177_181_171 _ M166 s117 IM166 FM166 (by omega) (by omega) (by omega) (by omega) rfl)
                refine PW.jc_ne q_177_213 rfl (fun h115 => ?_) (fun h115 => ?_)
                · skip
                  refine PW.cI q_177_220 (by decide) fun c374 hc374 => ?_
                  exact PW.lvS (lk1 rfl (lk1 rfl (lk1 rfl (lk1 rfl lk0)))) (J221_116 M108 c374 IM108 FM108 (by omega) (by omega) (by omega) (by omega) (by omega) (by omega) (by omega) ((congrArg (fun e => o_f e 4) (Fr.at GM108 kd_294 (by decide))).trans ((congrArg (fun e => o_f e 4) (Fr.at GM101 kd_294 (by decide))).trans hbJ201_997)) ((congrArg (fun e => o_f e 12) (Fr.at GM108 kd_294 (by decide))).trans ((congrArg (fun e => o_f e 12) (Fr.at GM101 kd_294 (by decide))).trans hbJ201_998)) ((congrArg (fun e => o_f e 13) (Fr.at GM108 kd_294 (by decide))).trans ((congrArg (fun e => o_f e 13) (Fr.at GM101 kd_294 (by decide))).trans hbJ201_999)) ((congrArg (fun e => o_f e 3) (Fr.at GM108 kd_294 (by decide))).trans ((congrArg (fun e => o_f e 3) (Fr.at GM101 kd_294 (by decide))).trans hbJ201_9910)) ((congrArg (fun e => o_f e 5) (Fr.at GM108 kd_294 (by decide))).trans ((congrArg (fun e => o_f e 5) (Fr.at GM101 kd_294 (by decide))).trans hbJ201_9911)) ((congrArg (fun e => o_f e 14) (Fr.at GM108 kd_294 (by decide))).trans ((congrArg (fun e => o_f e 14) (Fr.at GM101 kd_294 (by decide))).trans hbJ201_9912)))
                · skip
                  refine PW.cI q_177_216 (by decide) fun c375 hc375 => ?_
                  refine PW.goto q_177_217 rfl ?_
                  exact PW.lvS (lk1 rfl (lk1 rfl (lk1 rfl (lk1 rfl lk0)))) (J221_116 M108 c375 IM108 FM108 (by omega) (by omega) (by omega) (by omega) (by omega) (by omega) (by omega) ((congrArg (fun e => o_f e 4) (Fr.at GM108 kd_294 (by decide))).trans ((congrArg (fun e => o_f e 4) (Fr.at GM101 kd_294 (by decide))).trans hbJ201_997)) ((congrArg (fun e => o_f e 12) (Fr.at GM108 kd_294 (by decide))).trans ((congrArg (fun e => o_f e 12) (Fr.at GM101 kd_294 (by decide))).trans hbJ201_998)) ((congrArg (fun e => o_f e 13) (Fr.at GM108 kd_294 (by decide))).trans ((congrArg (fun e => o_f e 13) (Fr.at GM101 kd_294 (by decide))).trans hbJ201_999)) ((congrArg (fun e => o_f e 3) (Fr.at GM108 kd_294 (by decide))).trans ((congrArg (fun e => o_f e 3) (Fr.at GM101 kd_294 (by decide))).trans hbJ201_9910)) ((congrArg (fun e => o_f e 5) (Fr.at GM108 kd_294 (by decide))).trans ((congrArg (fun e => o_f e 5) (Fr.at GM101 kd_294 (by decide))).trans hbJ201_9911)) ((congrArg (fun e => o_f e 14) (Fr.at GM108 kd_294 (by decide))).trans ((congrArg (fun e => o_f e 14) (Fr.at GM101 kd_294 (by decide))).trans hbJ201_9912)))
              refine PW.jz_ne q_177_188 rfl (fun h98 => ?_) (fun h98 => ?_)
              · skip
                exact PW.lvS (lk1 rfl (lk1 rfl (lk1 rfl (lk1 rfl lk0)))) (J201_99 M91  IM91 FM91 (by omega) (by omega) (by omega) (by omega) (by omega) (by omega) (by omega) ((congrArg (fun e => o_f e 4) (Fr.at GM91 kd_294 (by decide))).trans ((congrArg (fun e => o_f e 4) (Fr.at GM84 kd_294 (by decide))).trans ((UM78.f (Or.inr (by decide))).trans ((UM71.f (Or.inr (by decide))).trans ((congrArg (fun e => o_f e 4) (Fr.at GM63 kd_294 (by decide))).trans hbJ164_626))))) ((congrArg (fun e => o_f e 12) (Fr.at GM91 kd_294 (by decide))).trans ((congrArg (fun e => o_f e 12) (Fr.at GM84 kd_294 (by decide))).trans ((UM78.f (Or.inr (by decide))).trans ((UM71.f (Or.inr (by decide))).trans ((congrArg (fun e => o_f e 12) (Fr.at GM63 kd_294 (by decide))).trans hbJ164_627))))) ((congrArg (fun e => o_f e 13) (Fr.at GM91 kd_294 (by decide))).trans ((congrArg (fun e => o_f e 13) (Fr.at GM84 kd_294 (by decide))).trans ((UM78.f (Or.inr (by decide))).trans ((UM71.f (Or.inr (by decide))).trans ((congrArg (fun e => o_f e 13) (Fr.at GM63 kd_294 (by decide))).trans hbJ164_628))))) ((congrArg (fun e => o_f e 3) (Fr.at GM91 kd_294 (by decide))).trans ((congrArg (fun e => o_f e 3) (Fr.at GM84 kd_294 (by decide))).trans ((UM78.f (Or.inr (by decide))).trans ((UM71.f (Or.inr (by decide))).trans ((congrArg (fun e => o_f e 3) (Fr.at GM63 kd_294 (by decide))).trans hbJ164_629))))) ((congrArg (fun e => o_f e 5) (Fr.at GM91 kd_294 (by decide))).trans ((congrArg (fun e => o_f e 5) (Fr.at GM84 kd_294 (by decide))).trans ((UM78.f (Or.inr (by decide))).trans ((UM71.f (Or.inr (by decide))).trans ((congrArg (fun e => o_f e 5) (Fr.at GM63 kd_294 (by decide))).trans hbJ164_6210))))) ((congrArg (fun e => o_f e 14) (Fr.at GM91 kd_294 (by decide))).trans ((congrArg (fun e => o_f e 14) (Fr.at GM84 kd_294 (by decide))).trans fM78)))
              · skip
                refine PW.aload_n q_177_191 rfl ?_
                refine PW.cV (as := []) (rest := []) q_177_192 t_mv_177_134 kd_294 IM91.1 (by decide) rfl (by decide) rfl rfl (Nat.le_of_ble_eq_true rfl) (Nat.le_of_ble_eq_true rfl) (by decide) (by decide) ?_
                refine PW.up (by decide) (c_X12_peek (V) (hV) G _ M91 IM91  fun x377 M376 IM376 GM376 hx377 kx377 PM376 => ?_)
                have FM376 := Fr.trans FM91 GM376 (rfl)
                have tg378 := gpk_F GM376 (by decide) (by decide)
                have tr379 : o_i (M376 294) 4 = o_i (M91 294) 4 := by rw [Fr.at GM376 kd_294 (by decide)]
                have tr380 : o_i (M376 294) 3 = o_i (M91 294) 3 := by rw [Fr.at GM376 kd_294 (by decide)]
                have tr381 : o_i (M376 294) 11 = o_i (M91 294) 11 := by rw [Fr.at GM376 kd_294 (by decide)]
                have tr382 : o_i (M376 294) 18 = o_i (M91 294) 18 := by rw [Fr.at GM376 kd_294 (by decide)]
                refine PW.callS (as := [_]) (rest := []) q_177_195 t_ms_177_151 (by decide) rfl (Nat.le_of_ble_eq_true rfl) (Nat.le_of_ble_eq_true rfl) (by decide) (by decide) ?_
                refine PW.up (by decide) (c_X12_isDigit (V) (hV) G _ M376 IM376 x377 fun x384 M383 IM383 GM383 hx384 kx384 PM383 => ?_)
                have FM383 := Fr.trans FM376 GM383 (rfl)
                have tg385 := gpk_F GM383 (by decide) (by decide)
                have tr386 : o_i (M383 294) 4 = o_i (M376 294) 4 := by rw [Fr.at GM383 kd_294 (by decide)]
                have tr387 : o_i (M383 294) 3 = o_i (M376 294) 3 := by rw [Fr.at GM383 kd_294 (by decide)]
                have tr388 : o_i (M383 294) 11 = o_i (M376 294) 11 := by rw [Fr.at GM383 kd_294 (by decide)]
                have tr389 : o_i (M383 294) 18 = o_i (M376 294) 18 := by rw [Fr.at GM383 kd_294 (by decide)]
                refine PW.jz_eq q_177_198 rfl (fun h390 => ?_) (fun h390 => ?_)
                · skip
                  refine PW.aload_n q_177_298 rfl ?_
                  refine PW.iload_n q_177_299 rfl ?_
                  refine PW.jz_eq q_177_300 rfl (fun h391 => False.elim (by omega)) (fun h391 => ?_)
                  refine PW.aload_n q_177_303 rfl ?_
                  refine PW.gE q_177_304 (Or.inl t_ft_177_141) gF_40_13 kd_294 IM383.1 (by decide) ((congrArg (fun e => o_f e 13) (Fr.at GM383 kd_294 (by decide))).trans ((congrArg (fun e => o_f e 13) (Fr.at GM376 kd_294 (by decide))).trans ((congrArg (fun e => o_f e 13) (Fr.at GM91 kd_294 (by decide))).trans ((congrArg (fun e => o_f e 13) (Fr.at GM84 kd_294 (by decide))).trans ((UM78.f (Or.inr (by decide))).trans ((UM71.f (Or.inr (by decide))).trans ((congrArg (fun e => o_f e 13) (Fr.at GM63 kd_294 (by decide))).trans hbJ164_628))))))) ?_
                  refine PW.iload_n q_177_307 rfl ?_
                  have J317_393 : ∀ (MJ317_393 : pM) (s394 : Int32), Iv (V) MJ317_393 → Fr [40] M MJ317_393 → 3 ≤ s394.toInt → s394.toInt ≤ 7 → o_i (MJ317_393 294) 4 = o_i (M383 294) 4 → o_i (MJ317_393 294) 3 = o_i (M383 294) 3 → o_i (MJ317_393 294) 11 = o_i (M383 294) 11 → o_i (MJ317_393 294) 18 = o_i (M383 294) 18 → gpk MJ317_393 = gpk M383 → o_f (MJ317_393 294) 4 = .int x28 → o_f (MJ317_393 294) 12 = .int x28 → o_f (MJ317_393 294) 13 = .int c35 → o_f (MJ317_393 294) 3 = .int x42 → o_f (MJ317_393 294) 5 = .int x43 → o_f (MJ317_393 294) 14 = .int c77 → PW G false 1 177 (p_mc 177) (p_msl 177) Kr 317 [(0, .ref 294), (1, .int x47), (2, .int x64), (3, .int c70)] [.int s394, .int c35, .ref 294] 311 MJ317_393 0 0 := by
                    intro MJ317_393 s394 IMJ317_393 FMJ317_393 hbJ317_3930 hbJ317_3931 hbJ317_3932 hbJ317_3933 hbJ317_3934 hbJ317_3935 hbJ317_3936 hbJ317_3937 hbJ317_3938 hbJ317_3939 hbJ317_39310 hbJ317_39311 hbJ317_39312
                    refine PW.jc_le q_177_317 rfl (fun h395 => ?_) (fun h395 => False.elim (by omega))
                    refine PW.iload_n q_177_324 rfl ?_
                    refine PW.jz_eq q_177_325 rfl (fun h396 => ?_) (fun h396 => ?_)
                    · skip
                      refine PW.cI q_177_332 (by decide) fun c397 hc397 => ?_
                      refine PW.pI q_177_333 (Or.inl t_ft_177_144) gF_40_11 gP_40_11 kd_294 hV IMJ317_393 (by decide) rfl (n_lo _) (n_hi _) fun M398 IM398 fM398 UM398 => ?_
                      have FM398 := Fr.pu FMJ317_393 UM398.1 kd_294 (rfl : List.contains [40] 40 = true)
                      have tg399 := gpk_U UM398 (by decide) (by decide)
                      have tr400 := UM398.i (c := 294) (k := 4) (Or.inr (by decide))
                      have tr401 := UM398.i (c := 294) (k := 3) (Or.inr (by decide))
                      have tr402 := o_i_of fM398
                      have tr403 := UM398.i (c := 294) (k := 18) (Or.inr (by decide))
                      refine PW.vret q_177_336 rfl (by decide) (by decide) ?_
                      exact hK M398 IM398 FM398 (by omega)
                    · skip
                      refine PW.cI q_177_328 (by decide) fun c404 hc404 => ?_
                      refine PW.goto q_177_329 rfl ?_
                      refine PW.pI q_177_333 (Or.inl t_ft_177_144) gF_40_11 gP_40_11 kd_294 hV IMJ317_393 (by decide) rfl (n_lo _) (n_hi _) fun M405 IM405 fM405 UM405 => ?_
                      have FM405 := Fr.pu FMJ317_393 UM405.1 kd_294 (rfl : List.contains [40] 40 = true)
                      have tg406 := gpk_U UM405 (by decide) (by decide)
                      have tr407 := UM405.i (c := 294) (k := 4) (Or.inr (by decide))
                      have tr408 := UM405.i (c := 294) (k := 3) (Or.inr (by decide))
                      have tr409 := o_i_of fM405
                      have tr410 := UM405.i (c := 294) (k := 18) (Or.inr (by decide))
                      refine PW.vret q_177_336 rfl (by decide) (by decide) ?_
                      exact hK M405 IM405 FM405 (by omega)
                  refine PW.jz_eq q_177_308 rfl (fun h392 => ?_) (fun h392 => ?_)
                  · skip
                    refine PW.cI q_177_316 (by decide) fun c411 hc411 => ?_
                    exact PW.lvS (lk1 rfl (lk1 rfl (lk1 rfl (lk1 rfl lk0)))) (J317_393 M383 c411 IM383 FM383 (by omega) (by omega) (by omega) (by omega) (by omega) (by omega) (by omega) ((congrArg (fun e => o_f e 4) (Fr.at GM383 kd_294 (by decide))).trans ((congrArg (fun e => o_f e 4) (Fr.at GM376 kd_294 (by decide))).trans ((congrArg (fun e => o_f e 4) (Fr.at GM91 kd_294 (by decide))).trans ((congrArg (fun e => o_f e 4) (Fr.at GM84 kd_294 (by decide))).trans ((UM78.f (Or.inr (by decide))).trans ((UM71.f (Or.inr (by decide))).trans ((congrArg (fun e => o_f e 4) (Fr.at GM63 kd_294 (by decide))).trans hbJ164_626))))))) ((congrArg (fun e => o_f e 12) (Fr.at GM383 kd_294 (by decide))).trans ((congrArg (fun e => o_f e 12) (Fr.at GM376 kd_294 (by decide))).trans ((congrArg (fun e => o_f e 12) (Fr.at GM91 kd_294 (by decide))).trans ((congrArg (fun e => o_f e 12) (Fr.at GM84 kd_294 (by decide))).trans ((UM78.f (Or.inr (by decide))).trans ((UM71.f (Or.inr (by decide))).trans ((congrArg (fun e => o_f e 12) (Fr.at GM63 kd_294 (by decide))).trans hbJ164_627))))))) ((congrArg (fun e => o_f e 13) (Fr.at GM383 kd_294 (by decide))).trans ((congrArg (fun e => o_f e 13) (Fr.at GM376 kd_294 (by decide))).trans ((congrArg (fun e => o_f e 13) (Fr.at GM91 kd_294 (by decide))).trans ((congrArg (fun e => o_f e 13) (Fr.at GM84 kd_294 (by decide))).trans ((UM78.f (Or.inr (by decide))).trans ((UM71.f (Or.inr (by decide))).trans ((congrArg (fun e => o_f e 13) (Fr.at GM63 kd_294 (by decide))).trans hbJ164_628))))))) ((congrArg (fun e => o_f e 3) (Fr.at GM383 kd_294 (by decide))).trans ((congrArg (fun e => o_f e 3) (Fr.at GM376 kd_294 (by decide))).trans ((congrArg (fun e => o_f e 3) (Fr.at GM91 kd_294 (by decide))).trans ((congrArg (fun e => o_f e 3) (Fr.at GM84 kd_294 (by decide))).trans ((UM78.f (Or.inr (by decide))).trans ((UM71.f (Or.inr (by decide))).trans ((congrArg (fun e => o_f e 3) (Fr.at GM63 kd_294 (by decide))).trans hbJ164_629))))))) ((congrArg (fun e => o_f e 5) (Fr.at GM383 kd_294 (by decide))).trans ((congrArg (fun e => o_f e 5) (Fr.at GM376 kd_294 (by decide))).trans ((congrArg (fun e => o_f e 5) (Fr.at GM91 kd_294 (by decide))).trans ((congrArg (fun e => o_f e 5) (Fr.at GM84 kd_294 (by decide))).trans ((UM78.f (Or.inr (by decide))).trans ((UM71.f (Or.inr (by decide))).trans ((congrArg (fun e => o_f e 5) (Fr.at GM63 kd_294 (by decide))).trans hbJ164_6210))))))) ((congrArg (fun e => o_f e 14) (Fr.at GM383 kd_294 (by decide))).trans ((congrArg (fun e => o_f e 14) (Fr.at GM376 kd_294 (by decide))).trans ((congrArg (fun e => o_f e 14) (Fr.at GM91 kd_294 (by decide))).trans ((congrArg (fun e => o_f e 14) (Fr.at GM84 kd_294 (by decide))).trans fM78)))))
                  · skip
                    refine PW.cB q_177_311 (by decide) fun c412 hc412 => ?_
                    refine PW.goto q_177_313 rfl ?_
                    exact PW.lvS (lk1 rfl (lk1 rfl (lk1 rfl (lk1 rfl lk0)))) (J317_393 M383 c412 IM383 FM383 (by omega) (by omega) (by omega) (by omega) (by omega) (by omega) (by omega) ((congrArg (fun e => o_f e 4) (Fr.at GM383 kd_294 (by decide))).trans ((congrArg (fun e => o_f e 4) (Fr.at GM376 kd_294 (by decide))).trans ((congrArg (fun e => o_f e 4) (Fr.at GM91 kd_294 (by decide))).trans ((congrArg (fun e => o_f e 4) (Fr.at GM84 kd_294 (by decide))).trans ((UM78.f (Or.inr (by decide))).trans ((UM71.f (Or.inr (by decide))).trans ((congrArg (fun e => o_f e 4) (Fr.at GM63 kd_294 (by decide))).trans hbJ164_626))))))) ((congrArg (fun e => o_f e 12) (Fr.at GM383 kd_294 (by decide))).trans ((congrArg (fun e => o_f e 12) (Fr.at GM376 kd_294 (by decide))).trans ((congrArg (fun e => o_f e 12) (Fr.at GM91 kd_294 (by decide))).trans ((congrArg (fun e => o_f e 12) (Fr.at GM84 kd_294 (by decide))).trans ((UM78.f (Or.inr (by decide))).trans ((UM71.f (Or.inr (by decide))).trans ((congrArg (fun e => o_f e 12) (Fr.at GM63 kd_294 (by decide))).trans hbJ164_627))))))) ((congrArg (fun e => o_f e 13) (Fr.at GM383 kd_294 (by decide))).trans ((congrArg (fun e => o_f e 13) (Fr.at GM376 kd_294 (by decide))).trans ((congrArg (fun e => o_f e 13) (Fr.at GM91 kd_294 (by decide))).trans ((congrArg (fun e => o_f e 13) (Fr.at GM84 kd_294 (by decide))).trans ((UM78.f (Or.inr (by decide))).trans ((UM71.f (Or.inr (by decide))).trans ((congrArg (fun e => o_f e 13) (Fr.at GM63 kd_294 (by decide))).trans hbJ164_628))))))) ((congrArg (fun e => o_f e 3) (Fr.at GM383 kd_294 (by decide))).trans ((congrArg (fun e => o_f e 3) (Fr.at GM376 kd_294 (by decide))).trans ((congrArg (fun e => o_f e 3) (Fr.at GM91 kd_294 (by decide))).trans ((congrArg (fun e => o_f e 3) (Fr.at GM84 kd_294 (by decide))).trans ((UM78.f (Or.inr (by decide))).trans ((UM71.f (Or.inr (by decide))).trans ((congrArg (fun e => o_f e 3) (Fr.at GM63 kd_294 (by decide))).trans hbJ164_629))))))) ((congrArg (fun e => o_f e 5) (Fr.at GM383 kd_294 (by decide))).trans ((congrArg (fun e => o_f e 5) (Fr.at GM376 kd_294 (by decide))).trans ((congrArg (fun e => o_f e 5) (Fr.at GM91 kd_294 (by decide))).trans ((congrArg (fun e => o_f e 5) (Fr.at GM84 kd_294 (by decide))).trans ((UM78.f (Or.inr (by decide))).trans ((UM71.f (Or.inr (by decide))).trans ((congrArg (fun e => o_f e 5) (Fr.at GM63 kd_294 (by decide))).trans hbJ164_6210))))))) ((congrArg (fun e => o_f e 14) (Fr.at GM383 kd_294 (by decide))).trans ((congrArg (fun e => o_f e 14) (Fr.at GM376 kd_294 (by decide))).trans ((congrArg (fun e => o_f e 14) (Fr.at GM91 kd_294 (by decide))).trans ((congrArg (fun e => o_f e 14) (Fr.at GM84 kd_294 (by decide))).trans fM78)))))
                · skip
                  exact PW.lvS (lk1 rfl (lk1 rfl (lk1 rfl (lk1 rfl lk0)))) (J201_99 M383  IM383 FM383 (by omega) (by omega) (by omega) (by omega) (by omega) (by omega) (by omega) ((congrArg (fun e => o_f e 4) (Fr.at GM383 kd_294 (by decide))).trans ((congrArg (fun e => o_f e 4) (Fr.at GM376 kd_294 (by decide))).trans ((congrArg (fun e => o_f e 4) (Fr.at GM91 kd_294 (by decide))).trans ((congrArg (fun e => o_f e 4) (Fr.at GM84 kd_294 (by decide))).trans ((UM78.f (Or.inr (by decide))).trans ((UM71.f (Or.inr (by decide))).trans ((congrArg (fun e => o_f e 4) (Fr.at GM63 kd_294 (by decide))).trans hbJ164_626))))))) ((congrArg (fun e => o_f e 12) (Fr.at GM383 kd_294 (by decide))).trans ((congrArg (fun e => o_f e 12) (Fr.at GM376 kd_294 (by decide))).trans ((congrArg (fun e => o_f e 12) (Fr.at GM91 kd_294 (by decide))).trans ((congrArg (fun e => o_f e 12) (Fr.at GM84 kd_294 (by decide))).trans ((UM78.f (Or.inr (by decide))).trans ((UM71.f (Or.inr (by decide))).trans ((congrArg (fun e => o_f e 12) (Fr.at GM63 kd_294 (by decide))).trans hbJ164_627))))))) ((congrArg (fun e => o_f e 13) (Fr.at GM383 kd_294 (by decide))).trans ((congrArg (fun e => o_f e 13) (Fr.at GM376 kd_294 (by decide))).trans ((congrArg (fun e => o_f e 13) (Fr.at GM91 kd_294 (by decide))).trans ((congrArg (fun e => o_f e 13) (Fr.at GM84 kd_294 (by decide))).trans ((UM78.f (Or.inr (by decide))).trans ((UM71.f (Or.inr (by decide))).trans ((congrArg (fun e => o_f e 13) (Fr.at GM63 kd_294 (by decide))).trans hbJ164_628))))))) ((congrArg (fun e => o_f e 3) (Fr.at GM383 kd_294 (by decide))).trans ((congrArg (fun e => o_f e 3) (Fr.at GM376 kd_294 (by decide))).trans ((congrArg (fun e => o_f e 3) (Fr.at GM91 kd_294 (by decide))).trans ((congrArg (fun e => o_f e 3) (Fr.at GM84 kd_294 (by decide))).trans ((UM78.f (Or.inr (by decide))).trans ((UM71.f (Or.inr (by decide))).trans ((congrArg (fun e => o_f e 3) (Fr.at GM63 kd_294 (by decide))).trans hbJ164_629))))))) ((congrArg (fun e => o_f e 5) (Fr.at GM383 kd_294 (by decide))).trans ((congrArg (fun e => o_f e 5) (Fr.at GM376 kd_294 (by decide))).trans ((congrArg (fun e => o_f e 5) (Fr.at GM91 kd_294 (by decide))).trans ((congrArg (fun e => o_f e 5) (Fr.at GM84 kd_294 (by decide))).trans ((UM78.f (Or.inr (by decide))).trans ((UM71.f (Or.inr (by decide))).trans ((congrArg (fun e => o_f e 5) (Fr.at GM63 kd_294 (by decide))).trans hbJ164_6210))))))) ((congrArg (fun e => o_f e 14) (Fr.at GM383 kd_294 (by decide))).trans ((congrArg (fun e => o_f e 14) (Fr.at GM376 kd_294 (by decide))).trans ((congrArg (fun e => o_f e 14) (Fr.at GM91 kd_294 (by decide))).trans ((congrArg (fun e => o_f e 14) (Fr.at GM84 kd_294 (by decide))).trans fM78)))))
            refine PW.jz_ne q_177_99 rfl (fun h61 => ?_) (fun h61 => ?_)
            · skip
              exact PW.lvS (lk1 rfl (lk1 rfl lk0)) (J164_62 M54  IM54 FM54 (by omega) (by omega) (by omega) (by omega) (by omega) (by omega) ((congrArg (fun e => o_f e 4) (Fr.at GM54 kd_294 (by decide))).trans ((congrArg (fun e => o_f e 4) (Fr.at GM46 kd_294 (by decide))).trans hbJ80_455)) ((congrArg (fun e => o_f e 12) (Fr.at GM54 kd_294 (by decide))).trans ((congrArg (fun e => o_f e 12) (Fr.at GM46 kd_294 (by decide))).trans hbJ80_456)) ((congrArg (fun e => o_f e 13) (Fr.at GM54 kd_294 (by decide))).trans ((congrArg (fun e => o_f e 13) (Fr.at GM46 kd_294 (by decide))).trans hbJ80_457)) ((congrArg (fun e => o_f e 3) (Fr.at GM54 kd_294 (by decide))).trans ((congrArg (fun e => o_f e 3) (Fr.at GM46 kd_294 (by decide))).trans hbJ80_458)) ((congrArg (fun e => o_f e 5) (Fr.at GM54 kd_294 (by decide))).trans ((congrArg (fun e => o_f e 5) (Fr.at GM46 kd_294 (by decide))).trans hbJ80_459)))
            · skip
              refine PW.iload_n q_177_102 rfl ?_
              refine PW.callS (as := [_]) (rest := []) q_177_103 t_ms_177_151 (by decide) rfl (Nat.le_of_ble_eq_true rfl) (Nat.le_of_ble_eq_true rfl) (by decide) (by decide) ?_
              refine PW.up (by decide) (c_X12_isDigit (V) (hV) G _ M54 IM54 x47 fun x414 M413 IM413 GM413 hx414 kx414 PM413 => ?_)
              have FM413 := Fr.trans FM54 GM413 (rfl)
              have tg415 := gpk_F GM413 (by decide) (by decide)
              have tr416 : o_i (M413 294) 4 = o_i (M54 294) 4 := by rw [Fr.at GM413 kd_294 (by decide)]
              have tr417 : o_i (M413 294) 3 = o_i (M54 294) 3 := by rw [Fr.at GM413 kd_294 (by decide)]
              have tr418 : o_i (M413 294) 11 = o_i (M54 294) 11 := by rw [Fr.at GM413 kd_294 (by decide)]
              have tr419 : o_i (M413 294) 18 = o_i (M54 294) 18 := by rw [Fr.at GM413 kd_294 (by decide)]
              refine PW.jz_ne q_177_106 rfl (fun h420 => ?_) (fun h420 => ?_)
              · skip
                exact PW.lvS (lk1 rfl (lk1 rfl lk0)) (J164_62 M413  IM413 FM413 (by omega) (by omega) (by omega) (by omega) (by omega) (by omega) ((congrArg (fun e => o_f e 4) (Fr.at GM413 kd_294 (by decide))).trans ((congrArg (fun e => o_f e 4) (Fr.at GM54 kd_294 (by decide))).trans ((congrArg (fun e => o_f e 4) (Fr.at GM46 kd_294 (by decide))).trans hbJ80_455))) ((congrArg (fun e => o_f e 12) (Fr.at GM413 kd_294 (by decide))).trans ((congrArg (fun e => o_f e 12) (Fr.at GM54 kd_294 (by decide))).trans ((congrArg (fun e => o_f e 12) (Fr.at GM46 kd_294 (by decide))).trans hbJ80_456))) ((congrArg (fun e => o_f e 13) (Fr.at GM413 kd_294 (by decide))).trans ((congrArg (fun e => o_f e 13) (Fr.at GM54 kd_294 (by decide))).trans ((congrArg (fun e => o_f e 13) (Fr.at GM46 kd_294 (by decide))).trans hbJ80_457))) ((congrArg (fun e => o_f e 3) (Fr.at GM413 kd_294 (by decide))).trans ((congrArg (fun e => o_f e 3) (Fr.at GM54 kd_294 (by decide))).trans ((congrArg (fun e => o_f e 3) (Fr.at GM46 kd_294 (by decide))).trans hbJ80_458))) ((congrArg (fun e => o_f e 5) (Fr.at GM413 kd_294 (by decide))).trans ((congrArg (fun e => o_f e 5) (Fr.at GM54 kd_294 (by decide))).trans ((congrArg (fun e => o_f e 5) (Fr.at GM46 kd_294 (by decide))).trans hbJ80_459))))
              · skip
                refine PW.aload_n q_177_109 rfl ?_
                refine PW.iload_n q_177_110 rfl ?_
                refine PW.cB q_177_111 (by decide) fun c421 hc421 => ?_
                have J140_423 : ∀ (MJ140_423 : pM), Iv (V) MJ140_423 → Fr [40] M MJ140_423 → o_i (MJ140_423 294) 4 = o_i (M413 294) 4 → o_i (MJ140_423 294) 3 = o_i (M413 294) 3 → o_i (MJ140_423 294) 11 = o_i (M413 294) 11 → o_i (MJ140_423 294) 18 = o_i (M413 294) 18 → gpk MJ140_423 = gpk M413 → o_f (MJ140_423 294) 4 = .int x28 → o_f (MJ140_423 294) 12 = .int x28 → o_f (MJ140_423 294) 13 = .int c35 → o_f (MJ140_423 294) 3 = .int x42 → o_f (MJ140_423 294) 5 = .int x43 → PW G false 1 177 (p_mc 177) (p_msl 177) Kr 140 [(0, .ref 294), (1, .int x47)] [.ref 294] 311 MJ140_423 0 0 := by
                  intro MJ140_423  IMJ140_423 FMJ140_423 hbJ140_4230 hbJ140_4231 hbJ140_4232 hbJ140_4233 hbJ140_4234 hbJ140_4235 hbJ140_4236 hbJ140_4237 hbJ140_4238 hbJ140_4239
                  refine PW.cI q_177_140 (by decide) fun c424 hc424 => ?_
                  refine PW.goto q_177_141 rfl ?_
                  refine PW.pI q_177_145 (Or.inl t_ft_177_144) gF_40_11 gP_40_11 kd_294 hV IMJ140_423 (by decide) rfl (n_lo _) (n_hi _) fun M425 IM425 fM425 UM425 => ?_
                  have FM425 := Fr.pu FMJ140_423 UM425.1 kd_294 (rfl : List.contains [40] 40 = true)
                  have tg426 := gpk_U UM425 (by decide) (by decide)
                  have tr427 := UM425.i (c := 294) (k := 4) (Or.inr (by decide))
                  have tr428 := UM425.i (c := 294) (k := 3) (Or.inr (by decide))
                  have tr429 := o_i_of fM425
                  have tr430 := UM425.i (c := 294) (k := 18) (Or.inr (by decide))
                  refine PW.aload_n q_177_148 rfl ?_
                  refine PW.iload_n q_177_149 rfl ?_
                  refine PW.pI q_177_150 (Or.inl t_ft_177_154) gF_40_14 gP_40_14 kd_294 hV IM425 (by decide) rfl (n_lo _) (n_hi _) fun M431 IM431 fM431 UM431 => ?_
                  have FM431 := Fr.pu FM425 UM431.1 kd_294 (rfl : List.contains [40] 40 = true)
                  have tg432 := gpk_U UM431 (by decide) (by decide)
                  have tr433 := UM431.i (c := 294) (k := 4) (Or.inr (by decide))
                  have tr434 := UM431.i (c := 294) (k := 3) (Or.inr (by decide))
                  have tr435 := UM431.i (c := 294) (k := 11) (Or.inr (by decide))
                  have tr436 := UM431.i (c := 294) (k := 18) (Or.inr (by decide))
                  refine PW.aload_n q_177_153 rfl ?_
                  refine PW.dup q_177_154 rfl ?_
                  refine PW.gE q_177_155 (Or.inl t_ft_177_21) gF_40_4 kd_294 IM431.1 (by decide) ((UM431.f (Or.inr (by decide))).trans ((UM425.f (Or.inr (by decide))).trans hbJ140_4235)) ?_
                  have tr437 := o_i_of ((UM431.f (Or.inr (by decide))).trans ((UM425.f (Or.inr (by decide))).trans hbJ140_4235))
                  refine PW.cI q_177_158 (by decide) fun c438 hc438 => ?_
                  refine PW.addN q_177_159 (by omega) (by omega) fun x439 hx439 => ?_
                  refine PW.pI q_177_160 (Or.inl t_ft_177_21) gF_40_4 gP_40_4 kd_294 hV IM431 (by decide) rfl (by omega) (by omega) fun M440 IM440 fM440 UM440 => ?_
                  have FM440 := Fr.pu FM431 UM440.1 kd_294 (rfl : List.contains [40] 40 = true)
                  have tr441 := o_i_of fM440
                  have tr442 := UM440.i (c := 294) (k := 3) (Or.inr (by decide))
                  have tr443 := UM440.i (c := 294) (k := 11) (Or.inr (by decide))
                  have tr444 := UM440.i (c := 294) (k := 18) (Or.inr (by decide))
                  refine PW.vret q_177_163 rfl (by decide) (by decide) ?_
                  exact hK M440 IM440 FM440 (by omega)
                refine PW.jc_eq q_177_113 rfl (fun h422 => ?_) (fun h422 => ?_)
                · skip
                  exact PW.lvS (lk1 rfl (lk1 rfl lk0)) (J140_423 M413  IM413 FM413 (by omega) (by omega) (by omega) (by omega) (by omega) ((congrArg (fun e => o_f e 4) (Fr.at GM413 kd_294 (by decide))).trans ((congrArg (fun e => o_f e 4) (Fr.at GM54 kd_294 (by decide))).trans ((congrArg (fun e => o_f e 4) (Fr.at GM46 kd_294 (by decide))).trans hbJ80_455))) ((congrArg (fun e => o_f e 12) (Fr.at GM413 kd_294 (by decide))).trans ((congrArg (fun e => o_f e 12) (Fr.at GM54 kd_294 (by decide))).trans ((congrArg (fun e => o_f e 12) (Fr.at GM46 kd_294 (by decide))).trans hbJ80_456))) ((congrArg (fun e => o_f e 13) (Fr.at GM413 kd_294 (by decide))).trans ((congrArg (fun e => o_f e 13) (Fr.at GM54 kd_294 (by decide))).trans ((congrArg (fun e => o_f e 13) (Fr.at GM46 kd_294 (by decide))).trans hbJ80_457))) ((congrArg (fun e => o_f e 3) (Fr.at GM413 kd_294 (by decide))).trans ((congrArg (fun e => o_f e 3) (Fr.at GM54 kd_294 (by decide))).trans ((congrArg (fun e => o_f e 3) (Fr.at GM46 kd_294 (by decide))).trans hbJ80_458))) ((congrArg (fun e => o_f e 5) (Fr.at GM413 kd_294 (by decide))).trans ((congrArg (fun e => o_f e 5) (Fr.at GM54 kd_294 (by decide))).trans ((congrArg (fun e => o_f e 5) (Fr.at GM46 kd_294 (by decide))).trans hbJ80_459))))
                · skip
                  refine PW.iload_n q_177_116 rfl ?_
                  refine PW.cB q_177_117 (by decide) fun c445 hc445 => ?_
                  refine PW.jc_eq q_177_119 rfl (fun h446 => ?_) (fun h446 => ?_)
                  · skip
                    exact PW.lvS (lk1 rfl (lk1 rfl lk0)) (J140_423 M413  IM413 FM413 (by omega) (by omega) (by omega) (by omega) (by omega) ((congrArg (fun e => o_f e 4) (Fr.at GM413 kd_294 (by decide))).trans ((congrArg (fun e => o_f e 4) (Fr.at GM54 kd_294 (by decide))).trans ((congrArg (fun e => o_f e 4) (Fr.at GM46 kd_294 (by decide))).trans hbJ80_455))) ((congrArg (fun e => o_f e 12) (Fr.at GM413 kd_294 (by decide))).trans ((congrArg (fun e => o_f e 12) (Fr.at GM54 kd_294 (by decide))).trans ((congrArg (fun e => o_f e 12) (Fr.at GM46 kd_294 (by decide))).trans hbJ80_456))) ((congrArg (fun e => o_f e 13) (Fr.at GM413 kd_294 (by decide))).trans ((congrArg (fun e => o_f e 13) (Fr.at GM54 kd_294 (by decide))).trans ((congrArg (fun e => o_f e 13) (Fr.at GM46 kd_294 (by decide))).trans hbJ80_457))) ((congrArg (fun e => o_f e 3) (Fr.at GM413 kd_294 (by decide))).trans ((congrArg (fun e => o_f e 3) (Fr.at GM54 kd_294 (by decide))).trans ((congrArg (fun e => o_f e 3) (Fr.at GM46 kd_294 (by decide))).trans hbJ80_458))) ((congrArg (fun e => o_f e 5) (Fr.at GM413 kd_294 (by decide))).trans ((congrArg (fun e => o_f e 5) (Fr.at GM54 kd_294 (by decide))).trans ((congrArg (fun e => o_f e 5) (Fr.at GM46 kd_294 (by decide))).trans hbJ80_459))))
                  · skip
                    refine PW.iload_n q_177_122 rfl ?_
                    refine PW.cB q_177_123 (by decide) fun c447 hc447 => ?_
                    refine PW.jc_eq q_177_125 rfl (fun h448 => ?_) (fun h448 => ?_)
                    · skip
                      exact PW.lvS (lk1 rfl (lk1 rfl lk0)) (J140_423 M413  IM413 FM413 (by omega) (by omega) (by omega) (by omega) (by omega) ((congrArg (fun e => o_f e 4) (Fr.at GM413 kd_294 (by decide))).trans ((congrArg (fun e => o_f e 4) (Fr.at GM54 kd_294 (by decide))).trans ((congrArg (fun e => o_f e 4) (Fr.at GM46 kd_294 (by decide))).trans hbJ80_455))) ((congrArg (fun e => o_f e 12) (Fr.at GM413 kd_294 (by decide))).trans ((congrArg (fun e => o_f e 12) (Fr.at GM54 kd_294 (by decide))).trans ((congrArg (fun e => o_f e 12) (Fr.at GM46 kd_294 (by decide))).trans hbJ80_456))) ((congrArg (fun e => o_f e 13) (Fr.at GM413 kd_294 (by decide))).trans ((congrArg (fun e => o_f e 13) (Fr.at GM54 kd_294 (by decide))).trans ((congrArg (fun e => o_f e 13) (Fr.at GM46 kd_294 (by decide))).trans hbJ80_457))) ((congrArg (fun e => o_f e 3) (Fr.at GM413 kd_294 (by decide))).trans ((congrArg (fun e => o_f e 3) (Fr.at GM54 kd_294 (by decide))).trans ((congrArg (fun e => o_f e 3) (Fr.at GM46 kd_294 (by decide))).trans hbJ80_458))) ((congrArg (fun e => o_f e 5) (Fr.at GM413 kd_294 (by decide))).trans ((congrArg (fun e => o_f e 5) (Fr.at GM54 kd_294 (by decide))).trans ((congrArg (fun e => o_f e 5) (Fr.at GM46 kd_294 (by decide))).trans hbJ80_459))))
                    · skip
                      refine PW.iload_n q_177_128 rfl ?_
                      refine PW.cB q_177_129 (by decide) fun c449 hc449 => ?_
                      have J144_451 : ∀ (MJ144_451 : pM), Iv (V) MJ144_451 → Fr [40] M MJ144_451 → o_i (MJ144_451 294) 4 = o_i (M413 294) 4 → o_i (MJ144_451 294) 3 = o_i (M413 294) 3 → o_i (MJ144_451 294) 11 = o_i (M413 294) 11 → o_i (MJ144_451 294) 18 = o_i (M413 294) 18 → gpk MJ144_451 = gpk M413 → o_f (MJ144_451 294) 4 = .int x28 → o_f (MJ144_451 294) 12 = .int x28 → o_f (MJ144_451 294) 13 = .int c35 → o_f (MJ144_451 294) 3 = .int x42 → o_f (MJ144_451 294) 5 = .int x43 → PW G false 1 177 (p_mc 177) (p_msl 177) Kr 144 [(0, .ref 294), (1, .int x47)] [.ref 294] 311 MJ144_451 0 0 := by
                        intro MJ144_451  IMJ144_451 FMJ144_451 hbJ144_4510 hbJ144_4511 hbJ144_4512 hbJ144_4513 hbJ144_4514 hbJ144_4515 hbJ144_4516 hbJ144_4517 hbJ144_4518 hbJ144_4519
                        refine PW.cI q_177_144 (by decide) fun c452 hc452 => ?_
                        refine PW.pI q_177_145 (Or.inl t_ft_177_144) gF_40_11 gP_40_11 kd_294 hV IMJ144_451 (by decide) rfl (n_lo _) (n_hi _) fun M453 IM453 fM453 UM453 => ?_
                        have FM453 := Fr.pu FMJ144_451 UM453.1 kd_294 (rfl : List.contains [40] 40 = true)
                        have tg454 := gpk_U UM453 (by decide) (by decide)
                        have tr455 := UM453.i (c := 294) (k := 4) (Or.inr (by decide))
                        have tr456 := UM453.i (c := 294) (k := 3) (Or.inr (by decide))
                        have tr457 := o_i_of fM453
                        have tr458 := UM453.i (c := 294) (k := 18) (Or.inr (by decide))
                        refine PW.aload_n q_177_148 rfl ?_
                        refine PW.iload_n q_177_149 rfl ?_
                        refine PW.pI q_177_150 (Or.inl t_ft_177_154) gF_40_14 gP_40_14 kd_294 hV IM453 (by decide) rfl (n_lo _) (n_hi _) fun M459 IM459 fM459 UM459 => ?_
                        have FM459 := Fr.pu FM453 UM459.1 kd_294 (rfl : List.contains [40] 40 = true)
                        have tg460 := gpk_U UM459 (by decide) (by decide)
                        have tr461 := UM459.i (c := 294) (k := 4) (Or.inr (by decide))
                        have tr462 := UM459.i (c := 294) (k := 3) (Or.inr (by decide))
                        have tr463 := UM459.i (c := 294) (k := 11) (Or.inr (by decide))
                        have tr464 := UM459.i (c := 294) (k := 18) (Or.inr (by decide))
                        refine PW.aload_n q_177_153 rfl ?_
                        refine PW.dup q_177_154 rfl ?_
                        refine PW.gE q_177_155 (Or.inl t_ft_177_21) gF_40_4 kd_294 IM459.1 (by decide) ((UM459.f (Or.inr (by decide))).trans ((UM453.f (Or.inr (by decide))).trans hbJ144_4515)) ?_
                        have tr465 := o_i_of ((UM459.f (Or.inr (by decide))).trans ((UM453.f (Or.inr (by decide))).trans hbJ144_4515))
                        refine PW.cI q_177_158 (by decide) fun c466 hc466 => ?_
                        refine PW.addN q_177_159 (by omega) (by omega) fun x467 hx467 => ?_
                        refine PW.pI q_177_160 (Or.inl t_ft_177_21) gF_40_4 gP_40_4 kd_294 hV IM459 (by decide) rfl (by omega) (by omega) fun M468 IM468 fM468 UM468 => ?_
                        have FM468 := Fr.pu FM459 UM468.1 kd_294 (rfl : List.contains [40] 40 = true)
                        have tr469 := o_i_of fM468
                        have tr470 := UM468.i (c := 294) (k := 3) (Or.inr (by decide))
                        have tr471 := UM468.i (c := 294) (k := 11) (Or.inr (by decide))
                        have tr472 := UM468.i (c := 294) (k := 18) (Or.inr (by decide))
                        refine PW.vret q_177_163 rfl (by decide) (by decide) ?_
                        exact hK M468 IM468 FM468 (by omega)
                      refine PW.jc_lt q_177_131 rfl (fun h450 => ?_) (fun h450 => ?_)
                      · skip
                        exact PW.lvS (lk1 rfl (lk1 rfl lk0)) (J144_451 M413  IM413 FM413 (by omega) (by omega) (by omega) (by omega) (by omega) ((congrArg (fun e => o_f e 4) (Fr.at GM413 kd_294 (by decide))).trans ((congrArg (fun e => o_f e 4) (Fr.at GM54 kd_294 (by decide))).trans ((congrArg (fun e => o_f e 4) (Fr.at GM46 kd_294 (by decide))).trans hbJ80_455))) ((congrArg (fun e => o_f e 12) (Fr.at GM413 kd_294 (by decide))).trans ((congrArg (fun e => o_f e 12) (Fr.at GM54 kd_294 (by decide))).trans ((congrArg (fun e => o_f e 12) (Fr.at GM46 kd_294 (by decide))).trans hbJ80_456))) ((congrArg (fun e => o_f e 13) (Fr.at GM413 kd_294 (by decide))).trans ((congrArg (fun e => o_f e 13) (Fr.at GM54 kd_294 (by decide))).trans ((congrArg (fun e => o_f e 13) (Fr.at GM46 kd_294 (by decide))).trans hbJ80_457))) ((congrArg (fun e => o_f e 3) (Fr.at GM413 kd_294 (by decide))).trans ((congrArg (fun e => o_f e 3) (Fr.at GM54 kd_294 (by decide))).trans ((congrArg (fun e => o_f e 3) (Fr.at GM46 kd_294 (by decide))).trans hbJ80_458))) ((congrArg (fun e => o_f e 5) (Fr.at GM413 kd_294 (by decide))).trans ((congrArg (fun e => o_f e 5) (Fr.at GM54 kd_294 (by decide))).trans ((congrArg (fun e => o_f e 5) (Fr.at GM46 kd_294 (by decide))).trans hbJ80_459))))
                      · skip
                        refine PW.iload_n q_177_134 rfl ?_
                        refine PW.cB q_177_135 (by decide) fun c473 hc473 => ?_
                        refine PW.jc_gt q_177_137 rfl (fun h474 => ?_) (fun h474 => ?_)
                        · skip
                          exact PW.lvS (lk1 rfl (lk1 rfl lk0)) (J144_451 M413  IM413 FM413 (by omega) (by omega) (by omega) (by omega) (by omega) ((congrArg (fun e => o_f e 4) (Fr.at GM413 kd_294 (by decide))).trans ((congrArg (fun e => o_f e 4) (Fr.at GM54 kd_294 (by decide))).trans ((congrArg (fun e => o_f e 4) (Fr.at GM46 kd_294 (by decide))).trans hbJ80_455))) ((congrArg (fun e => o_f e 12) (Fr.at GM413 kd_294 (by decide))).trans ((congrArg (fun e => o_f e 12) (Fr.at GM54 kd_294 (by decide))).trans ((congrArg (fun e => o_f e 12) (Fr.at GM46 kd_294 (by decide))).trans hbJ80_456))) ((congrArg (fun e => o_f e 13) (Fr.at GM413 kd_294 (by decide))).trans ((congrArg (fun e => o_f e 13) (Fr.at GM54 kd_294 (by decide))).trans ((congrArg (fun e => o_f e 13) (Fr.at GM46 kd_294 (by decide))).trans hbJ80_457))) ((congrArg (fun e => o_f e 3) (Fr.at GM413 kd_294 (by decide))).trans ((congrArg (fun e => o_f e 3) (Fr.at GM54 kd_294 (by decide))).trans ((congrArg (fun e => o_f e 3) (Fr.at GM46 kd_294 (by decide))).trans hbJ80_458))) ((congrArg (fun e => o_f e 5) (Fr.at GM413 kd_294 (by decide))).trans ((congrArg (fun e => o_f e 5) (Fr.at GM54 kd_294 (by decide))).trans ((congrArg (fun e => o_f e 5) (Fr.at GM46 kd_294 (by decide))).trans hbJ80_459))))
                        · skip
                          exact PW.lvS (lk1 rfl (lk1 rfl lk0)) (J140_423 M413  IM413 FM413 (by omega) (by omega) (by omega) (by omega) (by omega) ((congrArg (fun e => o_f e 4) (Fr.at GM413 kd_294 (by decide))).trans ((congrArg (fun e => o_f e 4) (Fr.at GM54 kd_294 (by decide))).trans ((congrArg (fun e => o_f e 4) (Fr.at GM46 kd_294 (by decide))).trans hbJ80_455))) ((congrArg (fun e => o_f e 12) (Fr.at GM413 kd_294 (by decide))).trans ((congrArg (fun e => o_f e 12) (Fr.at GM54 kd_294 (by decide))).trans ((congrArg (fun e => o_f e 12) (Fr.at GM46 kd_294 (by decide))).trans hbJ80_456))) ((congrArg (fun e => o_f e 13) (Fr.at GM413 kd_294 (by decide))).trans ((congrArg (fun e => o_f e 13) (Fr.at GM54 kd_294 (by decide))).trans ((congrArg (fun e => o_f e 13) (Fr.at GM46 kd_294 (by decide))).trans hbJ80_457))) ((congrArg (fun e => o_f e 3) (Fr.at GM413 kd_294 (by decide))).trans ((congrArg (fun e => o_f e 3) (Fr.at GM54 kd_294 (by decide))).trans ((congrArg (fun e => o_f e 3) (Fr.at GM46 kd_294 (by decide))).trans hbJ80_458))) ((congrArg (fun e => o_f e 5) (Fr.at GM413 kd_294 (by decide))).trans ((congrArg (fun e => o_f e 5) (Fr.at GM54 kd_294 (by decide))).trans ((congrArg (fun e => o_f e 5) (Fr.at GM46 kd_294 (by decide))).trans hbJ80_459))))
          · skip
            refine PW.aload_n q_177_89 rfl ?_
            refine PW.cI q_177_90 (by decide) fun c475 hc475 => ?_
            refine PW.pI q_177_91 (Or.inl t_ft_177_144) gF_40_11 gP_40_11 kd_294 hV IM46 (by decide) rfl (n_lo _) (n_hi _) fun M476 IM476 fM476 UM476 => ?_
            have FM476 := Fr.pu FM46 UM476.1 kd_294 (rfl : List.contains [40] 40 = true)
            have tg477 := gpk_U UM476 (by decide) (by decide)
            have tr478 := UM476.i (c := 294) (k := 4) (Or.inr (by decide))
            have tr479 := UM476.i (c := 294) (k := 3) (Or.inr (by decide))
            have tr480 := o_i_of fM476
            have tr481 := UM476.i (c := 294) (k := 18) (Or.inr (by decide))
            refine PW.vret q_177_94 rfl (by decide) (by decide) ?_
            exact hK M476 IM476 FM476 (by omega)
        refine PW.jc_le q_177_52 rfl (fun h44 => ?_) (fun h44 => ?_)
        · skip
          exact PW.lvS (lk1 rfl lk0) (J80_45 M36  IM36 FM36 (by omega) (by omega) (by omega) (by omega) (by omega) ((UM36.f (Or.inr (by decide))).trans ((UM29.f (Or.inr (by decide))).trans fx28)) ((UM36.f (Or.inr (by decide))).trans fM29) fM36 fx42 fx43)
        · skip
          refine PW.aload_n q_177_55 rfl ?_
          refine PW.gE q_177_56 (Or.inl t_ft_177_21) gF_40_4 kd_294 IM36.1 (by decide) ((UM36.f (Or.inr (by decide))).trans ((UM29.f (Or.inr (by decide))).trans fx28)) ?_
          have tr482 := o_i_of ((UM36.f (Or.inr (by decide))).trans ((UM29.f (Or.inr (by decide))).trans fx28))
          refine PW.aload_n q_177_59 rfl ?_
          refine PW.gE q_177_60 (Or.inl t_ft_177_24) gF_40_5 kd_294 IM36.1 (by decide) fx43 ?_
          refine PW.jc_lt q_177_63 rfl (fun h483 => ?_) (fun h483 => ?_)
          · skip
            exact PW.lvS (lk1 rfl lk0) (J80_45 M36  IM36 FM36 (by omega) (by omega) (by omega) (by omega) (by omega) ((UM36.f (Or.inr (by decide))).trans ((UM29.f (Or.inr (by decide))).trans fx28)) ((UM36.f (Or.inr (by decide))).trans fM29) fM36 fx42 fx43)
          · skip
            refine PW.aload_n q_177_66 rfl ?_
            refine PW.aload_n q_177_67 rfl ?_
            refine PW.gE q_177_68 (Or.inl t_ft_177_24) gF_40_5 kd_294 IM36.1 (by decide) fx43 ?_
            refine PW.pI q_177_71 (Or.inl t_ft_177_138) gF_40_12 gP_40_12 kd_294 hV IM36 (by decide) rfl (n_lo _) (n_hi _) fun M484 IM484 fM484 UM484 => ?_
            have FM484 := Fr.pu FM36 UM484.1 kd_294 (rfl : List.contains [40] 40 = true)
            have tg485 := gpk_U UM484 (by decide) (by decide)
            have tr486 := UM484.i (c := 294) (k := 4) (Or.inr (by decide))
            have tr487 := UM484.i (c := 294) (k := 3) (Or.inr (by decide))
            have tr488 := UM484.i (c := 294) (k := 11) (Or.inr (by decide))
            have tr489 := UM484.i (c := 294) (k := 18) (Or.inr (by decide))
            refine PW.aload_n q_177_74 rfl ?_
            refine PW.cI q_177_75 (by decide) fun c490 hc490 => ?_
            refine PW.pI q_177_76 (Or.inl t_ft_177_144) gF_40_11 gP_40_11 kd_294 hV IM484 (by decide) rfl (n_lo _) (n_hi _) fun M491 IM491 fM491 UM491 => ?_
            have FM491 := Fr.pu FM484 UM491.1 kd_294 (rfl : List.contains [40] 40 = true)
            have tg492 := gpk_U UM491 (by decide) (by decide)
            have tr493 := UM491.i (c := 294) (k := 4) (Or.inr (by decide))
            have tr494 := UM491.i (c := 294) (k := 3) (Or.inr (by decide))
            have tr495 := o_i_of fM491
            have tr496 := UM491.i (c := 294) (k := 18) (Or.inr (by decide))
            refine PW.vret q_177_79 rfl (by decide) (by decide) ?_
            exact hK M491 IM491 FM491 (by omega)
      · skip
        refine PW.aload_n q_177_18 rfl ?_
        refine PW.dup q_177_19 rfl ?_
        refine PW.gI q_177_20 (Or.inl t_ft_177_21) gF_40_4 kd_294 IM19.1 (by decide) fun x497 fx497 hx497 kx497 => ?_
        have trx497 := o_i_of fx497
        refine PW.cI q_177_23 (by decide) fun c498 hc498 => ?_
        refine PW.addN q_177_24 (by omega) (by omega) fun x499 hx499 => ?_
        refine PW.pI q_177_25 (Or.inl t_ft_177_21) gF_40_4 gP_40_4 kd_294 hV IM19 (by decide) rfl (by omega) (by omega) fun M500 IM500 fM500 UM500 => ?_
        have FM500 := Fr.pu FM19 UM500.1 kd_294 (rfl : List.contains [40] 40 = true)
        have tr501 := o_i_of fM500
        have tr502 := UM500.i (c := 294) (k := 3) (Or.inr (by decide))
        have tr503 := UM500.i (c := 294) (k := 11) (Or.inr (by decide))
        have tr504 := UM500.i (c := 294) (k := 18) (Or.inr (by decide))
        refine PW.goto q_177_28 rfl ?_
        refine PW.lvS (lk1 rfl lk0) (ih_L177_0_1 _ ?_ M500  IM500 FM500 (by omega) (by omega) rfl)
        omega
  exact PW.lvS (lk1 rfl lk0) (L177_0_1 _ M  I F (by omega) (by omega) rfl)
