theorem q_80_0 : p_tb 80 0 = some (.iload_n 0, 1) := by decide +kernel
theorem q_80_1 : p_tb 80 1 = some (.bipush 97, 2) := by decide +kernel
theorem q_80_3 : p_tb 80 3 = some (.if_icmp .lt 13, 3) := by decide +kernel
theorem q_80_6 : p_tb 80 6 = some (.iload_n 0, 1) := by decide +kernel
theorem q_80_7 : p_tb 80 7 = some (.bipush 122, 2) := by decide +kernel
theorem q_80_9 : p_tb 80 9 = some (.if_icmp .gt 7, 3) := by decide +kernel
theorem q_80_12 : p_tb 80 12 = some (.iconst 1, 1) := by decide +kernel
theorem q_80_13 : p_tb 80 13 = some (.goto 4, 3) := by decide +kernel
theorem q_80_16 : p_tb 80 16 = some (.iconst 0, 1) := by decide +kernel
theorem q_80_17 : p_tb 80 17 = some (.ireturn, 1) := by decide +kernel
theorem q_81_0 : p_tb 81 0 = some (.iload_n 0, 1) := by decide +kernel
theorem q_81_1 : p_tb 81 1 = some (.bipush 48, 2) := by decide +kernel
theorem q_81_3 : p_tb 81 3 = some (.if_icmp .lt 13, 3) := by decide +kernel
theorem q_81_6 : p_tb 81 6 = some (.iload_n 0, 1) := by decide +kernel
theorem q_81_7 : p_tb 81 7 = some (.bipush 57, 2) := by decide +kernel
theorem q_81_9 : p_tb 81 9 = some (.if_icmp .gt 7, 3) := by decide +kernel
theorem q_81_12 : p_tb 81 12 = some (.iconst 1, 1) := by decide +kernel
theorem q_81_13 : p_tb 81 13 = some (.goto 4, 3) := by decide +kernel
theorem q_81_16 : p_tb 81 16 = some (.iconst 0, 1) := by decide +kernel
theorem q_81_17 : p_tb 81 17 = some (.ireturn, 1) := by decide +kernel
theorem q_82_0 : p_tb 82 0 = some (.iload_n 0, 1) := by decide +kernel
theorem q_82_1 : p_tb 82 1 = some (.bipush 59, 2) := by decide +kernel
theorem q_82_3 : p_tb 82 3 = some (.if_icmp .eq 33, 3) := by decide +kernel
theorem q_82_6 : p_tb 82 6 = some (.iload_n 0, 1) := by decide +kernel
theorem q_82_7 : p_tb 82 7 = some (.bipush 60, 2) := by decide +kernel
theorem q_82_9 : p_tb 82 9 = some (.if_icmp .eq 27, 3) := by decide +kernel
theorem q_82_12 : p_tb 82 12 = some (.iload_n 0, 1) := by decide +kernel
theorem q_82_13 : p_tb 82 13 = some (.bipush 61, 2) := by decide +kernel
theorem q_82_15 : p_tb 82 15 = some (.if_icmp .eq 21, 3) := by decide +kernel
theorem q_82_18 : p_tb 82 18 = some (.iload_n 0, 1) := by decide +kernel
theorem q_82_19 : p_tb 82 19 = some (.bipush 62, 2) := by decide +kernel
theorem q_82_21 : p_tb 82 21 = some (.if_icmp .eq 15, 3) := by decide +kernel
theorem q_82_24 : p_tb 82 24 = some (.iload_n 0, 1) := by decide +kernel
theorem q_82_25 : p_tb 82 25 = some (.bipush 40, 2) := by decide +kernel
theorem q_82_27 : p_tb 82 27 = some (.if_icmp .eq 9, 3) := by decide +kernel
theorem q_82_30 : p_tb 82 30 = some (.iload_n 0, 1) := by decide +kernel
theorem q_82_31 : p_tb 82 31 = some (.bipush 41, 2) := by decide +kernel
theorem q_82_33 : p_tb 82 33 = some (.if_icmp .ne 7, 3) := by decide +kernel
theorem q_82_36 : p_tb 82 36 = some (.iconst 1, 1) := by decide +kernel
theorem q_82_37 : p_tb 82 37 = some (.goto 4, 3) := by decide +kernel
theorem q_82_40 : p_tb 82 40 = some (.iconst 0, 1) := by decide +kernel
theorem q_82_41 : p_tb 82 41 = some (.ireturn, 1) := by decide +kernel
theorem q_75_0 : p_tb 75 0 = some (.iload_n 1, 1) := by decide +kernel
theorem q_75_1 : p_tb 75 1 = some (.ifCond .lt 24, 3) := by decide +kernel
theorem q_75_4 : p_tb 75 4 = some (.iload_n 1, 1) := by decide +kernel
theorem q_75_5 : p_tb 75 5 = some (.aload_n 0, 1) := by decide +kernel
theorem q_75_6 : p_tb 75 6 = some (.getfield 26, 3) := by decide +kernel
theorem q_75_9 : p_tb 75 9 = some (.if_icmp .ge 16, 3) := by decide +kernel
theorem q_75_12 : p_tb 75 12 = some (.aload_n 0, 1) := by decide +kernel
theorem q_75_13 : p_tb 75 13 = some (.getfield 9, 3) := by decide +kernel
theorem q_75_16 : p_tb 75 16 = some (.iload_n 1, 1) := by decide +kernel
theorem q_75_17 : p_tb 75 17 = some (.baload, 1) := by decide +kernel
theorem q_75_18 : p_tb 75 18 = some (.sipush 255, 3) := by decide +kernel
theorem q_75_21 : p_tb 75 21 = some (.iand, 1) := by decide +kernel
theorem q_75_22 : p_tb 75 22 = some (.goto 4, 3) := by decide +kernel
theorem q_75_25 : p_tb 75 25 = some (.iconst (-1), 1) := by decide +kernel
theorem q_75_26 : p_tb 75 26 = some (.ireturn, 1) := by decide +kernel
theorem t_ft_75_26 : p_f2 p_ft (p_mK 75) 26 = some (7, 1) := by decide +kernel
theorem t_ft_75_9 : p_f2 p_ft (p_mK 75) 9 = some (7, 0) := by decide +kernel
theorem q_79_0 : p_tb 79 0 = some (.iconst 0, 1) := by decide +kernel
theorem q_79_1 : p_tb 79 1 = some (.istore_n 1, 1) := by decide +kernel
theorem q_79_2 : p_tb 79 2 = some (.iload_n 1, 1) := by decide +kernel
theorem q_79_3 : p_tb 79 3 = some (.getstatic 92, 3) := by decide +kernel
theorem q_79_6 : p_tb 79 6 = some (.arraylength, 1) := by decide +kernel
theorem q_79_7 : p_tb 79 7 = some (.if_icmp .ge 36, 3) := by decide +kernel
theorem q_79_10 : p_tb 79 10 = some (.getstatic 92, 3) := by decide +kernel
theorem q_79_13 : p_tb 79 13 = some (.iload_n 1, 1) := by decide +kernel
theorem q_79_14 : p_tb 79 14 = some (.aaload, 1) := by decide +kernel
theorem q_79_15 : p_tb 79 15 = some (.getfield 96, 3) := by decide +kernel
theorem q_79_18 : p_tb 79 18 = some (.aload_n 0, 1) := by decide +kernel
theorem q_79_19 : p_tb 79 19 = some (.getfield 77, 3) := by decide +kernel
theorem q_79_22 : p_tb 79 22 = some (.lcmp, 1) := by decide +kernel
theorem q_79_23 : p_tb 79 23 = some (.ifCond .ne 14, 3) := by decide +kernel
theorem q_79_26 : p_tb 79 26 = some (.aload_n 0, 1) := by decide +kernel
theorem q_79_27 : p_tb 79 27 = some (.getstatic 92, 3) := by decide +kernel
theorem q_79_30 : p_tb 79 30 = some (.iload_n 1, 1) := by decide +kernel
theorem q_79_31 : p_tb 79 31 = some (.aaload, 1) := by decide +kernel
theorem q_79_32 : p_tb 79 32 = some (.putfield 21, 3) := by decide +kernel
theorem q_79_35 : p_tb 79 35 = some (.iconst 1, 1) := by decide +kernel
theorem q_79_36 : p_tb 79 36 = some (.ireturn, 1) := by decide +kernel
theorem q_79_37 : p_tb 79 37 = some (.iinc 1 1, 3) := by decide +kernel
theorem q_79_40 : p_tb 79 40 = some (.goto (-38), 3) := by decide +kernel
theorem q_79_43 : p_tb 79 43 = some (.iconst 0, 1) := by decide +kernel
theorem q_79_44 : p_tb 79 44 = some (.ireturn, 1) := by decide +kernel
theorem t_ft_79_21 : p_f2 p_ft (p_mK 79) 21 = some (7, 6) := by decide +kernel
theorem t_ft_79_77 : p_f2 p_ft (p_mK 79) 77 = some (7, 7) := by decide +kernel
theorem q_73_0 : p_tb 73 0 = some (.lload_n 0, 1) := by decide +kernel
theorem q_73_1 : p_tb 73 1 = some (.ldc2_w 24, 3) := by decide +kernel
theorem q_73_4 : p_tb 73 4 = some (.lmul, 1) := by decide +kernel
theorem q_73_5 : p_tb 73 5 = some (.iload_n 2, 1) := by decide +kernel
theorem q_73_6 : p_tb 73 6 = some (.bipush 97, 2) := by decide +kernel
theorem q_73_8 : p_tb 73 8 = some (.isub, 1) := by decide +kernel
theorem q_73_9 : p_tb 73 9 = some (.iconst 1, 1) := by decide +kernel
theorem q_73_10 : p_tb 73 10 = some (.iadd, 1) := by decide +kernel
theorem q_73_11 : p_tb 73 11 = some (.i2l, 1) := by decide +kernel
theorem q_73_12 : p_tb 73 12 = some (.ladd, 1) := by decide +kernel
theorem q_73_13 : p_tb 73 13 = some (.lreturn, 1) := by decide +kernel
theorem q_78_0 : p_tb 78 0 = some (.iconst 0, 1) := by decide +kernel
theorem q_78_1 : p_tb 78 1 = some (.istore_n 1, 1) := by decide +kernel
theorem q_78_2 : p_tb 78 2 = some (.iconst 0, 1) := by decide +kernel
theorem q_78_3 : p_tb 78 3 = some (.istore_n 2, 1) := by decide +kernel
theorem q_78_4 : p_tb 78 4 = some (.aload_n 0, 1) := by decide +kernel
theorem q_78_5 : p_tb 78 5 = some (.lconst 0, 1) := by decide +kernel
theorem q_78_6 : p_tb 78 6 = some (.putfield 77, 3) := by decide +kernel
theorem q_78_9 : p_tb 78 9 = some (.aload_n 0, 1) := by decide +kernel
theorem q_78_10 : p_tb 78 10 = some (.iconst 0, 1) := by decide +kernel
theorem q_78_11 : p_tb 78 11 = some (.putfield 81, 3) := by decide +kernel
theorem q_78_14 : p_tb 78 14 = some (.aload_n 0, 1) := by decide +kernel
theorem q_78_15 : p_tb 78 15 = some (.getfield 33, 3) := by decide +kernel
theorem q_78_18 : p_tb 78 18 = some (.aload_n 0, 1) := by decide +kernel
theorem q_78_19 : p_tb 78 19 = some (.getfield 26, 3) := by decide +kernel
theorem q_78_22 : p_tb 78 22 = some (.if_icmp .ge 109, 3) := by decide +kernel
theorem q_78_25 : p_tb 78 25 = some (.aload_n 0, 1) := by decide +kernel
theorem q_78_26 : p_tb 78 26 = some (.aload_n 0, 1) := by decide +kernel
theorem q_78_27 : p_tb 78 27 = some (.getfield 33, 3) := by decide +kernel
theorem q_78_30 : p_tb 78 30 = some (.invokevirtual 51, 3) := by decide +kernel
theorem q_78_33 : p_tb 78 33 = some (.invokestatic 61, 3) := by decide +kernel
theorem q_78_36 : p_tb 78 36 = some (.ifCond .ne 17, 3) := by decide +kernel
theorem q_78_39 : p_tb 78 39 = some (.aload_n 0, 1) := by decide +kernel
theorem q_78_40 : p_tb 78 40 = some (.aload_n 0, 1) := by decide +kernel
theorem q_78_41 : p_tb 78 41 = some (.getfield 33, 3) := by decide +kernel
theorem q_78_44 : p_tb 78 44 = some (.invokevirtual 51, 3) := by decide +kernel
theorem q_78_47 : p_tb 78 47 = some (.invokestatic 65, 3) := by decide +kernel
theorem q_78_50 : p_tb 78 50 = some (.ifCond .eq 81, 3) := by decide +kernel
theorem q_78_53 : p_tb 78 53 = some (.aload_n 0, 1) := by decide +kernel
theorem q_78_54 : p_tb 78 54 = some (.aload_n 0, 1) := by decide +kernel
theorem q_78_55 : p_tb 78 55 = some (.getfield 33, 3) := by decide +kernel
theorem q_78_58 : p_tb 78 58 = some (.invokevirtual 51, 3) := by decide +kernel
theorem q_78_61 : p_tb 78 61 = some (.invokestatic 61, 3) := by decide +kernel
theorem q_78_64 : p_tb 78 64 = some (.ifCond .eq 28, 3) := by decide +kernel
theorem q_78_67 : p_tb 78 67 = some (.iinc 1 1, 3) := by decide +kernel
theorem q_78_70 : p_tb 78 70 = some (.aload_n 0, 1) := by decide +kernel
theorem q_78_71 : p_tb 78 71 = some (.aload_n 0, 1) := by decide +kernel
theorem q_78_72 : p_tb 78 72 = some (.getfield 77, 3) := by decide +kernel
theorem q_78_75 : p_tb 78 75 = some (.aload_n 0, 1) := by decide +kernel
theorem q_78_76 : p_tb 78 76 = some (.aload_n 0, 1) := by decide +kernel
theorem q_78_77 : p_tb 78 77 = some (.getfield 33, 3) := by decide +kernel
theorem q_78_80 : p_tb 78 80 = some (.invokevirtual 51, 3) := by decide +kernel
theorem q_78_83 : p_tb 78 83 = some (.invokestatic 84, 3) := by decide +kernel
theorem q_78_86 : p_tb 78 86 = some (.putfield 77, 3) := by decide +kernel
theorem q_78_89 : p_tb 78 89 = some (.goto 29, 3) := by decide +kernel
theorem q_78_92 : p_tb 78 92 = some (.iinc 2 1, 3) := by decide +kernel
theorem q_78_95 : p_tb 78 95 = some (.aload_n 0, 1) := by decide +kernel
theorem q_78_96 : p_tb 78 96 = some (.aload_n 0, 1) := by decide +kernel
theorem q_78_97 : p_tb 78 97 = some (.getfield 81, 3) := by decide +kernel
theorem q_78_100 : p_tb 78 100 = some (.bipush 10, 2) := by decide +kernel
theorem q_78_102 : p_tb 78 102 = some (.imul, 1) := by decide +kernel
theorem q_78_103 : p_tb 78 103 = some (.aload_n 0, 1) := by decide +kernel
theorem q_78_104 : p_tb 78 104 = some (.aload_n 0, 1) := by decide +kernel
theorem q_78_105 : p_tb 78 105 = some (.getfield 33, 3) := by decide +kernel
theorem q_78_108 : p_tb 78 108 = some (.invokevirtual 51, 3) := by decide +kernel
theorem q_78_111 : p_tb 78 111 = some (.iadd, 1) := by decide +kernel
theorem q_78_112 : p_tb 78 112 = some (.bipush 48, 2) := by decide +kernel
theorem q_78_114 : p_tb 78 114 = some (.isub, 1) := by decide +kernel
theorem q_78_115 : p_tb 78 115 = some (.putfield 81, 3) := by decide +kernel
theorem q_78_118 : p_tb 78 118 = some (.aload_n 0, 1) := by decide +kernel
theorem q_78_119 : p_tb 78 119 = some (.dup, 1) := by decide +kernel
theorem q_78_120 : p_tb 78 120 = some (.getfield 33, 3) := by decide +kernel
theorem q_78_123 : p_tb 78 123 = some (.iconst 1, 1) := by decide +kernel
theorem q_78_124 : p_tb 78 124 = some (.iadd, 1) := by decide +kernel
theorem q_78_125 : p_tb 78 125 = some (.putfield 33, 3) := by decide +kernel
theorem q_78_128 : p_tb 78 128 = some (.goto (-114), 3) := by decide +kernel
theorem q_78_131 : p_tb 78 131 = some (.iload_n 2, 1) := by decide +kernel
theorem q_78_132 : p_tb 78 132 = some (.ifCond .ne 28, 3) := by decide +kernel
theorem q_78_135 : p_tb 78 135 = some (.iload_n 1, 1) := by decide +kernel
theorem q_78_136 : p_tb 78 136 = some (.bipush 7, 2) := by decide +kernel
theorem q_78_138 : p_tb 78 138 = some (.if_icmp .gt 22, 3) := by decide +kernel
theorem q_78_141 : p_tb 78 141 = some (.aload_n 0, 1) := by decide +kernel
theorem q_78_142 : p_tb 78 142 = some (.aload_n 0, 1) := by decide +kernel
theorem q_78_143 : p_tb 78 143 = some (.invokevirtual 88, 3) := by decide +kernel
theorem q_78_146 : p_tb 78 146 = some (.ifCond .eq 7, 3) := by decide +kernel
theorem q_78_149 : p_tb 78 149 = some (.iconst 2, 1) := by decide +kernel
theorem q_78_150 : p_tb 78 150 = some (.goto 4, 3) := by decide +kernel
theorem q_78_153 : p_tb 78 153 = some (.iconst 3, 1) := by decide +kernel
theorem q_78_154 : p_tb 78 154 = some (.putfield 58, 3) := by decide +kernel
theorem q_78_157 : p_tb 78 157 = some (.goto 21, 3) := by decide +kernel
theorem q_78_160 : p_tb 78 160 = some (.aload_n 0, 1) := by decide +kernel
theorem q_78_161 : p_tb 78 161 = some (.iload_n 1, 1) := by decide +kernel
theorem q_78_162 : p_tb 78 162 = some (.ifCond .ne 12, 3) := by decide +kernel
theorem q_78_165 : p_tb 78 165 = some (.iload_n 2, 1) := by decide +kernel
theorem q_78_166 : p_tb 78 166 = some (.iconst 3, 1) := by decide +kernel
theorem q_78_167 : p_tb 78 167 = some (.if_icmp .gt 7, 3) := by decide +kernel
theorem q_78_170 : p_tb 78 170 = some (.iconst 4, 1) := by decide +kernel
theorem q_78_171 : p_tb 78 171 = some (.goto 4, 3) := by decide +kernel
theorem q_78_174 : p_tb 78 174 = some (.iconst 1, 1) := by decide +kernel
theorem q_78_175 : p_tb 78 175 = some (.putfield 58, 3) := by decide +kernel
theorem q_78_178 : p_tb 78 178 = some (.return_, 1) := by decide +kernel
theorem t_ft_78_26 : p_f2 p_ft (p_mK 78) 26 = some (7, 1) := by decide +kernel
theorem t_ft_78_33 : p_f2 p_ft (p_mK 78) 33 = some (7, 3) := by decide +kernel
theorem t_ft_78_58 : p_f2 p_ft (p_mK 78) 58 = some (7, 5) := by decide +kernel
theorem t_ft_78_77 : p_f2 p_ft (p_mK 78) 77 = some (7, 7) := by decide +kernel
theorem t_ft_78_81 : p_f2 p_ft (p_mK 78) 81 = some (7, 8) := by decide +kernel
theorem t_lt_73_24 : p_f2 p_lt (p_mK 73) 24 = some (32) := by decide +kernel
theorem t_ms_78_61 : p_f2 p_ms (p_mK 78) 61 = some 80 := by decide +kernel
theorem t_ms_78_65 : p_f2 p_ms (p_mK 78) 65 = some 81 := by decide +kernel
theorem t_ms_78_84 : p_f2 p_ms (p_mK 78) 84 = some 73 := by decide +kernel
theorem t_mv_78_51 : p_f2 p_mv (p_mK 78) 51 = some 75 := by decide +kernel
theorem t_mv_78_88 : p_f2 p_mv (p_mK 78) 88 = some 79 := by decide +kernel
theorem q_77_0 : p_tb 77 0 = some (.aload_n 0, 1) := by decide +kernel
theorem q_77_1 : p_tb 77 1 = some (.getfield 26, 3) := by decide +kernel
theorem q_77_4 : p_tb 77 4 = some (.aload_n 0, 1) := by decide +kernel
theorem q_77_5 : p_tb 77 5 = some (.getfield 30, 3) := by decide +kernel
theorem q_77_8 : p_tb 77 8 = some (.invokestatic 45, 3) := by decide +kernel
theorem q_77_11 : p_tb 77 11 = some (.istore_n 1, 1) := by decide +kernel
theorem q_77_12 : p_tb 77 12 = some (.aload_n 0, 1) := by decide +kernel
theorem q_77_13 : p_tb 77 13 = some (.getfield 33, 3) := by decide +kernel
theorem q_77_16 : p_tb 77 16 = some (.iload_n 1, 1) := by decide +kernel
theorem q_77_17 : p_tb 77 17 = some (.if_icmp .ge 42, 3) := by decide +kernel
theorem q_77_20 : p_tb 77 20 = some (.aload_n 0, 1) := by decide +kernel
theorem q_77_21 : p_tb 77 21 = some (.aload_n 0, 1) := by decide +kernel
theorem q_77_22 : p_tb 77 22 = some (.getfield 33, 3) := by decide +kernel
theorem q_77_25 : p_tb 77 25 = some (.invokevirtual 51, 3) := by decide +kernel
theorem q_77_28 : p_tb 77 28 = some (.bipush 32, 2) := by decide +kernel
theorem q_77_30 : p_tb 77 30 = some (.if_icmp .eq 16, 3) := by decide +kernel
theorem q_77_33 : p_tb 77 33 = some (.aload_n 0, 1) := by decide +kernel
theorem q_77_34 : p_tb 77 34 = some (.aload_n 0, 1) := by decide +kernel
theorem q_77_35 : p_tb 77 35 = some (.getfield 33, 3) := by decide +kernel
theorem q_77_38 : p_tb 77 38 = some (.invokevirtual 51, 3) := by decide +kernel
theorem q_77_41 : p_tb 77 41 = some (.bipush 10, 2) := by decide +kernel
theorem q_77_43 : p_tb 77 43 = some (.if_icmp .ne 16, 3) := by decide +kernel
theorem q_77_46 : p_tb 77 46 = some (.aload_n 0, 1) := by decide +kernel
theorem q_77_47 : p_tb 77 47 = some (.dup, 1) := by decide +kernel
theorem q_77_48 : p_tb 77 48 = some (.getfield 33, 3) := by decide +kernel
theorem q_77_51 : p_tb 77 51 = some (.iconst 1, 1) := by decide +kernel
theorem q_77_52 : p_tb 77 52 = some (.iadd, 1) := by decide +kernel
theorem q_77_53 : p_tb 77 53 = some (.putfield 33, 3) := by decide +kernel
theorem q_77_56 : p_tb 77 56 = some (.goto (-44), 3) := by decide +kernel
theorem q_77_59 : p_tb 77 59 = some (.aload_n 0, 1) := by decide +kernel
theorem q_77_60 : p_tb 77 60 = some (.getfield 33, 3) := by decide +kernel
theorem q_77_63 : p_tb 77 63 = some (.iload_n 1, 1) := by decide +kernel
theorem q_77_64 : p_tb 77 64 = some (.if_icmp .lt 14, 3) := by decide +kernel
theorem q_77_67 : p_tb 77 67 = some (.aload_n 0, 1) := by decide +kernel
theorem q_77_68 : p_tb 77 68 = some (.iload_n 1, 1) := by decide +kernel
theorem q_77_69 : p_tb 77 69 = some (.putfield 55, 3) := by decide +kernel
theorem q_77_72 : p_tb 77 72 = some (.aload_n 0, 1) := by decide +kernel
theorem q_77_73 : p_tb 77 73 = some (.iconst 0, 1) := by decide +kernel
theorem q_77_74 : p_tb 77 74 = some (.putfield 58, 3) := by decide +kernel
theorem q_77_77 : p_tb 77 77 = some (.return_, 1) := by decide +kernel
theorem q_77_78 : p_tb 77 78 = some (.aload_n 0, 1) := by decide +kernel
theorem q_77_79 : p_tb 77 79 = some (.aload_n 0, 1) := by decide +kernel
theorem q_77_80 : p_tb 77 80 = some (.getfield 33, 3) := by decide +kernel
theorem q_77_83 : p_tb 77 83 = some (.putfield 55, 3) := by decide +kernel
theorem q_77_86 : p_tb 77 86 = some (.aload_n 0, 1) := by decide +kernel
theorem q_77_87 : p_tb 77 87 = some (.aload_n 0, 1) := by decide +kernel
theorem q_77_88 : p_tb 77 88 = some (.getfield 33, 3) := by decide +kernel
theorem q_77_91 : p_tb 77 91 = some (.invokevirtual 51, 3) := by decide +kernel
theorem q_77_94 : p_tb 77 94 = some (.invokestatic 61, 3) := by decide +kernel
theorem q_77_97 : p_tb 77 97 = some (.ifCond .ne 17, 3) := by decide +kernel
theorem q_77_100 : p_tb 77 100 = some (.aload_n 0, 1) := by decide +kernel
theorem q_77_101 : p_tb 77 101 = some (.aload_n 0, 1) := by decide +kernel
theorem q_77_102 : p_tb 77 102 = some (.getfield 33, 3) := by decide +kernel
theorem q_77_105 : p_tb 77 105 = some (.invokevirtual 51, 3) := by decide +kernel
theorem q_77_108 : p_tb 77 108 = some (.invokestatic 65, 3) := by decide +kernel
theorem q_77_111 : p_tb 77 111 = some (.ifCond .eq 10, 3) := by decide +kernel
theorem q_77_114 : p_tb 77 114 = some (.aload_n 0, 1) := by decide +kernel
theorem q_77_115 : p_tb 77 115 = some (.invokevirtual 68, 3) := by decide +kernel
theorem q_77_118 : p_tb 77 118 = some (.goto 44, 3) := by decide +kernel
theorem q_77_121 : p_tb 77 121 = some (.aload_n 0, 1) := by decide +kernel
theorem q_77_122 : p_tb 77 122 = some (.aload_n 0, 1) := by decide +kernel
theorem q_77_123 : p_tb 77 123 = some (.aload_n 0, 1) := by decide +kernel
theorem q_77_124 : p_tb 77 124 = some (.getfield 33, 3) := by decide +kernel
theorem q_77_127 : p_tb 77 127 = some (.invokevirtual 51, 3) := by decide +kernel
theorem q_77_130 : p_tb 77 130 = some (.putfield 71, 3) := by decide +kernel
theorem q_77_133 : p_tb 77 133 = some (.aload_n 0, 1) := by decide +kernel
theorem q_77_134 : p_tb 77 134 = some (.aload_n 0, 1) := by decide +kernel
theorem q_77_135 : p_tb 77 135 = some (.getfield 71, 3) := by decide +kernel
theorem q_77_138 : p_tb 77 138 = some (.invokestatic 74, 3) := by decide +kernel
theorem q_77_141 : p_tb 77 141 = some (.ifCond .eq 7, 3) := by decide +kernel
theorem q_77_144 : p_tb 77 144 = some (.iconst 5, 1) := by decide +kernel
theorem q_77_145 : p_tb 77 145 = some (.goto 4, 3) := by decide +kernel
theorem q_77_148 : p_tb 77 148 = some (.iconst 1, 1) := by decide +kernel
theorem q_77_149 : p_tb 77 149 = some (.putfield 58, 3) := by decide +kernel
theorem q_77_152 : p_tb 77 152 = some (.aload_n 0, 1) := by decide +kernel
theorem q_77_153 : p_tb 77 153 = some (.dup, 1) := by decide +kernel
theorem q_77_154 : p_tb 77 154 = some (.getfield 33, 3) := by decide +kernel
theorem q_77_157 : p_tb 77 157 = some (.iconst 1, 1) := by decide +kernel
theorem q_77_158 : p_tb 77 158 = some (.iadd, 1) := by decide +kernel
theorem q_77_159 : p_tb 77 159 = some (.putfield 33, 3) := by decide +kernel
theorem q_77_162 : p_tb 77 162 = some (.return_, 1) := by decide +kernel
theorem t_ft_77_26 : p_f2 p_ft (p_mK 77) 26 = some (7, 1) := by decide +kernel
theorem t_ft_77_30 : p_f2 p_ft (p_mK 77) 30 = some (7, 2) := by decide +kernel
theorem t_ft_77_33 : p_f2 p_ft (p_mK 77) 33 = some (7, 3) := by decide +kernel
theorem t_ft_77_55 : p_f2 p_ft (p_mK 77) 55 = some (7, 4) := by decide +kernel
theorem t_ft_77_58 : p_f2 p_ft (p_mK 77) 58 = some (7, 5) := by decide +kernel
theorem t_ft_77_71 : p_f2 p_ft (p_mK 77) 71 = some (7, 9) := by decide +kernel
theorem t_mj_77_45 : p_f2 p_mj (p_mK 77) 45 = some 1 := by decide +kernel
theorem t_ms_77_61 : p_f2 p_ms (p_mK 77) 61 = some 80 := by decide +kernel
theorem t_ms_77_65 : p_f2 p_ms (p_mK 77) 65 = some 81 := by decide +kernel
theorem t_ms_77_74 : p_f2 p_ms (p_mK 77) 74 = some 82 := by decide +kernel
theorem t_mv_77_51 : p_f2 p_mv (p_mK 77) 51 = some 75 := by decide +kernel
theorem t_mv_77_68 : p_f2 p_mv (p_mK 77) 68 = some 78 := by decide +kernel
theorem q_76_0 : p_tb 76 0 = some (.aload_n 0, 1) := by decide +kernel
theorem q_76_1 : p_tb 76 1 = some (.iload_n 1, 1) := by decide +kernel
theorem q_76_2 : p_tb 76 2 = some (.putfield 30, 3) := by decide +kernel
theorem q_76_5 : p_tb 76 5 = some (.aload_n 0, 1) := by decide +kernel
theorem q_76_6 : p_tb 76 6 = some (.iconst 0, 1) := by decide +kernel
theorem q_76_7 : p_tb 76 7 = some (.putfield 33, 3) := by decide +kernel
theorem q_76_10 : p_tb 76 10 = some (.aload_n 0, 1) := by decide +kernel
theorem q_76_11 : p_tb 76 11 = some (.iconst 0, 1) := by decide +kernel
theorem q_76_12 : p_tb 76 12 = some (.putfield 36, 3) := by decide +kernel
theorem q_76_15 : p_tb 76 15 = some (.aload_n 0, 1) := by decide +kernel
theorem q_76_16 : p_tb 76 16 = some (.iconst 0, 1) := by decide +kernel
theorem q_76_17 : p_tb 76 17 = some (.putfield 39, 3) := by decide +kernel
theorem q_76_20 : p_tb 76 20 = some (.aload_n 0, 1) := by decide +kernel
theorem q_76_21 : p_tb 76 21 = some (.invokevirtual 42, 3) := by decide +kernel
theorem q_76_24 : p_tb 76 24 = some (.return_, 1) := by decide +kernel
theorem t_ft_76_30 : p_f2 p_ft (p_mK 76) 30 = some (7, 2) := by decide +kernel
theorem t_ft_76_33 : p_f2 p_ft (p_mK 76) 33 = some (7, 3) := by decide +kernel
theorem t_ft_76_36 : p_f2 p_ft (p_mK 76) 36 = some (7, 10) := by decide +kernel
theorem t_ft_76_39 : p_f2 p_ft (p_mK 76) 39 = some (7, 11) := by decide +kernel
theorem t_mv_76_42 : p_f2 p_mv (p_mK 76) 42 = some 77 := by decide +kernel
theorem q_83_0 : p_tb 83 0 = some (.aload_n 0, 1) := by decide +kernel
theorem q_83_1 : p_tb 83 1 = some (.getfield 36, 3) := by decide +kernel
theorem q_83_4 : p_tb 83 4 = some (.ifCond .ne 16, 3) := by decide +kernel
theorem q_83_7 : p_tb 83 7 = some (.aload_n 0, 1) := by decide +kernel
theorem q_83_8 : p_tb 83 8 = some (.iload_n 1, 1) := by decide +kernel
theorem q_83_9 : p_tb 83 9 = some (.putfield 36, 3) := by decide +kernel
theorem q_83_12 : p_tb 83 12 = some (.aload_n 0, 1) := by decide +kernel
theorem q_83_13 : p_tb 83 13 = some (.aload_n 0, 1) := by decide +kernel
theorem q_83_14 : p_tb 83 14 = some (.getfield 55, 3) := by decide +kernel
theorem q_83_17 : p_tb 83 17 = some (.putfield 39, 3) := by decide +kernel
theorem q_83_20 : p_tb 83 20 = some (.iconst 0, 1) := by decide +kernel
theorem q_83_21 : p_tb 83 21 = some (.ireturn, 1) := by decide +kernel
theorem t_ft_83_36 : p_f2 p_ft (p_mK 83) 36 = some (7, 10) := by decide +kernel
theorem t_ft_83_39 : p_f2 p_ft (p_mK 83) 39 = some (7, 11) := by decide +kernel
theorem t_ft_83_55 : p_f2 p_ft (p_mK 83) 55 = some (7, 4) := by decide +kernel
theorem q_84_0 : p_tb 84 0 = some (.aload_n 0, 1) := by decide +kernel
theorem q_84_1 : p_tb 84 1 = some (.getfield 58, 3) := by decide +kernel
theorem q_84_4 : p_tb 84 4 = some (.ifCond .ne 7, 3) := by decide +kernel
theorem q_84_7 : p_tb 84 7 = some (.iconst 1, 1) := by decide +kernel
theorem q_84_8 : p_tb 84 8 = some (.goto 4, 3) := by decide +kernel
theorem q_84_11 : p_tb 84 11 = some (.iconst 0, 1) := by decide +kernel
theorem q_84_12 : p_tb 84 12 = some (.ireturn, 1) := by decide +kernel
theorem t_ft_84_58 : p_f2 p_ft (p_mK 84) 58 = some (7, 5) := by decide +kernel
theorem q_85_0 : p_tb 85 0 = some (.aload_n 0, 1) := by decide +kernel
theorem q_85_1 : p_tb 85 1 = some (.getfield 58, 3) := by decide +kernel
theorem q_85_4 : p_tb 85 4 = some (.ifCond .ne 14, 3) := by decide +kernel
theorem q_85_7 : p_tb 85 7 = some (.aload_n 0, 1) := by decide +kernel
theorem q_85_8 : p_tb 85 8 = some (.getfield 26, 3) := by decide +kernel
theorem q_85_11 : p_tb 85 11 = some (.aload_n 0, 1) := by decide +kernel
theorem q_85_12 : p_tb 85 12 = some (.getfield 30, 3) := by decide +kernel
theorem q_85_15 : p_tb 85 15 = some (.if_icmp .le 11, 3) := by decide +kernel
theorem q_85_18 : p_tb 85 18 = some (.aload_n 0, 1) := by decide +kernel
theorem q_85_19 : p_tb 85 19 = some (.iconst 1, 1) := by decide +kernel
theorem q_85_20 : p_tb 85 20 = some (.invokevirtual 97, 3) := by decide +kernel
theorem q_85_23 : p_tb 85 23 = some (.ifCond .eq 7, 3) := by decide +kernel
theorem q_85_26 : p_tb 85 26 = some (.iconst 1, 1) := by decide +kernel
theorem q_85_27 : p_tb 85 27 = some (.goto 4, 3) := by decide +kernel
theorem q_85_30 : p_tb 85 30 = some (.iconst 0, 1) := by decide +kernel
theorem q_85_31 : p_tb 85 31 = some (.ireturn, 1) := by decide +kernel
theorem t_ft_85_26 : p_f2 p_ft (p_mK 85) 26 = some (7, 1) := by decide +kernel
theorem t_ft_85_30 : p_f2 p_ft (p_mK 85) 30 = some (7, 2) := by decide +kernel
theorem t_ft_85_58 : p_f2 p_ft (p_mK 85) 58 = some (7, 5) := by decide +kernel
theorem t_mv_85_97 : p_f2 p_mv (p_mK 85) 97 = some 83 := by decide +kernel
theorem q_86_0 : p_tb 86 0 = some (.aload_n 0, 1) := by decide +kernel
theorem q_86_1 : p_tb 86 1 = some (.getfield 58, 3) := by decide +kernel
theorem q_86_4 : p_tb 86 4 = some (.iconst 2, 1) := by decide +kernel
theorem q_86_5 : p_tb 86 5 = some (.if_icmp .ne 15, 3) := by decide +kernel
theorem q_86_8 : p_tb 86 8 = some (.aload_n 0, 1) := by decide +kernel
theorem q_86_9 : p_tb 86 9 = some (.getfield 21, 3) := by decide +kernel
theorem q_86_12 : p_tb 86 12 = some (.aload_n 1, 1) := by decide +kernel
theorem q_86_13 : p_tb 86 13 = some (.if_acmp .ne 7, 3) := by decide +kernel
theorem q_86_16 : p_tb 86 16 = some (.iconst 1, 1) := by decide +kernel
theorem q_86_17 : p_tb 86 17 = some (.goto 4, 3) := by decide +kernel
theorem q_86_20 : p_tb 86 20 = some (.iconst 0, 1) := by decide +kernel
theorem q_86_21 : p_tb 86 21 = some (.ireturn, 1) := by decide +kernel
theorem t_ft_86_21 : p_f2 p_ft (p_mK 86) 21 = some (7, 6) := by decide +kernel
theorem t_ft_86_58 : p_f2 p_ft (p_mK 86) 58 = some (7, 5) := by decide +kernel
theorem q_87_0 : p_tb 87 0 = some (.aload_n 0, 1) := by decide +kernel
theorem q_87_1 : p_tb 87 1 = some (.getfield 58, 3) := by decide +kernel
theorem q_87_4 : p_tb 87 4 = some (.iconst 5, 1) := by decide +kernel
theorem q_87_5 : p_tb 87 5 = some (.if_icmp .ne 15, 3) := by decide +kernel
theorem q_87_8 : p_tb 87 8 = some (.aload_n 0, 1) := by decide +kernel
theorem q_87_9 : p_tb 87 9 = some (.getfield 71, 3) := by decide +kernel
theorem q_87_12 : p_tb 87 12 = some (.iload_n 1, 1) := by decide +kernel
theorem q_87_13 : p_tb 87 13 = some (.if_icmp .ne 7, 3) := by decide +kernel
theorem q_87_16 : p_tb 87 16 = some (.iconst 1, 1) := by decide +kernel
theorem q_87_17 : p_tb 87 17 = some (.goto 4, 3) := by decide +kernel
theorem q_87_20 : p_tb 87 20 = some (.iconst 0, 1) := by decide +kernel
theorem q_87_21 : p_tb 87 21 = some (.ireturn, 1) := by decide +kernel
theorem t_ft_87_58 : p_f2 p_ft (p_mK 87) 58 = some (7, 5) := by decide +kernel
theorem t_ft_87_71 : p_f2 p_ft (p_mK 87) 71 = some (7, 9) := by decide +kernel
theorem q_88_0 : p_tb 88 0 = some (.aload_n 0, 1) := by decide +kernel
theorem q_88_1 : p_tb 88 1 = some (.aload_n 1, 1) := by decide +kernel
theorem q_88_2 : p_tb 88 2 = some (.invokevirtual 100, 3) := by decide +kernel
theorem q_88_5 : p_tb 88 5 = some (.ifCond .ne 5, 3) := by decide +kernel
theorem q_88_8 : p_tb 88 8 = some (.iconst 0, 1) := by decide +kernel
theorem q_88_9 : p_tb 88 9 = some (.ireturn, 1) := by decide +kernel
theorem q_88_10 : p_tb 88 10 = some (.aload_n 0, 1) := by decide +kernel
theorem q_88_11 : p_tb 88 11 = some (.invokevirtual 42, 3) := by decide +kernel
theorem q_88_14 : p_tb 88 14 = some (.iconst 1, 1) := by decide +kernel
theorem q_88_15 : p_tb 88 15 = some (.ireturn, 1) := by decide +kernel
theorem t_mv_88_100 : p_f2 p_mv (p_mK 88) 100 = some 86 := by decide +kernel
theorem t_mv_88_42 : p_f2 p_mv (p_mK 88) 42 = some 77 := by decide +kernel
theorem q_89_0 : p_tb 89 0 = some (.aload_n 0, 1) := by decide +kernel
theorem q_89_1 : p_tb 89 1 = some (.iload_n 1, 1) := by decide +kernel
theorem q_89_2 : p_tb 89 2 = some (.invokevirtual 104, 3) := by decide +kernel
theorem q_89_5 : p_tb 89 5 = some (.ifCond .ne 9, 3) := by decide +kernel
theorem q_89_8 : p_tb 89 8 = some (.aload_n 0, 1) := by decide +kernel
theorem q_89_9 : p_tb 89 9 = some (.iconst 1, 1) := by decide +kernel
theorem q_89_10 : p_tb 89 10 = some (.invokevirtual 97, 3) := by decide +kernel
theorem q_89_13 : p_tb 89 13 = some (.ireturn, 1) := by decide +kernel
theorem q_89_14 : p_tb 89 14 = some (.aload_n 0, 1) := by decide +kernel
theorem q_89_15 : p_tb 89 15 = some (.invokevirtual 42, 3) := by decide +kernel
theorem q_89_18 : p_tb 89 18 = some (.iconst 1, 1) := by decide +kernel
theorem q_89_19 : p_tb 89 19 = some (.ireturn, 1) := by decide +kernel
theorem t_mv_89_104 : p_f2 p_mv (p_mK 89) 104 = some 87 := by decide +kernel
theorem t_mv_89_42 : p_f2 p_mv (p_mK 89) 42 = some 77 := by decide +kernel
theorem t_mv_89_97 : p_f2 p_mv (p_mK 89) 97 = some 83 := by decide +kernel
theorem q_90_0 : p_tb 90 0 = some (.aload_n 0, 1) := by decide +kernel
theorem q_90_1 : p_tb 90 1 = some (.getfield 58, 3) := by decide +kernel
theorem q_90_4 : p_tb 90 4 = some (.iconst 4, 1) := by decide +kernel
theorem q_90_5 : p_tb 90 5 = some (.if_icmp .eq 11, 3) := by decide +kernel
theorem q_90_8 : p_tb 90 8 = some (.aload_n 0, 1) := by decide +kernel
theorem q_90_9 : p_tb 90 9 = some (.iconst 1, 1) := by decide +kernel
theorem q_90_10 : p_tb 90 10 = some (.invokevirtual 97, 3) := by decide +kernel
theorem q_90_13 : p_tb 90 13 = some (.pop, 1) := by decide +kernel
theorem q_90_14 : p_tb 90 14 = some (.iconst (-1), 1) := by decide +kernel
theorem q_90_15 : p_tb 90 15 = some (.ireturn, 1) := by decide +kernel
theorem q_90_16 : p_tb 90 16 = some (.aload_n 0, 1) := by decide +kernel
theorem q_90_17 : p_tb 90 17 = some (.getfield 81, 3) := by decide +kernel
theorem q_90_20 : p_tb 90 20 = some (.iload_n 1, 1) := by decide +kernel
theorem q_90_21 : p_tb 90 21 = some (.if_icmp .lt 11, 3) := by decide +kernel
theorem q_90_24 : p_tb 90 24 = some (.aload_n 0, 1) := by decide +kernel
theorem q_90_25 : p_tb 90 25 = some (.getfield 81, 3) := by decide +kernel
theorem q_90_28 : p_tb 90 28 = some (.iload_n 2, 1) := by decide +kernel
theorem q_90_29 : p_tb 90 29 = some (.if_icmp .le 11, 3) := by decide +kernel
theorem q_90_32 : p_tb 90 32 = some (.aload_n 0, 1) := by decide +kernel
theorem q_90_33 : p_tb 90 33 = some (.iconst 2, 1) := by decide +kernel
theorem q_90_34 : p_tb 90 34 = some (.invokevirtual 97, 3) := by decide +kernel
theorem q_90_37 : p_tb 90 37 = some (.pop, 1) := by decide +kernel
theorem q_90_38 : p_tb 90 38 = some (.iconst (-1), 1) := by decide +kernel
theorem q_90_39 : p_tb 90 39 = some (.ireturn, 1) := by decide +kernel
theorem q_90_40 : p_tb 90 40 = some (.aload_n 0, 1) := by decide +kernel
theorem q_90_41 : p_tb 90 41 = some (.getfield 81, 3) := by decide +kernel
theorem q_90_44 : p_tb 90 44 = some (.istore_n 3, 1) := by decide +kernel
theorem q_90_45 : p_tb 90 45 = some (.aload_n 0, 1) := by decide +kernel
theorem q_90_46 : p_tb 90 46 = some (.invokevirtual 42, 3) := by decide +kernel
theorem q_90_49 : p_tb 90 49 = some (.iload_n 3, 1) := by decide +kernel
theorem q_90_50 : p_tb 90 50 = some (.ireturn, 1) := by decide +kernel
theorem t_ft_90_58 : p_f2 p_ft (p_mK 90) 58 = some (7, 5) := by decide +kernel
theorem t_ft_90_81 : p_f2 p_ft (p_mK 90) 81 = some (7, 8) := by decide +kernel
theorem t_mv_90_42 : p_f2 p_mv (p_mK 90) 42 = some 77 := by decide +kernel
theorem t_mv_90_97 : p_f2 p_mv (p_mK 90) 97 = some 83 := by decide +kernel
theorem q_92_0 : p_tb 92 0 = some (.iconst 0, 1) := by decide +kernel
theorem q_92_1 : p_tb 92 1 = some (.istore 4, 2) := by decide +kernel
theorem q_92_3 : p_tb 92 3 = some (.iload 4, 2) := by decide +kernel
theorem q_92_5 : p_tb 92 5 = some (.iload_n 1, 1) := by decide +kernel
theorem q_92_6 : p_tb 92 6 = some (.if_icmp .ge 28, 3) := by decide +kernel
theorem q_92_9 : p_tb 92 9 = some (.iload 4, 2) := by decide +kernel
theorem q_92_11 : p_tb 92 11 = some (.aload_n 0, 1) := by decide +kernel
theorem q_92_12 : p_tb 92 12 = some (.arraylength, 1) := by decide +kernel
theorem q_92_13 : p_tb 92 13 = some (.if_icmp .ge 21, 3) := by decide +kernel
theorem q_92_16 : p_tb 92 16 = some (.aload_n 0, 1) := by decide +kernel
theorem q_92_17 : p_tb 92 17 = some (.iload 4, 2) := by decide +kernel
theorem q_92_19 : p_tb 92 19 = some (.laload, 1) := by decide +kernel
theorem q_92_20 : p_tb 92 20 = some (.lload_n 2, 1) := by decide +kernel
theorem q_92_21 : p_tb 92 21 = some (.lcmp, 1) := by decide +kernel
theorem q_92_22 : p_tb 92 22 = some (.ifCond .ne 6, 3) := by decide +kernel
theorem q_92_25 : p_tb 92 25 = some (.iload 4, 2) := by decide +kernel
theorem q_92_27 : p_tb 92 27 = some (.ireturn, 1) := by decide +kernel
theorem q_92_28 : p_tb 92 28 = some (.iinc 4 1, 3) := by decide +kernel
theorem q_92_31 : p_tb 92 31 = some (.goto (-28), 3) := by decide +kernel
theorem q_92_34 : p_tb 92 34 = some (.iconst (-1), 1) := by decide +kernel
theorem q_92_35 : p_tb 92 35 = some (.ireturn, 1) := by decide +kernel
theorem q_91_0 : p_tb 91 0 = some (.aload_n 0, 1) := by decide +kernel
theorem q_91_1 : p_tb 91 1 = some (.getfield 58, 3) := by decide +kernel
theorem q_91_4 : p_tb 91 4 = some (.iconst 3, 1) := by decide +kernel
theorem q_91_5 : p_tb 91 5 = some (.if_icmp .eq 11, 3) := by decide +kernel
theorem q_91_8 : p_tb 91 8 = some (.aload_n 0, 1) := by decide +kernel
theorem q_91_9 : p_tb 91 9 = some (.iconst 1, 1) := by decide +kernel
theorem q_91_10 : p_tb 91 10 = some (.invokevirtual 97, 3) := by decide +kernel
theorem q_91_13 : p_tb 91 13 = some (.pop, 1) := by decide +kernel
theorem q_91_14 : p_tb 91 14 = some (.iconst (-1), 1) := by decide +kernel
theorem q_91_15 : p_tb 91 15 = some (.ireturn, 1) := by decide +kernel
theorem q_91_16 : p_tb 91 16 = some (.aload_n 1, 1) := by decide +kernel
theorem q_91_17 : p_tb 91 17 = some (.iload_n 2, 1) := by decide +kernel
theorem q_91_18 : p_tb 91 18 = some (.aload_n 0, 1) := by decide +kernel
theorem q_91_19 : p_tb 91 19 = some (.getfield 77, 3) := by decide +kernel
theorem q_91_22 : p_tb 91 22 = some (.invokestatic 107, 3) := by decide +kernel
theorem q_91_25 : p_tb 91 25 = some (.istore_n 3, 1) := by decide +kernel
theorem q_91_26 : p_tb 91 26 = some (.iload_n 3, 1) := by decide +kernel
theorem q_91_27 : p_tb 91 27 = some (.iconst (-1), 1) := by decide +kernel
theorem q_91_28 : p_tb 91 28 = some (.if_icmp .ne 9, 3) := by decide +kernel
theorem q_91_31 : p_tb 91 31 = some (.aload_n 0, 1) := by decide +kernel
theorem q_91_32 : p_tb 91 32 = some (.iconst 3, 1) := by decide +kernel
theorem q_91_33 : p_tb 91 33 = some (.invokevirtual 97, 3) := by decide +kernel
theorem q_91_36 : p_tb 91 36 = some (.pop, 1) := by decide +kernel
theorem q_91_37 : p_tb 91 37 = some (.iload_n 3, 1) := by decide +kernel
theorem q_91_38 : p_tb 91 38 = some (.ireturn, 1) := by decide +kernel
theorem t_ft_91_58 : p_f2 p_ft (p_mK 91) 58 = some (7, 5) := by decide +kernel
theorem t_ft_91_77 : p_f2 p_ft (p_mK 91) 77 = some (7, 7) := by decide +kernel
theorem t_ms_91_107 : p_f2 p_ms (p_mK 91) 107 = some 92 := by decide +kernel
theorem t_mv_91_97 : p_f2 p_mv (p_mK 91) 97 = some 83 := by decide +kernel
theorem c_X7_isLetter_vk (V : pM → Prop) (hV : Stab V) (G : pG) (Kr : pK) (M : pM) (I : Iv V M) (a0 : Int32) (hK : ∀ (x : Int32), 0 ≤ x.toInt → x.toInt ≤ 1 → ((x.toInt = 1 ∧ 97 ≤ a0.toInt ∧ a0.toInt ≤ 122) ∨ (x.toInt = 0 ∧ (a0.toInt < 97 ∨ 122 < a0.toInt))) → Kr.1 (some (.int x)) 311 M) : PW G false 0 80 (p_mc 80) (p_msl 80) Kr 0 (lv_args 0 [.int a0]) [] 311 M 0 0 := by
  have F : Fr [] M M := Fr.refl
  refine PW.iload_n q_80_0 rfl ?_
  refine PW.cB q_80_1 (by decide) fun c1 hc1 => ?_
  refine PW.jc_lt q_80_3 rfl (fun h2 => ?_) (fun h2 => ?_)
  · skip
    refine PW.cI q_80_16 (by decide) fun c3 hc3 => ?_
    refine PW.rZ q_80_17 rfl (by omega) (by omega) (by decide) (by decide) ?_
    exact hK c3 (by omega) (by omega) (by omega)
  · skip
    refine PW.iload_n q_80_6 rfl ?_
    refine PW.cB q_80_7 (by decide) fun c4 hc4 => ?_
    refine PW.jc_gt q_80_9 rfl (fun h5 => ?_) (fun h5 => ?_)
    · skip
      refine PW.cI q_80_16 (by decide) fun c6 hc6 => ?_
      refine PW.rZ q_80_17 rfl (by omega) (by omega) (by decide) (by decide) ?_
      exact hK c6 (by omega) (by omega) (by omega)
    · skip
      refine PW.cI q_80_12 (by decide) fun c7 hc7 => ?_
      refine PW.goto q_80_13 rfl ?_
      refine PW.rZ q_80_17 rfl (by omega) (by omega) (by decide) (by decide) ?_
      exact hK c7 (by omega) (by omega) (by omega)
theorem c_X7_isDigit_vk (V : pM → Prop) (hV : Stab V) (G : pG) (Kr : pK) (M : pM) (I : Iv V M) (a0 : Int32) (hK : ∀ (x : Int32), 0 ≤ x.toInt → x.toInt ≤ 1 → ((x.toInt = 1 ∧ 48 ≤ a0.toInt ∧ a0.toInt ≤ 57) ∨ (x.toInt = 0 ∧ (a0.toInt < 48 ∨ 57 < a0.toInt))) → Kr.1 (some (.int x)) 311 M) : PW G false 0 81 (p_mc 81) (p_msl 81) Kr 0 (lv_args 0 [.int a0]) [] 311 M 0 0 := by
  have F : Fr [] M M := Fr.refl
  refine PW.iload_n q_81_0 rfl ?_
  refine PW.cB q_81_1 (by decide) fun c1 hc1 => ?_
  refine PW.jc_lt q_81_3 rfl (fun h2 => ?_) (fun h2 => ?_)
  · skip
    refine PW.cI q_81_16 (by decide) fun c3 hc3 => ?_
    refine PW.rZ q_81_17 rfl (by omega) (by omega) (by decide) (by decide) ?_
    exact hK c3 (by omega) (by omega) (by omega)
  · skip
    refine PW.iload_n q_81_6 rfl ?_
    refine PW.cB q_81_7 (by decide) fun c4 hc4 => ?_
    refine PW.jc_gt q_81_9 rfl (fun h5 => ?_) (fun h5 => ?_)
    · skip
      refine PW.cI q_81_16 (by decide) fun c6 hc6 => ?_
      refine PW.rZ q_81_17 rfl (by omega) (by omega) (by decide) (by decide) ?_
      exact hK c6 (by omega) (by omega) (by omega)
    · skip
      refine PW.cI q_81_12 (by decide) fun c7 hc7 => ?_
      refine PW.goto q_81_13 rfl ?_
      refine PW.rZ q_81_17 rfl (by omega) (by omega) (by decide) (by decide) ?_
      exact hK c7 (by omega) (by omega) (by omega)
theorem c_X7_isSign_vk (V : pM → Prop) (hV : Stab V) (G : pG) (Kr : pK) (M : pM) (I : Iv V M) (a0 : Int32) (hK : ∀ (x : Int32), 0 ≤ x.toInt → x.toInt ≤ 1 → ((x.toInt = 1 ∧ (a0.toInt = 59 ∨ a0.toInt = 40 ∨ a0.toInt = 41 ∨ (60 ≤ a0.toInt ∧ a0.toInt ≤ 62))) ∨ (x.toInt = 0 ∧ ¬ (a0.toInt = 59 ∨ a0.toInt = 40 ∨ a0.toInt = 41 ∨ (60 ≤ a0.toInt ∧ a0.toInt ≤ 62)))) → Kr.1 (some (.int x)) 311 M) : PW G false 0 82 (p_mc 82) (p_msl 82) Kr 0 (lv_args 0 [.int a0]) [] 311 M 0 0 := by
  have F : Fr [] M M := Fr.refl
  refine PW.iload_n q_82_0 rfl ?_
  refine PW.cB q_82_1 (by decide) fun c1 hc1 => ?_
  refine PW.jc_eq q_82_3 rfl (fun h2 => ?_) (fun h2 => ?_)
  · skip
    refine PW.cI q_82_36 (by decide) fun c3 hc3 => ?_
    refine PW.goto q_82_37 rfl ?_
    refine PW.rZ q_82_41 rfl (by omega) (by omega) (by decide) (by decide) ?_
    exact hK c3 (by omega) (by omega) (by omega)
  · skip
    refine PW.iload_n q_82_6 rfl ?_
    refine PW.cB q_82_7 (by decide) fun c4 hc4 => ?_
    refine PW.jc_eq q_82_9 rfl (fun h5 => ?_) (fun h5 => ?_)
    · skip
      refine PW.cI q_82_36 (by decide) fun c6 hc6 => ?_
      refine PW.goto q_82_37 rfl ?_
      refine PW.rZ q_82_41 rfl (by omega) (by omega) (by decide) (by decide) ?_
      exact hK c6 (by omega) (by omega) (by omega)
    · skip
      refine PW.iload_n q_82_12 rfl ?_
      refine PW.cB q_82_13 (by decide) fun c7 hc7 => ?_
      refine PW.jc_eq q_82_15 rfl (fun h8 => ?_) (fun h8 => ?_)
      · skip
        refine PW.cI q_82_36 (by decide) fun c9 hc9 => ?_
        refine PW.goto q_82_37 rfl ?_
        refine PW.rZ q_82_41 rfl (by omega) (by omega) (by decide) (by decide) ?_
        exact hK c9 (by omega) (by omega) (by omega)
      · skip
        refine PW.iload_n q_82_18 rfl ?_
        refine PW.cB q_82_19 (by decide) fun c10 hc10 => ?_
        refine PW.jc_eq q_82_21 rfl (fun h11 => ?_) (fun h11 => ?_)
        · skip
          refine PW.cI q_82_36 (by decide) fun c12 hc12 => ?_
          refine PW.goto q_82_37 rfl ?_
          refine PW.rZ q_82_41 rfl (by omega) (by omega) (by decide) (by decide) ?_
          exact hK c12 (by omega) (by omega) (by omega)
        · skip
          refine PW.iload_n q_82_24 rfl ?_
          refine PW.cB q_82_25 (by decide) fun c13 hc13 => ?_
          refine PW.jc_eq q_82_27 rfl (fun h14 => ?_) (fun h14 => ?_)
          · skip
            refine PW.cI q_82_36 (by decide) fun c15 hc15 => ?_
            refine PW.goto q_82_37 rfl ?_
            refine PW.rZ q_82_41 rfl (by omega) (by omega) (by decide) (by decide) ?_
            exact hK c15 (by omega) (by omega) (by omega)
          · skip
            refine PW.iload_n q_82_30 rfl ?_
            refine PW.cB q_82_31 (by decide) fun c16 hc16 => ?_
            refine PW.jc_ne q_82_33 rfl (fun h17 => ?_) (fun h17 => ?_)
            · skip
              refine PW.cI q_82_40 (by decide) fun c18 hc18 => ?_
              refine PW.rZ q_82_41 rfl (by omega) (by omega) (by decide) (by decide) ?_
              exact hK c18 (by omega) (by omega) (by omega)
            · skip
              refine PW.cI q_82_36 (by decide) fun c19 hc19 => ?_
              refine PW.goto q_82_37 rfl ?_
              refine PW.rZ q_82_41 rfl (by omega) (by omega) (by decide) (by decide) ?_
              exact hK c19 (by omega) (by omega) (by omega)
theorem c_X7_at_vk (V : pM → Prop) (hV : Stab V) (G : pG) (Kr : pK) (M : pM) (I : Iv V M) (a1 : Int32) (y : k_X) (hp_0 : k_tx y M) (hK : ∀ (x : Int32), -1 ≤ x.toInt → x.toInt ≤ 255 → ((0 ≤ a1.toInt ∧ a1.toInt < y.2.1 ∧ x.toInt = y.1 a1.toInt.toNat) ∨ ((a1.toInt < 0 ∨ y.2.1 ≤ a1.toInt) ∧ x.toInt = -1)) → Kr.1 (some (.int x)) 311 M) : PW G false 0 75 (p_mc 75) (p_msl 75) Kr 0 (lv_args 0 [.ref 1, .int a1]) [] 311 M 0 0 := by
  have F : Fr [] M M := Fr.refl
  obtain ⟨t1, t2, t3, t4⟩ := hp_0
  refine PW.iload_n q_75_0 rfl ?_
  refine PW.jz_lt q_75_1 rfl (fun h1 => ?_) (fun h1 => ?_)
  · skip
    refine PW.cI q_75_25 (by decide) fun c2 hc2 => ?_
    refine PW.rI q_75_26 rfl (by decide) (by decide) ?_
    exact hK c2 (by omega) (by omega) (Or.inr ⟨by omega, by omega⟩)
  · skip
    refine PW.iload_n q_75_4 rfl ?_
    refine PW.aload_n q_75_5 rfl ?_
    refine PW.gI q_75_6 (Or.inl t_ft_75_26) gF_1_1 kd_1 I.1 (by decide) fun x3 fx3 hx3 kx3 => ?_
    have ix3 := o_i_of fx3
    refine PW.jc_ge q_75_9 rfl (fun h4 => ?_) (fun h4 => ?_)
    · skip
      refine PW.cI q_75_25 (by decide) fun c5 hc5 => ?_
      refine PW.rI q_75_26 rfl (by decide) (by decide) ?_
      exact hK c5 (by omega) (by omega) (Or.inr ⟨by omega, by omega⟩)
    · skip
      refine PW.aload_n q_75_12 rfl ?_
      refine PW.gR 2 q_75_13 (Or.inl t_ft_75_9) gF_1_0 kd_1 I.1 (by decide) rfl ?_
      refine PW.iload_n q_75_16 rfl ?_
      refine PW.aY q_75_17 gA_2 kd_2 I.1 (by decide) (by omega) (by omega) fun x6 fx6 => ?_
      refine PW.cS q_75_18 (by decide) fun c7 hc7 => ?_
      refine PW.andX q_75_21 (by decide : ((255 : Int32)).toInt = 255) (by omega) (by omega) fun x8 zx8 hx8 kx8 => ?_
      refine PW.goto q_75_22 rfl ?_
      refine PW.rI q_75_26 rfl (by decide) (by decide) ?_
      have tb := t4 a1.toInt.toNat (by omega)
      rw [fx6, ← zx8] at tb
      exact hK x8 (by omega) (by omega) (Or.inl ⟨by omega, by omega, tb⟩)
theorem c_X7_isKnownWord_vk (V : pM → Prop) (hV : Stab V) (G : pG) (Kr : pK) (M : pM) (I : Iv V M) (v : Int) (hp_0 : o_J (M 1) 7 = v) (hK : ∀ (x : Int32) (M1 : pM), Iv V M1 → Fr [1] M M1 → 0 ≤ x.toInt → x.toInt ≤ 1 → ((x.toInt = 1 ∧ (∃ r, r < 28 ∧ o_f (M1 1) 6 = .ref (65536 + r) ∧ (p_wc r).toInt = v) ∧ gU M M1 1 6) ∨ (x.toInt = 0 ∧ (∀ r, r < 28 → (p_wc r).toInt ≠ v) ∧ gU M M1 1 6)) → Kr.1 (some (.int x)) 311 M1) : PW G false 0 79 (p_mc 79) (p_msl 79) Kr 0 (lv_args 0 [.ref 1]) [] 311 M 0 0 := by
  have F : Fr [1] M M := Fr.refl
  refine PW.cI q_79_0 (by decide) fun c1 hc1 => ?_
  refine PW.istore_n q_79_1 (by decide) ?_
  have L79_2_2 : ∀ (n : Nat) (v3 : Int32), 0 ≤ v3.toInt → v3.toInt ≤ 28 → (∀ r : Nat, (r : Int) < v3.toInt → (p_wc r).toInt ≠ v) → (28 - v3.toInt).toNat = n → PW G false 0 79 (p_mc 79) (p_msl 79) Kr 2 [(0, .ref 1), (1, .int v3)] [] 311 M 0 0 := by
    intro n
    induction n using Nat.strongRecOn with
    | ind n ih_L79_2_2 =>
    intro v3 hbL79_2_20 hbL79_2_21 hbL79_2_22 hmL79_2_2
    refine PW.iload_n q_79_2 rfl ?_
    refine PW.gWS q_79_3 rfl ?_
    refine PW.wlen q_79_6 fun c4 hc4 => ?_
    refine PW.jc_ge q_79_7 rfl (fun h5 => ?_) (fun h5 => ?_)
    · skip
      refine PW.cI q_79_43 (by decide) fun c6 hc6 => ?_
      refine PW.rZ q_79_44 rfl (by omega) (by omega) (by decide) (by decide) ?_
      exact hK c6 M I F (by omega) (by omega) (Or.inr ⟨by omega, fun r hr => hbL79_2_22 r (by omega), fun _ _ => rfl, fun _ _ => rfl⟩)
    · skip
      refine PW.gWS q_79_10 rfl ?_
      refine PW.iload_n q_79_13 rfl ?_
      refine PW.wald q_79_14 (by omega) (by omega) fun r7 hr7 er7 => ?_
      refine PW.wcode q_79_15 rfl hr7 ?_
      refine PW.aload_n q_79_18 rfl ?_
      refine PW.gL q_79_19 (Or.inl t_ft_79_77) gF_1_7 kd_1 I.1 (by decide) fun l8 fl8 => ?_
      refine PW.lcmpK q_79_22 fun x9 lax9 lcx9 => ?_
      refine PW.jz_ne q_79_23 rfl (fun h10 => ?_) (fun h10 => ?_)
      · skip
        refine PW.incN q_79_37 rfl (by decide) (by decide) (by omega) (by omega) fun x11 hx11 => ?_
        refine PW.goto q_79_40 rfl ?_
        exact PW.lvS (lk1 rfl (lk1 rfl lk0)) (ih_L79_2_2 _ (by omega) x11 (by omega) (by omega) (fun r hr e => by by_cases q : r = r7; (· subst q; exact lax9 (by omega) (e.trans (hp_0.symm.trans (o_J_of fl8)))); (· exact hbL79_2_22 r (by omega) e)) rfl)
      · skip
        refine PW.aload_n q_79_26 rfl ?_
        refine PW.gWS q_79_27 rfl ?_
        refine PW.iload_n q_79_30 rfl ?_
        refine PW.wald q_79_31 (by omega) (by omega) fun r12 hr12 er12 => ?_
        refine PW.pW q_79_32 (Or.inl t_ft_79_21) gF_1_6 gP_1_6 kd_1 hV I (by decide) rfl hr12 fun M13 IM13 fM13 UM13 => ?_
        have FM13 := Fr.pu F UM13.1 kd_1 (rfl : List.contains [1] 1 = true)
        refine PW.cI q_79_35 (by decide) fun c14 hc14 => ?_
        refine PW.rZ q_79_36 rfl (by omega) (by omega) (by decide) (by decide) ?_
        exact hK c14 M13 IM13 FM13 (by omega) (by omega) (Or.inl ⟨by omega, ⟨r12, hr12, fM13, by rw [show r12 = r7 from by omega]; exact (lcx9 (by omega)).trans ((o_J_of fl8).symm.trans hp_0)⟩, UM13⟩)
  exact PW.lvS (lk1 rfl (lk1 rfl lk0)) (L79_2_2 _ c1 (by omega) (by omega) (fun r hr => by omega) rfl)
theorem c_X7_readRun_vk (V : pM → Prop) (hV : Stab V) (G : pG) (Kr : pK) (M : pM) (I : Iv V M) (y : k_X) (q : Nat) (hp_0 : k_tx y M) (hp_1 : o_i (M 1) 3 = q) (hp_2 : o_i (M 1) 4 = q) (hp_3 : (q : Int) < y.2.1) (hK : ∀ (M1 : pM), Iv V M1 → Fr [1] M M1 → (k_tx y M1 ∧ k_tt y M1 (k_ru y q)) → Kr.1 none 311 M1) : PW G false 1 78 (p_mc 78) (p_msl 78) Kr 0 (lv_args 0 [.ref 1]) [] 311 M 0 0 := by
  have F : Fr [1] M M := Fr.refl
  refine PW.cI q_78_0 (by decide) fun c1 hc1 => ?_
  refine PW.istore_n q_78_1 (by decide) ?_
  refine PW.cI q_78_2 (by decide) fun c2 hc2 => ?_
  refine PW.istore_n q_78_3 (by decide) ?_
  refine PW.aload_n q_78_4 rfl ?_
  refine PW.lconst q_78_5 ?_
  refine PW.nmLk fun l3 el3 => ?_
  refine PW.pL q_78_6 (Or.inl t_ft_78_77) gF_1_7 gP_1_7 kd_1 hV I (by decide) rfl fun M4 IM4 fM4 UM4 => ?_
  have FM4 := Fr.pu F UM4.1 kd_1 (rfl : List.contains [1] 1 = true)
  refine PW.aload_n q_78_9 rfl ?_
  refine PW.cI q_78_10 (by decide) fun c5 hc5 => ?_
  refine PW.pI q_78_11 (Or.inl t_ft_78_81) gF_1_8 gP_1_8 kd_1 hV IM4 (by decide) rfl (n_lo _) (n_hi _) fun M6 IM6 fM6 UM6 => ?_
  have FM6 := Fr.pu FM4 UM6.1 kd_1 (rfl : List.contains [1] 1 = true)
  have L78_14_7 : ∀ (n : Nat) (ML78_14_7 : pM) (v8 v9 : Int32), Iv (V) ML78_14_7 → Fr [1] M ML78_14_7 → 0 ≤ v8.toInt → v8.toInt ≤ 940 → 0 ≤ v9.toInt → v9.toInt ≤ 940 → k_run y q ML78_14_7 v8.toInt v9.toInt → (940 - o_i (ML78_14_7 1) 3).toNat = n → PW G false 1 78 (p_mc 78) (p_msl 78) Kr 14 [(0, .ref 1), (1, .int v8), (2, .int v9)] [] 311 ML78_14_7 0 0 := by
    intro n
    induction n using Nat.strongRecOn with
    | ind n ih_L78_14_7 =>
    intro ML78_14_7 v8 v9 IML78_14_7 FML78_14_7 hbL78_14_70 hbL78_14_71 hbL78_14_72 hbL78_14_73 hbL78_14_74 hmL78_14_7
    obtain ⟨x10, fx10, hx10, kx10⟩ := gF_1_3.int kd_1 IML78_14_7.1 (by decide)
    have ex10 := o_i_of fx10
    refine PW.aload_n q_78_14 rfl ?_
    have t1 := (k_run.tx hbL78_14_74).1
    have kb := k_run.bd hbL78_14_74
    refine PW.gE q_78_15 (Or.inl t_ft_78_33) gF_1_3 kd_1 IML78_14_7.1 (by decide) fx10 ?_
    refine PW.aload_n q_78_18 rfl ?_
    refine PW.gI q_78_19 (Or.inl t_ft_78_26) gF_1_1 kd_1 IML78_14_7.1 (by decide) fun x11 fx11 hx11 kx11 => ?_
    have ix11 := o_i_of fx11
    refine PW.jc_ge q_78_22 rfl (fun h12 => ?_) (fun h12 => ?_)
    · skip
      refine PW.iload_n q_78_131 rfl ?_
      refine PW.jz_ne q_78_132 rfl (fun h13 => ?_) (fun h13 => ?_)
      · skip
        refine PW.aload_n q_78_160 rfl ?_
        refine PW.iload_n q_78_161 rfl ?_
        refine PW.jz_ne q_78_162 rfl (fun h14 => ?_) (fun h14 => ?_)
        · skip
          refine PW.cI q_78_174 (by decide) fun c15 hc15 => ?_
          refine PW.pI q_78_175 (Or.inl t_ft_78_58) gF_1_5 gP_1_5 kd_1 hV IML78_14_7 (by decide) rfl (n_lo _) (n_hi _) fun M16 IM16 fM16 UM16 => ?_
          have FM16 := Fr.pu FML78_14_7 UM16.1 kd_1 (rfl : List.contains [1] 1 = true)
          refine PW.vret q_78_178 rfl (by decide) (by decide) ?_
          exact hK M16 IM16 FM16 ⟨((k_run.tx hbL78_14_74).U UM16 (by decide) (by decide) (by decide)), hbL78_14_74.b (by rw [show (o_i (ML78_14_7 1) 3).toNat = x10.toInt.toNat from by omega]; omega) (by omega) (by omega) (UM16.i (c := 1) (k := 4) (Or.inr (by decide))) (by have w := (o_i_of fM16); omega)⟩
        · skip
          refine PW.iload_n q_78_165 rfl ?_
          refine PW.cI q_78_166 (by decide) fun c17 hc17 => ?_
          refine PW.jc_gt q_78_167 rfl (fun h18 => ?_) (fun h18 => ?_)
          · skip
            refine PW.cI q_78_174 (by decide) fun c19 hc19 => ?_
            refine PW.pI q_78_175 (Or.inl t_ft_78_58) gF_1_5 gP_1_5 kd_1 hV IML78_14_7 (by decide) rfl (n_lo _) (n_hi _) fun M20 IM20 fM20 UM20 => ?_
            have FM20 := Fr.pu FML78_14_7 UM20.1 kd_1 (rfl : List.contains [1] 1 = true)
            refine PW.vret q_78_178 rfl (by decide) (by decide) ?_
            exact hK M20 IM20 FM20 ⟨((k_run.tx hbL78_14_74).U UM20 (by decide) (by decide) (by decide)), hbL78_14_74.b (by rw [show (o_i (ML78_14_7 1) 3).toNat = x10.toInt.toNat from by omega]; omega) (by omega) (by omega) (UM20.i (c := 1) (k := 4) (Or.inr (by decide))) (by have w := (o_i_of fM20); omega)⟩
          · skip
            refine PW.cI q_78_170 (by decide) fun c21 hc21 => ?_
            refine PW.goto q_78_171 rfl ?_
            refine PW.pI q_78_175 (Or.inl t_ft_78_58) gF_1_5 gP_1_5 kd_1 hV IML78_14_7 (by decide) rfl (n_lo _) (n_hi _) fun M22 IM22 fM22 UM22 => ?_
            have FM22 := Fr.pu FML78_14_7 UM22.1 kd_1 (rfl : List.contains [1] 1 = true)
            refine PW.vret q_78_178 rfl (by decide) (by decide) ?_
            exact hK M22 IM22 FM22 ⟨((k_run.tx hbL78_14_74).U UM22 (by decide) (by decide) (by decide)), hbL78_14_74.n (by rw [show (o_i (ML78_14_7 1) 3).toNat = x10.toInt.toNat from by omega]; omega) (by omega) (by omega) (by omega) (UM22.i (c := 1) (k := 3) (Or.inr (by decide))) (UM22.i (c := 1) (k := 4) (Or.inr (by decide))) (UM22.i (c := 1) (k := 8) (Or.inr (by decide))) (by have w := (o_i_of fM22); omega)⟩
      · skip
        refine PW.iload_n q_78_135 rfl ?_
        refine PW.cB q_78_136 (by decide) fun c23 hc23 => ?_
        refine PW.jc_gt q_78_138 rfl (fun h24 => ?_) (fun h24 => ?_)
        · skip
          refine PW.aload_n q_78_160 rfl ?_
          refine PW.iload_n q_78_161 rfl ?_
          refine PW.jz_ne q_78_162 rfl (fun h25 => ?_) (fun h25 => False.elim (by omega))
          refine PW.cI q_78_174 (by decide) fun c26 hc26 => ?_
          refine PW.pI q_78_175 (Or.inl t_ft_78_58) gF_1_5 gP_1_5 kd_1 hV IML78_14_7 (by decide) rfl (n_lo _) (n_hi _) fun M27 IM27 fM27 UM27 => ?_
          have FM27 := Fr.pu FML78_14_7 UM27.1 kd_1 (rfl : List.contains [1] 1 = true)
          refine PW.vret q_78_178 rfl (by decide) (by decide) ?_
          exact hK M27 IM27 FM27 ⟨((k_run.tx hbL78_14_74).U UM27 (by decide) (by decide) (by decide)), hbL78_14_74.b (by rw [show (o_i (ML78_14_7 1) 3).toNat = x10.toInt.toNat from by omega]; omega) (by omega) (by omega) (UM27.i (c := 1) (k := 4) (Or.inr (by decide))) (by have w := (o_i_of fM27); omega)⟩
        · skip
          refine PW.aload_n q_78_141 rfl ?_
          refine PW.aload_n q_78_142 rfl ?_
          refine PW.cV (as := []) (rest := [_]) q_78_143 t_mv_78_88 kd_1 IML78_14_7.1 (by decide) rfl (by decide) rfl rfl (Nat.le_of_ble_eq_true rfl) (Nat.le_of_ble_eq_true rfl) (by decide) (by decide) ?_
          refine PW.up (by decide) (c_X7_isKnownWord_vk (V) (hV) G _ ML78_14_7 IML78_14_7 _ rfl fun x29 M28 IM28 GM28 hx29 kx29 PM28 => ?_)
          have FM28 := Fr.trans FML78_14_7 GM28 (rfl)
          rcases PM28 with ⟨PaM28, ⟨PrM28, PhM28, PwM28, PvM28⟩, PuM28⟩ | ⟨PaM28, PnM28, PuM28⟩
          · skip
            refine PW.jz_eq q_78_146 rfl (fun h30 => False.elim (by omega)) (fun h30 => ?_)
            refine PW.cI q_78_149 (by decide) fun c31 hc31 => ?_
            refine PW.goto q_78_150 rfl ?_
            refine PW.pI q_78_154 (Or.inl t_ft_78_58) gF_1_5 gP_1_5 kd_1 hV IM28 (by decide) rfl (n_lo _) (n_hi _) fun M32 IM32 fM32 UM32 => ?_
            have FM32 := Fr.pu FM28 UM32.1 kd_1 (rfl : List.contains [1] 1 = true)
            refine PW.goto q_78_157 rfl ?_
            refine PW.vret q_78_178 rfl (by decide) (by decide) ?_
            exact hK M32 IM32 FM32 ⟨(((k_run.tx hbL78_14_74).U PuM28 (by decide) (by decide) (by decide)).U UM32 (by decide) (by decide) (by decide)), hbL78_14_74.w (by rw [show (o_i (ML78_14_7 1) 3).toNat = x10.toInt.toNat from by omega]; omega) (by omega) (by omega) ((UM32.i (c := 1) (k := 3) (Or.inr (by decide))).trans (PuM28.i (c := 1) (k := 3) (Or.inr (by decide)))) ((UM32.i (c := 1) (k := 4) (Or.inr (by decide))).trans (PuM28.i (c := 1) (k := 4) (Or.inr (by decide)))) ((UM32.J (c := 1) (k := 7) (Or.inr (by decide))).trans (PuM28.J (c := 1) (k := 7) (Or.inr (by decide)))) (Or.inl ⟨(by have w := (o_i_of fM32); omega), PrM28, PhM28, (UM32.f (c := 1) (k := 6) (Or.inr (by decide))).trans PwM28, PvM28⟩)⟩
          · skip
            refine PW.jz_eq q_78_146 rfl (fun h33 => ?_) (fun h33 => False.elim (by omega))
            refine PW.cI q_78_153 (by decide) fun c34 hc34 => ?_
            refine PW.pI q_78_154 (Or.inl t_ft_78_58) gF_1_5 gP_1_5 kd_1 hV IM28 (by decide) rfl (n_lo _) (n_hi _) fun M35 IM35 fM35 UM35 => ?_
            have FM35 := Fr.pu FM28 UM35.1 kd_1 (rfl : List.contains [1] 1 = true)
            refine PW.goto q_78_157 rfl ?_
            refine PW.vret q_78_178 rfl (by decide) (by decide) ?_
            exact hK M35 IM35 FM35 ⟨(((k_run.tx hbL78_14_74).U PuM28 (by decide) (by decide) (by decide)).U UM35 (by decide) (by decide) (by decide)), hbL78_14_74.w (by rw [show (o_i (ML78_14_7 1) 3).toNat = x10.toInt.toNat from by omega]; omega) (by omega) (by omega) ((UM35.i (c := 1) (k := 3) (Or.inr (by decide))).trans (PuM28.i (c := 1) (k := 3) (Or.inr (by decide)))) ((UM35.i (c := 1) (k := 4) (Or.inr (by decide))).trans (PuM28.i (c := 1) (k := 4) (Or.inr (by decide)))) ((UM35.J (c := 1) (k := 7) (Or.inr (by decide))).trans (PuM28.J (c := 1) (k := 7) (Or.inr (by decide)))) (Or.inr ⟨(by have w := (o_i_of fM35); omega), PnM28⟩)⟩
    · skip
      refine PW.aload_n q_78_25 rfl ?_
      refine PW.aload_n q_78_26 rfl ?_
      refine PW.gE q_78_27 (Or.inl t_ft_78_33) gF_1_3 kd_1 IML78_14_7.1 (by decide) fx10 ?_
      refine PW.cV (as := [_]) (rest := []) q_78_30 t_mv_78_51 kd_1 IML78_14_7.1 (by decide) rfl (by decide) rfl rfl (Nat.le_of_ble_eq_true rfl) (Nat.le_of_ble_eq_true rfl) (by decide) (by decide) ?_
      refine PW.up (by decide) (c_X7_at_vk (V) (hV) G _ ML78_14_7 IML78_14_7 x10 _ (k_run.tx hbL78_14_74) fun x37  hx37 kx37 PM36 => ?_)
      rcases PM36 with ⟨PaM36, PbM36, PcM36⟩ | ⟨PaM36, PbM36⟩
      · skip
        refine PW.callS (as := [_]) (rest := []) q_78_33 t_ms_78_61 (by decide) rfl (Nat.le_of_ble_eq_true rfl) (Nat.le_of_ble_eq_true rfl) (by decide) (by decide) ?_
        refine PW.up (by decide) (c_X7_isLetter_vk (V) (hV) G _ ML78_14_7 IML78_14_7 x37 fun x39  hx39 kx39 PM38 => ?_)
        rcases PM38 with ⟨PaM38, PbM38, PcM38⟩ | ⟨PaM38, PbM38⟩
        · skip
          refine PW.jz_ne q_78_36 rfl (fun h40 => ?_) (fun h40 => False.elim (by omega))
          refine PW.aload_n q_78_53 rfl ?_
          refine PW.aload_n q_78_54 rfl ?_
          refine PW.gE q_78_55 (Or.inl t_ft_78_33) gF_1_3 kd_1 IML78_14_7.1 (by decide) fx10 ?_
          refine PW.cV (as := [_]) (rest := []) q_78_58 t_mv_78_51 kd_1 IML78_14_7.1 (by decide) rfl (by decide) rfl rfl (Nat.le_of_ble_eq_true rfl) (Nat.le_of_ble_eq_true rfl) (by decide) (by decide) ?_
          refine PW.up (by decide) (c_X7_at_vk (V) (hV) G _ ML78_14_7 IML78_14_7 x10 _ (k_run.tx hbL78_14_74) fun x42  hx42 kx42 PM41 => ?_)
          rcases PM41 with ⟨PaM41, PbM41, PcM41⟩ | ⟨PaM41, PbM41⟩
          · skip
            refine PW.callS (as := [_]) (rest := []) q_78_61 t_ms_78_61 (by decide) rfl (Nat.le_of_ble_eq_true rfl) (Nat.le_of_ble_eq_true rfl) (by decide) (by decide) ?_
            refine PW.up (by decide) (c_X7_isLetter_vk (V) (hV) G _ ML78_14_7 IML78_14_7 x42 fun x44  hx44 kx44 PM43 => ?_)
            rcases PM43 with ⟨PaM43, PbM43, PcM43⟩ | ⟨PaM43, PbM43⟩
            · skip
              refine PW.jz_eq q_78_64 rfl (fun h45 => False.elim (by omega)) (fun h45 => ?_)
              refine PW.incN q_78_67 rfl (by decide) (by decide) (by omega) (by omega) fun x46 hx46 => ?_
              refine PW.aload_n q_78_70 rfl ?_
              refine PW.aload_n q_78_71 rfl ?_
              refine PW.gL q_78_72 (Or.inl t_ft_78_77) gF_1_7 kd_1 IML78_14_7.1 (by decide) fun l47 fl47 => ?_
              refine PW.aload_n q_78_75 rfl ?_
              refine PW.aload_n q_78_76 rfl ?_
              refine PW.gE q_78_77 (Or.inl t_ft_78_33) gF_1_3 kd_1 IML78_14_7.1 (by decide) fx10 ?_
              refine PW.cV (as := [_]) (rest := [_, _]) q_78_80 t_mv_78_51 kd_1 IML78_14_7.1 (by decide) rfl (by decide) rfl rfl (Nat.le_of_ble_eq_true rfl) (Nat.le_of_ble_eq_true rfl) (by decide) (by decide) ?_
              refine PW.up (by decide) (c_X7_at_vk (V) (hV) G _ ML78_14_7 IML78_14_7 x10 _ (k_run.tx hbL78_14_74) fun x49  hx49 kx49 PM48 => ?_)
              rcases PM48 with ⟨PaM48, PbM48, PcM48⟩ | ⟨PaM48, PbM48⟩
              · skip
                refine PW.callS (as := [_, _]) (rest := [_]) q_78_83 t_ms_78_84 (by decide) rfl (Nat.le_of_ble_eq_true rfl) (Nat.le_of_ble_eq_true rfl) (by decide) (by decide) ?_
                refine PW.lload_n q_73_0 rfl ?_
                refine PW.ldc2 q_73_1 t_lt_73_24 ?_
                refine PW.nmLk fun l50 el50 => ?_
                refine PW.lmul q_73_4 ?_
                refine PW.nmLk fun l51 el51 => ?_
                refine PW.iload_n q_73_5 rfl ?_
                refine PW.cB q_73_6 (by decide) fun c52 hc52 => ?_
                refine PW.subN q_73_8 (by have := n_lo x49; have := n_hi x49; omega) (by have := n_lo x49; have := n_hi x49; omega) fun x53 hx53 => ?_
                refine PW.cI q_73_9 (by decide) fun c54 hc54 => ?_
                refine PW.addN q_73_10 (by omega) (by omega) fun x55 hx55 => ?_
                refine PW.i2l q_73_11 ?_
                refine PW.nmLk fun l56 el56 => ?_
                refine PW.ladd q_73_12 ?_
                refine PW.nmLk fun l57 el57 => ?_
                refine PW.lret q_73_13 rfl (by decide) (by decide) ?_
                refine PW.pL q_78_86 (Or.inl t_ft_78_77) gF_1_7 gP_1_7 kd_1 hV IML78_14_7 (by decide) rfl fun M58 IM58 fM58 UM58 => ?_
                have FM58 := Fr.pu FML78_14_7 UM58.1 kd_1 (rfl : List.contains [1] 1 = true)
                refine PW.goto q_78_89 rfl ?_
                refine PW.aload_n q_78_118 rfl ?_
                refine PW.dup q_78_119 rfl ?_
                refine PW.gE q_78_120 (Or.inl t_ft_78_33) gF_1_3 kd_1 IM58.1 (by decide) ((UM58.f (Or.inr (by decide))).trans fx10) ?_
                refine PW.cI q_78_123 (by decide) fun c59 hc59 => ?_
                refine PW.addN q_78_124 (by omega) (by omega) fun x60 hx60 => ?_
                refine PW.pI q_78_125 (Or.inl t_ft_78_33) gF_1_3 gP_1_3 kd_1 hV IM58 (by decide) rfl (by omega) (by omega) fun M61 IM61 fM61 UM61 => ?_
                have FM61 := Fr.pu FM58 UM61.1 kd_1 (rfl : List.contains [1] 1 = true)
                refine PW.goto q_78_128 rfl ?_
                have em61 := o_i_of fM61
                refine PW.lvS (lk1 rfl (lk1 rfl (lk1 rfl lk0))) (ih_L78_14_7 _ ?_ M61 x46 v9 IM61 FM61 (by omega) (by omega) (by omega) (by omega) (hbL78_14_74.l (c := x49.toInt) (by omega) (by omega) (by omega) (by rw [show (o_i (ML78_14_7 1) 3).toNat = x10.toInt.toNat from by omega]; omega) (by have w := (o_i_of fM61); omega) (fun a b => by have w1 := o_J_of fl47; rw [w1] at a b ⊢; rw [o_J_of ((UM61.f (Or.inr (by decide))).trans fM58), n_lm32 (w := x55) (by rw [el50]; decide) el51 (by rw [el57, el56]) a b (by omega) (by omega)]; omega) (((k_run.tx hbL78_14_74).U UM58 (by decide) (by decide) (by decide)).U UM61 (by decide) (by decide) (by decide)) ((UM61.i (c := 1) (k := 4) (Or.inr (by decide))).trans (UM58.i (c := 1) (k := 4) (Or.inr (by decide)))) (by omega)) rfl)
                omega
              · skip
                exact absurd PaM48 (by omega)
            · skip
              exfalso; omega
          · skip
            exact absurd PaM41 (by omega)
        · skip
          refine PW.jz_ne q_78_36 rfl (fun h63 => False.elim (by omega)) (fun h63 => ?_)
          refine PW.aload_n q_78_39 rfl ?_
          refine PW.aload_n q_78_40 rfl ?_
          refine PW.gE q_78_41 (Or.inl t_ft_78_33) gF_1_3 kd_1 IML78_14_7.1 (by decide) fx10 ?_
          refine PW.cV (as := [_]) (rest := []) q_78_44 t_mv_78_51 kd_1 IML78_14_7.1 (by decide) rfl (by decide) rfl rfl (Nat.le_of_ble_eq_true rfl) (Nat.le_of_ble_eq_true rfl) (by decide) (by decide) ?_
          refine PW.up (by decide) (c_X7_at_vk (V) (hV) G _ ML78_14_7 IML78_14_7 x10 _ (k_run.tx hbL78_14_74) fun x65  hx65 kx65 PM64 => ?_)
          rcases PM64 with ⟨PaM64, PbM64, PcM64⟩ | ⟨PaM64, PbM64⟩
          · skip
            refine PW.callS (as := [_]) (rest := []) q_78_47 t_ms_78_65 (by decide) rfl (Nat.le_of_ble_eq_true rfl) (Nat.le_of_ble_eq_true rfl) (by decide) (by decide) ?_
            refine PW.up (by decide) (c_X7_isDigit_vk (V) (hV) G _ ML78_14_7 IML78_14_7 x65 fun x67  hx67 kx67 PM66 => ?_)
            rcases PM66 with ⟨PaM66, PbM66, PcM66⟩ | ⟨PaM66, PbM66⟩
            · skip
              refine PW.jz_eq q_78_50 rfl (fun h68 => False.elim (by omega)) (fun h68 => ?_)
              refine PW.aload_n q_78_53 rfl ?_
              refine PW.aload_n q_78_54 rfl ?_
              refine PW.gE q_78_55 (Or.inl t_ft_78_33) gF_1_3 kd_1 IML78_14_7.1 (by decide) fx10 ?_
              refine PW.cV (as := [_]) (rest := []) q_78_58 t_mv_78_51 kd_1 IML78_14_7.1 (by decide) rfl (by decide) rfl rfl (Nat.le_of_ble_eq_true rfl) (Nat.le_of_ble_eq_true rfl) (by decide) (by decide) ?_
              refine PW.up (by decide) (c_X7_at_vk (V) (hV) G _ ML78_14_7 IML78_14_7 x10 _ (k_run.tx hbL78_14_74) fun x70  hx70 kx70 PM69 => ?_)
              rcases PM69 with ⟨PaM69, PbM69, PcM69⟩ | ⟨PaM69, PbM69⟩
              · skip
                refine PW.callS (as := [_]) (rest := []) q_78_61 t_ms_78_61 (by decide) rfl (Nat.le_of_ble_eq_true rfl) (Nat.le_of_ble_eq_true rfl) (by decide) (by decide) ?_
                refine PW.up (by decide) (c_X7_isLetter_vk (V) (hV) G _ ML78_14_7 IML78_14_7 x70 fun x72  hx72 kx72 PM71 => ?_)
                rcases PM71 with ⟨PaM71, PbM71, PcM71⟩ | ⟨PaM71, PbM71⟩
                · skip
                  exfalso; omega
                · skip
                  refine PW.jz_eq q_78_64 rfl (fun h73 => ?_) (fun h73 => False.elim (by omega))
                  refine PW.incN q_78_92 rfl (by decide) (by decide) (by omega) (by omega) fun x74 hx74 => ?_
                  refine PW.aload_n q_78_95 rfl ?_
                  refine PW.aload_n q_78_96 rfl ?_
                  refine PW.gI q_78_97 (Or.inl t_ft_78_81) gF_1_8 kd_1 IML78_14_7.1 (by decide) fun x75 fx75 hx75 kx75 => ?_
                  have ix75 := o_i_of fx75
                  clear hx75 kx75
                  refine PW.cB q_78_100 (by decide) fun c76 hc76 => ?_
                  refine PW.mulX q_78_102 (10) x75 (by decide) (by decide) (Or.inr ⟨by omega, rfl⟩) fun x77 hx77 => ?_
                  refine PW.aload_n q_78_103 rfl ?_
                  refine PW.aload_n q_78_104 rfl ?_
                  refine PW.gE q_78_105 (Or.inl t_ft_78_33) gF_1_3 kd_1 IML78_14_7.1 (by decide) fx10 ?_
                  refine PW.cV (as := [_]) (rest := [_, _]) q_78_108 t_mv_78_51 kd_1 IML78_14_7.1 (by decide) rfl (by decide) rfl rfl (Nat.le_of_ble_eq_true rfl) (Nat.le_of_ble_eq_true rfl) (by decide) (by decide) ?_
                  refine PW.up (by decide) (c_X7_at_vk (V) (hV) G _ ML78_14_7 IML78_14_7 x10 _ (k_run.tx hbL78_14_74) fun x79  hx79 kx79 PM78 => ?_)
                  rcases PM78 with ⟨PaM78, PbM78, PcM78⟩ | ⟨PaM78, PbM78⟩
                  · skip
                    refine PW.addX q_78_111 fun x80 hx80 => ?_
                    refine PW.cB q_78_112 (by decide) fun c81 hc81 => ?_
                    refine PW.subX q_78_114 fun x82 hx82 => ?_
                    refine PW.pI q_78_115 (Or.inl t_ft_78_81) gF_1_8 gP_1_8 kd_1 hV IML78_14_7 (by decide) rfl (n_lo _) (n_hi _) fun M83 IM83 fM83 UM83 => ?_
                    have FM83 := Fr.pu FML78_14_7 UM83.1 kd_1 (rfl : List.contains [1] 1 = true)
                    refine PW.aload_n q_78_118 rfl ?_
                    refine PW.dup q_78_119 rfl ?_
                    refine PW.gE q_78_120 (Or.inl t_ft_78_33) gF_1_3 kd_1 IM83.1 (by decide) ((UM83.f (Or.inr (by decide))).trans fx10) ?_
                    refine PW.cI q_78_123 (by decide) fun c84 hc84 => ?_
                    refine PW.addN q_78_124 (by omega) (by omega) fun x85 hx85 => ?_
                    refine PW.pI q_78_125 (Or.inl t_ft_78_33) gF_1_3 gP_1_3 kd_1 hV IM83 (by decide) rfl (by omega) (by omega) fun M86 IM86 fM86 UM86 => ?_
                    have FM86 := Fr.pu FM83 UM86.1 kd_1 (rfl : List.contains [1] 1 = true)
                    refine PW.goto q_78_128 rfl ?_
                    have em86 := o_i_of fM86
                    refine PW.lvS (lk1 rfl (lk1 rfl (lk1 rfl lk0))) (ih_L78_14_7 _ ?_ M86 v8 x74 IM86 FM86 (by omega) (by omega) (by omega) (by omega) (hbL78_14_74.d (c := x79.toInt) (by omega) (by omega) (by omega) (by rw [show (o_i (ML78_14_7 1) 3).toNat = x10.toInt.toNat from by omega]; omega) (by have w := (o_i_of fM86); omega) (fun a b => by have w := (o_i_of ((UM86.f (Or.inr (by decide))).trans fM83)); omega) (((k_run.tx hbL78_14_74).U UM83 (by decide) (by decide) (by decide)).U UM86 (by decide) (by decide) (by decide)) ((UM86.i (c := 1) (k := 4) (Or.inr (by decide))).trans (UM83.i (c := 1) (k := 4) (Or.inr (by decide)))) (by omega)) rfl)
                    omega
                  · skip
                    exact absurd PaM78 (by omega)
              · skip
                exact absurd PaM69 (by omega)
            · skip
              refine PW.jz_eq q_78_50 rfl (fun h88 => ?_) (fun h88 => False.elim (by omega))
              refine PW.iload_n q_78_131 rfl ?_
              refine PW.jz_ne q_78_132 rfl (fun h89 => ?_) (fun h89 => ?_)
              · skip
                refine PW.aload_n q_78_160 rfl ?_
                refine PW.iload_n q_78_161 rfl ?_
                refine PW.jz_ne q_78_162 rfl (fun h90 => ?_) (fun h90 => ?_)
                · skip
                  refine PW.cI q_78_174 (by decide) fun c91 hc91 => ?_
                  refine PW.pI q_78_175 (Or.inl t_ft_78_58) gF_1_5 gP_1_5 kd_1 hV IML78_14_7 (by decide) rfl (n_lo _) (n_hi _) fun M92 IM92 fM92 UM92 => ?_
                  have FM92 := Fr.pu FML78_14_7 UM92.1 kd_1 (rfl : List.contains [1] 1 = true)
                  refine PW.vret q_78_178 rfl (by decide) (by decide) ?_
                  exact hK M92 IM92 FM92 ⟨((k_run.tx hbL78_14_74).U UM92 (by decide) (by decide) (by decide)), hbL78_14_74.b (by rw [show (o_i (ML78_14_7 1) 3).toNat = x10.toInt.toNat from by omega]; omega) (by omega) (by omega) (UM92.i (c := 1) (k := 4) (Or.inr (by decide))) (by have w := (o_i_of fM92); omega)⟩
                · skip
                  refine PW.iload_n q_78_165 rfl ?_
                  refine PW.cI q_78_166 (by decide) fun c93 hc93 => ?_
                  refine PW.jc_gt q_78_167 rfl (fun h94 => ?_) (fun h94 => ?_)
                  · skip
                    refine PW.cI q_78_174 (by decide) fun c95 hc95 => ?_
                    refine PW.pI q_78_175 (Or.inl t_ft_78_58) gF_1_5 gP_1_5 kd_1 hV IML78_14_7 (by decide) rfl (n_lo _) (n_hi _) fun M96 IM96 fM96 UM96 => ?_
                    have FM96 := Fr.pu FML78_14_7 UM96.1 kd_1 (rfl : List.contains [1] 1 = true)
                    refine PW.vret q_78_178 rfl (by decide) (by decide) ?_
                    exact hK M96 IM96 FM96 ⟨((k_run.tx hbL78_14_74).U UM96 (by decide) (by decide) (by decide)), hbL78_14_74.b (by rw [show (o_i (ML78_14_7 1) 3).toNat = x10.toInt.toNat from by omega]; omega) (by omega) (by omega) (UM96.i (c := 1) (k := 4) (Or.inr (by decide))) (by have w := (o_i_of fM96); omega)⟩
                  · skip
                    refine PW.cI q_78_170 (by decide) fun c97 hc97 => ?_
                    refine PW.goto q_78_171 rfl ?_
                    refine PW.pI q_78_175 (Or.inl t_ft_78_58) gF_1_5 gP_1_5 kd_1 hV IML78_14_7 (by decide) rfl (n_lo _) (n_hi _) fun M98 IM98 fM98 UM98 => ?_
                    have FM98 := Fr.pu FML78_14_7 UM98.1 kd_1 (rfl : List.contains [1] 1 = true)
                    refine PW.vret q_78_178 rfl (by decide) (by decide) ?_
                    exact hK M98 IM98 FM98 ⟨((k_run.tx hbL78_14_74).U UM98 (by decide) (by decide) (by decide)), hbL78_14_74.n (by rw [show (o_i (ML78_14_7 1) 3).toNat = x10.toInt.toNat from by omega]; omega) (by omega) (by omega) (by omega) (UM98.i (c := 1) (k := 3) (Or.inr (by decide))) (UM98.i (c := 1) (k := 4) (Or.inr (by decide))) (UM98.i (c := 1) (k := 8) (Or.inr (by decide))) (by have w := (o_i_of fM98); omega)⟩
              · skip
                refine PW.iload_n q_78_135 rfl ?_
                refine PW.cB q_78_136 (by decide) fun c99 hc99 => ?_
                refine PW.jc_gt q_78_138 rfl (fun h100 => ?_) (fun h100 => ?_)
                · skip
                  refine PW.aload_n q_78_160 rfl ?_
                  refine PW.iload_n q_78_161 rfl ?_
                  refine PW.jz_ne q_78_162 rfl (fun h101 => ?_) (fun h101 => False.elim (by omega))
                  refine PW.cI q_78_174 (by decide) fun c102 hc102 => ?_
                  refine PW.pI q_78_175 (Or.inl t_ft_78_58) gF_1_5 gP_1_5 kd_1 hV IML78_14_7 (by decide) rfl (n_lo _) (n_hi _) fun M103 IM103 fM103 UM103 => ?_
                  have FM103 := Fr.pu FML78_14_7 UM103.1 kd_1 (rfl : List.contains [1] 1 = true)
                  refine PW.vret q_78_178 rfl (by decide) (by decide) ?_
                  exact hK M103 IM103 FM103 ⟨((k_run.tx hbL78_14_74).U UM103 (by decide) (by decide) (by decide)), hbL78_14_74.b (by rw [show (o_i (ML78_14_7 1) 3).toNat = x10.toInt.toNat from by omega]; omega) (by omega) (by omega) (UM103.i (c := 1) (k := 4) (Or.inr (by decide))) (by have w := (o_i_of fM103); omega)⟩
                · skip
                  refine PW.aload_n q_78_141 rfl ?_
                  refine PW.aload_n q_78_142 rfl ?_
                  refine PW.cV (as := []) (rest := [_]) q_78_143 t_mv_78_88 kd_1 IML78_14_7.1 (by decide) rfl (by decide) rfl rfl (Nat.le_of_ble_eq_true rfl) (Nat.le_of_ble_eq_true rfl) (by decide) (by decide) ?_
                  refine PW.up (by decide) (c_X7_isKnownWord_vk (V) (hV) G _ ML78_14_7 IML78_14_7 _ rfl fun x105 M104 IM104 GM104 hx105 kx105 PM104 => ?_)
                  have FM104 := Fr.trans FML78_14_7 GM104 (rfl)
                  rcases PM104 with ⟨PaM104, ⟨PrM104, PhM104, PwM104, PvM104⟩, PuM104⟩ | ⟨PaM104, PnM104, PuM104⟩
                  · skip
                    refine PW.jz_eq q_78_146 rfl (fun h106 => False.elim (by omega)) (fun h106 => ?_)
                    refine PW.cI q_78_149 (by decide) fun c107 hc107 => ?_
                    refine PW.goto q_78_150 rfl ?_
                    refine PW.pI q_78_154 (Or.inl t_ft_78_58) gF_1_5 gP_1_5 kd_1 hV IM104 (by decide) rfl (n_lo _) (n_hi _) fun M108 IM108 fM108 UM108 => ?_
                    have FM108 := Fr.pu FM104 UM108.1 kd_1 (rfl : List.contains [1] 1 = true)
                    refine PW.goto q_78_157 rfl ?_
                    refine PW.vret q_78_178 rfl (by decide) (by decide) ?_
                    exact hK M108 IM108 FM108 ⟨(((k_run.tx hbL78_14_74).U PuM104 (by decide) (by decide) (by decide)).U UM108 (by decide) (by decide) (by decide)), hbL78_14_74.w (by rw [show (o_i (ML78_14_7 1) 3).toNat = x10.toInt.toNat from by omega]; omega) (by omega) (by omega) ((UM108.i (c := 1) (k := 3) (Or.inr (by decide))).trans (PuM104.i (c := 1) (k := 3) (Or.inr (by decide)))) ((UM108.i (c := 1) (k := 4) (Or.inr (by decide))).trans (PuM104.i (c := 1) (k := 4) (Or.inr (by decide)))) ((UM108.J (c := 1) (k := 7) (Or.inr (by decide))).trans (PuM104.J (c := 1) (k := 7) (Or.inr (by decide)))) (Or.inl ⟨(by have w := (o_i_of fM108); omega), PrM104, PhM104, (UM108.f (c := 1) (k := 6) (Or.inr (by decide))).trans PwM104, PvM104⟩)⟩
                  · skip
                    refine PW.jz_eq q_78_146 rfl (fun h109 => ?_) (fun h109 => False.elim (by omega))
                    refine PW.cI q_78_153 (by decide) fun c110 hc110 => ?_
                    refine PW.pI q_78_154 (Or.inl t_ft_78_58) gF_1_5 gP_1_5 kd_1 hV IM104 (by decide) rfl (n_lo _) (n_hi _) fun M111 IM111 fM111 UM111 => ?_
                    have FM111 := Fr.pu FM104 UM111.1 kd_1 (rfl : List.contains [1] 1 = true)
                    refine PW.goto q_78_157 rfl ?_
                    refine PW.vret q_78_178 rfl (by decide) (by decide) ?_
                    exact hK M111 IM111 FM111 ⟨(((k_run.tx hbL78_14_74).U PuM104 (by decide) (by decide) (by decide)).U UM111 (by decide) (by decide) (by decide)), hbL78_14_74.w (by rw [show (o_i (ML78_14_7 1) 3).toNat = x10.toInt.toNat from by omega]; omega) (by omega) (by omega) ((UM111.i (c := 1) (k := 3) (Or.inr (by decide))).trans (PuM104.i (c := 1) (k := 3) (Or.inr (by decide)))) ((UM111.i (c := 1) (k := 4) (Or.inr (by decide))).trans (PuM104.i (c := 1) (k := 4) (Or.inr (by decide)))) ((UM111.J (c := 1) (k := 7) (Or.inr (by decide))).trans (PuM104.J (c := 1) (k := 7) (Or.inr (by decide)))) (Or.inr ⟨(by have w := (o_i_of fM111); omega), PnM104⟩)⟩
          · skip
            exact absurd PaM64 (by omega)
      · skip
        exact absurd PaM36 (by omega)
  exact PW.lvS (lk1 rfl (lk1 rfl (lk1 rfl lk0))) (L78_14_7 _ M6 c1 c2 IM6 FM6 (by omega) (by omega) (by omega) (by omega) (k_run.init (((UM6.i (c := 1) (k := 3) (Or.inr (by decide))).trans (UM4.i (c := 1) (k := 3) (Or.inr (by decide)))).trans hp_1) (by omega) (by omega) (by omega) (by rw [o_J_of ((UM6.f (Or.inr (by decide))).trans fM4), el3]; decide) (by have w := (o_i_of fM6); omega) ((hp_0.U UM4 (by decide) (by decide) (by decide)).U UM6 (by decide) (by decide) (by decide)) (((UM6.i (c := 1) (k := 4) (Or.inr (by decide))).trans (UM4.i (c := 1) (k := 4) (Or.inr (by decide)))).trans hp_2)) rfl)
theorem c_X7_advance_vk (V : pM → Prop) (hV : Stab V) (G : pG) (Kr : pK) (M : pM) (I : Iv V M) (y : k_X) (i : Nat) (hp_0 : k_nx y M i) (hK : ∀ (M1 : pM), Iv V M1 → Fr [1] M M1 → (k_at y M1 i) → Kr.1 none 311 M1) : PW G false 2 77 (p_mc 77) (p_msl 77) Kr 0 (lv_args 0 [.ref 1]) [] 311 M 0 0 := by
  have F : Fr [1] M M := Fr.refl
  obtain ⟨t1, t2, t3, -⟩ := id hp_0.1
  refine PW.aload_n q_77_0 rfl ?_
  refine PW.gI q_77_1 (Or.inl t_ft_77_26) gF_1_1 kd_1 I.1 (by decide) fun x1 fx1 hx1 kx1 => ?_
  have ix1 := o_i_of fx1
  refine PW.aload_n q_77_4 rfl ?_
  refine PW.gI q_77_5 (Or.inl t_ft_77_30) gF_1_2 kd_1 I.1 (by decide) fun x2 fx2 hx2 kx2 => ?_
  have ix2 := o_i_of fx2
  clear hx2 kx2
  refine PW.minN q_77_8 t_mj_77_45 (by decide) (Nat.le_of_ble_eq_true rfl) (by decide) (by decide) fun x3 hx3 kx3 lx3 => ?_
  refine PW.istore_n q_77_11 (by decide) ?_
  have L77_12_4 : ∀ (n : Nat) (ML77_12_4 : pM), Iv (V) ML77_12_4 → Fr [1] M ML77_12_4 → k_tx y ML77_12_4 → k_sk y (o_i (ML77_12_4 1) 3).toNat = k_sk y (k_ps y i) → (940 - o_i (ML77_12_4 1) 3).toNat = n → PW G false 2 77 (p_mc 77) (p_msl 77) Kr 12 [(0, .ref 1), (1, .int x3)] [] 311 ML77_12_4 0 0 := by
    intro n
    induction n using Nat.strongRecOn with
    | ind n ih_L77_12_4 =>
    intro ML77_12_4  IML77_12_4 FML77_12_4 hbL77_12_40 hbL77_12_41 hmL77_12_4
    obtain ⟨x5, fx5, hx5, kx5⟩ := gF_1_3.int kd_1 IML77_12_4.1 (by decide)
    have ex5 := o_i_of fx5
    refine PW.aload_n q_77_12 rfl ?_
    obtain ⟨u1, u2, u3, -⟩ := id hbL77_12_40
    refine PW.gE q_77_13 (Or.inl t_ft_77_33) gF_1_3 kd_1 IML77_12_4.1 (by decide) fx5 ?_
    refine PW.iload_n q_77_16 rfl ?_
    refine PW.jc_ge q_77_17 rfl (fun h6 => ?_) (fun h6 => ?_)
    · skip
      refine PW.aload_n q_77_59 rfl ?_
      refine PW.gE q_77_60 (Or.inl t_ft_77_33) gF_1_3 kd_1 IML77_12_4.1 (by decide) fx5 ?_
      refine PW.iload_n q_77_63 rfl ?_
      refine PW.jc_lt q_77_64 rfl (fun h7 => False.elim (by omega)) (fun h7 => ?_)
      have el := k_sk_le y (o_i (ML77_12_4 1) 3).toNat
      rw [hbL77_12_41] at el
      refine PW.aload_n q_77_67 rfl ?_
      refine PW.iload_n q_77_68 rfl ?_
      refine PW.pI q_77_69 (Or.inl t_ft_77_55) gF_1_4 gP_1_4 kd_1 hV IML77_12_4 (by decide) rfl (n_lo _) (n_hi _) fun M8 IM8 fM8 UM8 => ?_
      have FM8 := Fr.pu FML77_12_4 UM8.1 kd_1 (rfl : List.contains [1] 1 = true)
      refine PW.aload_n q_77_72 rfl ?_
      refine PW.cI q_77_73 (by decide) fun c9 hc9 => ?_
      refine PW.pI q_77_74 (Or.inl t_ft_77_58) gF_1_5 gP_1_5 kd_1 hV IM8 (by decide) rfl (n_lo _) (n_hi _) fun M10 IM10 fM10 UM10 => ?_
      have FM10 := Fr.pu FM8 UM10.1 kd_1 (rfl : List.contains [1] 1 = true)
      refine PW.vret q_77_77 rfl (by decide) (by decide) ?_
      exact hK M10 IM10 FM10 ⟨((hbL77_12_40.U UM8 (by decide) (by decide) (by decide)).U UM10 (by decide) (by decide) (by decide)), k_tt_e (by have w := (o_i_of ((UM10.f (Or.inr (by decide))).trans fM8)); omega) (by have w := (o_i_of fM10); omega)⟩
    · skip
      refine PW.aload_n q_77_20 rfl ?_
      refine PW.aload_n q_77_21 rfl ?_
      refine PW.gE q_77_22 (Or.inl t_ft_77_33) gF_1_3 kd_1 IML77_12_4.1 (by decide) fx5 ?_
      refine PW.cV (as := [_]) (rest := []) q_77_25 t_mv_77_51 kd_1 IML77_12_4.1 (by decide) rfl (by decide) rfl rfl (Nat.le_of_ble_eq_true rfl) (Nat.le_of_ble_eq_true rfl) (by decide) (by decide) ?_
      refine PW.up (by decide) (c_X7_at_vk (V) (hV) G _ ML77_12_4 IML77_12_4 x5 _ hbL77_12_40 fun x12  hx12 kx12 PM11 => ?_)
      rcases PM11 with ⟨PaM11, PbM11, PcM11⟩ | ⟨PaM11, PbM11⟩
      · skip
        refine PW.cB q_77_28 (by decide) fun c13 hc13 => ?_
        refine PW.jc_eq q_77_30 rfl (fun h14 => ?_) (fun h14 => ?_)
        · skip
          refine PW.aload_n q_77_46 rfl ?_
          refine PW.dup q_77_47 rfl ?_
          refine PW.gE q_77_48 (Or.inl t_ft_77_33) gF_1_3 kd_1 IML77_12_4.1 (by decide) fx5 ?_
          refine PW.cI q_77_51 (by decide) fun c15 hc15 => ?_
          refine PW.addN q_77_52 (by omega) (by omega) fun x16 hx16 => ?_
          refine PW.pI q_77_53 (Or.inl t_ft_77_33) gF_1_3 gP_1_3 kd_1 hV IML77_12_4 (by decide) rfl (by omega) (by omega) fun M17 IM17 fM17 UM17 => ?_
          have FM17 := Fr.pu FML77_12_4 UM17.1 kd_1 (rfl : List.contains [1] 1 = true)
          refine PW.goto q_77_56 rfl ?_
          have em17 := o_i_of fM17
          refine PW.lvS (lk1 rfl (lk1 rfl lk0)) (ih_L77_12_4 _ ?_ M17  IM17 FM17 (hbL77_12_40.U UM17 (by decide) (by decide) (by decide)) (by have w := (o_i_of fM17); rw [show (o_i (M17 1) 3).toNat = (o_i (ML77_12_4 1) 3).toNat + 1 from by omega, ← k_sk_on (by omega) (by rw [show (o_i (ML77_12_4 1) 3).toNat = x5.toInt.toNat from by omega]; omega)]; exact hbL77_12_41) rfl)
          omega
        · skip
          refine PW.aload_n q_77_33 rfl ?_
          refine PW.aload_n q_77_34 rfl ?_
          refine PW.gE q_77_35 (Or.inl t_ft_77_33) gF_1_3 kd_1 IML77_12_4.1 (by decide) fx5 ?_
          refine PW.cV (as := [_]) (rest := []) q_77_38 t_mv_77_51 kd_1 IML77_12_4.1 (by decide) rfl (by decide) rfl rfl (Nat.le_of_ble_eq_true rfl) (Nat.le_of_ble_eq_true rfl) (by decide) (by decide) ?_
          refine PW.up (by decide) (c_X7_at_vk (V) (hV) G _ ML77_12_4 IML77_12_4 x5 _ hbL77_12_40 fun x20  hx20 kx20 PM19 => ?_)
          rcases PM19 with ⟨PaM19, PbM19, PcM19⟩ | ⟨PaM19, PbM19⟩
          · skip
            refine PW.cB q_77_41 (by decide) fun c21 hc21 => ?_
            refine PW.jc_ne q_77_43 rfl (fun h22 => ?_) (fun h22 => ?_)
            · skip
              refine PW.aload_n q_77_59 rfl ?_
              refine PW.gE q_77_60 (Or.inl t_ft_77_33) gF_1_3 kd_1 IML77_12_4.1 (by decide) fx5 ?_
              refine PW.iload_n q_77_63 rfl ?_
              refine PW.jc_lt q_77_64 rfl (fun h23 => ?_) (fun h23 => False.elim (by omega))
              have eq : k_sk y (k_ps y i) = x5.toInt.toNat := by rw [← hbL77_12_41, show (o_i (ML77_12_4 1) 3).toNat = x5.toInt.toNat from by omega]; exact k_sk_at (by omega)
              refine PW.aload_n q_77_78 rfl ?_
              refine PW.aload_n q_77_79 rfl ?_
              refine PW.gE q_77_80 (Or.inl t_ft_77_33) gF_1_3 kd_1 IML77_12_4.1 (by decide) fx5 ?_
              refine PW.pI q_77_83 (Or.inl t_ft_77_55) gF_1_4 gP_1_4 kd_1 hV IML77_12_4 (by decide) rfl (n_lo _) (n_hi _) fun M24 IM24 fM24 UM24 => ?_
              have FM24 := Fr.pu FML77_12_4 UM24.1 kd_1 (rfl : List.contains [1] 1 = true)
              refine PW.aload_n q_77_86 rfl ?_
              refine PW.aload_n q_77_87 rfl ?_
              refine PW.gE q_77_88 (Or.inl t_ft_77_33) gF_1_3 kd_1 IM24.1 (by decide) ((UM24.f (Or.inr (by decide))).trans fx5) ?_
              refine PW.cV (as := [_]) (rest := []) q_77_91 t_mv_77_51 kd_1 IM24.1 (by decide) rfl (by decide) rfl rfl (Nat.le_of_ble_eq_true rfl) (Nat.le_of_ble_eq_true rfl) (by decide) (by decide) ?_
              refine PW.up (by decide) (c_X7_at_vk (V) (hV) G _ M24 IM24 x5 _ (hbL77_12_40.U UM24 (by decide) (by decide) (by decide)) fun x26  hx26 kx26 PM25 => ?_)
              rcases PM25 with ⟨PaM25, PbM25, PcM25⟩ | ⟨PaM25, PbM25⟩
              · skip
                refine PW.callS (as := [_]) (rest := []) q_77_94 t_ms_77_61 (by decide) rfl (Nat.le_of_ble_eq_true rfl) (Nat.le_of_ble_eq_true rfl) (by decide) (by decide) ?_
                refine PW.up (by decide) (c_X7_isLetter_vk (V) (hV) G _ M24 IM24 x26 fun x28  hx28 kx28 PM27 => ?_)
                rcases PM27 with ⟨PaM27, PbM27, PcM27⟩ | ⟨PaM27, PbM27⟩
                · skip
                  refine PW.jz_ne q_77_97 rfl (fun h29 => ?_) (fun h29 => False.elim (by omega))
                  refine PW.aload_n q_77_114 rfl ?_
                  refine PW.cV (as := []) (rest := []) q_77_115 t_mv_77_68 kd_1 IM24.1 (by decide) rfl (by decide) rfl rfl (Nat.le_of_ble_eq_true rfl) (Nat.le_of_ble_eq_true rfl) (by decide) (by decide) ?_
                  refine PW.up (by decide) (c_X7_readRun_vk (V) (hV) G _ M24 IM24 _ (k_sk y (k_ps y i)) (hbL77_12_40.U UM24 (by decide) (by decide) (by decide)) (by have w := (o_i_of ((UM24.f (Or.inr (by decide))).trans fx5)); omega) (by have w := (o_i_of fM24); omega) (by omega) fun M30 IM30 GM30 PM30 => ?_)
                  have FM30 := Fr.trans FM24 GM30 (rfl)
                  refine PW.goto q_77_118 rfl ?_
                  refine PW.vret q_77_162 rfl (by decide) (by decide) ?_
                  exact hK M30 IM30 FM30 ⟨PM30.1, by rw [k_tk_r (by omega) (by omega) (by rw [eq]; omega)]; exact PM30.2⟩
                · skip
                  refine PW.jz_ne q_77_97 rfl (fun h31 => False.elim (by omega)) (fun h31 => ?_)
                  refine PW.aload_n q_77_100 rfl ?_
                  refine PW.aload_n q_77_101 rfl ?_
                  refine PW.gE q_77_102 (Or.inl t_ft_77_33) gF_1_3 kd_1 IM24.1 (by decide) ((UM24.f (Or.inr (by decide))).trans fx5) ?_
                  refine PW.cV (as := [_]) (rest := []) q_77_105 t_mv_77_51 kd_1 IM24.1 (by decide) rfl (by decide) rfl rfl (Nat.le_of_ble_eq_true rfl) (Nat.le_of_ble_eq_true rfl) (by decide) (by decide) ?_
                  refine PW.up (by decide) (c_X7_at_vk (V) (hV) G _ M24 IM24 x5 _ (hbL77_12_40.U UM24 (by decide) (by decide) (by decide)) fun x33  hx33 kx33 PM32 => ?_)
                  rcases PM32 with ⟨PaM32, PbM32, PcM32⟩ | ⟨PaM32, PbM32⟩
                  · skip
                    refine PW.callS (as := [_]) (rest := []) q_77_108 t_ms_77_65 (by decide) rfl (Nat.le_of_ble_eq_true rfl) (Nat.le_of_ble_eq_true rfl) (by decide) (by decide) ?_
                    refine PW.up (by decide) (c_X7_isDigit_vk (V) (hV) G _ M24 IM24 x33 fun x35  hx35 kx35 PM34 => ?_)
                    rcases PM34 with ⟨PaM34, PbM34, PcM34⟩ | ⟨PaM34, PbM34⟩
                    · skip
                      refine PW.jz_eq q_77_111 rfl (fun h36 => False.elim (by omega)) (fun h36 => ?_)
                      refine PW.aload_n q_77_114 rfl ?_
                      refine PW.cV (as := []) (rest := []) q_77_115 t_mv_77_68 kd_1 IM24.1 (by decide) rfl (by decide) rfl rfl (Nat.le_of_ble_eq_true rfl) (Nat.le_of_ble_eq_true rfl) (by decide) (by decide) ?_
                      refine PW.up (by decide) (c_X7_readRun_vk (V) (hV) G _ M24 IM24 _ (k_sk y (k_ps y i)) (hbL77_12_40.U UM24 (by decide) (by decide) (by decide)) (by have w := (o_i_of ((UM24.f (Or.inr (by decide))).trans fx5)); omega) (by have w := (o_i_of fM24); omega) (by omega) fun M37 IM37 GM37 PM37 => ?_)
                      have FM37 := Fr.trans FM24 GM37 (rfl)
                      refine PW.goto q_77_118 rfl ?_
                      refine PW.vret q_77_162 rfl (by decide) (by decide) ?_
                      exact hK M37 IM37 FM37 ⟨PM37.1, by rw [k_tk_r (by omega) (by omega) (by rw [eq]; omega)]; exact PM37.2⟩
                    · skip
                      refine PW.jz_eq q_77_111 rfl (fun h38 => ?_) (fun h38 => False.elim (by omega))
                      refine PW.aload_n q_77_121 rfl ?_
                      refine PW.aload_n q_77_122 rfl ?_
                      refine PW.aload_n q_77_123 rfl ?_
                      refine PW.gE q_77_124 (Or.inl t_ft_77_33) gF_1_3 kd_1 IM24.1 (by decide) ((UM24.f (Or.inr (by decide))).trans fx5) ?_
                      refine PW.cV (as := [_]) (rest := [_]) q_77_127 t_mv_77_51 kd_1 IM24.1 (by decide) rfl (by decide) rfl rfl (Nat.le_of_ble_eq_true rfl) (Nat.le_of_ble_eq_true rfl) (by decide) (by decide) ?_
                      refine PW.up (by decide) (c_X7_at_vk (V) (hV) G _ M24 IM24 x5 _ (hbL77_12_40.U UM24 (by decide) (by decide) (by decide)) fun x40  hx40 kx40 PM39 => ?_)
                      rcases PM39 with ⟨PaM39, PbM39, PcM39⟩ | ⟨PaM39, PbM39⟩
                      · skip
                        refine PW.pI q_77_130 (Or.inl t_ft_77_71) gF_1_9 gP_1_9 kd_1 hV IM24 (by decide) rfl (n_lo _) (n_hi _) fun M41 IM41 fM41 UM41 => ?_
                        have FM41 := Fr.pu FM24 UM41.1 kd_1 (rfl : List.contains [1] 1 = true)
                        refine PW.aload_n q_77_133 rfl ?_
                        refine PW.aload_n q_77_134 rfl ?_
                        refine PW.gE q_77_135 (Or.inl t_ft_77_71) gF_1_9 kd_1 IM41.1 (by decide) fM41 ?_
                        refine PW.callS (as := [_]) (rest := [_]) q_77_138 t_ms_77_74 (by decide) rfl (Nat.le_of_ble_eq_true rfl) (Nat.le_of_ble_eq_true rfl) (by decide) (by decide) ?_
                        refine PW.up (by decide) (c_X7_isSign_vk (V) (hV) G _ M41 IM41 x40 fun x43  hx43 kx43 PM42 => ?_)
                        rcases PM42 with ⟨PaM42, PbM42⟩ | ⟨PaM42, PbM42⟩
                        · skip
                          refine PW.jz_eq q_77_141 rfl (fun h44 => False.elim (by omega)) (fun h44 => ?_)
                          refine PW.cI q_77_144 (by decide) fun c45 hc45 => ?_
                          refine PW.goto q_77_145 rfl ?_
                          refine PW.pI q_77_149 (Or.inl t_ft_77_58) gF_1_5 gP_1_5 kd_1 hV IM41 (by decide) rfl (n_lo _) (n_hi _) fun M46 IM46 fM46 UM46 => ?_
                          have FM46 := Fr.pu FM41 UM46.1 kd_1 (rfl : List.contains [1] 1 = true)
                          refine PW.aload_n q_77_152 rfl ?_
                          refine PW.dup q_77_153 rfl ?_
                          refine PW.gE q_77_154 (Or.inl t_ft_77_33) gF_1_3 kd_1 IM46.1 (by decide) ((UM46.f (Or.inr (by decide))).trans ((UM41.f (Or.inr (by decide))).trans ((UM24.f (Or.inr (by decide))).trans fx5))) ?_
                          refine PW.cI q_77_157 (by decide) fun c47 hc47 => ?_
                          refine PW.addN q_77_158 (by omega) (by omega) fun x48 hx48 => ?_
                          refine PW.pI q_77_159 (Or.inl t_ft_77_33) gF_1_3 gP_1_3 kd_1 hV IM46 (by decide) rfl (by omega) (by omega) fun M49 IM49 fM49 UM49 => ?_
                          have FM49 := Fr.pu FM46 UM49.1 kd_1 (rfl : List.contains [1] 1 = true)
                          refine PW.vret q_77_162 rfl (by decide) (by decide) ?_
                          exact hK M49 IM49 FM49 ⟨((((hbL77_12_40.U UM24 (by decide) (by decide) (by decide)).U UM41 (by decide) (by decide) (by decide)).U UM46 (by decide) (by decide) (by decide)).U UM49 (by decide) (by decide) (by decide)), by rw [k_tk_s (by omega) (by omega) (by rw [eq]; omega) (by rw [eq]; omega)]; exact ⟨by have w := (o_i_of ((UM49.f (Or.inr (by decide))).trans ((UM46.f (Or.inr (by decide))).trans ((UM41.f (Or.inr (by decide))).trans fM24)))); show o_i (M49 1) 4 = (k_sk y (k_ps y i) : Int); omega, Or.inr (Or.inr (Or.inr (Or.inr ⟨rfl, by have w := (o_i_of fM49); show o_i (M49 1) 3 = ((k_sk y (k_ps y i) + 1 : Nat) : Int); omega, by have w := (o_i_of ((UM49.f (Or.inr (by decide))).trans fM46)); omega, by have w := (o_i_of ((UM49.f (Or.inr (by decide))).trans ((UM46.f (Or.inr (by decide))).trans fM41))); show o_i (M49 1) 9 = y.1 (k_sk y (k_ps y i)); rw [eq]; omega⟩)))⟩⟩
                        · skip
                          refine PW.jz_eq q_77_141 rfl (fun h50 => ?_) (fun h50 => False.elim (by omega))
                          refine PW.cI q_77_148 (by decide) fun c51 hc51 => ?_
                          refine PW.pI q_77_149 (Or.inl t_ft_77_58) gF_1_5 gP_1_5 kd_1 hV IM41 (by decide) rfl (n_lo _) (n_hi _) fun M52 IM52 fM52 UM52 => ?_
                          have FM52 := Fr.pu FM41 UM52.1 kd_1 (rfl : List.contains [1] 1 = true)
                          refine PW.aload_n q_77_152 rfl ?_
                          refine PW.dup q_77_153 rfl ?_
                          refine PW.gE q_77_154 (Or.inl t_ft_77_33) gF_1_3 kd_1 IM52.1 (by decide) ((UM52.f (Or.inr (by decide))).trans ((UM41.f (Or.inr (by decide))).trans ((UM24.f (Or.inr (by decide))).trans fx5))) ?_
                          refine PW.cI q_77_157 (by decide) fun c53 hc53 => ?_
                          refine PW.addN q_77_158 (by omega) (by omega) fun x54 hx54 => ?_
                          refine PW.pI q_77_159 (Or.inl t_ft_77_33) gF_1_3 gP_1_3 kd_1 hV IM52 (by decide) rfl (by omega) (by omega) fun M55 IM55 fM55 UM55 => ?_
                          have FM55 := Fr.pu FM52 UM55.1 kd_1 (rfl : List.contains [1] 1 = true)
                          refine PW.vret q_77_162 rfl (by decide) (by decide) ?_
                          exact hK M55 IM55 FM55 ⟨((((hbL77_12_40.U UM24 (by decide) (by decide) (by decide)).U UM41 (by decide) (by decide) (by decide)).U UM52 (by decide) (by decide) (by decide)).U UM55 (by decide) (by decide) (by decide)), by rw [k_tk_b (by omega) (by omega) (by rw [eq]; omega) (by rw [eq]; omega)]; exact ⟨by have w := (o_i_of ((UM55.f (Or.inr (by decide))).trans ((UM52.f (Or.inr (by decide))).trans ((UM41.f (Or.inr (by decide))).trans fM24)))); show o_i (M55 1) 4 = (k_sk y (k_ps y i) : Int); omega, Or.inr (Or.inl ⟨rfl, Or.inl (by have w := (o_i_of ((UM55.f (Or.inr (by decide))).trans fM52)); omega)⟩)⟩⟩
                      · skip
                        exact absurd PaM39 (by omega)
                  · skip
                    exact absurd PaM32 (by omega)
              · skip
                exact absurd PaM25 (by omega)
            · skip
              refine PW.aload_n q_77_46 rfl ?_
              refine PW.dup q_77_47 rfl ?_
              refine PW.gE q_77_48 (Or.inl t_ft_77_33) gF_1_3 kd_1 IML77_12_4.1 (by decide) fx5 ?_
              refine PW.cI q_77_51 (by decide) fun c56 hc56 => ?_
              refine PW.addN q_77_52 (by omega) (by omega) fun x57 hx57 => ?_
              refine PW.pI q_77_53 (Or.inl t_ft_77_33) gF_1_3 gP_1_3 kd_1 hV IML77_12_4 (by decide) rfl (by omega) (by omega) fun M58 IM58 fM58 UM58 => ?_
              have FM58 := Fr.pu FML77_12_4 UM58.1 kd_1 (rfl : List.contains [1] 1 = true)
              refine PW.goto q_77_56 rfl ?_
              have em58 := o_i_of fM58
              refine PW.lvS (lk1 rfl (lk1 rfl lk0)) (ih_L77_12_4 _ ?_ M58  IM58 FM58 (hbL77_12_40.U UM58 (by decide) (by decide) (by decide)) (by have w := (o_i_of fM58); rw [show (o_i (M58 1) 3).toNat = (o_i (ML77_12_4 1) 3).toNat + 1 from by omega, ← k_sk_on (by omega) (by rw [show (o_i (ML77_12_4 1) 3).toNat = x5.toInt.toNat from by omega]; omega)]; exact hbL77_12_41) rfl)
              omega
          · skip
            exact absurd PaM19 (by omega)
      · skip
        exact absurd PaM11 (by omega)
  exact PW.lvS (lk1 rfl (lk1 rfl lk0)) (L77_12_4 _ M  I F hp_0.1 (by rw [hp_0.2, Int.toNat_natCast]) rfl)
/-- from the tape's start -/
def k_tp (y : k_X) (M : pM) : Prop := o_i (M 1) 1 = y.2.1 ∧ ∀ i, i < y.2.1 → (o_a (M 2) i &&& 255).toInt = y.1 i
theorem c_X7_startText_vk (V : pM → Prop) (hV : Stab V) (G : pG) (Kr : pK) (M : pM) (I : Iv V M) (a1 : Int32) (y : k_X) (hp_0 : k_tp y M) (hp_1 : a1.toInt = y.2.2) (hK : ∀ (M1 : pM), Iv V M1 → Fr [1] M M1 → (k_at y M1 0) → Kr.1 none 311 M1) : PW G false 3 76 (p_mc 76) (p_msl 76) Kr 0 (lv_args 0 [.ref 1, .int a1]) [] 311 M 0 0 := by
  have F : Fr [1] M M := Fr.refl
  refine PW.aload_n q_76_0 rfl ?_
  refine PW.iload_n q_76_1 rfl ?_
  refine PW.pI q_76_2 (Or.inl t_ft_76_30) gF_1_2 gP_1_2 kd_1 hV I (by decide) rfl (n_lo _) (n_hi _) fun M1 IM1 fM1 UM1 => ?_
  have FM1 := Fr.pu F UM1.1 kd_1 (rfl : List.contains [1] 1 = true)
  refine PW.aload_n q_76_5 rfl ?_
  refine PW.cI q_76_6 (by decide) fun c2 hc2 => ?_
  refine PW.pI q_76_7 (Or.inl t_ft_76_33) gF_1_3 gP_1_3 kd_1 hV IM1 (by decide) rfl (by omega) (by omega) fun M3 IM3 fM3 UM3 => ?_
  have FM3 := Fr.pu FM1 UM3.1 kd_1 (rfl : List.contains [1] 1 = true)
  refine PW.aload_n q_76_10 rfl ?_
  refine PW.cI q_76_11 (by decide) fun c4 hc4 => ?_
  refine PW.pI q_76_12 (Or.inl t_ft_76_36) gF_1_10 gP_1_10 kd_1 hV IM3 (by decide) rfl (n_lo _) (n_hi _) fun M5 IM5 fM5 UM5 => ?_
  have FM5 := Fr.pu FM3 UM5.1 kd_1 (rfl : List.contains [1] 1 = true)
  refine PW.aload_n q_76_15 rfl ?_
  refine PW.cI q_76_16 (by decide) fun c6 hc6 => ?_
  refine PW.pI q_76_17 (Or.inl t_ft_76_39) gF_1_11 gP_1_11 kd_1 hV IM5 (by decide) rfl (n_lo _) (n_hi _) fun M7 IM7 fM7 UM7 => ?_
  have FM7 := Fr.pu FM5 UM7.1 kd_1 (rfl : List.contains [1] 1 = true)
  refine PW.aload_n q_76_20 rfl ?_
  refine PW.cV (as := []) (rest := []) q_76_21 t_mv_76_42 kd_1 IM7.1 (by decide) rfl (by decide) rfl rfl (Nat.le_of_ble_eq_true rfl) (Nat.le_of_ble_eq_true rfl) (by decide) (by decide) ?_
  refine PW.up (by decide) (c_X7_advance_vk (V) (hV) G _ M7 IM7 y 0 ⟨⟨((UM7.i (c := 1) (k := 1) (Or.inr (by decide))).trans ((UM5.i (c := 1) (k := 1) (Or.inr (by decide))).trans ((UM3.i (c := 1) (k := 1) (Or.inr (by decide))).trans (UM1.i (c := 1) (k := 1) (Or.inr (by decide)))))).trans hp_0.1, (by have w := (o_i_of ((UM7.f (Or.inr (by decide))).trans ((UM5.f (Or.inr (by decide))).trans ((UM3.f (Or.inr (by decide))).trans fM1)))); omega), (by have w := (o_i_of ((UM7.f (Or.inr (by decide))).trans fM5)); omega), fun i hi => by rw [((UM7.1 _ (g_ne kd_2 kd_1 (by decide))).trans ((UM5.1 _ (g_ne kd_2 kd_1 (by decide))).trans ((UM3.1 _ (g_ne kd_2 kd_1 (by decide))).trans (UM1.1 _ (g_ne kd_2 kd_1 (by decide))))))]; exact hp_0.2 i hi⟩, (by have w := (o_i_of ((UM7.f (Or.inr (by decide))).trans ((UM5.f (Or.inr (by decide))).trans fM3))); show o_i (M7 1) 3 = ((0 : Nat) : Int); omega)⟩ fun M8 IM8 GM8 PM8 => ?_)
  have FM8 := Fr.trans FM7 GM8 (rfl)
  have PtM8 := PM8
  refine PW.vret q_76_24 rfl (by decide) (by decide) ?_
  exact hK M8 IM8 FM8 PtM8
theorem c_X7_fail_vk (V : pM → Prop) (hV : Stab V) (G : pG) (Kr : pK) (M : pM) (I : Iv V M) (a1 : Int32) (y : k_X) (i : Nat) (hp_0 : k_at y M i) (hK : ∀ (x : Int32) (M1 : pM), Iv V M1 → Fr [1] M M1 → 0 ≤ x.toInt → x.toInt ≤ 0 → (o_i (M1 1) 10 = a1.toInt ∧ o_i (M1 1) 11 = kP y i) → Kr.1 (some (.int x)) 311 M1) : PW G false 0 83 (p_mc 83) (p_msl 83) Kr 0 (lv_args 0 [.ref 1, .int a1]) [] 311 M 0 0 := by
  have F : Fr [1] M M := Fr.refl
  obtain ⟨w1_10, fw1_10, hw1_10, kw1_10⟩ := gF_1_10.int kd_1 I.1 (by decide)
  have iw1_10 := o_i_of fw1_10
  have jw1_10 : w1_10.toInt = 0 := by have w := hp_0.1.2.2.1; omega
  have ep : o_i (M 1) 4 = kP y i := hp_0.2.1
  obtain ⟨w1_4, fw1_4, hw1_4, kw1_4⟩ := gF_1_4.int kd_1 I.1 (by decide)
  have iw1_4 := o_i_of fw1_4
  have jw1_4 : w1_4.toInt = kP y i := by have w := ep; omega
  refine PW.aload_n q_83_0 rfl ?_
  refine PW.gE q_83_1 (Or.inl t_ft_83_36) gF_1_10 kd_1 I.1 (by decide) fw1_10 ?_
  refine PW.jz_ne q_83_4 rfl (fun h1 => False.elim (by omega)) (fun h1 => ?_)
  refine PW.aload_n q_83_7 rfl ?_
  refine PW.iload_n q_83_8 rfl ?_
  refine PW.pI q_83_9 (Or.inl t_ft_83_36) gF_1_10 gP_1_10 kd_1 hV I (by decide) rfl (n_lo _) (n_hi _) fun M2 IM2 fM2 UM2 => ?_
  have FM2 := Fr.pu F UM2.1 kd_1 (rfl : List.contains [1] 1 = true)
  refine PW.aload_n q_83_12 rfl ?_
  refine PW.aload_n q_83_13 rfl ?_
  refine PW.gE q_83_14 (Or.inl t_ft_83_55) gF_1_4 kd_1 IM2.1 (by decide) ((UM2.f (Or.inr (by decide))).trans fw1_4) ?_
  refine PW.pI q_83_17 (Or.inl t_ft_83_39) gF_1_11 gP_1_11 kd_1 hV IM2 (by decide) rfl (n_lo _) (n_hi _) fun M3 IM3 fM3 UM3 => ?_
  have FM3 := Fr.pu FM2 UM3.1 kd_1 (rfl : List.contains [1] 1 = true)
  refine PW.cI q_83_20 (by decide) fun c4 hc4 => ?_
  refine PW.rZ q_83_21 rfl (by omega) (by omega) (by decide) (by decide) ?_
  exact hK c4 M3 IM3 FM3 (by omega) (by omega) ⟨(by have w := (o_i_of ((UM3.f (Or.inr (by decide))).trans fM2)); omega), (by have w := (o_i_of fM3); omega)⟩
theorem c_X7_atEnd_vk (V : pM → Prop) (hV : Stab V) (G : pG) (Kr : pK) (M : pM) (I : Iv V M) (y : k_X) (i : Nat) (hp_0 : k_at y M i) (hK : ∀ (x : Int32), 0 ≤ x.toInt → x.toInt ≤ 1 → ((x.toInt = 1 ∧ kK y i = 0) ∨ (x.toInt = 1 ∧ kK y i = 1) ∨ (x.toInt = 0 ∧ kK y i ≠ 0)) → Kr.1 (some (.int x)) 311 M) : PW G false 0 84 (p_mc 84) (p_msl 84) Kr 0 (lv_args 0 [.ref 1]) [] 311 M 0 0 := by
  have F : Fr [] M M := Fr.refl
  have w := k_en hp_0
  refine PW.aload_n q_84_0 rfl ?_
  refine PW.gI q_84_1 (Or.inl t_ft_84_58) gF_1_5 kd_1 I.1 (by decide) fun x1 fx1 hx1 kx1 => ?_
  have ix1 := o_i_of fx1
  clear hx1 kx1
  refine PW.jz_ne q_84_4 rfl (fun h2 => ?_) (fun h2 => ?_)
  · skip
    refine PW.cI q_84_11 (by decide) fun c3 hc3 => ?_
    refine PW.rZ q_84_12 rfl (by omega) (by omega) (by decide) (by decide) ?_
    exact hK c3 (by omega) (by omega) (by omega)
  · skip
    refine PW.cI q_84_7 (by decide) fun c4 hc4 => ?_
    refine PW.goto q_84_8 rfl ?_
    refine PW.rZ q_84_12 rfl (by omega) (by omega) (by decide) (by decide) ?_
    exact hK c4 (by omega) (by omega) (by omega)
theorem c_X7_closes_vk (V : pM → Prop) (hV : Stab V) (G : pG) (Kr : pK) (M : pM) (I : Iv V M) (y : k_X) (i : Nat) (hp_0 : k_at y M i) (hK : ∀ (x : Int32) (M1 : pM), Iv V M1 → Fr [1] M M1 → 0 ≤ x.toInt → x.toInt ≤ 1 → ((x.toInt = 1 ∧ kK y i = 0 ∧ k_at y M1 i) ∨ (x.toInt = 0 ∧ kK y i ≠ 0 ∧ o_i (M1 1) 10 = 1 ∧ o_i (M1 1) 11 = kP y i)) → Kr.1 (some (.int x)) 311 M1) : PW G false 1 85 (p_mc 85) (p_msl 85) Kr 0 (lv_args 0 [.ref 1]) [] 311 M 0 0 := by
  have F : Fr [1] M M := Fr.refl
  have w := k_en hp_0
  have t1 := hp_0.1.1
  have t2 := hp_0.1.2.1
  refine PW.aload_n q_85_0 rfl ?_
  refine PW.gI q_85_1 (Or.inl t_ft_85_58) gF_1_5 kd_1 I.1 (by decide) fun x1 fx1 hx1 kx1 => ?_
  have ix1 := o_i_of fx1
  clear hx1 kx1
  refine PW.jz_ne q_85_4 rfl (fun h2 => ?_) (fun h2 => ?_)
  · skip
    refine PW.aload_n q_85_18 rfl ?_
    refine PW.cI q_85_19 (by decide) fun c3 hc3 => ?_
    refine PW.cV (as := [_]) (rest := []) q_85_20 t_mv_85_97 kd_1 I.1 (by decide) rfl (by decide) rfl rfl (Nat.le_of_ble_eq_true rfl) (Nat.le_of_ble_eq_true rfl) (by decide) (by decide) ?_
    refine PW.up (by decide) (c_X7_fail_vk (V) (hV) G _ M I c3 _ _ hp_0 fun x5 M4 IM4 GM4 hx5 kx5 PM4 => ?_)
    have FM4 := Fr.trans F GM4 (rfl)
    rcases PM4 with ⟨PfM4, PgM4⟩
    refine PW.jz_eq q_85_23 rfl (fun h6 => ?_) (fun h6 => False.elim (by omega))
    refine PW.cI q_85_30 (by decide) fun c7 hc7 => ?_
    refine PW.rZ q_85_31 rfl (by omega) (by omega) (by decide) (by decide) ?_
    exact hK c7 M4 IM4 FM4 (by omega) (by omega) (Or.inr ⟨by omega, by omega, by omega, by omega⟩)
  · skip
    refine PW.aload_n q_85_7 rfl ?_
    refine PW.gI q_85_8 (Or.inl t_ft_85_26) gF_1_1 kd_1 I.1 (by decide) fun x8 fx8 hx8 kx8 => ?_
    have ix8 := o_i_of fx8
    refine PW.aload_n q_85_11 rfl ?_
    refine PW.gI q_85_12 (Or.inl t_ft_85_30) gF_1_2 kd_1 I.1 (by decide) fun x9 fx9 hx9 kx9 => ?_
    have ix9 := o_i_of fx9
    clear hx9 kx9
    refine PW.jc_le q_85_15 rfl (fun h10 => ?_) (fun h10 => ?_)
    · skip
      refine PW.cI q_85_26 (by decide) fun c11 hc11 => ?_
      refine PW.goto q_85_27 rfl ?_
      refine PW.rZ q_85_31 rfl (by omega) (by omega) (by decide) (by decide) ?_
      exact hK c11 M I F (by omega) (by omega) (Or.inl ⟨by omega, by omega, hp_0⟩)
    · skip
      refine PW.aload_n q_85_18 rfl ?_
      refine PW.cI q_85_19 (by decide) fun c12 hc12 => ?_
      refine PW.cV (as := [_]) (rest := []) q_85_20 t_mv_85_97 kd_1 I.1 (by decide) rfl (by decide) rfl rfl (Nat.le_of_ble_eq_true rfl) (Nat.le_of_ble_eq_true rfl) (by decide) (by decide) ?_
      refine PW.up (by decide) (c_X7_fail_vk (V) (hV) G _ M I c12 _ _ hp_0 fun x14 M13 IM13 GM13 hx14 kx14 PM13 => ?_)
      have FM13 := Fr.trans F GM13 (rfl)
      rcases PM13 with ⟨PfM13, PgM13⟩
      refine PW.jz_eq q_85_23 rfl (fun h15 => ?_) (fun h15 => False.elim (by omega))
      refine PW.cI q_85_30 (by decide) fun c16 hc16 => ?_
      refine PW.rZ q_85_31 rfl (by omega) (by omega) (by decide) (by decide) ?_
      exact hK c16 M13 IM13 FM13 (by omega) (by omega) (Or.inr ⟨by omega, by omega, by omega, by omega⟩)
theorem c_X7_sees_vk (V : pM → Prop) (hV : Stab V) (G : pG) (Kr : pK) (M : pM) (I : Iv V M) (r1 : Nat) (hr1 : r1 < 28) (y : k_X) (i : Nat) (hp_0 : k_at y M i) (hK : ∀ (x : Int32), 0 ≤ x.toInt → x.toInt ≤ 1 → ((x.toInt = 1 ∧ kK y i = 2 ∧ kV y i = (p_wc r1).toInt) ∨ (x.toInt = 0 ∧ ¬ (kK y i = 2 ∧ kV y i = (p_wc r1).toInt))) → Kr.1 (some (.int x)) 311 M) : PW G false 0 86 (p_mc 86) (p_msl 86) Kr 0 (lv_args 0 [.ref 1, .ref (65536 + r1)]) [] 311 M 0 0 := by
  have F : Fr [] M M := Fr.refl
  refine PW.aload_n q_86_0 rfl ?_
  refine PW.gI q_86_1 (Or.inl t_ft_86_58) gF_1_5 kd_1 I.1 (by decide) fun x1 fx1 hx1 kx1 => ?_
  have ix1 := o_i_of fx1
  clear hx1 kx1
  refine PW.cI q_86_4 (by decide) fun c2 hc2 => ?_
  refine PW.jc_ne q_86_5 rfl (fun h3 => ?_) (fun h3 => ?_)
  · skip
    refine PW.cI q_86_20 (by decide) fun c4 hc4 => ?_
    refine PW.rZ q_86_21 rfl (by omega) (by omega) (by decide) (by decide) ?_
    exact hK c4 (by omega) (by omega) (Or.inr ⟨by omega, k_see0 hp_0 (by omega) hr1⟩)
  · skip
    refine PW.aload_n q_86_8 rfl ?_
    refine PW.gW q_86_9 (Or.inl t_ft_86_21) gF_1_6 kd_1 I.1 (by decide) fun r5 hr5 fr5 => ?_
    refine PW.aload_n q_86_12 rfl ?_
    refine PW.jw_ne q_86_13 rfl hr5 hr1 (fun h6 => ?_) (fun h6 => ?_)
    · skip
      refine PW.cI q_86_20 (by decide) fun c7 hc7 => ?_
      refine PW.rZ q_86_21 rfl (by omega) (by omega) (by decide) (by decide) ?_
      exact hK c7 (by omega) (by omega) (Or.inr ⟨by omega, fun q => h6 (p_wc_inj hr5 hr1 ((k_see1 hp_0 (by omega) fr5).2.symm.trans q.2))⟩)
    · skip
      refine PW.cI q_86_16 (by decide) fun c8 hc8 => ?_
      refine PW.goto q_86_17 rfl ?_
      refine PW.rZ q_86_21 rfl (by omega) (by omega) (by decide) (by decide) ?_
      exact hK c8 (by omega) (by omega) (Or.inl ⟨by omega, (k_see1 hp_0 (by omega) fr5).1, by rw [(k_see1 hp_0 (by omega) fr5).2, h6]⟩)
theorem c_X7_seesSign_vk (V : pM → Prop) (hV : Stab V) (G : pG) (Kr : pK) (M : pM) (I : Iv V M) (a1 : Int32) (y : k_X) (i : Nat) (hp_0 : k_at y M i) (hK : ∀ (x : Int32), 0 ≤ x.toInt → x.toInt ≤ 1 → ((x.toInt = 1 ∧ kK y i = 5 ∧ kV y i = a1.toInt) ∨ (x.toInt = 0 ∧ ¬ (kK y i = 5 ∧ kV y i = a1.toInt))) → Kr.1 (some (.int x)) 311 M) : PW G false 0 87 (p_mc 87) (p_msl 87) Kr 0 (lv_args 0 [.ref 1, .int a1]) [] 311 M 0 0 := by
  have F : Fr [] M M := Fr.refl
  have w := k_sg hp_0
  refine PW.aload_n q_87_0 rfl ?_
  refine PW.gI q_87_1 (Or.inl t_ft_87_58) gF_1_5 kd_1 I.1 (by decide) fun x1 fx1 hx1 kx1 => ?_
  have ix1 := o_i_of fx1
  clear hx1 kx1
  refine PW.cI q_87_4 (by decide) fun c2 hc2 => ?_
  refine PW.jc_ne q_87_5 rfl (fun h3 => ?_) (fun h3 => ?_)
  · skip
    refine PW.cI q_87_20 (by decide) fun c4 hc4 => ?_
    refine PW.rZ q_87_21 rfl (by omega) (by omega) (by decide) (by decide) ?_
    exact hK c4 (by omega) (by omega) (by omega)
  · skip
    refine PW.aload_n q_87_8 rfl ?_
    refine PW.gI q_87_9 (Or.inl t_ft_87_71) gF_1_9 kd_1 I.1 (by decide) fun x5 fx5 hx5 kx5 => ?_
    have ix5 := o_i_of fx5
    clear hx5 kx5
    refine PW.iload_n q_87_12 rfl ?_
    refine PW.jc_ne q_87_13 rfl (fun h6 => ?_) (fun h6 => ?_)
    · skip
      refine PW.cI q_87_20 (by decide) fun c7 hc7 => ?_
      refine PW.rZ q_87_21 rfl (by omega) (by omega) (by decide) (by decide) ?_
      exact hK c7 (by omega) (by omega) (by omega)
    · skip
      refine PW.cI q_87_16 (by decide) fun c8 hc8 => ?_
      refine PW.goto q_87_17 rfl ?_
      refine PW.rZ q_87_21 rfl (by omega) (by omega) (by decide) (by decide) ?_
      exact hK c8 (by omega) (by omega) (by omega)
theorem c_X7_takes_vk (V : pM → Prop) (hV : Stab V) (G : pG) (Kr : pK) (M : pM) (I : Iv V M) (r1 : Nat) (hr1 : r1 < 28) (y : k_X) (i : Nat) (hp_0 : k_at y M i) (hK : ∀ (x : Int32) (M1 : pM), Iv V M1 → Fr [1] M M1 → 0 ≤ x.toInt → x.toInt ≤ 1 → ((x.toInt = 1 ∧ kK y i = 2 ∧ kV y i = (p_wc r1).toInt ∧ k_at y M1 (i + 1)) ∨ (x.toInt = 0 ∧ ¬ (kK y i = 2 ∧ kV y i = (p_wc r1).toInt) ∧ k_at y M1 i)) → Kr.1 (some (.int x)) 311 M1) : PW G false 3 88 (p_mc 88) (p_msl 88) Kr 0 (lv_args 0 [.ref 1, .ref (65536 + r1)]) [] 311 M 0 0 := by
  have F : Fr [1] M M := Fr.refl
  refine PW.aload_n q_88_0 rfl ?_
  refine PW.aload_n q_88_1 rfl ?_
  refine PW.cV (as := [_]) (rest := []) q_88_2 t_mv_88_100 kd_1 I.1 (by decide) rfl (by decide) rfl rfl (Nat.le_of_ble_eq_true rfl) (Nat.le_of_ble_eq_true rfl) (by decide) (by decide) ?_
  refine PW.up (by decide) (c_X7_sees_vk (V) (hV) G _ M I r1 hr1 _ _ hp_0 fun x2  hx2 kx2 PM1 => ?_)
  rcases PM1 with ⟨PaM1, PbM1, PcM1⟩ | ⟨PaM1, PnM1⟩
  · skip
    refine PW.jz_ne q_88_5 rfl (fun h3 => ?_) (fun h3 => False.elim (by omega))
    refine PW.aload_n q_88_10 rfl ?_
    refine PW.cV (as := []) (rest := []) q_88_11 t_mv_88_42 kd_1 I.1 (by decide) rfl (by decide) rfl rfl (Nat.le_of_ble_eq_true rfl) (Nat.le_of_ble_eq_true rfl) (by decide) (by decide) ?_
    refine PW.up (by decide) (c_X7_advance_vk (V) (hV) G _ M I _ _ (k_at.nx hp_0 (by omega)) fun M4 IM4 GM4 PM4 => ?_)
    have FM4 := Fr.trans F GM4 (rfl)
    have PtM4 := PM4
    refine PW.cI q_88_14 (by decide) fun c5 hc5 => ?_
    refine PW.rZ q_88_15 rfl (by omega) (by omega) (by decide) (by decide) ?_
    exact hK c5 M4 IM4 FM4 (by omega) (by omega) (Or.inl ⟨by omega, PbM1, PcM1, PtM4⟩)
  · skip
    refine PW.jz_ne q_88_5 rfl (fun h6 => False.elim (by omega)) (fun h6 => ?_)
    refine PW.cI q_88_8 (by decide) fun c7 hc7 => ?_
    refine PW.rZ q_88_9 rfl (by omega) (by omega) (by decide) (by decide) ?_
    exact hK c7 M I F (by omega) (by omega) (Or.inr ⟨by omega, PnM1, hp_0⟩)
theorem c_X7_needsSign_vk (V : pM → Prop) (hV : Stab V) (G : pG) (Kr : pK) (M : pM) (I : Iv V M) (a1 : Int32) (y : k_X) (i : Nat) (hp_0 : k_at y M i) (hK : ∀ (x : Int32) (M1 : pM), Iv V M1 → Fr [1] M M1 → 0 ≤ x.toInt → x.toInt ≤ 1 → ((x.toInt = 1 ∧ kK y i = 5 ∧ kV y i = a1.toInt ∧ k_at y M1 (i + 1)) ∨ (x.toInt = 0 ∧ ¬ (kK y i = 5 ∧ kV y i = a1.toInt) ∧ o_i (M1 1) 10 = 1 ∧ o_i (M1 1) 11 = kP y i)) → Kr.1 (some (.int x)) 311 M1) : PW G false 3 89 (p_mc 89) (p_msl 89) Kr 0 (lv_args 0 [.ref 1, .int a1]) [] 311 M 0 0 := by
  have F : Fr [1] M M := Fr.refl
  refine PW.aload_n q_89_0 rfl ?_
  refine PW.iload_n q_89_1 rfl ?_
  refine PW.cV (as := [_]) (rest := []) q_89_2 t_mv_89_104 kd_1 I.1 (by decide) rfl (by decide) rfl rfl (Nat.le_of_ble_eq_true rfl) (Nat.le_of_ble_eq_true rfl) (by decide) (by decide) ?_
  refine PW.up (by decide) (c_X7_seesSign_vk (V) (hV) G _ M I a1 _ _ hp_0 fun x2  hx2 kx2 PM1 => ?_)
  rcases PM1 with ⟨PaM1, PbM1, PcM1⟩ | ⟨PaM1, PnM1⟩
  · skip
    refine PW.jz_ne q_89_5 rfl (fun h3 => ?_) (fun h3 => False.elim (by omega))
    refine PW.aload_n q_89_14 rfl ?_
    refine PW.cV (as := []) (rest := []) q_89_15 t_mv_89_42 kd_1 I.1 (by decide) rfl (by decide) rfl rfl (Nat.le_of_ble_eq_true rfl) (Nat.le_of_ble_eq_true rfl) (by decide) (by decide) ?_
    refine PW.up (by decide) (c_X7_advance_vk (V) (hV) G _ M I _ _ (k_at.nx hp_0 (by omega)) fun M4 IM4 GM4 PM4 => ?_)
    have FM4 := Fr.trans F GM4 (rfl)
    have PtM4 := PM4
    refine PW.cI q_89_18 (by decide) fun c5 hc5 => ?_
    refine PW.rZ q_89_19 rfl (by omega) (by omega) (by decide) (by decide) ?_
    exact hK c5 M4 IM4 FM4 (by omega) (by omega) (Or.inl ⟨by omega, PbM1, PcM1, PtM4⟩)
  · skip
    refine PW.jz_ne q_89_5 rfl (fun h6 => False.elim (by omega)) (fun h6 => ?_)
    refine PW.aload_n q_89_8 rfl ?_
    refine PW.cI q_89_9 (by decide) fun c7 hc7 => ?_
    refine PW.cV (as := [_]) (rest := []) q_89_10 t_mv_89_97 kd_1 I.1 (by decide) rfl (by decide) rfl rfl (Nat.le_of_ble_eq_true rfl) (Nat.le_of_ble_eq_true rfl) (by decide) (by decide) ?_
    refine PW.up (by decide) (c_X7_fail_vk (V) (hV) G _ M I c7 _ _ hp_0 fun x9 M8 IM8 GM8 hx9 kx9 PM8 => ?_)
    have FM8 := Fr.trans F GM8 (rfl)
    rcases PM8 with ⟨PfM8, PgM8⟩
    refine PW.rZ q_89_13 rfl (by omega) (by omega) (by decide) (by decide) ?_
    exact hK x9 M8 IM8 FM8 (by omega) (by omega) (Or.inr ⟨by omega, PnM1, by omega, by omega⟩)
theorem c_X7_needsNumber_vk (V : pM → Prop) (hV : Stab V) (G : pG) (Kr : pK) (M : pM) (I : Iv V M) (a1 : Int32) (a2 : Int32) (y : k_X) (i : Nat) (lo hi : Int) (hp_0 : k_at y M i) (hp_1 : a1.toInt = lo) (hp_2 : a2.toInt = hi) (hK : ∀ (x : Int32) (M1 : pM), Iv V M1 → Fr [1] M M1 → ((k_nr y i lo hi = 0 ∧ x.toInt = kV y i ∧ lo ≤ x.toInt ∧ x.toInt ≤ hi ∧ k_at y M1 (i + 1)) ∨ (k_nr y i lo hi ≠ 0 ∧ x.toInt = -1 ∧ o_i (M1 1) 10 = k_nr y i lo hi ∧ o_i (M1 1) 11 = kP y i)) → Kr.1 (some (.int x)) 311 M1) : PW G false 3 90 (p_mc 90) (p_msl 90) Kr 0 (lv_args 0 [.ref 1, .int a1, .int a2]) [] 311 M 0 0 := by
  have F : Fr [1] M M := Fr.refl
  have w := k_no hp_0
  refine PW.aload_n q_90_0 rfl ?_
  refine PW.gI q_90_1 (Or.inl t_ft_90_58) gF_1_5 kd_1 I.1 (by decide) fun x1 fx1 hx1 kx1 => ?_
  have ix1 := o_i_of fx1
  clear hx1 kx1
  refine PW.cI q_90_4 (by decide) fun c2 hc2 => ?_
  refine PW.jc_eq q_90_5 rfl (fun h3 => ?_) (fun h3 => ?_)
  · skip
    refine PW.aload_n q_90_16 rfl ?_
    refine PW.gI q_90_17 (Or.inl t_ft_90_81) gF_1_8 kd_1 I.1 (by decide) fun x4 fx4 hx4 kx4 => ?_
    have ix4 := o_i_of fx4
    clear hx4 kx4
    refine PW.iload_n q_90_20 rfl ?_
    refine PW.jc_lt q_90_21 rfl (fun h5 => ?_) (fun h5 => ?_)
    · skip
      have en : k_nr y i lo hi = 2 := by unfold k_nr; rw [if_neg (by omega), if_pos (by omega)]
      refine PW.aload_n q_90_32 rfl ?_
      refine PW.cI q_90_33 (by decide) fun c6 hc6 => ?_
      refine PW.cV (as := [_]) (rest := []) q_90_34 t_mv_90_97 kd_1 I.1 (by decide) rfl (by decide) rfl rfl (Nat.le_of_ble_eq_true rfl) (Nat.le_of_ble_eq_true rfl) (by decide) (by decide) ?_
      refine PW.up (by decide) (c_X7_fail_vk (V) (hV) G _ M I c6 _ _ hp_0 fun x8 M7 IM7 GM7 hx8 kx8 PM7 => ?_)
      have FM7 := Fr.trans F GM7 (rfl)
      rcases PM7 with ⟨PfM7, PgM7⟩
      refine PW.pop q_90_37 rfl ?_
      refine PW.cI q_90_38 (by decide) fun c9 hc9 => ?_
      refine PW.rI q_90_39 rfl (by decide) (by decide) ?_
      exact hK c9 M7 IM7 FM7 (Or.inr ⟨by rw [en]; omega, by omega, by rw [en]; omega, by omega⟩)
    · skip
      refine PW.aload_n q_90_24 rfl ?_
      refine PW.gE q_90_25 (Or.inl t_ft_90_81) gF_1_8 kd_1 I.1 (by decide) fx4 ?_
      refine PW.iload_n q_90_28 rfl ?_
      refine PW.jc_le q_90_29 rfl (fun h10 => ?_) (fun h10 => ?_)
      · skip
        have en : k_nr y i lo hi = 0 := by unfold k_nr; rw [if_neg (by omega), if_neg (by omega)]
        refine PW.aload_n q_90_40 rfl ?_
        refine PW.gE q_90_41 (Or.inl t_ft_90_81) gF_1_8 kd_1 I.1 (by decide) fx4 ?_
        refine PW.istore_n q_90_44 (by decide) ?_
        refine PW.aload_n q_90_45 rfl ?_
        refine PW.cV (as := []) (rest := []) q_90_46 t_mv_90_42 kd_1 I.1 (by decide) rfl (by decide) rfl rfl (Nat.le_of_ble_eq_true rfl) (Nat.le_of_ble_eq_true rfl) (by decide) (by decide) ?_
        refine PW.up (by decide) (c_X7_advance_vk (V) (hV) G _ M I _ _ (k_at.nx hp_0 (by omega)) fun M11 IM11 GM11 PM11 => ?_)
        have FM11 := Fr.trans F GM11 (rfl)
        have PtM11 := PM11
        refine PW.iload_n q_90_49 rfl ?_
        refine PW.rI q_90_50 rfl (by decide) (by decide) ?_
        exact hK x4 M11 IM11 FM11 (Or.inl ⟨by rw [en], by omega, by omega, by omega, PtM11⟩)
      · skip
        have en : k_nr y i lo hi = 2 := by unfold k_nr; rw [if_neg (by omega), if_pos (by omega)]
        refine PW.aload_n q_90_32 rfl ?_
        refine PW.cI q_90_33 (by decide) fun c12 hc12 => ?_
        refine PW.cV (as := [_]) (rest := []) q_90_34 t_mv_90_97 kd_1 I.1 (by decide) rfl (by decide) rfl rfl (Nat.le_of_ble_eq_true rfl) (Nat.le_of_ble_eq_true rfl) (by decide) (by decide) ?_
        refine PW.up (by decide) (c_X7_fail_vk (V) (hV) G _ M I c12 _ _ hp_0 fun x14 M13 IM13 GM13 hx14 kx14 PM13 => ?_)
        have FM13 := Fr.trans F GM13 (rfl)
        rcases PM13 with ⟨PfM13, PgM13⟩
        refine PW.pop q_90_37 rfl ?_
        refine PW.cI q_90_38 (by decide) fun c15 hc15 => ?_
        refine PW.rI q_90_39 rfl (by decide) (by decide) ?_
        exact hK c15 M13 IM13 FM13 (Or.inr ⟨by rw [en]; omega, by omega, by rw [en]; omega, by omega⟩)
  · skip
    have en : k_nr y i lo hi = 1 := by unfold k_nr; rw [if_pos (by omega)]
    refine PW.aload_n q_90_8 rfl ?_
    refine PW.cI q_90_9 (by decide) fun c16 hc16 => ?_
    refine PW.cV (as := [_]) (rest := []) q_90_10 t_mv_90_97 kd_1 I.1 (by decide) rfl (by decide) rfl rfl (Nat.le_of_ble_eq_true rfl) (Nat.le_of_ble_eq_true rfl) (by decide) (by decide) ?_
    refine PW.up (by decide) (c_X7_fail_vk (V) (hV) G _ M I c16 _ _ hp_0 fun x18 M17 IM17 GM17 hx18 kx18 PM17 => ?_)
    have FM17 := Fr.trans F GM17 (rfl)
    rcases PM17 with ⟨PfM17, PgM17⟩
    refine PW.pop q_90_13 rfl ?_
    refine PW.cI q_90_14 (by decide) fun c19 hc19 => ?_
    refine PW.rI q_90_15 rfl (by decide) (by decide) ?_
    exact hK c19 M17 IM17 FM17 (Or.inr ⟨by rw [en]; omega, by omega, by rw [en]; omega, by omega⟩)
theorem c_X7_indexOf_vk (V : pM → Prop) (hV : Stab V) (G : pG) (Kr : pK) (M : pM) (I : Iv V M) (k0 : Nat) (hk_k0 : g_kd k0 = 27) (a1 : Int32) (a2 : Int64) (hl_a1 : 0 ≤ a1.toInt) (hh_a1 : a1.toInt ≤ 6) (f : Nat → Int) (m : Int) (hp_0 : ∀ j : Nat, (j : Int) < m → (o_l (M k0) j).toInt = f j) (hp_1 : a1.toInt = m) (hK : ∀ (x : Int32), -1 ≤ x.toInt → x.toInt ≤ 5 → (x.toInt = k_fd f a2.toInt m.toNat) → Kr.1 (some (.int x)) 311 M) : PW G false 0 92 (p_mc 92) (p_msl 92) Kr 0 (lv_args 0 [.ref k0, .int a1, .long a2]) [] 311 M 0 0 := by
  have F : Fr [] M M := Fr.refl
  refine PW.cI q_92_0 (by decide) fun c1 hc1 => ?_
  refine PW.istore q_92_1 (by decide) ?_
  have L92_3_2 : ∀ (n : Nat) (v3 : Int32), 0 ≤ v3.toInt → v3.toInt ≤ 6 → (∀ j : Nat, (j : Int) < v3.toInt → f j ≠ a2.toInt) → (6 - v3.toInt).toNat = n → PW G false 0 92 (p_mc 92) (p_msl 92) Kr 3 [(0, .ref k0), (1, .int a1), (2, .long a2), (4, .int v3)] [] 311 M 0 0 := by
    intro n
    induction n using Nat.strongRecOn with
    | ind n ih_L92_3_2 =>
    intro v3 hbL92_3_20 hbL92_3_21 hbL92_3_22 hmL92_3_2
    refine PW.iload q_92_3 rfl ?_
    refine PW.iload_n q_92_5 rfl ?_
    refine PW.jc_ge q_92_6 rfl (fun h4 => ?_) (fun h4 => ?_)
    · skip
      refine PW.cI q_92_34 (by decide) fun c5 hc5 => ?_
      refine PW.rI q_92_35 rfl (by decide) (by decide) ?_
      exact hK c5 (by omega) (by omega) (by rw [k_fd_no fun j hj => hbL92_3_22 j (by omega)]; omega)
    · skip
      refine PW.iload q_92_9 rfl ?_
      refine PW.aload_n q_92_11 rfl ?_
      refine PW.al2 q_92_12 rfl hk_k0 I.1 (by decide) (by decide) fun c6 hc6 => ?_
      refine PW.jc_ge q_92_13 rfl (fun h7 => False.elim (by omega)) (fun h7 => ?_)
      refine PW.aload_n q_92_16 rfl ?_
      refine PW.iload q_92_17 rfl ?_
      refine PW.aL q_92_19 rfl hk_k0 I.1 (by decide) (by omega) (by omega) fun l8 fl8 => ?_
      refine PW.lload_n q_92_20 rfl ?_
      refine PW.lcmpK q_92_21 fun x9 lax9 lcx9 => ?_
      refine PW.jz_ne q_92_22 rfl (fun h10 => ?_) (fun h10 => ?_)
      · skip
        refine PW.incN q_92_28 rfl (by decide) (by decide) (by omega) (by omega) fun x11 hx11 => ?_
        refine PW.goto q_92_31 rfl ?_
        exact PW.lvS (lk1 rfl (lk1 rfl (lk1 rfl (lk1 rfl lk0)))) (ih_L92_3_2 _ (by omega) x11 (by omega) (by omega) (fun j hj e => by by_cases q : j = v3.toInt.toNat; (· rw [q, ← hp_0 _ (by omega), fl8] at e; exact lax9 (by omega) e); (· exact hbL92_3_22 j (by omega) e)) rfl)
      · skip
        refine PW.iload q_92_25 rfl ?_
        refine PW.rI q_92_27 rfl (by decide) (by decide) ?_
        exact hK v3 (by omega) (by omega) (by rw [k_fd_hit (i := v3.toInt.toNat) (fun j hj => hbL92_3_22 j (by omega)) (by rw [← hp_0 _ (by omega), fl8]; exact lcx9 (by omega)) (by omega)]; omega)
  exact PW.lvS (lk1 rfl (lk1 rfl (lk1 rfl (lk1 rfl lk0)))) (L92_3_2 _ c1 (by omega) (by omega) (fun j hj => by omega) rfl)
theorem c_X7_needsKnown_vk (V : pM → Prop) (hV : Stab V) (G : pG) (Kr : pK) (M : pM) (I : Iv V M) (k1 : Nat) (hk_k1 : g_kd k1 = 27) (a2 : Int32) (hl_a2 : 0 ≤ a2.toInt) (hh_a2 : a2.toInt ≤ 6) (y : k_X) (i : Nat) (f : Nat → Int) (m : Int) (hp_0 : k_at y M i) (hp_1 : ∀ j : Nat, (j : Int) < m → (o_l (M k1) j).toInt = f j) (hp_2 : a2.toInt = m) (hK : ∀ (x : Int32) (M1 : pM), Iv V M1 → Fr [1] M M1 → -1 ≤ x.toInt → x.toInt ≤ 5 → ((k_ni y i = 0 ∧ x.toInt = -1 ∧ o_i (M1 1) 10 = 1 ∧ o_i (M1 1) 11 = kP y i) ∨ (k_ni y i = 1 ∧ k_fd f (kV y i) m.toNat = -1 ∧ x.toInt = -1 ∧ o_i (M1 1) 10 = 3 ∧ o_i (M1 1) 11 = kP y i) ∨ (k_ni y i = 1 ∧ x.toInt = k_fd f (kV y i) m.toNat ∧ x.toInt ≠ -1 ∧ k_at y M1 i)) → Kr.1 (some (.int x)) 311 M1) : PW G false 1 91 (p_mc 91) (p_msl 91) Kr 0 (lv_args 0 [.ref 1, .ref k1, .int a2]) [] 311 M 0 0 := by
  have F : Fr [1] M M := Fr.refl
  have w := k_nam hp_0
  refine PW.aload_n q_91_0 rfl ?_
  refine PW.gI q_91_1 (Or.inl t_ft_91_58) gF_1_5 kd_1 I.1 (by decide) fun x1 fx1 hx1 kx1 => ?_
  have ix1 := o_i_of fx1
  clear hx1 kx1
  refine PW.cI q_91_4 (by decide) fun c2 hc2 => ?_
  refine PW.jc_eq q_91_5 rfl (fun h3 => ?_) (fun h3 => ?_)
  · skip
    refine PW.aload_n q_91_16 rfl ?_
    refine PW.iload_n q_91_17 rfl ?_
    refine PW.aload_n q_91_18 rfl ?_
    refine PW.gL q_91_19 (Or.inl t_ft_91_77) gF_1_7 kd_1 I.1 (by decide) fun l4 fl4 => ?_
    refine PW.callS (as := [_, _, _]) (rest := []) q_91_22 t_ms_91_107 (by decide) rfl (Nat.le_of_ble_eq_true rfl) (Nat.le_of_ble_eq_true rfl) (by decide) (by decide) ?_
    refine PW.up (by decide) (c_X7_indexOf_vk (V) (hV) G _ M I k1 hk_k1 a2 l4 (by omega) (by omega) f m hp_1 (by omega) fun x6  hx6 kx6 PM5 => ?_)
    refine PW.istore_n q_91_25 (by decide) ?_
    have eV : k_fd f (kV y i) m.toNat = k_fd f l4.toInt m.toNat := by rw [← o_J_of fl4, show o_J (M 1) 7 = kV y i from by rcases w with q | q; (· exact q.2.2.2); (· omega)]
    refine PW.iload_n q_91_26 rfl ?_
    refine PW.cI q_91_27 (by decide) fun c7 hc7 => ?_
    refine PW.jc_ne q_91_28 rfl (fun h8 => ?_) (fun h8 => ?_)
    · skip
      refine PW.iload_n q_91_37 rfl ?_
      refine PW.rI q_91_38 rfl (by decide) (by decide) ?_
      exact hK x6 M I F (by omega) (by omega) (Or.inr (Or.inr ⟨by omega, by omega, by omega, hp_0⟩))
    · skip
      refine PW.aload_n q_91_31 rfl ?_
      refine PW.cI q_91_32 (by decide) fun c9 hc9 => ?_
      refine PW.cV (as := [_]) (rest := []) q_91_33 t_mv_91_97 kd_1 I.1 (by decide) rfl (by decide) rfl rfl (Nat.le_of_ble_eq_true rfl) (Nat.le_of_ble_eq_true rfl) (by decide) (by decide) ?_
      refine PW.up (by decide) (c_X7_fail_vk (V) (hV) G _ M I c9 _ _ hp_0 fun x11 M10 IM10 GM10 hx11 kx11 PM10 => ?_)
      have FM10 := Fr.trans F GM10 (rfl)
      rcases PM10 with ⟨PfM10, PgM10⟩
      refine PW.pop q_91_36 rfl ?_
      refine PW.iload_n q_91_37 rfl ?_
      refine PW.rI q_91_38 rfl (by decide) (by decide) ?_
      exact hK x6 M10 IM10 FM10 (by omega) (by omega) (Or.inr (Or.inl ⟨by omega, by omega, by omega, by omega, by omega⟩))
  · skip
    refine PW.aload_n q_91_8 rfl ?_
    refine PW.cI q_91_9 (by decide) fun c12 hc12 => ?_
    refine PW.cV (as := [_]) (rest := []) q_91_10 t_mv_91_97 kd_1 I.1 (by decide) rfl (by decide) rfl rfl (Nat.le_of_ble_eq_true rfl) (Nat.le_of_ble_eq_true rfl) (by decide) (by decide) ?_
    refine PW.up (by decide) (c_X7_fail_vk (V) (hV) G _ M I c12 _ _ hp_0 fun x14 M13 IM13 GM13 hx14 kx14 PM13 => ?_)
    have FM13 := Fr.trans F GM13 (rfl)
    rcases PM13 with ⟨PfM13, PgM13⟩
    refine PW.pop q_91_13 rfl ?_
    refine PW.cI q_91_14 (by decide) fun c15 hc15 => ?_
    refine PW.rI q_91_15 rfl (by decide) (by decide) ?_
    exact hK c15 M13 IM13 FM13 (by omega) (by omega) (Or.inl ⟨by omega, by omega, by omega, by omega⟩)
theorem c_X7_indexOf_vkd (V : pM → Prop) (hV : Stab V) (G : pG) (Kr : pK) (M : pM) (I : Iv V M) (k0 : Nat) (hk_k0 : g_kd k0 = 31) (a1 : Int32) (a2 : Int64) (hl_a1 : 0 ≤ a1.toInt) (hh_a1 : a1.toInt ≤ 2) (f : Nat → Int) (m : Int) (hp_0 : ∀ j : Nat, (j : Int) < m → (o_l (M k0) j).toInt = f j) (hp_1 : a1.toInt = m) (hK : ∀ (x : Int32), -1 ≤ x.toInt → x.toInt ≤ 1 → (x.toInt = k_fd f a2.toInt m.toNat) → Kr.1 (some (.int x)) 311 M) : PW G false 0 92 (p_mc 92) (p_msl 92) Kr 0 (lv_args 0 [.ref k0, .int a1, .long a2]) [] 311 M 0 0 := by
  have F : Fr [] M M := Fr.refl
  refine PW.cI q_92_0 (by decide) fun c1 hc1 => ?_
  refine PW.istore q_92_1 (by decide) ?_
  have L92_3_2 : ∀ (n : Nat) (v3 : Int32), 0 ≤ v3.toInt → v3.toInt ≤ 2 → (∀ j : Nat, (j : Int) < v3.toInt → f j ≠ a2.toInt) → (2 - v3.toInt).toNat = n → PW G false 0 92 (p_mc 92) (p_msl 92) Kr 3 [(0, .ref k0), (1, .int a1), (2, .long a2), (4, .int v3)] [] 311 M 0 0 := by
    intro n
    induction n using Nat.strongRecOn with
    | ind n ih_L92_3_2 =>
    intro v3 hbL92_3_20 hbL92_3_21 hbL92_3_22 hmL92_3_2
    refine PW.iload q_92_3 rfl ?_
    refine PW.iload_n q_92_5 rfl ?_
    refine PW.jc_ge q_92_6 rfl (fun h4 => ?_) (fun h4 => ?_)
    · skip
      refine PW.cI q_92_34 (by decide) fun c5 hc5 => ?_
      refine PW.rI q_92_35 rfl (by decide) (by decide) ?_
      exact hK c5 (by omega) (by omega) (by rw [k_fd_no fun j hj => hbL92_3_22 j (by omega)]; omega)
    · skip
      refine PW.iload q_92_9 rfl ?_
      refine PW.aload_n q_92_11 rfl ?_
      refine PW.al2 q_92_12 rfl hk_k0 I.1 (by decide) (by decide) fun c6 hc6 => ?_
      refine PW.jc_ge q_92_13 rfl (fun h7 => False.elim (by omega)) (fun h7 => ?_)
      refine PW.aload_n q_92_16 rfl ?_
      refine PW.iload q_92_17 rfl ?_
      refine PW.aL q_92_19 rfl hk_k0 I.1 (by decide) (by omega) (by omega) fun l8 fl8 => ?_
      refine PW.lload_n q_92_20 rfl ?_
      refine PW.lcmpK q_92_21 fun x9 lax9 lcx9 => ?_
      refine PW.jz_ne q_92_22 rfl (fun h10 => ?_) (fun h10 => ?_)
      · skip
        refine PW.incN q_92_28 rfl (by decide) (by decide) (by omega) (by omega) fun x11 hx11 => ?_
        refine PW.goto q_92_31 rfl ?_
        exact PW.lvS (lk1 rfl (lk1 rfl (lk1 rfl (lk1 rfl lk0)))) (ih_L92_3_2 _ (by omega) x11 (by omega) (by omega) (fun j hj e => by by_cases q : j = v3.toInt.toNat; (· rw [q, ← hp_0 _ (by omega), fl8] at e; exact lax9 (by omega) e); (· exact hbL92_3_22 j (by omega) e)) rfl)
      · skip
        refine PW.iload q_92_25 rfl ?_
        refine PW.rI q_92_27 rfl (by decide) (by decide) ?_
        exact hK v3 (by omega) (by omega) (by rw [k_fd_hit (i := v3.toInt.toNat) (fun j hj => hbL92_3_22 j (by omega)) (by rw [← hp_0 _ (by omega), fl8]; exact lcx9 (by omega)) (by omega)]; omega)
  exact PW.lvS (lk1 rfl (lk1 rfl (lk1 rfl (lk1 rfl lk0)))) (L92_3_2 _ c1 (by omega) (by omega) (fun j hj => by omega) rfl)
theorem c_X7_needsKnown_vkd (V : pM → Prop) (hV : Stab V) (G : pG) (Kr : pK) (M : pM) (I : Iv V M) (k1 : Nat) (hk_k1 : g_kd k1 = 31) (a2 : Int32) (hl_a2 : 0 ≤ a2.toInt) (hh_a2 : a2.toInt ≤ 2) (y : k_X) (i : Nat) (f : Nat → Int) (m : Int) (hp_0 : k_at y M i) (hp_1 : ∀ j : Nat, (j : Int) < m → (o_l (M k1) j).toInt = f j) (hp_2 : a2.toInt = m) (hK : ∀ (x : Int32) (M1 : pM), Iv V M1 → Fr [1] M M1 → -1 ≤ x.toInt → x.toInt ≤ 1 → ((k_ni y i = 0 ∧ x.toInt = -1 ∧ o_i (M1 1) 10 = 1 ∧ o_i (M1 1) 11 = kP y i) ∨ (k_ni y i = 1 ∧ k_fd f (kV y i) m.toNat = -1 ∧ x.toInt = -1 ∧ o_i (M1 1) 10 = 3 ∧ o_i (M1 1) 11 = kP y i) ∨ (k_ni y i = 1 ∧ x.toInt = k_fd f (kV y i) m.toNat ∧ x.toInt ≠ -1 ∧ k_at y M1 i)) → Kr.1 (some (.int x)) 311 M1) : PW G false 1 91 (p_mc 91) (p_msl 91) Kr 0 (lv_args 0 [.ref 1, .ref k1, .int a2]) [] 311 M 0 0 := by
  have F : Fr [1] M M := Fr.refl
  have w := k_nam hp_0
  refine PW.aload_n q_91_0 rfl ?_
  refine PW.gI q_91_1 (Or.inl t_ft_91_58) gF_1_5 kd_1 I.1 (by decide) fun x1 fx1 hx1 kx1 => ?_
  have ix1 := o_i_of fx1
  clear hx1 kx1
  refine PW.cI q_91_4 (by decide) fun c2 hc2 => ?_
  refine PW.jc_eq q_91_5 rfl (fun h3 => ?_) (fun h3 => ?_)
  · skip
    refine PW.aload_n q_91_16 rfl ?_
    refine PW.iload_n q_91_17 rfl ?_
    refine PW.aload_n q_91_18 rfl ?_
    refine PW.gL q_91_19 (Or.inl t_ft_91_77) gF_1_7 kd_1 I.1 (by decide) fun l4 fl4 => ?_
    refine PW.callS (as := [_, _, _]) (rest := []) q_91_22 t_ms_91_107 (by decide) rfl (Nat.le_of_ble_eq_true rfl) (Nat.le_of_ble_eq_true rfl) (by decide) (by decide) ?_
    refine PW.up (by decide) (c_X7_indexOf_vkd (V) (hV) G _ M I k1 hk_k1 a2 l4 (by omega) (by omega) f m hp_1 (by omega) fun x6  hx6 kx6 PM5 => ?_)
    refine PW.istore_n q_91_25 (by decide) ?_
    have eV : k_fd f (kV y i) m.toNat = k_fd f l4.toInt m.toNat := by rw [← o_J_of fl4, show o_J (M 1) 7 = kV y i from by rcases w with q | q; (· exact q.2.2.2); (· omega)]
    refine PW.iload_n q_91_26 rfl ?_
    refine PW.cI q_91_27 (by decide) fun c7 hc7 => ?_
    refine PW.jc_ne q_91_28 rfl (fun h8 => ?_) (fun h8 => ?_)
    · skip
      refine PW.iload_n q_91_37 rfl ?_
      refine PW.rI q_91_38 rfl (by decide) (by decide) ?_
      exact hK x6 M I F (by omega) (by omega) (Or.inr (Or.inr ⟨by omega, by omega, by omega, hp_0⟩))
    · skip
      refine PW.aload_n q_91_31 rfl ?_
      refine PW.cI q_91_32 (by decide) fun c9 hc9 => ?_
      refine PW.cV (as := [_]) (rest := []) q_91_33 t_mv_91_97 kd_1 I.1 (by decide) rfl (by decide) rfl rfl (Nat.le_of_ble_eq_true rfl) (Nat.le_of_ble_eq_true rfl) (by decide) (by decide) ?_
      refine PW.up (by decide) (c_X7_fail_vk (V) (hV) G _ M I c9 _ _ hp_0 fun x11 M10 IM10 GM10 hx11 kx11 PM10 => ?_)
      have FM10 := Fr.trans F GM10 (rfl)
      rcases PM10 with ⟨PfM10, PgM10⟩
      refine PW.pop q_91_36 rfl ?_
      refine PW.iload_n q_91_37 rfl ?_
      refine PW.rI q_91_38 rfl (by decide) (by decide) ?_
      exact hK x6 M10 IM10 FM10 (by omega) (by omega) (Or.inr (Or.inl ⟨by omega, by omega, by omega, by omega, by omega⟩))
  · skip
    refine PW.aload_n q_91_8 rfl ?_
    refine PW.cI q_91_9 (by decide) fun c12 hc12 => ?_
    refine PW.cV (as := [_]) (rest := []) q_91_10 t_mv_91_97 kd_1 I.1 (by decide) rfl (by decide) rfl rfl (Nat.le_of_ble_eq_true rfl) (Nat.le_of_ble_eq_true rfl) (by decide) (by decide) ?_
    refine PW.up (by decide) (c_X7_fail_vk (V) (hV) G _ M I c12 _ _ hp_0 fun x14 M13 IM13 GM13 hx14 kx14 PM13 => ?_)
    have FM13 := Fr.trans F GM13 (rfl)
    rcases PM13 with ⟨PfM13, PgM13⟩
    refine PW.pop q_91_13 rfl ?_
    refine PW.cI q_91_14 (by decide) fun c15 hc15 => ?_
    refine PW.rI q_91_15 rfl (by decide) (by decide) ?_
    exact hK c15 M13 IM13 FM13 (by omega) (by omega) (Or.inl ⟨by omega, by omega, by omega, by omega⟩)
