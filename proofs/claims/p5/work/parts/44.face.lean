theorem q_108_0 : p_tb 108 0 = some (.aload_n 0, 1) := by decide +kernel
theorem q_108_1 : p_tb 108 1 = some (.iload_n 1, 1) := by decide +kernel
theorem q_108_2 : p_tb 108 2 = some (.invokevirtual 169, 3) := by decide +kernel
theorem q_108_5 : p_tb 108 5 = some (.ifCond .eq 13, 3) := by decide +kernel
theorem q_108_8 : p_tb 108 8 = some (.iload_n 2, 1) := by decide +kernel
theorem q_108_9 : p_tb 108 9 = some (.ifCond .lt 9, 3) := by decide +kernel
theorem q_108_12 : p_tb 108 12 = some (.iload_n 2, 1) := by decide +kernel
theorem q_108_13 : p_tb 108 13 = some (.bipush 6, 2) := by decide +kernel
theorem q_108_15 : p_tb 108 15 = some (.if_icmp .le 11, 3) := by decide +kernel
theorem q_108_18 : p_tb 108 18 = some (.new 173, 3) := by decide +kernel
theorem q_108_26 : p_tb 108 26 = some (.aload_n 0, 1) := by decide +kernel
theorem q_108_27 : p_tb 108 27 = some (.getfield 19, 3) := by decide +kernel
theorem q_108_30 : p_tb 108 30 = some (.getfield 101, 3) := by decide +kernel
theorem q_108_33 : p_tb 108 33 = some (.getfield 176, 3) := by decide +kernel
theorem q_108_36 : p_tb 108 36 = some (.iload_n 1, 1) := by decide +kernel
theorem q_108_37 : p_tb 108 37 = some (.aaload, 1) := by decide +kernel
theorem q_108_38 : p_tb 108 38 = some (.astore_n 3, 1) := by decide +kernel
theorem q_108_39 : p_tb 108 39 = some (.iload_n 2, 1) := by decide +kernel
theorem q_108_40 : p_tb 108 40 = some (.tableswitch 102 0 5 #[40, 45, 58, 71, 84, 97], 40) := by decide +kernel
theorem q_108_80 : p_tb 108 80 = some (.aload_n 3, 1) := by decide +kernel
theorem q_108_81 : p_tb 108 81 = some (.getfield 179, 3) := by decide +kernel
theorem q_108_84 : p_tb 108 84 = some (.ireturn, 1) := by decide +kernel
theorem q_108_85 : p_tb 108 85 = some (.aload_n 0, 1) := by decide +kernel
theorem q_108_86 : p_tb 108 86 = some (.getfield 19, 3) := by decide +kernel
theorem q_108_89 : p_tb 108 89 = some (.getfield 94, 3) := by decide +kernel
theorem q_108_92 : p_tb 108 92 = some (.getfield 184, 3) := by decide +kernel
theorem q_108_95 : p_tb 108 95 = some (.iload_n 1, 1) := by decide +kernel
theorem q_108_96 : p_tb 108 96 = some (.iaload, 1) := by decide +kernel
theorem q_108_97 : p_tb 108 97 = some (.ireturn, 1) := by decide +kernel
theorem q_108_98 : p_tb 108 98 = some (.aload_n 3, 1) := by decide +kernel
theorem q_108_99 : p_tb 108 99 = some (.getfield 188, 3) := by decide +kernel
theorem q_108_102 : p_tb 108 102 = some (.ifCond .eq 7, 3) := by decide +kernel
theorem q_108_105 : p_tb 108 105 = some (.iconst 1, 1) := by decide +kernel
theorem q_108_106 : p_tb 108 106 = some (.goto 4, 3) := by decide +kernel
theorem q_108_109 : p_tb 108 109 = some (.iconst 0, 1) := by decide +kernel
theorem q_108_110 : p_tb 108 110 = some (.ireturn, 1) := by decide +kernel
theorem q_108_111 : p_tb 108 111 = some (.aload_n 3, 1) := by decide +kernel
theorem q_108_112 : p_tb 108 112 = some (.getfield 191, 3) := by decide +kernel
theorem q_108_115 : p_tb 108 115 = some (.ifCond .eq 7, 3) := by decide +kernel
theorem q_108_118 : p_tb 108 118 = some (.iconst 1, 1) := by decide +kernel
theorem q_108_119 : p_tb 108 119 = some (.goto 4, 3) := by decide +kernel
theorem q_108_122 : p_tb 108 122 = some (.iconst 0, 1) := by decide +kernel
theorem q_108_123 : p_tb 108 123 = some (.ireturn, 1) := by decide +kernel
theorem q_108_124 : p_tb 108 124 = some (.aload_n 3, 1) := by decide +kernel
theorem q_108_125 : p_tb 108 125 = some (.getfield 194, 3) := by decide +kernel
theorem q_108_128 : p_tb 108 128 = some (.ifCond .eq 7, 3) := by decide +kernel
theorem q_108_131 : p_tb 108 131 = some (.iconst 1, 1) := by decide +kernel
theorem q_108_132 : p_tb 108 132 = some (.goto 4, 3) := by decide +kernel
theorem q_108_135 : p_tb 108 135 = some (.iconst 0, 1) := by decide +kernel
theorem q_108_136 : p_tb 108 136 = some (.ireturn, 1) := by decide +kernel
theorem q_108_137 : p_tb 108 137 = some (.aload_n 3, 1) := by decide +kernel
theorem q_108_138 : p_tb 108 138 = some (.getfield 197, 3) := by decide +kernel
theorem q_108_141 : p_tb 108 141 = some (.ireturn, 1) := by decide +kernel
theorem q_108_142 : p_tb 108 142 = some (.aload_n 3, 1) := by decide +kernel
theorem q_108_143 : p_tb 108 143 = some (.getfield 200, 3) := by decide +kernel
theorem q_108_146 : p_tb 108 146 = some (.ireturn, 1) := by decide +kernel
theorem t_fN_108_101 : p_f2 p_fN (p_mK 108) 101 = some (9, 1) := by decide +kernel
theorem t_fN_108_176 : p_f2 p_fN (p_mK 108) 176 = some (5, 3) := by decide +kernel
theorem t_fN_108_179 : p_f2 p_fN (p_mK 108) 179 = some (8, 0) := by decide +kernel
theorem t_fN_108_184 : p_f2 p_fN (p_mK 108) 184 = some (3, 10) := by decide +kernel
theorem t_fN_108_188 : p_f2 p_fN (p_mK 108) 188 = some (8, 1) := by decide +kernel
theorem t_fN_108_191 : p_f2 p_fN (p_mK 108) 191 = some (8, 2) := by decide +kernel
theorem t_fN_108_194 : p_f2 p_fN (p_mK 108) 194 = some (8, 3) := by decide +kernel
theorem t_fN_108_197 : p_f2 p_fN (p_mK 108) 197 = some (8, 5) := by decide +kernel
theorem t_fN_108_200 : p_f2 p_fN (p_mK 108) 200 = some (8, 6) := by decide +kernel
theorem t_fN_108_94 : p_f2 p_fN (p_mK 108) 94 = some (9, 0) := by decide +kernel
theorem t_ft_108_19 : p_f2 p_ft (p_mK 108) 19 = some (10, 1) := by decide +kernel
theorem t_mv_108_169 : p_f2 p_mv (p_mK 108) 169 = some 143 := by decide +kernel
theorem q_109_0 : p_tb 109 0 = some (.aload_n 0, 1) := by decide +kernel
theorem q_109_1 : p_tb 109 1 = some (.iload_n 1, 1) := by decide +kernel
theorem q_109_2 : p_tb 109 2 = some (.invokevirtual 203, 3) := by decide +kernel
theorem q_109_5 : p_tb 109 5 = some (.ifCond .eq 13, 3) := by decide +kernel
theorem q_109_8 : p_tb 109 8 = some (.iload_n 2, 1) := by decide +kernel
theorem q_109_9 : p_tb 109 9 = some (.ifCond .lt 9, 3) := by decide +kernel
theorem q_109_12 : p_tb 109 12 = some (.iload_n 2, 1) := by decide +kernel
theorem q_109_13 : p_tb 109 13 = some (.bipush 6, 2) := by decide +kernel
theorem q_109_15 : p_tb 109 15 = some (.if_icmp .le 11, 3) := by decide +kernel
theorem q_109_18 : p_tb 109 18 = some (.new 173, 3) := by decide +kernel
theorem q_109_26 : p_tb 109 26 = some (.aload_n 0, 1) := by decide +kernel
theorem q_109_27 : p_tb 109 27 = some (.getfield 19, 3) := by decide +kernel
theorem q_109_30 : p_tb 109 30 = some (.getfield 101, 3) := by decide +kernel
theorem q_109_33 : p_tb 109 33 = some (.getfield 206, 3) := by decide +kernel
theorem q_109_36 : p_tb 109 36 = some (.iload_n 1, 1) := by decide +kernel
theorem q_109_37 : p_tb 109 37 = some (.aaload, 1) := by decide +kernel
theorem q_109_38 : p_tb 109 38 = some (.astore_n 3, 1) := by decide +kernel
theorem q_109_39 : p_tb 109 39 = some (.iload_n 2, 1) := by decide +kernel
theorem q_109_40 : p_tb 109 40 = some (.tableswitch 70 0 5 #[40, 45, 50, 55, 60, 65], 40) := by decide +kernel
theorem q_109_80 : p_tb 109 80 = some (.aload_n 3, 1) := by decide +kernel
theorem q_109_81 : p_tb 109 81 = some (.getfield 210, 3) := by decide +kernel
theorem q_109_84 : p_tb 109 84 = some (.ireturn, 1) := by decide +kernel
theorem q_109_85 : p_tb 109 85 = some (.aload_n 3, 1) := by decide +kernel
theorem q_109_86 : p_tb 109 86 = some (.getfield 213, 3) := by decide +kernel
theorem q_109_89 : p_tb 109 89 = some (.ireturn, 1) := by decide +kernel
theorem q_109_90 : p_tb 109 90 = some (.aload_n 3, 1) := by decide +kernel
theorem q_109_91 : p_tb 109 91 = some (.getfield 215, 3) := by decide +kernel
theorem q_109_94 : p_tb 109 94 = some (.ireturn, 1) := by decide +kernel
theorem q_109_95 : p_tb 109 95 = some (.aload_n 3, 1) := by decide +kernel
theorem q_109_96 : p_tb 109 96 = some (.getfield 218, 3) := by decide +kernel
theorem q_109_99 : p_tb 109 99 = some (.ireturn, 1) := by decide +kernel
theorem q_109_100 : p_tb 109 100 = some (.aload_n 3, 1) := by decide +kernel
theorem q_109_101 : p_tb 109 101 = some (.getfield 221, 3) := by decide +kernel
theorem q_109_104 : p_tb 109 104 = some (.ireturn, 1) := by decide +kernel
theorem q_109_105 : p_tb 109 105 = some (.aload_n 3, 1) := by decide +kernel
theorem q_109_106 : p_tb 109 106 = some (.getfield 224, 3) := by decide +kernel
theorem q_109_109 : p_tb 109 109 = some (.ireturn, 1) := by decide +kernel
theorem q_109_110 : p_tb 109 110 = some (.aload_n 3, 1) := by decide +kernel
theorem q_109_111 : p_tb 109 111 = some (.getfield 227, 3) := by decide +kernel
theorem q_109_114 : p_tb 109 114 = some (.ireturn, 1) := by decide +kernel
theorem t_fN_109_101 : p_f2 p_fN (p_mK 109) 101 = some (9, 1) := by decide +kernel
theorem t_fN_109_206 : p_f2 p_fN (p_mK 109) 206 = some (5, 4) := by decide +kernel
theorem t_fN_109_210 : p_f2 p_fN (p_mK 109) 210 = some (0, 0) := by decide +kernel
theorem t_fN_109_213 : p_f2 p_fN (p_mK 109) 213 = some (0, 1) := by decide +kernel
theorem t_fN_109_215 : p_f2 p_fN (p_mK 109) 215 = some (0, 2) := by decide +kernel
theorem t_fN_109_218 : p_f2 p_fN (p_mK 109) 218 = some (0, 3) := by decide +kernel
theorem t_fN_109_221 : p_f2 p_fN (p_mK 109) 221 = some (0, 4) := by decide +kernel
theorem t_fN_109_224 : p_f2 p_fN (p_mK 109) 224 = some (0, 5) := by decide +kernel
theorem t_fN_109_227 : p_f2 p_fN (p_mK 109) 227 = some (0, 6) := by decide +kernel
theorem t_ft_109_19 : p_f2 p_ft (p_mK 109) 19 = some (10, 1) := by decide +kernel
theorem t_mv_109_203 : p_f2 p_mv (p_mK 109) 203 = some 144 := by decide +kernel
theorem q_138_0 : p_tb 138 0 = some (.aload_n 0, 1) := by decide +kernel
theorem q_138_1 : p_tb 138 1 = some (.iload_n 1, 1) := by decide +kernel
theorem q_138_2 : p_tb 138 2 = some (.iload_n 2, 1) := by decide +kernel
theorem q_138_3 : p_tb 138 3 = some (.iload_n 3, 1) := by decide +kernel
theorem q_138_4 : p_tb 138 4 = some (.invokevirtual 348, 3) := by decide +kernel
theorem q_138_7 : p_tb 138 7 = some (.ifCond .eq 14, 3) := by decide +kernel
theorem q_138_10 : p_tb 138 10 = some (.iload 4, 2) := by decide +kernel
theorem q_138_12 : p_tb 138 12 = some (.ifCond .lt 9, 3) := by decide +kernel
theorem q_138_15 : p_tb 138 15 = some (.iload 4, 2) := by decide +kernel
theorem q_138_17 : p_tb 138 17 = some (.iconst 1, 1) := by decide +kernel
theorem q_138_18 : p_tb 138 18 = some (.if_icmp .le 11, 3) := by decide +kernel
theorem q_138_21 : p_tb 138 21 = some (.new 173, 3) := by decide +kernel
theorem q_138_29 : p_tb 138 29 = some (.aload_n 0, 1) := by decide +kernel
theorem q_138_30 : p_tb 138 30 = some (.getfield 69, 3) := by decide +kernel
theorem q_138_33 : p_tb 138 33 = some (.iload_n 3, 1) := by decide +kernel
theorem q_138_34 : p_tb 138 34 = some (.aload_n 0, 1) := by decide +kernel
theorem q_138_35 : p_tb 138 35 = some (.getfield 19, 3) := by decide +kernel
theorem q_138_38 : p_tb 138 38 = some (.getfield 101, 3) := by decide +kernel
theorem q_138_41 : p_tb 138 41 = some (.iload_n 1, 1) := by decide +kernel
theorem q_138_42 : p_tb 138 42 = some (.iload_n 2, 1) := by decide +kernel
theorem q_138_43 : p_tb 138 43 = some (.invokevirtual 260, 3) := by decide +kernel
theorem q_138_46 : p_tb 138 46 = some (.imul, 1) := by decide +kernel
theorem q_138_47 : p_tb 138 47 = some (.i2l, 1) := by decide +kernel
theorem q_138_48 : p_tb 138 48 = some (.invokevirtual 352, 3) := by decide +kernel
theorem q_138_51 : p_tb 138 51 = some (.aload_n 0, 1) := by decide +kernel
theorem q_138_52 : p_tb 138 52 = some (.getfield 69, 3) := by decide +kernel
theorem q_138_55 : p_tb 138 55 = some (.lconst 1, 1) := by decide +kernel
theorem q_138_56 : p_tb 138 56 = some (.aload_n 0, 1) := by decide +kernel
theorem q_138_57 : p_tb 138 57 = some (.getfield 19, 3) := by decide +kernel
theorem q_138_60 : p_tb 138 60 = some (.getfield 94, 3) := by decide +kernel
theorem q_138_63 : p_tb 138 63 = some (.getfield 184, 3) := by decide +kernel
theorem q_138_66 : p_tb 138 66 = some (.iload_n 1, 1) := by decide +kernel
theorem q_138_67 : p_tb 138 67 = some (.iaload, 1) := by decide +kernel
theorem q_138_68 : p_tb 138 68 = some (.aload_n 0, 1) := by decide +kernel
theorem q_138_69 : p_tb 138 69 = some (.getfield 19, 3) := by decide +kernel
theorem q_138_72 : p_tb 138 72 = some (.getfield 94, 3) := by decide +kernel
theorem q_138_75 : p_tb 138 75 = some (.getfield 184, 3) := by decide +kernel
theorem q_138_78 : p_tb 138 78 = some (.iload_n 2, 1) := by decide +kernel
theorem q_138_79 : p_tb 138 79 = some (.iaload, 1) := by decide +kernel
theorem q_138_80 : p_tb 138 80 = some (.iadd, 1) := by decide +kernel
theorem q_138_81 : p_tb 138 81 = some (.i2l, 1) := by decide +kernel
theorem q_138_82 : p_tb 138 82 = some (.invokevirtual 355, 3) := by decide +kernel
theorem q_138_85 : p_tb 138 85 = some (.iload 4, 2) := by decide +kernel
theorem q_138_87 : p_tb 138 87 = some (.ifCond .ne 13, 3) := by decide +kernel
theorem q_138_90 : p_tb 138 90 = some (.aload_n 0, 1) := by decide +kernel
theorem q_138_91 : p_tb 138 91 = some (.getfield 69, 3) := by decide +kernel
theorem q_138_94 : p_tb 138 94 = some (.getfield 359, 3) := by decide +kernel
theorem q_138_97 : p_tb 138 97 = some (.goto 10, 3) := by decide +kernel
theorem q_138_100 : p_tb 138 100 = some (.aload_n 0, 1) := by decide +kernel
theorem q_138_101 : p_tb 138 101 = some (.getfield 69, 3) := by decide +kernel
theorem q_138_104 : p_tb 138 104 = some (.getfield 363, 3) := by decide +kernel
theorem q_138_107 : p_tb 138 107 = some (.l2i, 1) := by decide +kernel
theorem q_138_108 : p_tb 138 108 = some (.ireturn, 1) := by decide +kernel
theorem t_fN_138_101 : p_f2 p_fN (p_mK 138) 101 = some (9, 1) := by decide +kernel
theorem t_fN_138_184 : p_f2 p_fN (p_mK 138) 184 = some (3, 10) := by decide +kernel
theorem t_fN_138_359 : p_f2 p_fN (p_mK 138) 359 = some (2, 0) := by decide +kernel
theorem t_fN_138_363 : p_f2 p_fN (p_mK 138) 363 = some (2, 1) := by decide +kernel
theorem t_fN_138_94 : p_f2 p_fN (p_mK 138) 94 = some (9, 0) := by decide +kernel
theorem t_ft_138_19 : p_f2 p_ft (p_mK 138) 19 = some (10, 1) := by decide +kernel
theorem t_ft_138_69 : p_f2 p_ft (p_mK 138) 69 = some (10, 9) := by decide +kernel
theorem t_mv_138_260 : p_f2 p_mv (p_mK 138) 260 = some 49 := by decide +kernel
theorem t_mv_138_348 : p_f2 p_mv (p_mK 138) 348 = some 159 := by decide +kernel
theorem t_mv_138_352 : p_f2 p_mv (p_mK 138) 352 = some 16 := by decide +kernel
theorem t_mv_138_355 : p_f2 p_mv (p_mK 138) 355 = some 17 := by decide +kernel
theorem q_139_0 : p_tb 139 0 = some (.aload_n 0, 1) := by decide +kernel
theorem q_139_1 : p_tb 139 1 = some (.iload_n 1, 1) := by decide +kernel
theorem q_139_2 : p_tb 139 2 = some (.iload_n 2, 1) := by decide +kernel
theorem q_139_3 : p_tb 139 3 = some (.iload_n 3, 1) := by decide +kernel
theorem q_139_4 : p_tb 139 4 = some (.invokevirtual 348, 3) := by decide +kernel
theorem q_139_7 : p_tb 139 7 = some (.ifCond .eq 27, 3) := by decide +kernel
theorem q_139_10 : p_tb 139 10 = some (.iload 4, 2) := by decide +kernel
theorem q_139_12 : p_tb 139 12 = some (.iconst 1, 1) := by decide +kernel
theorem q_139_13 : p_tb 139 13 = some (.if_icmp .lt 21, 3) := by decide +kernel
theorem q_139_16 : p_tb 139 16 = some (.iload 4, 2) := by decide +kernel
theorem q_139_18 : p_tb 139 18 = some (.bipush 6, 2) := by decide +kernel
theorem q_139_20 : p_tb 139 20 = some (.if_icmp .gt 14, 3) := by decide +kernel
theorem q_139_23 : p_tb 139 23 = some (.iload 5, 2) := by decide +kernel
theorem q_139_25 : p_tb 139 25 = some (.ifCond .lt 9, 3) := by decide +kernel
theorem q_139_28 : p_tb 139 28 = some (.iload 5, 2) := by decide +kernel
theorem q_139_30 : p_tb 139 30 = some (.iconst 1, 1) := by decide +kernel
theorem q_139_31 : p_tb 139 31 = some (.if_icmp .le 11, 3) := by decide +kernel
theorem q_139_34 : p_tb 139 34 = some (.new 173, 3) := by decide +kernel
theorem q_139_42 : p_tb 139 42 = some (.aload_n 0, 1) := by decide +kernel
theorem q_139_43 : p_tb 139 43 = some (.getfield 69, 3) := by decide +kernel
theorem q_139_46 : p_tb 139 46 = some (.aload_n 0, 1) := by decide +kernel
theorem q_139_47 : p_tb 139 47 = some (.getfield 19, 3) := by decide +kernel
theorem q_139_50 : p_tb 139 50 = some (.getfield 101, 3) := by decide +kernel
theorem q_139_53 : p_tb 139 53 = some (.iload_n 1, 1) := by decide +kernel
theorem q_139_54 : p_tb 139 54 = some (.iload_n 2, 1) := by decide +kernel
theorem q_139_55 : p_tb 139 55 = some (.invokevirtual 260, 3) := by decide +kernel
theorem q_139_58 : p_tb 139 58 = some (.i2l, 1) := by decide +kernel
theorem q_139_59 : p_tb 139 59 = some (.invokevirtual 352, 3) := by decide +kernel
theorem q_139_62 : p_tb 139 62 = some (.iconst 1, 1) := by decide +kernel
theorem q_139_63 : p_tb 139 63 = some (.istore 6, 2) := by decide +kernel
theorem q_139_65 : p_tb 139 65 = some (.iload 6, 2) := by decide +kernel
theorem q_139_67 : p_tb 139 67 = some (.iload 4, 2) := by decide +kernel
theorem q_139_69 : p_tb 139 69 = some (.if_icmp .gt 18, 3) := by decide +kernel
theorem q_139_72 : p_tb 139 72 = some (.aload_n 0, 1) := by decide +kernel
theorem q_139_73 : p_tb 139 73 = some (.iload_n 1, 1) := by decide +kernel
theorem q_139_74 : p_tb 139 74 = some (.iload_n 2, 1) := by decide +kernel
theorem q_139_75 : p_tb 139 75 = some (.iload_n 3, 1) := by decide +kernel
theorem q_139_76 : p_tb 139 76 = some (.iload 6, 2) := by decide +kernel
theorem q_139_78 : p_tb 139 78 = some (.invokevirtual 366, 3) := by decide +kernel
theorem q_139_81 : p_tb 139 81 = some (.iinc 6 1, 3) := by decide +kernel
theorem q_139_84 : p_tb 139 84 = some (.goto (-19), 3) := by decide +kernel
theorem q_139_87 : p_tb 139 87 = some (.iload 5, 2) := by decide +kernel
theorem q_139_89 : p_tb 139 89 = some (.ifCond .ne 13, 3) := by decide +kernel
theorem q_139_92 : p_tb 139 92 = some (.aload_n 0, 1) := by decide +kernel
theorem q_139_93 : p_tb 139 93 = some (.getfield 69, 3) := by decide +kernel
theorem q_139_96 : p_tb 139 96 = some (.getfield 359, 3) := by decide +kernel
theorem q_139_99 : p_tb 139 99 = some (.goto 10, 3) := by decide +kernel
theorem q_139_102 : p_tb 139 102 = some (.aload_n 0, 1) := by decide +kernel
theorem q_139_103 : p_tb 139 103 = some (.getfield 69, 3) := by decide +kernel
theorem q_139_106 : p_tb 139 106 = some (.getfield 363, 3) := by decide +kernel
theorem q_139_109 : p_tb 139 109 = some (.lreturn, 1) := by decide +kernel
theorem t_fN_139_101 : p_f2 p_fN (p_mK 139) 101 = some (9, 1) := by decide +kernel
theorem t_fN_139_359 : p_f2 p_fN (p_mK 139) 359 = some (2, 0) := by decide +kernel
theorem t_fN_139_363 : p_f2 p_fN (p_mK 139) 363 = some (2, 1) := by decide +kernel
theorem t_ft_139_19 : p_f2 p_ft (p_mK 139) 19 = some (10, 1) := by decide +kernel
theorem t_ft_139_69 : p_f2 p_ft (p_mK 139) 69 = some (10, 9) := by decide +kernel
theorem t_mv_139_260 : p_f2 p_mv (p_mK 139) 260 = some 49 := by decide +kernel
theorem t_mv_139_348 : p_f2 p_mv (p_mK 139) 348 = some 159 := by decide +kernel
theorem t_mv_139_352 : p_f2 p_mv (p_mK 139) 352 = some 16 := by decide +kernel
theorem t_mv_139_366 : p_f2 p_mv (p_mK 139) 366 = some 160 := by decide +kernel
theorem q_140_0 : p_tb 140 0 = some (.aload_n 0, 1) := by decide +kernel
theorem q_140_1 : p_tb 140 1 = some (.iload_n 1, 1) := by decide +kernel
theorem q_140_2 : p_tb 140 2 = some (.iload_n 2, 1) := by decide +kernel
theorem q_140_3 : p_tb 140 3 = some (.iload_n 3, 1) := by decide +kernel
theorem q_140_4 : p_tb 140 4 = some (.invokevirtual 348, 3) := by decide +kernel
theorem q_140_7 : p_tb 140 7 = some (.ifCond .ne 11, 3) := by decide +kernel
theorem q_140_10 : p_tb 140 10 = some (.new 173, 3) := by decide +kernel
theorem q_140_18 : p_tb 140 18 = some (.aload_n 0, 1) := by decide +kernel
theorem q_140_19 : p_tb 140 19 = some (.getfield 69, 3) := by decide +kernel
theorem q_140_22 : p_tb 140 22 = some (.aload_n 0, 1) := by decide +kernel
theorem q_140_23 : p_tb 140 23 = some (.getfield 19, 3) := by decide +kernel
theorem q_140_26 : p_tb 140 26 = some (.getfield 101, 3) := by decide +kernel
theorem q_140_29 : p_tb 140 29 = some (.iload_n 1, 1) := by decide +kernel
theorem q_140_30 : p_tb 140 30 = some (.iload_n 2, 1) := by decide +kernel
theorem q_140_31 : p_tb 140 31 = some (.invokevirtual 260, 3) := by decide +kernel
theorem q_140_34 : p_tb 140 34 = some (.i2l, 1) := by decide +kernel
theorem q_140_35 : p_tb 140 35 = some (.invokevirtual 352, 3) := by decide +kernel
theorem q_140_38 : p_tb 140 38 = some (.iconst 1, 1) := by decide +kernel
theorem q_140_39 : p_tb 140 39 = some (.istore 4, 2) := by decide +kernel
theorem q_140_41 : p_tb 140 41 = some (.iload 4, 2) := by decide +kernel
theorem q_140_43 : p_tb 140 43 = some (.bipush 6, 2) := by decide +kernel
theorem q_140_45 : p_tb 140 45 = some (.if_icmp .gt 51, 3) := by decide +kernel
theorem q_140_48 : p_tb 140 48 = some (.aload_n 0, 1) := by decide +kernel
theorem q_140_49 : p_tb 140 49 = some (.iload_n 1, 1) := by decide +kernel
theorem q_140_50 : p_tb 140 50 = some (.iload_n 2, 1) := by decide +kernel
theorem q_140_51 : p_tb 140 51 = some (.iload_n 3, 1) := by decide +kernel
theorem q_140_52 : p_tb 140 52 = some (.iload 4, 2) := by decide +kernel
theorem q_140_54 : p_tb 140 54 = some (.invokevirtual 366, 3) := by decide +kernel
theorem q_140_57 : p_tb 140 57 = some (.aload_n 0, 1) := by decide +kernel
theorem q_140_58 : p_tb 140 58 = some (.getfield 69, 3) := by decide +kernel
theorem q_140_61 : p_tb 140 61 = some (.getfield 359, 3) := by decide +kernel
theorem q_140_64 : p_tb 140 64 = some (.aload_n 0, 1) := by decide +kernel
theorem q_140_65 : p_tb 140 65 = some (.getfield 19, 3) := by decide +kernel
theorem q_140_68 : p_tb 140 68 = some (.getfield 94, 3) := by decide +kernel
theorem q_140_71 : p_tb 140 71 = some (.getfield 254, 3) := by decide +kernel
theorem q_140_74 : p_tb 140 74 = some (.i2l, 1) := by decide +kernel
theorem q_140_75 : p_tb 140 75 = some (.aload_n 0, 1) := by decide +kernel
theorem q_140_76 : p_tb 140 76 = some (.getfield 69, 3) := by decide +kernel
theorem q_140_79 : p_tb 140 79 = some (.getfield 363, 3) := by decide +kernel
theorem q_140_82 : p_tb 140 82 = some (.lmul, 1) := by decide +kernel
theorem q_140_83 : p_tb 140 83 = some (.lcmp, 1) := by decide +kernel
theorem q_140_84 : p_tb 140 84 = some (.ifCond .gt 6, 3) := by decide +kernel
theorem q_140_87 : p_tb 140 87 = some (.iload 4, 2) := by decide +kernel
theorem q_140_89 : p_tb 140 89 = some (.ireturn, 1) := by decide +kernel
theorem q_140_90 : p_tb 140 90 = some (.iinc 4 1, 3) := by decide +kernel
theorem q_140_93 : p_tb 140 93 = some (.goto (-52), 3) := by decide +kernel
theorem q_140_96 : p_tb 140 96 = some (.iconst (-1), 1) := by decide +kernel
theorem q_140_97 : p_tb 140 97 = some (.ireturn, 1) := by decide +kernel
theorem t_fN_140_101 : p_f2 p_fN (p_mK 140) 101 = some (9, 1) := by decide +kernel
theorem t_fN_140_254 : p_f2 p_fN (p_mK 140) 254 = some (3, 2) := by decide +kernel
theorem t_fN_140_359 : p_f2 p_fN (p_mK 140) 359 = some (2, 0) := by decide +kernel
theorem t_fN_140_363 : p_f2 p_fN (p_mK 140) 363 = some (2, 1) := by decide +kernel
theorem t_fN_140_94 : p_f2 p_fN (p_mK 140) 94 = some (9, 0) := by decide +kernel
theorem t_ft_140_19 : p_f2 p_ft (p_mK 140) 19 = some (10, 1) := by decide +kernel
theorem t_ft_140_69 : p_f2 p_ft (p_mK 140) 69 = some (10, 9) := by decide +kernel
theorem t_mv_140_260 : p_f2 p_mv (p_mK 140) 260 = some 49 := by decide +kernel
theorem t_mv_140_348 : p_f2 p_mv (p_mK 140) 348 = some 159 := by decide +kernel
theorem t_mv_140_352 : p_f2 p_mv (p_mK 140) 352 = some 16 := by decide +kernel
theorem t_mv_140_366 : p_f2 p_mv (p_mK 140) 366 = some 160 := by decide +kernel
theorem c_X11_walker (G : pG) (Kr : pK) (M : pM) (I : Iv gTT M) (a1 : Int32) (a2 : Int32) (hK : ∀ (x : Int32) (M1 : pM), Iv gTT M1 → Fr [] M M1 → Kr.1 (some (.int x)) 311 M1) (hX : ∀ (lv1 : List (Nat × Value)) (M1 : pM), Iv gTT M1 → Fr [] M M1 → Kr.2 18 lv1 [] 311 M1 0 0) : PW G false 1 108 1 6 Kr 0 (lv_args 0 [.ref 0, .int a1, .int a2]) [] 311 M 0 0 := by
  have F : Fr [] M M := Fr.refl
  refine PW.aload_n q_108_0 rfl ?_
  refine PW.iload_n q_108_1 rfl ?_
  refine PW.cV (as := [_]) (rest := []) q_108_2 t_mv_108_169 kd_0 I.1 (by decide) rfl (by decide) rfl rfl (Nat.le_of_ble_eq_true rfl) (Nat.le_of_ble_eq_true rfl) (by decide) (by decide) ?_
  refine PW.iload_n q_143_0 rfl ?_
  refine PW.jz_lt q_143_1 rfl (fun h1 => ?_) (fun h1 => ?_)
  · skip
    refine PW.cI q_143_22 (by decide) fun c2 hc2 => ?_
    refine PW.rZ q_143_23 rfl (by omega) (by omega) (by decide) (by decide) ?_
    refine PW.jz_eq q_108_5 rfl (fun h3 => ?_) (fun h3 => False.elim (by omega))
    exact PW.exit (hX _ M I F)
  · skip
    refine PW.iload_n q_143_4 rfl ?_
    refine PW.aload_n q_143_5 rfl ?_
    refine PW.gR 3 q_143_6 (Or.inl t_ft_143_19) gF_0_1 kd_0 I.1 (by decide) rfl ?_
    refine PW.gR 4 q_143_9 (Or.inr t_fN_143_94) gF_3_0 kd_3 I.1 (by decide) rfl ?_
    refine PW.gI q_143_12 (Or.inr t_fN_143_136) gF_4_6 kd_4 I.1 (by decide) fun x4 fx4 hx4 kx4 => ?_
    refine PW.jc_ge q_143_15 rfl (fun h5 => ?_) (fun h5 => ?_)
    · skip
      refine PW.cI q_143_22 (by decide) fun c6 hc6 => ?_
      refine PW.rZ q_143_23 rfl (by omega) (by omega) (by decide) (by decide) ?_
      refine PW.jz_eq q_108_5 rfl (fun h7 => ?_) (fun h7 => False.elim (by omega))
      exact PW.exit (hX _ M I F)
    · skip
      refine PW.cI q_143_18 (by decide) fun c8 hc8 => ?_
      refine PW.goto q_143_19 rfl ?_
      refine PW.rZ q_143_23 rfl (by omega) (by omega) (by decide) (by decide) ?_
      refine PW.jz_eq q_108_5 rfl (fun h9 => False.elim (by omega)) (fun h9 => ?_)
      refine PW.iload_n q_108_8 rfl ?_
      have J18_11 : ∀ (MJ18_11 : pM), Iv (gTT) MJ18_11 → Fr [] M MJ18_11 → o_f (MJ18_11 4) 6 = .int x4 → PW G false 1 108 1 6 Kr 18 [(0, .ref 0), (1, .int a1), (2, .int a2)] [] 311 MJ18_11 0 0 := by
        intro MJ18_11  IMJ18_11 FMJ18_11 hbJ18_110
        exact PW.exit (hX _ MJ18_11 IMJ18_11 FMJ18_11)
      refine PW.jz_lt q_108_9 rfl (fun h10 => ?_) (fun h10 => ?_)
      · skip
        exact PW.lvS (lk1 rfl (lk1 rfl (lk1 rfl lk0))) (J18_11 M  I F fx4)
      · skip
        refine PW.iload_n q_108_12 rfl ?_
        refine PW.cB q_108_13 (by decide) fun c12 hc12 => ?_
        refine PW.jc_le q_108_15 rfl (fun h13 => ?_) (fun h13 => ?_)
        · skip
          refine PW.aload_n q_108_26 rfl ?_
          refine PW.gR 3 q_108_27 (Or.inl t_ft_108_19) gF_0_1 kd_0 I.1 (by decide) rfl ?_
          refine PW.gR 15 q_108_30 (Or.inr t_fN_108_101) gF_3_1 kd_3 I.1 (by decide) rfl ?_
          refine PW.gR 16 q_108_33 (Or.inr t_fN_108_176) gF_5_3 kd_15 I.1 (by decide) rfl ?_
          refine PW.iload_n q_108_36 rfl ?_
          refine PW.aRk q_108_37 rfl (by decide) (by decide) kd_16 I.1 (by decide) (by omega) (by omega) fun b14 hk_b14 e_b14 => ?_
          refine PW.astore_n q_108_38 (by decide) ?_
          refine PW.iload_n q_108_39 rfl ?_
          have h15 : a2.toInt = 0 ∨ a2.toInt = 1 ∨ a2.toInt = 2 ∨ a2.toInt = 3 ∨ a2.toInt = 4 ∨ a2.toInt = 5 ∨ (a2.toInt < 0 ∨ 5 < a2.toInt) := by omega
          rcases h15 with h15 | h15 | h15 | h15 | h15 | h15 | h15
          · skip
            refine PW.sw1 (0) h15 q_108_40 (by decide) (by decide) rfl rfl ?_
            refine PW.aload_n q_108_80 rfl ?_
            refine PW.gI q_108_81 (Or.inr t_fN_108_179) gF_7_0 hk_b14 I.1 (by decide) fun x16 fx16 hx16 kx16 => ?_
            clear hx16 kx16
            refine PW.rI q_108_84 rfl (by decide) (by decide) ?_
            exact hK x16 M I F
          · skip
            refine PW.sw1 (1) h15 q_108_40 (by decide) (by decide) rfl rfl ?_
            refine PW.aload_n q_108_85 rfl ?_
            refine PW.gR 3 q_108_86 (Or.inl t_ft_108_19) gF_0_1 kd_0 I.1 (by decide) rfl ?_
            refine PW.gR 4 q_108_89 (Or.inr t_fN_108_94) gF_3_0 kd_3 I.1 (by decide) rfl ?_
            refine PW.gR 7 q_108_92 (Or.inr t_fN_108_184) gF_4_10 kd_4 I.1 (by decide) rfl ?_
            refine PW.iload_n q_108_95 rfl ?_
            refine PW.aH q_108_96 gA_29 kd_7 I.1 (by decide) (by omega) (by omega) fun x17 fx17 => ?_
            refine PW.rI q_108_97 rfl (by decide) (by decide) ?_
            exact hK x17 M I F
          · skip
            refine PW.sw1 (2) h15 q_108_40 (by decide) (by decide) rfl rfl ?_
            refine PW.aload_n q_108_98 rfl ?_
            refine PW.gI q_108_99 (Or.inr t_fN_108_188) gF_7_1 hk_b14 I.1 (by decide) fun x18 fx18 hx18 kx18 => ?_
            refine PW.jz_eq q_108_102 rfl (fun h19 => ?_) (fun h19 => ?_)
            · skip
              refine PW.cI q_108_109 (by decide) fun c20 hc20 => ?_
              refine PW.rI q_108_110 rfl (by decide) (by decide) ?_
              exact hK c20 M I F
            · skip
              refine PW.cI q_108_105 (by decide) fun c21 hc21 => ?_
              refine PW.goto q_108_106 rfl ?_
              refine PW.rI q_108_110 rfl (by decide) (by decide) ?_
              exact hK c21 M I F
          · skip
            refine PW.sw1 (3) h15 q_108_40 (by decide) (by decide) rfl rfl ?_
            refine PW.aload_n q_108_111 rfl ?_
            refine PW.gI q_108_112 (Or.inr t_fN_108_191) gF_7_2 hk_b14 I.1 (by decide) fun x22 fx22 hx22 kx22 => ?_
            refine PW.jz_eq q_108_115 rfl (fun h23 => ?_) (fun h23 => ?_)
            · skip
              refine PW.cI q_108_122 (by decide) fun c24 hc24 => ?_
              refine PW.rI q_108_123 rfl (by decide) (by decide) ?_
              exact hK c24 M I F
            · skip
              refine PW.cI q_108_118 (by decide) fun c25 hc25 => ?_
              refine PW.goto q_108_119 rfl ?_
              refine PW.rI q_108_123 rfl (by decide) (by decide) ?_
              exact hK c25 M I F
          · skip
            refine PW.sw1 (4) h15 q_108_40 (by decide) (by decide) rfl rfl ?_
            refine PW.aload_n q_108_124 rfl ?_
            refine PW.gI q_108_125 (Or.inr t_fN_108_194) gF_7_3 hk_b14 I.1 (by decide) fun x26 fx26 hx26 kx26 => ?_
            refine PW.jz_eq q_108_128 rfl (fun h27 => ?_) (fun h27 => ?_)
            · skip
              refine PW.cI q_108_135 (by decide) fun c28 hc28 => ?_
              refine PW.rI q_108_136 rfl (by decide) (by decide) ?_
              exact hK c28 M I F
            · skip
              refine PW.cI q_108_131 (by decide) fun c29 hc29 => ?_
              refine PW.goto q_108_132 rfl ?_
              refine PW.rI q_108_136 rfl (by decide) (by decide) ?_
              exact hK c29 M I F
          · skip
            refine PW.sw1 (5) h15 q_108_40 (by decide) (by decide) rfl rfl ?_
            refine PW.aload_n q_108_137 rfl ?_
            refine PW.gI q_108_138 (Or.inr t_fN_108_197) gF_7_5 hk_b14 I.1 (by decide) fun x30 fx30 hx30 kx30 => ?_
            clear hx30 kx30
            refine PW.rI q_108_141 rfl (by decide) (by decide) ?_
            exact hK x30 M I F
          · skip
            refine PW.tswO q_108_40 h15 rfl ?_
            refine PW.aload_n q_108_142 rfl ?_
            refine PW.gI q_108_143 (Or.inr t_fN_108_200) gF_7_6 hk_b14 I.1 (by decide) fun x31 fx31 hx31 kx31 => ?_
            clear hx31 kx31
            refine PW.rI q_108_146 rfl (by decide) (by decide) ?_
            exact hK x31 M I F
        · skip
          exact PW.lvS (lk1 rfl (lk1 rfl (lk1 rfl lk0))) (J18_11 M  I F fx4)
theorem c_X11_dog (G : pG) (Kr : pK) (M : pM) (I : Iv gTT M) (a1 : Int32) (a2 : Int32) (hK : ∀ (x : Int32) (M1 : pM), Iv gTT M1 → Fr [] M M1 → Kr.1 (some (.int x)) 311 M1) (hX : ∀ (lv1 : List (Nat × Value)) (M1 : pM), Iv gTT M1 → Fr [] M M1 → Kr.2 18 lv1 [] 311 M1 0 0) : PW G false 1 109 1 6 Kr 0 (lv_args 0 [.ref 0, .int a1, .int a2]) [] 311 M 0 0 := by
  have F : Fr [] M M := Fr.refl
  refine PW.aload_n q_109_0 rfl ?_
  refine PW.iload_n q_109_1 rfl ?_
  refine PW.cV (as := [_]) (rest := []) q_109_2 t_mv_109_203 kd_0 I.1 (by decide) rfl (by decide) rfl rfl (Nat.le_of_ble_eq_true rfl) (Nat.le_of_ble_eq_true rfl) (by decide) (by decide) ?_
  refine PW.iload_n q_144_0 rfl ?_
  refine PW.jz_lt q_144_1 rfl (fun h1 => ?_) (fun h1 => ?_)
  · skip
    refine PW.cI q_144_22 (by decide) fun c2 hc2 => ?_
    refine PW.rZ q_144_23 rfl (by omega) (by omega) (by decide) (by decide) ?_
    refine PW.jz_eq q_109_5 rfl (fun h3 => ?_) (fun h3 => False.elim (by omega))
    exact PW.exit (hX _ M I F)
  · skip
    refine PW.iload_n q_144_4 rfl ?_
    refine PW.aload_n q_144_5 rfl ?_
    refine PW.gR 3 q_144_6 (Or.inl t_ft_144_19) gF_0_1 kd_0 I.1 (by decide) rfl ?_
    refine PW.gR 4 q_144_9 (Or.inr t_fN_144_94) gF_3_0 kd_3 I.1 (by decide) rfl ?_
    refine PW.gI q_144_12 (Or.inr t_fN_144_249) gF_4_7 kd_4 I.1 (by decide) fun x4 fx4 hx4 kx4 => ?_
    refine PW.jc_ge q_144_15 rfl (fun h5 => ?_) (fun h5 => ?_)
    · skip
      refine PW.cI q_144_22 (by decide) fun c6 hc6 => ?_
      refine PW.rZ q_144_23 rfl (by omega) (by omega) (by decide) (by decide) ?_
      refine PW.jz_eq q_109_5 rfl (fun h7 => ?_) (fun h7 => False.elim (by omega))
      exact PW.exit (hX _ M I F)
    · skip
      refine PW.cI q_144_18 (by decide) fun c8 hc8 => ?_
      refine PW.goto q_144_19 rfl ?_
      refine PW.rZ q_144_23 rfl (by omega) (by omega) (by decide) (by decide) ?_
      refine PW.jz_eq q_109_5 rfl (fun h9 => False.elim (by omega)) (fun h9 => ?_)
      refine PW.iload_n q_109_8 rfl ?_
      have J18_11 : ∀ (MJ18_11 : pM), Iv (gTT) MJ18_11 → Fr [] M MJ18_11 → o_f (MJ18_11 4) 7 = .int x4 → PW G false 1 109 1 6 Kr 18 [(0, .ref 0), (1, .int a1), (2, .int a2)] [] 311 MJ18_11 0 0 := by
        intro MJ18_11  IMJ18_11 FMJ18_11 hbJ18_110
        exact PW.exit (hX _ MJ18_11 IMJ18_11 FMJ18_11)
      refine PW.jz_lt q_109_9 rfl (fun h10 => ?_) (fun h10 => ?_)
      · skip
        exact PW.lvS (lk1 rfl (lk1 rfl (lk1 rfl lk0))) (J18_11 M  I F fx4)
      · skip
        refine PW.iload_n q_109_12 rfl ?_
        refine PW.cB q_109_13 (by decide) fun c12 hc12 => ?_
        refine PW.jc_le q_109_15 rfl (fun h13 => ?_) (fun h13 => ?_)
        · skip
          refine PW.aload_n q_109_26 rfl ?_
          refine PW.gR 3 q_109_27 (Or.inl t_ft_109_19) gF_0_1 kd_0 I.1 (by decide) rfl ?_
          refine PW.gR 15 q_109_30 (Or.inr t_fN_109_101) gF_3_1 kd_3 I.1 (by decide) rfl ?_
          refine PW.gR 23 q_109_33 (Or.inr t_fN_109_206) gF_5_4 kd_15 I.1 (by decide) rfl ?_
          refine PW.iload_n q_109_36 rfl ?_
          refine PW.aRk q_109_37 rfl (by decide) (by decide) kd_23 I.1 (by decide) (by omega) (by omega) fun b14 hk_b14 e_b14 => ?_
          refine PW.astore_n q_109_38 (by decide) ?_
          refine PW.iload_n q_109_39 rfl ?_
          have h15 : a2.toInt = 0 ∨ a2.toInt = 1 ∨ a2.toInt = 2 ∨ a2.toInt = 3 ∨ a2.toInt = 4 ∨ a2.toInt = 5 ∨ (a2.toInt < 0 ∨ 5 < a2.toInt) := by omega
          rcases h15 with h15 | h15 | h15 | h15 | h15 | h15 | h15
          · skip
            refine PW.sw1 (0) h15 q_109_40 (by decide) (by decide) rfl rfl ?_
            refine PW.aload_n q_109_80 rfl ?_
            refine PW.gI q_109_81 (Or.inr t_fN_109_210) gF_9_0 hk_b14 I.1 (by decide) fun x16 fx16 hx16 kx16 => ?_
            clear hx16 kx16
            refine PW.rI q_109_84 rfl (by decide) (by decide) ?_
            exact hK x16 M I F
          · skip
            refine PW.sw1 (1) h15 q_109_40 (by decide) (by decide) rfl rfl ?_
            refine PW.aload_n q_109_85 rfl ?_
            refine PW.gI q_109_86 (Or.inr t_fN_109_213) gF_9_1 hk_b14 I.1 (by decide) fun x17 fx17 hx17 kx17 => ?_
            clear hx17 kx17
            refine PW.rI q_109_89 rfl (by decide) (by decide) ?_
            exact hK x17 M I F
          · skip
            refine PW.sw1 (2) h15 q_109_40 (by decide) (by decide) rfl rfl ?_
            refine PW.aload_n q_109_90 rfl ?_
            refine PW.gI q_109_91 (Or.inr t_fN_109_215) gF_9_2 hk_b14 I.1 (by decide) fun x18 fx18 hx18 kx18 => ?_
            clear hx18 kx18
            refine PW.rI q_109_94 rfl (by decide) (by decide) ?_
            exact hK x18 M I F
          · skip
            refine PW.sw1 (3) h15 q_109_40 (by decide) (by decide) rfl rfl ?_
            refine PW.aload_n q_109_95 rfl ?_
            refine PW.gI q_109_96 (Or.inr t_fN_109_218) gF_9_3 hk_b14 I.1 (by decide) fun x19 fx19 hx19 kx19 => ?_
            refine PW.rI q_109_99 rfl (by decide) (by decide) ?_
            exact hK x19 M I F
          · skip
            refine PW.sw1 (4) h15 q_109_40 (by decide) (by decide) rfl rfl ?_
            refine PW.aload_n q_109_100 rfl ?_
            refine PW.gI q_109_101 (Or.inr t_fN_109_221) gF_9_4 hk_b14 I.1 (by decide) fun x20 fx20 hx20 kx20 => ?_
            clear hx20 kx20
            refine PW.rI q_109_104 rfl (by decide) (by decide) ?_
            exact hK x20 M I F
          · skip
            refine PW.sw1 (5) h15 q_109_40 (by decide) (by decide) rfl rfl ?_
            refine PW.aload_n q_109_105 rfl ?_
            refine PW.gI q_109_106 (Or.inr t_fN_109_224) gF_9_5 hk_b14 I.1 (by decide) fun x21 fx21 hx21 kx21 => ?_
            clear hx21 kx21
            refine PW.rI q_109_109 rfl (by decide) (by decide) ?_
            exact hK x21 M I F
          · skip
            refine PW.tswO q_109_40 h15 rfl ?_
            refine PW.aload_n q_109_110 rfl ?_
            refine PW.gI q_109_111 (Or.inr t_fN_109_227) gF_9_6 hk_b14 I.1 (by decide) fun x22 fx22 hx22 kx22 => ?_
            refine PW.rI q_109_114 rfl (by decide) (by decide) ?_
            exact hK x22 M I F
        · skip
          exact PW.lvS (lk1 rfl (lk1 rfl (lk1 rfl lk0))) (J18_11 M  I F fx4)
theorem c_X11_far (G : pG) (Kr : pK) (M : pM) (I : Iv gTT M) (a1 : Int32) (a2 : Int32) (a3 : Int32) (a4 : Int32) (hK : ∀ (x : Int32) (M1 : pM), Iv gTT M1 → Fr [26] M M1 → Kr.1 (some (.int x)) 311 M1) (hX : ∀ (lv1 : List (Nat × Value)) (M1 : pM), Iv gTT M1 → Fr [26] M M1 → Kr.2 21 lv1 [] 311 M1 0 0) : PW G false 3 138 1 6 Kr 0 (lv_args 0 [.ref 0, .int a1, .int a2, .int a3, .int a4]) [] 311 M 0 0 := by
  have F : Fr [26] M M := Fr.refl
  refine PW.aload_n q_138_0 rfl ?_
  refine PW.iload_n q_138_1 rfl ?_
  refine PW.iload_n q_138_2 rfl ?_
  refine PW.iload_n q_138_3 rfl ?_
  refine PW.cV (as := [_, _, _]) (rest := []) q_138_4 t_mv_138_348 kd_0 I.1 (by decide) rfl (by decide) rfl rfl (Nat.le_of_ble_eq_true rfl) (Nat.le_of_ble_eq_true rfl) (by decide) (by decide) ?_
  refine PW.up (by decide) (c_X11_areTwo G _ M I a1 a2 a3 fun x2 M1 IM1 GM1 hx2 kx2 PM1 => ?_)
  have FM1 := Fr.trans F GM1 (rfl)
  have J21_4 : ∀ (MJ21_4 : pM), Iv (gTT) MJ21_4 → Fr [26] M MJ21_4 → PW G false 3 138 1 6 Kr 21 [(0, .ref 0), (1, .int a1), (2, .int a2), (3, .int a3), (4, .int a4)] [] 311 MJ21_4 0 0 := by
    intro MJ21_4  IMJ21_4 FMJ21_4 
    exact PW.exit (hX _ MJ21_4 IMJ21_4 FMJ21_4)
  refine PW.jz_eq q_138_7 rfl (fun h3 => ?_) (fun h3 => ?_)
  · skip
    exact PW.lvS (lk1 rfl (lk1 rfl (lk1 rfl (lk1 rfl (lk1 rfl lk0))))) (J21_4 M1  IM1 FM1 )
  · skip
    refine PW.iload q_138_10 rfl ?_
    refine PW.jz_lt q_138_12 rfl (fun h5 => ?_) (fun h5 => ?_)
    · skip
      exact PW.lvS (lk1 rfl (lk1 rfl (lk1 rfl (lk1 rfl (lk1 rfl lk0))))) (J21_4 M1  IM1 FM1 )
    · skip
      refine PW.iload q_138_15 rfl ?_
      refine PW.cI q_138_17 (by decide) fun c6 hc6 => ?_
      refine PW.jc_le q_138_18 rfl (fun h7 => ?_) (fun h7 => ?_)
      · skip
        refine PW.aload_n q_138_29 rfl ?_
        refine PW.gR 293 q_138_30 (Or.inl t_ft_138_69) gF_0_9 kd_0 IM1.1 (by decide) rfl ?_
        refine PW.iload_n q_138_33 rfl ?_
        refine PW.aload_n q_138_34 rfl ?_
        refine PW.gR 3 q_138_35 (Or.inl t_ft_138_19) gF_0_1 kd_0 IM1.1 (by decide) rfl ?_
        refine PW.gR 15 q_138_38 (Or.inr t_fN_138_101) gF_3_1 kd_3 IM1.1 (by decide) rfl ?_
        refine PW.iload_n q_138_41 rfl ?_
        refine PW.iload_n q_138_42 rfl ?_
        refine PW.cV (as := [_, _]) (rest := [_, _]) q_138_43 t_mv_138_260 kd_15 IM1.1 (by decide) rfl (by decide) rfl rfl (Nat.le_of_ble_eq_true rfl) (Nat.le_of_ble_eq_true rfl) (by decide) (by decide) ?_
        refine PW.up (by decide) (c_X5_apart (gTT) (Stab0) G _ M1 IM1 15 kd_15 a1 a2 (by omega) (by omega) (by omega) (by omega) fun x9 M8 IM8 GM8 => ?_)
        have FM8 := Fr.trans FM1 GM8 (rfl)
        refine PW.mulH q_138_46 fun x10 => ?_
        refine PW.i2l q_138_47 ?_
        refine PW.cV (as := [_]) (rest := []) q_138_48 t_mv_138_352 kd_293 IM8.1 (by decide) rfl (by decide) rfl rfl (Nat.le_of_ble_eq_true rfl) (Nat.le_of_ble_eq_true rfl) (by decide) (by decide) ?_
        refine PW.up (by decide) (c_X2_begin (gTT) (Stab0) G _ M8 IM8 _ fun M11 IM11 GM11 => ?_)
        have FM11 := Fr.trans FM8 GM11 (rfl)
        refine PW.aload_n q_138_51 rfl ?_
        refine PW.gR 293 q_138_52 (Or.inl t_ft_138_69) gF_0_9 kd_0 IM11.1 (by decide) rfl ?_
        refine PW.lconst q_138_55 ?_
        refine PW.aload_n q_138_56 rfl ?_
        refine PW.gR 3 q_138_57 (Or.inl t_ft_138_19) gF_0_1 kd_0 IM11.1 (by decide) rfl ?_
        refine PW.gR 4 q_138_60 (Or.inr t_fN_138_94) gF_3_0 kd_3 IM11.1 (by decide) rfl ?_
        refine PW.gR 7 q_138_63 (Or.inr t_fN_138_184) gF_4_10 kd_4 IM11.1 (by decide) rfl ?_
        refine PW.iload_n q_138_66 rfl ?_
        refine PW.aH q_138_67 gA_29 kd_7 IM11.1 (by decide) (by omega) (by omega) fun x12 fx12 => ?_
        refine PW.aload_n q_138_68 rfl ?_
        refine PW.gR 3 q_138_69 (Or.inl t_ft_138_19) gF_0_1 kd_0 IM11.1 (by decide) rfl ?_
        refine PW.gR 4 q_138_72 (Or.inr t_fN_138_94) gF_3_0 kd_3 IM11.1 (by decide) rfl ?_
        refine PW.gR 7 q_138_75 (Or.inr t_fN_138_184) gF_4_10 kd_4 IM11.1 (by decide) rfl ?_
        refine PW.iload_n q_138_78 rfl ?_
        refine PW.aH q_138_79 gA_29 kd_7 IM11.1 (by decide) (by omega) (by omega) fun x13 fx13 => ?_
        refine PW.addH q_138_80 fun x14 => ?_
        refine PW.i2l q_138_81 ?_
        refine PW.cV (as := [_, _]) (rest := []) q_138_82 t_mv_138_355 kd_293 IM11.1 (by decide) rfl (by decide) rfl rfl (Nat.le_of_ble_eq_true rfl) (Nat.le_of_ble_eq_true rfl) (by decide) (by decide) ?_
        refine PW.up (by decide) (c_X2_times (gTT) (Stab0) G _ M11 IM11 _ _ fun M15 IM15 GM15 => ?_)
        have FM15 := Fr.trans FM11 GM15 (rfl)
        refine PW.iload q_138_85 rfl ?_
        refine PW.jz_ne q_138_87 rfl (fun h16 => ?_) (fun h16 => ?_)
        · skip
          refine PW.aload_n q_138_100 rfl ?_
          refine PW.gR 293 q_138_101 (Or.inl t_ft_138_69) gF_0_9 kd_0 IM15.1 (by decide) rfl ?_
          refine PW.gL q_138_104 (Or.inr t_fN_138_363) gF_26_1 kd_293 IM15.1 (by decide) fun l17 fl17 => ?_
          refine PW.l2i q_138_107 ?_
          refine PW.hvI fun x18 => ?_
          refine PW.rI q_138_108 rfl (by decide) (by decide) ?_
          exact hK x18 M15 IM15 FM15
        · skip
          refine PW.aload_n q_138_90 rfl ?_
          refine PW.gR 293 q_138_91 (Or.inl t_ft_138_69) gF_0_9 kd_0 IM15.1 (by decide) rfl ?_
          refine PW.gL q_138_94 (Or.inr t_fN_138_359) gF_26_0 kd_293 IM15.1 (by decide) fun l19 fl19 => ?_
          refine PW.goto q_138_97 rfl ?_
          refine PW.l2i q_138_107 ?_
          refine PW.hvI fun x20 => ?_
          refine PW.rI q_138_108 rfl (by decide) (by decide) ?_
          exact hK x20 M15 IM15 FM15
      · skip
        exact PW.lvS (lk1 rfl (lk1 rfl (lk1 rfl (lk1 rfl (lk1 rfl lk0))))) (J21_4 M1  IM1 FM1 )
theorem c_X11_near (G : pG) (Kr : pK) (M : pM) (I : Iv gTT M) (a1 : Int32) (a2 : Int32) (a3 : Int32) (a4 : Int32) (a5 : Int32) (hK : ∀ (x : Int64) (M1 : pM), Iv gTT M1 → Fr [26] M M1 → Kr.1 (some (.long x)) 311 M1) (hX : ∀ (lv1 : List (Nat × Value)) (M1 : pM), Iv gTT M1 → Fr [26] M M1 → Kr.2 34 lv1 [] 311 M1 0 0) : PW G false 3 139 1 6 Kr 0 (lv_args 0 [.ref 0, .int a1, .int a2, .int a3, .int a4, .int a5]) [] 311 M 0 0 := by
  have F : Fr [26] M M := Fr.refl
  refine PW.aload_n q_139_0 rfl ?_
  refine PW.iload_n q_139_1 rfl ?_
  refine PW.iload_n q_139_2 rfl ?_
  refine PW.iload_n q_139_3 rfl ?_
  refine PW.cV (as := [_, _, _]) (rest := []) q_139_4 t_mv_139_348 kd_0 I.1 (by decide) rfl (by decide) rfl rfl (Nat.le_of_ble_eq_true rfl) (Nat.le_of_ble_eq_true rfl) (by decide) (by decide) ?_
  refine PW.up (by decide) (c_X11_areTwo G _ M I a1 a2 a3 fun x2 M1 IM1 GM1 hx2 kx2 PM1 => ?_)
  have FM1 := Fr.trans F GM1 (rfl)
  have J34_4 : ∀ (MJ34_4 : pM), Iv (gTT) MJ34_4 → Fr [26] M MJ34_4 → PW G false 3 139 1 6 Kr 34 [(0, .ref 0), (1, .int a1), (2, .int a2), (3, .int a3), (4, .int a4), (5, .int a5)] [] 311 MJ34_4 0 0 := by
    intro MJ34_4  IMJ34_4 FMJ34_4 
    exact PW.exit (hX _ MJ34_4 IMJ34_4 FMJ34_4)
  refine PW.jz_eq q_139_7 rfl (fun h3 => ?_) (fun h3 => ?_)
  · skip
    exact PW.lvS (lk1 rfl (lk1 rfl (lk1 rfl (lk1 rfl (lk1 rfl (lk1 rfl lk0)))))) (J34_4 M1  IM1 FM1 )
  · skip
    refine PW.iload q_139_10 rfl ?_
    refine PW.cI q_139_12 (by decide) fun c5 hc5 => ?_
    refine PW.jc_lt q_139_13 rfl (fun h6 => ?_) (fun h6 => ?_)
    · skip
      exact PW.lvS (lk1 rfl (lk1 rfl (lk1 rfl (lk1 rfl (lk1 rfl (lk1 rfl lk0)))))) (J34_4 M1  IM1 FM1 )
    · skip
      refine PW.iload q_139_16 rfl ?_
      refine PW.cB q_139_18 (by decide) fun c7 hc7 => ?_
      refine PW.jc_gt q_139_20 rfl (fun h8 => ?_) (fun h8 => ?_)
      · skip
        exact PW.lvS (lk1 rfl (lk1 rfl (lk1 rfl (lk1 rfl (lk1 rfl (lk1 rfl lk0)))))) (J34_4 M1  IM1 FM1 )
      · skip
        refine PW.iload q_139_23 rfl ?_
        refine PW.jz_lt q_139_25 rfl (fun h9 => ?_) (fun h9 => ?_)
        · skip
          exact PW.lvS (lk1 rfl (lk1 rfl (lk1 rfl (lk1 rfl (lk1 rfl (lk1 rfl lk0)))))) (J34_4 M1  IM1 FM1 )
        · skip
          refine PW.iload q_139_28 rfl ?_
          refine PW.cI q_139_30 (by decide) fun c10 hc10 => ?_
          refine PW.jc_le q_139_31 rfl (fun h11 => ?_) (fun h11 => ?_)
          · skip
            refine PW.aload_n q_139_42 rfl ?_
            refine PW.gR 293 q_139_43 (Or.inl t_ft_139_69) gF_0_9 kd_0 IM1.1 (by decide) rfl ?_
            refine PW.aload_n q_139_46 rfl ?_
            refine PW.gR 3 q_139_47 (Or.inl t_ft_139_19) gF_0_1 kd_0 IM1.1 (by decide) rfl ?_
            refine PW.gR 15 q_139_50 (Or.inr t_fN_139_101) gF_3_1 kd_3 IM1.1 (by decide) rfl ?_
            refine PW.iload_n q_139_53 rfl ?_
            refine PW.iload_n q_139_54 rfl ?_
            refine PW.cV (as := [_, _]) (rest := [_]) q_139_55 t_mv_139_260 kd_15 IM1.1 (by decide) rfl (by decide) rfl rfl (Nat.le_of_ble_eq_true rfl) (Nat.le_of_ble_eq_true rfl) (by decide) (by decide) ?_
            refine PW.up (by decide) (c_X5_apart (gTT) (Stab0) G _ M1 IM1 15 kd_15 a1 a2 (by omega) (by omega) (by omega) (by omega) fun x13 M12 IM12 GM12 => ?_)
            have FM12 := Fr.trans FM1 GM12 (rfl)
            refine PW.i2l q_139_58 ?_
            refine PW.cV (as := [_]) (rest := []) q_139_59 t_mv_139_352 kd_293 IM12.1 (by decide) rfl (by decide) rfl rfl (Nat.le_of_ble_eq_true rfl) (Nat.le_of_ble_eq_true rfl) (by decide) (by decide) ?_
            refine PW.up (by decide) (c_X2_begin (gTT) (Stab0) G _ M12 IM12 _ fun M14 IM14 GM14 => ?_)
            have FM14 := Fr.trans FM12 GM14 (rfl)
            refine PW.cI q_139_62 (by decide) fun c15 hc15 => ?_
            refine PW.istore q_139_63 (by decide) ?_
            have L139_65_16 : ∀ (n : Nat) (ML139_65_16 : pM) (v17 : Int32), Iv (gTT) ML139_65_16 → Fr [26] M ML139_65_16 → 1 ≤ v17.toInt → v17.toInt ≤ 7 → (7 - v17.toInt).toNat = n → PW G false 3 139 1 6 Kr 65 [(0, .ref 0), (1, .int a1), (2, .int a2), (3, .int a3), (4, .int a4), (5, .int a5), (6, .int v17)] [] 311 ML139_65_16 0 0 := by
              intro n
              induction n using Nat.strongRecOn with
              | ind n ih_L139_65_16 =>
              intro ML139_65_16 v17 IML139_65_16 FML139_65_16 hbL139_65_160 hbL139_65_161 hmL139_65_16
              refine PW.iload q_139_65 rfl ?_
              refine PW.iload q_139_67 rfl ?_
              refine PW.jc_gt q_139_69 rfl (fun h18 => ?_) (fun h18 => ?_)
              · skip
                refine PW.iload q_139_87 rfl ?_
                refine PW.jz_ne q_139_89 rfl (fun h19 => ?_) (fun h19 => ?_)
                · skip
                  refine PW.aload_n q_139_102 rfl ?_
                  refine PW.gR 293 q_139_103 (Or.inl t_ft_139_69) gF_0_9 kd_0 IML139_65_16.1 (by decide) rfl ?_
                  refine PW.gL q_139_106 (Or.inr t_fN_139_363) gF_26_1 kd_293 IML139_65_16.1 (by decide) fun l20 fl20 => ?_
                  refine PW.lret q_139_109 rfl (by decide) (by decide) ?_
                  exact hK _ ML139_65_16 IML139_65_16 FML139_65_16
                · skip
                  refine PW.aload_n q_139_92 rfl ?_
                  refine PW.gR 293 q_139_93 (Or.inl t_ft_139_69) gF_0_9 kd_0 IML139_65_16.1 (by decide) rfl ?_
                  refine PW.gL q_139_96 (Or.inr t_fN_139_359) gF_26_0 kd_293 IML139_65_16.1 (by decide) fun l21 fl21 => ?_
                  refine PW.goto q_139_99 rfl ?_
                  refine PW.lret q_139_109 rfl (by decide) (by decide) ?_
                  exact hK _ ML139_65_16 IML139_65_16 FML139_65_16
              · skip
                refine PW.aload_n q_139_72 rfl ?_
                refine PW.iload_n q_139_73 rfl ?_
                refine PW.iload_n q_139_74 rfl ?_
                refine PW.iload_n q_139_75 rfl ?_
                refine PW.iload q_139_76 rfl ?_
                refine PW.cV (as := [_, _, _, _]) (rest := []) q_139_78 t_mv_139_366 kd_0 IML139_65_16.1 (by decide) rfl (by decide) rfl rfl (Nat.le_of_ble_eq_true rfl) (Nat.le_of_ble_eq_true rfl) (by decide) (by decide) ?_
                refine PW.up (by decide) (c_X11_shrink G _ ML139_65_16 IML139_65_16 a1 a2 a3 v17 (by omega) (by omega) (by omega) (by omega) fun M22 IM22 GM22 => ?_)
                have FM22 := Fr.trans FML139_65_16 GM22 (rfl)
                refine PW.incN q_139_81 rfl (by decide) (by decide) (by omega) (by omega) fun x23 hx23 => ?_
                refine PW.goto q_139_84 rfl ?_
                refine PW.lvS (lk1 rfl (lk1 rfl (lk1 rfl (lk1 rfl (lk1 rfl (lk1 rfl (lk1 rfl lk0))))))) (ih_L139_65_16 _ ?_ M22 x23 IM22 FM22 (by omega) (by omega) rfl)
                omega
            exact PW.lvS (lk1 rfl (lk1 rfl (lk1 rfl (lk1 rfl (lk1 rfl (lk1 rfl (lk1 rfl lk0))))))) (L139_65_16 _ M14 c15 IM14 FM14 (by omega) (by omega) rfl)
          · skip
            exact PW.lvS (lk1 rfl (lk1 rfl (lk1 rfl (lk1 rfl (lk1 rfl (lk1 rfl lk0)))))) (J34_4 M1  IM1 FM1 )
theorem c_X11_ends (G : pG) (Kr : pK) (M : pM) (I : Iv gTT M) (a1 : Int32) (a2 : Int32) (a3 : Int32) (hK : ∀ (x : Int32) (M1 : pM), Iv gTT M1 → Fr [26] M M1 → Kr.1 (some (.int x)) 311 M1) (hX : ∀ (lv1 : List (Nat × Value)) (M1 : pM), Iv gTT M1 → Fr [26] M M1 → Kr.2 10 lv1 [] 311 M1 0 0) : PW G false 3 140 1 6 Kr 0 (lv_args 0 [.ref 0, .int a1, .int a2, .int a3]) [] 311 M 0 0 := by
  have F : Fr [26] M M := Fr.refl
  refine PW.aload_n q_140_0 rfl ?_
  refine PW.iload_n q_140_1 rfl ?_
  refine PW.iload_n q_140_2 rfl ?_
  refine PW.iload_n q_140_3 rfl ?_
  refine PW.cV (as := [_, _, _]) (rest := []) q_140_4 t_mv_140_348 kd_0 I.1 (by decide) rfl (by decide) rfl rfl (Nat.le_of_ble_eq_true rfl) (Nat.le_of_ble_eq_true rfl) (by decide) (by decide) ?_
  refine PW.up (by decide) (c_X11_areTwo G _ M I a1 a2 a3 fun x2 M1 IM1 GM1 hx2 kx2 PM1 => ?_)
  have FM1 := Fr.trans F GM1 (rfl)
  refine PW.jz_ne q_140_7 rfl (fun h3 => ?_) (fun h3 => ?_)
  · skip
    refine PW.aload_n q_140_18 rfl ?_
    refine PW.gR 293 q_140_19 (Or.inl t_ft_140_69) gF_0_9 kd_0 IM1.1 (by decide) rfl ?_
    refine PW.aload_n q_140_22 rfl ?_
    refine PW.gR 3 q_140_23 (Or.inl t_ft_140_19) gF_0_1 kd_0 IM1.1 (by decide) rfl ?_
    refine PW.gR 15 q_140_26 (Or.inr t_fN_140_101) gF_3_1 kd_3 IM1.1 (by decide) rfl ?_
    refine PW.iload_n q_140_29 rfl ?_
    refine PW.iload_n q_140_30 rfl ?_
    refine PW.cV (as := [_, _]) (rest := [_]) q_140_31 t_mv_140_260 kd_15 IM1.1 (by decide) rfl (by decide) rfl rfl (Nat.le_of_ble_eq_true rfl) (Nat.le_of_ble_eq_true rfl) (by decide) (by decide) ?_
    refine PW.up (by decide) (c_X5_apart (gTT) (Stab0) G _ M1 IM1 15 kd_15 a1 a2 (by omega) (by omega) (by omega) (by omega) fun x5 M4 IM4 GM4 => ?_)
    have FM4 := Fr.trans FM1 GM4 (rfl)
    refine PW.i2l q_140_34 ?_
    refine PW.cV (as := [_]) (rest := []) q_140_35 t_mv_140_352 kd_293 IM4.1 (by decide) rfl (by decide) rfl rfl (Nat.le_of_ble_eq_true rfl) (Nat.le_of_ble_eq_true rfl) (by decide) (by decide) ?_
    refine PW.up (by decide) (c_X2_begin (gTT) (Stab0) G _ M4 IM4 _ fun M6 IM6 GM6 => ?_)
    have FM6 := Fr.trans FM4 GM6 (rfl)
    refine PW.cI q_140_38 (by decide) fun c7 hc7 => ?_
    refine PW.istore q_140_39 (by decide) ?_
    have L140_41_8 : ∀ (n : Nat) (ML140_41_8 : pM) (v9 : Int32), Iv (gTT) ML140_41_8 → Fr [26] M ML140_41_8 → 1 ≤ v9.toInt → v9.toInt ≤ 7 → (7 - v9.toInt).toNat = n → PW G false 3 140 1 6 Kr 41 [(0, .ref 0), (1, .int a1), (2, .int a2), (3, .int a3), (4, .int v9)] [] 311 ML140_41_8 0 0 := by
      intro n
      induction n using Nat.strongRecOn with
      | ind n ih_L140_41_8 =>
      intro ML140_41_8 v9 IML140_41_8 FML140_41_8 hbL140_41_80 hbL140_41_81 hmL140_41_8
      refine PW.iload q_140_41 rfl ?_
      refine PW.cB q_140_43 (by decide) fun c10 hc10 => ?_
      refine PW.jc_gt q_140_45 rfl (fun h11 => ?_) (fun h11 => ?_)
      · skip
        refine PW.cI q_140_96 (by decide) fun c12 hc12 => ?_
        refine PW.rI q_140_97 rfl (by decide) (by decide) ?_
        exact hK c12 ML140_41_8 IML140_41_8 FML140_41_8
      · skip
        refine PW.aload_n q_140_48 rfl ?_
        refine PW.iload_n q_140_49 rfl ?_
        refine PW.iload_n q_140_50 rfl ?_
        refine PW.iload_n q_140_51 rfl ?_
        refine PW.iload q_140_52 rfl ?_
        refine PW.cV (as := [_, _, _, _]) (rest := []) q_140_54 t_mv_140_366 kd_0 IML140_41_8.1 (by decide) rfl (by decide) rfl rfl (Nat.le_of_ble_eq_true rfl) (Nat.le_of_ble_eq_true rfl) (by decide) (by decide) ?_
        refine PW.up (by decide) (c_X11_shrink G _ ML140_41_8 IML140_41_8 a1 a2 a3 v9 (by omega) (by omega) (by omega) (by omega) fun M13 IM13 GM13 => ?_)
        have FM13 := Fr.trans FML140_41_8 GM13 (rfl)
        refine PW.aload_n q_140_57 rfl ?_
        refine PW.gR 293 q_140_58 (Or.inl t_ft_140_69) gF_0_9 kd_0 IM13.1 (by decide) rfl ?_
        refine PW.gL q_140_61 (Or.inr t_fN_140_359) gF_26_0 kd_293 IM13.1 (by decide) fun l14 fl14 => ?_
        refine PW.aload_n q_140_64 rfl ?_
        refine PW.gR 3 q_140_65 (Or.inl t_ft_140_19) gF_0_1 kd_0 IM13.1 (by decide) rfl ?_
        refine PW.gR 4 q_140_68 (Or.inr t_fN_140_94) gF_3_0 kd_3 IM13.1 (by decide) rfl ?_
        refine PW.gI q_140_71 (Or.inr t_fN_140_254) gF_4_2 kd_4 IM13.1 (by decide) fun x15 fx15 hx15 kx15 => ?_
        clear hx15 kx15
        refine PW.i2l q_140_74 ?_
        refine PW.aload_n q_140_75 rfl ?_
        refine PW.gR 293 q_140_76 (Or.inl t_ft_140_69) gF_0_9 kd_0 IM13.1 (by decide) rfl ?_
        refine PW.gL q_140_79 (Or.inr t_fN_140_363) gF_26_1 kd_293 IM13.1 (by decide) fun l16 fl16 => ?_
        refine PW.lmul q_140_82 ?_
        refine PW.lcmpH q_140_83 fun x17 => ?_
        refine PW.jz_gt q_140_84 rfl (fun h18 => ?_) (fun h18 => ?_)
        · skip
          refine PW.incN q_140_90 rfl (by decide) (by decide) (by omega) (by omega) fun x19 hx19 => ?_
          refine PW.goto q_140_93 rfl ?_
          refine PW.lvS (lk1 rfl (lk1 rfl (lk1 rfl (lk1 rfl (lk1 rfl lk0))))) (ih_L140_41_8 _ ?_ M13 x19 IM13 FM13 (by omega) (by omega) rfl)
          omega
        · skip
          refine PW.iload q_140_87 rfl ?_
          refine PW.rI q_140_89 rfl (by decide) (by decide) ?_
          exact hK v9 M13 IM13 FM13
    exact PW.lvS (lk1 rfl (lk1 rfl (lk1 rfl (lk1 rfl (lk1 rfl lk0))))) (L140_41_8 _ M6 c7 IM6 FM6 (by omega) (by omega) rfl)
  · skip
    exact PW.exit (hX _ M1 IM1 FM1)
