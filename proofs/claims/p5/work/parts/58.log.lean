theorem q_247_0 : p_tb 247 0 = some (.iconst 0, 1) := by decide +kernel
theorem q_247_1 : p_tb 247 1 = some (.istore_n 2, 1) := by decide +kernel
theorem q_247_2 : p_tb 247 2 = some (.iload_n 2, 1) := by decide +kernel
theorem q_247_3 : p_tb 247 3 = some (.bipush 6, 2) := by decide +kernel
theorem q_247_5 : p_tb 247 5 = some (.if_icmp .ge 16, 3) := by decide +kernel
theorem q_247_8 : p_tb 247 8 = some (.aload_n 0, 1) := by decide +kernel
theorem q_247_9 : p_tb 247 9 = some (.getfield 56, 3) := by decide +kernel
theorem q_247_12 : p_tb 247 12 = some (.iload_n 2, 1) := by decide +kernel
theorem q_247_13 : p_tb 247 13 = some (.iconst 0, 1) := by decide +kernel
theorem q_247_14 : p_tb 247 14 = some (.iastore, 1) := by decide +kernel
theorem q_247_15 : p_tb 247 15 = some (.iinc 2 1, 3) := by decide +kernel
theorem q_247_18 : p_tb 247 18 = some (.goto (-16), 3) := by decide +kernel
theorem q_247_21 : p_tb 247 21 = some (.aload_n 0, 1) := by decide +kernel
theorem q_247_22 : p_tb 247 22 = some (.getfield 56, 3) := by decide +kernel
theorem q_247_25 : p_tb 247 25 = some (.aload_n 0, 1) := by decide +kernel
theorem q_247_26 : p_tb 247 26 = some (.iconst 0, 1) := by decide +kernel
theorem q_247_27 : p_tb 247 27 = some (.invokevirtual 346, 3) := by decide +kernel
theorem q_247_30 : p_tb 247 30 = some (.iconst 1, 1) := by decide +kernel
theorem q_247_31 : p_tb 247 31 = some (.iastore, 1) := by decide +kernel
theorem q_247_32 : p_tb 247 32 = some (.iconst 1, 1) := by decide +kernel
theorem q_247_33 : p_tb 247 33 = some (.istore_n 2, 1) := by decide +kernel
theorem q_247_34 : p_tb 247 34 = some (.iload_n 2, 1) := by decide +kernel
theorem q_247_35 : p_tb 247 35 = some (.aload_n 0, 1) := by decide +kernel
theorem q_247_36 : p_tb 247 36 = some (.getfield 18, 3) := by decide +kernel
theorem q_247_39 : p_tb 247 39 = some (.if_icmp .ge 44, 3) := by decide +kernel
theorem q_247_42 : p_tb 247 42 = some (.aload_n 0, 1) := by decide +kernel
theorem q_247_43 : p_tb 247 43 = some (.iload_n 1, 1) := by decide +kernel
theorem q_247_44 : p_tb 247 44 = some (.aload_n 0, 1) := by decide +kernel
theorem q_247_45 : p_tb 247 45 = some (.iload_n 2, 1) := by decide +kernel
theorem q_247_46 : p_tb 247 46 = some (.iconst 1, 1) := by decide +kernel
theorem q_247_47 : p_tb 247 47 = some (.isub, 1) := by decide +kernel
theorem q_247_48 : p_tb 247 48 = some (.invokevirtual 346, 3) := by decide +kernel
theorem q_247_51 : p_tb 247 51 = some (.invokevirtual 328, 3) := by decide +kernel
theorem q_247_54 : p_tb 247 54 = some (.aload_n 0, 1) := by decide +kernel
theorem q_247_55 : p_tb 247 55 = some (.iload_n 2, 1) := by decide +kernel
theorem q_247_56 : p_tb 247 56 = some (.invokevirtual 346, 3) := by decide +kernel
theorem q_247_59 : p_tb 247 59 = some (.if_icmp .eq 5, 3) := by decide +kernel
theorem q_247_62 : p_tb 247 62 = some (.iconst 0, 1) := by decide +kernel
theorem q_247_63 : p_tb 247 63 = some (.ireturn, 1) := by decide +kernel
theorem q_247_64 : p_tb 247 64 = some (.aload_n 0, 1) := by decide +kernel
theorem q_247_65 : p_tb 247 65 = some (.getfield 56, 3) := by decide +kernel
theorem q_247_68 : p_tb 247 68 = some (.aload_n 0, 1) := by decide +kernel
theorem q_247_69 : p_tb 247 69 = some (.iload_n 2, 1) := by decide +kernel
theorem q_247_70 : p_tb 247 70 = some (.invokevirtual 346, 3) := by decide +kernel
theorem q_247_73 : p_tb 247 73 = some (.iload_n 2, 1) := by decide +kernel
theorem q_247_74 : p_tb 247 74 = some (.iconst 1, 1) := by decide +kernel
theorem q_247_75 : p_tb 247 75 = some (.iadd, 1) := by decide +kernel
theorem q_247_76 : p_tb 247 76 = some (.iastore, 1) := by decide +kernel
theorem q_247_77 : p_tb 247 77 = some (.iinc 2 1, 3) := by decide +kernel
theorem q_247_80 : p_tb 247 80 = some (.goto (-46), 3) := by decide +kernel
theorem q_247_83 : p_tb 247 83 = some (.iconst 1, 1) := by decide +kernel
theorem q_247_84 : p_tb 247 84 = some (.ireturn, 1) := by decide +kernel
theorem t_ft_247_18 : p_f2 p_ft (p_mK 247) 18 = some (11, 3) := by decide +kernel
theorem t_ft_247_56 : p_f2 p_ft (p_mK 247) 56 = some (11, 24) := by decide +kernel
theorem t_mv_247_328 : p_f2 p_mv (p_mK 247) 328 = some 237 := by decide +kernel
theorem t_mv_247_346 : p_f2 p_mv (p_mK 247) 346 = some 172 := by decide +kernel
theorem q_248_0 : p_tb 248 0 = some (.aload_n 0, 1) := by decide +kernel
theorem q_248_1 : p_tb 248 1 = some (.iconst 0, 1) := by decide +kernel
theorem q_248_2 : p_tb 248 2 = some (.putfield 1, 3) := by decide +kernel
theorem q_248_5 : p_tb 248 5 = some (.aload_n 0, 1) := by decide +kernel
theorem q_248_6 : p_tb 248 6 = some (.sipush 940, 3) := by decide +kernel
theorem q_248_9 : p_tb 248 9 = some (.invokevirtual 226, 3) := by decide +kernel
theorem q_248_12 : p_tb 248 12 = some (.aload_n 0, 1) := by decide +kernel
theorem q_248_13 : p_tb 248 13 = some (.getfield 18, 3) := by decide +kernel
theorem q_248_16 : p_tb 248 16 = some (.iconst 2, 1) := by decide +kernel
theorem q_248_17 : p_tb 248 17 = some (.bipush 40, 2) := by decide +kernel
theorem q_248_19 : p_tb 248 19 = some (.invokestatic 176, 3) := by decide +kernel
theorem q_248_22 : p_tb 248 22 = some (.istore_n 1, 1) := by decide +kernel
theorem q_248_23 : p_tb 248 23 = some (.iconst 0, 1) := by decide +kernel
theorem q_248_24 : p_tb 248 24 = some (.istore_n 2, 1) := by decide +kernel
theorem q_248_25 : p_tb 248 25 = some (.iload_n 2, 1) := by decide +kernel
theorem q_248_26 : p_tb 248 26 = some (.aload_n 0, 1) := by decide +kernel
theorem q_248_27 : p_tb 248 27 = some (.getfield 18, 3) := by decide +kernel
theorem q_248_30 : p_tb 248 30 = some (.if_icmp .ge 50, 3) := by decide +kernel
theorem q_248_33 : p_tb 248 33 = some (.iload_n 1, 1) := by decide +kernel
theorem q_248_34 : p_tb 248 34 = some (.ifCond .eq 46, 3) := by decide +kernel
theorem q_248_37 : p_tb 248 37 = some (.aload_n 0, 1) := by decide +kernel
theorem q_248_38 : p_tb 248 38 = some (.aload_n 0, 1) := by decide +kernel
theorem q_248_39 : p_tb 248 39 = some (.iload_n 2, 1) := by decide +kernel
theorem q_248_40 : p_tb 248 40 = some (.invokevirtual 346, 3) := by decide +kernel
theorem q_248_43 : p_tb 248 43 = some (.invokevirtual 241, 3) := by decide +kernel
theorem q_248_46 : p_tb 248 46 = some (.ifCond .eq 26, 3) := by decide +kernel
theorem q_248_49 : p_tb 248 49 = some (.iload_n 2, 1) := by decide +kernel
theorem q_248_50 : p_tb 248 50 = some (.ifCond .eq 18, 3) := by decide +kernel
theorem q_248_53 : p_tb 248 53 = some (.aload_n 0, 1) := by decide +kernel
theorem q_248_54 : p_tb 248 54 = some (.iload_n 2, 1) := by decide +kernel
theorem q_248_55 : p_tb 248 55 = some (.invokevirtual 346, 3) := by decide +kernel
theorem q_248_58 : p_tb 248 58 = some (.aload_n 0, 1) := by decide +kernel
theorem q_248_59 : p_tb 248 59 = some (.iload_n 2, 1) := by decide +kernel
theorem q_248_60 : p_tb 248 60 = some (.iconst 1, 1) := by decide +kernel
theorem q_248_61 : p_tb 248 61 = some (.isub, 1) := by decide +kernel
theorem q_248_62 : p_tb 248 62 = some (.invokevirtual 346, 3) := by decide +kernel
theorem q_248_65 : p_tb 248 65 = some (.if_icmp .eq 7, 3) := by decide +kernel
theorem q_248_68 : p_tb 248 68 = some (.iconst 1, 1) := by decide +kernel
theorem q_248_69 : p_tb 248 69 = some (.goto 4, 3) := by decide +kernel
theorem q_248_72 : p_tb 248 72 = some (.iconst 0, 1) := by decide +kernel
theorem q_248_73 : p_tb 248 73 = some (.istore_n 1, 1) := by decide +kernel
theorem q_248_74 : p_tb 248 74 = some (.iinc 2 1, 3) := by decide +kernel
theorem q_248_77 : p_tb 248 77 = some (.goto (-52), 3) := by decide +kernel
theorem q_248_80 : p_tb 248 80 = some (.iload_n 1, 1) := by decide +kernel
theorem q_248_81 : p_tb 248 81 = some (.ifCond .ne 5, 3) := by decide +kernel
theorem q_248_84 : p_tb 248 84 = some (.iconst (-1), 1) := by decide +kernel
theorem q_248_85 : p_tb 248 85 = some (.ireturn, 1) := by decide +kernel
theorem q_248_86 : p_tb 248 86 = some (.aload_n 0, 1) := by decide +kernel
theorem q_248_87 : p_tb 248 87 = some (.iconst 0, 1) := by decide +kernel
theorem q_248_88 : p_tb 248 88 = some (.invokevirtual 349, 3) := by decide +kernel
theorem q_248_91 : p_tb 248 91 = some (.ifCond .eq 7, 3) := by decide +kernel
theorem q_248_94 : p_tb 248 94 = some (.iconst 1, 1) := by decide +kernel
theorem q_248_95 : p_tb 248 95 = some (.goto 4, 3) := by decide +kernel
theorem q_248_98 : p_tb 248 98 = some (.iconst 0, 1) := by decide +kernel
theorem q_248_99 : p_tb 248 99 = some (.aload_n 0, 1) := by decide +kernel
theorem q_248_100 : p_tb 248 100 = some (.iconst 1, 1) := by decide +kernel
theorem q_248_101 : p_tb 248 101 = some (.invokevirtual 349, 3) := by decide +kernel
theorem q_248_104 : p_tb 248 104 = some (.ifCond .eq 7, 3) := by decide +kernel
theorem q_248_107 : p_tb 248 107 = some (.iconst 2, 1) := by decide +kernel
theorem q_248_108 : p_tb 248 108 = some (.goto 4, 3) := by decide +kernel
theorem q_248_111 : p_tb 248 111 = some (.iconst 0, 1) := by decide +kernel
theorem q_248_112 : p_tb 248 112 = some (.iadd, 1) := by decide +kernel
theorem q_248_113 : p_tb 248 113 = some (.aload_n 0, 1) := by decide +kernel
theorem q_248_114 : p_tb 248 114 = some (.iconst 2, 1) := by decide +kernel
theorem q_248_115 : p_tb 248 115 = some (.invokevirtual 349, 3) := by decide +kernel
theorem q_248_118 : p_tb 248 118 = some (.ifCond .eq 7, 3) := by decide +kernel
theorem q_248_121 : p_tb 248 121 = some (.iconst 4, 1) := by decide +kernel
theorem q_248_122 : p_tb 248 122 = some (.goto 4, 3) := by decide +kernel
theorem q_248_125 : p_tb 248 125 = some (.iconst 0, 1) := by decide +kernel
theorem q_248_126 : p_tb 248 126 = some (.iadd, 1) := by decide +kernel
theorem q_248_127 : p_tb 248 127 = some (.ireturn, 1) := by decide +kernel
theorem t_ft_248_1 : p_f2 p_ft (p_mK 248) 1 = some (11, 0) := by decide +kernel
theorem t_ft_248_18 : p_f2 p_ft (p_mK 248) 18 = some (11, 3) := by decide +kernel
theorem t_ms_248_176 : p_f2 p_ms (p_mK 248) 176 = some 166 := by decide +kernel
theorem t_mv_248_226 : p_f2 p_mv (p_mK 248) 226 = some 165 := by decide +kernel
theorem t_mv_248_241 : p_f2 p_mv (p_mK 248) 241 = some 195 := by decide +kernel
theorem t_mv_248_346 : p_f2 p_mv (p_mK 248) 346 = some 172 := by decide +kernel
theorem t_mv_248_349 : p_f2 p_mv (p_mK 248) 349 = some 247 := by decide +kernel
theorem q_258_0 : p_tb 258 0 = some (.iload_n 1, 1) := by decide +kernel
theorem q_258_1 : p_tb 258 1 = some (.tableswitch 126 0 4 #[35, 56, 79, 107, 114], 35) := by decide +kernel
theorem q_258_36 : p_tb 258 36 = some (.aload_n 0, 1) := by decide +kernel
theorem q_258_37 : p_tb 258 37 = some (.getfield 33, 3) := by decide +kernel
theorem q_258_40 : p_tb 258 40 = some (.bipush 48, 2) := by decide +kernel
theorem q_258_42 : p_tb 258 42 = some (.iload_n 2, 1) := by decide +kernel
theorem q_258_43 : p_tb 258 43 = some (.iadd, 1) := by decide +kernel
theorem q_258_44 : p_tb 258 44 = some (.iaload, 1) := by decide +kernel
theorem q_258_45 : p_tb 258 45 = some (.ifCond .ne 5, 3) := by decide +kernel
theorem q_258_48 : p_tb 258 48 = some (.iconst 1, 1) := by decide +kernel
theorem q_258_49 : p_tb 258 49 = some (.ireturn, 1) := by decide +kernel
theorem q_258_50 : p_tb 258 50 = some (.aload_n 0, 1) := by decide +kernel
theorem q_258_51 : p_tb 258 51 = some (.iload_n 2, 1) := by decide +kernel
theorem q_258_52 : p_tb 258 52 = some (.invokevirtual 293, 3) := by decide +kernel
theorem q_258_55 : p_tb 258 55 = some (.iconst 0, 1) := by decide +kernel
theorem q_258_56 : p_tb 258 56 = some (.ireturn, 1) := by decide +kernel
theorem q_258_57 : p_tb 258 57 = some (.aload_n 0, 1) := by decide +kernel
theorem q_258_58 : p_tb 258 58 = some (.getfield 33, 3) := by decide +kernel
theorem q_258_61 : p_tb 258 61 = some (.bipush 48, 2) := by decide +kernel
theorem q_258_63 : p_tb 258 63 = some (.iload_n 2, 1) := by decide +kernel
theorem q_258_64 : p_tb 258 64 = some (.iadd, 1) := by decide +kernel
theorem q_258_65 : p_tb 258 65 = some (.iaload, 1) := by decide +kernel
theorem q_258_66 : p_tb 258 66 = some (.iconst 1, 1) := by decide +kernel
theorem q_258_67 : p_tb 258 67 = some (.if_icmp .ne 6, 3) := by decide +kernel
theorem q_258_70 : p_tb 258 70 = some (.bipush 11, 2) := by decide +kernel
theorem q_258_72 : p_tb 258 72 = some (.ireturn, 1) := by decide +kernel
theorem q_258_73 : p_tb 258 73 = some (.aload_n 0, 1) := by decide +kernel
theorem q_258_74 : p_tb 258 74 = some (.iload_n 2, 1) := by decide +kernel
theorem q_258_75 : p_tb 258 75 = some (.invokevirtual 293, 3) := by decide +kernel
theorem q_258_78 : p_tb 258 78 = some (.iconst 0, 1) := by decide +kernel
theorem q_258_79 : p_tb 258 79 = some (.ireturn, 1) := by decide +kernel
theorem q_258_80 : p_tb 258 80 = some (.aload_n 0, 1) := by decide +kernel
theorem q_258_81 : p_tb 258 81 = some (.getfield 33, 3) := by decide +kernel
theorem q_258_84 : p_tb 258 84 = some (.bipush 34, 2) := by decide +kernel
theorem q_258_86 : p_tb 258 86 = some (.iaload, 1) := by decide +kernel
theorem q_258_87 : p_tb 258 87 = some (.iload_n 2, 1) := by decide +kernel
theorem q_258_88 : p_tb 258 88 = some (.iconst 1, 1) := by decide +kernel
theorem q_258_89 : p_tb 258 89 = some (.iadd, 1) := by decide +kernel
theorem q_258_90 : p_tb 258 90 = some (.if_icmp .ne 6, 3) := by decide +kernel
theorem q_258_93 : p_tb 258 93 = some (.bipush 21, 2) := by decide +kernel
theorem q_258_95 : p_tb 258 95 = some (.ireturn, 1) := by decide +kernel
theorem q_258_96 : p_tb 258 96 = some (.aload_n 0, 1) := by decide +kernel
theorem q_258_97 : p_tb 258 97 = some (.getfield 33, 3) := by decide +kernel
theorem q_258_100 : p_tb 258 100 = some (.bipush 34, 2) := by decide +kernel
theorem q_258_102 : p_tb 258 102 = some (.iload_n 2, 1) := by decide +kernel
theorem q_258_103 : p_tb 258 103 = some (.iconst 1, 1) := by decide +kernel
theorem q_258_104 : p_tb 258 104 = some (.iadd, 1) := by decide +kernel
theorem q_258_105 : p_tb 258 105 = some (.iastore, 1) := by decide +kernel
theorem q_258_106 : p_tb 258 106 = some (.iconst 0, 1) := by decide +kernel
theorem q_258_107 : p_tb 258 107 = some (.ireturn, 1) := by decide +kernel
theorem q_258_108 : p_tb 258 108 = some (.aload_n 0, 1) := by decide +kernel
theorem q_258_109 : p_tb 258 109 = some (.iload_n 2, 1) := by decide +kernel
theorem q_258_110 : p_tb 258 110 = some (.invokevirtual 296, 3) := by decide +kernel
theorem q_258_113 : p_tb 258 113 = some (.iconst 0, 1) := by decide +kernel
theorem q_258_114 : p_tb 258 114 = some (.ireturn, 1) := by decide +kernel
theorem q_258_115 : p_tb 258 115 = some (.aload_n 0, 1) := by decide +kernel
theorem q_258_116 : p_tb 258 116 = some (.getfield 33, 3) := by decide +kernel
theorem q_258_119 : p_tb 258 119 = some (.bipush 35, 2) := by decide +kernel
theorem q_258_121 : p_tb 258 121 = some (.iload_n 2, 1) := by decide +kernel
theorem q_258_122 : p_tb 258 122 = some (.iconst 1, 1) := by decide +kernel
theorem q_258_123 : p_tb 258 123 = some (.iadd, 1) := by decide +kernel
theorem q_258_124 : p_tb 258 124 = some (.iastore, 1) := by decide +kernel
theorem q_258_125 : p_tb 258 125 = some (.iconst 0, 1) := by decide +kernel
theorem q_258_126 : p_tb 258 126 = some (.ireturn, 1) := by decide +kernel
theorem q_258_127 : p_tb 258 127 = some (.aload_n 0, 1) := by decide +kernel
theorem q_258_128 : p_tb 258 128 = some (.getfield 33, 3) := by decide +kernel
theorem q_258_131 : p_tb 258 131 = some (.bipush 33, 2) := by decide +kernel
theorem q_258_133 : p_tb 258 133 = some (.iaload, 1) := by decide +kernel
theorem q_258_134 : p_tb 258 134 = some (.iload_n 2, 1) := by decide +kernel
theorem q_258_135 : p_tb 258 135 = some (.iadd, 1) := by decide +kernel
theorem q_258_136 : p_tb 258 136 = some (.sipush 600, 3) := by decide +kernel
theorem q_258_139 : p_tb 258 139 = some (.if_icmp .le 6, 3) := by decide +kernel
theorem q_258_142 : p_tb 258 142 = some (.bipush 41, 2) := by decide +kernel
theorem q_258_144 : p_tb 258 144 = some (.ireturn, 1) := by decide +kernel
theorem q_258_145 : p_tb 258 145 = some (.aload_n 0, 1) := by decide +kernel
theorem q_258_146 : p_tb 258 146 = some (.iload_n 2, 1) := by decide +kernel
theorem q_258_147 : p_tb 258 147 = some (.invokevirtual 299, 3) := by decide +kernel
theorem q_258_150 : p_tb 258 150 = some (.pop, 1) := by decide +kernel
theorem q_258_151 : p_tb 258 151 = some (.iconst 0, 1) := by decide +kernel
theorem q_258_152 : p_tb 258 152 = some (.ireturn, 1) := by decide +kernel
theorem t_ft_258_33 : p_f2 p_ft (p_mK 258) 33 = some (11, 6) := by decide +kernel
theorem t_mv_258_293 : p_f2 p_mv (p_mK 258) 293 = some 212 := by decide +kernel
theorem t_mv_258_296 : p_f2 p_mv (p_mK 258) 296 = some 213 := by decide +kernel
theorem t_mv_258_299 : p_f2 p_mv (p_mK 258) 299 = some 211 := by decide +kernel
theorem q_257_0 : p_tb 257 0 = some (.iconst 2, 1) := by decide +kernel
theorem q_257_1 : p_tb 257 1 = some (.aload_n 0, 1) := by decide +kernel
theorem q_257_2 : p_tb 257 2 = some (.getfield 369, 3) := by decide +kernel
theorem q_257_5 : p_tb 257 5 = some (.imul, 1) := by decide +kernel
theorem q_257_6 : p_tb 257 6 = some (.istore_n 1, 1) := by decide +kernel
theorem q_257_7 : p_tb 257 7 = some (.aload_n 0, 1) := by decide +kernel
theorem q_257_8 : p_tb 257 8 = some (.ldc2_w 110, 3) := by decide +kernel
theorem q_257_11 : p_tb 257 11 = some (.invokevirtual 201, 3) := by decide +kernel
theorem q_257_14 : p_tb 257 14 = some (.istore_n 2, 1) := by decide +kernel
theorem q_257_15 : p_tb 257 15 = some (.iload_n 2, 1) := by decide +kernel
theorem q_257_16 : p_tb 257 16 = some (.ifCond .ne 19, 3) := by decide +kernel
theorem q_257_19 : p_tb 257 19 = some (.aload_n 0, 1) := by decide +kernel
theorem q_257_20 : p_tb 257 20 = some (.iconst 0, 1) := by decide +kernel
theorem q_257_21 : p_tb 257 21 = some (.aload_n 0, 1) := by decide +kernel
theorem q_257_22 : p_tb 257 22 = some (.getfield 33, 3) := by decide +kernel
theorem q_257_25 : p_tb 257 25 = some (.iconst 0, 1) := by decide +kernel
theorem q_257_26 : p_tb 257 26 = some (.iaload, 1) := by decide +kernel
theorem q_257_27 : p_tb 257 27 = some (.invokevirtual 217, 3) := by decide +kernel
theorem q_257_30 : p_tb 257 30 = some (.ifCond .ne 5, 3) := by decide +kernel
theorem q_257_33 : p_tb 257 33 = some (.iconst 0, 1) := by decide +kernel
theorem q_257_34 : p_tb 257 34 = some (.ireturn, 1) := by decide +kernel
theorem q_257_35 : p_tb 257 35 = some (.aload_n 0, 1) := by decide +kernel
theorem q_257_36 : p_tb 257 36 = some (.getfield 369, 3) := by decide +kernel
theorem q_257_39 : p_tb 257 39 = some (.bipush 40, 2) := by decide +kernel
theorem q_257_41 : p_tb 257 41 = some (.if_icmp .ne 9, 3) := by decide +kernel
theorem q_257_44 : p_tb 257 44 = some (.aload_n 0, 1) := by decide +kernel
theorem q_257_45 : p_tb 257 45 = some (.iconst 4, 1) := by decide +kernel
theorem q_257_46 : p_tb 257 46 = some (.invokevirtual 170, 3) := by decide +kernel
theorem q_257_49 : p_tb 257 49 = some (.ireturn, 1) := by decide +kernel
theorem q_257_50 : p_tb 257 50 = some (.aload_n 0, 1) := by decide +kernel
theorem q_257_51 : p_tb 257 51 = some (.getfield 40, 3) := by decide +kernel
theorem q_257_54 : p_tb 257 54 = some (.iload_n 1, 1) := by decide +kernel
theorem q_257_55 : p_tb 257 55 = some (.iconst 1, 1) := by decide +kernel
theorem q_257_56 : p_tb 257 56 = some (.iadd, 1) := by decide +kernel
theorem q_257_57 : p_tb 257 57 = some (.aload_n 0, 1) := by decide +kernel
theorem q_257_58 : p_tb 257 58 = some (.getfield 180, 3) := by decide +kernel
theorem q_257_61 : p_tb 257 61 = some (.iastore, 1) := by decide +kernel
theorem q_257_62 : p_tb 257 62 = some (.aload_n 0, 1) := by decide +kernel
theorem q_257_63 : p_tb 257 63 = some (.invokevirtual 173, 3) := by decide +kernel
theorem q_257_66 : p_tb 257 66 = some (.iload_n 2, 1) := by decide +kernel
theorem q_257_67 : p_tb 257 67 = some (.ifCond .eq 36, 3) := by decide +kernel
theorem q_257_70 : p_tb 257 70 = some (.aload_n 0, 1) := by decide +kernel
theorem q_257_71 : p_tb 257 71 = some (.getfield 40, 3) := by decide +kernel
theorem q_257_74 : p_tb 257 74 = some (.iload_n 1, 1) := by decide +kernel
theorem q_257_75 : p_tb 257 75 = some (.iconst 5, 1) := by decide +kernel
theorem q_257_76 : p_tb 257 76 = some (.iastore, 1) := by decide +kernel
theorem q_257_77 : p_tb 257 77 = some (.aload_n 0, 1) := by decide +kernel
theorem q_257_78 : p_tb 257 78 = some (.iconst 1, 1) := by decide +kernel
theorem q_257_79 : p_tb 257 79 = some (.bipush 60, 2) := by decide +kernel
theorem q_257_81 : p_tb 257 81 = some (.invokevirtual 183, 3) := by decide +kernel
theorem q_257_84 : p_tb 257 84 = some (.ifCond .ne 5, 3) := by decide +kernel
theorem q_257_87 : p_tb 257 87 = some (.iconst 0, 1) := by decide +kernel
theorem q_257_88 : p_tb 257 88 = some (.ireturn, 1) := by decide +kernel
theorem q_257_89 : p_tb 257 89 = some (.aload_n 0, 1) := by decide +kernel
theorem q_257_90 : p_tb 257 90 = some (.getfield 40, 3) := by decide +kernel
theorem q_257_93 : p_tb 257 93 = some (.iload_n 1, 1) := by decide +kernel
theorem q_257_94 : p_tb 257 94 = some (.iconst 1, 1) := by decide +kernel
theorem q_257_95 : p_tb 257 95 = some (.iadd, 1) := by decide +kernel
theorem q_257_96 : p_tb 257 96 = some (.aload_n 0, 1) := by decide +kernel
theorem q_257_97 : p_tb 257 97 = some (.getfield 180, 3) := by decide +kernel
theorem q_257_100 : p_tb 257 100 = some (.iastore, 1) := by decide +kernel
theorem q_257_101 : p_tb 257 101 = some (.iconst 1, 1) := by decide +kernel
theorem q_257_102 : p_tb 257 102 = some (.ireturn, 1) := by decide +kernel
theorem q_257_103 : p_tb 257 103 = some (.aload_n 0, 1) := by decide +kernel
theorem q_257_104 : p_tb 257 104 = some (.ldc2_w 100, 3) := by decide +kernel
theorem q_257_107 : p_tb 257 107 = some (.invokevirtual 201, 3) := by decide +kernel
theorem q_257_110 : p_tb 257 110 = some (.ifCond .eq 7, 3) := by decide +kernel
theorem q_257_113 : p_tb 257 113 = some (.iconst 0, 1) := by decide +kernel
theorem q_257_114 : p_tb 257 114 = some (.goto 60, 3) := by decide +kernel
theorem q_257_117 : p_tb 257 117 = some (.aload_n 0, 1) := by decide +kernel
theorem q_257_118 : p_tb 257 118 = some (.ldc2_w 102, 3) := by decide +kernel
theorem q_257_121 : p_tb 257 121 = some (.invokevirtual 201, 3) := by decide +kernel
theorem q_257_124 : p_tb 257 124 = some (.ifCond .eq 7, 3) := by decide +kernel
theorem q_257_127 : p_tb 257 127 = some (.iconst 1, 1) := by decide +kernel
theorem q_257_128 : p_tb 257 128 = some (.goto 46, 3) := by decide +kernel
theorem q_257_131 : p_tb 257 131 = some (.aload_n 0, 1) := by decide +kernel
theorem q_257_132 : p_tb 257 132 = some (.ldc2_w 108, 3) := by decide +kernel
theorem q_257_135 : p_tb 257 135 = some (.invokevirtual 201, 3) := by decide +kernel
theorem q_257_138 : p_tb 257 138 = some (.ifCond .eq 7, 3) := by decide +kernel
theorem q_257_141 : p_tb 257 141 = some (.iconst 2, 1) := by decide +kernel
theorem q_257_142 : p_tb 257 142 = some (.goto 32, 3) := by decide +kernel
theorem q_257_145 : p_tb 257 145 = some (.aload_n 0, 1) := by decide +kernel
theorem q_257_146 : p_tb 257 146 = some (.ldc2_w 104, 3) := by decide +kernel
theorem q_257_149 : p_tb 257 149 = some (.invokevirtual 201, 3) := by decide +kernel
theorem q_257_152 : p_tb 257 152 = some (.ifCond .eq 7, 3) := by decide +kernel
theorem q_257_155 : p_tb 257 155 = some (.iconst 3, 1) := by decide +kernel
theorem q_257_156 : p_tb 257 156 = some (.goto 18, 3) := by decide +kernel
theorem q_257_159 : p_tb 257 159 = some (.aload_n 0, 1) := by decide +kernel
theorem q_257_160 : p_tb 257 160 = some (.ldc2_w 106, 3) := by decide +kernel
theorem q_257_163 : p_tb 257 163 = some (.invokevirtual 201, 3) := by decide +kernel
theorem q_257_166 : p_tb 257 166 = some (.ifCond .eq 7, 3) := by decide +kernel
theorem q_257_169 : p_tb 257 169 = some (.iconst 4, 1) := by decide +kernel
theorem q_257_170 : p_tb 257 170 = some (.goto 4, 3) := by decide +kernel
theorem q_257_173 : p_tb 257 173 = some (.iconst (-1), 1) := by decide +kernel
theorem q_257_174 : p_tb 257 174 = some (.istore_n 3, 1) := by decide +kernel
theorem q_257_175 : p_tb 257 175 = some (.iload_n 3, 1) := by decide +kernel
theorem q_257_176 : p_tb 257 176 = some (.ifCond .ge 9, 3) := by decide +kernel
theorem q_257_179 : p_tb 257 179 = some (.aload_n 0, 1) := by decide +kernel
theorem q_257_180 : p_tb 257 180 = some (.iconst 1, 1) := by decide +kernel
theorem q_257_181 : p_tb 257 181 = some (.invokevirtual 170, 3) := by decide +kernel
theorem q_257_184 : p_tb 257 184 = some (.ireturn, 1) := by decide +kernel
theorem q_257_185 : p_tb 257 185 = some (.aload_n 0, 1) := by decide +kernel
theorem q_257_186 : p_tb 257 186 = some (.getfield 40, 3) := by decide +kernel
theorem q_257_189 : p_tb 257 189 = some (.iload_n 1, 1) := by decide +kernel
theorem q_257_190 : p_tb 257 190 = some (.iload_n 3, 1) := by decide +kernel
theorem q_257_191 : p_tb 257 191 = some (.iastore, 1) := by decide +kernel
theorem q_257_192 : p_tb 257 192 = some (.aload_n 0, 1) := by decide +kernel
theorem q_257_193 : p_tb 257 193 = some (.invokevirtual 173, 3) := by decide +kernel
theorem q_257_196 : p_tb 257 196 = some (.iconst 1, 1) := by decide +kernel
theorem q_257_197 : p_tb 257 197 = some (.ireturn, 1) := by decide +kernel
theorem t_ft_257_180 : p_f2 p_ft (p_mK 257) 180 = some (11, 18) := by decide +kernel
theorem t_ft_257_33 : p_f2 p_ft (p_mK 257) 33 = some (11, 6) := by decide +kernel
theorem t_ft_257_369 : p_f2 p_ft (p_mK 257) 369 = some (11, 29) := by decide +kernel
theorem t_ft_257_40 : p_f2 p_ft (p_mK 257) 40 = some (11, 8) := by decide +kernel
theorem t_lt_257_100 : p_f2 p_lt (p_mK 257) 100 = some (495874699379) := by decide +kernel
theorem t_lt_257_102 : p_f2 p_lt (p_mK 257) 102 = some (512735603571) := by decide +kernel
theorem t_lt_257_104 : p_f2 p_lt (p_mK 257) 104 = some (500186639987) := by decide +kernel
theorem t_lt_257_106 : p_f2 p_lt (p_mK 257) 106 = some (426836257907) := by decide +kernel
theorem t_lt_257_108 : p_f2 p_lt (p_mK 257) 108 = some (127991945328499) := by decide +kernel
theorem t_lt_257_110 : p_f2 p_lt (p_mK 257) 110 = some (126879297138276) := by decide +kernel
theorem t_mv_257_170 : p_f2 p_mv (p_mK 257) 170 = some 178 := by decide +kernel
theorem t_mv_257_173 : p_f2 p_mv (p_mK 257) 173 = some 177 := by decide +kernel
theorem t_mv_257_183 : p_f2 p_mv (p_mK 257) 183 = some 183 := by decide +kernel
theorem t_mv_257_201 : p_f2 p_mv (p_mK 257) 201 = some 179 := by decide +kernel
theorem t_mv_257_217 : p_f2 p_mv (p_mK 257) 217 = some 187 := by decide +kernel
theorem gC_44_0_80 : gC 44 0 80 (-2147483648) 2147483647 := gC.of (by decide +kernel)
theorem gC_44_1_81 : gC 44 1 81 (-2147483648) 2147483647 := gC.of (by decide +kernel)
theorem q_259_0 : p_tb 259 0 = some (.aload_n 0, 1) := by decide +kernel
theorem q_259_1 : p_tb 259 1 = some (.iconst 0, 1) := by decide +kernel
theorem q_259_2 : p_tb 259 2 = some (.putfield 1, 3) := by decide +kernel
theorem q_259_5 : p_tb 259 5 = some (.iload_n 1, 1) := by decide +kernel
theorem q_259_6 : p_tb 259 6 = some (.iconst 0, 1) := by decide +kernel
theorem q_259_7 : p_tb 259 7 = some (.iconst 1, 1) := by decide +kernel
theorem q_259_8 : p_tb 259 8 = some (.invokestatic 176, 3) := by decide +kernel
theorem q_259_11 : p_tb 259 11 = some (.ifCond .ne 7, 3) := by decide +kernel
theorem q_259_14 : p_tb 259 14 = some (.sipush (-1000), 3) := by decide +kernel
theorem q_259_17 : p_tb 259 17 = some (.ireturn, 1) := by decide +kernel
theorem q_259_18 : p_tb 259 18 = some (.aload_n 0, 1) := by decide +kernel
theorem q_259_19 : p_tb 259 19 = some (.sipush 400, 3) := by decide +kernel
theorem q_259_22 : p_tb 259 22 = some (.invokevirtual 226, 3) := by decide +kernel
theorem q_259_25 : p_tb 259 25 = some (.aload_n 0, 1) := by decide +kernel
theorem q_259_26 : p_tb 259 26 = some (.iconst 0, 1) := by decide +kernel
theorem q_259_27 : p_tb 259 27 = some (.putfield 161, 3) := by decide +kernel
theorem q_259_30 : p_tb 259 30 = some (.aload_n 0, 1) := by decide +kernel
theorem q_259_31 : p_tb 259 31 = some (.iconst 0, 1) := by decide +kernel
theorem q_259_32 : p_tb 259 32 = some (.putfield 369, 3) := by decide +kernel
theorem q_259_35 : p_tb 259 35 = some (.aload_n 0, 1) := by decide +kernel
theorem q_259_36 : p_tb 259 36 = some (.invokevirtual 173, 3) := by decide +kernel
theorem q_259_39 : p_tb 259 39 = some (.aload_n 0, 1) := by decide +kernel
theorem q_259_40 : p_tb 259 40 = some (.getfield 144, 3) := by decide +kernel
theorem q_259_43 : p_tb 259 43 = some (.ifCond .eq 40, 3) := by decide +kernel
theorem q_259_46 : p_tb 259 46 = some (.aload_n 0, 1) := by decide +kernel
theorem q_259_47 : p_tb 259 47 = some (.invokevirtual 372, 3) := by decide +kernel
theorem q_259_50 : p_tb 259 50 = some (.ifCond .eq 12, 3) := by decide +kernel
theorem q_259_53 : p_tb 259 53 = some (.aload_n 0, 1) := by decide +kernel
theorem q_259_54 : p_tb 259 54 = some (.bipush 59, 2) := by decide +kernel
theorem q_259_56 : p_tb 259 56 = some (.invokevirtual 235, 3) := by decide +kernel
theorem q_259_59 : p_tb 259 59 = some (.ifCond .ne 11, 3) := by decide +kernel
theorem q_259_62 : p_tb 259 62 = some (.bipush (-2), 2) := by decide +kernel
theorem q_259_64 : p_tb 259 64 = some (.aload_n 0, 1) := by decide +kernel
theorem q_259_65 : p_tb 259 65 = some (.getfield 164, 3) := by decide +kernel
theorem q_259_68 : p_tb 259 68 = some (.isub, 1) := by decide +kernel
theorem q_259_69 : p_tb 259 69 = some (.ireturn, 1) := by decide +kernel
theorem q_259_70 : p_tb 259 70 = some (.aload_n 0, 1) := by decide +kernel
theorem q_259_71 : p_tb 259 71 = some (.dup, 1) := by decide +kernel
theorem q_259_72 : p_tb 259 72 = some (.getfield 369, 3) := by decide +kernel
theorem q_259_75 : p_tb 259 75 = some (.iconst 1, 1) := by decide +kernel
theorem q_259_76 : p_tb 259 76 = some (.iadd, 1) := by decide +kernel
theorem q_259_77 : p_tb 259 77 = some (.putfield 369, 3) := by decide +kernel
theorem q_259_80 : p_tb 259 80 = some (.goto (-41), 3) := by decide +kernel
theorem q_259_83 : p_tb 259 83 = some (.aload_n 0, 1) := by decide +kernel
theorem q_259_84 : p_tb 259 84 = some (.invokevirtual 308, 3) := by decide +kernel
theorem q_259_87 : p_tb 259 87 = some (.iconst 0, 1) := by decide +kernel
theorem q_259_88 : p_tb 259 88 = some (.istore_n 2, 1) := by decide +kernel
theorem q_259_89 : p_tb 259 89 = some (.iload_n 2, 1) := by decide +kernel
theorem q_259_90 : p_tb 259 90 = some (.iconst 4, 1) := by decide +kernel
theorem q_259_91 : p_tb 259 91 = some (.if_icmp .ge 16, 3) := by decide +kernel
theorem q_259_94 : p_tb 259 94 = some (.aload_n 0, 1) := by decide +kernel
theorem q_259_95 : p_tb 259 95 = some (.getfield 59, 3) := by decide +kernel
theorem q_259_98 : p_tb 259 98 = some (.iload_n 2, 1) := by decide +kernel
theorem q_259_99 : p_tb 259 99 = some (.iconst 0, 1) := by decide +kernel
theorem q_259_100 : p_tb 259 100 = some (.iastore, 1) := by decide +kernel
theorem q_259_101 : p_tb 259 101 = some (.iinc 2 1, 3) := by decide +kernel
theorem q_259_104 : p_tb 259 104 = some (.goto (-15), 3) := by decide +kernel
theorem q_259_107 : p_tb 259 107 = some (.aload_n 0, 1) := by decide +kernel
theorem q_259_108 : p_tb 259 108 = some (.invokevirtual 254, 3) := by decide +kernel
theorem q_259_111 : p_tb 259 111 = some (.istore_n 2, 1) := by decide +kernel
theorem q_259_112 : p_tb 259 112 = some (.iconst (-1), 1) := by decide +kernel
theorem q_259_113 : p_tb 259 113 = some (.istore_n 3, 1) := by decide +kernel
theorem q_259_114 : p_tb 259 114 = some (.iconst 0, 1) := by decide +kernel
theorem q_259_115 : p_tb 259 115 = some (.istore 4, 2) := by decide +kernel
theorem q_259_117 : p_tb 259 117 = some (.iload 4, 2) := by decide +kernel
theorem q_259_119 : p_tb 259 119 = some (.aload_n 0, 1) := by decide +kernel
theorem q_259_120 : p_tb 259 120 = some (.getfield 369, 3) := by decide +kernel
theorem q_259_123 : p_tb 259 123 = some (.if_icmp .ge 68, 3) := by decide +kernel
theorem q_259_126 : p_tb 259 126 = some (.iload_n 3, 1) := by decide +kernel
theorem q_259_127 : p_tb 259 127 = some (.ifCond .ge 64, 3) := by decide +kernel
theorem q_259_130 : p_tb 259 130 = some (.aload_n 0, 1) := by decide +kernel
theorem q_259_131 : p_tb 259 131 = some (.getfield 59, 3) := by decide +kernel
theorem q_259_134 : p_tb 259 134 = some (.iconst 0, 1) := by decide +kernel
theorem q_259_135 : p_tb 259 135 = some (.aload_n 0, 1) := by decide +kernel
theorem q_259_136 : p_tb 259 136 = some (.aload_n 0, 1) := by decide +kernel
theorem q_259_137 : p_tb 259 137 = some (.getfield 40, 3) := by decide +kernel
theorem q_259_140 : p_tb 259 140 = some (.iconst 2, 1) := by decide +kernel
theorem q_259_141 : p_tb 259 141 = some (.iload 4, 2) := by decide +kernel
theorem q_259_143 : p_tb 259 143 = some (.imul, 1) := by decide +kernel
theorem q_259_144 : p_tb 259 144 = some (.iaload, 1) := by decide +kernel
theorem q_259_145 : p_tb 259 145 = some (.aload_n 0, 1) := by decide +kernel
theorem q_259_146 : p_tb 259 146 = some (.getfield 40, 3) := by decide +kernel
theorem q_259_149 : p_tb 259 149 = some (.iconst 2, 1) := by decide +kernel
theorem q_259_150 : p_tb 259 150 = some (.iload 4, 2) := by decide +kernel
theorem q_259_152 : p_tb 259 152 = some (.imul, 1) := by decide +kernel
theorem q_259_153 : p_tb 259 153 = some (.iconst 1, 1) := by decide +kernel
theorem q_259_154 : p_tb 259 154 = some (.iadd, 1) := by decide +kernel
theorem q_259_155 : p_tb 259 155 = some (.iaload, 1) := by decide +kernel
theorem q_259_156 : p_tb 259 156 = some (.invokevirtual 375, 3) := by decide +kernel
theorem q_259_159 : p_tb 259 159 = some (.iastore, 1) := by decide +kernel
theorem q_259_160 : p_tb 259 160 = some (.aload_n 0, 1) := by decide +kernel
theorem q_259_161 : p_tb 259 161 = some (.getfield 59, 3) := by decide +kernel
theorem q_259_164 : p_tb 259 164 = some (.iconst 0, 1) := by decide +kernel
theorem q_259_165 : p_tb 259 165 = some (.iaload, 1) := by decide +kernel
theorem q_259_166 : p_tb 259 166 = some (.ifCond .le 9, 3) := by decide +kernel
theorem q_259_169 : p_tb 259 169 = some (.iload 4, 2) := by decide +kernel
theorem q_259_171 : p_tb 259 171 = some (.istore_n 3, 1) := by decide +kernel
theorem q_259_172 : p_tb 259 172 = some (.goto 13, 3) := by decide +kernel
theorem q_259_175 : p_tb 259 175 = some (.aload_n 0, 1) := by decide +kernel
theorem q_259_176 : p_tb 259 176 = some (.getfield 59, 3) := by decide +kernel
theorem q_259_179 : p_tb 259 179 = some (.iconst 1, 1) := by decide +kernel
theorem q_259_180 : p_tb 259 180 = some (.dup2, 1) := by decide +kernel
theorem q_259_181 : p_tb 259 181 = some (.iaload, 1) := by decide +kernel
theorem q_259_182 : p_tb 259 182 = some (.iconst 1, 1) := by decide +kernel
theorem q_259_183 : p_tb 259 183 = some (.iadd, 1) := by decide +kernel
theorem q_259_184 : p_tb 259 184 = some (.iastore, 1) := by decide +kernel
theorem q_259_185 : p_tb 259 185 = some (.iinc 4 1, 3) := by decide +kernel
theorem q_259_188 : p_tb 259 188 = some (.goto (-71), 3) := by decide +kernel
theorem q_259_191 : p_tb 259 191 = some (.aload_n 0, 1) := by decide +kernel
theorem q_259_192 : p_tb 259 192 = some (.getfield 59, 3) := by decide +kernel
theorem q_259_195 : p_tb 259 195 = some (.iconst 2, 1) := by decide +kernel
theorem q_259_196 : p_tb 259 196 = some (.aload_n 0, 1) := by decide +kernel
theorem q_259_197 : p_tb 259 197 = some (.getfield 33, 3) := by decide +kernel
theorem q_259_200 : p_tb 259 200 = some (.bipush 33, 2) := by decide +kernel
theorem q_259_202 : p_tb 259 202 = some (.iaload, 1) := by decide +kernel
theorem q_259_203 : p_tb 259 203 = some (.iastore, 1) := by decide +kernel
theorem q_259_204 : p_tb 259 204 = some (.aload_n 0, 1) := by decide +kernel
theorem q_259_205 : p_tb 259 205 = some (.getfield 59, 3) := by decide +kernel
theorem q_259_208 : p_tb 259 208 = some (.iconst 3, 1) := by decide +kernel
theorem q_259_209 : p_tb 259 209 = some (.aload_n 0, 1) := by decide +kernel
theorem q_259_210 : p_tb 259 210 = some (.invokevirtual 254, 3) := by decide +kernel
theorem q_259_213 : p_tb 259 213 = some (.iload_n 2, 1) := by decide +kernel
theorem q_259_214 : p_tb 259 214 = some (.isub, 1) := by decide +kernel
theorem q_259_215 : p_tb 259 215 = some (.iastore, 1) := by decide +kernel
theorem q_259_216 : p_tb 259 216 = some (.aload_n 0, 1) := by decide +kernel
theorem q_259_217 : p_tb 259 217 = some (.iconst 1, 1) := by decide +kernel
theorem q_259_218 : p_tb 259 218 = some (.putfield 378, 3) := by decide +kernel
theorem q_259_221 : p_tb 259 221 = some (.iload_n 1, 1) := by decide +kernel
theorem q_259_222 : p_tb 259 222 = some (.iconst 1, 1) := by decide +kernel
theorem q_259_223 : p_tb 259 223 = some (.if_icmp .ne 58, 3) := by decide +kernel
theorem q_259_226 : p_tb 259 226 = some (.aload_n 0, 1) := by decide +kernel
theorem q_259_227 : p_tb 259 227 = some (.getfield 59, 3) := by decide +kernel
theorem q_259_230 : p_tb 259 230 = some (.iconst 1, 1) := by decide +kernel
theorem q_259_231 : p_tb 259 231 = some (.iaload, 1) := by decide +kernel
theorem q_259_232 : p_tb 259 232 = some (.ifCond .le 49, 3) := by decide +kernel
theorem q_259_235 : p_tb 259 235 = some (.aload_n 0, 1) := by decide +kernel
theorem q_259_236 : p_tb 259 236 = some (.invokevirtual 290, 3) := by decide +kernel
theorem q_259_239 : p_tb 259 239 = some (.iconst 0, 1) := by decide +kernel
theorem q_259_240 : p_tb 259 240 = some (.istore 4, 2) := by decide +kernel
theorem q_259_242 : p_tb 259 242 = some (.iload 4, 2) := by decide +kernel
theorem q_259_244 : p_tb 259 244 = some (.sipush 183, 3) := by decide +kernel
theorem q_259_247 : p_tb 259 247 = some (.if_icmp .ge 34, 3) := by decide +kernel
theorem q_259_250 : p_tb 259 250 = some (.aload_n 0, 1) := by decide +kernel
theorem q_259_251 : p_tb 259 251 = some (.getfield 50, 3) := by decide +kernel
theorem q_259_254 : p_tb 259 254 = some (.sipush 183, 3) := by decide +kernel
theorem q_259_257 : p_tb 259 257 = some (.aload_n 0, 1) := by decide +kernel
theorem q_259_258 : p_tb 259 258 = some (.getfield 238, 3) := by decide +kernel
theorem q_259_261 : p_tb 259 261 = some (.iconst 1, 1) := by decide +kernel
theorem q_259_262 : p_tb 259 262 = some (.isub, 1) := by decide +kernel
theorem q_259_263 : p_tb 259 263 = some (.imul, 1) := by decide +kernel
theorem q_259_264 : p_tb 259 264 = some (.iload 4, 2) := by decide +kernel
theorem q_259_266 : p_tb 259 266 = some (.iadd, 1) := by decide +kernel
theorem q_259_267 : p_tb 259 267 = some (.aload_n 0, 1) := by decide +kernel
theorem q_259_268 : p_tb 259 268 = some (.getfield 53, 3) := by decide +kernel
theorem q_259_271 : p_tb 259 271 = some (.iload 4, 2) := by decide +kernel
theorem q_259_273 : p_tb 259 273 = some (.iaload, 1) := by decide +kernel
theorem q_259_274 : p_tb 259 274 = some (.iastore, 1) := by decide +kernel
theorem q_259_275 : p_tb 259 275 = some (.iinc 4 1, 3) := by decide +kernel
theorem q_259_278 : p_tb 259 278 = some (.goto (-36), 3) := by decide +kernel
theorem q_259_281 : p_tb 259 281 = some (.iload_n 1, 1) := by decide +kernel
theorem q_259_282 : p_tb 259 282 = some (.ifCond .ne 7, 3) := by decide +kernel
theorem q_259_285 : p_tb 259 285 = some (.aload_n 0, 1) := by decide +kernel
theorem q_259_286 : p_tb 259 286 = some (.invokevirtual 311, 3) := by decide +kernel
theorem q_259_289 : p_tb 259 289 = some (.iload_n 3, 1) := by decide +kernel
theorem q_259_290 : p_tb 259 290 = some (.ireturn, 1) := by decide +kernel
theorem t_ft_259_1 : p_f2 p_ft (p_mK 259) 1 = some (11, 0) := by decide +kernel
theorem t_ft_259_144 : p_f2 p_ft (p_mK 259) 144 = some (11, 11) := by decide +kernel
theorem t_ft_259_161 : p_f2 p_ft (p_mK 259) 161 = some (11, 15) := by decide +kernel
theorem t_ft_259_164 : p_f2 p_ft (p_mK 259) 164 = some (11, 16) := by decide +kernel
theorem t_ft_259_238 : p_f2 p_ft (p_mK 259) 238 = some (11, 23) := by decide +kernel
theorem t_ft_259_33 : p_f2 p_ft (p_mK 259) 33 = some (11, 6) := by decide +kernel
theorem t_ft_259_369 : p_f2 p_ft (p_mK 259) 369 = some (11, 29) := by decide +kernel
theorem t_ft_259_378 : p_f2 p_ft (p_mK 259) 378 = some (11, 31) := by decide +kernel
theorem t_ft_259_40 : p_f2 p_ft (p_mK 259) 40 = some (11, 8) := by decide +kernel
theorem t_ft_259_50 : p_f2 p_ft (p_mK 259) 50 = some (11, 21) := by decide +kernel
theorem t_ft_259_53 : p_f2 p_ft (p_mK 259) 53 = some (11, 22) := by decide +kernel
theorem t_ft_259_59 : p_f2 p_ft (p_mK 259) 59 = some (11, 30) := by decide +kernel
theorem t_ms_259_176 : p_f2 p_ms (p_mK 259) 176 = some 166 := by decide +kernel
theorem t_mv_259_173 : p_f2 p_mv (p_mK 259) 173 = some 177 := by decide +kernel
theorem t_mv_259_226 : p_f2 p_mv (p_mK 259) 226 = some 165 := by decide +kernel
theorem t_mv_259_235 : p_f2 p_mv (p_mK 259) 235 = some 181 := by decide +kernel
theorem t_mv_259_254 : p_f2 p_mv (p_mK 259) 254 = some 201 := by decide +kernel
theorem t_mv_259_290 : p_f2 p_mv (p_mK 259) 290 = some 220 := by decide +kernel
theorem t_mv_259_308 : p_f2 p_mv (p_mK 259) 308 = some 222 := by decide +kernel
theorem t_mv_259_311 : p_f2 p_mv (p_mK 259) 311 = some 223 := by decide +kernel
theorem t_mv_259_372 : p_f2 p_mv (p_mK 259) 372 = some 257 := by decide +kernel
theorem t_mv_259_375 : p_f2 p_mv (p_mK 259) 375 = some 258 := by decide +kernel
theorem gC_50_0_0 : gC 50 0 0 (-2147483648) 2147483647 := gC.of (by decide +kernel)
theorem gC_50_0_3 : gC 50 0 3 (-2147483648) 2147483647 := gC.of (by decide +kernel)
theorem gC_50_1_1 : gC 50 1 1 (-2147483648) 2147483647 := gC.of (by decide +kernel)
theorem gC_50_2_2 : gC 50 2 2 (-2147483648) 2147483647 := gC.of (by decide +kernel)
theorem gC_50_3_3 : gC 50 3 3 (-2147483648) 2147483647 := gC.of (by decide +kernel)
/-- M is whole, and as to what texts are read into it is as M0 -/
def gSv (M0 M : pM) : Prop := gTT M ∧ o_i (M 294) 29 = o_i (M0 294) 29 ∧ o_i (M 294) 33 = o_i (M0 294) 33 ∧ o_i (M 294) 35 = o_i (M0 294) 35 ∧ o_i (M 294) 37 = o_i (M0 294) 37 ∧ o_a (M 298) = o_a (M0 298) ∧ o_a (M 305) = o_a (M0 305)
theorem gSv.of {M : pM} (I : Iv gTT M) : Iv (gSv M) M := ⟨I.1, I.2, rfl, rfl, rfl, rfl, rfl, rfl⟩
theorem StabSv (M0 : pM) : Stab (gSv M0) := by
  refine ⟨fun M M1 a i K h U hk hs hs2 => ?_, fun M M1 a K h U hk hs hs2 => ?_, fun M M1 q h U hn => ?_⟩
  · have s : ∀ c, (g_sh (g_kd c)).1 ≠ 0 → M1 c = M c := fun c h => U.1 c fun e => h (by rw [e, hk]; exact hs2)
    have f : ∀ n, g_sp 40 n = true → o_i (M1 294) n = o_i (M 294) n := fun n hn => U.i (by
      by_cases e : 294 = a
      · refine Or.inr fun e2 => ?_
        subst e; subst e2
        rw [kd_294] at hk; subst hk; rw [hn] at hs; cases hs
      · exact Or.inl e)
    refine ⟨Stab0.1 M M1 a i K h.1 U hk hs hs2, ?_⟩
    rw [f 29 rfl, f 33 rfl, f 35 rfl, f 37 rfl, s 298 (by decide), s 305 (by decide)]
    exact h.2
  · have s : ∀ c K2, g_kd c = K2 → g_sA K2 = true → M1 c = M c := fun c K2 h1 h2 => U c fun e => by
      subst e; rw [h1] at hk; subst hk; rw [h2] at hs2; cases hs2
    have s4 : M1 294 = M 294 := U 294 fun e => by subst e; rw [kd_294] at hk; subst hk; exact hs rfl
    refine ⟨Stab0.2.1 M M1 a K h.1 U hk hs hs2, ?_⟩
    rw [s4, s 298 44 kd_298 rfl, s 305 51 kd_305 rfl]
    exact h.2
  · refine ⟨Stab0.2.2 M M1 q h.1 U hn, ?_⟩
    rw [U.1 294 (by decide), U.1 298 (by decide), U.1 305 (by decide)]
    exact h.2
/-- each line of a log that was read tells a walker, or seconds -/
def gLl (M : pM) (n : Int) : Prop := ∀ i : Nat, (i : Int) < n → (o_a (M 298) (2 * i)).toInt < 0 ∨ 4 < (o_a (M 298) (2 * i)).toInt ∨ (0 ≤ (o_a (M 298) (2 * i + 1)).toInt ∧ (o_a (M 298) (2 * i + 1)).toInt ≤ 5)
theorem gLl.zero {M : pM} {n : Int} (h : n ≤ 0) : gLl M n := fun i hi => absurd hi (by omega)
theorem gLl.same {M M1 : pM} {n n1 : Int} (h : gLl M n) (e : o_a (M1 298) = o_a (M 298)) (hn : n1 ≤ n) : gLl M1 n1 := fun i hi => by
  rw [e]; exact h i (by omega)
theorem gLl.add {M M1 : pM} {n n1 : Int} (h : gLl M n) (h0 : 0 ≤ n) (e : ∀ z : Nat, (z : Int) < 2 * n → o_a (M1 298) z = o_a (M 298) z) (hn : n1 = n + 1) (w : (o_a (M1 298) (2 * n).toNat).toInt = 5 ∨ (0 ≤ (o_a (M1 298) (2 * n + 1).toNat).toInt ∧ (o_a (M1 298) (2 * n + 1).toNat).toInt ≤ 5)) : gLl M1 n1 := fun i hi => by
  by_cases q : (i : Int) = n
  · rw [show (2 * n).toNat = 2 * i from by omega, show (2 * n + 1).toNat = 2 * i + 1 from by omega] at w
    omega
  · rw [e (2 * i) (by omega), e (2 * i + 1) (by omega)]; exact h i (by omega)
/-- the bytes on the tape are walkers' -/
def gOc (M : pM) (n : Int) : Prop := ∀ z : Nat, (z : Int) < n → (o_a (M 295) z &&& 255).toInt ≤ 5
theorem gOc.zero {M : pM} {n : Int} (h : n ≤ 0) : gOc M n := fun z hz => absurd hz (by omega)
theorem gOc.at {M M1 : pM} {n n1 : Int} (h : gOc M n) (e : M1 295 = M 295) (hn : n1 ≤ n) : gOc M1 n1 := fun z hz => by rw [e]; exact h z (by omega)
theorem gOc.add {M : pM} {n n1 : Int} {x : Int32} (h : gOc M n) (h0 : 0 ≤ n) (hx : x.toInt = (o_a (M 295) n.toNat &&& 255).toInt) (h5 : x.toInt ≤ 5) (hn : n1 = n + 1) : gOc M n1 := fun z hz => by
  by_cases q : (z : Int) = n
  · rw [show z = n.toNat from by omega, ← hx]; exact h5
  · exact h z (by omega)
theorem c_X12_octet_v (V : pM → Prop) (hV : Stab V) (G : pG) (Kr : pK) (M : pM) (I : Iv V M) (a1 : Int32) (hl_a1 : 0 ≤ a1.toInt) (hh_a1 : a1.toInt ≤ 939) (hK : ∀ (x : Int32) (M1 : pM), Iv V M1 → Fr [] M M1 → 0 ≤ x.toInt → x.toInt ≤ 255 → (x.toInt = (o_a (M1 295) a1.toInt.toNat &&& 255).toInt) → ((gLq M1 M) ∧ gHq M1 M) → Kr.1 (some (.int x)) 311 M1) : PW G false 0 172 (p_mc 172) (p_msl 172) Kr 0 (lv_args 0 [.ref 294, .int a1]) [] 311 M 0 0 := by
  have F : Fr [] M M := Fr.refl
  refine PW.aload_n q_172_0 rfl ?_
  refine PW.gR 295 q_172_1 (Or.inl t_ft_172_14) gF_40_1 kd_294 I.1 (by decide) rfl ?_
  refine PW.iload_n q_172_4 rfl ?_
  refine PW.aY q_172_5 gA_41 kd_295 I.1 (by decide) (by omega) (by omega) fun x1 fx1 => ?_
  refine PW.cS q_172_6 (by decide) fun c2 hc2 => ?_
  refine PW.andE q_172_9 (by omega) fun x3 zx3 hx3 kx3 => ?_
  refine PW.rI q_172_10 rfl (by decide) (by decide) ?_
  exact hK x3 M I F (by omega) (by omega) (by rw [fx1, zx3, n_255 hc2]) ⟨rfl, gHq.refl⟩
theorem c_X12_goesBy (V : pM → Prop) (hV : Stab V) (G : pG) (Kr : pK) (M : pM) (I : Iv V M) (a1 : Int32) (hl_a1 : 0 ≤ a1.toInt) (hh_a1 : a1.toInt ≤ 2) (hp_0 : gOc M (o_i (M 294) 3)) (hp_1 : 1 ≤ o_i (M 294) 3) (hp_2 : 1 ≤ (o_a (M 296) 0).toInt) (hK : ∀ (x : Int32) (M1 : pM), Iv V M1 → Fr [49] M M1 → 0 ≤ x.toInt → x.toInt ≤ 1 → ((gLq M1 M) ∧ gHq M1 M) → Kr.1 (some (.int x)) 311 M1) : PW G false 3 247 (p_mc 247) (p_msl 247) Kr 0 (lv_args 0 [.ref 294, .int a1]) [] 311 M 0 0 := by
  have F : Fr [49] M M := Fr.refl
  refine PW.cI q_247_0 (by decide) fun c1 hc1 => ?_
  refine PW.istore_n q_247_1 (by decide) ?_
  have L247_2_2 : ∀ (n : Nat) (ML247_2_2 : pM) (v3 : Int32), Iv (V) ML247_2_2 → Fr [49] M ML247_2_2 → 0 ≤ v3.toInt → v3.toInt ≤ 6 → (gLq ML247_2_2 M ∧ gHq ML247_2_2 M) → (6 - v3.toInt).toNat = n → PW G false 3 247 (p_mc 247) (p_msl 247) Kr 2 [(0, .ref 294), (1, .int a1), (2, .int v3)] [] 311 ML247_2_2 0 0 := by
    intro n
    induction n using Nat.strongRecOn with
    | ind n ih_L247_2_2 =>
    intro ML247_2_2 v3 IML247_2_2 FML247_2_2 hbL247_2_20 hbL247_2_21 hbL247_2_22 hmL247_2_2
    refine PW.iload_n q_247_2 rfl ?_
    refine PW.cB q_247_3 (by decide) fun c4 hc4 => ?_
    refine PW.jc_ge q_247_5 rfl (fun h5 => ?_) (fun h5 => ?_)
    · skip
      refine PW.aload_n q_247_21 rfl ?_
      refine PW.gR 303 q_247_22 (Or.inl t_ft_247_56) gF_40_24 kd_294 IML247_2_2.1 (by decide) rfl ?_
      refine PW.aload_n q_247_25 rfl ?_
      refine PW.cI q_247_26 (by decide) fun c6 hc6 => ?_
      refine PW.cV (as := [_]) (rest := [_]) q_247_27 t_mv_247_346 kd_294 IML247_2_2.1 (by decide) rfl (by decide) rfl rfl (Nat.le_of_ble_eq_true rfl) (Nat.le_of_ble_eq_true rfl) (by decide) (by decide) ?_
      refine PW.up (by decide) (c_X12_octet_v (V) (hV) G _ ML247_2_2 IML247_2_2 c6 (by omega) (by omega) fun x8 M7 IM7 GM7 hx8 kx8 PM7 TM7 => ?_)
      have FM7 := Fr.trans FML247_2_2 GM7 (rfl)
      have to9 : x8.toInt ≤ 5 := by rw [PM7, Fr.at FM7 kd_295 rfl]; exact hp_0 _ (by omega)
      refine PW.cI q_247_30 (by decide) fun c10 hc10 => ?_
      refine PW.wI q_247_31 gA_49 kd_303 hV IM7 (by decide) rfl gC_49_0_5 (by decide) (by omega) (by omega) (n_lo _) (n_hi _) fun M11 IM11 fM11 UM11 => ?_
      have FM11 := Fr.pu FM7 UM11.1 kd_303 (rfl : List.contains [49] 49 = true)
      refine PW.cI q_247_32 (by decide) fun c12 hc12 => ?_
      refine PW.istore_n q_247_33 (by decide) ?_
      have L247_34_13 : ∀ (n : Nat) (ML247_34_13 : pM) (v14 : Int32), Iv (V) ML247_34_13 → Fr [49] M ML247_34_13 → 1 ≤ v14.toInt → v14.toInt ≤ 940 → (gLq ML247_34_13 M ∧ gHq ML247_34_13 M) → (940 - v14.toInt).toNat = n → PW G false 3 247 (p_mc 247) (p_msl 247) Kr 34 [(0, .ref 294), (1, .int a1), (2, .int v14)] [] 311 ML247_34_13 0 0 := by
        intro n
        induction n using Nat.strongRecOn with
        | ind n ih_L247_34_13 =>
        intro ML247_34_13 v14 IML247_34_13 FML247_34_13 hbL247_34_130 hbL247_34_131 hbL247_34_132 hmL247_34_13
        refine PW.iload_n q_247_34 rfl ?_
        refine PW.aload_n q_247_35 rfl ?_
        refine PW.gI q_247_36 (Or.inl t_ft_247_18) gF_40_3 kd_294 IML247_34_13.1 (by decide) fun x15 fx15 hx15 kx15 => ?_
        have tl16 : o_i (M 294) 3 = x15.toInt := by rw [← Fr.at FML247_34_13 kd_294 rfl]; exact o_i_of fx15
        refine PW.jc_ge q_247_39 rfl (fun h17 => ?_) (fun h17 => ?_)
        · skip
          refine PW.cI q_247_83 (by decide) fun c18 hc18 => ?_
          refine PW.rZ q_247_84 rfl (by omega) (by omega) (by decide) (by decide) ?_
          exact hK c18 ML247_34_13 IML247_34_13 FML247_34_13 (by omega) (by omega) ⟨hbL247_34_132.1, hbL247_34_132.2⟩
        · skip
          refine PW.aload_n q_247_42 rfl ?_
          refine PW.iload_n q_247_43 rfl ?_
          refine PW.aload_n q_247_44 rfl ?_
          refine PW.iload_n q_247_45 rfl ?_
          refine PW.cI q_247_46 (by decide) fun c19 hc19 => ?_
          refine PW.subN q_247_47 (by omega) (by omega) fun x20 hx20 => ?_
          refine PW.cV (as := [_]) (rest := [_, _]) q_247_48 t_mv_247_346 kd_294 IML247_34_13.1 (by decide) rfl (by decide) rfl rfl (Nat.le_of_ble_eq_true rfl) (Nat.le_of_ble_eq_true rfl) (by decide) (by decide) ?_
          refine PW.up (by decide) (c_X12_octet_v (V) (hV) G _ ML247_34_13 IML247_34_13 x20 (by omega) (by omega) fun x22 M21 IM21 GM21 hx22 kx22 PM21 TM21 => ?_)
          have FM21 := Fr.trans FML247_34_13 GM21 (rfl)
          have to23 : x22.toInt ≤ 5 := by rw [PM21, Fr.at FM21 kd_295 rfl]; exact hp_0 _ (by omega)
          refine PW.cV (as := [_, _]) (rest := []) q_247_51 t_mv_247_328 kd_294 IM21.1 (by decide) rfl (by decide) rfl rfl (Nat.le_of_ble_eq_true rfl) (Nat.le_of_ble_eq_true rfl) (by decide) (by decide) ?_
          refine PW.up (by decide) (c_X12_stepOf (V) (hV) G _ M21 IM21 a1 x22 (by omega) (by omega) (by rw [Fr.at FM21 kd_296 rfl]; exact hp_2) fun x25 M24 IM24 GM24 hx25 kx25 TM24 => ?_)
          have FM24 := Fr.trans FM21 GM24 (rfl)
          refine PW.aload_n q_247_54 rfl ?_
          refine PW.iload_n q_247_55 rfl ?_
          refine PW.cV (as := [_]) (rest := [_]) q_247_56 t_mv_247_346 kd_294 IM24.1 (by decide) rfl (by decide) rfl rfl (Nat.le_of_ble_eq_true rfl) (Nat.le_of_ble_eq_true rfl) (by decide) (by decide) ?_
          refine PW.up (by decide) (c_X12_octet_v (V) (hV) G _ M24 IM24 v14 (by omega) (by omega) fun x27 M26 IM26 GM26 hx27 kx27 PM26 TM26 => ?_)
          have FM26 := Fr.trans FM24 GM26 (rfl)
          have to28 : x27.toInt ≤ 5 := by rw [PM26, Fr.at FM26 kd_295 rfl]; exact hp_0 _ (by omega)
          refine PW.jc_eq q_247_59 rfl (fun h29 => ?_) (fun h29 => ?_)
          · skip
            refine PW.aload_n q_247_64 rfl ?_
            refine PW.gR 303 q_247_65 (Or.inl t_ft_247_56) gF_40_24 kd_294 IM26.1 (by decide) rfl ?_
            refine PW.aload_n q_247_68 rfl ?_
            refine PW.iload_n q_247_69 rfl ?_
            refine PW.cV (as := [_]) (rest := [_]) q_247_70 t_mv_247_346 kd_294 IM26.1 (by decide) rfl (by decide) rfl rfl (Nat.le_of_ble_eq_true rfl) (Nat.le_of_ble_eq_true rfl) (by decide) (by decide) ?_
            refine PW.up (by decide) (c_X12_octet_v (V) (hV) G _ M26 IM26 v14 (by omega) (by omega) fun x31 M30 IM30 GM30 hx31 kx31 PM30 TM30 => ?_)
            have FM30 := Fr.trans FM26 GM30 (rfl)
            have to32 : x31.toInt ≤ 5 := by rw [PM30, Fr.at FM30 kd_295 rfl]; exact hp_0 _ (by omega)
            refine PW.iload_n q_247_73 rfl ?_
            refine PW.cI q_247_74 (by decide) fun c33 hc33 => ?_
            refine PW.addN q_247_75 (by omega) (by omega) fun x34 hx34 => ?_
            refine PW.wI q_247_76 gA_49 kd_303 hV IM30 (by decide) rfl gC_49_0_5 (by decide) (by omega) (by omega) (n_lo _) (n_hi _) fun M35 IM35 fM35 UM35 => ?_
            have FM35 := Fr.pu FM30 UM35.1 kd_303 (rfl : List.contains [49] 49 = true)
            refine PW.incN q_247_77 rfl (by decide) (by decide) (by omega) (by omega) fun x36 hx36 => ?_
            refine PW.goto q_247_80 rfl ?_
            refine PW.lvS (lk1 rfl (lk1 rfl (lk1 rfl lk0))) (ih_L247_34_13 _ ?_ M35 x36 IM35 FM35 (by omega) (by omega) ⟨((congrArg (fun e => o_i e 2) (UM35.1 294 (by decide))).trans ((congrArg (fun e => o_i e 2) (Fr.at GM30 kd_294 rfl)).trans ((congrArg (fun e => o_i e 2) (Fr.at GM26 kd_294 rfl)).trans ((congrArg (fun e => o_i e 2) (Fr.at GM24 kd_294 rfl)).trans ((congrArg (fun e => o_i e 2) (Fr.at GM21 kd_294 rfl)).trans hbL247_34_132.1))))), (((((hbL247_34_132.2.cg (Fr.at GM21 kd_296 rfl) (Fr.at GM21 kd_294 rfl)).cg (Fr.at GM24 kd_296 rfl) (Fr.at GM24 kd_294 rfl)).cg (Fr.at GM26 kd_296 rfl) (Fr.at GM26 kd_294 rfl)).cg (Fr.at GM30 kd_296 rfl) (Fr.at GM30 kd_294 rfl)).cg (UM35.1 296 (by decide)) (UM35.1 294 (by decide)))⟩ rfl)
            omega
          · skip
            refine PW.cI q_247_62 (by decide) fun c37 hc37 => ?_
            refine PW.rZ q_247_63 rfl (by omega) (by omega) (by decide) (by decide) ?_
            exact hK c37 M26 IM26 FM26 (by omega) (by omega) ⟨((congrArg (fun e => o_i e 2) (Fr.at GM26 kd_294 rfl)).trans ((congrArg (fun e => o_i e 2) (Fr.at GM24 kd_294 rfl)).trans ((congrArg (fun e => o_i e 2) (Fr.at GM21 kd_294 rfl)).trans hbL247_34_132.1))), (((hbL247_34_132.2.cg (Fr.at GM21 kd_296 rfl) (Fr.at GM21 kd_294 rfl)).cg (Fr.at GM24 kd_296 rfl) (Fr.at GM24 kd_294 rfl)).cg (Fr.at GM26 kd_296 rfl) (Fr.at GM26 kd_294 rfl))⟩
      exact PW.lvS (lk1 rfl (lk1 rfl (lk1 rfl lk0))) (L247_34_13 _ M11 c12 IM11 FM11 (by omega) (by omega) ⟨((congrArg (fun e => o_i e 2) (UM11.1 294 (by decide))).trans ((congrArg (fun e => o_i e 2) (Fr.at GM7 kd_294 rfl)).trans hbL247_2_22.1)), ((hbL247_2_22.2.cg (Fr.at GM7 kd_296 rfl) (Fr.at GM7 kd_294 rfl)).cg (UM11.1 296 (by decide)) (UM11.1 294 (by decide)))⟩ rfl)
    · skip
      refine PW.aload_n q_247_8 rfl ?_
      refine PW.gR 303 q_247_9 (Or.inl t_ft_247_56) gF_40_24 kd_294 IML247_2_2.1 (by decide) rfl ?_
      refine PW.iload_n q_247_12 rfl ?_
      refine PW.cI q_247_13 (by decide) fun c38 hc38 => ?_
      refine PW.wI q_247_14 gA_49 kd_303 hV IML247_2_2 (by decide) rfl gC_49_0_5 (by decide) (by omega) (by omega) (n_lo _) (n_hi _) fun M39 IM39 fM39 UM39 => ?_
      have FM39 := Fr.pu FML247_2_2 UM39.1 kd_303 (rfl : List.contains [49] 49 = true)
      refine PW.incN q_247_15 rfl (by decide) (by decide) (by omega) (by omega) fun x40 hx40 => ?_
      refine PW.goto q_247_18 rfl ?_
      refine PW.lvS (lk1 rfl (lk1 rfl (lk1 rfl lk0))) (ih_L247_2_2 _ ?_ M39 x40 IM39 FM39 (by omega) (by omega) ⟨((congrArg (fun e => o_i e 2) (UM39.1 294 (by decide))).trans hbL247_2_22.1), (hbL247_2_22.2.cg (UM39.1 296 (by decide)) (UM39.1 294 (by decide)))⟩ rfl)
      omega
  exact PW.lvS (lk1 rfl (lk1 rfl (lk1 rfl lk0))) (L247_2_2 _ M c1 I F (by omega) (by omega) ⟨rfl, gHq.refl⟩ rfl)
theorem c_X12_laws (G : pG) (Kr : pK) (M : pM) (I : Iv gTT M)  (hK : ∀ (x : Int32) (M1 : pM), Iv gTT M1 → Fr [40, 49] M M1 → ((gLz M1) ∧ gHq M1 M) → Kr.1 (some (.int x)) 311 M1) : PW G false 4 248 (p_mc 248) (p_msl 248) Kr 0 (lv_args 0 [.ref 294]) [] 311 M 0 0 := by
  have F : Fr [40, 49] M M := Fr.refl
  refine PW.aload_n q_248_0 rfl ?_
  refine PW.cI q_248_1 (by decide) fun c1 hc1 => ?_
  refine PW.pI q_248_2 (Or.inl t_ft_248_1) gF_40_0 gP_40_0 kd_294 Stab0 I (by decide) rfl (n_lo _) (n_hi _) fun M2 IM2 fM2 UM2 => ?_
  have FM2 := Fr.pu F UM2.1 kd_294 (rfl : List.contains [40, 49] 40 = true)
  have tr3 := UM2.i (c := 294) (k := 3) (Or.inr (by decide))
  refine PW.aload_n q_248_5 rfl ?_
  refine PW.cS q_248_6 (by decide) fun c4 hc4 => ?_
  refine PW.cV (as := [_]) (rest := []) q_248_9 t_mv_248_226 kd_294 IM2.1 (by decide) rfl (by decide) rfl rfl (Nat.le_of_ble_eq_true rfl) (Nat.le_of_ble_eq_true rfl) (by decide) (by decide) ?_
  refine PW.up (by decide) (c_X12_taken (gTT) (Stab0) G _ M2 IM2 c4 fun M5 IM5 GM5 TM5 => ?_)
  have FM5 := Fr.trans FM2 GM5 (rfl)
  refine PW.aload_n q_248_12 rfl ?_
  refine PW.gI q_248_13 (Or.inl t_ft_248_18) gF_40_3 kd_294 IM5.1 (by decide) fun x6 fx6 hx6 kx6 => ?_
  have trx6 := o_i_of fx6
  refine PW.cI q_248_16 (by decide) fun c7 hc7 => ?_
  refine PW.cB q_248_17 (by decide) fun c8 hc8 => ?_
  refine PW.callS (as := [_, _, _]) (rest := []) q_248_19 t_ms_248_176 (by decide) rfl (Nat.le_of_ble_eq_true rfl) (Nat.le_of_ble_eq_true rfl) (by decide) (by decide) ?_
  refine PW.iload_n q_166_0 rfl ?_
  refine PW.iload_n q_166_1 rfl ?_
  refine PW.jc_lt q_166_2 rfl (fun h9 => ?_) (fun h9 => ?_)
  · skip
    refine PW.cI q_166_14 (by decide) fun c10 hc10 => ?_
    refine PW.rZ q_166_15 rfl (by omega) (by omega) (by decide) (by decide) ?_
    refine PW.istore_n q_248_22 (by decide) ?_
    refine PW.cI q_248_23 (by decide) fun c11 hc11 => ?_
    refine PW.istore_n q_248_24 (by decide) ?_
    have L248_25_12 : ∀ (n : Nat) (ML248_25_12 : pM) (v13 v14 : Int32), Iv (gTT) ML248_25_12 → Fr [40, 49] M ML248_25_12 → 0 ≤ v13.toInt → v13.toInt ≤ 1 → 0 ≤ v14.toInt → v14.toInt ≤ 940 → v13.toInt = 0 ∨ (gOc M v14.toInt ∧ (v14.toInt = 0 ∨ 1 ≤ (o_a (M 296) 0).toInt)) → v13.toInt = 0 ∨ (2 ≤ o_i (ML248_25_12 294) 3 ∧ o_i (ML248_25_12 294) 3 ≤ 40) → (gLz ML248_25_12 ∧ gHq ML248_25_12 M) → (940 - v14.toInt).toNat = n → PW G false 4 248 (p_mc 248) (p_msl 248) Kr 25 [(0, .ref 294), (1, .int v13), (2, .int v14)] [] 311 ML248_25_12 0 0 := by
      intro n
      induction n using Nat.strongRecOn with
      | ind n ih_L248_25_12 =>
      intro ML248_25_12 v13 v14 IML248_25_12 FML248_25_12 hbL248_25_120 hbL248_25_121 hbL248_25_122 hbL248_25_123 hbL248_25_124 hbL248_25_125 hbL248_25_126 hmL248_25_12
      refine PW.iload_n q_248_25 rfl ?_
      refine PW.aload_n q_248_26 rfl ?_
      refine PW.gI q_248_27 (Or.inl t_ft_248_18) gF_40_3 kd_294 IML248_25_12.1 (by decide) fun x15 fx15 hx15 kx15 => ?_
      have trx15 := o_i_of fx15
      refine PW.jc_ge q_248_30 rfl (fun h16 => ?_) (fun h16 => ?_)
      · skip
        refine PW.iload_n q_248_80 rfl ?_
        refine PW.jz_ne q_248_81 rfl (fun h17 => ?_) (fun h17 => ?_)
        · skip
          obtain ⟨ho1, ho2⟩ := hbL248_25_124.resolve_left (by omega)
          refine PW.aload_n q_248_86 rfl ?_
          refine PW.cI q_248_87 (by decide) fun c18 hc18 => ?_
          refine PW.cV (as := [_]) (rest := []) q_248_88 t_mv_248_349 kd_294 IML248_25_12.1 (by decide) rfl (by decide) rfl rfl (Nat.le_of_ble_eq_true rfl) (Nat.le_of_ble_eq_true rfl) (by decide) (by decide) ?_
          refine PW.up (by decide) (c_X12_goesBy (gTT) (Stab0) G _ ML248_25_12 IML248_25_12 c18 (by omega) (by omega) (gOc.at ho1 (Fr.at FML248_25_12 kd_295 rfl) (by omega)) (by omega) (by rw [Fr.at FML248_25_12 kd_296 rfl]; omega) fun x20 M19 IM19 GM19 hx20 kx20 TM19 => ?_)
          have FM19 := Fr.trans FML248_25_12 GM19 (rfl)
          have tr21 : o_i (M19 294) 3 = o_i (ML248_25_12 294) 3 := by rw [Fr.at GM19 kd_294 (by decide)]
          refine PW.jz_eq q_248_91 rfl (fun h22 => ?_) (fun h22 => ?_)
          · skip
            refine PW.cI q_248_98 (by decide) fun c23 hc23 => ?_
            refine PW.aload_n q_248_99 rfl ?_
            refine PW.cI q_248_100 (by decide) fun c24 hc24 => ?_
            refine PW.cV (as := [_]) (rest := [_]) q_248_101 t_mv_248_349 kd_294 IM19.1 (by decide) rfl (by decide) rfl rfl (Nat.le_of_ble_eq_true rfl) (Nat.le_of_ble_eq_true rfl) (by decide) (by decide) ?_
            refine PW.up (by decide) (c_X12_goesBy (gTT) (Stab0) G _ M19 IM19 c24 (by omega) (by omega) (gOc.at ho1 (Fr.at FM19 kd_295 rfl) (by omega)) (by omega) (by rw [Fr.at FM19 kd_296 rfl]; omega) fun x26 M25 IM25 GM25 hx26 kx26 TM25 => ?_)
            have FM25 := Fr.trans FM19 GM25 (rfl)
            have tr27 : o_i (M25 294) 3 = o_i (M19 294) 3 := by rw [Fr.at GM25 kd_294 (by decide)]
            refine PW.jz_eq q_248_104 rfl (fun h28 => ?_) (fun h28 => ?_)
            · skip
              refine PW.cI q_248_111 (by decide) fun c29 hc29 => ?_
              refine PW.addN q_248_112 (by omega) (by omega) fun x30 hx30 => ?_
              refine PW.aload_n q_248_113 rfl ?_
              refine PW.cI q_248_114 (by decide) fun c31 hc31 => ?_
              refine PW.cV (as := [_]) (rest := [_]) q_248_115 t_mv_248_349 kd_294 IM25.1 (by decide) rfl (by decide) rfl rfl (Nat.le_of_ble_eq_true rfl) (Nat.le_of_ble_eq_true rfl) (by decide) (by decide) ?_
              refine PW.up (by decide) (c_X12_goesBy (gTT) (Stab0) G _ M25 IM25 c31 (by omega) (by omega) (gOc.at ho1 (Fr.at FM25 kd_295 rfl) (by omega)) (by omega) (by rw [Fr.at FM25 kd_296 rfl]; omega) fun x33 M32 IM32 GM32 hx33 kx33 TM32 => ?_)
              have FM32 := Fr.trans FM25 GM32 (rfl)
              have tr34 : o_i (M32 294) 3 = o_i (M25 294) 3 := by rw [Fr.at GM32 kd_294 (by decide)]
              refine PW.jz_eq q_248_118 rfl (fun h35 => ?_) (fun h35 => ?_)
              · skip
                refine PW.cI q_248_125 (by decide) fun c36 hc36 => ?_
                refine PW.addN q_248_126 (by omega) (by omega) fun x37 hx37 => ?_
                refine PW.rI q_248_127 rfl (by decide) (by decide) ?_
                exact hK x37 M32 IM32 FM32 ⟨((congrArg (fun e => o_i e 2) (Fr.at GM32 kd_294 rfl)).trans ((congrArg (fun e => o_i e 2) (Fr.at GM25 kd_294 rfl)).trans ((congrArg (fun e => o_i e 2) (Fr.at GM19 kd_294 rfl)).trans hbL248_25_126.1))), (((hbL248_25_126.2.cg (Fr.at GM19 kd_296 rfl) (Fr.at GM19 kd_294 rfl)).cg (Fr.at GM25 kd_296 rfl) (Fr.at GM25 kd_294 rfl)).cg (Fr.at GM32 kd_296 rfl) (Fr.at GM32 kd_294 rfl))⟩
              · skip
                refine PW.cI q_248_121 (by decide) fun c38 hc38 => ?_
                refine PW.goto q_248_122 rfl ?_
                refine PW.addN q_248_126 (by omega) (by omega) fun x39 hx39 => ?_
                refine PW.rI q_248_127 rfl (by decide) (by decide) ?_
                exact hK x39 M32 IM32 FM32 ⟨((congrArg (fun e => o_i e 2) (Fr.at GM32 kd_294 rfl)).trans ((congrArg (fun e => o_i e 2) (Fr.at GM25 kd_294 rfl)).trans ((congrArg (fun e => o_i e 2) (Fr.at GM19 kd_294 rfl)).trans hbL248_25_126.1))), (((hbL248_25_126.2.cg (Fr.at GM19 kd_296 rfl) (Fr.at GM19 kd_294 rfl)).cg (Fr.at GM25 kd_296 rfl) (Fr.at GM25 kd_294 rfl)).cg (Fr.at GM32 kd_296 rfl) (Fr.at GM32 kd_294 rfl))⟩
            · skip
              refine PW.cI q_248_107 (by decide) fun c40 hc40 => ?_
              refine PW.goto q_248_108 rfl ?_
              refine PW.addN q_248_112 (by omega) (by omega) fun x41 hx41 => ?_
              refine PW.aload_n q_248_113 rfl ?_
              refine PW.cI q_248_114 (by decide) fun c42 hc42 => ?_
              refine PW.cV (as := [_]) (rest := [_]) q_248_115 t_mv_248_349 kd_294 IM25.1 (by decide) rfl (by decide) rfl rfl (Nat.le_of_ble_eq_true rfl) (Nat.le_of_ble_eq_true rfl) (by decide) (by decide) ?_
              refine PW.up (by decide) (c_X12_goesBy (gTT) (Stab0) G _ M25 IM25 c42 (by omega) (by omega) (gOc.at ho1 (Fr.at FM25 kd_295 rfl) (by omega)) (by omega) (by rw [Fr.at FM25 kd_296 rfl]; omega) fun x44 M43 IM43 GM43 hx44 kx44 TM43 => ?_)
              have FM43 := Fr.trans FM25 GM43 (rfl)
              have tr45 : o_i (M43 294) 3 = o_i (M25 294) 3 := by rw [Fr.at GM43 kd_294 (by decide)]
              refine PW.jz_eq q_248_118 rfl (fun h46 => ?_) (fun h46 => ?_)
              · skip
                refine PW.cI q_248_125 (by decide) fun c47 hc47 => ?_
                refine PW.addN q_248_126 (by omega) (by omega) fun x48 hx48 => ?_
                refine PW.rI q_248_127 rfl (by decide) (by decide) ?_
                exact hK x48 M43 IM43 FM43 ⟨((congrArg (fun e => o_i e 2) (Fr.at GM43 kd_294 rfl)).trans ((congrArg (fun e => o_i e 2) (Fr.at GM25 kd_294 rfl)).trans ((congrArg (fun e => o_i e 2) (Fr.at GM19 kd_294 rfl)).trans hbL248_25_126.1))), (((hbL248_25_126.2.cg (Fr.at GM19 kd_296 rfl) (Fr.at GM19 kd_294 rfl)).cg (Fr.at GM25 kd_296 rfl) (Fr.at GM25 kd_294 rfl)).cg (Fr.at GM43 kd_296 rfl) (Fr.at GM43 kd_294 rfl))⟩
              · skip
                refine PW.cI q_248_121 (by decide) fun c49 hc49 => ?_
                refine PW.goto q_248_122 rfl ?_
                refine PW.addN q_248_126 (by omega) (by omega) fun x50 hx50 => ?_
                refine PW.rI q_248_127 rfl (by decide) (by decide) ?_
                exact hK x50 M43 IM43 FM43 ⟨((congrArg (fun e => o_i e 2) (Fr.at GM43 kd_294 rfl)).trans ((congrArg (fun e => o_i e 2) (Fr.at GM25 kd_294 rfl)).trans ((congrArg (fun e => o_i e 2) (Fr.at GM19 kd_294 rfl)).trans hbL248_25_126.1))), (((hbL248_25_126.2.cg (Fr.at GM19 kd_296 rfl) (Fr.at GM19 kd_294 rfl)).cg (Fr.at GM25 kd_296 rfl) (Fr.at GM25 kd_294 rfl)).cg (Fr.at GM43 kd_296 rfl) (Fr.at GM43 kd_294 rfl))⟩
          · skip
            refine PW.cI q_248_94 (by decide) fun c51 hc51 => ?_
            refine PW.goto q_248_95 rfl ?_
            refine PW.aload_n q_248_99 rfl ?_
            refine PW.cI q_248_100 (by decide) fun c52 hc52 => ?_
            refine PW.cV (as := [_]) (rest := [_]) q_248_101 t_mv_248_349 kd_294 IM19.1 (by decide) rfl (by decide) rfl rfl (Nat.le_of_ble_eq_true rfl) (Nat.le_of_ble_eq_true rfl) (by decide) (by decide) ?_
            refine PW.up (by decide) (c_X12_goesBy (gTT) (Stab0) G _ M19 IM19 c52 (by omega) (by omega) (gOc.at ho1 (Fr.at FM19 kd_295 rfl) (by omega)) (by omega) (by rw [Fr.at FM19 kd_296 rfl]; omega) fun x54 M53 IM53 GM53 hx54 kx54 TM53 => ?_)
            have FM53 := Fr.trans FM19 GM53 (rfl)
            have tr55 : o_i (M53 294) 3 = o_i (M19 294) 3 := by rw [Fr.at GM53 kd_294 (by decide)]
            refine PW.jz_eq q_248_104 rfl (fun h56 => ?_) (fun h56 => ?_)
            · skip
              refine PW.cI q_248_111 (by decide) fun c57 hc57 => ?_
              refine PW.addN q_248_112 (by omega) (by omega) fun x58 hx58 => ?_
              refine PW.aload_n q_248_113 rfl ?_
              refine PW.cI q_248_114 (by decide) fun c59 hc59 => ?_
              refine PW.cV (as := [_]) (rest := [_]) q_248_115 t_mv_248_349 kd_294 IM53.1 (by decide) rfl (by decide) rfl rfl (Nat.le_of_ble_eq_true rfl) (Nat.le_of_ble_eq_true rfl) (by decide) (by decide) ?_
              refine PW.up (by decide) (c_X12_goesBy (gTT) (Stab0) G _ M53 IM53 c59 (by omega) (by omega) (gOc.at ho1 (Fr.at FM53 kd_295 rfl) (by omega)) (by omega) (by rw [Fr.at FM53 kd_296 rfl]; omega) fun x61 M60 IM60 GM60 hx61 kx61 TM60 => ?_)
              have FM60 := Fr.trans FM53 GM60 (rfl)
              have tr62 : o_i (M60 294) 3 = o_i (M53 294) 3 := by rw [Fr.at GM60 kd_294 (by decide)]
              refine PW.jz_eq q_248_118 rfl (fun h63 => ?_) (fun h63 => ?_)
              · skip
                refine PW.cI q_248_125 (by decide) fun c64 hc64 => ?_
                refine PW.addN q_248_126 (by omega) (by omega) fun x65 hx65 => ?_
                refine PW.rI q_248_127 rfl (by decide) (by decide) ?_
                exact hK x65 M60 IM60 FM60 ⟨((congrArg (fun e => o_i e 2) (Fr.at GM60 kd_294 rfl)).trans ((congrArg (fun e => o_i e 2) (Fr.at GM53 kd_294 rfl)).trans ((congrArg (fun e => o_i e 2) (Fr.at GM19 kd_294 rfl)).trans hbL248_25_126.1))), (((hbL248_25_126.2.cg (Fr.at GM19 kd_296 rfl) (Fr.at GM19 kd_294 rfl)).cg (Fr.at GM53 kd_296 rfl) (Fr.at GM53 kd_294 rfl)).cg (Fr.at GM60 kd_296 rfl) (Fr.at GM60 kd_294 rfl))⟩
              · skip
                refine PW.cI q_248_121 (by decide) fun c66 hc66 => ?_
                refine PW.goto q_248_122 rfl ?_
                refine PW.addN q_248_126 (by omega) (by omega) fun x67 hx67 => ?_
                refine PW.rI q_248_127 rfl (by decide) (by decide) ?_
                exact hK x67 M60 IM60 FM60 ⟨((congrArg (fun e => o_i e 2) (Fr.at GM60 kd_294 rfl)).trans ((congrArg (fun e => o_i e 2) (Fr.at GM53 kd_294 rfl)).trans ((congrArg (fun e => o_i e 2) (Fr.at GM19 kd_294 rfl)).trans hbL248_25_126.1))), (((hbL248_25_126.2.cg (Fr.at GM19 kd_296 rfl) (Fr.at GM19 kd_294 rfl)).cg (Fr.at GM53 kd_296 rfl) (Fr.at GM53 kd_294 rfl)).cg (Fr.at GM60 kd_296 rfl) (Fr.at GM60 kd_294 rfl))⟩
            · skip
              refine PW.cI q_248_107 (by decide) fun c68 hc68 => ?_
              refine PW.goto q_248_108 rfl ?_
              refine PW.addN q_248_112 (by omega) (by omega) fun x69 hx69 => ?_
              refine PW.aload_n q_248_113 rfl ?_
              refine PW.cI q_248_114 (by decide) fun c70 hc70 => ?_
              refine PW.cV (as := [_]) (rest := [_]) q_248_115 t_mv_248_349 kd_294 IM53.1 (by decide) rfl (by decide) rfl rfl (Nat.le_of_ble_eq_true rfl) (Nat.le_of_ble_eq_true rfl) (by decide) (by decide) ?_
              refine PW.up (by decide) (c_X12_goesBy (gTT) (Stab0) G _ M53 IM53 c70 (by omega) (by omega) (gOc.at ho1 (Fr.at FM53 kd_295 rfl) (by omega)) (by omega) (by rw [Fr.at FM53 kd_296 rfl]; omega) fun x72 M71 IM71 GM71 hx72 kx72 TM71 => ?_)
              have FM71 := Fr.trans FM53 GM71 (rfl)
              have tr73 : o_i (M71 294) 3 = o_i (M53 294) 3 := by rw [Fr.at GM71 kd_294 (by decide)]
              refine PW.jz_eq q_248_118 rfl (fun h74 => ?_) (fun h74 => ?_)
              · skip
                refine PW.cI q_248_125 (by decide) fun c75 hc75 => ?_
                refine PW.addN q_248_126 (by omega) (by omega) fun x76 hx76 => ?_
                refine PW.rI q_248_127 rfl (by decide) (by decide) ?_
                exact hK x76 M71 IM71 FM71 ⟨((congrArg (fun e => o_i e 2) (Fr.at GM71 kd_294 rfl)).trans ((congrArg (fun e => o_i e 2) (Fr.at GM53 kd_294 rfl)).trans ((congrArg (fun e => o_i e 2) (Fr.at GM19 kd_294 rfl)).trans hbL248_25_126.1))), (((hbL248_25_126.2.cg (Fr.at GM19 kd_296 rfl) (Fr.at GM19 kd_294 rfl)).cg (Fr.at GM53 kd_296 rfl) (Fr.at GM53 kd_294 rfl)).cg (Fr.at GM71 kd_296 rfl) (Fr.at GM71 kd_294 rfl))⟩
              · skip
                refine PW.cI q_248_121 (by decide) fun c77 hc77 => ?_
                refine PW.goto q_248_122 rfl ?_
                refine PW.addN q_248_126 (by omega) (by omega) fun x78 hx78 => ?_
                refine PW.rI q_248_127 rfl (by decide) (by decide) ?_
                exact hK x78 M71 IM71 FM71 ⟨((congrArg (fun e => o_i e 2) (Fr.at GM71 kd_294 rfl)).trans ((congrArg (fun e => o_i e 2) (Fr.at GM53 kd_294 rfl)).trans ((congrArg (fun e => o_i e 2) (Fr.at GM19 kd_294 rfl)).trans hbL248_25_126.1))), (((hbL248_25_126.2.cg (Fr.at GM19 kd_296 rfl) (Fr.at GM19 kd_294 rfl)).cg (Fr.at GM53 kd_296 rfl) (Fr.at GM53 kd_294 rfl)).cg (Fr.at GM71 kd_296 rfl) (Fr.at GM71 kd_294 rfl))⟩
        · skip
          refine PW.cI q_248_84 (by decide) fun c79 hc79 => ?_
          refine PW.rI q_248_85 rfl (by decide) (by decide) ?_
          exact hK c79 ML248_25_12 IML248_25_12 FML248_25_12 ⟨hbL248_25_126.1, hbL248_25_126.2⟩
      · skip
        refine PW.iload_n q_248_33 rfl ?_
        refine PW.jz_eq q_248_34 rfl (fun h80 => ?_) (fun h80 => ?_)
        · skip
          refine PW.iload_n q_248_80 rfl ?_
          refine PW.jz_ne q_248_81 rfl (fun h81 => False.elim (by omega)) (fun h81 => ?_)
          refine PW.cI q_248_84 (by decide) fun c82 hc82 => ?_
          refine PW.rI q_248_85 rfl (by decide) (by decide) ?_
          exact hK c82 ML248_25_12 IML248_25_12 FML248_25_12 ⟨hbL248_25_126.1, hbL248_25_126.2⟩
        · skip
          refine PW.aload_n q_248_37 rfl ?_
          refine PW.aload_n q_248_38 rfl ?_
          refine PW.iload_n q_248_39 rfl ?_
          refine PW.cV (as := [_]) (rest := [_]) q_248_40 t_mv_248_346 kd_294 IML248_25_12.1 (by decide) rfl (by decide) rfl rfl (Nat.le_of_ble_eq_true rfl) (Nat.le_of_ble_eq_true rfl) (by decide) (by decide) ?_
          refine PW.up (by decide) (c_X12_octet_v (gTT) (Stab0) G _ ML248_25_12 IML248_25_12 v14 (by omega) (by omega) fun x84 M83 IM83 GM83 hx84 kx84 PM83 TM83 => ?_)
          have FM83 := Fr.trans FML248_25_12 GM83 (rfl)
          have tr85 : o_i (M83 294) 3 = o_i (ML248_25_12 294) 3 := by rw [Fr.at GM83 kd_294 (by decide)]
          have tx86 : x84.toInt = (o_a (M 295) v14.toInt.toNat &&& 255).toInt := by rw [PM83, Fr.at FM83 kd_295 rfl]
          refine PW.cV (as := [_]) (rest := []) q_248_43 t_mv_248_241 kd_294 IM83.1 (by decide) rfl (by decide) rfl rfl (Nat.le_of_ble_eq_true rfl) (Nat.le_of_ble_eq_true rfl) (by decide) (by decide) ?_
          refine PW.iload_n q_195_0 rfl ?_
          refine PW.cI q_195_1 (by decide) fun c87 hc87 => ?_
          refine PW.aload_n q_195_2 rfl ?_
          refine PW.gR 296 q_195_3 (Or.inl t_ft_195_33) gF_40_6 kd_294 IM83.1 (by decide) rfl ?_
          refine PW.cI q_195_6 (by decide) fun c88 hc88 => ?_
          refine PW.aI q_195_7 gA_42 kd_296 IM83.1 (by decide) gB_42_0_0 (by decide) (by omega) (by omega) fun x89 fx89 hx89 kx89 => ?_
          have tw90 : (o_a (M 296) 0).toInt = x89.toInt := by rw [← Fr.at FM83 kd_296 rfl, show (0 : Nat) = c88.toInt.toNat from by omega, fx89]
          refine PW.cI q_195_8 (by decide) fun c91 hc91 => ?_
          refine PW.subN q_195_9 (by omega) (by omega) fun x92 hx92 => ?_
          refine PW.callS (as := [_, _, _]) (rest := []) q_195_10 t_ms_195_176 (by decide) rfl (Nat.le_of_ble_eq_true rfl) (Nat.le_of_ble_eq_true rfl) (by decide) (by decide) ?_
          refine PW.iload_n q_166_0 rfl ?_
          refine PW.iload_n q_166_1 rfl ?_
          refine PW.jc_lt q_166_2 rfl (fun h93 => False.elim (by omega)) (fun h93 => ?_)
          refine PW.iload_n q_166_5 rfl ?_
          refine PW.iload_n q_166_6 rfl ?_
          refine PW.jc_gt q_166_7 rfl (fun h94 => ?_) (fun h94 => ?_)
          · skip
            refine PW.cI q_166_14 (by decide) fun c95 hc95 => ?_
            refine PW.rZ q_166_15 rfl (by omega) (by omega) (by decide) (by decide) ?_
            refine PW.rZ q_195_13 rfl (by omega) (by omega) (by decide) (by decide) ?_
            refine PW.jz_eq q_248_46 rfl (fun h96 => ?_) (fun h96 => False.elim (by omega))
            refine PW.cI q_248_72 (by decide) fun c97 hc97 => ?_
            refine PW.istore_n q_248_73 (by decide) ?_
            refine PW.incN q_248_74 rfl (by decide) (by decide) (by omega) (by omega) fun x98 hx98 => ?_
            refine PW.goto q_248_77 rfl ?_
            refine PW.lvS (lk1 rfl (lk1 rfl (lk1 rfl lk0))) (ih_L248_25_12 _ ?_ M83 c97 x98 IM83 FM83 (by omega) (by omega) (by omega) (by omega) (Or.inl (by omega)) (by omega) ⟨((congrArg (fun e => o_i e 2) (Fr.at GM83 kd_294 rfl)).trans hbL248_25_126.1), (hbL248_25_126.2.cg (Fr.at GM83 kd_296 rfl) (Fr.at GM83 kd_294 rfl))⟩ rfl)
            omega
          · skip
            refine PW.cI q_166_10 (by decide) fun c99 hc99 => ?_
            refine PW.goto q_166_11 rfl ?_
            refine PW.rZ q_166_15 rfl (by omega) (by omega) (by decide) (by decide) ?_
            refine PW.rZ q_195_13 rfl (by omega) (by omega) (by decide) (by decide) ?_
            refine PW.jz_eq q_248_46 rfl (fun h100 => False.elim (by omega)) (fun h100 => ?_)
            refine PW.iload_n q_248_49 rfl ?_
            refine PW.jz_eq q_248_50 rfl (fun h101 => ?_) (fun h101 => ?_)
            · skip
              refine PW.cI q_248_68 (by decide) fun c102 hc102 => ?_
              refine PW.goto q_248_69 rfl ?_
              refine PW.istore_n q_248_73 (by decide) ?_
              refine PW.incN q_248_74 rfl (by decide) (by decide) (by omega) (by omega) fun x103 hx103 => ?_
              refine PW.goto q_248_77 rfl ?_
              refine PW.lvS (lk1 rfl (lk1 rfl (lk1 rfl lk0))) (ih_L248_25_12 _ ?_ M83 c102 x103 IM83 FM83 (by omega) (by omega) (by omega) (by omega) (Or.inr ⟨gOc.add (hbL248_25_124.resolve_left (by omega)).1 (by omega) tx86 (by omega) (by omega), Or.inr (by omega)⟩) (by omega) ⟨((congrArg (fun e => o_i e 2) (Fr.at GM83 kd_294 rfl)).trans hbL248_25_126.1), (hbL248_25_126.2.cg (Fr.at GM83 kd_296 rfl) (Fr.at GM83 kd_294 rfl))⟩ rfl)
              omega
            · skip
              refine PW.aload_n q_248_53 rfl ?_
              refine PW.iload_n q_248_54 rfl ?_
              refine PW.cV (as := [_]) (rest := []) q_248_55 t_mv_248_346 kd_294 IM83.1 (by decide) rfl (by decide) rfl rfl (Nat.le_of_ble_eq_true rfl) (Nat.le_of_ble_eq_true rfl) (by decide) (by decide) ?_
              refine PW.up (by decide) (c_X12_octet_v (gTT) (Stab0) G _ M83 IM83 v14 (by omega) (by omega) fun x105 M104 IM104 GM104 hx105 kx105 PM104 TM104 => ?_)
              have FM104 := Fr.trans FM83 GM104 (rfl)
              have tr106 : o_i (M104 294) 3 = o_i (M83 294) 3 := by rw [Fr.at GM104 kd_294 (by decide)]
              refine PW.aload_n q_248_58 rfl ?_
              refine PW.iload_n q_248_59 rfl ?_
              refine PW.cI q_248_60 (by decide) fun c107 hc107 => ?_
              refine PW.subN q_248_61 (by omega) (by omega) fun x108 hx108 => ?_
              refine PW.cV (as := [_]) (rest := [_]) q_248_62 t_mv_248_346 kd_294 IM104.1 (by decide) rfl (by decide) rfl rfl (Nat.le_of_ble_eq_true rfl) (Nat.le_of_ble_eq_true rfl) (by decide) (by decide) ?_
              refine PW.up (by decide) (c_X12_octet_v (gTT) (Stab0) G _ M104 IM104 x108 (by omega) (by omega) fun x110 M109 IM109 GM109 hx110 kx110 PM109 TM109 => ?_)
              have FM109 := Fr.trans FM104 GM109 (rfl)
              have tr111 : o_i (M109 294) 3 = o_i (M104 294) 3 := by rw [Fr.at GM109 kd_294 (by decide)]
              refine PW.jc_eq q_248_65 rfl (fun h112 => ?_) (fun h112 => ?_)
              · skip
                refine PW.cI q_248_72 (by decide) fun c113 hc113 => ?_
                refine PW.istore_n q_248_73 (by decide) ?_
                refine PW.incN q_248_74 rfl (by decide) (by decide) (by omega) (by omega) fun x114 hx114 => ?_
                refine PW.goto q_248_77 rfl ?_
                refine PW.lvS (lk1 rfl (lk1 rfl (lk1 rfl lk0))) (ih_L248_25_12 _ ?_ M109 c113 x114 IM109 FM109 (by omega) (by omega) (by omega) (by omega) (Or.inl (by omega)) (by omega) ⟨((congrArg (fun e => o_i e 2) (Fr.at GM109 kd_294 rfl)).trans ((congrArg (fun e => o_i e 2) (Fr.at GM104 kd_294 rfl)).trans ((congrArg (fun e => o_i e 2) (Fr.at GM83 kd_294 rfl)).trans hbL248_25_126.1))), (((hbL248_25_126.2.cg (Fr.at GM83 kd_296 rfl) (Fr.at GM83 kd_294 rfl)).cg (Fr.at GM104 kd_296 rfl) (Fr.at GM104 kd_294 rfl)).cg (Fr.at GM109 kd_296 rfl) (Fr.at GM109 kd_294 rfl))⟩ rfl)
                omega
              · skip
                refine PW.cI q_248_68 (by decide) fun c115 hc115 => ?_
                refine PW.goto q_248_69 rfl ?_
                refine PW.istore_n q_248_73 (by decide) ?_
                refine PW.incN q_248_74 rfl (by decide) (by decide) (by omega) (by omega) fun x116 hx116 => ?_
                refine PW.goto q_248_77 rfl ?_
                refine PW.lvS (lk1 rfl (lk1 rfl (lk1 rfl lk0))) (ih_L248_25_12 _ ?_ M109 c115 x116 IM109 FM109 (by omega) (by omega) (by omega) (by omega) (Or.inr ⟨gOc.add (hbL248_25_124.resolve_left (by omega)).1 (by omega) tx86 (by omega) (by omega), Or.inr (by omega)⟩) (by omega) ⟨((congrArg (fun e => o_i e 2) (Fr.at GM109 kd_294 rfl)).trans ((congrArg (fun e => o_i e 2) (Fr.at GM104 kd_294 rfl)).trans ((congrArg (fun e => o_i e 2) (Fr.at GM83 kd_294 rfl)).trans hbL248_25_126.1))), (((hbL248_25_126.2.cg (Fr.at GM83 kd_296 rfl) (Fr.at GM83 kd_294 rfl)).cg (Fr.at GM104 kd_296 rfl) (Fr.at GM104 kd_294 rfl)).cg (Fr.at GM109 kd_296 rfl) (Fr.at GM109 kd_294 rfl))⟩ rfl)
                omega
    exact PW.lvS (lk1 rfl (lk1 rfl (lk1 rfl lk0))) (L248_25_12 _ M5 c10 c11 IM5 FM5 (by omega) (by omega) (by omega) (by omega) (Or.inr ⟨gOc.zero (by omega), Or.inl (by omega)⟩) (by omega) ⟨TM5.1, ((gHq.refl.pu UM2 (by decide)).tr TM5.2)⟩ rfl)
  · skip
    refine PW.iload_n q_166_5 rfl ?_
    refine PW.iload_n q_166_6 rfl ?_
    refine PW.jc_gt q_166_7 rfl (fun h117 => ?_) (fun h117 => ?_)
    · skip
      refine PW.cI q_166_14 (by decide) fun c118 hc118 => ?_
      refine PW.rZ q_166_15 rfl (by omega) (by omega) (by decide) (by decide) ?_
      refine PW.istore_n q_248_22 (by decide) ?_
      refine PW.cI q_248_23 (by decide) fun c119 hc119 => ?_
      refine PW.istore_n q_248_24 (by decide) ?_
      have L248_25_120 : ∀ (n : Nat) (ML248_25_120 : pM) (v121 v122 : Int32), Iv (gTT) ML248_25_120 → Fr [40, 49] M ML248_25_120 → 0 ≤ v121.toInt → v121.toInt ≤ 1 → 0 ≤ v122.toInt → v122.toInt ≤ 940 → v121.toInt = 0 ∨ (gOc M v122.toInt ∧ (v122.toInt = 0 ∨ 1 ≤ (o_a (M 296) 0).toInt)) → v121.toInt = 0 ∨ (2 ≤ o_i (ML248_25_120 294) 3 ∧ o_i (ML248_25_120 294) 3 ≤ 40) → (gLz ML248_25_120 ∧ gHq ML248_25_120 M) → (940 - v122.toInt).toNat = n → PW G false 4 248 (p_mc 248) (p_msl 248) Kr 25 [(0, .ref 294), (1, .int v121), (2, .int v122)] [] 311 ML248_25_120 0 0 := by
        intro n
        induction n using Nat.strongRecOn with
        | ind n ih_L248_25_120 =>
        intro ML248_25_120 v121 v122 IML248_25_120 FML248_25_120 hbL248_25_1200 hbL248_25_1201 hbL248_25_1202 hbL248_25_1203 hbL248_25_1204 hbL248_25_1205 hbL248_25_1206 hmL248_25_120
        refine PW.iload_n q_248_25 rfl ?_
        refine PW.aload_n q_248_26 rfl ?_
        refine PW.gI q_248_27 (Or.inl t_ft_248_18) gF_40_3 kd_294 IML248_25_120.1 (by decide) fun x123 fx123 hx123 kx123 => ?_
        have trx123 := o_i_of fx123
        refine PW.jc_ge q_248_30 rfl (fun h124 => ?_) (fun h124 => ?_)
        · skip
          refine PW.iload_n q_248_80 rfl ?_
          refine PW.jz_ne q_248_81 rfl (fun h125 => ?_) (fun h125 => ?_)
          · skip
            obtain ⟨ho1, ho2⟩ := hbL248_25_1204.resolve_left (by omega)
            refine PW.aload_n q_248_86 rfl ?_
            refine PW.cI q_248_87 (by decide) fun c126 hc126 => ?_
            refine PW.cV (as := [_]) (rest := []) q_248_88 t_mv_248_349 kd_294 IML248_25_120.1 (by decide) rfl (by decide) rfl rfl (Nat.le_of_ble_eq_true rfl) (Nat.le_of_ble_eq_true rfl) (by decide) (by decide) ?_
            refine PW.up (by decide) (c_X12_goesBy (gTT) (Stab0) G _ ML248_25_120 IML248_25_120 c126 (by omega) (by omega) (gOc.at ho1 (Fr.at FML248_25_120 kd_295 rfl) (by omega)) (by omega) (by rw [Fr.at FML248_25_120 kd_296 rfl]; omega) fun x128 M127 IM127 GM127 hx128 kx128 TM127 => ?_)
            have FM127 := Fr.trans FML248_25_120 GM127 (rfl)
            have tr129 : o_i (M127 294) 3 = o_i (ML248_25_120 294) 3 := by rw [Fr.at GM127 kd_294 (by decide)]
            refine PW.jz_eq q_248_91 rfl (fun h130 => ?_) (fun h130 => ?_)
            · skip
              refine PW.cI q_248_98 (by decide) fun c131 hc131 => ?_
              refine PW.aload_n q_248_99 rfl ?_
              refine PW.cI q_248_100 (by decide) fun c132 hc132 => ?_
              refine PW.cV (as := [_]) (rest := [_]) q_248_101 t_mv_248_349 kd_294 IM127.1 (by decide) rfl (by decide) rfl rfl (Nat.le_of_ble_eq_true rfl) (Nat.le_of_ble_eq_true rfl) (by decide) (by decide) ?_
              refine PW.up (by decide) (c_X12_goesBy (gTT) (Stab0) G _ M127 IM127 c132 (by omega) (by omega) (gOc.at ho1 (Fr.at FM127 kd_295 rfl) (by omega)) (by omega) (by rw [Fr.at FM127 kd_296 rfl]; omega) fun x134 M133 IM133 GM133 hx134 kx134 TM133 => ?_)
              have FM133 := Fr.trans FM127 GM133 (rfl)
              have tr135 : o_i (M133 294) 3 = o_i (M127 294) 3 := by rw [Fr.at GM133 kd_294 (by decide)]
              refine PW.jz_eq q_248_104 rfl (fun h136 => ?_) (fun h136 => ?_)
              · skip
                refine PW.cI q_248_111 (by decide) fun c137 hc137 => ?_
                refine PW.addN q_248_112 (by omega) (by omega) fun x138 hx138 => ?_
                refine PW.aload_n q_248_113 rfl ?_
                refine PW.cI q_248_114 (by decide) fun c139 hc139 => ?_
                refine PW.cV (as := [_]) (rest := [_]) q_248_115 t_mv_248_349 kd_294 IM133.1 (by decide) rfl (by decide) rfl rfl (Nat.le_of_ble_eq_true rfl) (Nat.le_of_ble_eq_true rfl) (by decide) (by decide) ?_
                refine PW.up (by decide) (c_X12_goesBy (gTT) (Stab0) G _ M133 IM133 c139 (by omega) (by omega) (gOc.at ho1 (Fr.at FM133 kd_295 rfl) (by omega)) (by omega) (by rw [Fr.at FM133 kd_296 rfl]; omega) fun x141 M140 IM140 GM140 hx141 kx141 TM140 => ?_)
                have FM140 := Fr.trans FM133 GM140 (rfl)
                have tr142 : o_i (M140 294) 3 = o_i (M133 294) 3 := by rw [Fr.at GM140 kd_294 (by decide)]
                refine PW.jz_eq q_248_118 rfl (fun h143 => ?_) (fun h143 => ?_)
                · skip
                  refine PW.cI q_248_125 (by decide) fun c144 hc144 => ?_
                  refine PW.addN q_248_126 (by omega) (by omega) fun x145 hx145 => ?_
                  refine PW.rI q_248_127 rfl (by decide) (by decide) ?_
                  exact hK x145 M140 IM140 FM140 ⟨((congrArg (fun e => o_i e 2) (Fr.at GM140 kd_294 rfl)).trans ((congrArg (fun e => o_i e 2) (Fr.at GM133 kd_294 rfl)).trans ((congrArg (fun e => o_i e 2) (Fr.at GM127 kd_294 rfl)).trans hbL248_25_1206.1))), (((hbL248_25_1206.2.cg (Fr.at GM127 kd_296 rfl) (Fr.at GM127 kd_294 rfl)).cg (Fr.at GM133 kd_296 rfl) (Fr.at GM133 kd_294 rfl)).cg (Fr.at GM140 kd_296 rfl) (Fr.at GM140 kd_294 rfl))⟩
                · skip
                  refine PW.cI q_248_121 (by decide) fun c146 hc146 => ?_
                  refine PW.goto q_248_122 rfl ?_
                  refine PW.addN q_248_126 (by omega) (by omega) fun x147 hx147 => ?_
                  refine PW.rI q_248_127 rfl (by decide) (by decide) ?_
                  exact hK x147 M140 IM140 FM140 ⟨((congrArg (fun e => o_i e 2) (Fr.at GM140 kd_294 rfl)).trans ((congrArg (fun e => o_i e 2) (Fr.at GM133 kd_294 rfl)).trans ((congrArg (fun e => o_i e 2) (Fr.at GM127 kd_294 rfl)).trans hbL248_25_1206.1))), (((hbL248_25_1206.2.cg (Fr.at GM127 kd_296 rfl) (Fr.at GM127 kd_294 rfl)).cg (Fr.at GM133 kd_296 rfl) (Fr.at GM133 kd_294 rfl)).cg (Fr.at GM140 kd_296 rfl) (Fr.at GM140 kd_294 rfl))⟩
              · skip
                refine PW.cI q_248_107 (by decide) fun c148 hc148 => ?_
                refine PW.goto q_248_108 rfl ?_
                refine PW.addN q_248_112 (by omega) (by omega) fun x149 hx149 => ?_
                refine PW.aload_n q_248_113 rfl ?_
                refine PW.cI q_248_114 (by decide) fun c150 hc150 => ?_
                refine PW.cV (as := [_]) (rest := [_]) q_248_115 t_mv_248_349 kd_294 IM133.1 (by decide) rfl (by decide) rfl rfl (Nat.le_of_ble_eq_true rfl) (Nat.le_of_ble_eq_true rfl) (by decide) (by decide) ?_
                refine PW.up (by decide) (c_X12_goesBy (gTT) (Stab0) G _ M133 IM133 c150 (by omega) (by omega) (gOc.at ho1 (Fr.at FM133 kd_295 rfl) (by omega)) (by omega) (by rw [Fr.at FM133 kd_296 rfl]; omega) fun x152 M151 IM151 GM151 hx152 kx152 TM151 => ?_)
                have FM151 := Fr.trans FM133 GM151 (rfl)
                have tr153 : o_i (M151 294) 3 = o_i (M133 294) 3 := by rw [Fr.at GM151 kd_294 (by decide)]
                refine PW.jz_eq q_248_118 rfl (fun h154 => ?_) (fun h154 => ?_)
                · skip
                  refine PW.cI q_248_125 (by decide) fun c155 hc155 => ?_
                  refine PW.addN q_248_126 (by omega) (by omega) fun x156 hx156 => ?_
                  refine PW.rI q_248_127 rfl (by decide) (by decide) ?_
                  exact hK x156 M151 IM151 FM151 ⟨((congrArg (fun e => o_i e 2) (Fr.at GM151 kd_294 rfl)).trans ((congrArg (fun e => o_i e 2) (Fr.at GM133 kd_294 rfl)).trans ((congrArg (fun e => o_i e 2) (Fr.at GM127 kd_294 rfl)).trans hbL248_25_1206.1))), (((hbL248_25_1206.2.cg (Fr.at GM127 kd_296 rfl) (Fr.at GM127 kd_294 rfl)).cg (Fr.at GM133 kd_296 rfl) (Fr.at GM133 kd_294 rfl)).cg (Fr.at GM151 kd_296 rfl) (Fr.at GM151 kd_294 rfl))⟩
                · skip
                  refine PW.cI q_248_121 (by decide) fun c157 hc157 => ?_
                  refine PW.goto q_248_122 rfl ?_
                  refine PW.addN q_248_126 (by omega) (by omega) fun x158 hx158 => ?_
                  refine PW.rI q_248_127 rfl (by decide) (by decide) ?_
                  exact hK x158 M151 IM151 FM151 ⟨((congrArg (fun e => o_i e 2) (Fr.at GM151 kd_294 rfl)).trans ((congrArg (fun e => o_i e 2) (Fr.at GM133 kd_294 rfl)).trans ((congrArg (fun e => o_i e 2) (Fr.at GM127 kd_294 rfl)).trans hbL248_25_1206.1))), (((hbL248_25_1206.2.cg (Fr.at GM127 kd_296 rfl) (Fr.at GM127 kd_294 rfl)).cg (Fr.at GM133 kd_296 rfl) (Fr.at GM133 kd_294 rfl)).cg (Fr.at GM151 kd_296 rfl) (Fr.at GM151 kd_294 rfl))⟩
            · skip
              refine PW.cI q_248_94 (by decide) fun c159 hc159 => ?_
              refine PW.goto q_248_95 rfl ?_
              refine PW.aload_n q_248_99 rfl ?_
              refine PW.cI q_248_100 (by decide) fun c160 hc160 => ?_
              refine PW.cV (as := [_]) (rest := [_]) q_248_101 t_mv_248_349 kd_294 IM127.1 (by decide) rfl (by decide) rfl rfl (Nat.le_of_ble_eq_true rfl) (Nat.le_of_ble_eq_true rfl) (by decide) (by decide) ?_
              refine PW.up (by decide) (c_X12_goesBy (gTT) (Stab0) G _ M127 IM127 c160 (by omega) (by omega) (gOc.at ho1 (Fr.at FM127 kd_295 rfl) (by omega)) (by omega) (by rw [Fr.at FM127 kd_296 rfl]; omega) fun x162 M161 IM161 GM161 hx162 kx162 TM161 => ?_)
              have FM161 := Fr.trans FM127 GM161 (rfl)
              have tr163 : o_i (M161 294) 3 = o_i (M127 294) 3 := by rw [Fr.at GM161 kd_294 (by decide)]
              refine PW.jz_eq q_248_104 rfl (fun h164 => ?_) (fun h164 => ?_)
              · skip
                refine PW.cI q_248_111 (by decide) fun c165 hc165 => ?_
                refine PW.addN q_248_112 (by omega) (by omega) fun x166 hx166 => ?_
                refine PW.aload_n q_248_113 rfl ?_
                refine PW.cI q_248_114 (by decide) fun c167 hc167 => ?_
                refine PW.cV (as := [_]) (rest := [_]) q_248_115 t_mv_248_349 kd_294 IM161.1 (by decide) rfl (by decide) rfl rfl (Nat.le_of_ble_eq_true rfl) (Nat.le_of_ble_eq_true rfl) (by decide) (by decide) ?_
                refine PW.up (by decide) (c_X12_goesBy (gTT) (Stab0) G _ M161 IM161 c167 (by omega) (by omega) (gOc.at ho1 (Fr.at FM161 kd_295 rfl) (by omega)) (by omega) (by rw [Fr.at FM161 kd_296 rfl]; omega) fun x169 M168 IM168 GM168 hx169 kx169 TM168 => ?_)
                have FM168 := Fr.trans FM161 GM168 (rfl)
                have tr170 : o_i (M168 294) 3 = o_i (M161 294) 3 := by rw [Fr.at GM168 kd_294 (by decide)]
                refine PW.jz_eq q_248_118 rfl (fun h171 => ?_) (fun h171 => ?_)
                · skip
                  refine PW.cI q_248_125 (by decide) fun c172 hc172 => ?_
                  refine PW.addN q_248_126 (by omega) (by omega) fun x173 hx173 => ?_
                  refine PW.rI q_248_127 rfl (by decide) (by decide) ?_
                  exact hK x173 M168 IM168 FM168 ⟨((congrArg (fun e => o_i e 2) (Fr.at GM168 kd_294 rfl)).trans ((congrArg (fun e => o_i e 2) (Fr.at GM161 kd_294 rfl)).trans ((congrArg (fun e => o_i e 2) (Fr.at GM127 kd_294 rfl)).trans hbL248_25_1206.1))), (((hbL248_25_1206.2.cg (Fr.at GM127 kd_296 rfl) (Fr.at GM127 kd_294 rfl)).cg (Fr.at GM161 kd_296 rfl) (Fr.at GM161 kd_294 rfl)).cg (Fr.at GM168 kd_296 rfl) (Fr.at GM168 kd_294 rfl))⟩
                · skip
                  refine PW.cI q_248_121 (by decide) fun c174 hc174 => ?_
                  refine PW.goto q_248_122 rfl ?_
                  refine PW.addN q_248_126 (by omega) (by omega) fun x175 hx175 => ?_
                  refine PW.rI q_248_127 rfl (by decide) (by decide) ?_
                  exact hK x175 M168 IM168 FM168 ⟨((congrArg (fun e => o_i e 2) (Fr.at GM168 kd_294 rfl)).trans ((congrArg (fun e => o_i e 2) (Fr.at GM161 kd_294 rfl)).trans ((congrArg (fun e => o_i e 2) (Fr.at GM127 kd_294 rfl)).trans hbL248_25_1206.1))), (((hbL248_25_1206.2.cg (Fr.at GM127 kd_296 rfl) (Fr.at GM127 kd_294 rfl)).cg (Fr.at GM161 kd_296 rfl) (Fr.at GM161 kd_294 rfl)).cg (Fr.at GM168 kd_296 rfl) (Fr.at GM168 kd_294 rfl))⟩
              · skip
                refine PW.cI q_248_107 (by decide) fun c176 hc176 => ?_
                refine PW.goto q_248_108 rfl ?_
                refine PW.addN q_248_112 (by omega) (by omega) fun x177 hx177 => ?_
                refine PW.aload_n q_248_113 rfl ?_
                refine PW.cI q_248_114 (by decide) fun c178 hc178 => ?_
                refine PW.cV (as := [_]) (rest := [_]) q_248_115 t_mv_248_349 kd_294 IM161.1 (by decide) rfl (by decide) rfl rfl (Nat.le_of_ble_eq_true rfl) (Nat.le_of_ble_eq_true rfl) (by decide) (by decide) ?_
                refine PW.up (by decide) (c_X12_goesBy (gTT) (Stab0) G _ M161 IM161 c178 (by omega) (by omega) (gOc.at ho1 (Fr.at FM161 kd_295 rfl) (by omega)) (by omega) (by rw [Fr.at FM161 kd_296 rfl]; omega) fun x180 M179 IM179 GM179 hx180 kx180 TM179 => ?_)
                have FM179 := Fr.trans FM161 GM179 (rfl)
                have tr181 : o_i (M179 294) 3 = o_i (M161 294) 3 := by rw [Fr.at GM179 kd_294 (by decide)]
                refine PW.jz_eq q_248_118 rfl (fun h182 => ?_) (fun h182 => ?_)
                · skip
                  refine PW.cI q_248_125 (by decide) fun c183 hc183 => ?_
                  refine PW.addN q_248_126 (by omega) (by omega) fun x184 hx184 => ?_
                  refine PW.rI q_248_127 rfl (by decide) (by decide) ?_
                  exact hK x184 M179 IM179 FM179 ⟨((congrArg (fun e => o_i e 2) (Fr.at GM179 kd_294 rfl)).trans ((congrArg (fun e => o_i e 2) (Fr.at GM161 kd_294 rfl)).trans ((congrArg (fun e => o_i e 2) (Fr.at GM127 kd_294 rfl)).trans hbL248_25_1206.1))), (((hbL248_25_1206.2.cg (Fr.at GM127 kd_296 rfl) (Fr.at GM127 kd_294 rfl)).cg (Fr.at GM161 kd_296 rfl) (Fr.at GM161 kd_294 rfl)).cg (Fr.at GM179 kd_296 rfl) (Fr.at GM179 kd_294 rfl))⟩
                · skip
                  refine PW.cI q_248_121 (by decide) fun c185 hc185 => ?_
                  refine PW.goto q_248_122 rfl ?_
                  refine PW.addN q_248_126 (by omega) (by omega) fun x186 hx186 => ?_
                  refine PW.rI q_248_127 rfl (by decide) (by decide) ?_
                  exact hK x186 M179 IM179 FM179 ⟨((congrArg (fun e => o_i e 2) (Fr.at GM179 kd_294 rfl)).trans ((congrArg (fun e => o_i e 2) (Fr.at GM161 kd_294 rfl)).trans ((congrArg (fun e => o_i e 2) (Fr.at GM127 kd_294 rfl)).trans hbL248_25_1206.1))), (((hbL248_25_1206.2.cg (Fr.at GM127 kd_296 rfl) (Fr.at GM127 kd_294 rfl)).cg (Fr.at GM161 kd_296 rfl) (Fr.at GM161 kd_294 rfl)).cg (Fr.at GM179 kd_296 rfl) (Fr.at GM179 kd_294 rfl))⟩
          · skip
            refine PW.cI q_248_84 (by decide) fun c187 hc187 => ?_
            refine PW.rI q_248_85 rfl (by decide) (by decide) ?_
            exact hK c187 ML248_25_120 IML248_25_120 FML248_25_120 ⟨hbL248_25_1206.1, hbL248_25_1206.2⟩
        · skip
          refine PW.iload_n q_248_33 rfl ?_
          refine PW.jz_eq q_248_34 rfl (fun h188 => ?_) (fun h188 => ?_)
          · skip
            refine PW.iload_n q_248_80 rfl ?_
            refine PW.jz_ne q_248_81 rfl (fun h189 => False.elim (by omega)) (fun h189 => ?_)
            refine PW.cI q_248_84 (by decide) fun c190 hc190 => ?_
            refine PW.rI q_248_85 rfl (by decide) (by decide) ?_
            exact hK c190 ML248_25_120 IML248_25_120 FML248_25_120 ⟨hbL248_25_1206.1, hbL248_25_1206.2⟩
          · skip
            refine PW.aload_n q_248_37 rfl ?_
            refine PW.aload_n q_248_38 rfl ?_
            refine PW.iload_n q_248_39 rfl ?_
            refine PW.cV (as := [_]) (rest := [_]) q_248_40 t_mv_248_346 kd_294 IML248_25_120.1 (by decide) rfl (by decide) rfl rfl (Nat.le_of_ble_eq_true rfl) (Nat.le_of_ble_eq_true rfl) (by decide) (by decide) ?_
            refine PW.up (by decide) (c_X12_octet_v (gTT) (Stab0) G _ ML248_25_120 IML248_25_120 v122 (by omega) (by omega) fun x192 M191 IM191 GM191 hx192 kx192 PM191 TM191 => ?_)
            have FM191 := Fr.trans FML248_25_120 GM191 (rfl)
            have tr193 : o_i (M191 294) 3 = o_i (ML248_25_120 294) 3 := by rw [Fr.at GM191 kd_294 (by decide)]
            have tx194 : x192.toInt = (o_a (M 295) v122.toInt.toNat &&& 255).toInt := by rw [PM191, Fr.at FM191 kd_295 rfl]
            refine PW.cV (as := [_]) (rest := []) q_248_43 t_mv_248_241 kd_294 IM191.1 (by decide) rfl (by decide) rfl rfl (Nat.le_of_ble_eq_true rfl) (Nat.le_of_ble_eq_true rfl) (by decide) (by decide) ?_
            refine PW.iload_n q_195_0 rfl ?_
            refine PW.cI q_195_1 (by decide) fun c195 hc195 => ?_
            refine PW.aload_n q_195_2 rfl ?_
            refine PW.gR 296 q_195_3 (Or.inl t_ft_195_33) gF_40_6 kd_294 IM191.1 (by decide) rfl ?_
            refine PW.cI q_195_6 (by decide) fun c196 hc196 => ?_
            refine PW.aI q_195_7 gA_42 kd_296 IM191.1 (by decide) gB_42_0_0 (by decide) (by omega) (by omega) fun x197 fx197 hx197 kx197 => ?_
            have tw198 : (o_a (M 296) 0).toInt = x197.toInt := by rw [← Fr.at FM191 kd_296 rfl, show (0 : Nat) = c196.toInt.toNat from by omega, fx197]
            refine PW.cI q_195_8 (by decide) fun c199 hc199 => ?_
            refine PW.subN q_195_9 (by omega) (by omega) fun x200 hx200 => ?_
            refine PW.callS (as := [_, _, _]) (rest := []) q_195_10 t_ms_195_176 (by decide) rfl (Nat.le_of_ble_eq_true rfl) (Nat.le_of_ble_eq_true rfl) (by decide) (by decide) ?_
            refine PW.iload_n q_166_0 rfl ?_
            refine PW.iload_n q_166_1 rfl ?_
            refine PW.jc_lt q_166_2 rfl (fun h201 => False.elim (by omega)) (fun h201 => ?_)
            refine PW.iload_n q_166_5 rfl ?_
            refine PW.iload_n q_166_6 rfl ?_
            refine PW.jc_gt q_166_7 rfl (fun h202 => ?_) (fun h202 => ?_)
            · skip
              refine PW.cI q_166_14 (by decide) fun c203 hc203 => ?_
              refine PW.rZ q_166_15 rfl (by omega) (by omega) (by decide) (by decide) ?_
              refine PW.rZ q_195_13 rfl (by omega) (by omega) (by decide) (by decide) ?_
              refine PW.jz_eq q_248_46 rfl (fun h204 => ?_) (fun h204 => False.elim (by omega))
              refine PW.cI q_248_72 (by decide) fun c205 hc205 => ?_
              refine PW.istore_n q_248_73 (by decide) ?_
              refine PW.incN q_248_74 rfl (by decide) (by decide) (by omega) (by omega) fun x206 hx206 => ?_
              refine PW.goto q_248_77 rfl ?_
              refine PW.lvS (lk1 rfl (lk1 rfl (lk1 rfl lk0))) (ih_L248_25_120 _ ?_ M191 c205 x206 IM191 FM191 (by omega) (by omega) (by omega) (by omega) (Or.inl (by omega)) (by omega) ⟨((congrArg (fun e => o_i e 2) (Fr.at GM191 kd_294 rfl)).trans hbL248_25_1206.1), (hbL248_25_1206.2.cg (Fr.at GM191 kd_296 rfl) (Fr.at GM191 kd_294 rfl))⟩ rfl)
              omega
            · skip
              refine PW.cI q_166_10 (by decide) fun c207 hc207 => ?_
              refine PW.goto q_166_11 rfl ?_
              refine PW.rZ q_166_15 rfl (by omega) (by omega) (by decide) (by decide) ?_
              refine PW.rZ q_195_13 rfl (by omega) (by omega) (by decide) (by decide) ?_
              refine PW.jz_eq q_248_46 rfl (fun h208 => False.elim (by omega)) (fun h208 => ?_)
              refine PW.iload_n q_248_49 rfl ?_
              refine PW.jz_eq q_248_50 rfl (fun h209 => ?_) (fun h209 => ?_)
              · skip
                refine PW.cI q_248_68 (by decide) fun c210 hc210 => ?_
                refine PW.goto q_248_69 rfl ?_
                refine PW.istore_n q_248_73 (by decide) ?_
                refine PW.incN q_248_74 rfl (by decide) (by decide) (by omega) (by omega) fun x211 hx211 => ?_
                refine PW.goto q_248_77 rfl ?_
                refine PW.lvS (lk1 rfl (lk1 rfl (lk1 rfl lk0))) (ih_L248_25_120 _ ?_ M191 c210 x211 IM191 FM191 (by omega) (by omega) (by omega) (by omega) (Or.inr ⟨gOc.add (hbL248_25_1204.resolve_left (by omega)).1 (by omega) tx194 (by omega) (by omega), Or.inr (by omega)⟩) (by omega) ⟨((congrArg (fun e => o_i e 2) (Fr.at GM191 kd_294 rfl)).trans hbL248_25_1206.1), (hbL248_25_1206.2.cg (Fr.at GM191 kd_296 rfl) (Fr.at GM191 kd_294 rfl))⟩ rfl)
                omega
              · skip
                refine PW.aload_n q_248_53 rfl ?_
                refine PW.iload_n q_248_54 rfl ?_
                refine PW.cV (as := [_]) (rest := []) q_248_55 t_mv_248_346 kd_294 IM191.1 (by decide) rfl (by decide) rfl rfl (Nat.le_of_ble_eq_true rfl) (Nat.le_of_ble_eq_true rfl) (by decide) (by decide) ?_
                refine PW.up (by decide) (c_X12_octet_v (gTT) (Stab0) G _ M191 IM191 v122 (by omega) (by omega) fun x213 M212 IM212 GM212 hx213 kx213 PM212 TM212 => ?_)
                have FM212 := Fr.trans FM191 GM212 (rfl)
                have tr214 : o_i (M212 294) 3 = o_i (M191 294) 3 := by rw [Fr.at GM212 kd_294 (by decide)]
                refine PW.aload_n q_248_58 rfl ?_
                refine PW.iload_n q_248_59 rfl ?_
                refine PW.cI q_248_60 (by decide) fun c215 hc215 => ?_
                refine PW.subN q_248_61 (by omega) (by omega) fun x216 hx216 => ?_
                refine PW.cV (as := [_]) (rest := [_]) q_248_62 t_mv_248_346 kd_294 IM212.1 (by decide) rfl (by decide) rfl rfl (Nat.le_of_ble_eq_true rfl) (Nat.le_of_ble_eq_true rfl) (by decide) (by decide) ?_
                refine PW.up (by decide) (c_X12_octet_v (gTT) (Stab0) G _ M212 IM212 x216 (by omega) (by omega) fun x218 M217 IM217 GM217 hx218 kx218 PM217 TM217 => ?_)
                have FM217 := Fr.trans FM212 GM217 (rfl)
                have tr219 : o_i (M217 294) 3 = o_i (M212 294) 3 := by rw [Fr.at GM217 kd_294 (by decide)]
                refine PW.jc_eq q_248_65 rfl (fun h220 => ?_) (fun h220 => ?_)
                · skip
                  refine PW.cI q_248_72 (by decide) fun c221 hc221 => ?_
                  refine PW.istore_n q_248_73 (by decide) ?_
                  refine PW.incN q_248_74 rfl (by decide) (by decide) (by omega) (by omega) fun x222 hx222 => ?_
                  refine PW.goto q_248_77 rfl ?_
                  refine PW.lvS (lk1 rfl (lk1 rfl (lk1 rfl lk0))) (ih_L248_25_120 _ ?_ M217 c221 x222 IM217 FM217 (by omega) (by omega) (by omega) (by omega) (Or.inl (by omega)) (by omega) ⟨((congrArg (fun e => o_i e 2) (Fr.at GM217 kd_294 rfl)).trans ((congrArg (fun e => o_i e 2) (Fr.at GM212 kd_294 rfl)).trans ((congrArg (fun e => o_i e 2) (Fr.at GM191 kd_294 rfl)).trans hbL248_25_1206.1))), (((hbL248_25_1206.2.cg (Fr.at GM191 kd_296 rfl) (Fr.at GM191 kd_294 rfl)).cg (Fr.at GM212 kd_296 rfl) (Fr.at GM212 kd_294 rfl)).cg (Fr.at GM217 kd_296 rfl) (Fr.at GM217 kd_294 rfl))⟩ rfl)
                  omega
                · skip
                  refine PW.cI q_248_68 (by decide) fun c223 hc223 => ?_
                  refine PW.goto q_248_69 rfl ?_
                  refine PW.istore_n q_248_73 (by decide) ?_
                  refine PW.incN q_248_74 rfl (by decide) (by decide) (by omega) (by omega) fun x224 hx224 => ?_
                  refine PW.goto q_248_77 rfl ?_
                  refine PW.lvS (lk1 rfl (lk1 rfl (lk1 rfl lk0))) (ih_L248_25_120 _ ?_ M217 c223 x224 IM217 FM217 (by omega) (by omega) (by omega) (by omega) (Or.inr ⟨gOc.add (hbL248_25_1204.resolve_left (by omega)).1 (by omega) tx194 (by omega) (by omega), Or.inr (by omega)⟩) (by omega) ⟨((congrArg (fun e => o_i e 2) (Fr.at GM217 kd_294 rfl)).trans ((congrArg (fun e => o_i e 2) (Fr.at GM212 kd_294 rfl)).trans ((congrArg (fun e => o_i e 2) (Fr.at GM191 kd_294 rfl)).trans hbL248_25_1206.1))), (((hbL248_25_1206.2.cg (Fr.at GM191 kd_296 rfl) (Fr.at GM191 kd_294 rfl)).cg (Fr.at GM212 kd_296 rfl) (Fr.at GM212 kd_294 rfl)).cg (Fr.at GM217 kd_296 rfl) (Fr.at GM217 kd_294 rfl))⟩ rfl)
                  omega
      exact PW.lvS (lk1 rfl (lk1 rfl (lk1 rfl lk0))) (L248_25_120 _ M5 c118 c119 IM5 FM5 (by omega) (by omega) (by omega) (by omega) (Or.inr ⟨gOc.zero (by omega), Or.inl (by omega)⟩) (by omega) ⟨TM5.1, ((gHq.refl.pu UM2 (by decide)).tr TM5.2)⟩ rfl)
    · skip
      refine PW.cI q_166_10 (by decide) fun c225 hc225 => ?_
      refine PW.goto q_166_11 rfl ?_
      refine PW.rZ q_166_15 rfl (by omega) (by omega) (by decide) (by decide) ?_
      refine PW.istore_n q_248_22 (by decide) ?_
      refine PW.cI q_248_23 (by decide) fun c226 hc226 => ?_
      refine PW.istore_n q_248_24 (by decide) ?_
      have L248_25_227 : ∀ (n : Nat) (ML248_25_227 : pM) (v228 v229 : Int32), Iv (gTT) ML248_25_227 → Fr [40, 49] M ML248_25_227 → 0 ≤ v228.toInt → v228.toInt ≤ 1 → 0 ≤ v229.toInt → v229.toInt ≤ 940 → v228.toInt = 0 ∨ (gOc M v229.toInt ∧ (v229.toInt = 0 ∨ 1 ≤ (o_a (M 296) 0).toInt)) → v228.toInt = 0 ∨ (2 ≤ o_i (ML248_25_227 294) 3 ∧ o_i (ML248_25_227 294) 3 ≤ 40) → (gLz ML248_25_227 ∧ gHq ML248_25_227 M) → (940 - v229.toInt).toNat = n → PW G false 4 248 (p_mc 248) (p_msl 248) Kr 25 [(0, .ref 294), (1, .int v228), (2, .int v229)] [] 311 ML248_25_227 0 0 := by
        intro n
        induction n using Nat.strongRecOn with
        | ind n ih_L248_25_227 =>
        intro ML248_25_227 v228 v229 IML248_25_227 FML248_25_227 hbL248_25_2270 hbL248_25_2271 hbL248_25_2272 hbL248_25_2273 hbL248_25_2274 hbL248_25_2275 hbL248_25_2276 hmL248_25_227
        refine PW.iload_n q_248_25 rfl ?_
        refine PW.aload_n q_248_26 rfl ?_
        refine PW.gI q_248_27 (Or.inl t_ft_248_18) gF_40_3 kd_294 IML248_25_227.1 (by decide) fun x230 fx230 hx230 kx230 => ?_
        have trx230 := o_i_of fx230
        refine PW.jc_ge q_248_30 rfl (fun h231 => ?_) (fun h231 => ?_)
        · skip
          refine PW.iload_n q_248_80 rfl ?_
          refine PW.jz_ne q_248_81 rfl (fun h232 => ?_) (fun h232 => ?_)
          · skip
            obtain ⟨ho1, ho2⟩ := hbL248_25_2274.resolve_left (by omega)
            refine PW.aload_n q_248_86 rfl ?_
            refine PW.cI q_248_87 (by decide) fun c233 hc233 => ?_
            refine PW.cV (as := [_]) (rest := []) q_248_88 t_mv_248_349 kd_294 IML248_25_227.1 (by decide) rfl (by decide) rfl rfl (Nat.le_of_ble_eq_true rfl) (Nat.le_of_ble_eq_true rfl) (by decide) (by decide) ?_
            refine PW.up (by decide) (c_X12_goesBy (gTT) (Stab0) G _ ML248_25_227 IML248_25_227 c233 (by omega) (by omega) (gOc.at ho1 (Fr.at FML248_25_227 kd_295 rfl) (by omega)) (by omega) (by rw [Fr.at FML248_25_227 kd_296 rfl]; omega) fun x235 M234 IM234 GM234 hx235 kx235 TM234 => ?_)
            have FM234 := Fr.trans FML248_25_227 GM234 (rfl)
            have tr236 : o_i (M234 294) 3 = o_i (ML248_25_227 294) 3 := by rw [Fr.at GM234 kd_294 (by decide)]
            refine PW.jz_eq q_248_91 rfl (fun h237 => ?_) (fun h237 => ?_)
            · skip
              refine PW.cI q_248_98 (by decide) fun c238 hc238 => ?_
              refine PW.aload_n q_248_99 rfl ?_
              refine PW.cI q_248_100 (by decide) fun c239 hc239 => ?_
              refine PW.cV (as := [_]) (rest := [_]) q_248_101 t_mv_248_349 kd_294 IM234.1 (by decide) rfl (by decide) rfl rfl (Nat.le_of_ble_eq_true rfl) (Nat.le_of_ble_eq_true rfl) (by decide) (by decide) ?_
              refine PW.up (by decide) (c_X12_goesBy (gTT) (Stab0) G _ M234 IM234 c239 (by omega) (by omega) (gOc.at ho1 (Fr.at FM234 kd_295 rfl) (by omega)) (by omega) (by rw [Fr.at FM234 kd_296 rfl]; omega) fun x241 M240 IM240 GM240 hx241 kx241 TM240 => ?_)
              have FM240 := Fr.trans FM234 GM240 (rfl)
              have tr242 : o_i (M240 294) 3 = o_i (M234 294) 3 := by rw [Fr.at GM240 kd_294 (by decide)]
              refine PW.jz_eq q_248_104 rfl (fun h243 => ?_) (fun h243 => ?_)
              · skip
                refine PW.cI q_248_111 (by decide) fun c244 hc244 => ?_
                refine PW.addN q_248_112 (by omega) (by omega) fun x245 hx245 => ?_
                refine PW.aload_n q_248_113 rfl ?_
                refine PW.cI q_248_114 (by decide) fun c246 hc246 => ?_
                refine PW.cV (as := [_]) (rest := [_]) q_248_115 t_mv_248_349 kd_294 IM240.1 (by decide) rfl (by decide) rfl rfl (Nat.le_of_ble_eq_true rfl) (Nat.le_of_ble_eq_true rfl) (by decide) (by decide) ?_
                refine PW.up (by decide) (c_X12_goesBy (gTT) (Stab0) G _ M240 IM240 c246 (by omega) (by omega) (gOc.at ho1 (Fr.at FM240 kd_295 rfl) (by omega)) (by omega) (by rw [Fr.at FM240 kd_296 rfl]; omega) fun x248 M247 IM247 GM247 hx248 kx248 TM247 => ?_)
                have FM247 := Fr.trans FM240 GM247 (rfl)
                have tr249 : o_i (M247 294) 3 = o_i (M240 294) 3 := by rw [Fr.at GM247 kd_294 (by decide)]
                refine PW.jz_eq q_248_118 rfl (fun h250 => ?_) (fun h250 => ?_)
                · skip
                  refine PW.cI q_248_125 (by decide) fun c251 hc251 => ?_
                  refine PW.addN q_248_126 (by omega) (by omega) fun x252 hx252 => ?_
                  refine PW.rI q_248_127 rfl (by decide) (by decide) ?_
                  exact hK x252 M247 IM247 FM247 ⟨((congrArg (fun e => o_i e 2) (Fr.at GM247 kd_294 rfl)).trans ((congrArg (fun e => o_i e 2) (Fr.at GM240 kd_294 rfl)).trans ((congrArg (fun e => o_i e 2) (Fr.at GM234 kd_294 rfl)).trans hbL248_25_2276.1))), (((hbL248_25_2276.2.cg (Fr.at GM234 kd_296 rfl) (Fr.at GM234 kd_294 rfl)).cg (Fr.at GM240 kd_296 rfl) (Fr.at GM240 kd_294 rfl)).cg (Fr.at GM247 kd_296 rfl) (Fr.at GM247 kd_294 rfl))⟩
                · skip
                  refine PW.cI q_248_121 (by decide) fun c253 hc253 => ?_
                  refine PW.goto q_248_122 rfl ?_
                  refine PW.addN q_248_126 (by omega) (by omega) fun x254 hx254 => ?_
                  refine PW.rI q_248_127 rfl (by decide) (by decide) ?_
                  exact hK x254 M247 IM247 FM247 ⟨((congrArg (fun e => o_i e 2) (Fr.at GM247 kd_294 rfl)).trans ((congrArg (fun e => o_i e 2) (Fr.at GM240 kd_294 rfl)).trans ((congrArg (fun e => o_i e 2) (Fr.at GM234 kd_294 rfl)).trans hbL248_25_2276.1))), (((hbL248_25_2276.2.cg (Fr.at GM234 kd_296 rfl) (Fr.at GM234 kd_294 rfl)).cg (Fr.at GM240 kd_296 rfl) (Fr.at GM240 kd_294 rfl)).cg (Fr.at GM247 kd_296 rfl) (Fr.at GM247 kd_294 rfl))⟩
              · skip
                refine PW.cI q_248_107 (by decide) fun c255 hc255 => ?_
                refine PW.goto q_248_108 rfl ?_
                refine PW.addN q_248_112 (by omega) (by omega) fun x256 hx256 => ?_
                refine PW.aload_n q_248_113 rfl ?_
                refine PW.cI q_248_114 (by decide) fun c257 hc257 => ?_
                refine PW.cV (as := [_]) (rest := [_]) q_248_115 t_mv_248_349 kd_294 IM240.1 (by decide) rfl (by decide) rfl rfl (Nat.le_of_ble_eq_true rfl) (Nat.le_of_ble_eq_true rfl) (by decide) (by decide) ?_
                refine PW.up (by decide) (c_X12_goesBy (gTT) (Stab0) G _ M240 IM240 c257 (by omega) (by omega) (gOc.at ho1 (Fr.at FM240 kd_295 rfl) (by omega)) (by omega) (by rw [Fr.at FM240 kd_296 rfl]; omega) fun x259 M258 IM258 GM258 hx259 kx259 TM258 => ?_)
                have FM258 := Fr.trans FM240 GM258 (rfl)
                have tr260 : o_i (M258 294) 3 = o_i (M240 294) 3 := by rw [Fr.at GM258 kd_294 (by decide)]
                refine PW.jz_eq q_248_118 rfl (fun h261 => ?_) (fun h261 => ?_)
                · skip
                  refine PW.cI q_248_125 (by decide) fun c262 hc262 => ?_
                  refine PW.addN q_248_126 (by omega) (by omega) fun x263 hx263 => ?_
                  refine PW.rI q_248_127 rfl (by decide) (by decide) ?_
                  exact hK x263 M258 IM258 FM258 ⟨((congrArg (fun e => o_i e 2) (Fr.at GM258 kd_294 rfl)).trans ((congrArg (fun e => o_i e 2) (Fr.at GM240 kd_294 rfl)).trans ((congrArg (fun e => o_i e 2) (Fr.at GM234 kd_294 rfl)).trans hbL248_25_2276.1))), (((hbL248_25_2276.2.cg (Fr.at GM234 kd_296 rfl) (Fr.at GM234 kd_294 rfl)).cg (Fr.at GM240 kd_296 rfl) (Fr.at GM240 kd_294 rfl)).cg (Fr.at GM258 kd_296 rfl) (Fr.at GM258 kd_294 rfl))⟩
                · skip
                  refine PW.cI q_248_121 (by decide) fun c264 hc264 => ?_
                  refine PW.goto q_248_122 rfl ?_
                  refine PW.addN q_248_126 (by omega) (by omega) fun x265 hx265 => ?_
                  refine PW.rI q_248_127 rfl (by decide) (by decide) ?_
                  exact hK x265 M258 IM258 FM258 ⟨((congrArg (fun e => o_i e 2) (Fr.at GM258 kd_294 rfl)).trans ((congrArg (fun e => o_i e 2) (Fr.at GM240 kd_294 rfl)).trans ((congrArg (fun e => o_i e 2) (Fr.at GM234 kd_294 rfl)).trans hbL248_25_2276.1))), (((hbL248_25_2276.2.cg (Fr.at GM234 kd_296 rfl) (Fr.at GM234 kd_294 rfl)).cg (Fr.at GM240 kd_296 rfl) (Fr.at GM240 kd_294 rfl)).cg (Fr.at GM258 kd_296 rfl) (Fr.at GM258 kd_294 rfl))⟩
            · skip
              refine PW.cI q_248_94 (by decide) fun c266 hc266 => ?_
              refine PW.goto q_248_95 rfl ?_
              refine PW.aload_n q_248_99 rfl ?_
              refine PW.cI q_248_100 (by decide) fun c267 hc267 => ?_
              refine PW.cV (as := [_]) (rest := [_]) q_248_101 t_mv_248_349 kd_294 IM234.1 (by decide) rfl (by decide) rfl rfl (Nat.le_of_ble_eq_true rfl) (Nat.le_of_ble_eq_true rfl) (by decide) (by decide) ?_
              refine PW.up (by decide) (c_X12_goesBy (gTT) (Stab0) G _ M234 IM234 c267 (by omega) (by omega) (gOc.at ho1 (Fr.at FM234 kd_295 rfl) (by omega)) (by omega) (by rw [Fr.at FM234 kd_296 rfl]; omega) fun x269 M268 IM268 GM268 hx269 kx269 TM268 => ?_)
              have FM268 := Fr.trans FM234 GM268 (rfl)
              have tr270 : o_i (M268 294) 3 = o_i (M234 294) 3 := by rw [Fr.at GM268 kd_294 (by decide)]
              refine PW.jz_eq q_248_104 rfl (fun h271 => ?_) (fun h271 => ?_)
              · skip
                refine PW.cI q_248_111 (by decide) fun c272 hc272 => ?_
                refine PW.addN q_248_112 (by omega) (by omega) fun x273 hx273 => ?_
                refine PW.aload_n q_248_113 rfl ?_
                refine PW.cI q_248_114 (by decide) fun c274 hc274 => ?_
                refine PW.cV (as := [_]) (rest := [_]) q_248_115 t_mv_248_349 kd_294 IM268.1 (by decide) rfl (by decide) rfl rfl (Nat.le_of_ble_eq_true rfl) (Nat.le_of_ble_eq_true rfl) (by decide) (by decide) ?_
                refine PW.up (by decide) (c_X12_goesBy (gTT) (Stab0) G _ M268 IM268 c274 (by omega) (by omega) (gOc.at ho1 (Fr.at FM268 kd_295 rfl) (by omega)) (by omega) (by rw [Fr.at FM268 kd_296 rfl]; omega) fun x276 M275 IM275 GM275 hx276 kx276 TM275 => ?_)
                have FM275 := Fr.trans FM268 GM275 (rfl)
                have tr277 : o_i (M275 294) 3 = o_i (M268 294) 3 := by rw [Fr.at GM275 kd_294 (by decide)]
                refine PW.jz_eq q_248_118 rfl (fun h278 => ?_) (fun h278 => ?_)
                · skip
                  refine PW.cI q_248_125 (by decide) fun c279 hc279 => ?_
                  refine PW.addN q_248_126 (by omega) (by omega) fun x280 hx280 => ?_
                  refine PW.rI q_248_127 rfl (by decide) (by decide) ?_
                  exact hK x280 M275 IM275 FM275 ⟨((congrArg (fun e => o_i e 2) (Fr.at GM275 kd_294 rfl)).trans ((congrArg (fun e => o_i e 2) (Fr.at GM268 kd_294 rfl)).trans ((congrArg (fun e => o_i e 2) (Fr.at GM234 kd_294 rfl)).trans hbL248_25_2276.1))), (((hbL248_25_2276.2.cg (Fr.at GM234 kd_296 rfl) (Fr.at GM234 kd_294 rfl)).cg (Fr.at GM268 kd_296 rfl) (Fr.at GM268 kd_294 rfl)).cg (Fr.at GM275 kd_296 rfl) (Fr.at GM275 kd_294 rfl))⟩
                · skip
                  refine PW.cI q_248_121 (by decide) fun c281 hc281 => ?_
                  refine PW.goto q_248_122 rfl ?_
                  refine PW.addN q_248_126 (by omega) (by omega) fun x282 hx282 => ?_
                  refine PW.rI q_248_127 rfl (by decide) (by decide) ?_
                  exact hK x282 M275 IM275 FM275 ⟨((congrArg (fun e => o_i e 2) (Fr.at GM275 kd_294 rfl)).trans ((congrArg (fun e => o_i e 2) (Fr.at GM268 kd_294 rfl)).trans ((congrArg (fun e => o_i e 2) (Fr.at GM234 kd_294 rfl)).trans hbL248_25_2276.1))), (((hbL248_25_2276.2.cg (Fr.at GM234 kd_296 rfl) (Fr.at GM234 kd_294 rfl)).cg (Fr.at GM268 kd_296 rfl) (Fr.at GM268 kd_294 rfl)).cg (Fr.at GM275 kd_296 rfl) (Fr.at GM275 kd_294 rfl))⟩
              · skip
                refine PW.cI q_248_107 (by decide) fun c283 hc283 => ?_
                refine PW.goto q_248_108 rfl ?_
                refine PW.addN q_248_112 (by omega) (by omega) fun x284 hx284 => ?_
                refine PW.aload_n q_248_113 rfl ?_
                refine PW.cI q_248_114 (by decide) fun c285 hc285 => ?_
                refine PW.cV (as := [_]) (rest := [_]) q_248_115 t_mv_248_349 kd_294 IM268.1 (by decide) rfl (by decide) rfl rfl (Nat.le_of_ble_eq_true rfl) (Nat.le_of_ble_eq_true rfl) (by decide) (by decide) ?_
                refine PW.up (by decide) (c_X12_goesBy (gTT) (Stab0) G _ M268 IM268 c285 (by omega) (by omega) (gOc.at ho1 (Fr.at FM268 kd_295 rfl) (by omega)) (by omega) (by rw [Fr.at FM268 kd_296 rfl]; omega) fun x287 M286 IM286 GM286 hx287 kx287 TM286 => ?_)
                have FM286 := Fr.trans FM268 GM286 (rfl)
                have tr288 : o_i (M286 294) 3 = o_i (M268 294) 3 := by rw [Fr.at GM286 kd_294 (by decide)]
                refine PW.jz_eq q_248_118 rfl (fun h289 => ?_) (fun h289 => ?_)
                · skip
                  refine PW.cI q_248_125 (by decide) fun c290 hc290 => ?_
                  refine PW.addN q_248_126 (by omega) (by omega) fun x291 hx291 => ?_
                  refine PW.rI q_248_127 rfl (by decide) (by decide) ?_
                  exact hK x291 M286 IM286 FM286 ⟨((congrArg (fun e => o_i e 2) (Fr.at GM286 kd_294 rfl)).trans ((congrArg (fun e => o_i e 2) (Fr.at GM268 kd_294 rfl)).trans ((congrArg (fun e => o_i e 2) (Fr.at GM234 kd_294 rfl)).trans hbL248_25_2276.1))), (((hbL248_25_2276.2.cg (Fr.at GM234 kd_296 rfl) (Fr.at GM234 kd_294 rfl)).cg (Fr.at GM268 kd_296 rfl) (Fr.at GM268 kd_294 rfl)).cg (Fr.at GM286 kd_296 rfl) (Fr.at GM286 kd_294 rfl))⟩
                · skip
                  refine PW.cI q_248_121 (by decide) fun c292 hc292 => ?_
                  refine PW.goto q_248_122 rfl ?_
                  refine PW.addN q_248_126 (by omega) (by omega) fun x293 hx293 => ?_
                  refine PW.rI q_248_127 rfl (by decide) (by decide) ?_
                  exact hK x293 M286 IM286 FM286 ⟨((congrArg (fun e => o_i e 2) (Fr.at GM286 kd_294 rfl)).trans ((congrArg (fun e => o_i e 2) (Fr.at GM268 kd_294 rfl)).trans ((congrArg (fun e => o_i e 2) (Fr.at GM234 kd_294 rfl)).trans hbL248_25_2276.1))), (((hbL248_25_2276.2.cg (Fr.at GM234 kd_296 rfl) (Fr.at GM234 kd_294 rfl)).cg (Fr.at GM268 kd_296 rfl) (Fr.at GM268 kd_294 rfl)).cg (Fr.at GM286 kd_296 rfl) (Fr.at GM286 kd_294 rfl))⟩
          · skip
            refine PW.cI q_248_84 (by decide) fun c294 hc294 => ?_
            refine PW.rI q_248_85 rfl (by decide) (by decide) ?_
            exact hK c294 ML248_25_227 IML248_25_227 FML248_25_227 ⟨hbL248_25_2276.1, hbL248_25_2276.2⟩
        · skip
          refine PW.iload_n q_248_33 rfl ?_
          refine PW.jz_eq q_248_34 rfl (fun h295 => ?_) (fun h295 => ?_)
          · skip
            refine PW.iload_n q_248_80 rfl ?_
            refine PW.jz_ne q_248_81 rfl (fun h296 => False.elim (by omega)) (fun h296 => ?_)
            refine PW.cI q_248_84 (by decide) fun c297 hc297 => ?_
            refine PW.rI q_248_85 rfl (by decide) (by decide) ?_
            exact hK c297 ML248_25_227 IML248_25_227 FML248_25_227 ⟨hbL248_25_2276.1, hbL248_25_2276.2⟩
          · skip
            refine PW.aload_n q_248_37 rfl ?_
            refine PW.aload_n q_248_38 rfl ?_
            refine PW.iload_n q_248_39 rfl ?_
            refine PW.cV (as := [_]) (rest := [_]) q_248_40 t_mv_248_346 kd_294 IML248_25_227.1 (by decide) rfl (by decide) rfl rfl (Nat.le_of_ble_eq_true rfl) (Nat.le_of_ble_eq_true rfl) (by decide) (by decide) ?_
            refine PW.up (by decide) (c_X12_octet_v (gTT) (Stab0) G _ ML248_25_227 IML248_25_227 v229 (by omega) (by omega) fun x299 M298 IM298 GM298 hx299 kx299 PM298 TM298 => ?_)
            have FM298 := Fr.trans FML248_25_227 GM298 (rfl)
            have tr300 : o_i (M298 294) 3 = o_i (ML248_25_227 294) 3 := by rw [Fr.at GM298 kd_294 (by decide)]
            have tx301 : x299.toInt = (o_a (M 295) v229.toInt.toNat &&& 255).toInt := by rw [PM298, Fr.at FM298 kd_295 rfl]
            refine PW.cV (as := [_]) (rest := []) q_248_43 t_mv_248_241 kd_294 IM298.1 (by decide) rfl (by decide) rfl rfl (Nat.le_of_ble_eq_true rfl) (Nat.le_of_ble_eq_true rfl) (by decide) (by decide) ?_
            refine PW.iload_n q_195_0 rfl ?_
            refine PW.cI q_195_1 (by decide) fun c302 hc302 => ?_
            refine PW.aload_n q_195_2 rfl ?_
            refine PW.gR 296 q_195_3 (Or.inl t_ft_195_33) gF_40_6 kd_294 IM298.1 (by decide) rfl ?_
            refine PW.cI q_195_6 (by decide) fun c303 hc303 => ?_
            refine PW.aI q_195_7 gA_42 kd_296 IM298.1 (by decide) gB_42_0_0 (by decide) (by omega) (by omega) fun x304 fx304 hx304 kx304 => ?_
            have tw305 : (o_a (M 296) 0).toInt = x304.toInt := by rw [← Fr.at FM298 kd_296 rfl, show (0 : Nat) = c303.toInt.toNat from by omega, fx304]
            refine PW.cI q_195_8 (by decide) fun c306 hc306 => ?_
            refine PW.subN q_195_9 (by omega) (by omega) fun x307 hx307 => ?_
            refine PW.callS (as := [_, _, _]) (rest := []) q_195_10 t_ms_195_176 (by decide) rfl (Nat.le_of_ble_eq_true rfl) (Nat.le_of_ble_eq_true rfl) (by decide) (by decide) ?_
            refine PW.iload_n q_166_0 rfl ?_
            refine PW.iload_n q_166_1 rfl ?_
            refine PW.jc_lt q_166_2 rfl (fun h308 => False.elim (by omega)) (fun h308 => ?_)
            refine PW.iload_n q_166_5 rfl ?_
            refine PW.iload_n q_166_6 rfl ?_
            refine PW.jc_gt q_166_7 rfl (fun h309 => ?_) (fun h309 => ?_)
            · skip
              refine PW.cI q_166_14 (by decide) fun c310 hc310 => ?_
              refine PW.rZ q_166_15 rfl (by omega) (by omega) (by decide) (by decide) ?_
              refine PW.rZ q_195_13 rfl (by omega) (by omega) (by decide) (by decide) ?_
              refine PW.jz_eq q_248_46 rfl (fun h311 => ?_) (fun h311 => False.elim (by omega))
              refine PW.cI q_248_72 (by decide) fun c312 hc312 => ?_
              refine PW.istore_n q_248_73 (by decide) ?_
              refine PW.incN q_248_74 rfl (by decide) (by decide) (by omega) (by omega) fun x313 hx313 => ?_
              refine PW.goto q_248_77 rfl ?_
              refine PW.lvS (lk1 rfl (lk1 rfl (lk1 rfl lk0))) (ih_L248_25_227 _ ?_ M298 c312 x313 IM298 FM298 (by omega) (by omega) (by omega) (by omega) (Or.inl (by omega)) (by omega) ⟨((congrArg (fun e => o_i e 2) (Fr.at GM298 kd_294 rfl)).trans hbL248_25_2276.1), (hbL248_25_2276.2.cg (Fr.at GM298 kd_296 rfl) (Fr.at GM298 kd_294 rfl))⟩ rfl)
              omega
            · skip
              refine PW.cI q_166_10 (by decide) fun c314 hc314 => ?_
              refine PW.goto q_166_11 rfl ?_
              refine PW.rZ q_166_15 rfl (by omega) (by omega) (by decide) (by decide) ?_
              refine PW.rZ q_195_13 rfl (by omega) (by omega) (by decide) (by decide) ?_
              refine PW.jz_eq q_248_46 rfl (fun h315 => False.elim (by omega)) (fun h315 => ?_)
              refine PW.iload_n q_248_49 rfl ?_
              refine PW.jz_eq q_248_50 rfl (fun h316 => ?_) (fun h316 => ?_)
              · skip
                refine PW.cI q_248_68 (by decide) fun c317 hc317 => ?_
                refine PW.goto q_248_69 rfl ?_
                refine PW.istore_n q_248_73 (by decide) ?_
                refine PW.incN q_248_74 rfl (by decide) (by decide) (by omega) (by omega) fun x318 hx318 => ?_
                refine PW.goto q_248_77 rfl ?_
                refine PW.lvS (lk1 rfl (lk1 rfl (lk1 rfl lk0))) (ih_L248_25_227 _ ?_ M298 c317 x318 IM298 FM298 (by omega) (by omega) (by omega) (by omega) (Or.inr ⟨gOc.add (hbL248_25_2274.resolve_left (by omega)).1 (by omega) tx301 (by omega) (by omega), Or.inr (by omega)⟩) (by omega) ⟨((congrArg (fun e => o_i e 2) (Fr.at GM298 kd_294 rfl)).trans hbL248_25_2276.1), (hbL248_25_2276.2.cg (Fr.at GM298 kd_296 rfl) (Fr.at GM298 kd_294 rfl))⟩ rfl)
                omega
              · skip
                refine PW.aload_n q_248_53 rfl ?_
                refine PW.iload_n q_248_54 rfl ?_
                refine PW.cV (as := [_]) (rest := []) q_248_55 t_mv_248_346 kd_294 IM298.1 (by decide) rfl (by decide) rfl rfl (Nat.le_of_ble_eq_true rfl) (Nat.le_of_ble_eq_true rfl) (by decide) (by decide) ?_
                refine PW.up (by decide) (c_X12_octet_v (gTT) (Stab0) G _ M298 IM298 v229 (by omega) (by omega) fun x320 M319 IM319 GM319 hx320 kx320 PM319 TM319 => ?_)
                have FM319 := Fr.trans FM298 GM319 (rfl)
                have tr321 : o_i (M319 294) 3 = o_i (M298 294) 3 := by rw [Fr.at GM319 kd_294 (by decide)]
                refine PW.aload_n q_248_58 rfl ?_
                refine PW.iload_n q_248_59 rfl ?_
                refine PW.cI q_248_60 (by decide) fun c322 hc322 => ?_
                refine PW.subN q_248_61 (by omega) (by omega) fun x323 hx323 => ?_
                refine PW.cV (as := [_]) (rest := [_]) q_248_62 t_mv_248_346 kd_294 IM319.1 (by decide) rfl (by decide) rfl rfl (Nat.le_of_ble_eq_true rfl) (Nat.le_of_ble_eq_true rfl) (by decide) (by decide) ?_
                refine PW.up (by decide) (c_X12_octet_v (gTT) (Stab0) G _ M319 IM319 x323 (by omega) (by omega) fun x325 M324 IM324 GM324 hx325 kx325 PM324 TM324 => ?_)
                have FM324 := Fr.trans FM319 GM324 (rfl)
                have tr326 : o_i (M324 294) 3 = o_i (M319 294) 3 := by rw [Fr.at GM324 kd_294 (by decide)]
                refine PW.jc_eq q_248_65 rfl (fun h327 => ?_) (fun h327 => ?_)
                · skip
                  refine PW.cI q_248_72 (by decide) fun c328 hc328 => ?_
                  refine PW.istore_n q_248_73 (by decide) ?_
                  refine PW.incN q_248_74 rfl (by decide) (by decide) (by omega) (by omega) fun x329 hx329 => ?_
                  refine PW.goto q_248_77 rfl ?_
                  refine PW.lvS (lk1 rfl (lk1 rfl (lk1 rfl lk0))) (ih_L248_25_227 _ ?_ M324 c328 x329 IM324 FM324 (by omega) (by omega) (by omega) (by omega) (Or.inl (by omega)) (by omega) ⟨((congrArg (fun e => o_i e 2) (Fr.at GM324 kd_294 rfl)).trans ((congrArg (fun e => o_i e 2) (Fr.at GM319 kd_294 rfl)).trans ((congrArg (fun e => o_i e 2) (Fr.at GM298 kd_294 rfl)).trans hbL248_25_2276.1))), (((hbL248_25_2276.2.cg (Fr.at GM298 kd_296 rfl) (Fr.at GM298 kd_294 rfl)).cg (Fr.at GM319 kd_296 rfl) (Fr.at GM319 kd_294 rfl)).cg (Fr.at GM324 kd_296 rfl) (Fr.at GM324 kd_294 rfl))⟩ rfl)
                  omega
                · skip
                  refine PW.cI q_248_68 (by decide) fun c330 hc330 => ?_
                  refine PW.goto q_248_69 rfl ?_
                  refine PW.istore_n q_248_73 (by decide) ?_
                  refine PW.incN q_248_74 rfl (by decide) (by decide) (by omega) (by omega) fun x331 hx331 => ?_
                  refine PW.goto q_248_77 rfl ?_
                  refine PW.lvS (lk1 rfl (lk1 rfl (lk1 rfl lk0))) (ih_L248_25_227 _ ?_ M324 c330 x331 IM324 FM324 (by omega) (by omega) (by omega) (by omega) (Or.inr ⟨gOc.add (hbL248_25_2274.resolve_left (by omega)).1 (by omega) tx301 (by omega) (by omega), Or.inr (by omega)⟩) (by omega) ⟨((congrArg (fun e => o_i e 2) (Fr.at GM324 kd_294 rfl)).trans ((congrArg (fun e => o_i e 2) (Fr.at GM319 kd_294 rfl)).trans ((congrArg (fun e => o_i e 2) (Fr.at GM298 kd_294 rfl)).trans hbL248_25_2276.1))), (((hbL248_25_2276.2.cg (Fr.at GM298 kd_296 rfl) (Fr.at GM298 kd_294 rfl)).cg (Fr.at GM319 kd_296 rfl) (Fr.at GM319 kd_294 rfl)).cg (Fr.at GM324 kd_296 rfl) (Fr.at GM324 kd_294 rfl))⟩ rfl)
                  omega
      exact PW.lvS (lk1 rfl (lk1 rfl (lk1 rfl lk0))) (L248_25_227 _ M5 c225 c226 IM5 FM5 (by omega) (by omega) (by omega) (by omega) (Or.inr ⟨gOc.zero (by omega), Or.inl (by omega)⟩) (by omega) ⟨TM5.1, ((gHq.refl.pu UM2 (by decide)).tr TM5.2)⟩ rfl)
theorem c_X12_does (G : pG) (Kr : pK) (M : pM) (I : Iv gTT M) (a1 : Int32) (a2 : Int32) (hp_0 : a1.toInt < 0 ∨ 4 < a1.toInt ∨ (0 ≤ a2.toInt ∧ a2.toInt ≤ 5)) (hK : ∀ (x : Int32) (M1 : pM), Iv gTT M1 → Fr [42] M M1 → ((gLq M1 M) ∧ gHq M1 M) → Kr.1 (some (.int x)) 311 M1) : PW G false 6 258 (p_mc 258) (p_msl 258) Kr 0 (lv_args 0 [.ref 294, .int a1, .int a2]) [] 311 M 0 0 := by
  have F : Fr [42] M M := Fr.refl
  refine PW.iload_n q_258_0 rfl ?_
  have h1 : a1.toInt = 0 ∨ a1.toInt = 1 ∨ a1.toInt = 2 ∨ a1.toInt = 3 ∨ a1.toInt = 4 ∨ (a1.toInt < 0 ∨ 4 < a1.toInt) := by omega
  rcases h1 with h1 | h1 | h1 | h1 | h1 | h1
  · skip
    refine PW.sw1 (0) h1 q_258_1 (by decide) (by decide) rfl rfl ?_
    refine PW.aload_n q_258_36 rfl ?_
    refine PW.gR 296 q_258_37 (Or.inl t_ft_258_33) gF_40_6 kd_294 I.1 (by decide) rfl ?_
    refine PW.cB q_258_40 (by decide) fun c2 hc2 => ?_
    refine PW.iload_n q_258_42 rfl ?_
    refine PW.addN q_258_43 (by have := n_lo a2; have := n_hi a2; omega) (by have := n_lo a2; have := n_hi a2; omega) fun x3 hx3 => ?_
    refine PW.aH q_258_44 gA_42 kd_296 I.1 (by decide) (by omega) (by omega) fun x4 fx4 => ?_
    refine PW.jz_ne q_258_45 rfl (fun h5 => ?_) (fun h5 => ?_)
    · skip
      refine PW.aload_n q_258_50 rfl ?_
      refine PW.iload_n q_258_51 rfl ?_
      refine PW.cV (as := [_]) (rest := []) q_258_52 t_mv_258_293 kd_294 I.1 (by decide) rfl (by decide) rfl rfl (Nat.le_of_ble_eq_true rfl) (Nat.le_of_ble_eq_true rfl) (by decide) (by decide) ?_
      refine PW.up (by decide) (c_X12_toggles (gTT) (Stab0) G _ M I a2 (by omega) (by omega) fun M6 IM6 GM6 PM6 TM6 => ?_)
      have FM6 := Fr.trans F GM6 (rfl)
      refine PW.cI q_258_55 (by decide) fun c7 hc7 => ?_
      refine PW.rI q_258_56 rfl (by decide) (by decide) ?_
      exact hK c7 M6 IM6 FM6 ⟨(congrArg (fun e => o_i e 2) (Fr.at GM6 kd_294 rfl)), (gHq.refl.tr TM6.2)⟩
    · skip
      refine PW.cI q_258_48 (by decide) fun c8 hc8 => ?_
      refine PW.rI q_258_49 rfl (by decide) (by decide) ?_
      exact hK c8 M I F ⟨rfl, gHq.refl⟩
  · skip
    refine PW.sw1 (1) h1 q_258_1 (by decide) (by decide) rfl rfl ?_
    refine PW.aload_n q_258_57 rfl ?_
    refine PW.gR 296 q_258_58 (Or.inl t_ft_258_33) gF_40_6 kd_294 I.1 (by decide) rfl ?_
    refine PW.cB q_258_61 (by decide) fun c9 hc9 => ?_
    refine PW.iload_n q_258_63 rfl ?_
    refine PW.addN q_258_64 (by have := n_lo a2; have := n_hi a2; omega) (by have := n_lo a2; have := n_hi a2; omega) fun x10 hx10 => ?_
    refine PW.aH q_258_65 gA_42 kd_296 I.1 (by decide) (by omega) (by omega) fun x11 fx11 => ?_
    refine PW.cI q_258_66 (by decide) fun c12 hc12 => ?_
    refine PW.jc_ne q_258_67 rfl (fun h13 => ?_) (fun h13 => ?_)
    · skip
      refine PW.aload_n q_258_73 rfl ?_
      refine PW.iload_n q_258_74 rfl ?_
      refine PW.cV (as := [_]) (rest := []) q_258_75 t_mv_258_293 kd_294 I.1 (by decide) rfl (by decide) rfl rfl (Nat.le_of_ble_eq_true rfl) (Nat.le_of_ble_eq_true rfl) (by decide) (by decide) ?_
      refine PW.up (by decide) (c_X12_toggles (gTT) (Stab0) G _ M I a2 (by omega) (by omega) fun M14 IM14 GM14 PM14 TM14 => ?_)
      have FM14 := Fr.trans F GM14 (rfl)
      refine PW.cI q_258_78 (by decide) fun c15 hc15 => ?_
      refine PW.rI q_258_79 rfl (by decide) (by decide) ?_
      exact hK c15 M14 IM14 FM14 ⟨(congrArg (fun e => o_i e 2) (Fr.at GM14 kd_294 rfl)), (gHq.refl.tr TM14.2)⟩
    · skip
      refine PW.cB q_258_70 (by decide) fun c16 hc16 => ?_
      refine PW.rI q_258_72 rfl (by decide) (by decide) ?_
      exact hK c16 M I F ⟨rfl, gHq.refl⟩
  · skip
    refine PW.sw1 (2) h1 q_258_1 (by decide) (by decide) rfl rfl ?_
    refine PW.aload_n q_258_80 rfl ?_
    refine PW.gR 296 q_258_81 (Or.inl t_ft_258_33) gF_40_6 kd_294 I.1 (by decide) rfl ?_
    refine PW.cB q_258_84 (by decide) fun c17 hc17 => ?_
    refine PW.aI q_258_86 gA_42 kd_296 I.1 (by decide) gB_42_34_34 (by decide) (by omega) (by omega) fun x18 fx18 hx18 kx18 => ?_
    refine PW.iload_n q_258_87 rfl ?_
    refine PW.cI q_258_88 (by decide) fun c19 hc19 => ?_
    refine PW.addN q_258_89 (by have := n_lo a2; have := n_hi a2; omega) (by have := n_lo a2; have := n_hi a2; omega) fun x20 hx20 => ?_
    refine PW.jc_ne q_258_90 rfl (fun h21 => ?_) (fun h21 => ?_)
    · skip
      refine PW.aload_n q_258_96 rfl ?_
      refine PW.gR 296 q_258_97 (Or.inl t_ft_258_33) gF_40_6 kd_294 I.1 (by decide) rfl ?_
      refine PW.cB q_258_100 (by decide) fun c22 hc22 => ?_
      refine PW.iload_n q_258_102 rfl ?_
      refine PW.cI q_258_103 (by decide) fun c23 hc23 => ?_
      refine PW.addN q_258_104 (by have := n_lo a2; have := n_hi a2; omega) (by have := n_lo a2; have := n_hi a2; omega) fun x24 hx24 => ?_
      refine PW.wS q_258_105 Stab0 I gC_42_34_34 gN_34_34 (by decide) (by omega) (by omega) (by omega) (by omega) fun M25 IM25 fM25 UM25 => ?_
      have FM25 := Fr.pu F UM25.1 kd_296 (rfl : List.contains [42] 42 = true)
      refine PW.cI q_258_106 (by decide) fun c26 hc26 => ?_
      refine PW.rI q_258_107 rfl (by decide) (by decide) ?_
      exact hK c26 M25 IM25 FM25 ⟨(congrArg (fun e => o_i e 2) (UM25.1 294 (by decide))), (gHq.refl.st UM25 (by omega))⟩
    · skip
      refine PW.cB q_258_93 (by decide) fun c27 hc27 => ?_
      refine PW.rI q_258_95 rfl (by decide) (by decide) ?_
      exact hK c27 M I F ⟨rfl, gHq.refl⟩
  · skip
    refine PW.sw1 (3) h1 q_258_1 (by decide) (by decide) rfl rfl ?_
    refine PW.aload_n q_258_108 rfl ?_
    refine PW.iload_n q_258_109 rfl ?_
    refine PW.cV (as := [_]) (rest := []) q_258_110 t_mv_258_296 kd_294 I.1 (by decide) rfl (by decide) rfl rfl (Nat.le_of_ble_eq_true rfl) (Nat.le_of_ble_eq_true rfl) (by decide) (by decide) ?_
    refine PW.up (by decide) (c_X12_turnsRound (gTT) (Stab0) G _ M I a2 (by omega) (by omega) fun M28 IM28 GM28 PM28 TM28 => ?_)
    have FM28 := Fr.trans F GM28 (rfl)
    refine PW.cI q_258_113 (by decide) fun c29 hc29 => ?_
    refine PW.rI q_258_114 rfl (by decide) (by decide) ?_
    exact hK c29 M28 IM28 FM28 ⟨(congrArg (fun e => o_i e 2) (Fr.at GM28 kd_294 rfl)), (gHq.refl.tr TM28.2)⟩
  · skip
    refine PW.sw1 (4) h1 q_258_1 (by decide) (by decide) rfl rfl ?_
    refine PW.aload_n q_258_115 rfl ?_
    refine PW.gR 296 q_258_116 (Or.inl t_ft_258_33) gF_40_6 kd_294 I.1 (by decide) rfl ?_
    refine PW.cB q_258_119 (by decide) fun c30 hc30 => ?_
    refine PW.iload_n q_258_121 rfl ?_
    refine PW.cI q_258_122 (by decide) fun c31 hc31 => ?_
    refine PW.addN q_258_123 (by have := n_lo a2; have := n_hi a2; omega) (by have := n_lo a2; have := n_hi a2; omega) fun x32 hx32 => ?_
    refine PW.wS q_258_124 Stab0 I gC_42_35_35 gN_35_35 (by decide) (by omega) (by omega) (by omega) (by omega) fun M33 IM33 fM33 UM33 => ?_
    have FM33 := Fr.pu F UM33.1 kd_296 (rfl : List.contains [42] 42 = true)
    refine PW.cI q_258_125 (by decide) fun c34 hc34 => ?_
    refine PW.rI q_258_126 rfl (by decide) (by decide) ?_
    exact hK c34 M33 IM33 FM33 ⟨(congrArg (fun e => o_i e 2) (UM33.1 294 (by decide))), (gHq.refl.st UM33 (by omega))⟩
  · skip
    refine PW.tswO q_258_1 h1 rfl ?_
    refine PW.aload_n q_258_127 rfl ?_
    refine PW.gR 296 q_258_128 (Or.inl t_ft_258_33) gF_40_6 kd_294 I.1 (by decide) rfl ?_
    refine PW.cB q_258_131 (by decide) fun c35 hc35 => ?_
    refine PW.aI q_258_133 gA_42 kd_296 I.1 (by decide) gB_42_33_33 (by decide) (by omega) (by omega) fun x36 fx36 hx36 kx36 => ?_
    refine PW.iload_n q_258_134 rfl ?_
    refine PW.addH q_258_135 fun x37 => ?_
    refine PW.cS q_258_136 (by decide) fun c38 hc38 => ?_
    refine PW.jc_le q_258_139 rfl (fun h39 => ?_) (fun h39 => ?_)
    · skip
      refine PW.aload_n q_258_145 rfl ?_
      refine PW.iload_n q_258_146 rfl ?_
      refine PW.cV (as := [_]) (rest := []) q_258_147 t_mv_258_299 kd_294 I.1 (by decide) rfl (by decide) rfl rfl (Nat.le_of_ble_eq_true rfl) (Nat.le_of_ble_eq_true rfl) (by decide) (by decide) ?_
      refine PW.up (by decide) (c_X12_goesOn G _ M I a2 fun x41 M40 IM40 GM40 hx41 TM40 => ?_)
      have FM40 := Fr.trans F GM40 (rfl)
      refine PW.pop q_258_150 rfl ?_
      refine PW.cI q_258_151 (by decide) fun c42 hc42 => ?_
      refine PW.rI q_258_152 rfl (by decide) (by decide) ?_
      exact hK c42 M40 IM40 FM40 ⟨(congrArg (fun e => o_i e 2) (Fr.at GM40 kd_294 rfl)), (gHq.refl.tr TM40.2)⟩
    · skip
      refine PW.cB q_258_142 (by decide) fun c43 hc43 => ?_
      refine PW.rI q_258_144 rfl (by decide) (by decide) ?_
      exact hK c43 M I F ⟨rfl, gHq.refl⟩
theorem c_X12_logLine (G : pG) (Kr : pK) (M : pM) (I : Iv gTT M) (hp_0 : gLl M (o_i (M 294) 29)) (hK : ∀ (x : Int32) (M1 : pM), Iv gTT M1 → Fr [40, 44] M M1 → 0 ≤ x.toInt → x.toInt ≤ 1 → (x.toInt = 0 ∨ (o_i (M1 294) 29 = o_i (M 294) 29 ∧ o_i (M 294) 29 ≤ 39 ∧ gLl M1 (o_i (M 294) 29 + 1))) → (gLq M1 M) → Kr.1 (some (.int x)) 311 M1) : PW G false 3 257 (p_mc 257) (p_msl 257) Kr 0 (lv_args 0 [.ref 294]) [] 311 M 0 0 := by
  have F : Fr [40, 44] M M := Fr.refl
  refine PW.cI q_257_0 (by decide) fun c1 hc1 => ?_
  refine PW.aload_n q_257_1 rfl ?_
  refine PW.gI q_257_2 (Or.inl t_ft_257_369) gF_40_29 kd_294 I.1 (by decide) fun x2 fx2 hx2 kx2 => ?_
  have trx2 := o_i_of fx2
  refine PW.mulN q_257_5 (2) (by omega) x2 (fun h => n_eq.mpr (by omega)) (fun h => n_eq.mpr (by omega)) (by omega) (by omega) fun x3 hx3 => ?_
  refine PW.istore_n q_257_6 (by decide) ?_
  refine PW.aload_n q_257_7 rfl ?_
  refine PW.ldc2 q_257_8 t_lt_257_110 ?_
  refine PW.cV (as := [_]) (rest := []) q_257_11 t_mv_257_201 kd_294 I.1 (by decide) rfl (by decide) rfl rfl (Nat.le_of_ble_eq_true rfl) (Nat.le_of_ble_eq_true rfl) (by decide) (by decide) ?_
  refine PW.up (by decide) (c_X12_isWord (gTT) (Stab0) G _ M I _ fun x5 M4 IM4 GM4 hx5 kx5 TM4 => ?_)
  have FM4 := Fr.trans F GM4 (rfl)
  have tr6 : o_i (M4 294) 29 = o_i (M 294) 29 := by rw [Fr.at GM4 kd_294 (by decide)]
  have tr7 : o_i (M4 294) 18 = o_i (M 294) 18 := by rw [Fr.at GM4 kd_294 (by decide)]
  refine PW.istore_n q_257_14 (by decide) ?_
  refine PW.iload_n q_257_15 rfl ?_
  refine PW.jz_ne q_257_16 rfl (fun h8 => ?_) (fun h8 => ?_)
  · skip
    refine PW.aload_n q_257_35 rfl ?_
    refine PW.gE q_257_36 (Or.inl t_ft_257_369) gF_40_29 kd_294 IM4.1 (by decide) ((congrArg (fun e => o_f e 29) (Fr.at GM4 kd_294 (by decide))).trans fx2) ?_
    have tr9 := o_i_of ((congrArg (fun e => o_f e 29) (Fr.at GM4 kd_294 (by decide))).trans fx2)
    refine PW.cB q_257_39 (by decide) fun c10 hc10 => ?_
    refine PW.jc_ne q_257_41 rfl (fun h11 => ?_) (fun h11 => ?_)
    · skip
      refine PW.aload_n q_257_50 rfl ?_
      refine PW.gR 298 q_257_51 (Or.inl t_ft_257_40) gF_40_8 kd_294 IM4.1 (by decide) rfl ?_
      refine PW.iload_n q_257_54 rfl ?_
      refine PW.cI q_257_55 (by decide) fun c12 hc12 => ?_
      refine PW.addN q_257_56 (by omega) (by omega) fun x13 hx13 => ?_
      refine PW.aload_n q_257_57 rfl ?_
      refine PW.gI q_257_58 (Or.inl t_ft_257_180) gF_40_18 kd_294 IM4.1 (by decide) fun x14 fx14 hx14 kx14 => ?_
      have trx14 := o_i_of fx14
      clear hx14 kx14
      refine PW.wT q_257_61 gA_44 kd_298 IM4 (by decide) rfl gC_44_1_81 (by decide) (by omega) (by omega) (n_lo _) (n_hi _) fun M15 IM15 fM15 UM15 => ?_
      have FM15 := Fr.pu FM4 UM15.1 kd_298 (rfl : List.contains [40, 44] 44 = true)
      have tr16 : o_i (M15 294) 29 = o_i (M4 294) 29 := by rw [UM15.1 294 (g_ne kd_294 kd_298 (by decide))]
      have tr17 : o_i (M15 294) 18 = o_i (M4 294) 18 := by rw [UM15.1 294 (g_ne kd_294 kd_298 (by decide))]
      refine PW.aload_n q_257_62 rfl ?_
      refine PW.cV (as := []) (rest := []) q_257_63 t_mv_257_173 kd_294 IM15.1 (by decide) rfl (by decide) rfl rfl (Nat.le_of_ble_eq_true rfl) (Nat.le_of_ble_eq_true rfl) (by decide) (by decide) ?_
      have SM15 : Iv (gSv M15) M15 := gSv.of IM15
      refine PW.up (by decide) (c_X12_go (gSv M15) (StabSv M15) G _ M15 SM15  fun M18 IM18 GM18 PM18 TM18 => ?_)
      have FM18 := Fr.trans FM15 GM18 (rfl)
      obtain ⟨PaM18, PdM18, PbM18, PeM18⟩ := PM18
      have QM18 : Iv gTT M18 := ⟨IM18.1, IM18.2.1⟩
      have tr19 : o_i (M18 294) 29 = o_i (M15 294) 29 := IM18.2.2.1
      have tr20 : o_i (M18 294) 33 = o_i (M15 294) 33 := IM18.2.2.2.1
      have tr21 : o_i (M18 294) 35 = o_i (M15 294) 35 := IM18.2.2.2.2.1
      have tr22 : o_i (M18 294) 37 = o_i (M15 294) 37 := IM18.2.2.2.2.2.1
      have srM18 : o_a (M18 298) = o_a (M15 298) := IM18.2.2.2.2.2.2.1
      have skM18 : o_a (M18 305) = o_a (M15 305) := IM18.2.2.2.2.2.2.2
      refine PW.iload_n q_257_66 rfl ?_
      refine PW.jz_eq q_257_67 rfl (fun h23 => False.elim (by omega)) (fun h23 => ?_)
      refine PW.aload_n q_257_70 rfl ?_
      refine PW.gR 298 q_257_71 (Or.inl t_ft_257_40) gF_40_8 kd_294 QM18.1 (by decide) rfl ?_
      refine PW.iload_n q_257_74 rfl ?_
      refine PW.cI q_257_75 (by decide) fun c24 hc24 => ?_
      refine PW.wT q_257_76 gA_44 kd_298 QM18 (by decide) rfl gC_44_0_80 (by decide) (by omega) (by omega) (n_lo _) (n_hi _) fun M25 IM25 fM25 UM25 => ?_
      have FM25 := Fr.pu FM18 UM25.1 kd_298 (rfl : List.contains [40, 44] 44 = true)
      have tr26 : o_i (M25 294) 29 = o_i (M18 294) 29 := by rw [UM25.1 294 (g_ne kd_294 kd_298 (by decide))]
      have tr27 : o_i (M25 294) 18 = o_i (M18 294) 18 := by rw [UM25.1 294 (g_ne kd_294 kd_298 (by decide))]
      refine PW.aload_n q_257_77 rfl ?_
      refine PW.cI q_257_78 (by decide) fun c28 hc28 => ?_
      refine PW.cB q_257_79 (by decide) fun c29 hc29 => ?_
      refine PW.cV (as := [_, _]) (rest := []) q_257_81 t_mv_257_183 kd_294 IM25.1 (by decide) rfl (by decide) rfl rfl (Nat.le_of_ble_eq_true rfl) (Nat.le_of_ble_eq_true rfl) (by decide) (by decide) ?_
      have SM25 : Iv (gSv M25) M25 := gSv.of IM25
      refine PW.up (by decide) (c_X12_takes (gSv M25) (StabSv M25) G _ M25 SM25 c28 c29 fun x31 M30 IM30 GM30 hx31 kx31 PM30 TM30 => ?_)
      have FM30 := Fr.trans FM25 GM30 (rfl)
      obtain ⟨⟨PaM30, PdM30⟩, PcM30⟩ := PM30
      clear PdM18
      have QM30 : Iv gTT M30 := ⟨IM30.1, IM30.2.1⟩
      have tr32 : o_i (M30 294) 29 = o_i (M25 294) 29 := IM30.2.2.1
      have tr33 : o_i (M30 294) 33 = o_i (M25 294) 33 := IM30.2.2.2.1
      have tr34 : o_i (M30 294) 35 = o_i (M25 294) 35 := IM30.2.2.2.2.1
      have tr35 : o_i (M30 294) 37 = o_i (M25 294) 37 := IM30.2.2.2.2.2.1
      have srM30 : o_a (M30 298) = o_a (M25 298) := IM30.2.2.2.2.2.2.1
      have skM30 : o_a (M30 305) = o_a (M25 305) := IM30.2.2.2.2.2.2.2
      refine PW.jz_ne q_257_84 rfl (fun h36 => ?_) (fun h36 => ?_)
      · skip
        refine PW.aload_n q_257_89 rfl ?_
        refine PW.gR 298 q_257_90 (Or.inl t_ft_257_40) gF_40_8 kd_294 QM30.1 (by decide) rfl ?_
        refine PW.iload_n q_257_93 rfl ?_
        refine PW.cI q_257_94 (by decide) fun c37 hc37 => ?_
        refine PW.addN q_257_95 (by omega) (by omega) fun x38 hx38 => ?_
        refine PW.aload_n q_257_96 rfl ?_
        refine PW.gI q_257_97 (Or.inl t_ft_257_180) gF_40_18 kd_294 QM30.1 (by decide) fun x39 fx39 hx39 kx39 => ?_
        have trx39 := o_i_of fx39
        clear hx39 kx39
        refine PW.wT q_257_100 gA_44 kd_298 QM30 (by decide) rfl gC_44_1_81 (by decide) (by omega) (by omega) (n_lo _) (n_hi _) fun M40 IM40 fM40 UM40 => ?_
        have FM40 := Fr.pu FM30 UM40.1 kd_298 (rfl : List.contains [40, 44] 44 = true)
        have tr41 : o_i (M40 294) 29 = o_i (M30 294) 29 := by rw [UM40.1 294 (g_ne kd_294 kd_298 (by decide))]
        have tr42 : o_i (M40 294) 18 = o_i (M30 294) 18 := by rw [UM40.1 294 (g_ne kd_294 kd_298 (by decide))]
        refine PW.cI q_257_101 (by decide) fun c43 hc43 => ?_
        refine PW.rZ q_257_102 rfl (by omega) (by omega) (by decide) (by decide) ?_
        exact hK c43 M40 IM40 FM40 (by omega) (by omega) (Or.inr ⟨by omega, by omega, gLl.add hp_0 (by omega) (fun z hz => ((UM40.2 z (by omega)).trans ((congrFun (congrArg o_a (Fr.at GM30 kd_298 rfl)) z).trans ((UM25.2 z (by omega)).trans ((congrFun (congrArg o_a (Fr.at GM18 kd_298 rfl)) z).trans ((UM15.2 z (by omega)).trans (congrFun (congrArg o_a (Fr.at GM4 kd_298 rfl)) z))))))) rfl (Or.inl (by rw [show (2 * o_i (M 294) 29).toNat = x3.toInt.toNat from by omega, ((UM40.2 x3.toInt.toNat (by omega)).trans (congrFun (congrArg o_a (Fr.at GM30 kd_298 rfl)) x3.toInt.toNat)), fM25]; omega))⟩) ((congrArg (fun e => o_i e 2) (UM40.1 294 (by decide))).trans (TM30.trans ((congrArg (fun e => o_i e 2) (UM25.1 294 (by decide))).trans (TM18.1.trans ((congrArg (fun e => o_i e 2) (UM15.1 294 (by decide))).trans (congrArg (fun e => o_i e 2) (Fr.at GM4 kd_294 rfl)))))))
      · skip
        refine PW.cI q_257_87 (by decide) fun c44 hc44 => ?_
        refine PW.rZ q_257_88 rfl (by omega) (by omega) (by decide) (by decide) ?_
        exact hK c44 M30 QM30 FM30 (by omega) (by omega) (Or.inl (by omega)) (TM30.trans ((congrArg (fun e => o_i e 2) (UM25.1 294 (by decide))).trans (TM18.1.trans ((congrArg (fun e => o_i e 2) (UM15.1 294 (by decide))).trans (congrArg (fun e => o_i e 2) (Fr.at GM4 kd_294 rfl))))))
    · skip
      refine PW.aload_n q_257_44 rfl ?_
      refine PW.cI q_257_45 (by decide) fun c45 hc45 => ?_
      refine PW.cV (as := [_]) (rest := []) q_257_46 t_mv_257_170 kd_294 IM4.1 (by decide) rfl (by decide) rfl rfl (Nat.le_of_ble_eq_true rfl) (Nat.le_of_ble_eq_true rfl) (by decide) (by decide) ?_
      have SM4 : Iv (gSv M4) M4 := gSv.of IM4
      refine PW.up (by decide) (c_X12_bad (gSv M4) (StabSv M4) G _ M4 SM4 c45 fun x47 M46 IM46 GM46 hx47 kx47 PM46 TM46 => ?_)
      have FM46 := Fr.trans FM4 GM46 (rfl)
      have QM46 : Iv gTT M46 := ⟨IM46.1, IM46.2.1⟩
      have tr48 : o_i (M46 294) 29 = o_i (M4 294) 29 := IM46.2.2.1
      have tr49 : o_i (M46 294) 33 = o_i (M4 294) 33 := IM46.2.2.2.1
      have tr50 : o_i (M46 294) 35 = o_i (M4 294) 35 := IM46.2.2.2.2.1
      have tr51 : o_i (M46 294) 37 = o_i (M4 294) 37 := IM46.2.2.2.2.2.1
      have srM46 : o_a (M46 298) = o_a (M4 298) := IM46.2.2.2.2.2.2.1
      have skM46 : o_a (M46 305) = o_a (M4 305) := IM46.2.2.2.2.2.2.2
      refine PW.rZ q_257_49 rfl (by omega) (by omega) (by decide) (by decide) ?_
      exact hK x47 M46 QM46 FM46 (by omega) (by omega) (Or.inl (by omega)) (TM46.trans (congrArg (fun e => o_i e 2) (Fr.at GM4 kd_294 rfl)))
  · skip
    refine PW.aload_n q_257_19 rfl ?_
    refine PW.cI q_257_20 (by decide) fun c52 hc52 => ?_
    refine PW.aload_n q_257_21 rfl ?_
    refine PW.gR 296 q_257_22 (Or.inl t_ft_257_33) gF_40_6 kd_294 IM4.1 (by decide) rfl ?_
    refine PW.cI q_257_25 (by decide) fun c53 hc53 => ?_
    refine PW.aI q_257_26 gA_42 kd_296 IM4.1 (by decide) gB_42_0_0 (by decide) (by omega) (by omega) fun x54 fx54 hx54 kx54 => ?_
    refine PW.cV (as := [_, _]) (rest := []) q_257_27 t_mv_257_217 kd_294 IM4.1 (by decide) rfl (by decide) rfl rfl (Nat.le_of_ble_eq_true rfl) (Nat.le_of_ble_eq_true rfl) (by decide) (by decide) ?_
    have SM4 : Iv (gSv M4) M4 := gSv.of IM4
    refine PW.up (by decide) (c_X12_looksAt_s (gSv M4) (StabSv M4) G _ M4 SM4 c52 x54 (by omega) (by omega) (by omega) (by omega) fun x56 M55 IM55 GM55 hx56 kx56 PM55 TM55 => ?_)
    have FM55 := Fr.trans FM4 GM55 (rfl)
    have QM55 : Iv gTT M55 := ⟨IM55.1, IM55.2.1⟩
    have tr57 : o_i (M55 294) 29 = o_i (M4 294) 29 := IM55.2.2.1
    have tr58 : o_i (M55 294) 33 = o_i (M4 294) 33 := IM55.2.2.2.1
    have tr59 : o_i (M55 294) 35 = o_i (M4 294) 35 := IM55.2.2.2.2.1
    have tr60 : o_i (M55 294) 37 = o_i (M4 294) 37 := IM55.2.2.2.2.2.1
    have srM55 : o_a (M55 298) = o_a (M4 298) := IM55.2.2.2.2.2.2.1
    have skM55 : o_a (M55 305) = o_a (M4 305) := IM55.2.2.2.2.2.2.2
    refine PW.jz_ne q_257_30 rfl (fun h61 => ?_) (fun h61 => ?_)
    · skip
      refine PW.aload_n q_257_35 rfl ?_
      refine PW.gI q_257_36 (Or.inl t_ft_257_369) gF_40_29 kd_294 QM55.1 (by decide) fun x62 fx62 hx62 kx62 => ?_
      have trx62 := o_i_of fx62
      refine PW.cB q_257_39 (by decide) fun c63 hc63 => ?_
      refine PW.jc_ne q_257_41 rfl (fun h64 => ?_) (fun h64 => ?_)
      · skip
        refine PW.aload_n q_257_50 rfl ?_
        refine PW.gR 298 q_257_51 (Or.inl t_ft_257_40) gF_40_8 kd_294 QM55.1 (by decide) rfl ?_
        refine PW.iload_n q_257_54 rfl ?_
        refine PW.cI q_257_55 (by decide) fun c65 hc65 => ?_
        refine PW.addN q_257_56 (by omega) (by omega) fun x66 hx66 => ?_
        refine PW.aload_n q_257_57 rfl ?_
        refine PW.gI q_257_58 (Or.inl t_ft_257_180) gF_40_18 kd_294 QM55.1 (by decide) fun x67 fx67 hx67 kx67 => ?_
        have trx67 := o_i_of fx67
        clear hx67 kx67
        refine PW.wT q_257_61 gA_44 kd_298 QM55 (by decide) rfl gC_44_1_81 (by decide) (by omega) (by omega) (n_lo _) (n_hi _) fun M68 IM68 fM68 UM68 => ?_
        have FM68 := Fr.pu FM55 UM68.1 kd_298 (rfl : List.contains [40, 44] 44 = true)
        have tr69 : o_i (M68 294) 29 = o_i (M55 294) 29 := by rw [UM68.1 294 (g_ne kd_294 kd_298 (by decide))]
        have tr70 : o_i (M68 294) 18 = o_i (M55 294) 18 := by rw [UM68.1 294 (g_ne kd_294 kd_298 (by decide))]
        refine PW.aload_n q_257_62 rfl ?_
        refine PW.cV (as := []) (rest := []) q_257_63 t_mv_257_173 kd_294 IM68.1 (by decide) rfl (by decide) rfl rfl (Nat.le_of_ble_eq_true rfl) (Nat.le_of_ble_eq_true rfl) (by decide) (by decide) ?_
        have SM68 : Iv (gSv M68) M68 := gSv.of IM68
        refine PW.up (by decide) (c_X12_go (gSv M68) (StabSv M68) G _ M68 SM68  fun M71 IM71 GM71 PM71 TM71 => ?_)
        have FM71 := Fr.trans FM68 GM71 (rfl)
        obtain ⟨PaM71, PdM71, PbM71, PeM71⟩ := PM71
        have QM71 : Iv gTT M71 := ⟨IM71.1, IM71.2.1⟩
        have tr72 : o_i (M71 294) 29 = o_i (M68 294) 29 := IM71.2.2.1
        have tr73 : o_i (M71 294) 33 = o_i (M68 294) 33 := IM71.2.2.2.1
        have tr74 : o_i (M71 294) 35 = o_i (M68 294) 35 := IM71.2.2.2.2.1
        have tr75 : o_i (M71 294) 37 = o_i (M68 294) 37 := IM71.2.2.2.2.2.1
        have srM71 : o_a (M71 298) = o_a (M68 298) := IM71.2.2.2.2.2.2.1
        have skM71 : o_a (M71 305) = o_a (M68 305) := IM71.2.2.2.2.2.2.2
        refine PW.iload_n q_257_66 rfl ?_
        refine PW.jz_eq q_257_67 rfl (fun h76 => ?_) (fun h76 => False.elim (by omega))
        refine PW.aload_n q_257_103 rfl ?_
        refine PW.ldc2 q_257_104 t_lt_257_100 ?_
        refine PW.cV (as := [_]) (rest := []) q_257_107 t_mv_257_201 kd_294 QM71.1 (by decide) rfl (by decide) rfl rfl (Nat.le_of_ble_eq_true rfl) (Nat.le_of_ble_eq_true rfl) (by decide) (by decide) ?_
        refine PW.up (by decide) (c_X12_isWord (gTT) (Stab0) G _ M71 QM71 _ fun x78 M77 IM77 GM77 hx78 kx78 TM77 => ?_)
        have FM77 := Fr.trans FM71 GM77 (rfl)
        have tr79 : o_i (M77 294) 29 = o_i (M71 294) 29 := by rw [Fr.at GM77 kd_294 (by decide)]
        have tr80 : o_i (M77 294) 18 = o_i (M71 294) 18 := by rw [Fr.at GM77 kd_294 (by decide)]
        refine PW.jz_eq q_257_110 rfl (fun h81 => ?_) (fun h81 => ?_)
        · skip
          refine PW.aload_n q_257_117 rfl ?_
          refine PW.ldc2 q_257_118 t_lt_257_102 ?_
          refine PW.cV (as := [_]) (rest := []) q_257_121 t_mv_257_201 kd_294 IM77.1 (by decide) rfl (by decide) rfl rfl (Nat.le_of_ble_eq_true rfl) (Nat.le_of_ble_eq_true rfl) (by decide) (by decide) ?_
          refine PW.up (by decide) (c_X12_isWord (gTT) (Stab0) G _ M77 IM77 _ fun x83 M82 IM82 GM82 hx83 kx83 TM82 => ?_)
          have FM82 := Fr.trans FM77 GM82 (rfl)
          have tr84 : o_i (M82 294) 29 = o_i (M77 294) 29 := by rw [Fr.at GM82 kd_294 (by decide)]
          have tr85 : o_i (M82 294) 18 = o_i (M77 294) 18 := by rw [Fr.at GM82 kd_294 (by decide)]
          refine PW.jz_eq q_257_124 rfl (fun h86 => ?_) (fun h86 => ?_)
          · skip
            refine PW.aload_n q_257_131 rfl ?_
            refine PW.ldc2 q_257_132 t_lt_257_108 ?_
            refine PW.cV (as := [_]) (rest := []) q_257_135 t_mv_257_201 kd_294 IM82.1 (by decide) rfl (by decide) rfl rfl (Nat.le_of_ble_eq_true rfl) (Nat.le_of_ble_eq_true rfl) (by decide) (by decide) ?_
            refine PW.up (by decide) (c_X12_isWord (gTT) (Stab0) G _ M82 IM82 _ fun x88 M87 IM87 GM87 hx88 kx88 TM87 => ?_)
            have FM87 := Fr.trans FM82 GM87 (rfl)
            have tr89 : o_i (M87 294) 29 = o_i (M82 294) 29 := by rw [Fr.at GM87 kd_294 (by decide)]
            have tr90 : o_i (M87 294) 18 = o_i (M82 294) 18 := by rw [Fr.at GM87 kd_294 (by decide)]
            refine PW.jz_eq q_257_138 rfl (fun h91 => ?_) (fun h91 => ?_)
            · skip
              refine PW.aload_n q_257_145 rfl ?_
              refine PW.ldc2 q_257_146 t_lt_257_104 ?_
              refine PW.cV (as := [_]) (rest := []) q_257_149 t_mv_257_201 kd_294 IM87.1 (by decide) rfl (by decide) rfl rfl (Nat.le_of_ble_eq_true rfl) (Nat.le_of_ble_eq_true rfl) (by decide) (by decide) ?_
              refine PW.up (by decide) (c_X12_isWord (gTT) (Stab0) G _ M87 IM87 _ fun x93 M92 IM92 GM92 hx93 kx93 TM92 => ?_)
              have FM92 := Fr.trans FM87 GM92 (rfl)
              have tr94 : o_i (M92 294) 29 = o_i (M87 294) 29 := by rw [Fr.at GM92 kd_294 (by decide)]
              have tr95 : o_i (M92 294) 18 = o_i (M87 294) 18 := by rw [Fr.at GM92 kd_294 (by decide)]
              refine PW.jz_eq q_257_152 rfl (fun h96 => ?_) (fun h96 => ?_)
              · skip
                refine PW.aload_n q_257_159 rfl ?_
                refine PW.ldc2 q_257_160 t_lt_257_106 ?_
                refine PW.cV (as := [_]) (rest := []) q_257_163 t_mv_257_201 kd_294 IM92.1 (by decide) rfl (by decide) rfl rfl (Nat.le_of_ble_eq_true rfl) (Nat.le_of_ble_eq_true rfl) (by decide) (by decide) ?_
                refine PW.up (by decide) (c_X12_isWord (gTT) (Stab0) G _ M92 IM92 _ fun x98 M97 IM97 GM97 hx98 kx98 TM97 => ?_)
                have FM97 := Fr.trans FM92 GM97 (rfl)
                have tr99 : o_i (M97 294) 29 = o_i (M92 294) 29 := by rw [Fr.at GM97 kd_294 (by decide)]
                have tr100 : o_i (M97 294) 18 = o_i (M92 294) 18 := by rw [Fr.at GM97 kd_294 (by decide)]
                refine PW.jz_eq q_257_166 rfl (fun h101 => ?_) (fun h101 => ?_)
                · skip
                  refine PW.cI q_257_173 (by decide) fun c102 hc102 => ?_
                  refine PW.istore_n q_257_174 (by decide) ?_
                  refine PW.iload_n q_257_175 rfl ?_
                  refine PW.jz_ge q_257_176 rfl (fun h103 => False.elim (by omega)) (fun h103 => ?_)
                  refine PW.aload_n q_257_179 rfl ?_
                  refine PW.cI q_257_180 (by decide) fun c104 hc104 => ?_
                  refine PW.cV (as := [_]) (rest := []) q_257_181 t_mv_257_170 kd_294 IM97.1 (by decide) rfl (by decide) rfl rfl (Nat.le_of_ble_eq_true rfl) (Nat.le_of_ble_eq_true rfl) (by decide) (by decide) ?_
                  have SM97 : Iv (gSv M97) M97 := gSv.of IM97
                  refine PW.up (by decide) (c_X12_bad (gSv M97) (StabSv M97) G _ M97 SM97 c104 fun x106 M105 IM105 GM105 hx106 kx106 PM105 TM105 => ?_)
                  have FM105 := Fr.trans FM97 GM105 (rfl)
                  have QM105 : Iv gTT M105 := ⟨IM105.1, IM105.2.1⟩
                  have tr107 : o_i (M105 294) 29 = o_i (M97 294) 29 := IM105.2.2.1
                  have tr108 : o_i (M105 294) 33 = o_i (M97 294) 33 := IM105.2.2.2.1
                  have tr109 : o_i (M105 294) 35 = o_i (M97 294) 35 := IM105.2.2.2.2.1
                  have tr110 : o_i (M105 294) 37 = o_i (M97 294) 37 := IM105.2.2.2.2.2.1
                  have srM105 : o_a (M105 298) = o_a (M97 298) := IM105.2.2.2.2.2.2.1
                  have skM105 : o_a (M105 305) = o_a (M97 305) := IM105.2.2.2.2.2.2.2
                  refine PW.rZ q_257_184 rfl (by omega) (by omega) (by decide) (by decide) ?_
                  exact hK x106 M105 QM105 FM105 (by omega) (by omega) (Or.inl (by omega)) (TM105.trans ((congrArg (fun e => o_i e 2) (Fr.at GM97 kd_294 rfl)).trans ((congrArg (fun e => o_i e 2) (Fr.at GM92 kd_294 rfl)).trans ((congrArg (fun e => o_i e 2) (Fr.at GM87 kd_294 rfl)).trans ((congrArg (fun e => o_i e 2) (Fr.at GM82 kd_294 rfl)).trans ((congrArg (fun e => o_i e 2) (Fr.at GM77 kd_294 rfl)).trans (TM71.1.trans ((congrArg (fun e => o_i e 2) (UM68.1 294 (by decide))).trans (TM55.trans (congrArg (fun e => o_i e 2) (Fr.at GM4 kd_294 rfl)))))))))))
                · skip
                  refine PW.cI q_257_169 (by decide) fun c111 hc111 => ?_
                  refine PW.goto q_257_170 rfl ?_
                  refine PW.istore_n q_257_174 (by decide) ?_
                  refine PW.iload_n q_257_175 rfl ?_
                  refine PW.jz_ge q_257_176 rfl (fun h112 => ?_) (fun h112 => False.elim (by omega))
                  refine PW.aload_n q_257_185 rfl ?_
                  refine PW.gR 298 q_257_186 (Or.inl t_ft_257_40) gF_40_8 kd_294 IM97.1 (by decide) rfl ?_
                  refine PW.iload_n q_257_189 rfl ?_
                  refine PW.iload_n q_257_190 rfl ?_
                  refine PW.wT q_257_191 gA_44 kd_298 IM97 (by decide) rfl gC_44_0_80 (by decide) (by omega) (by omega) (n_lo _) (n_hi _) fun M113 IM113 fM113 UM113 => ?_
                  have FM113 := Fr.pu FM97 UM113.1 kd_298 (rfl : List.contains [40, 44] 44 = true)
                  have tr114 : o_i (M113 294) 29 = o_i (M97 294) 29 := by rw [UM113.1 294 (g_ne kd_294 kd_298 (by decide))]
                  have tr115 : o_i (M113 294) 18 = o_i (M97 294) 18 := by rw [UM113.1 294 (g_ne kd_294 kd_298 (by decide))]
                  refine PW.aload_n q_257_192 rfl ?_
                  refine PW.cV (as := []) (rest := []) q_257_193 t_mv_257_173 kd_294 IM113.1 (by decide) rfl (by decide) rfl rfl (Nat.le_of_ble_eq_true rfl) (Nat.le_of_ble_eq_true rfl) (by decide) (by decide) ?_
                  have SM113 : Iv (gSv M113) M113 := gSv.of IM113
                  refine PW.up (by decide) (c_X12_go (gSv M113) (StabSv M113) G _ M113 SM113  fun M116 IM116 GM116 PM116 TM116 => ?_)
                  have FM116 := Fr.trans FM113 GM116 (rfl)
                  obtain ⟨PaM116, PdM116, PbM116, PeM116⟩ := PM116
                  clear PdM71
                  have QM116 : Iv gTT M116 := ⟨IM116.1, IM116.2.1⟩
                  have tr117 : o_i (M116 294) 29 = o_i (M113 294) 29 := IM116.2.2.1
                  have tr118 : o_i (M116 294) 33 = o_i (M113 294) 33 := IM116.2.2.2.1
                  have tr119 : o_i (M116 294) 35 = o_i (M113 294) 35 := IM116.2.2.2.2.1
                  have tr120 : o_i (M116 294) 37 = o_i (M113 294) 37 := IM116.2.2.2.2.2.1
                  have srM116 : o_a (M116 298) = o_a (M113 298) := IM116.2.2.2.2.2.2.1
                  have skM116 : o_a (M116 305) = o_a (M113 305) := IM116.2.2.2.2.2.2.2
                  refine PW.cI q_257_196 (by decide) fun c121 hc121 => ?_
                  refine PW.rZ q_257_197 rfl (by omega) (by omega) (by decide) (by decide) ?_
                  exact hK c121 M116 QM116 FM116 (by omega) (by omega) (Or.inr ⟨by omega, by omega, gLl.add hp_0 (by omega) (fun z hz => ((congrFun (congrArg o_a (Fr.at GM116 kd_298 rfl)) z).trans ((UM113.2 z (by omega)).trans ((congrFun (congrArg o_a (Fr.at GM97 kd_298 rfl)) z).trans ((congrFun (congrArg o_a (Fr.at GM92 kd_298 rfl)) z).trans ((congrFun (congrArg o_a (Fr.at GM87 kd_298 rfl)) z).trans ((congrFun (congrArg o_a (Fr.at GM82 kd_298 rfl)) z).trans ((congrFun (congrArg o_a (Fr.at GM77 kd_298 rfl)) z).trans ((congrFun (congrArg o_a (Fr.at GM71 kd_298 rfl)) z).trans ((UM68.2 z (by omega)).trans ((congrFun (congrArg o_a (Fr.at GM55 kd_298 rfl)) z).trans (congrFun (congrArg o_a (Fr.at GM4 kd_298 rfl)) z)))))))))))) rfl (Or.inr (by rw [show (2 * o_i (M 294) 29 + 1).toNat = x66.toInt.toNat from by omega, ((congrFun (congrArg o_a (Fr.at GM116 kd_298 rfl)) x66.toInt.toNat).trans ((UM113.2 x66.toInt.toNat (by omega)).trans ((congrFun (congrArg o_a (Fr.at GM97 kd_298 rfl)) x66.toInt.toNat).trans ((congrFun (congrArg o_a (Fr.at GM92 kd_298 rfl)) x66.toInt.toNat).trans ((congrFun (congrArg o_a (Fr.at GM87 kd_298 rfl)) x66.toInt.toNat).trans ((congrFun (congrArg o_a (Fr.at GM82 kd_298 rfl)) x66.toInt.toNat).trans ((congrFun (congrArg o_a (Fr.at GM77 kd_298 rfl)) x66.toInt.toNat).trans (congrFun (congrArg o_a (Fr.at GM71 kd_298 rfl)) x66.toInt.toNat)))))))), fM68]; exact ⟨by omega, by omega⟩))⟩) (TM116.1.trans ((congrArg (fun e => o_i e 2) (UM113.1 294 (by decide))).trans ((congrArg (fun e => o_i e 2) (Fr.at GM97 kd_294 rfl)).trans ((congrArg (fun e => o_i e 2) (Fr.at GM92 kd_294 rfl)).trans ((congrArg (fun e => o_i e 2) (Fr.at GM87 kd_294 rfl)).trans ((congrArg (fun e => o_i e 2) (Fr.at GM82 kd_294 rfl)).trans ((congrArg (fun e => o_i e 2) (Fr.at GM77 kd_294 rfl)).trans (TM71.1.trans ((congrArg (fun e => o_i e 2) (UM68.1 294 (by decide))).trans (TM55.trans (congrArg (fun e => o_i e 2) (Fr.at GM4 kd_294 rfl))))))))))))
              · skip
                refine PW.cI q_257_155 (by decide) fun c122 hc122 => ?_
                refine PW.goto q_257_156 rfl ?_
                refine PW.istore_n q_257_174 (by decide) ?_
                refine PW.iload_n q_257_175 rfl ?_
                refine PW.jz_ge q_257_176 rfl (fun h123 => ?_) (fun h123 => False.elim (by omega))
                refine PW.aload_n q_257_185 rfl ?_
                refine PW.gR 298 q_257_186 (Or.inl t_ft_257_40) gF_40_8 kd_294 IM92.1 (by decide) rfl ?_
                refine PW.iload_n q_257_189 rfl ?_
                refine PW.iload_n q_257_190 rfl ?_
                refine PW.wT q_257_191 gA_44 kd_298 IM92 (by decide) rfl gC_44_0_80 (by decide) (by omega) (by omega) (n_lo _) (n_hi _) fun M124 IM124 fM124 UM124 => ?_
                have FM124 := Fr.pu FM92 UM124.1 kd_298 (rfl : List.contains [40, 44] 44 = true)
                have tr125 : o_i (M124 294) 29 = o_i (M92 294) 29 := by rw [UM124.1 294 (g_ne kd_294 kd_298 (by decide))]
                have tr126 : o_i (M124 294) 18 = o_i (M92 294) 18 := by rw [UM124.1 294 (g_ne kd_294 kd_298 (by decide))]
                refine PW.aload_n q_257_192 rfl ?_
                refine PW.cV (as := []) (rest := []) q_257_193 t_mv_257_173 kd_294 IM124.1 (by decide) rfl (by decide) rfl rfl (Nat.le_of_ble_eq_true rfl) (Nat.le_of_ble_eq_true rfl) (by decide) (by decide) ?_
                have SM124 : Iv (gSv M124) M124 := gSv.of IM124
                refine PW.up (by decide) (c_X12_go (gSv M124) (StabSv M124) G _ M124 SM124  fun M127 IM127 GM127 PM127 TM127 => ?_)
                have FM127 := Fr.trans FM124 GM127 (rfl)
                obtain ⟨PaM127, PdM127, PbM127, PeM127⟩ := PM127
                clear PdM71
                have QM127 : Iv gTT M127 := ⟨IM127.1, IM127.2.1⟩
                have tr128 : o_i (M127 294) 29 = o_i (M124 294) 29 := IM127.2.2.1
                have tr129 : o_i (M127 294) 33 = o_i (M124 294) 33 := IM127.2.2.2.1
                have tr130 : o_i (M127 294) 35 = o_i (M124 294) 35 := IM127.2.2.2.2.1
                have tr131 : o_i (M127 294) 37 = o_i (M124 294) 37 := IM127.2.2.2.2.2.1
                have srM127 : o_a (M127 298) = o_a (M124 298) := IM127.2.2.2.2.2.2.1
                have skM127 : o_a (M127 305) = o_a (M124 305) := IM127.2.2.2.2.2.2.2
                refine PW.cI q_257_196 (by decide) fun c132 hc132 => ?_
                refine PW.rZ q_257_197 rfl (by omega) (by omega) (by decide) (by decide) ?_
                exact hK c132 M127 QM127 FM127 (by omega) (by omega) (Or.inr ⟨by omega, by omega, gLl.add hp_0 (by omega) (fun z hz => ((congrFun (congrArg o_a (Fr.at GM127 kd_298 rfl)) z).trans ((UM124.2 z (by omega)).trans ((congrFun (congrArg o_a (Fr.at GM92 kd_298 rfl)) z).trans ((congrFun (congrArg o_a (Fr.at GM87 kd_298 rfl)) z).trans ((congrFun (congrArg o_a (Fr.at GM82 kd_298 rfl)) z).trans ((congrFun (congrArg o_a (Fr.at GM77 kd_298 rfl)) z).trans ((congrFun (congrArg o_a (Fr.at GM71 kd_298 rfl)) z).trans ((UM68.2 z (by omega)).trans ((congrFun (congrArg o_a (Fr.at GM55 kd_298 rfl)) z).trans (congrFun (congrArg o_a (Fr.at GM4 kd_298 rfl)) z))))))))))) rfl (Or.inr (by rw [show (2 * o_i (M 294) 29 + 1).toNat = x66.toInt.toNat from by omega, ((congrFun (congrArg o_a (Fr.at GM127 kd_298 rfl)) x66.toInt.toNat).trans ((UM124.2 x66.toInt.toNat (by omega)).trans ((congrFun (congrArg o_a (Fr.at GM92 kd_298 rfl)) x66.toInt.toNat).trans ((congrFun (congrArg o_a (Fr.at GM87 kd_298 rfl)) x66.toInt.toNat).trans ((congrFun (congrArg o_a (Fr.at GM82 kd_298 rfl)) x66.toInt.toNat).trans ((congrFun (congrArg o_a (Fr.at GM77 kd_298 rfl)) x66.toInt.toNat).trans (congrFun (congrArg o_a (Fr.at GM71 kd_298 rfl)) x66.toInt.toNat))))))), fM68]; exact ⟨by omega, by omega⟩))⟩) (TM127.1.trans ((congrArg (fun e => o_i e 2) (UM124.1 294 (by decide))).trans ((congrArg (fun e => o_i e 2) (Fr.at GM92 kd_294 rfl)).trans ((congrArg (fun e => o_i e 2) (Fr.at GM87 kd_294 rfl)).trans ((congrArg (fun e => o_i e 2) (Fr.at GM82 kd_294 rfl)).trans ((congrArg (fun e => o_i e 2) (Fr.at GM77 kd_294 rfl)).trans (TM71.1.trans ((congrArg (fun e => o_i e 2) (UM68.1 294 (by decide))).trans (TM55.trans (congrArg (fun e => o_i e 2) (Fr.at GM4 kd_294 rfl)))))))))))
            · skip
              refine PW.cI q_257_141 (by decide) fun c133 hc133 => ?_
              refine PW.goto q_257_142 rfl ?_
              refine PW.istore_n q_257_174 (by decide) ?_
              refine PW.iload_n q_257_175 rfl ?_
              refine PW.jz_ge q_257_176 rfl (fun h134 => ?_) (fun h134 => False.elim (by omega))
              refine PW.aload_n q_257_185 rfl ?_
              refine PW.gR 298 q_257_186 (Or.inl t_ft_257_40) gF_40_8 kd_294 IM87.1 (by decide) rfl ?_
              refine PW.iload_n q_257_189 rfl ?_
              refine PW.iload_n q_257_190 rfl ?_
              refine PW.wT q_257_191 gA_44 kd_298 IM87 (by decide) rfl gC_44_0_80 (by decide) (by omega) (by omega) (n_lo _) (n_hi _) fun M135 IM135 fM135 UM135 => ?_
              have FM135 := Fr.pu FM87 UM135.1 kd_298 (rfl : List.contains [40, 44] 44 = true)
              have tr136 : o_i (M135 294) 29 = o_i (M87 294) 29 := by rw [UM135.1 294 (g_ne kd_294 kd_298 (by decide))]
              have tr137 : o_i (M135 294) 18 = o_i (M87 294) 18 := by rw [UM135.1 294 (g_ne kd_294 kd_298 (by decide))]
              refine PW.aload_n q_257_192 rfl ?_
              refine PW.cV (as := []) (rest := []) q_257_193 t_mv_257_173 kd_294 IM135.1 (by decide) rfl (by decide) rfl rfl (Nat.le_of_ble_eq_true rfl) (Nat.le_of_ble_eq_true rfl) (by decide) (by decide) ?_
              have SM135 : Iv (gSv M135) M135 := gSv.of IM135
              refine PW.up (by decide) (c_X12_go (gSv M135) (StabSv M135) G _ M135 SM135  fun M138 IM138 GM138 PM138 TM138 => ?_)
              have FM138 := Fr.trans FM135 GM138 (rfl)
              obtain ⟨PaM138, PdM138, PbM138, PeM138⟩ := PM138
              clear PdM71
              have QM138 : Iv gTT M138 := ⟨IM138.1, IM138.2.1⟩
              have tr139 : o_i (M138 294) 29 = o_i (M135 294) 29 := IM138.2.2.1
              have tr140 : o_i (M138 294) 33 = o_i (M135 294) 33 := IM138.2.2.2.1
              have tr141 : o_i (M138 294) 35 = o_i (M135 294) 35 := IM138.2.2.2.2.1
              have tr142 : o_i (M138 294) 37 = o_i (M135 294) 37 := IM138.2.2.2.2.2.1
              have srM138 : o_a (M138 298) = o_a (M135 298) := IM138.2.2.2.2.2.2.1
              have skM138 : o_a (M138 305) = o_a (M135 305) := IM138.2.2.2.2.2.2.2
              refine PW.cI q_257_196 (by decide) fun c143 hc143 => ?_
              refine PW.rZ q_257_197 rfl (by omega) (by omega) (by decide) (by decide) ?_
              exact hK c143 M138 QM138 FM138 (by omega) (by omega) (Or.inr ⟨by omega, by omega, gLl.add hp_0 (by omega) (fun z hz => ((congrFun (congrArg o_a (Fr.at GM138 kd_298 rfl)) z).trans ((UM135.2 z (by omega)).trans ((congrFun (congrArg o_a (Fr.at GM87 kd_298 rfl)) z).trans ((congrFun (congrArg o_a (Fr.at GM82 kd_298 rfl)) z).trans ((congrFun (congrArg o_a (Fr.at GM77 kd_298 rfl)) z).trans ((congrFun (congrArg o_a (Fr.at GM71 kd_298 rfl)) z).trans ((UM68.2 z (by omega)).trans ((congrFun (congrArg o_a (Fr.at GM55 kd_298 rfl)) z).trans (congrFun (congrArg o_a (Fr.at GM4 kd_298 rfl)) z)))))))))) rfl (Or.inr (by rw [show (2 * o_i (M 294) 29 + 1).toNat = x66.toInt.toNat from by omega, ((congrFun (congrArg o_a (Fr.at GM138 kd_298 rfl)) x66.toInt.toNat).trans ((UM135.2 x66.toInt.toNat (by omega)).trans ((congrFun (congrArg o_a (Fr.at GM87 kd_298 rfl)) x66.toInt.toNat).trans ((congrFun (congrArg o_a (Fr.at GM82 kd_298 rfl)) x66.toInt.toNat).trans ((congrFun (congrArg o_a (Fr.at GM77 kd_298 rfl)) x66.toInt.toNat).trans (congrFun (congrArg o_a (Fr.at GM71 kd_298 rfl)) x66.toInt.toNat)))))), fM68]; exact ⟨by omega, by omega⟩))⟩) (TM138.1.trans ((congrArg (fun e => o_i e 2) (UM135.1 294 (by decide))).trans ((congrArg (fun e => o_i e 2) (Fr.at GM87 kd_294 rfl)).trans ((congrArg (fun e => o_i e 2) (Fr.at GM82 kd_294 rfl)).trans ((congrArg (fun e => o_i e 2) (Fr.at GM77 kd_294 rfl)).trans (TM71.1.trans ((congrArg (fun e => o_i e 2) (UM68.1 294 (by decide))).trans (TM55.trans (congrArg (fun e => o_i e 2) (Fr.at GM4 kd_294 rfl))))))))))
          · skip
            refine PW.cI q_257_127 (by decide) fun c144 hc144 => ?_
            refine PW.goto q_257_128 rfl ?_
            refine PW.istore_n q_257_174 (by decide) ?_
            refine PW.iload_n q_257_175 rfl ?_
            refine PW.jz_ge q_257_176 rfl (fun h145 => ?_) (fun h145 => False.elim (by omega))
            refine PW.aload_n q_257_185 rfl ?_
            refine PW.gR 298 q_257_186 (Or.inl t_ft_257_40) gF_40_8 kd_294 IM82.1 (by decide) rfl ?_
            refine PW.iload_n q_257_189 rfl ?_
            refine PW.iload_n q_257_190 rfl ?_
            refine PW.wT q_257_191 gA_44 kd_298 IM82 (by decide) rfl gC_44_0_80 (by decide) (by omega) (by omega) (n_lo _) (n_hi _) fun M146 IM146 fM146 UM146 => ?_
            have FM146 := Fr.pu FM82 UM146.1 kd_298 (rfl : List.contains [40, 44] 44 = true)
            have tr147 : o_i (M146 294) 29 = o_i (M82 294) 29 := by rw [UM146.1 294 (g_ne kd_294 kd_298 (by decide))]
            have tr148 : o_i (M146 294) 18 = o_i (M82 294) 18 := by rw [UM146.1 294 (g_ne kd_294 kd_298 (by decide))]
            refine PW.aload_n q_257_192 rfl ?_
            refine PW.cV (as := []) (rest := []) q_257_193 t_mv_257_173 kd_294 IM146.1 (by decide) rfl (by decide) rfl rfl (Nat.le_of_ble_eq_true rfl) (Nat.le_of_ble_eq_true rfl) (by decide) (by decide) ?_
            have SM146 : Iv (gSv M146) M146 := gSv.of IM146
            refine PW.up (by decide) (c_X12_go (gSv M146) (StabSv M146) G _ M146 SM146  fun M149 IM149 GM149 PM149 TM149 => ?_)
            have FM149 := Fr.trans FM146 GM149 (rfl)
            obtain ⟨PaM149, PdM149, PbM149, PeM149⟩ := PM149
            clear PdM71
            have QM149 : Iv gTT M149 := ⟨IM149.1, IM149.2.1⟩
            have tr150 : o_i (M149 294) 29 = o_i (M146 294) 29 := IM149.2.2.1
            have tr151 : o_i (M149 294) 33 = o_i (M146 294) 33 := IM149.2.2.2.1
            have tr152 : o_i (M149 294) 35 = o_i (M146 294) 35 := IM149.2.2.2.2.1
            have tr153 : o_i (M149 294) 37 = o_i (M146 294) 37 := IM149.2.2.2.2.2.1
            have srM149 : o_a (M149 298) = o_a (M146 298) := IM149.2.2.2.2.2.2.1
            have skM149 : o_a (M149 305) = o_a (M146 305) := IM149.2.2.2.2.2.2.2
            refine PW.cI q_257_196 (by decide) fun c154 hc154 => ?_
            refine PW.rZ q_257_197 rfl (by omega) (by omega) (by decide) (by decide) ?_
            exact hK c154 M149 QM149 FM149 (by omega) (by omega) (Or.inr ⟨by omega, by omega, gLl.add hp_0 (by omega) (fun z hz => ((congrFun (congrArg o_a (Fr.at GM149 kd_298 rfl)) z).trans ((UM146.2 z (by omega)).trans ((congrFun (congrArg o_a (Fr.at GM82 kd_298 rfl)) z).trans ((congrFun (congrArg o_a (Fr.at GM77 kd_298 rfl)) z).trans ((congrFun (congrArg o_a (Fr.at GM71 kd_298 rfl)) z).trans ((UM68.2 z (by omega)).trans ((congrFun (congrArg o_a (Fr.at GM55 kd_298 rfl)) z).trans (congrFun (congrArg o_a (Fr.at GM4 kd_298 rfl)) z))))))))) rfl (Or.inr (by rw [show (2 * o_i (M 294) 29 + 1).toNat = x66.toInt.toNat from by omega, ((congrFun (congrArg o_a (Fr.at GM149 kd_298 rfl)) x66.toInt.toNat).trans ((UM146.2 x66.toInt.toNat (by omega)).trans ((congrFun (congrArg o_a (Fr.at GM82 kd_298 rfl)) x66.toInt.toNat).trans ((congrFun (congrArg o_a (Fr.at GM77 kd_298 rfl)) x66.toInt.toNat).trans (congrFun (congrArg o_a (Fr.at GM71 kd_298 rfl)) x66.toInt.toNat))))), fM68]; exact ⟨by omega, by omega⟩))⟩) (TM149.1.trans ((congrArg (fun e => o_i e 2) (UM146.1 294 (by decide))).trans ((congrArg (fun e => o_i e 2) (Fr.at GM82 kd_294 rfl)).trans ((congrArg (fun e => o_i e 2) (Fr.at GM77 kd_294 rfl)).trans (TM71.1.trans ((congrArg (fun e => o_i e 2) (UM68.1 294 (by decide))).trans (TM55.trans (congrArg (fun e => o_i e 2) (Fr.at GM4 kd_294 rfl)))))))))
        · skip
          refine PW.cI q_257_113 (by decide) fun c155 hc155 => ?_
          refine PW.goto q_257_114 rfl ?_
          refine PW.istore_n q_257_174 (by decide) ?_
          refine PW.iload_n q_257_175 rfl ?_
          refine PW.jz_ge q_257_176 rfl (fun h156 => ?_) (fun h156 => False.elim (by omega))
          refine PW.aload_n q_257_185 rfl ?_
          refine PW.gR 298 q_257_186 (Or.inl t_ft_257_40) gF_40_8 kd_294 IM77.1 (by decide) rfl ?_
          refine PW.iload_n q_257_189 rfl ?_
          refine PW.iload_n q_257_190 rfl ?_
          refine PW.wT q_257_191 gA_44 kd_298 IM77 (by decide) rfl gC_44_0_80 (by decide) (by omega) (by omega) (n_lo _) (n_hi _) fun M157 IM157 fM157 UM157 => ?_
          have FM157 := Fr.pu FM77 UM157.1 kd_298 (rfl : List.contains [40, 44] 44 = true)
          have tr158 : o_i (M157 294) 29 = o_i (M77 294) 29 := by rw [UM157.1 294 (g_ne kd_294 kd_298 (by decide))]
          have tr159 : o_i (M157 294) 18 = o_i (M77 294) 18 := by rw [UM157.1 294 (g_ne kd_294 kd_298 (by decide))]
          refine PW.aload_n q_257_192 rfl ?_
          refine PW.cV (as := []) (rest := []) q_257_193 t_mv_257_173 kd_294 IM157.1 (by decide) rfl (by decide) rfl rfl (Nat.le_of_ble_eq_true rfl) (Nat.le_of_ble_eq_true rfl) (by decide) (by decide) ?_
          have SM157 : Iv (gSv M157) M157 := gSv.of IM157
          refine PW.up (by decide) (c_X12_go (gSv M157) (StabSv M157) G _ M157 SM157  fun M160 IM160 GM160 PM160 TM160 => ?_)
          have FM160 := Fr.trans FM157 GM160 (rfl)
          obtain ⟨PaM160, PdM160, PbM160, PeM160⟩ := PM160
          clear PdM71
          have QM160 : Iv gTT M160 := ⟨IM160.1, IM160.2.1⟩
          have tr161 : o_i (M160 294) 29 = o_i (M157 294) 29 := IM160.2.2.1
          have tr162 : o_i (M160 294) 33 = o_i (M157 294) 33 := IM160.2.2.2.1
          have tr163 : o_i (M160 294) 35 = o_i (M157 294) 35 := IM160.2.2.2.2.1
          have tr164 : o_i (M160 294) 37 = o_i (M157 294) 37 := IM160.2.2.2.2.2.1
          have srM160 : o_a (M160 298) = o_a (M157 298) := IM160.2.2.2.2.2.2.1
          have skM160 : o_a (M160 305) = o_a (M157 305) := IM160.2.2.2.2.2.2.2
          refine PW.cI q_257_196 (by decide) fun c165 hc165 => ?_
          refine PW.rZ q_257_197 rfl (by omega) (by omega) (by decide) (by decide) ?_
          exact hK c165 M160 QM160 FM160 (by omega) (by omega) (Or.inr ⟨by omega, by omega, gLl.add hp_0 (by omega) (fun z hz => ((congrFun (congrArg o_a (Fr.at GM160 kd_298 rfl)) z).trans ((UM157.2 z (by omega)).trans ((congrFun (congrArg o_a (Fr.at GM77 kd_298 rfl)) z).trans ((congrFun (congrArg o_a (Fr.at GM71 kd_298 rfl)) z).trans ((UM68.2 z (by omega)).trans ((congrFun (congrArg o_a (Fr.at GM55 kd_298 rfl)) z).trans (congrFun (congrArg o_a (Fr.at GM4 kd_298 rfl)) z)))))))) rfl (Or.inr (by rw [show (2 * o_i (M 294) 29 + 1).toNat = x66.toInt.toNat from by omega, ((congrFun (congrArg o_a (Fr.at GM160 kd_298 rfl)) x66.toInt.toNat).trans ((UM157.2 x66.toInt.toNat (by omega)).trans ((congrFun (congrArg o_a (Fr.at GM77 kd_298 rfl)) x66.toInt.toNat).trans (congrFun (congrArg o_a (Fr.at GM71 kd_298 rfl)) x66.toInt.toNat)))), fM68]; exact ⟨by omega, by omega⟩))⟩) (TM160.1.trans ((congrArg (fun e => o_i e 2) (UM157.1 294 (by decide))).trans ((congrArg (fun e => o_i e 2) (Fr.at GM77 kd_294 rfl)).trans (TM71.1.trans ((congrArg (fun e => o_i e 2) (UM68.1 294 (by decide))).trans (TM55.trans (congrArg (fun e => o_i e 2) (Fr.at GM4 kd_294 rfl))))))))
      · skip
        refine PW.aload_n q_257_44 rfl ?_
        refine PW.cI q_257_45 (by decide) fun c166 hc166 => ?_
        refine PW.cV (as := [_]) (rest := []) q_257_46 t_mv_257_170 kd_294 QM55.1 (by decide) rfl (by decide) rfl rfl (Nat.le_of_ble_eq_true rfl) (Nat.le_of_ble_eq_true rfl) (by decide) (by decide) ?_
        have SM55 : Iv (gSv M55) M55 := gSv.of QM55
        refine PW.up (by decide) (c_X12_bad (gSv M55) (StabSv M55) G _ M55 SM55 c166 fun x168 M167 IM167 GM167 hx168 kx168 PM167 TM167 => ?_)
        have FM167 := Fr.trans FM55 GM167 (rfl)
        have QM167 : Iv gTT M167 := ⟨IM167.1, IM167.2.1⟩
        have tr169 : o_i (M167 294) 29 = o_i (M55 294) 29 := IM167.2.2.1
        have tr170 : o_i (M167 294) 33 = o_i (M55 294) 33 := IM167.2.2.2.1
        have tr171 : o_i (M167 294) 35 = o_i (M55 294) 35 := IM167.2.2.2.2.1
        have tr172 : o_i (M167 294) 37 = o_i (M55 294) 37 := IM167.2.2.2.2.2.1
        have srM167 : o_a (M167 298) = o_a (M55 298) := IM167.2.2.2.2.2.2.1
        have skM167 : o_a (M167 305) = o_a (M55 305) := IM167.2.2.2.2.2.2.2
        refine PW.rZ q_257_49 rfl (by omega) (by omega) (by decide) (by decide) ?_
        exact hK x168 M167 QM167 FM167 (by omega) (by omega) (Or.inl (by omega)) (TM167.trans (TM55.trans (congrArg (fun e => o_i e 2) (Fr.at GM4 kd_294 rfl))))
    · skip
      refine PW.cI q_257_33 (by decide) fun c173 hc173 => ?_
      refine PW.rZ q_257_34 rfl (by omega) (by omega) (by decide) (by decide) ?_
      exact hK c173 M55 QM55 FM55 (by omega) (by omega) (Or.inl (by omega)) (TM55.trans (congrArg (fun e => o_i e 2) (Fr.at GM4 kd_294 rfl)))
theorem c_X12_log (G : pG) (Kr : pK) (M : pM) (I : Iv gTT M) (a1 : Int32) (hK : ∀ (x : Int32) (M1 : pM), Iv gTT M1 → Fr [40, 42, 44, 47, 48, 50] M M1 → ((0 ≤ a1.toInt ∧ a1.toInt ≤ 1 ∧ gLz M1) ∨ ((a1.toInt < 0 ∨ 1 < a1.toInt) ∧ gLq M1 M)) → Kr.1 (some (.int x)) 311 M1) : PW G false 7 259 (p_mc 259) (p_msl 259) Kr 0 (lv_args 0 [.ref 294, .int a1]) [] 311 M 0 0 := by
  have F : Fr [40, 42, 44, 47, 48, 50] M M := Fr.refl
  refine PW.aload_n q_259_0 rfl ?_
  refine PW.cI q_259_1 (by decide) fun c1 hc1 => ?_
  refine PW.pI q_259_2 (Or.inl t_ft_259_1) gF_40_0 gP_40_0 kd_294 Stab0 I (by decide) rfl (n_lo _) (n_hi _) fun M2 IM2 fM2 UM2 => ?_
  have FM2 := Fr.pu F UM2.1 kd_294 (rfl : List.contains [40, 42, 44, 47, 48, 50] 40 = true)
  have tr3 := UM2.i (c := 294) (k := 29) (Or.inr (by decide))
  have tr4 := UM2.i (c := 294) (k := 23) (Or.inr (by decide))
  refine PW.iload_n q_259_5 rfl ?_
  refine PW.cI q_259_6 (by decide) fun c5 hc5 => ?_
  refine PW.cI q_259_7 (by decide) fun c6 hc6 => ?_
  refine PW.callS (as := [_, _, _]) (rest := []) q_259_8 t_ms_259_176 (by decide) rfl (Nat.le_of_ble_eq_true rfl) (Nat.le_of_ble_eq_true rfl) (by decide) (by decide) ?_
  refine PW.iload_n q_166_0 rfl ?_
  refine PW.iload_n q_166_1 rfl ?_
  refine PW.jc_lt q_166_2 rfl (fun h7 => ?_) (fun h7 => ?_)
  · skip
    refine PW.cI q_166_14 (by decide) fun c8 hc8 => ?_
    refine PW.rZ q_166_15 rfl (by omega) (by omega) (by decide) (by decide) ?_
    refine PW.jz_ne q_259_11 rfl (fun h9 => False.elim (by omega)) (fun h9 => ?_)
    refine PW.cS q_259_14 (by decide) fun c10 hc10 => ?_
    refine PW.rI q_259_17 rfl (by decide) (by decide) ?_
    exact hK c10 M2 IM2 FM2 (Or.inr ⟨by omega, (UM2.i (c := 294) (k := 2) (Or.inr (by decide)))⟩)
  · skip
    refine PW.iload_n q_166_5 rfl ?_
    refine PW.iload_n q_166_6 rfl ?_
    refine PW.jc_gt q_166_7 rfl (fun h11 => ?_) (fun h11 => ?_)
    · skip
      refine PW.cI q_166_14 (by decide) fun c12 hc12 => ?_
      refine PW.rZ q_166_15 rfl (by omega) (by omega) (by decide) (by decide) ?_
      refine PW.jz_ne q_259_11 rfl (fun h13 => False.elim (by omega)) (fun h13 => ?_)
      refine PW.cS q_259_14 (by decide) fun c14 hc14 => ?_
      refine PW.rI q_259_17 rfl (by decide) (by decide) ?_
      exact hK c14 M2 IM2 FM2 (Or.inr ⟨by omega, (UM2.i (c := 294) (k := 2) (Or.inr (by decide)))⟩)
    · skip
      refine PW.cI q_166_10 (by decide) fun c15 hc15 => ?_
      refine PW.goto q_166_11 rfl ?_
      refine PW.rZ q_166_15 rfl (by omega) (by omega) (by decide) (by decide) ?_
      refine PW.jz_ne q_259_11 rfl (fun h16 => ?_) (fun h16 => False.elim (by omega))
      refine PW.aload_n q_259_18 rfl ?_
      refine PW.cS q_259_19 (by decide) fun c17 hc17 => ?_
      refine PW.cV (as := [_]) (rest := []) q_259_22 t_mv_259_226 kd_294 IM2.1 (by decide) rfl (by decide) rfl rfl (Nat.le_of_ble_eq_true rfl) (Nat.le_of_ble_eq_true rfl) (by decide) (by decide) ?_
      have SM2 : Iv (gSv M2) M2 := gSv.of IM2
      refine PW.up (by decide) (c_X12_taken (gSv M2) (StabSv M2) G _ M2 SM2 c17 fun M18 IM18 GM18 TM18 => ?_)
      have FM18 := Fr.trans FM2 GM18 (rfl)
      have QM18 : Iv gTT M18 := ⟨IM18.1, IM18.2.1⟩
      have tr19 : o_i (M18 294) 29 = o_i (M2 294) 29 := IM18.2.2.1
      have tr20 : o_i (M18 294) 33 = o_i (M2 294) 33 := IM18.2.2.2.1
      have tr21 : o_i (M18 294) 35 = o_i (M2 294) 35 := IM18.2.2.2.2.1
      have tr22 : o_i (M18 294) 37 = o_i (M2 294) 37 := IM18.2.2.2.2.2.1
      have srM18 : o_a (M18 298) = o_a (M2 298) := IM18.2.2.2.2.2.2.1
      have skM18 : o_a (M18 305) = o_a (M2 305) := IM18.2.2.2.2.2.2.2
      refine PW.aload_n q_259_25 rfl ?_
      refine PW.cI q_259_26 (by decide) fun c23 hc23 => ?_
      refine PW.pI q_259_27 (Or.inl t_ft_259_161) gF_40_15 gP_40_15 kd_294 Stab0 QM18 (by decide) rfl (n_lo _) (n_hi _) fun M24 IM24 fM24 UM24 => ?_
      have FM24 := Fr.pu FM18 UM24.1 kd_294 (rfl : List.contains [40, 42, 44, 47, 48, 50] 40 = true)
      have tr25 := UM24.i (c := 294) (k := 29) (Or.inr (by decide))
      have tr26 := UM24.i (c := 294) (k := 23) (Or.inr (by decide))
      refine PW.aload_n q_259_30 rfl ?_
      refine PW.cI q_259_31 (by decide) fun c27 hc27 => ?_
      refine PW.pT q_259_32 (Or.inl t_ft_259_369) gF_40_29 gP_40_29 kd_294 IM24 (by decide) rfl (by omega) (by omega) fun M28 IM28 fM28 UM28 => ?_
      have FM28 := Fr.pu FM24 UM28.1 kd_294 (rfl : List.contains [40, 42, 44, 47, 48, 50] 40 = true)
      have tr29 := o_i_of fM28
      have tr30 := UM28.i (c := 294) (k := 23) (Or.inr (by decide))
      refine PW.aload_n q_259_35 rfl ?_
      refine PW.cV (as := []) (rest := []) q_259_36 t_mv_259_173 kd_294 IM28.1 (by decide) rfl (by decide) rfl rfl (Nat.le_of_ble_eq_true rfl) (Nat.le_of_ble_eq_true rfl) (by decide) (by decide) ?_
      have SM28 : Iv (gSv M28) M28 := gSv.of IM28
      refine PW.up (by decide) (c_X12_go (gSv M28) (StabSv M28) G _ M28 SM28  fun M31 IM31 GM31 PM31 TM31 => ?_)
      have FM31 := Fr.trans FM28 GM31 (rfl)
      obtain ⟨PaM31, PdM31, PbM31, PeM31⟩ := PM31
      have QM31 : Iv gTT M31 := ⟨IM31.1, IM31.2.1⟩
      have tr32 : o_i (M31 294) 29 = o_i (M28 294) 29 := IM31.2.2.1
      have tr33 : o_i (M31 294) 33 = o_i (M28 294) 33 := IM31.2.2.2.1
      have tr34 : o_i (M31 294) 35 = o_i (M28 294) 35 := IM31.2.2.2.2.1
      have tr35 : o_i (M31 294) 37 = o_i (M28 294) 37 := IM31.2.2.2.2.2.1
      have srM31 : o_a (M31 298) = o_a (M28 298) := IM31.2.2.2.2.2.2.1
      have skM31 : o_a (M31 305) = o_a (M28 305) := IM31.2.2.2.2.2.2.2
      have L259_39_36 : ∀ (n : Nat) (ML259_39_36 : pM), Iv (gTT) ML259_39_36 → Fr [40, 42, 44, 47, 48, 50] M ML259_39_36 → gLl ML259_39_36 (o_i (ML259_39_36 294) 29) → 0 ≤ o_i (ML259_39_36 294) 29 → gLz ML259_39_36 → (40 - o_i (ML259_39_36 294) 29).toNat = n → PW G false 7 259 (p_mc 259) (p_msl 259) Kr 39 [(0, .ref 294), (1, .int a1)] [] 311 ML259_39_36 0 0 := by
        intro n
        induction n using Nat.strongRecOn with
        | ind n ih_L259_39_36 =>
        intro ML259_39_36  IML259_39_36 FML259_39_36 hbL259_39_360 hbL259_39_361 hbL259_39_362 hmL259_39_36
        refine PW.aload_n q_259_39 rfl ?_
        refine PW.gI q_259_40 (Or.inl t_ft_259_144) gF_40_11 kd_294 IML259_39_36.1 (by decide) fun x37 fx37 hx37 kx37 => ?_
        clear hx37 kx37
        refine PW.jz_eq q_259_43 rfl (fun h38 => ?_) (fun h38 => ?_)
        · skip
          refine PW.aload_n q_259_83 rfl ?_
          refine PW.cV (as := []) (rest := []) q_259_84 t_mv_259_308 kd_294 IML259_39_36.1 (by decide) rfl (by decide) rfl rfl (Nat.le_of_ble_eq_true rfl) (Nat.le_of_ble_eq_true rfl) (by decide) (by decide) ?_
          refine PW.up (by decide) (c_X12_tries G _ ML259_39_36 IML259_39_36  fun M39 IM39 GM39 TM39 => ?_)
          have FM39 := Fr.trans FML259_39_36 GM39 (rfl)
          have tr40 : o_i (M39 294) 29 = o_i (ML259_39_36 294) 29 := by rw [Fr.at GM39 kd_294 (by decide)]
          have tr41 : o_i (M39 294) 23 = o_i (ML259_39_36 294) 23 := by rw [Fr.at GM39 kd_294 (by decide)]
          refine PW.cI q_259_87 (by decide) fun c42 hc42 => ?_
          refine PW.istore_n q_259_88 (by decide) ?_
          have L259_89_43 : ∀ (n : Nat) (ML259_89_43 : pM) (v44 : Int32), Iv (gTT) ML259_89_43 → Fr [40, 42, 44, 47, 48, 50] M ML259_89_43 → 0 ≤ v44.toInt → v44.toInt ≤ 4 → gLl ML259_89_43 (o_i (ML259_89_43 294) 29) → gLz ML259_89_43 → (4 - v44.toInt).toNat = n → PW G false 7 259 (p_mc 259) (p_msl 259) Kr 89 [(0, .ref 294), (1, .int a1), (2, .int v44)] [] 311 ML259_89_43 0 0 := by
            intro n
            induction n using Nat.strongRecOn with
            | ind n ih_L259_89_43 =>
            intro ML259_89_43 v44 IML259_89_43 FML259_89_43 hbL259_89_430 hbL259_89_431 hbL259_89_432 hbL259_89_433 hmL259_89_43
            refine PW.iload_n q_259_89 rfl ?_
            refine PW.cI q_259_90 (by decide) fun c45 hc45 => ?_
            refine PW.jc_ge q_259_91 rfl (fun h46 => ?_) (fun h46 => ?_)
            · skip
              refine PW.aload_n q_259_107 rfl ?_
              refine PW.cV (as := []) (rest := []) q_259_108 t_mv_259_254 kd_294 IML259_89_43.1 (by decide) rfl (by decide) rfl rfl (Nat.le_of_ble_eq_true rfl) (Nat.le_of_ble_eq_true rfl) (by decide) (by decide) ?_
              refine PW.up (by decide) (c_X12_allTurns (gTT) (Stab0) G _ ML259_89_43 IML259_89_43  fun x48 M47 IM47 GM47 TM47 => ?_)
              have FM47 := Fr.trans FML259_89_43 GM47 (rfl)
              have tr49 : o_i (M47 294) 29 = o_i (ML259_89_43 294) 29 := by rw [Fr.at GM47 kd_294 (by decide)]
              have tr50 : o_i (M47 294) 23 = o_i (ML259_89_43 294) 23 := by rw [Fr.at GM47 kd_294 (by decide)]
              refine PW.istore_n q_259_111 (by decide) ?_
              refine PW.cI q_259_112 (by decide) fun c51 hc51 => ?_
              refine PW.istore_n q_259_113 (by decide) ?_
              refine PW.cI q_259_114 (by decide) fun c52 hc52 => ?_
              refine PW.istore q_259_115 (by decide) ?_
              have L259_117_53 : ∀ (n : Nat) (ML259_117_53 : pM) (v54 v55 : Int32), Iv (gTT) ML259_117_53 → Fr [40, 42, 44, 47, 48, 50] M ML259_117_53 → -1 ≤ v54.toInt → v54.toInt ≤ 40 → 0 ≤ v55.toInt → v55.toInt ≤ 40 → gLl ML259_117_53 (o_i (ML259_117_53 294) 29) → gLz ML259_117_53 → (40 - v55.toInt).toNat = n → PW G false 7 259 (p_mc 259) (p_msl 259) Kr 117 [(0, .ref 294), (1, .int a1), (2, .int x48), (3, .int v54), (4, .int v55)] [] 311 ML259_117_53 0 0 := by
                intro n
                induction n using Nat.strongRecOn with
                | ind n ih_L259_117_53 =>
                intro ML259_117_53 v54 v55 IML259_117_53 FML259_117_53 hbL259_117_530 hbL259_117_531 hbL259_117_532 hbL259_117_533 hbL259_117_534 hbL259_117_535 hmL259_117_53
                refine PW.iload q_259_117 rfl ?_
                refine PW.aload_n q_259_119 rfl ?_
                refine PW.gI q_259_120 (Or.inl t_ft_259_369) gF_40_29 kd_294 IML259_117_53.1 (by decide) fun x56 fx56 hx56 kx56 => ?_
                have trx56 := o_i_of fx56
                refine PW.jc_ge q_259_123 rfl (fun h57 => ?_) (fun h57 => ?_)
                · skip
                  refine PW.aload_n q_259_191 rfl ?_
                  refine PW.gR 304 q_259_192 (Or.inl t_ft_259_59) gF_40_30 kd_294 IML259_117_53.1 (by decide) rfl ?_
                  refine PW.cI q_259_195 (by decide) fun c58 hc58 => ?_
                  refine PW.aload_n q_259_196 rfl ?_
                  refine PW.gR 296 q_259_197 (Or.inl t_ft_259_33) gF_40_6 kd_294 IML259_117_53.1 (by decide) rfl ?_
                  refine PW.cB q_259_200 (by decide) fun c59 hc59 => ?_
                  refine PW.aI q_259_202 gA_42 kd_296 IML259_117_53.1 (by decide) gB_42_33_33 (by decide) (by omega) (by omega) fun x60 fx60 hx60 kx60 => ?_
                  refine PW.wI q_259_203 gA_50 kd_304 Stab0 IML259_117_53 (by decide) rfl gC_50_2_2 (by decide) (by omega) (by omega) (n_lo _) (n_hi _) fun M61 IM61 fM61 UM61 => ?_
                  have FM61 := Fr.pu FML259_117_53 UM61.1 kd_304 (rfl : List.contains [40, 42, 44, 47, 48, 50] 50 = true)
                  have tr62 : o_i (M61 294) 29 = o_i (ML259_117_53 294) 29 := by rw [UM61.1 294 (g_ne kd_294 kd_304 (by decide))]
                  have tr63 : o_i (M61 294) 23 = o_i (ML259_117_53 294) 23 := by rw [UM61.1 294 (g_ne kd_294 kd_304 (by decide))]
                  refine PW.aload_n q_259_204 rfl ?_
                  refine PW.gR 304 q_259_205 (Or.inl t_ft_259_59) gF_40_30 kd_294 IM61.1 (by decide) rfl ?_
                  refine PW.cI q_259_208 (by decide) fun c64 hc64 => ?_
                  refine PW.aload_n q_259_209 rfl ?_
                  refine PW.cV (as := []) (rest := [_, _]) q_259_210 t_mv_259_254 kd_294 IM61.1 (by decide) rfl (by decide) rfl rfl (Nat.le_of_ble_eq_true rfl) (Nat.le_of_ble_eq_true rfl) (by decide) (by decide) ?_
                  refine PW.up (by decide) (c_X12_allTurns (gTT) (Stab0) G _ M61 IM61  fun x66 M65 IM65 GM65 TM65 => ?_)
                  have FM65 := Fr.trans FM61 GM65 (rfl)
                  have tr67 : o_i (M65 294) 29 = o_i (M61 294) 29 := by rw [Fr.at GM65 kd_294 (by decide)]
                  have tr68 : o_i (M65 294) 23 = o_i (M61 294) 23 := by rw [Fr.at GM65 kd_294 (by decide)]
                  refine PW.iload_n q_259_213 rfl ?_
                  refine PW.subH q_259_214 fun x69 => ?_
                  refine PW.wI q_259_215 gA_50 kd_304 Stab0 IM65 (by decide) rfl gC_50_3_3 (by decide) (by omega) (by omega) (n_lo _) (n_hi _) fun M70 IM70 fM70 UM70 => ?_
                  have FM70 := Fr.pu FM65 UM70.1 kd_304 (rfl : List.contains [40, 42, 44, 47, 48, 50] 50 = true)
                  have tr71 : o_i (M70 294) 29 = o_i (M65 294) 29 := by rw [UM70.1 294 (g_ne kd_294 kd_304 (by decide))]
                  have tr72 : o_i (M70 294) 23 = o_i (M65 294) 23 := by rw [UM70.1 294 (g_ne kd_294 kd_304 (by decide))]
                  refine PW.aload_n q_259_216 rfl ?_
                  refine PW.cI q_259_217 (by decide) fun c73 hc73 => ?_
                  refine PW.pI q_259_218 (Or.inl t_ft_259_378) gF_40_31 gP_40_31 kd_294 Stab0 IM70 (by decide) rfl (by omega) (by omega) fun M74 IM74 fM74 UM74 => ?_
                  have FM74 := Fr.pu FM70 UM74.1 kd_294 (rfl : List.contains [40, 42, 44, 47, 48, 50] 40 = true)
                  have tr75 := UM74.i (c := 294) (k := 29) (Or.inr (by decide))
                  have tr76 := UM74.i (c := 294) (k := 23) (Or.inr (by decide))
                  refine PW.iload_n q_259_221 rfl ?_
                  refine PW.cI q_259_222 (by decide) fun c77 hc77 => ?_
                  refine PW.jc_ne q_259_223 rfl (fun h78 => ?_) (fun h78 => ?_)
                  · skip
                    refine PW.iload_n q_259_281 rfl ?_
                    refine PW.jz_ne q_259_282 rfl (fun h79 => False.elim (by omega)) (fun h79 => ?_)
                    refine PW.aload_n q_259_285 rfl ?_
                    refine PW.cV (as := []) (rest := []) q_259_286 t_mv_259_311 kd_294 IM74.1 (by decide) rfl (by decide) rfl rfl (Nat.le_of_ble_eq_true rfl) (Nat.le_of_ble_eq_true rfl) (by decide) (by decide) ?_
                    refine PW.up (by decide) (c_X12_back G _ M74 IM74  fun M80 IM80 GM80 TM80 => ?_)
                    have FM80 := Fr.trans FM74 GM80 (rfl)
                    have tr81 : o_i (M80 294) 29 = o_i (M74 294) 29 := by rw [Fr.at GM80 kd_294 (by decide)]
                    have tr82 : o_i (M80 294) 23 = o_i (M74 294) 23 := by rw [Fr.at GM80 kd_294 (by decide)]
                    refine PW.iload_n q_259_289 rfl ?_
                    refine PW.rI q_259_290 rfl (by decide) (by decide) ?_
                    exact hK v54 M80 IM80 FM80 (Or.inl ⟨by omega, by omega, ((congrArg (fun e => o_i e 2) (Fr.at GM80 kd_294 rfl)).trans ((UM74.i (c := 294) (k := 2) (Or.inr (by decide))).trans ((congrArg (fun e => o_i e 2) (UM70.1 294 (by decide))).trans ((congrArg (fun e => o_i e 2) (Fr.at GM65 kd_294 rfl)).trans ((congrArg (fun e => o_i e 2) (UM61.1 294 (by decide))).trans hbL259_117_535)))))⟩)
                  · skip
                    refine PW.aload_n q_259_226 rfl ?_
                    refine PW.gR 304 q_259_227 (Or.inl t_ft_259_59) gF_40_30 kd_294 IM74.1 (by decide) rfl ?_
                    refine PW.cI q_259_230 (by decide) fun c83 hc83 => ?_
                    refine PW.aH q_259_231 gA_50 kd_304 IM74.1 (by decide) (by omega) (by omega) fun x84 fx84 => ?_
                    refine PW.jz_le q_259_232 rfl (fun h85 => ?_) (fun h85 => ?_)
                    · skip
                      refine PW.iload_n q_259_281 rfl ?_
                      refine PW.jz_ne q_259_282 rfl (fun h86 => ?_) (fun h86 => False.elim (by omega))
                      refine PW.iload_n q_259_289 rfl ?_
                      refine PW.rI q_259_290 rfl (by decide) (by decide) ?_
                      exact hK v54 M74 IM74 FM74 (Or.inl ⟨by omega, by omega, ((UM74.i (c := 294) (k := 2) (Or.inr (by decide))).trans ((congrArg (fun e => o_i e 2) (UM70.1 294 (by decide))).trans ((congrArg (fun e => o_i e 2) (Fr.at GM65 kd_294 rfl)).trans ((congrArg (fun e => o_i e 2) (UM61.1 294 (by decide))).trans hbL259_117_535))))⟩)
                    · skip
                      refine PW.aload_n q_259_235 rfl ?_
                      refine PW.cV (as := []) (rest := []) q_259_236 t_mv_259_290 kd_294 IM74.1 (by decide) rfl (by decide) rfl rfl (Nat.le_of_ble_eq_true rfl) (Nat.le_of_ble_eq_true rfl) (by decide) (by decide) ?_
                      refine PW.up (by decide) (c_X12_keep G _ M74 IM74  fun M87 IM87 GM87 PM87 TM87 => ?_)
                      have FM87 := Fr.trans FM74 GM87 (rfl)
                      obtain ⟨u0, fu0, hu0, ku0⟩ := gF_40_23.int kd_294 IM87.1 (by decide)
                      have tu0 := o_i_of fu0
                      have X88 : Iv (gX 301) M87 := ⟨IM87.1, gX.of IM87.2⟩
                      refine PW.cI q_259_239 (by decide) fun c89 hc89 => ?_
                      refine PW.istore q_259_240 (by decide) ?_
                      have L259_242_90 : ∀ (n : Nat) (ML259_242_90 : pM) (v91 : Int32), Iv (gX 301) ML259_242_90 → Fr [40, 42, 44, 47, 48, 50] M ML259_242_90 → 0 ≤ v91.toInt → v91.toInt ≤ 183 → grw ML259_242_90 (u0.toInt - 1).toNat → gcp ML259_242_90 301 (183 * (u0.toInt - 1).toNat) 302 0 v91.toInt → o_i (ML259_242_90 294) 23 = u0.toInt → gLz ML259_242_90 → (183 - v91.toInt).toNat = n → PW G false 7 259 (p_mc 259) (p_msl 259) Kr 242 [(0, .ref 294), (1, .int a1), (2, .int x48), (3, .int v54), (4, .int v91)] [] 311 ML259_242_90 0 0 := by
                        intro n
                        induction n using Nat.strongRecOn with
                        | ind n ih_L259_242_90 =>
                        intro ML259_242_90 v91 IML259_242_90 FML259_242_90 hbL259_242_900 hbL259_242_901 hbL259_242_902 hbL259_242_903 hbL259_242_904 hbL259_242_905 hmL259_242_90
                        refine PW.iload q_259_242 rfl ?_
                        refine PW.cS q_259_244 (by decide) fun c92 hc92 => ?_
                        refine PW.jc_ge q_259_247 rfl (fun h93 => ?_) (fun h93 => ?_)
                        · skip
                          have X94 : Iv gTT ML259_242_90 := ⟨IML259_242_90.1, gX.e301 IML259_242_90.2 (grw.all hbL259_242_902 (gSt.to hbL259_242_903 (by omega) (g_st0.mpr (IML259_242_90.2.2.2.1 (by decide)))))⟩
                          refine PW.iload_n q_259_281 rfl ?_
                          refine PW.jz_ne q_259_282 rfl (fun h95 => ?_) (fun h95 => False.elim (by omega))
                          refine PW.iload_n q_259_289 rfl ?_
                          refine PW.rI q_259_290 rfl (by decide) (by decide) ?_
                          exact hK v54 ML259_242_90 X94 FML259_242_90 (Or.inl ⟨by omega, by omega, hbL259_242_905⟩)
                        · skip
                          refine PW.aload_n q_259_250 rfl ?_
                          refine PW.gR 301 q_259_251 (Or.inl t_ft_259_50) gF_40_21 kd_294 IML259_242_90.1 (by decide) rfl ?_
                          refine PW.cS q_259_254 (by decide) fun c96 hc96 => ?_
                          refine PW.aload_n q_259_257 rfl ?_
                          refine PW.gI q_259_258 (Or.inl t_ft_259_238) gF_40_23 kd_294 IML259_242_90.1 (by decide) fun x97 fx97 hx97 kx97 => ?_
                          have trx97 := o_i_of fx97
                          refine PW.cI q_259_261 (by decide) fun c98 hc98 => ?_
                          refine PW.subN q_259_262 (by omega) (by omega) fun x99 hx99 => ?_
                          refine PW.mulN q_259_263 (183) (by omega) x99 (fun h => n_eq.mpr (by omega)) (fun h => n_eq.mpr (by omega)) (by omega) (by omega) fun x100 hx100 => ?_
                          refine PW.iload q_259_264 rfl ?_
                          refine PW.addN q_259_266 (by omega) (by omega) fun x101 hx101 => ?_
                          refine PW.aload_n q_259_267 rfl ?_
                          refine PW.gR 302 q_259_268 (Or.inl t_ft_259_53) gF_40_22 kd_294 IML259_242_90.1 (by decide) rfl ?_
                          refine PW.iload q_259_271 rfl ?_
                          refine PW.aH q_259_273 gA_48 kd_302 IML259_242_90.1 (by decide) (by omega) (by omega) fun x102 fx102 => ?_
                          -- index (-183, 1463) of 1464 at X12_log 274
                          have bsM103 := (InvB.arr IML259_242_90.1 kd_302 (by decide) gA_48).2.2 v91.toInt.toNat (by omega)
                          rw [fx102] at bsM103
                          refine PW.wB q_259_274 gA_47 kd_301 IML259_242_90.1 (by decide) (by omega) (by omega) (by rw [as4748 (j := v91.toInt.toNat) (u0.toInt - 1).toNat v91.toInt.toNat (by omega) (by omega) (by omega)]; exact bsM103) fun M103 JM103 fM103 UM103 => ?_
                          have IM103 : Iv (gX 301) M103 := ⟨JM103, gX.up IML259_242_90.2 UM103.1 (by decide)⟩
                          have FM103 := Fr.pu FML259_242_90 UM103.1 kd_301 (rfl : List.contains [40, 42, 44, 47, 48, 50] 47 = true)
                          have tr104 : o_i (M103 294) 29 = o_i (ML259_242_90 294) 29 := by rw [UM103.1 294 (g_ne kd_294 kd_301 (by decide))]
                          have tr105 : o_i (M103 294) 23 = o_i (ML259_242_90 294) 23 := by rw [UM103.1 294 (g_ne kd_294 kd_301 (by decide))]
                          refine PW.incN q_259_275 rfl (by decide) (by decide) (by omega) (by omega) fun x106 hx106 => ?_
                          refine PW.goto q_259_278 rfl ?_
                          refine PW.lvS (lk1 rfl (lk1 rfl (lk1 rfl (lk1 rfl (lk1 rfl lk0))))) (ih_L259_242_90 _ ?_ M103 x106 IM103 FM103 (by omega) (by omega) (grw.step v91.toInt.toNat hbL259_242_902 UM103 (by omega) (by omega)) (gcp.step hbL259_242_903 UM103 (by omega) (by decide) fM103 (by omega) fx102 (by omega) (by omega)) (by omega) ((congrArg (fun e => o_i e 2) (UM103.1 294 (by decide))).trans hbL259_242_905) rfl)
                          omega
                      exact PW.lvS (lk1 rfl (lk1 rfl (lk1 rfl (lk1 rfl (lk1 rfl lk0))))) (L259_242_90 _ M87 c89 X88 FM87 (by omega) (by omega) (grw.of IM87.2) (gcp.zero (by omega)) (by omega) (TM87.1.trans ((UM74.i (c := 294) (k := 2) (Or.inr (by decide))).trans ((congrArg (fun e => o_i e 2) (UM70.1 294 (by decide))).trans ((congrArg (fun e => o_i e 2) (Fr.at GM65 kd_294 rfl)).trans ((congrArg (fun e => o_i e 2) (UM61.1 294 (by decide))).trans hbL259_117_535))))) rfl)
                · skip
                  refine PW.iload_n q_259_126 rfl ?_
                  refine PW.jz_ge q_259_127 rfl (fun h107 => ?_) (fun h107 => ?_)
                  · skip
                    refine PW.aload_n q_259_191 rfl ?_
                    refine PW.gR 304 q_259_192 (Or.inl t_ft_259_59) gF_40_30 kd_294 IML259_117_53.1 (by decide) rfl ?_
                    refine PW.cI q_259_195 (by decide) fun c108 hc108 => ?_
                    refine PW.aload_n q_259_196 rfl ?_
                    refine PW.gR 296 q_259_197 (Or.inl t_ft_259_33) gF_40_6 kd_294 IML259_117_53.1 (by decide) rfl ?_
                    refine PW.cB q_259_200 (by decide) fun c109 hc109 => ?_
                    refine PW.aI q_259_202 gA_42 kd_296 IML259_117_53.1 (by decide) gB_42_33_33 (by decide) (by omega) (by omega) fun x110 fx110 hx110 kx110 => ?_
                    refine PW.wI q_259_203 gA_50 kd_304 Stab0 IML259_117_53 (by decide) rfl gC_50_2_2 (by decide) (by omega) (by omega) (n_lo _) (n_hi _) fun M111 IM111 fM111 UM111 => ?_
                    have FM111 := Fr.pu FML259_117_53 UM111.1 kd_304 (rfl : List.contains [40, 42, 44, 47, 48, 50] 50 = true)
                    have tr112 : o_i (M111 294) 29 = o_i (ML259_117_53 294) 29 := by rw [UM111.1 294 (g_ne kd_294 kd_304 (by decide))]
                    have tr113 : o_i (M111 294) 23 = o_i (ML259_117_53 294) 23 := by rw [UM111.1 294 (g_ne kd_294 kd_304 (by decide))]
                    refine PW.aload_n q_259_204 rfl ?_
                    refine PW.gR 304 q_259_205 (Or.inl t_ft_259_59) gF_40_30 kd_294 IM111.1 (by decide) rfl ?_
                    refine PW.cI q_259_208 (by decide) fun c114 hc114 => ?_
                    refine PW.aload_n q_259_209 rfl ?_
                    refine PW.cV (as := []) (rest := [_, _]) q_259_210 t_mv_259_254 kd_294 IM111.1 (by decide) rfl (by decide) rfl rfl (Nat.le_of_ble_eq_true rfl) (Nat.le_of_ble_eq_true rfl) (by decide) (by decide) ?_
                    refine PW.up (by decide) (c_X12_allTurns (gTT) (Stab0) G _ M111 IM111  fun x116 M115 IM115 GM115 TM115 => ?_)
                    have FM115 := Fr.trans FM111 GM115 (rfl)
                    have tr117 : o_i (M115 294) 29 = o_i (M111 294) 29 := by rw [Fr.at GM115 kd_294 (by decide)]
                    have tr118 : o_i (M115 294) 23 = o_i (M111 294) 23 := by rw [Fr.at GM115 kd_294 (by decide)]
                    refine PW.iload_n q_259_213 rfl ?_
                    refine PW.subH q_259_214 fun x119 => ?_
                    refine PW.wI q_259_215 gA_50 kd_304 Stab0 IM115 (by decide) rfl gC_50_3_3 (by decide) (by omega) (by omega) (n_lo _) (n_hi _) fun M120 IM120 fM120 UM120 => ?_
                    have FM120 := Fr.pu FM115 UM120.1 kd_304 (rfl : List.contains [40, 42, 44, 47, 48, 50] 50 = true)
                    have tr121 : o_i (M120 294) 29 = o_i (M115 294) 29 := by rw [UM120.1 294 (g_ne kd_294 kd_304 (by decide))]
                    have tr122 : o_i (M120 294) 23 = o_i (M115 294) 23 := by rw [UM120.1 294 (g_ne kd_294 kd_304 (by decide))]
                    refine PW.aload_n q_259_216 rfl ?_
                    refine PW.cI q_259_217 (by decide) fun c123 hc123 => ?_
                    refine PW.pI q_259_218 (Or.inl t_ft_259_378) gF_40_31 gP_40_31 kd_294 Stab0 IM120 (by decide) rfl (by omega) (by omega) fun M124 IM124 fM124 UM124 => ?_
                    have FM124 := Fr.pu FM120 UM124.1 kd_294 (rfl : List.contains [40, 42, 44, 47, 48, 50] 40 = true)
                    have tr125 := UM124.i (c := 294) (k := 29) (Or.inr (by decide))
                    have tr126 := UM124.i (c := 294) (k := 23) (Or.inr (by decide))
                    refine PW.iload_n q_259_221 rfl ?_
                    refine PW.cI q_259_222 (by decide) fun c127 hc127 => ?_
                    refine PW.jc_ne q_259_223 rfl (fun h128 => ?_) (fun h128 => ?_)
                    · skip
                      refine PW.iload_n q_259_281 rfl ?_
                      refine PW.jz_ne q_259_282 rfl (fun h129 => False.elim (by omega)) (fun h129 => ?_)
                      refine PW.aload_n q_259_285 rfl ?_
                      refine PW.cV (as := []) (rest := []) q_259_286 t_mv_259_311 kd_294 IM124.1 (by decide) rfl (by decide) rfl rfl (Nat.le_of_ble_eq_true rfl) (Nat.le_of_ble_eq_true rfl) (by decide) (by decide) ?_
                      refine PW.up (by decide) (c_X12_back G _ M124 IM124  fun M130 IM130 GM130 TM130 => ?_)
                      have FM130 := Fr.trans FM124 GM130 (rfl)
                      have tr131 : o_i (M130 294) 29 = o_i (M124 294) 29 := by rw [Fr.at GM130 kd_294 (by decide)]
                      have tr132 : o_i (M130 294) 23 = o_i (M124 294) 23 := by rw [Fr.at GM130 kd_294 (by decide)]
                      refine PW.iload_n q_259_289 rfl ?_
                      refine PW.rI q_259_290 rfl (by decide) (by decide) ?_
                      exact hK v54 M130 IM130 FM130 (Or.inl ⟨by omega, by omega, ((congrArg (fun e => o_i e 2) (Fr.at GM130 kd_294 rfl)).trans ((UM124.i (c := 294) (k := 2) (Or.inr (by decide))).trans ((congrArg (fun e => o_i e 2) (UM120.1 294 (by decide))).trans ((congrArg (fun e => o_i e 2) (Fr.at GM115 kd_294 rfl)).trans ((congrArg (fun e => o_i e 2) (UM111.1 294 (by decide))).trans hbL259_117_535)))))⟩)
                    · skip
                      refine PW.aload_n q_259_226 rfl ?_
                      refine PW.gR 304 q_259_227 (Or.inl t_ft_259_59) gF_40_30 kd_294 IM124.1 (by decide) rfl ?_
                      refine PW.cI q_259_230 (by decide) fun c133 hc133 => ?_
                      refine PW.aH q_259_231 gA_50 kd_304 IM124.1 (by decide) (by omega) (by omega) fun x134 fx134 => ?_
                      refine PW.jz_le q_259_232 rfl (fun h135 => ?_) (fun h135 => ?_)
                      · skip
                        refine PW.iload_n q_259_281 rfl ?_
                        refine PW.jz_ne q_259_282 rfl (fun h136 => ?_) (fun h136 => False.elim (by omega))
                        refine PW.iload_n q_259_289 rfl ?_
                        refine PW.rI q_259_290 rfl (by decide) (by decide) ?_
                        exact hK v54 M124 IM124 FM124 (Or.inl ⟨by omega, by omega, ((UM124.i (c := 294) (k := 2) (Or.inr (by decide))).trans ((congrArg (fun e => o_i e 2) (UM120.1 294 (by decide))).trans ((congrArg (fun e => o_i e 2) (Fr.at GM115 kd_294 rfl)).trans ((congrArg (fun e => o_i e 2) (UM111.1 294 (by decide))).trans hbL259_117_535))))⟩)
                      · skip
                        refine PW.aload_n q_259_235 rfl ?_
                        refine PW.cV (as := []) (rest := []) q_259_236 t_mv_259_290 kd_294 IM124.1 (by decide) rfl (by decide) rfl rfl (Nat.le_of_ble_eq_true rfl) (Nat.le_of_ble_eq_true rfl) (by decide) (by decide) ?_
                        refine PW.up (by decide) (c_X12_keep G _ M124 IM124  fun M137 IM137 GM137 PM137 TM137 => ?_)
                        have FM137 := Fr.trans FM124 GM137 (rfl)
                        obtain ⟨u0, fu0, hu0, ku0⟩ := gF_40_23.int kd_294 IM137.1 (by decide)
                        have tu0 := o_i_of fu0
                        have X138 : Iv (gX 301) M137 := ⟨IM137.1, gX.of IM137.2⟩
                        refine PW.cI q_259_239 (by decide) fun c139 hc139 => ?_
                        refine PW.istore q_259_240 (by decide) ?_
                        have L259_242_140 : ∀ (n : Nat) (ML259_242_140 : pM) (v141 : Int32), Iv (gX 301) ML259_242_140 → Fr [40, 42, 44, 47, 48, 50] M ML259_242_140 → 0 ≤ v141.toInt → v141.toInt ≤ 183 → grw ML259_242_140 (u0.toInt - 1).toNat → gcp ML259_242_140 301 (183 * (u0.toInt - 1).toNat) 302 0 v141.toInt → o_i (ML259_242_140 294) 23 = u0.toInt → gLz ML259_242_140 → (183 - v141.toInt).toNat = n → PW G false 7 259 (p_mc 259) (p_msl 259) Kr 242 [(0, .ref 294), (1, .int a1), (2, .int x48), (3, .int v54), (4, .int v141)] [] 311 ML259_242_140 0 0 := by
                          intro n
                          induction n using Nat.strongRecOn with
                          | ind n ih_L259_242_140 =>
                          intro ML259_242_140 v141 IML259_242_140 FML259_242_140 hbL259_242_1400 hbL259_242_1401 hbL259_242_1402 hbL259_242_1403 hbL259_242_1404 hbL259_242_1405 hmL259_242_140
                          refine PW.iload q_259_242 rfl ?_
                          refine PW.cS q_259_244 (by decide) fun c142 hc142 => ?_
                          refine PW.jc_ge q_259_247 rfl (fun h143 => ?_) (fun h143 => ?_)
                          · skip
                            have X144 : Iv gTT ML259_242_140 := ⟨IML259_242_140.1, gX.e301 IML259_242_140.2 (grw.all hbL259_242_1402 (gSt.to hbL259_242_1403 (by omega) (g_st0.mpr (IML259_242_140.2.2.2.1 (by decide)))))⟩
                            refine PW.iload_n q_259_281 rfl ?_
                            refine PW.jz_ne q_259_282 rfl (fun h145 => ?_) (fun h145 => False.elim (by omega))
                            refine PW.iload_n q_259_289 rfl ?_
                            refine PW.rI q_259_290 rfl (by decide) (by decide) ?_
                            exact hK v54 ML259_242_140 X144 FML259_242_140 (Or.inl ⟨by omega, by omega, hbL259_242_1405⟩)
                          · skip
                            refine PW.aload_n q_259_250 rfl ?_
                            refine PW.gR 301 q_259_251 (Or.inl t_ft_259_50) gF_40_21 kd_294 IML259_242_140.1 (by decide) rfl ?_
                            refine PW.cS q_259_254 (by decide) fun c146 hc146 => ?_
                            refine PW.aload_n q_259_257 rfl ?_
                            refine PW.gI q_259_258 (Or.inl t_ft_259_238) gF_40_23 kd_294 IML259_242_140.1 (by decide) fun x147 fx147 hx147 kx147 => ?_
                            have trx147 := o_i_of fx147
                            refine PW.cI q_259_261 (by decide) fun c148 hc148 => ?_
                            refine PW.subN q_259_262 (by omega) (by omega) fun x149 hx149 => ?_
                            refine PW.mulN q_259_263 (183) (by omega) x149 (fun h => n_eq.mpr (by omega)) (fun h => n_eq.mpr (by omega)) (by omega) (by omega) fun x150 hx150 => ?_
                            refine PW.iload q_259_264 rfl ?_
                            refine PW.addN q_259_266 (by omega) (by omega) fun x151 hx151 => ?_
                            refine PW.aload_n q_259_267 rfl ?_
                            refine PW.gR 302 q_259_268 (Or.inl t_ft_259_53) gF_40_22 kd_294 IML259_242_140.1 (by decide) rfl ?_
                            refine PW.iload q_259_271 rfl ?_
                            refine PW.aH q_259_273 gA_48 kd_302 IML259_242_140.1 (by decide) (by omega) (by omega) fun x152 fx152 => ?_
                            -- index (-183, 1463) of 1464 at X12_log 274
                            have bsM153 := (InvB.arr IML259_242_140.1 kd_302 (by decide) gA_48).2.2 v141.toInt.toNat (by omega)
                            rw [fx152] at bsM153
                            refine PW.wB q_259_274 gA_47 kd_301 IML259_242_140.1 (by decide) (by omega) (by omega) (by rw [as4748 (j := v141.toInt.toNat) (u0.toInt - 1).toNat v141.toInt.toNat (by omega) (by omega) (by omega)]; exact bsM153) fun M153 JM153 fM153 UM153 => ?_
                            have IM153 : Iv (gX 301) M153 := ⟨JM153, gX.up IML259_242_140.2 UM153.1 (by decide)⟩
                            have FM153 := Fr.pu FML259_242_140 UM153.1 kd_301 (rfl : List.contains [40, 42, 44, 47, 48, 50] 47 = true)
                            have tr154 : o_i (M153 294) 29 = o_i (ML259_242_140 294) 29 := by rw [UM153.1 294 (g_ne kd_294 kd_301 (by decide))]
                            have tr155 : o_i (M153 294) 23 = o_i (ML259_242_140 294) 23 := by rw [UM153.1 294 (g_ne kd_294 kd_301 (by decide))]
                            refine PW.incN q_259_275 rfl (by decide) (by decide) (by omega) (by omega) fun x156 hx156 => ?_
                            refine PW.goto q_259_278 rfl ?_
                            refine PW.lvS (lk1 rfl (lk1 rfl (lk1 rfl (lk1 rfl (lk1 rfl lk0))))) (ih_L259_242_140 _ ?_ M153 x156 IM153 FM153 (by omega) (by omega) (grw.step v141.toInt.toNat hbL259_242_1402 UM153 (by omega) (by omega)) (gcp.step hbL259_242_1403 UM153 (by omega) (by decide) fM153 (by omega) fx152 (by omega) (by omega)) (by omega) ((congrArg (fun e => o_i e 2) (UM153.1 294 (by decide))).trans hbL259_242_1405) rfl)
                            omega
                        exact PW.lvS (lk1 rfl (lk1 rfl (lk1 rfl (lk1 rfl (lk1 rfl lk0))))) (L259_242_140 _ M137 c139 X138 FM137 (by omega) (by omega) (grw.of IM137.2) (gcp.zero (by omega)) (by omega) (TM137.1.trans ((UM124.i (c := 294) (k := 2) (Or.inr (by decide))).trans ((congrArg (fun e => o_i e 2) (UM120.1 294 (by decide))).trans ((congrArg (fun e => o_i e 2) (Fr.at GM115 kd_294 rfl)).trans ((congrArg (fun e => o_i e 2) (UM111.1 294 (by decide))).trans hbL259_117_535))))) rfl)
                  · skip
                    refine PW.aload_n q_259_130 rfl ?_
                    refine PW.gR 304 q_259_131 (Or.inl t_ft_259_59) gF_40_30 kd_294 IML259_117_53.1 (by decide) rfl ?_
                    refine PW.cI q_259_134 (by decide) fun c157 hc157 => ?_
                    refine PW.aload_n q_259_135 rfl ?_
                    refine PW.aload_n q_259_136 rfl ?_
                    refine PW.gR 298 q_259_137 (Or.inl t_ft_259_40) gF_40_8 kd_294 IML259_117_53.1 (by decide) rfl ?_
                    refine PW.cI q_259_140 (by decide) fun c158 hc158 => ?_
                    refine PW.iload q_259_141 rfl ?_
                    refine PW.mulN q_259_143 (2) (by omega) v55 (fun h => n_eq.mpr (by omega)) (fun h => n_eq.mpr (by omega)) (by omega) (by omega) fun x159 hx159 => ?_
                    refine PW.aH q_259_144 gA_44 kd_298 IML259_117_53.1 (by decide) (by omega) (by omega) fun x160 fx160 => ?_
                    refine PW.aload_n q_259_145 rfl ?_
                    refine PW.gR 298 q_259_146 (Or.inl t_ft_259_40) gF_40_8 kd_294 IML259_117_53.1 (by decide) rfl ?_
                    refine PW.cI q_259_149 (by decide) fun c161 hc161 => ?_
                    refine PW.iload q_259_150 rfl ?_
                    refine PW.mulN q_259_152 (2) (by omega) v55 (fun h => n_eq.mpr (by omega)) (fun h => n_eq.mpr (by omega)) (by omega) (by omega) fun x162 hx162 => ?_
                    refine PW.cI q_259_153 (by decide) fun c163 hc163 => ?_
                    refine PW.addN q_259_154 (by omega) (by omega) fun x164 hx164 => ?_
                    refine PW.aH q_259_155 gA_44 kd_298 IML259_117_53.1 (by decide) (by omega) (by omega) fun x165 fx165 => ?_
                    refine PW.cV (as := [_, _]) (rest := [_, _]) q_259_156 t_mv_259_375 kd_294 IML259_117_53.1 (by decide) rfl (by decide) rfl rfl (Nat.le_of_ble_eq_true rfl) (Nat.le_of_ble_eq_true rfl) (by decide) (by decide) ?_
                    refine PW.up (by decide) (c_X12_does G _ ML259_117_53 IML259_117_53 x160 x165 (by have w := hbL259_117_534 v55.toInt.toNat (by omega); rw [show 2 * v55.toInt.toNat = x159.toInt.toNat from by omega, fx160, show x159.toInt.toNat + 1 = x164.toInt.toNat from by omega, fx165] at w; exact w) fun x167 M166 IM166 GM166 TM166 => ?_)
                    have FM166 := Fr.trans FML259_117_53 GM166 (rfl)
                    have tr168 : o_i (M166 294) 29 = o_i (ML259_117_53 294) 29 := by rw [Fr.at GM166 kd_294 (by decide)]
                    have tr169 : o_i (M166 294) 23 = o_i (ML259_117_53 294) 23 := by rw [Fr.at GM166 kd_294 (by decide)]
                    refine PW.wI q_259_159 gA_50 kd_304 Stab0 IM166 (by decide) rfl gC_50_0_0 (by decide) (by omega) (by omega) (n_lo _) (n_hi _) fun M170 IM170 fM170 UM170 => ?_
                    have FM170 := Fr.pu FM166 UM170.1 kd_304 (rfl : List.contains [40, 42, 44, 47, 48, 50] 50 = true)
                    have tr171 : o_i (M170 294) 29 = o_i (M166 294) 29 := by rw [UM170.1 294 (g_ne kd_294 kd_304 (by decide))]
                    have tr172 : o_i (M170 294) 23 = o_i (M166 294) 23 := by rw [UM170.1 294 (g_ne kd_294 kd_304 (by decide))]
                    refine PW.aload_n q_259_160 rfl ?_
                    refine PW.gR 304 q_259_161 (Or.inl t_ft_259_59) gF_40_30 kd_294 IM170.1 (by decide) rfl ?_
                    refine PW.cI q_259_164 (by decide) fun c173 hc173 => ?_
                    refine PW.aH q_259_165 gA_50 kd_304 IM170.1 (by decide) (by omega) (by omega) fun x174 fx174 => ?_
                    refine PW.jz_le q_259_166 rfl (fun h175 => ?_) (fun h175 => ?_)
                    · skip
                      refine PW.aload_n q_259_175 rfl ?_
                      refine PW.gR 304 q_259_176 (Or.inl t_ft_259_59) gF_40_30 kd_294 IM170.1 (by decide) rfl ?_
                      refine PW.cI q_259_179 (by decide) fun c176 hc176 => ?_
                      refine PW.dup2 q_259_180 rfl rfl ?_
                      refine PW.aH q_259_181 gA_50 kd_304 IM170.1 (by decide) (by omega) (by omega) fun x177 fx177 => ?_
                      refine PW.cI q_259_182 (by decide) fun c178 hc178 => ?_
                      refine PW.addH q_259_183 fun x179 => ?_
                      refine PW.wI q_259_184 gA_50 kd_304 Stab0 IM170 (by decide) rfl gC_50_1_1 (by decide) (by omega) (by omega) (n_lo _) (n_hi _) fun M180 IM180 fM180 UM180 => ?_
                      have FM180 := Fr.pu FM170 UM180.1 kd_304 (rfl : List.contains [40, 42, 44, 47, 48, 50] 50 = true)
                      have tr181 : o_i (M180 294) 29 = o_i (M170 294) 29 := by rw [UM180.1 294 (g_ne kd_294 kd_304 (by decide))]
                      have tr182 : o_i (M180 294) 23 = o_i (M170 294) 23 := by rw [UM180.1 294 (g_ne kd_294 kd_304 (by decide))]
                      refine PW.incN q_259_185 rfl (by decide) (by decide) (by omega) (by omega) fun x183 hx183 => ?_
                      refine PW.goto q_259_188 rfl ?_
                      refine PW.lvS (lk1 rfl (lk1 rfl (lk1 rfl (lk1 rfl (lk1 rfl lk0))))) (ih_L259_117_53 _ ?_ M180 v54 x183 IM180 FM180 (by omega) (by omega) (by omega) (by omega) (gLl.same hbL259_117_534 ((congrArg o_a (UM180.1 298 (by decide))).trans ((congrArg o_a (UM170.1 298 (by decide))).trans (congrArg o_a (Fr.at GM166 kd_298 rfl)))) (by omega)) ((congrArg (fun e => o_i e 2) (UM180.1 294 (by decide))).trans ((congrArg (fun e => o_i e 2) (UM170.1 294 (by decide))).trans ((congrArg (fun e => o_i e 2) (Fr.at GM166 kd_294 rfl)).trans hbL259_117_535))) rfl)
                      omega
                    · skip
                      refine PW.iload q_259_169 rfl ?_
                      refine PW.istore_n q_259_171 (by decide) ?_
                      refine PW.goto q_259_172 rfl ?_
                      refine PW.incN q_259_185 rfl (by decide) (by decide) (by omega) (by omega) fun x184 hx184 => ?_
                      refine PW.goto q_259_188 rfl ?_
                      refine PW.lvS (lk1 rfl (lk1 rfl (lk1 rfl (lk1 rfl (lk1 rfl lk0))))) (ih_L259_117_53 _ ?_ M170 v55 x184 IM170 FM170 (by omega) (by omega) (by omega) (by omega) (gLl.same hbL259_117_534 ((congrArg o_a (UM170.1 298 (by decide))).trans (congrArg o_a (Fr.at GM166 kd_298 rfl))) (by omega)) ((congrArg (fun e => o_i e 2) (UM170.1 294 (by decide))).trans ((congrArg (fun e => o_i e 2) (Fr.at GM166 kd_294 rfl)).trans hbL259_117_535)) rfl)
                      omega
              exact PW.lvS (lk1 rfl (lk1 rfl (lk1 rfl (lk1 rfl (lk1 rfl lk0))))) (L259_117_53 _ M47 c51 c52 IM47 FM47 (by omega) (by omega) (by omega) (by omega) (gLl.same hbL259_89_432 (congrArg o_a (Fr.at GM47 kd_298 rfl)) (by omega)) ((congrArg (fun e => o_i e 2) (Fr.at GM47 kd_294 rfl)).trans hbL259_89_433) rfl)
            · skip
              refine PW.aload_n q_259_94 rfl ?_
              refine PW.gR 304 q_259_95 (Or.inl t_ft_259_59) gF_40_30 kd_294 IML259_89_43.1 (by decide) rfl ?_
              refine PW.iload_n q_259_98 rfl ?_
              refine PW.cI q_259_99 (by decide) fun c185 hc185 => ?_
              refine PW.wI q_259_100 gA_50 kd_304 Stab0 IML259_89_43 (by decide) rfl gC_50_0_3 (by decide) (by omega) (by omega) (n_lo _) (n_hi _) fun M186 IM186 fM186 UM186 => ?_
              have FM186 := Fr.pu FML259_89_43 UM186.1 kd_304 (rfl : List.contains [40, 42, 44, 47, 48, 50] 50 = true)
              have tr187 : o_i (M186 294) 29 = o_i (ML259_89_43 294) 29 := by rw [UM186.1 294 (g_ne kd_294 kd_304 (by decide))]
              have tr188 : o_i (M186 294) 23 = o_i (ML259_89_43 294) 23 := by rw [UM186.1 294 (g_ne kd_294 kd_304 (by decide))]
              refine PW.incN q_259_101 rfl (by decide) (by decide) (by omega) (by omega) fun x189 hx189 => ?_
              refine PW.goto q_259_104 rfl ?_
              refine PW.lvS (lk1 rfl (lk1 rfl (lk1 rfl lk0))) (ih_L259_89_43 _ ?_ M186 x189 IM186 FM186 (by omega) (by omega) (gLl.same hbL259_89_432 (congrArg o_a (UM186.1 298 (by decide))) (by omega)) ((congrArg (fun e => o_i e 2) (UM186.1 294 (by decide))).trans hbL259_89_433) rfl)
              omega
          exact PW.lvS (lk1 rfl (lk1 rfl (lk1 rfl lk0))) (L259_89_43 _ M39 c42 IM39 FM39 (by omega) (by omega) (gLl.same hbL259_39_360 (congrArg o_a (Fr.at GM39 kd_298 rfl)) (by omega)) ((congrArg (fun e => o_i e 2) (Fr.at GM39 kd_294 rfl)).trans hbL259_39_362) rfl)
        · skip
          refine PW.aload_n q_259_46 rfl ?_
          refine PW.cV (as := []) (rest := []) q_259_47 t_mv_259_372 kd_294 IML259_39_36.1 (by decide) rfl (by decide) rfl rfl (Nat.le_of_ble_eq_true rfl) (Nat.le_of_ble_eq_true rfl) (by decide) (by decide) ?_
          refine PW.up (by decide) (c_X12_logLine G _ ML259_39_36 IML259_39_36 (by omega) fun x191 M190 IM190 GM190 hx191 kx191 PM190 TM190 => ?_)
          have FM190 := Fr.trans FML259_39_36 GM190 (rfl)
          refine PW.jz_eq q_259_50 rfl (fun h192 => ?_) (fun h192 => ?_)
          · skip
            refine PW.cB q_259_62 (by decide) fun c193 hc193 => ?_
            refine PW.aload_n q_259_64 rfl ?_
            refine PW.gI q_259_65 (Or.inl t_ft_259_164) gF_40_16 kd_294 IM190.1 (by decide) fun x194 fx194 hx194 kx194 => ?_
            clear hx194 kx194
            refine PW.subH q_259_68 fun x195 => ?_
            refine PW.rI q_259_69 rfl (by decide) (by decide) ?_
            exact hK x195 M190 IM190 FM190 (Or.inl ⟨by omega, by omega, (TM190.trans hbL259_39_362)⟩)
          · skip
            obtain ⟨le1, le2, le3⟩ := PM190.resolve_left (by omega)
            refine PW.aload_n q_259_53 rfl ?_
            refine PW.cB q_259_54 (by decide) fun c196 hc196 => ?_
            refine PW.cV (as := [_]) (rest := []) q_259_56 t_mv_259_235 kd_294 IM190.1 (by decide) rfl (by decide) rfl rfl (Nat.le_of_ble_eq_true rfl) (Nat.le_of_ble_eq_true rfl) (by decide) (by decide) ?_
            have SM190 : Iv (gSv M190) M190 := gSv.of IM190
            refine PW.up (by decide) (c_X12_sign (gSv M190) (StabSv M190) G _ M190 SM190 c196 fun x198 M197 IM197 GM197 hx198 kx198 PM197 TM197 => ?_)
            have FM197 := Fr.trans FM190 GM197 (rfl)
            have QM197 : Iv gTT M197 := ⟨IM197.1, IM197.2.1⟩
            have tr199 : o_i (M197 294) 29 = o_i (M190 294) 29 := IM197.2.2.1
            have tr200 : o_i (M197 294) 33 = o_i (M190 294) 33 := IM197.2.2.2.1
            have tr201 : o_i (M197 294) 35 = o_i (M190 294) 35 := IM197.2.2.2.2.1
            have tr202 : o_i (M197 294) 37 = o_i (M190 294) 37 := IM197.2.2.2.2.2.1
            have srM197 : o_a (M197 298) = o_a (M190 298) := IM197.2.2.2.2.2.2.1
            have skM197 : o_a (M197 305) = o_a (M190 305) := IM197.2.2.2.2.2.2.2
            refine PW.jz_ne q_259_59 rfl (fun h203 => ?_) (fun h203 => ?_)
            · skip
              refine PW.aload_n q_259_70 rfl ?_
              refine PW.dup q_259_71 rfl ?_
              refine PW.gI q_259_72 (Or.inl t_ft_259_369) gF_40_29 kd_294 QM197.1 (by decide) fun x204 fx204 hx204 kx204 => ?_
              have trx204 := o_i_of fx204
              refine PW.cI q_259_75 (by decide) fun c205 hc205 => ?_
              refine PW.addN q_259_76 (by omega) (by omega) fun x206 hx206 => ?_
              refine PW.pT q_259_77 (Or.inl t_ft_259_369) gF_40_29 gP_40_29 kd_294 QM197 (by decide) rfl (by omega) (by omega) fun M207 IM207 fM207 UM207 => ?_
              have FM207 := Fr.pu FM197 UM207.1 kd_294 (rfl : List.contains [40, 42, 44, 47, 48, 50] 40 = true)
              have tr208 := o_i_of fM207
              have tr209 := UM207.i (c := 294) (k := 23) (Or.inr (by decide))
              refine PW.goto q_259_80 rfl ?_
              refine PW.lvS (lk1 rfl (lk1 rfl lk0)) (ih_L259_39_36 _ ?_ M207  IM207 FM207 (gLl.same le3 ((congrArg o_a (UM207.1 298 (by decide))).trans (congrArg o_a (Fr.at GM197 kd_298 rfl))) (by omega)) (by omega) ((UM207.i (c := 294) (k := 2) (Or.inr (by decide))).trans (TM197.trans (TM190.trans hbL259_39_362))) rfl)
              omega
            · skip
              refine PW.cB q_259_62 (by decide) fun c210 hc210 => ?_
              refine PW.aload_n q_259_64 rfl ?_
              refine PW.gI q_259_65 (Or.inl t_ft_259_164) gF_40_16 kd_294 QM197.1 (by decide) fun x211 fx211 hx211 kx211 => ?_
              clear hx211 kx211
              refine PW.subH q_259_68 fun x212 => ?_
              refine PW.rI q_259_69 rfl (by decide) (by decide) ?_
              exact hK x212 M197 QM197 FM197 (Or.inl ⟨by omega, by omega, (TM197.trans (TM190.trans hbL259_39_362))⟩)
      exact PW.lvS (lk1 rfl (lk1 rfl lk0)) (L259_39_36 _ M31  QM31 FM31 (gLl.zero (by omega)) (by omega) (TM31.1.trans ((UM28.i (c := 294) (k := 2) (Or.inr (by decide))).trans ((UM24.i (c := 294) (k := 2) (Or.inr (by decide))).trans TM18.1))) rfl)
