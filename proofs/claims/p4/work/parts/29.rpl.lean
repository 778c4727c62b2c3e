theorem q_186_0 : p_tb 186 0 = some (.aload_n 0, 1) := by decide +kernel
theorem q_186_1 : p_tb 186 1 = some (.invokevirtual 187, 3) := by decide +kernel
theorem q_186_4 : p_tb 186 4 = some (.ifCond .ne 9, 3) := by decide +kernel
theorem q_186_7 : p_tb 186 7 = some (.aload_n 0, 1) := by decide +kernel
theorem q_186_8 : p_tb 186 8 = some (.iconst 1, 1) := by decide +kernel
theorem q_186_9 : p_tb 186 9 = some (.invokevirtual 170, 3) := by decide +kernel
theorem q_186_12 : p_tb 186 12 = some (.ireturn, 1) := by decide +kernel
theorem q_186_13 : p_tb 186 13 = some (.aload_n 0, 1) := by decide +kernel
theorem q_186_14 : p_tb 186 14 = some (.bipush 8, 2) := by decide +kernel
theorem q_186_16 : p_tb 186 16 = some (.aload_n 0, 1) := by decide +kernel
theorem q_186_17 : p_tb 186 17 = some (.getfield 37, 3) := by decide +kernel
theorem q_186_20 : p_tb 186 20 = some (.iconst 0, 1) := by decide +kernel
theorem q_186_21 : p_tb 186 21 = some (.iaload, 1) := by decide +kernel
theorem q_186_22 : p_tb 186 22 = some (.invokevirtual 191, 3) := by decide +kernel
theorem q_186_25 : p_tb 186 25 = some (.ifCond .ge 18, 3) := by decide +kernel
theorem q_186_28 : p_tb 186 28 = some (.aload_n 0, 1) := by decide +kernel
theorem q_186_29 : p_tb 186 29 = some (.bipush 14, 2) := by decide +kernel
theorem q_186_31 : p_tb 186 31 = some (.aload_n 0, 1) := by decide +kernel
theorem q_186_32 : p_tb 186 32 = some (.getfield 37, 3) := by decide +kernel
theorem q_186_35 : p_tb 186 35 = some (.iconst 1, 1) := by decide +kernel
theorem q_186_36 : p_tb 186 36 = some (.iaload, 1) := by decide +kernel
theorem q_186_37 : p_tb 186 37 = some (.invokevirtual 191, 3) := by decide +kernel
theorem q_186_40 : p_tb 186 40 = some (.ifCond .lt 9, 3) := by decide +kernel
theorem q_186_43 : p_tb 186 43 = some (.aload_n 0, 1) := by decide +kernel
theorem q_186_44 : p_tb 186 44 = some (.iconst 3, 1) := by decide +kernel
theorem q_186_45 : p_tb 186 45 = some (.invokevirtual 170, 3) := by decide +kernel
theorem q_186_48 : p_tb 186 48 = some (.ireturn, 1) := by decide +kernel
theorem q_186_49 : p_tb 186 49 = some (.aload_n 0, 1) := by decide +kernel
theorem q_186_50 : p_tb 186 50 = some (.getfield 43, 3) := by decide +kernel
theorem q_186_53 : p_tb 186 53 = some (.iload_n 1, 1) := by decide +kernel
theorem q_186_54 : p_tb 186 54 = some (.aload_n 0, 1) := by decide +kernel
theorem q_186_55 : p_tb 186 55 = some (.getfield 157, 3) := by decide +kernel
theorem q_186_58 : p_tb 186 58 = some (.lastore, 1) := by decide +kernel
theorem q_186_59 : p_tb 186 59 = some (.aload_n 0, 1) := by decide +kernel
theorem q_186_60 : p_tb 186 60 = some (.invokevirtual 173, 3) := by decide +kernel
theorem q_186_63 : p_tb 186 63 = some (.iconst 1, 1) := by decide +kernel
theorem q_186_64 : p_tb 186 64 = some (.ireturn, 1) := by decide +kernel
theorem t_ft_186_157 : p_f2 p_ft (p_mK 186) 157 = some (11, 17) := by decide +kernel
theorem t_ft_186_37 : p_f2 p_ft (p_mK 186) 37 = some (11, 7) := by decide +kernel
theorem t_ft_186_43 : p_f2 p_ft (p_mK 186) 43 = some (11, 9) := by decide +kernel
theorem t_mv_186_170 : p_f2 p_mv (p_mK 186) 170 = some 178 := by decide +kernel
theorem t_mv_186_173 : p_f2 p_mv (p_mK 186) 173 = some 177 := by decide +kernel
theorem t_mv_186_187 : p_f2 p_mv (p_mK 186) 187 = some 182 := by decide +kernel
theorem t_mv_186_191 : p_f2 p_mv (p_mK 186) 191 = some 185 := by decide +kernel
theorem gB_43_0_0 : gB 43 0 0 0 6 := gB.of (by decide +kernel)
theorem gB_43_1_1 : gB 43 1 1 0 2 := gB.of (by decide +kernel)
theorem q_187_0 : p_tb 187 0 = some (.aload_n 0, 1) := by decide +kernel
theorem q_187_1 : p_tb 187 1 = some (.invokevirtual 187, 3) := by decide +kernel
theorem q_187_4 : p_tb 187 4 = some (.ifCond .ne 9, 3) := by decide +kernel
theorem q_187_7 : p_tb 187 7 = some (.aload_n 0, 1) := by decide +kernel
theorem q_187_8 : p_tb 187 8 = some (.iconst 1, 1) := by decide +kernel
theorem q_187_9 : p_tb 187 9 = some (.invokevirtual 170, 3) := by decide +kernel
theorem q_187_12 : p_tb 187 12 = some (.ireturn, 1) := by decide +kernel
theorem q_187_13 : p_tb 187 13 = some (.aload_n 0, 1) := by decide +kernel
theorem q_187_14 : p_tb 187 14 = some (.aload_n 0, 1) := by decide +kernel
theorem q_187_15 : p_tb 187 15 = some (.iload_n 1, 1) := by decide +kernel
theorem q_187_16 : p_tb 187 16 = some (.iload_n 2, 1) := by decide +kernel
theorem q_187_17 : p_tb 187 17 = some (.invokevirtual 191, 3) := by decide +kernel
theorem q_187_20 : p_tb 187 20 = some (.putfield 180, 3) := by decide +kernel
theorem q_187_23 : p_tb 187 23 = some (.aload_n 0, 1) := by decide +kernel
theorem q_187_24 : p_tb 187 24 = some (.getfield 180, 3) := by decide +kernel
theorem q_187_27 : p_tb 187 27 = some (.ifCond .ge 11, 3) := by decide +kernel
theorem q_187_30 : p_tb 187 30 = some (.aload_n 0, 1) := by decide +kernel
theorem q_187_31 : p_tb 187 31 = some (.iconst 3, 1) := by decide +kernel
theorem q_187_32 : p_tb 187 32 = some (.invokevirtual 170, 3) := by decide +kernel
theorem q_187_35 : p_tb 187 35 = some (.ifCond .eq 7, 3) := by decide +kernel
theorem q_187_38 : p_tb 187 38 = some (.iconst 1, 1) := by decide +kernel
theorem q_187_39 : p_tb 187 39 = some (.goto 4, 3) := by decide +kernel
theorem q_187_42 : p_tb 187 42 = some (.iconst 0, 1) := by decide +kernel
theorem q_187_43 : p_tb 187 43 = some (.ireturn, 1) := by decide +kernel
theorem t_ft_187_180 : p_f2 p_ft (p_mK 187) 180 = some (11, 18) := by decide +kernel
theorem t_mv_187_170 : p_f2 p_mv (p_mK 187) 170 = some 178 := by decide +kernel
theorem t_mv_187_187 : p_f2 p_mv (p_mK 187) 187 = some 182 := by decide +kernel
theorem t_mv_187_191 : p_f2 p_mv (p_mK 187) 191 = some 185 := by decide +kernel
theorem q_188_0 : p_tb 188 0 = some (.aload_n 0, 1) := by decide +kernel
theorem q_188_1 : p_tb 188 1 = some (.getfield 195, 3) := by decide +kernel
theorem q_188_4 : p_tb 188 4 = some (.iload_n 1, 1) := by decide +kernel
theorem q_188_5 : p_tb 188 5 = some (.invokestatic 198, 3) := by decide +kernel
theorem q_188_8 : p_tb 188 8 = some (.ifCond .eq 9, 3) := by decide +kernel
theorem q_188_11 : p_tb 188 11 = some (.aload_n 0, 1) := by decide +kernel
theorem q_188_12 : p_tb 188 12 = some (.iconst 3, 1) := by decide +kernel
theorem q_188_13 : p_tb 188 13 = some (.invokevirtual 170, 3) := by decide +kernel
theorem q_188_16 : p_tb 188 16 = some (.ireturn, 1) := by decide +kernel
theorem q_188_17 : p_tb 188 17 = some (.aload_n 0, 1) := by decide +kernel
theorem q_188_18 : p_tb 188 18 = some (.dup, 1) := by decide +kernel
theorem q_188_19 : p_tb 188 19 = some (.getfield 195, 3) := by decide +kernel
theorem q_188_22 : p_tb 188 22 = some (.iconst 1, 1) := by decide +kernel
theorem q_188_23 : p_tb 188 23 = some (.iload_n 1, 1) := by decide +kernel
theorem q_188_24 : p_tb 188 24 = some (.ishl, 1) := by decide +kernel
theorem q_188_25 : p_tb 188 25 = some (.ior, 1) := by decide +kernel
theorem q_188_26 : p_tb 188 26 = some (.putfield 195, 3) := by decide +kernel
theorem q_188_29 : p_tb 188 29 = some (.aload_n 0, 1) := by decide +kernel
theorem q_188_30 : p_tb 188 30 = some (.invokevirtual 173, 3) := by decide +kernel
theorem q_188_33 : p_tb 188 33 = some (.iconst 1, 1) := by decide +kernel
theorem q_188_34 : p_tb 188 34 = some (.ireturn, 1) := by decide +kernel
theorem t_ft_188_195 : p_f2 p_ft (p_mK 188) 195 = some (11, 20) := by decide +kernel
theorem t_ms_188_198 : p_f2 p_ms (p_mK 188) 198 = some 167 := by decide +kernel
theorem t_mv_188_170 : p_f2 p_mv (p_mK 188) 170 = some 178 := by decide +kernel
theorem t_mv_188_173 : p_f2 p_mv (p_mK 188) 173 = some 177 := by decide +kernel
theorem q_191_0 : p_tb 191 0 = some (.aload_n 0, 1) := by decide +kernel
theorem q_191_1 : p_tb 191 1 = some (.ldc2_w 90, 3) := by decide +kernel
theorem q_191_4 : p_tb 191 4 = some (.invokevirtual 201, 3) := by decide +kernel
theorem q_191_7 : p_tb 191 7 = some (.ifCond .eq 5, 3) := by decide +kernel
theorem q_191_10 : p_tb 191 10 = some (.iconst 0, 1) := by decide +kernel
theorem q_191_11 : p_tb 191 11 = some (.ireturn, 1) := by decide +kernel
theorem q_191_12 : p_tb 191 12 = some (.aload_n 0, 1) := by decide +kernel
theorem q_191_13 : p_tb 191 13 = some (.ldc2_w 92, 3) := by decide +kernel
theorem q_191_16 : p_tb 191 16 = some (.invokevirtual 201, 3) := by decide +kernel
theorem q_191_19 : p_tb 191 19 = some (.ifCond .eq 5, 3) := by decide +kernel
theorem q_191_22 : p_tb 191 22 = some (.iconst 1, 1) := by decide +kernel
theorem q_191_23 : p_tb 191 23 = some (.ireturn, 1) := by decide +kernel
theorem q_191_24 : p_tb 191 24 = some (.aload_n 0, 1) := by decide +kernel
theorem q_191_25 : p_tb 191 25 = some (.ldc2_w 94, 3) := by decide +kernel
theorem q_191_28 : p_tb 191 28 = some (.invokevirtual 201, 3) := by decide +kernel
theorem q_191_31 : p_tb 191 31 = some (.ifCond .eq 5, 3) := by decide +kernel
theorem q_191_34 : p_tb 191 34 = some (.iconst 2, 1) := by decide +kernel
theorem q_191_35 : p_tb 191 35 = some (.ireturn, 1) := by decide +kernel
theorem q_191_36 : p_tb 191 36 = some (.aload_n 0, 1) := by decide +kernel
theorem q_191_37 : p_tb 191 37 = some (.ldc2_w 96, 3) := by decide +kernel
theorem q_191_40 : p_tb 191 40 = some (.invokevirtual 201, 3) := by decide +kernel
theorem q_191_43 : p_tb 191 43 = some (.ifCond .eq 7, 3) := by decide +kernel
theorem q_191_46 : p_tb 191 46 = some (.iconst 3, 1) := by decide +kernel
theorem q_191_47 : p_tb 191 47 = some (.goto 4, 3) := by decide +kernel
theorem q_191_50 : p_tb 191 50 = some (.iconst (-1), 1) := by decide +kernel
theorem q_191_51 : p_tb 191 51 = some (.ireturn, 1) := by decide +kernel
theorem t_lt_191_90 : p_f2 p_lt (p_mK 191) 90 = some (478694368626) := by decide +kernel
theorem t_lt_191_92 : p_f2 p_lt (p_mK 191) 92 = some (1852137842) := by decide +kernel
theorem t_lt_191_94 : p_f2 p_lt (p_mK 191) 94 = some (1818325876) := by decide +kernel
theorem t_lt_191_96 : p_f2 p_lt (p_mK 191) 96 = some (1667329132) := by decide +kernel
theorem t_mv_191_201 : p_f2 p_mv (p_mK 191) 201 = some 179 := by decide +kernel
theorem q_190_0 : p_tb 190 0 = some (.aload_n 0, 1) := by decide +kernel
theorem q_190_1 : p_tb 190 1 = some (.getfield 37, 3) := by decide +kernel
theorem q_190_4 : p_tb 190 4 = some (.iconst 0, 1) := by decide +kernel
theorem q_190_5 : p_tb 190 5 = some (.iaload, 1) := by decide +kernel
theorem q_190_6 : p_tb 190 6 = some (.istore_n 1, 1) := by decide +kernel
theorem q_190_7 : p_tb 190 7 = some (.iload_n 1, 1) := by decide +kernel
theorem q_190_8 : p_tb 190 8 = some (.bipush 6, 2) := by decide +kernel
theorem q_190_10 : p_tb 190 10 = some (.if_icmp .ne 9, 3) := by decide +kernel
theorem q_190_13 : p_tb 190 13 = some (.aload_n 0, 1) := by decide +kernel
theorem q_190_14 : p_tb 190 14 = some (.iconst 4, 1) := by decide +kernel
theorem q_190_15 : p_tb 190 15 = some (.invokevirtual 170, 3) := by decide +kernel
theorem q_190_18 : p_tb 190 18 = some (.ireturn, 1) := by decide +kernel
theorem q_190_19 : p_tb 190 19 = some (.aload_n 0, 1) := by decide +kernel
theorem q_190_20 : p_tb 190 20 = some (.dup, 1) := by decide +kernel
theorem q_190_21 : p_tb 190 21 = some (.getfield 195, 3) := by decide +kernel
theorem q_190_24 : p_tb 190 24 = some (.iconst 1, 1) := by decide +kernel
theorem q_190_25 : p_tb 190 25 = some (.ior, 1) := by decide +kernel
theorem q_190_26 : p_tb 190 26 = some (.putfield 195, 3) := by decide +kernel
theorem q_190_29 : p_tb 190 29 = some (.aload_n 0, 1) := by decide +kernel
theorem q_190_30 : p_tb 190 30 = some (.invokevirtual 173, 3) := by decide +kernel
theorem q_190_33 : p_tb 190 33 = some (.aload_n 0, 1) := by decide +kernel
theorem q_190_34 : p_tb 190 34 = some (.bipush 8, 2) := by decide +kernel
theorem q_190_36 : p_tb 190 36 = some (.iload_n 1, 1) := by decide +kernel
theorem q_190_37 : p_tb 190 37 = some (.iadd, 1) := by decide +kernel
theorem q_190_38 : p_tb 190 38 = some (.invokevirtual 220, 3) := by decide +kernel
theorem q_190_41 : p_tb 190 41 = some (.ifCond .eq 34, 3) := by decide +kernel
theorem q_190_44 : p_tb 190 44 = some (.aload_n 0, 1) := by decide +kernel
theorem q_190_45 : p_tb 190 45 = some (.iconst 5, 1) := by decide +kernel
theorem q_190_46 : p_tb 190 46 = some (.iload_n 1, 1) := by decide +kernel
theorem q_190_47 : p_tb 190 47 = some (.iadd, 1) := by decide +kernel
theorem q_190_48 : p_tb 190 48 = some (.iconst 0, 1) := by decide +kernel
theorem q_190_49 : p_tb 190 49 = some (.aload_n 0, 1) := by decide +kernel
theorem q_190_50 : p_tb 190 50 = some (.getfield 37, 3) := by decide +kernel
theorem q_190_53 : p_tb 190 53 = some (.iconst 2, 1) := by decide +kernel
theorem q_190_54 : p_tb 190 54 = some (.iaload, 1) := by decide +kernel
theorem q_190_55 : p_tb 190 55 = some (.invokevirtual 208, 3) := by decide +kernel
theorem q_190_58 : p_tb 190 58 = some (.ifCond .eq 17, 3) := by decide +kernel
theorem q_190_61 : p_tb 190 61 = some (.aload_n 0, 1) := by decide +kernel
theorem q_190_62 : p_tb 190 62 = some (.bipush 11, 2) := by decide +kernel
theorem q_190_64 : p_tb 190 64 = some (.iload_n 1, 1) := by decide +kernel
theorem q_190_65 : p_tb 190 65 = some (.iadd, 1) := by decide +kernel
theorem q_190_66 : p_tb 190 66 = some (.iconst 0, 1) := by decide +kernel
theorem q_190_67 : p_tb 190 67 = some (.bipush 9, 2) := by decide +kernel
theorem q_190_69 : p_tb 190 69 = some (.invokevirtual 208, 3) := by decide +kernel
theorem q_190_72 : p_tb 190 72 = some (.ifCond .ne 5, 3) := by decide +kernel
theorem q_190_75 : p_tb 190 75 = some (.iconst 0, 1) := by decide +kernel
theorem q_190_76 : p_tb 190 76 = some (.ireturn, 1) := by decide +kernel
theorem q_190_77 : p_tb 190 77 = some (.aload_n 0, 1) := by decide +kernel
theorem q_190_78 : p_tb 190 78 = some (.getfield 37, 3) := by decide +kernel
theorem q_190_81 : p_tb 190 81 = some (.bipush 17, 2) := by decide +kernel
theorem q_190_83 : p_tb 190 83 = some (.iload_n 1, 1) := by decide +kernel
theorem q_190_84 : p_tb 190 84 = some (.iadd, 1) := by decide +kernel
theorem q_190_85 : p_tb 190 85 = some (.aload_n 0, 1) := by decide +kernel
theorem q_190_86 : p_tb 190 86 = some (.ldc2_w 86, 3) := by decide +kernel
theorem q_190_89 : p_tb 190 89 = some (.invokevirtual 201, 3) := by decide +kernel
theorem q_190_92 : p_tb 190 92 = some (.ifCond .eq 7, 3) := by decide +kernel
theorem q_190_95 : p_tb 190 95 = some (.iconst 1, 1) := by decide +kernel
theorem q_190_96 : p_tb 190 96 = some (.goto 4, 3) := by decide +kernel
theorem q_190_99 : p_tb 190 99 = some (.iconst 0, 1) := by decide +kernel
theorem q_190_100 : p_tb 190 100 = some (.iastore, 1) := by decide +kernel
theorem q_190_101 : p_tb 190 101 = some (.aload_n 0, 1) := by decide +kernel
theorem q_190_102 : p_tb 190 102 = some (.ldc2_w 86, 3) := by decide +kernel
theorem q_190_105 : p_tb 190 105 = some (.invokevirtual 201, 3) := by decide +kernel
theorem q_190_108 : p_tb 190 108 = some (.ifCond .eq 7, 3) := by decide +kernel
theorem q_190_111 : p_tb 190 111 = some (.aload_n 0, 1) := by decide +kernel
theorem q_190_112 : p_tb 190 112 = some (.invokevirtual 173, 3) := by decide +kernel
theorem q_190_115 : p_tb 190 115 = some (.aload_n 0, 1) := by decide +kernel
theorem q_190_116 : p_tb 190 116 = some (.getfield 37, 3) := by decide +kernel
theorem q_190_119 : p_tb 190 119 = some (.iconst 0, 1) := by decide +kernel
theorem q_190_120 : p_tb 190 120 = some (.dup2, 1) := by decide +kernel
theorem q_190_121 : p_tb 190 121 = some (.iaload, 1) := by decide +kernel
theorem q_190_122 : p_tb 190 122 = some (.iconst 1, 1) := by decide +kernel
theorem q_190_123 : p_tb 190 123 = some (.iadd, 1) := by decide +kernel
theorem q_190_124 : p_tb 190 124 = some (.iastore, 1) := by decide +kernel
theorem q_190_125 : p_tb 190 125 = some (.iconst 1, 1) := by decide +kernel
theorem q_190_126 : p_tb 190 126 = some (.ireturn, 1) := by decide +kernel
theorem t_ft_190_195 : p_f2 p_ft (p_mK 190) 195 = some (11, 20) := by decide +kernel
theorem t_ft_190_37 : p_f2 p_ft (p_mK 190) 37 = some (11, 7) := by decide +kernel
theorem t_lt_190_86 : p_f2 p_lt (p_mK 190) 86 = some (1650549611) := by decide +kernel
theorem t_mv_190_170 : p_f2 p_mv (p_mK 190) 170 = some 178 := by decide +kernel
theorem t_mv_190_173 : p_f2 p_mv (p_mK 190) 173 = some 177 := by decide +kernel
theorem t_mv_190_201 : p_f2 p_mv (p_mK 190) 201 = some 179 := by decide +kernel
theorem t_mv_190_208 : p_f2 p_mv (p_mK 190) 208 = some 184 := by decide +kernel
theorem t_mv_190_220 : p_f2 p_mv (p_mK 190) 220 = some 186 := by decide +kernel
theorem gC_43_0_0 : gC 43 0 0 0 6 := gC.of (by decide +kernel)
theorem gC_43_17_22 : gC 43 17 22 (-2147483648) 2147483647 := gC.of (by decide +kernel)
theorem q_192_0 : p_tb 192 0 = some (.aload_n 0, 1) := by decide +kernel
theorem q_192_1 : p_tb 192 1 = some (.getfield 37, 3) := by decide +kernel
theorem q_192_4 : p_tb 192 4 = some (.iconst 1, 1) := by decide +kernel
theorem q_192_5 : p_tb 192 5 = some (.iaload, 1) := by decide +kernel
theorem q_192_6 : p_tb 192 6 = some (.istore_n 1, 1) := by decide +kernel
theorem q_192_7 : p_tb 192 7 = some (.iload_n 1, 1) := by decide +kernel
theorem q_192_8 : p_tb 192 8 = some (.iconst 2, 1) := by decide +kernel
theorem q_192_9 : p_tb 192 9 = some (.if_icmp .ne 9, 3) := by decide +kernel
theorem q_192_12 : p_tb 192 12 = some (.aload_n 0, 1) := by decide +kernel
theorem q_192_13 : p_tb 192 13 = some (.iconst 4, 1) := by decide +kernel
theorem q_192_14 : p_tb 192 14 = some (.invokevirtual 170, 3) := by decide +kernel
theorem q_192_17 : p_tb 192 17 = some (.ireturn, 1) := by decide +kernel
theorem q_192_18 : p_tb 192 18 = some (.aload_n 0, 1) := by decide +kernel
theorem q_192_19 : p_tb 192 19 = some (.invokevirtual 173, 3) := by decide +kernel
theorem q_192_22 : p_tb 192 22 = some (.aload_n 0, 1) := by decide +kernel
theorem q_192_23 : p_tb 192 23 = some (.bipush 14, 2) := by decide +kernel
theorem q_192_25 : p_tb 192 25 = some (.iload_n 1, 1) := by decide +kernel
theorem q_192_26 : p_tb 192 26 = some (.iadd, 1) := by decide +kernel
theorem q_192_27 : p_tb 192 27 = some (.invokevirtual 220, 3) := by decide +kernel
theorem q_192_30 : p_tb 192 30 = some (.ifCond .eq 18, 3) := by decide +kernel
theorem q_192_33 : p_tb 192 33 = some (.aload_n 0, 1) := by decide +kernel
theorem q_192_34 : p_tb 192 34 = some (.bipush 8, 2) := by decide +kernel
theorem q_192_36 : p_tb 192 36 = some (.aload_n 0, 1) := by decide +kernel
theorem q_192_37 : p_tb 192 37 = some (.getfield 37, 3) := by decide +kernel
theorem q_192_40 : p_tb 192 40 = some (.iconst 0, 1) := by decide +kernel
theorem q_192_41 : p_tb 192 41 = some (.iaload, 1) := by decide +kernel
theorem q_192_42 : p_tb 192 42 = some (.invokevirtual 217, 3) := by decide +kernel
theorem q_192_45 : p_tb 192 45 = some (.ifCond .ne 5, 3) := by decide +kernel
theorem q_192_48 : p_tb 192 48 = some (.iconst 0, 1) := by decide +kernel
theorem q_192_49 : p_tb 192 49 = some (.ireturn, 1) := by decide +kernel
theorem q_192_50 : p_tb 192 50 = some (.aload_n 0, 1) := by decide +kernel
theorem q_192_51 : p_tb 192 51 = some (.getfield 37, 3) := by decide +kernel
theorem q_192_54 : p_tb 192 54 = some (.bipush 23, 2) := by decide +kernel
theorem q_192_56 : p_tb 192 56 = some (.iload_n 1, 1) := by decide +kernel
theorem q_192_57 : p_tb 192 57 = some (.iadd, 1) := by decide +kernel
theorem q_192_58 : p_tb 192 58 = some (.aload_n 0, 1) := by decide +kernel
theorem q_192_59 : p_tb 192 59 = some (.getfield 180, 3) := by decide +kernel
theorem q_192_62 : p_tb 192 62 = some (.iastore, 1) := by decide +kernel
theorem q_192_63 : p_tb 192 63 = some (.aload_n 0, 1) := by decide +kernel
theorem q_192_64 : p_tb 192 64 = some (.invokevirtual 173, 3) := by decide +kernel
theorem q_192_67 : p_tb 192 67 = some (.aload_n 0, 1) := by decide +kernel
theorem q_192_68 : p_tb 192 68 = some (.bipush 25, 2) := by decide +kernel
theorem q_192_70 : p_tb 192 70 = some (.iload_n 1, 1) := by decide +kernel
theorem q_192_71 : p_tb 192 71 = some (.iadd, 1) := by decide +kernel
theorem q_192_72 : p_tb 192 72 = some (.iconst 1, 1) := by decide +kernel
theorem q_192_73 : p_tb 192 73 = some (.bipush 30, 2) := by decide +kernel
theorem q_192_75 : p_tb 192 75 = some (.invokevirtual 208, 3) := by decide +kernel
theorem q_192_78 : p_tb 192 78 = some (.ifCond .eq 17, 3) := by decide +kernel
theorem q_192_81 : p_tb 192 81 = some (.aload_n 0, 1) := by decide +kernel
theorem q_192_82 : p_tb 192 82 = some (.bipush 27, 2) := by decide +kernel
theorem q_192_84 : p_tb 192 84 = some (.iload_n 1, 1) := by decide +kernel
theorem q_192_85 : p_tb 192 85 = some (.iadd, 1) := by decide +kernel
theorem q_192_86 : p_tb 192 86 = some (.iconst 0, 1) := by decide +kernel
theorem q_192_87 : p_tb 192 87 = some (.bipush 9, 2) := by decide +kernel
theorem q_192_89 : p_tb 192 89 = some (.invokevirtual 208, 3) := by decide +kernel
theorem q_192_92 : p_tb 192 92 = some (.ifCond .ne 5, 3) := by decide +kernel
theorem q_192_95 : p_tb 192 95 = some (.iconst 0, 1) := by decide +kernel
theorem q_192_96 : p_tb 192 96 = some (.ireturn, 1) := by decide +kernel
theorem q_192_97 : p_tb 192 97 = some (.aload_n 0, 1) := by decide +kernel
theorem q_192_98 : p_tb 192 98 = some (.getfield 37, 3) := by decide +kernel
theorem q_192_101 : p_tb 192 101 = some (.bipush 29, 2) := by decide +kernel
theorem q_192_103 : p_tb 192 103 = some (.iload_n 1, 1) := by decide +kernel
theorem q_192_104 : p_tb 192 104 = some (.iadd, 1) := by decide +kernel
theorem q_192_105 : p_tb 192 105 = some (.aload_n 0, 1) := by decide +kernel
theorem q_192_106 : p_tb 192 106 = some (.invokevirtual 223, 3) := by decide +kernel
theorem q_192_109 : p_tb 192 109 = some (.iastore, 1) := by decide +kernel
theorem q_192_110 : p_tb 192 110 = some (.aload_n 0, 1) := by decide +kernel
theorem q_192_111 : p_tb 192 111 = some (.getfield 37, 3) := by decide +kernel
theorem q_192_114 : p_tb 192 114 = some (.bipush 29, 2) := by decide +kernel
theorem q_192_116 : p_tb 192 116 = some (.iload_n 1, 1) := by decide +kernel
theorem q_192_117 : p_tb 192 117 = some (.iadd, 1) := by decide +kernel
theorem q_192_118 : p_tb 192 118 = some (.iaload, 1) := by decide +kernel
theorem q_192_119 : p_tb 192 119 = some (.ifCond .ge 9, 3) := by decide +kernel
theorem q_192_122 : p_tb 192 122 = some (.aload_n 0, 1) := by decide +kernel
theorem q_192_123 : p_tb 192 123 = some (.iconst 1, 1) := by decide +kernel
theorem q_192_124 : p_tb 192 124 = some (.invokevirtual 170, 3) := by decide +kernel
theorem q_192_127 : p_tb 192 127 = some (.ireturn, 1) := by decide +kernel
theorem q_192_128 : p_tb 192 128 = some (.aload_n 0, 1) := by decide +kernel
theorem q_192_129 : p_tb 192 129 = some (.invokevirtual 173, 3) := by decide +kernel
theorem q_192_132 : p_tb 192 132 = some (.aload_n 0, 1) := by decide +kernel
theorem q_192_133 : p_tb 192 133 = some (.getfield 37, 3) := by decide +kernel
theorem q_192_136 : p_tb 192 136 = some (.iconst 1, 1) := by decide +kernel
theorem q_192_137 : p_tb 192 137 = some (.dup2, 1) := by decide +kernel
theorem q_192_138 : p_tb 192 138 = some (.iaload, 1) := by decide +kernel
theorem q_192_139 : p_tb 192 139 = some (.iconst 1, 1) := by decide +kernel
theorem q_192_140 : p_tb 192 140 = some (.iadd, 1) := by decide +kernel
theorem q_192_141 : p_tb 192 141 = some (.iastore, 1) := by decide +kernel
theorem q_192_142 : p_tb 192 142 = some (.iconst 1, 1) := by decide +kernel
theorem q_192_143 : p_tb 192 143 = some (.ireturn, 1) := by decide +kernel
theorem t_ft_192_180 : p_f2 p_ft (p_mK 192) 180 = some (11, 18) := by decide +kernel
theorem t_ft_192_37 : p_f2 p_ft (p_mK 192) 37 = some (11, 7) := by decide +kernel
theorem t_mv_192_170 : p_f2 p_mv (p_mK 192) 170 = some 178 := by decide +kernel
theorem t_mv_192_173 : p_f2 p_mv (p_mK 192) 173 = some 177 := by decide +kernel
theorem t_mv_192_208 : p_f2 p_mv (p_mK 192) 208 = some 184 := by decide +kernel
theorem t_mv_192_217 : p_f2 p_mv (p_mK 192) 217 = some 187 := by decide +kernel
theorem t_mv_192_220 : p_f2 p_mv (p_mK 192) 220 = some 186 := by decide +kernel
theorem t_mv_192_223 : p_f2 p_mv (p_mK 192) 223 = some 191 := by decide +kernel
theorem gC_43_1_1 : gC 43 1 1 0 2 := gC.of (by decide +kernel)
theorem gC_43_23_24 : gC 43 23 24 0 5 := gC.of (by decide +kernel)
theorem gC_43_29_30 : gC 43 29 30 (-2147483648) 2147483647 := gC.of (by decide +kernel)
theorem q_189_0 : p_tb 189 0 = some (.aload_n 0, 1) := by decide +kernel
theorem q_189_1 : p_tb 189 1 = some (.ldc2_w 78, 3) := by decide +kernel
theorem q_189_4 : p_tb 189 4 = some (.invokevirtual 201, 3) := by decide +kernel
theorem q_189_7 : p_tb 189 7 = some (.ifCond .eq 29, 3) := by decide +kernel
theorem q_189_10 : p_tb 189 10 = some (.aload_n 0, 1) := by decide +kernel
theorem q_189_11 : p_tb 189 11 = some (.iconst 0, 1) := by decide +kernel
theorem q_189_12 : p_tb 189 12 = some (.invokevirtual 205, 3) := by decide +kernel
theorem q_189_15 : p_tb 189 15 = some (.ifCond .eq 19, 3) := by decide +kernel
theorem q_189_18 : p_tb 189 18 = some (.aload_n 0, 1) := by decide +kernel
theorem q_189_19 : p_tb 189 19 = some (.iconst 2, 1) := by decide +kernel
theorem q_189_20 : p_tb 189 20 = some (.iconst 1, 1) := by decide +kernel
theorem q_189_21 : p_tb 189 21 = some (.sipush 900, 3) := by decide +kernel
theorem q_189_24 : p_tb 189 24 = some (.invokevirtual 208, 3) := by decide +kernel
theorem q_189_27 : p_tb 189 27 = some (.ifCond .eq 7, 3) := by decide +kernel
theorem q_189_30 : p_tb 189 30 = some (.iconst 1, 1) := by decide +kernel
theorem q_189_31 : p_tb 189 31 = some (.goto 4, 3) := by decide +kernel
theorem q_189_34 : p_tb 189 34 = some (.iconst 0, 1) := by decide +kernel
theorem q_189_35 : p_tb 189 35 = some (.ireturn, 1) := by decide +kernel
theorem q_189_36 : p_tb 189 36 = some (.aload_n 0, 1) := by decide +kernel
theorem q_189_37 : p_tb 189 37 = some (.ldc2_w 80, 3) := by decide +kernel
theorem q_189_40 : p_tb 189 40 = some (.invokevirtual 201, 3) := by decide +kernel
theorem q_189_43 : p_tb 189 43 = some (.ifCond .eq 28, 3) := by decide +kernel
theorem q_189_46 : p_tb 189 46 = some (.aload_n 0, 1) := by decide +kernel
theorem q_189_47 : p_tb 189 47 = some (.iconst 1, 1) := by decide +kernel
theorem q_189_48 : p_tb 189 48 = some (.invokevirtual 205, 3) := by decide +kernel
theorem q_189_51 : p_tb 189 51 = some (.ifCond .eq 18, 3) := by decide +kernel
theorem q_189_54 : p_tb 189 54 = some (.aload_n 0, 1) := by decide +kernel
theorem q_189_55 : p_tb 189 55 = some (.iconst 3, 1) := by decide +kernel
theorem q_189_56 : p_tb 189 56 = some (.iconst 0, 1) := by decide +kernel
theorem q_189_57 : p_tb 189 57 = some (.bipush 9, 2) := by decide +kernel
theorem q_189_59 : p_tb 189 59 = some (.invokevirtual 208, 3) := by decide +kernel
theorem q_189_62 : p_tb 189 62 = some (.ifCond .eq 7, 3) := by decide +kernel
theorem q_189_65 : p_tb 189 65 = some (.iconst 1, 1) := by decide +kernel
theorem q_189_66 : p_tb 189 66 = some (.goto 4, 3) := by decide +kernel
theorem q_189_69 : p_tb 189 69 = some (.iconst 0, 1) := by decide +kernel
theorem q_189_70 : p_tb 189 70 = some (.ireturn, 1) := by decide +kernel
theorem q_189_71 : p_tb 189 71 = some (.aload_n 0, 1) := by decide +kernel
theorem q_189_72 : p_tb 189 72 = some (.ldc2_w 82, 3) := by decide +kernel
theorem q_189_75 : p_tb 189 75 = some (.invokevirtual 201, 3) := by decide +kernel
theorem q_189_78 : p_tb 189 78 = some (.ifCond .eq 28, 3) := by decide +kernel
theorem q_189_81 : p_tb 189 81 = some (.aload_n 0, 1) := by decide +kernel
theorem q_189_82 : p_tb 189 82 = some (.iconst 2, 1) := by decide +kernel
theorem q_189_83 : p_tb 189 83 = some (.invokevirtual 205, 3) := by decide +kernel
theorem q_189_86 : p_tb 189 86 = some (.ifCond .eq 18, 3) := by decide +kernel
theorem q_189_89 : p_tb 189 89 = some (.aload_n 0, 1) := by decide +kernel
theorem q_189_90 : p_tb 189 90 = some (.iconst 4, 1) := by decide +kernel
theorem q_189_91 : p_tb 189 91 = some (.iconst 1, 1) := by decide +kernel
theorem q_189_92 : p_tb 189 92 = some (.bipush 99, 2) := by decide +kernel
theorem q_189_94 : p_tb 189 94 = some (.invokevirtual 208, 3) := by decide +kernel
theorem q_189_97 : p_tb 189 97 = some (.ifCond .eq 7, 3) := by decide +kernel
theorem q_189_100 : p_tb 189 100 = some (.iconst 1, 1) := by decide +kernel
theorem q_189_101 : p_tb 189 101 = some (.goto 4, 3) := by decide +kernel
theorem q_189_104 : p_tb 189 104 = some (.iconst 0, 1) := by decide +kernel
theorem q_189_105 : p_tb 189 105 = some (.ireturn, 1) := by decide +kernel
theorem q_189_106 : p_tb 189 106 = some (.aload_n 0, 1) := by decide +kernel
theorem q_189_107 : p_tb 189 107 = some (.ldc2_w 84, 3) := by decide +kernel
theorem q_189_110 : p_tb 189 110 = some (.invokevirtual 201, 3) := by decide +kernel
theorem q_189_113 : p_tb 189 113 = some (.ifCond .eq 8, 3) := by decide +kernel
theorem q_189_116 : p_tb 189 116 = some (.aload_n 0, 1) := by decide +kernel
theorem q_189_117 : p_tb 189 117 = some (.invokevirtual 211, 3) := by decide +kernel
theorem q_189_120 : p_tb 189 120 = some (.ireturn, 1) := by decide +kernel
theorem q_189_121 : p_tb 189 121 = some (.aload_n 0, 1) := by decide +kernel
theorem q_189_122 : p_tb 189 122 = some (.ldc2_w 88, 3) := by decide +kernel
theorem q_189_125 : p_tb 189 125 = some (.invokevirtual 201, 3) := by decide +kernel
theorem q_189_128 : p_tb 189 128 = some (.ifCond .eq 8, 3) := by decide +kernel
theorem q_189_131 : p_tb 189 131 = some (.aload_n 0, 1) := by decide +kernel
theorem q_189_132 : p_tb 189 132 = some (.invokevirtual 214, 3) := by decide +kernel
theorem q_189_135 : p_tb 189 135 = some (.ireturn, 1) := by decide +kernel
theorem q_189_136 : p_tb 189 136 = some (.aload_n 0, 1) := by decide +kernel
theorem q_189_137 : p_tb 189 137 = some (.ldc2_w 98, 3) := by decide +kernel
theorem q_189_140 : p_tb 189 140 = some (.invokevirtual 201, 3) := by decide +kernel
theorem q_189_143 : p_tb 189 143 = some (.ifCond .ne 9, 3) := by decide +kernel
theorem q_189_146 : p_tb 189 146 = some (.aload_n 0, 1) := by decide +kernel
theorem q_189_147 : p_tb 189 147 = some (.iconst 1, 1) := by decide +kernel
theorem q_189_148 : p_tb 189 148 = some (.invokevirtual 170, 3) := by decide +kernel
theorem q_189_151 : p_tb 189 151 = some (.ireturn, 1) := by decide +kernel
theorem q_189_152 : p_tb 189 152 = some (.aload_n 0, 1) := by decide +kernel
theorem q_189_153 : p_tb 189 153 = some (.invokevirtual 173, 3) := by decide +kernel
theorem q_189_156 : p_tb 189 156 = some (.aload_n 0, 1) := by decide +kernel
theorem q_189_157 : p_tb 189 157 = some (.bipush 14, 2) := by decide +kernel
theorem q_189_159 : p_tb 189 159 = some (.aload_n 0, 1) := by decide +kernel
theorem q_189_160 : p_tb 189 160 = some (.getfield 37, 3) := by decide +kernel
theorem q_189_163 : p_tb 189 163 = some (.iconst 1, 1) := by decide +kernel
theorem q_189_164 : p_tb 189 164 = some (.iaload, 1) := by decide +kernel
theorem q_189_165 : p_tb 189 165 = some (.invokevirtual 217, 3) := by decide +kernel
theorem q_189_168 : p_tb 189 168 = some (.ifCond .ne 5, 3) := by decide +kernel
theorem q_189_171 : p_tb 189 171 = some (.iconst 0, 1) := by decide +kernel
theorem q_189_172 : p_tb 189 172 = some (.ireturn, 1) := by decide +kernel
theorem q_189_173 : p_tb 189 173 = some (.aload_n 0, 1) := by decide +kernel
theorem q_189_174 : p_tb 189 174 = some (.getfield 180, 3) := by decide +kernel
theorem q_189_177 : p_tb 189 177 = some (.istore_n 1, 1) := by decide +kernel
theorem q_189_178 : p_tb 189 178 = some (.aload_n 0, 1) := by decide +kernel
theorem q_189_179 : p_tb 189 179 = some (.getfield 37, 3) := by decide +kernel
theorem q_189_182 : p_tb 189 182 = some (.bipush 31, 2) := by decide +kernel
theorem q_189_184 : p_tb 189 184 = some (.iload_n 1, 1) := by decide +kernel
theorem q_189_185 : p_tb 189 185 = some (.iadd, 1) := by decide +kernel
theorem q_189_186 : p_tb 189 186 = some (.iaload, 1) := by decide +kernel
theorem q_189_187 : p_tb 189 187 = some (.ifCond .le 9, 3) := by decide +kernel
theorem q_189_190 : p_tb 189 190 = some (.aload_n 0, 1) := by decide +kernel
theorem q_189_191 : p_tb 189 191 = some (.iconst 3, 1) := by decide +kernel
theorem q_189_192 : p_tb 189 192 = some (.invokevirtual 170, 3) := by decide +kernel
theorem q_189_195 : p_tb 189 195 = some (.ireturn, 1) := by decide +kernel
theorem q_189_196 : p_tb 189 196 = some (.aload_n 0, 1) := by decide +kernel
theorem q_189_197 : p_tb 189 197 = some (.invokevirtual 173, 3) := by decide +kernel
theorem q_189_200 : p_tb 189 200 = some (.aload_n 0, 1) := by decide +kernel
theorem q_189_201 : p_tb 189 201 = some (.bipush 31, 2) := by decide +kernel
theorem q_189_203 : p_tb 189 203 = some (.iload_n 1, 1) := by decide +kernel
theorem q_189_204 : p_tb 189 204 = some (.iadd, 1) := by decide +kernel
theorem q_189_205 : p_tb 189 205 = some (.iconst 1, 1) := by decide +kernel
theorem q_189_206 : p_tb 189 206 = some (.bipush 20, 2) := by decide +kernel
theorem q_189_208 : p_tb 189 208 = some (.invokevirtual 208, 3) := by decide +kernel
theorem q_189_211 : p_tb 189 211 = some (.ireturn, 1) := by decide +kernel
theorem t_ft_189_180 : p_f2 p_ft (p_mK 189) 180 = some (11, 18) := by decide +kernel
theorem t_ft_189_37 : p_f2 p_ft (p_mK 189) 37 = some (11, 7) := by decide +kernel
theorem t_lt_189_78 : p_f2 p_lt (p_mK 189) 78 = some (1818848869) := by decide +kernel
theorem t_lt_189_80 : p_f2 p_lt (p_mK 189) 80 = some (1651467385) := by decide +kernel
theorem t_lt_189_82 : p_f2 p_lt (p_mK 189) 82 = some (461262647411) := by decide +kernel
theorem t_lt_189_84 : p_f2 p_lt (p_mK 189) 84 = some (131260314510706) := by decide +kernel
theorem t_lt_189_88 : p_f2 p_lt (p_mK 189) 88 = some (6582119) := by decide +kernel
theorem t_lt_189_98 : p_f2 p_lt (p_mK 189) 98 = some (499985311091) := by decide +kernel
theorem t_mv_189_170 : p_f2 p_mv (p_mK 189) 170 = some 178 := by decide +kernel
theorem t_mv_189_173 : p_f2 p_mv (p_mK 189) 173 = some 177 := by decide +kernel
theorem t_mv_189_201 : p_f2 p_mv (p_mK 189) 201 = some 179 := by decide +kernel
theorem t_mv_189_205 : p_f2 p_mv (p_mK 189) 205 = some 188 := by decide +kernel
theorem t_mv_189_208 : p_f2 p_mv (p_mK 189) 208 = some 184 := by decide +kernel
theorem t_mv_189_211 : p_f2 p_mv (p_mK 189) 211 = some 190 := by decide +kernel
theorem t_mv_189_214 : p_f2 p_mv (p_mK 189) 214 = some 192 := by decide +kernel
theorem t_mv_189_217 : p_f2 p_mv (p_mK 189) 217 = some 187 := by decide +kernel
theorem c_X12_fresh_vk (V : pM → Prop) (hV : Stab V) (G : pG) (Kr : pK) (M : pM) (I : Iv V M) (a1 : Int32) (hl_a1 : 8 ≤ a1.toInt) (hh_a1 : a1.toInt ≤ 15) (y : k_X) (i : Nat) (A : k_A) (hp_0 : k_ra y M i) (hp_1 : k_rs M A) (hK : ∀ (x : Int32) (M1 : pM), Iv V M1 → Fr [40, 45] M M1 → 0 ≤ x.toInt → x.toInt ≤ 1 → (gKl [4, 11, 12, 13, 14, 15, 16, 17] M M1 ∧ ((x.toInt = 0 ∧ k_ni y i = 0 ∧ o_i (M1 294) 15 = 1 ∧ o_i (M1 294) 16 = kP y i) ∨ (x.toInt = 0 ∧ k_ni y i = 1 ∧ (k_fd A.2.1 (kV y i) (A.1 0).toNat ≠ -1 ∨ k_fd A.2.2.1 (kV y i) (A.1 1).toNat ≠ -1) ∧ o_i (M1 294) 15 = 3 ∧ o_i (M1 294) 16 = kP y i) ∨ (x.toInt = 1 ∧ k_ni y i = 1 ∧ kK y i = 2 ∧ k_fd A.2.1 (kV y i) (A.1 0).toNat = -1 ∧ k_fd A.2.2.1 (kV y i) (A.1 1).toNat = -1 ∧ ((o_l (M1 299) a1.toInt.toNat).toInt = k_wi (kV y i) ∧ 0 ≤ kV y i ∧ kV y i < 34359738368) ∧ k_ra y M1 (i + 1) ∧ ∀ z, z ≠ a1.toInt.toNat → o_l (M1 299) z = o_l (M 299) z))) → Kr.1 (some (.int x)) 311 M1) : PW G false 2 186 (p_mc 186) (p_msl 186) Kr 0 (lv_args 0 [.ref 294, .int a1]) [] 311 M 0 0 := by
  have F : Fr [40, 45] M M := Fr.refl
  obtain ⟨kc0, kc1, kc11, kc12, kc16, kc17, kc18, kc19⟩ := id hp_1
  have w := k_rW hp_0
  refine PW.aload_n q_186_0 rfl ?_
  refine PW.cV (as := []) (rest := []) q_186_1 t_mv_186_187 kd_294 I.1 (by decide) rfl (by decide) rfl rfl (Nat.le_of_ble_eq_true rfl) (Nat.le_of_ble_eq_true rfl) (by decide) (by decide) ?_
  refine PW.up (by decide) (c_X12_isName_vk (V) (hV) G _ M I _ _ hp_0 fun x2  hx2 kx2 PM1 => ?_)
  rcases PM1 with ⟨PaM1, PbM1⟩ | ⟨PaM1, PbM1, PcM1⟩
  · skip
    refine PW.jz_ne q_186_4 rfl (fun h3 => False.elim (by omega)) (fun h3 => ?_)
    refine PW.aload_n q_186_7 rfl ?_
    refine PW.cI q_186_8 (by decide) fun c4 hc4 => ?_
    refine PW.cV (as := [_]) (rest := []) q_186_9 t_mv_186_170 kd_294 I.1 (by decide) rfl (by decide) rfl rfl (Nat.le_of_ble_eq_true rfl) (Nat.le_of_ble_eq_true rfl) (by decide) (by decide) ?_
    refine PW.up (by decide) (c_X12_bad_vk (V) (hV) G _ M I c4 _ _ hp_0 fun x6 M5 IM5 GM5 hx6 kx6 PM5 => ?_)
    have FM5 := Fr.trans F GM5 (rfl)
    rcases PM5 with ⟨QM5, ⟨PfM5, PgM5⟩⟩
    refine PW.rZ q_186_12 rfl (by omega) (by omega) (by decide) (by decide) ?_
    exact hK x6 M5 IM5 FM5 (by omega) (by omega) ⟨(gKl.refl.tr QM5 rfl), (Or.inl ⟨by omega, by omega, by omega, by omega⟩)⟩
  · skip
    refine PW.jz_ne q_186_4 rfl (fun h7 => ?_) (fun h7 => False.elim (by omega))
    refine PW.aload_n q_186_13 rfl ?_
    refine PW.cB q_186_14 (by decide) fun c8 hc8 => ?_
    refine PW.aload_n q_186_16 rfl ?_
    refine PW.gR 297 q_186_17 (Or.inl t_ft_186_37) gF_40_7 kd_294 I.1 (by decide) rfl ?_
    refine PW.cI q_186_20 (by decide) fun c9 hc9 => ?_
    refine PW.aI q_186_21 gA_43 kd_297 I.1 (by decide) gB_43_0_0 (by decide) (by omega) (by omega) fun x10 fx10 hx10 kx10 => ?_
    have eax10 : x10.toInt = A.1 0 := by rw [← fx10, show c9.toInt.toNat = 0 from by omega]; exact kc0
    refine PW.cV (as := [_, _]) (rest := []) q_186_22 t_mv_186_191 kd_294 I.1 (by decide) rfl (by decide) rfl rfl (Nat.le_of_ble_eq_true rfl) (Nat.le_of_ble_eq_true rfl) (by decide) (by decide) ?_
    refine PW.up (by decide) (c_X12_find_vk (V) (hV) G _ M I c8 x10 (by omega) (by omega) (by omega) (by omega) _ _ A.2.1 (A.1 0) hp_0 kc11 (by omega) (by omega) fun x12  hx12 kx12 PM11 => ?_)
    refine PW.jz_ge q_186_25 rfl (fun h13 => ?_) (fun h13 => ?_)
    · skip
      refine PW.aload_n q_186_43 rfl ?_
      refine PW.cI q_186_44 (by decide) fun c14 hc14 => ?_
      refine PW.cV (as := [_]) (rest := []) q_186_45 t_mv_186_170 kd_294 I.1 (by decide) rfl (by decide) rfl rfl (Nat.le_of_ble_eq_true rfl) (Nat.le_of_ble_eq_true rfl) (by decide) (by decide) ?_
      refine PW.up (by decide) (c_X12_bad_vk (V) (hV) G _ M I c14 _ _ hp_0 fun x16 M15 IM15 GM15 hx16 kx16 PM15 => ?_)
      have FM15 := Fr.trans F GM15 (rfl)
      rcases PM15 with ⟨QM15, ⟨PfM15, PgM15⟩⟩
      refine PW.rZ q_186_48 rfl (by omega) (by omega) (by decide) (by decide) ?_
      exact hK x16 M15 IM15 FM15 (by omega) (by omega) ⟨(gKl.refl.tr QM15 rfl), (Or.inr (Or.inl ⟨by omega, by omega, by omega, by omega, by omega⟩))⟩
    · skip
      refine PW.aload_n q_186_28 rfl ?_
      refine PW.cB q_186_29 (by decide) fun c17 hc17 => ?_
      refine PW.aload_n q_186_31 rfl ?_
      refine PW.gR 297 q_186_32 (Or.inl t_ft_186_37) gF_40_7 kd_294 I.1 (by decide) rfl ?_
      refine PW.cI q_186_35 (by decide) fun c18 hc18 => ?_
      refine PW.aI q_186_36 gA_43 kd_297 I.1 (by decide) gB_43_1_1 (by decide) (by omega) (by omega) fun x19 fx19 hx19 kx19 => ?_
      have eax19 : x19.toInt = A.1 1 := by rw [← fx19, show c18.toInt.toNat = 1 from by omega]; exact kc1
      refine PW.cV (as := [_, _]) (rest := []) q_186_37 t_mv_186_191 kd_294 I.1 (by decide) rfl (by decide) rfl rfl (Nat.le_of_ble_eq_true rfl) (Nat.le_of_ble_eq_true rfl) (by decide) (by decide) ?_
      refine PW.up (by decide) (c_X12_find_vkd (V) (hV) G _ M I c17 x19 (by omega) (by omega) (by omega) (by omega) _ _ A.2.2.1 (A.1 1) hp_0 kc12 (by omega) (by omega) fun x21  hx21 kx21 PM20 => ?_)
      refine PW.jz_lt q_186_40 rfl (fun h22 => ?_) (fun h22 => ?_)
      · skip
        refine PW.aload_n q_186_49 rfl ?_
        refine PW.gR 299 q_186_50 (Or.inl t_ft_186_43) gF_40_9 kd_294 I.1 (by decide) rfl ?_
        refine PW.iload_n q_186_53 rfl ?_
        refine PW.aload_n q_186_54 rfl ?_
        refine PW.gL q_186_55 (Or.inl t_ft_186_157) gF_40_17 kd_294 I.1 (by decide) fun l23 fl23 => ?_
        refine PW.wLX q_186_58 rfl kd_299 hV I (by decide) rfl (by omega) (by omega) fun M24 IM24 fM24 UM24 => ?_
        have FM24 := Fr.pu F UM24.1 kd_299 (rfl : List.contains [40, 45] 45 = true)
        refine PW.aload_n q_186_59 rfl ?_
        refine PW.cV (as := []) (rest := []) q_186_60 t_mv_186_173 kd_294 IM24.1 (by decide) rfl (by decide) rfl rfl (Nat.le_of_ble_eq_true rfl) (Nat.le_of_ble_eq_true rfl) (by decide) (by decide) ?_
        refine PW.up (by decide) (c_X12_go_vk (V) (hV) G _ M24 IM24 _ _ (k_ra.nx (hp_0.cg (UM24.1 294 (by decide)) (UM24.1 295 (by decide)) (UM24.1 300 (by decide))) (by omega)) fun M25 IM25 GM25 PM25 => ?_)
        have FM25 := Fr.trans FM24 GM25 (rfl)
        rcases PM25 with ⟨QM25, PtM25⟩
        refine PW.cI q_186_63 (by decide) fun c26 hc26 => ?_
        refine PW.rZ q_186_64 rfl (by omega) (by omega) (by decide) (by decide) ?_
        exact hK c26 M25 IM25 FM25 (by omega) (by omega) ⟨((gKl.refl.cg (UM24.1 294 (by decide))).tr QM25 rfl), (Or.inr (Or.inr ⟨by omega, by omega, by omega, by omega, by omega, by rw [(congrArg (fun e => o_l e a1.toInt.toNat) (Fr.at GM25 kd_299 (by decide))), fM24]; have w1 := o_J_of fl23; rcases w with q | q; (· exact ⟨w1.symm.trans q.2.2.1, q.2.2.2⟩); (· omega), PtM25, fun z hz => ((congrArg (fun e => o_l e z) (Fr.at GM25 kd_299 (by decide))).trans (UM24.2 z (by omega)))⟩))⟩
      · skip
        refine PW.aload_n q_186_43 rfl ?_
        refine PW.cI q_186_44 (by decide) fun c27 hc27 => ?_
        refine PW.cV (as := [_]) (rest := []) q_186_45 t_mv_186_170 kd_294 I.1 (by decide) rfl (by decide) rfl rfl (Nat.le_of_ble_eq_true rfl) (Nat.le_of_ble_eq_true rfl) (by decide) (by decide) ?_
        refine PW.up (by decide) (c_X12_bad_vk (V) (hV) G _ M I c27 _ _ hp_0 fun x29 M28 IM28 GM28 hx29 kx29 PM28 => ?_)
        have FM28 := Fr.trans F GM28 (rfl)
        rcases PM28 with ⟨QM28, ⟨PfM28, PgM28⟩⟩
        refine PW.rZ q_186_48 rfl (by omega) (by omega) (by decide) (by decide) ?_
        exact hK x29 M28 IM28 FM28 (by omega) (by omega) ⟨(gKl.refl.tr QM28 rfl), (Or.inr (Or.inl ⟨by omega, by omega, by omega, by omega, by omega⟩))⟩
theorem c_X12_looksAt_vk (V : pM → Prop) (hV : Stab V) (G : pG) (Kr : pK) (M : pM) (I : Iv V M) (a1 : Int32) (a2 : Int32) (hl_a1 : 8 ≤ a1.toInt) (hh_a1 : a1.toInt ≤ 8) (hl_a2 : 0 ≤ a2.toInt) (hh_a2 : a2.toInt ≤ 6) (y : k_X) (i : Nat) (A : k_A) (hp_0 : k_ra y M i) (hp_1 : k_rs M A) (hp_2 : a2.toInt = A.1 0) (hK : ∀ (x : Int32) (M1 : pM), Iv V M1 → Fr [40] M M1 → 0 ≤ x.toInt → x.toInt ≤ 1 → (gKl [15, 16, 18] M M1 ∧ ((x.toInt = 0 ∧ k_ni y i = 0 ∧ o_i (M1 294) 15 = 1 ∧ o_i (M1 294) 16 = kP y i) ∨ (x.toInt = 0 ∧ k_ni y i = 1 ∧ k_fd A.2.1 (kV y i) (A.1 0).toNat = -1 ∧ o_i (M1 294) 15 = 3 ∧ o_i (M1 294) 16 = kP y i) ∨ (x.toInt = 1 ∧ k_ni y i = 1 ∧ kK y i = 2 ∧ o_i (M1 294) 18 = k_fd A.2.1 (kV y i) (A.1 0).toNat ∧ k_fd A.2.1 (kV y i) (A.1 0).toNat ≠ -1 ∧ k_ra y M1 i))) → Kr.1 (some (.int x)) 311 M1) : PW G false 1 187 (p_mc 187) (p_msl 187) Kr 0 (lv_args 0 [.ref 294, .int a1, .int a2]) [] 311 M 0 0 := by
  have F : Fr [40] M M := Fr.refl
  obtain ⟨kc0, kc1, kc11, kc12, kc16, kc17, kc18, kc19⟩ := id hp_1
  refine PW.aload_n q_187_0 rfl ?_
  refine PW.cV (as := []) (rest := []) q_187_1 t_mv_187_187 kd_294 I.1 (by decide) rfl (by decide) rfl rfl (Nat.le_of_ble_eq_true rfl) (Nat.le_of_ble_eq_true rfl) (by decide) (by decide) ?_
  refine PW.up (by decide) (c_X12_isName_vk (V) (hV) G _ M I _ _ hp_0 fun x2  hx2 kx2 PM1 => ?_)
  rcases PM1 with ⟨PaM1, PbM1⟩ | ⟨PaM1, PbM1, PcM1⟩
  · skip
    refine PW.jz_ne q_187_4 rfl (fun h3 => False.elim (by omega)) (fun h3 => ?_)
    refine PW.aload_n q_187_7 rfl ?_
    refine PW.cI q_187_8 (by decide) fun c4 hc4 => ?_
    refine PW.cV (as := [_]) (rest := []) q_187_9 t_mv_187_170 kd_294 I.1 (by decide) rfl (by decide) rfl rfl (Nat.le_of_ble_eq_true rfl) (Nat.le_of_ble_eq_true rfl) (by decide) (by decide) ?_
    refine PW.up (by decide) (c_X12_bad_vk (V) (hV) G _ M I c4 _ _ hp_0 fun x6 M5 IM5 GM5 hx6 kx6 PM5 => ?_)
    have FM5 := Fr.trans F GM5 (rfl)
    rcases PM5 with ⟨QM5, ⟨PfM5, PgM5⟩⟩
    refine PW.rZ q_187_12 rfl (by omega) (by omega) (by decide) (by decide) ?_
    exact hK x6 M5 IM5 FM5 (by omega) (by omega) ⟨(gKl.refl.tr QM5 rfl), (Or.inl ⟨by omega, by omega, by omega, by omega⟩)⟩
  · skip
    refine PW.jz_ne q_187_4 rfl (fun h7 => ?_) (fun h7 => False.elim (by omega))
    refine PW.aload_n q_187_13 rfl ?_
    refine PW.aload_n q_187_14 rfl ?_
    refine PW.iload_n q_187_15 rfl ?_
    refine PW.iload_n q_187_16 rfl ?_
    refine PW.cV (as := [_, _]) (rest := [_]) q_187_17 t_mv_187_191 kd_294 I.1 (by decide) rfl (by decide) rfl rfl (Nat.le_of_ble_eq_true rfl) (Nat.le_of_ble_eq_true rfl) (by decide) (by decide) ?_
    refine PW.up (by decide) (c_X12_find_vk (V) (hV) G _ M I a1 a2 (by omega) (by omega) (by omega) (by omega) _ _ A.2.1 (A.1 0) hp_0 kc11 (by omega) (by omega) fun x9  hx9 kx9 PM8 => ?_)
    refine PW.pI q_187_20 (Or.inl t_ft_187_180) gF_40_18 gP_40_18 kd_294 hV I (by decide) rfl (n_lo _) (n_hi _) fun M10 IM10 fM10 UM10 => ?_
    have FM10 := Fr.pu F UM10.1 kd_294 (rfl : List.contains [40] 40 = true)
    refine PW.aload_n q_187_23 rfl ?_
    refine PW.gE q_187_24 (Or.inl t_ft_187_180) gF_40_18 kd_294 IM10.1 (by decide) fM10 ?_
    refine PW.jz_ge q_187_27 rfl (fun h11 => ?_) (fun h11 => ?_)
    · skip
      refine PW.cI q_187_38 (by decide) fun c12 hc12 => ?_
      refine PW.goto q_187_39 rfl ?_
      refine PW.rZ q_187_43 rfl (by omega) (by omega) (by decide) (by decide) ?_
      exact hK c12 M10 IM10 FM10 (by omega) (by omega) ⟨(gKl.refl.put UM10 rfl), (Or.inr (Or.inr ⟨by omega, by omega, by omega, by have w := (o_i_of fM10); omega, by omega, (hp_0.U UM10 rfl)⟩))⟩
    · skip
      refine PW.aload_n q_187_30 rfl ?_
      refine PW.cI q_187_31 (by decide) fun c13 hc13 => ?_
      refine PW.cV (as := [_]) (rest := []) q_187_32 t_mv_187_170 kd_294 IM10.1 (by decide) rfl (by decide) rfl rfl (Nat.le_of_ble_eq_true rfl) (Nat.le_of_ble_eq_true rfl) (by decide) (by decide) ?_
      refine PW.up (by decide) (c_X12_bad_vk (V) (hV) G _ M10 IM10 c13 _ _ (hp_0.U UM10 rfl) fun x15 M14 IM14 GM14 hx15 kx15 PM14 => ?_)
      have FM14 := Fr.trans FM10 GM14 (rfl)
      rcases PM14 with ⟨QM14, ⟨PfM14, PgM14⟩⟩
      refine PW.jz_eq q_187_35 rfl (fun h16 => ?_) (fun h16 => False.elim (by omega))
      refine PW.cI q_187_42 (by decide) fun c17 hc17 => ?_
      refine PW.rZ q_187_43 rfl (by omega) (by omega) (by decide) (by decide) ?_
      exact hK c17 M14 IM14 FM14 (by omega) (by omega) ⟨((gKl.refl.put UM10 rfl).tr QM14 rfl), (Or.inr (Or.inl ⟨by omega, by omega, by omega, by omega, by omega⟩))⟩
theorem c_X12_looksAt_vkd (V : pM → Prop) (hV : Stab V) (G : pG) (Kr : pK) (M : pM) (I : Iv V M) (a1 : Int32) (a2 : Int32) (hl_a1 : 14 ≤ a1.toInt) (hh_a1 : a1.toInt ≤ 14) (hl_a2 : 0 ≤ a2.toInt) (hh_a2 : a2.toInt ≤ 2) (y : k_X) (i : Nat) (A : k_A) (hp_0 : k_ra y M i) (hp_1 : k_rs M A) (hp_2 : a2.toInt = A.1 1) (hK : ∀ (x : Int32) (M1 : pM), Iv V M1 → Fr [40] M M1 → 0 ≤ x.toInt → x.toInt ≤ 1 → (gKl [15, 16, 18] M M1 ∧ ((x.toInt = 0 ∧ k_ni y i = 0 ∧ o_i (M1 294) 15 = 1 ∧ o_i (M1 294) 16 = kP y i) ∨ (x.toInt = 0 ∧ k_ni y i = 1 ∧ k_fd A.2.2.1 (kV y i) (A.1 1).toNat = -1 ∧ o_i (M1 294) 15 = 3 ∧ o_i (M1 294) 16 = kP y i) ∨ (x.toInt = 1 ∧ k_ni y i = 1 ∧ kK y i = 2 ∧ o_i (M1 294) 18 = k_fd A.2.2.1 (kV y i) (A.1 1).toNat ∧ k_fd A.2.2.1 (kV y i) (A.1 1).toNat ≠ -1 ∧ k_ra y M1 i))) → Kr.1 (some (.int x)) 311 M1) : PW G false 1 187 (p_mc 187) (p_msl 187) Kr 0 (lv_args 0 [.ref 294, .int a1, .int a2]) [] 311 M 0 0 := by
  have F : Fr [40] M M := Fr.refl
  obtain ⟨kc0, kc1, kc11, kc12, kc16, kc17, kc18, kc19⟩ := id hp_1
  refine PW.aload_n q_187_0 rfl ?_
  refine PW.cV (as := []) (rest := []) q_187_1 t_mv_187_187 kd_294 I.1 (by decide) rfl (by decide) rfl rfl (Nat.le_of_ble_eq_true rfl) (Nat.le_of_ble_eq_true rfl) (by decide) (by decide) ?_
  refine PW.up (by decide) (c_X12_isName_vk (V) (hV) G _ M I _ _ hp_0 fun x2  hx2 kx2 PM1 => ?_)
  rcases PM1 with ⟨PaM1, PbM1⟩ | ⟨PaM1, PbM1, PcM1⟩
  · skip
    refine PW.jz_ne q_187_4 rfl (fun h3 => False.elim (by omega)) (fun h3 => ?_)
    refine PW.aload_n q_187_7 rfl ?_
    refine PW.cI q_187_8 (by decide) fun c4 hc4 => ?_
    refine PW.cV (as := [_]) (rest := []) q_187_9 t_mv_187_170 kd_294 I.1 (by decide) rfl (by decide) rfl rfl (Nat.le_of_ble_eq_true rfl) (Nat.le_of_ble_eq_true rfl) (by decide) (by decide) ?_
    refine PW.up (by decide) (c_X12_bad_vk (V) (hV) G _ M I c4 _ _ hp_0 fun x6 M5 IM5 GM5 hx6 kx6 PM5 => ?_)
    have FM5 := Fr.trans F GM5 (rfl)
    rcases PM5 with ⟨QM5, ⟨PfM5, PgM5⟩⟩
    refine PW.rZ q_187_12 rfl (by omega) (by omega) (by decide) (by decide) ?_
    exact hK x6 M5 IM5 FM5 (by omega) (by omega) ⟨(gKl.refl.tr QM5 rfl), (Or.inl ⟨by omega, by omega, by omega, by omega⟩)⟩
  · skip
    refine PW.jz_ne q_187_4 rfl (fun h7 => ?_) (fun h7 => False.elim (by omega))
    refine PW.aload_n q_187_13 rfl ?_
    refine PW.aload_n q_187_14 rfl ?_
    refine PW.iload_n q_187_15 rfl ?_
    refine PW.iload_n q_187_16 rfl ?_
    refine PW.cV (as := [_, _]) (rest := [_]) q_187_17 t_mv_187_191 kd_294 I.1 (by decide) rfl (by decide) rfl rfl (Nat.le_of_ble_eq_true rfl) (Nat.le_of_ble_eq_true rfl) (by decide) (by decide) ?_
    refine PW.up (by decide) (c_X12_find_vkd (V) (hV) G _ M I a1 a2 (by omega) (by omega) (by omega) (by omega) _ _ A.2.2.1 (A.1 1) hp_0 kc12 (by omega) (by omega) fun x9  hx9 kx9 PM8 => ?_)
    refine PW.pI q_187_20 (Or.inl t_ft_187_180) gF_40_18 gP_40_18 kd_294 hV I (by decide) rfl (n_lo _) (n_hi _) fun M10 IM10 fM10 UM10 => ?_
    have FM10 := Fr.pu F UM10.1 kd_294 (rfl : List.contains [40] 40 = true)
    refine PW.aload_n q_187_23 rfl ?_
    refine PW.gE q_187_24 (Or.inl t_ft_187_180) gF_40_18 kd_294 IM10.1 (by decide) fM10 ?_
    refine PW.jz_ge q_187_27 rfl (fun h11 => ?_) (fun h11 => ?_)
    · skip
      refine PW.cI q_187_38 (by decide) fun c12 hc12 => ?_
      refine PW.goto q_187_39 rfl ?_
      refine PW.rZ q_187_43 rfl (by omega) (by omega) (by decide) (by decide) ?_
      exact hK c12 M10 IM10 FM10 (by omega) (by omega) ⟨(gKl.refl.put UM10 rfl), (Or.inr (Or.inr ⟨by omega, by omega, by omega, by have w := (o_i_of fM10); omega, by omega, (hp_0.U UM10 rfl)⟩))⟩
    · skip
      refine PW.aload_n q_187_30 rfl ?_
      refine PW.cI q_187_31 (by decide) fun c13 hc13 => ?_
      refine PW.cV (as := [_]) (rest := []) q_187_32 t_mv_187_170 kd_294 IM10.1 (by decide) rfl (by decide) rfl rfl (Nat.le_of_ble_eq_true rfl) (Nat.le_of_ble_eq_true rfl) (by decide) (by decide) ?_
      refine PW.up (by decide) (c_X12_bad_vk (V) (hV) G _ M10 IM10 c13 _ _ (hp_0.U UM10 rfl) fun x15 M14 IM14 GM14 hx15 kx15 PM14 => ?_)
      have FM14 := Fr.trans FM10 GM14 (rfl)
      rcases PM14 with ⟨QM14, ⟨PfM14, PgM14⟩⟩
      refine PW.jz_eq q_187_35 rfl (fun h16 => ?_) (fun h16 => False.elim (by omega))
      refine PW.cI q_187_42 (by decide) fun c17 hc17 => ?_
      refine PW.rZ q_187_43 rfl (by omega) (by omega) (by decide) (by decide) ?_
      exact hK c17 M14 IM14 FM14 (by omega) (by omega) ⟨((gKl.refl.put UM10 rfl).tr QM14 rfl), (Or.inr (Or.inl ⟨by omega, by omega, by omega, by omega, by omega⟩))⟩
theorem c_X12_isOnce_vk0 (V : pM → Prop) (hV : Stab V) (G : pG) (Kr : pK) (M : pM) (I : Iv V M) (a1 : Int32) (hl_a1 : 0 ≤ a1.toInt) (hh_a1 : a1.toInt ≤ 0) (y : k_X) (i : Nat) (hp_0 : k_ra y M i) (hp_1 : 0 ≤ o_i (M 294) 20) (hp_2 : o_i (M 294) 20 ≤ 7) (hp_3 : kK y i = 2) (hK : ∀ (x : Int32) (M1 : pM), Iv V M1 → Fr [40] M M1 → 0 ≤ x.toInt → x.toInt ≤ 1 → (gKl [4, 11, 12, 13, 14, 15, 16, 17, 20] M M1 ∧ ((x.toInt = 0 ∧ o_i (M 294) 20 % 2 = 1 ∧ o_i (M1 294) 15 = 3 ∧ o_i (M1 294) 16 = kP y i) ∨ (x.toInt = 1 ∧ o_i (M 294) 20 % 2 = 0 ∧ o_i (M1 294) 20 = o_i (M 294) 20 + 1 ∧ k_ra y M1 (i + 1)))) → Kr.1 (some (.int x)) 311 M1) : PW G false 2 188 (p_mc 188) (p_msl 188) Kr 0 (lv_args 0 [.ref 294, .int a1]) [] 311 M 0 0 := by
  have F : Fr [40] M M := Fr.refl
  obtain ⟨w294_20, fw294_20, hw294_20, kw294_20⟩ := gF_40_20.int kd_294 I.1 (by decide)
  have iw294_20 := o_i_of fw294_20
  have jw294_20 : w294_20.toInt = o_i (M 294) 20 := by have w := (rfl : o_i (M 294) 20 = o_i (M 294) 20); omega
  refine PW.aload_n q_188_0 rfl ?_
  refine PW.gE q_188_1 (Or.inl t_ft_188_195) gF_40_20 kd_294 I.1 (by decide) fw294_20 ?_
  refine PW.iload_n q_188_4 rfl ?_
  refine PW.callS (as := [_, _]) (rest := []) q_188_5 t_ms_188_198 (by decide) rfl (Nat.le_of_ble_eq_true rfl) (Nat.le_of_ble_eq_true rfl) (by decide) (by decide) ?_
  refine PW.up (by decide) (c_X12_bitOf_vk (V) (hV) G _ M I w294_20 a1 (by omega) (by omega) (by omega) (by omega) fun x2  hx2 kx2 PM1 => ?_)
  refine PW.jz_eq q_188_8 rfl (fun h3 => ?_) (fun h3 => ?_)
  · skip
    refine PW.aload_n q_188_17 rfl ?_
    refine PW.dup q_188_18 rfl ?_
    refine PW.gE q_188_19 (Or.inl t_ft_188_195) gF_40_20 kd_294 I.1 (by decide) fw294_20 ?_
    refine PW.cI q_188_22 (by decide) fun c4 hc4 => ?_
    refine PW.iload_n q_188_23 rfl ?_
    refine PW.ishl q_188_24 ?_
    refine PW.nmI ?_; intro x5 ex5
    refine PW.ior q_188_25 ?_
    refine PW.nmI ?_; intro x6 ex6
    have eo : x6.toInt = (w294_20 ||| (1 <<< (a1 &&& 31))).toInt := by rw [ex6, ex5, show c4 = 1 from n_eq.mpr (by rw [hc4]; decide)]
    have nb := n_bit (o := w294_20) (k := a1) (by omega) (by omega) (by omega) (by omega)
    refine PW.pI q_188_26 (Or.inl t_ft_188_195) gF_40_20 gP_40_20 kd_294 hV I (by decide) rfl (n_lo _) (n_hi _) fun M7 IM7 fM7 UM7 => ?_
    have FM7 := Fr.pu F UM7.1 kd_294 (rfl : List.contains [40] 40 = true)
    refine PW.aload_n q_188_29 rfl ?_
    refine PW.cV (as := []) (rest := []) q_188_30 t_mv_188_173 kd_294 IM7.1 (by decide) rfl (by decide) rfl rfl (Nat.le_of_ble_eq_true rfl) (Nat.le_of_ble_eq_true rfl) (by decide) (by decide) ?_
    refine PW.up (by decide) (c_X12_go_vk (V) (hV) G _ M7 IM7 _ _ (k_ra.nx (hp_0.U UM7 rfl) (by omega)) fun M8 IM8 GM8 PM8 => ?_)
    have FM8 := Fr.trans FM7 GM8 (rfl)
    rcases PM8 with ⟨QM8, PtM8⟩
    refine PW.cI q_188_33 (by decide) fun c9 hc9 => ?_
    refine PW.rZ q_188_34 rfl (by omega) (by omega) (by decide) (by decide) ?_
    exact hK c9 M8 IM8 FM8 (by omega) (by omega) ⟨((gKl.refl.put UM7 rfl).tr QM8 rfl), (Or.inr ⟨by omega, by omega, (by have w := (o_i_of ((QM8 20 rfl).trans fM7)); omega), PtM8⟩)⟩
  · skip
    refine PW.aload_n q_188_11 rfl ?_
    refine PW.cI q_188_12 (by decide) fun c10 hc10 => ?_
    refine PW.cV (as := [_]) (rest := []) q_188_13 t_mv_188_170 kd_294 I.1 (by decide) rfl (by decide) rfl rfl (Nat.le_of_ble_eq_true rfl) (Nat.le_of_ble_eq_true rfl) (by decide) (by decide) ?_
    refine PW.up (by decide) (c_X12_bad_vk (V) (hV) G _ M I c10 _ _ hp_0 fun x12 M11 IM11 GM11 hx12 kx12 PM11 => ?_)
    have FM11 := Fr.trans F GM11 (rfl)
    rcases PM11 with ⟨QM11, ⟨PfM11, PgM11⟩⟩
    refine PW.rZ q_188_16 rfl (by omega) (by omega) (by decide) (by decide) ?_
    exact hK x12 M11 IM11 FM11 (by omega) (by omega) ⟨(gKl.refl.tr QM11 rfl), (Or.inl ⟨by omega, by omega, by omega, by omega⟩)⟩
theorem c_X12_isOnce_vk1 (V : pM → Prop) (hV : Stab V) (G : pG) (Kr : pK) (M : pM) (I : Iv V M) (a1 : Int32) (hl_a1 : 1 ≤ a1.toInt) (hh_a1 : a1.toInt ≤ 1) (y : k_X) (i : Nat) (hp_0 : k_ra y M i) (hp_1 : 0 ≤ o_i (M 294) 20) (hp_2 : o_i (M 294) 20 ≤ 7) (hp_3 : kK y i = 2) (hK : ∀ (x : Int32) (M1 : pM), Iv V M1 → Fr [40] M M1 → 0 ≤ x.toInt → x.toInt ≤ 1 → (gKl [4, 11, 12, 13, 14, 15, 16, 17, 20] M M1 ∧ ((x.toInt = 0 ∧ o_i (M 294) 20 / 2 % 2 = 1 ∧ o_i (M1 294) 15 = 3 ∧ o_i (M1 294) 16 = kP y i) ∨ (x.toInt = 1 ∧ o_i (M 294) 20 / 2 % 2 = 0 ∧ o_i (M1 294) 20 = o_i (M 294) 20 + 2 ∧ k_ra y M1 (i + 1)))) → Kr.1 (some (.int x)) 311 M1) : PW G false 2 188 (p_mc 188) (p_msl 188) Kr 0 (lv_args 0 [.ref 294, .int a1]) [] 311 M 0 0 := by
  have F : Fr [40] M M := Fr.refl
  obtain ⟨w294_20, fw294_20, hw294_20, kw294_20⟩ := gF_40_20.int kd_294 I.1 (by decide)
  have iw294_20 := o_i_of fw294_20
  have jw294_20 : w294_20.toInt = o_i (M 294) 20 := by have w := (rfl : o_i (M 294) 20 = o_i (M 294) 20); omega
  refine PW.aload_n q_188_0 rfl ?_
  refine PW.gE q_188_1 (Or.inl t_ft_188_195) gF_40_20 kd_294 I.1 (by decide) fw294_20 ?_
  refine PW.iload_n q_188_4 rfl ?_
  refine PW.callS (as := [_, _]) (rest := []) q_188_5 t_ms_188_198 (by decide) rfl (Nat.le_of_ble_eq_true rfl) (Nat.le_of_ble_eq_true rfl) (by decide) (by decide) ?_
  refine PW.up (by decide) (c_X12_bitOf_vk (V) (hV) G _ M I w294_20 a1 (by omega) (by omega) (by omega) (by omega) fun x2  hx2 kx2 PM1 => ?_)
  refine PW.jz_eq q_188_8 rfl (fun h3 => ?_) (fun h3 => ?_)
  · skip
    refine PW.aload_n q_188_17 rfl ?_
    refine PW.dup q_188_18 rfl ?_
    refine PW.gE q_188_19 (Or.inl t_ft_188_195) gF_40_20 kd_294 I.1 (by decide) fw294_20 ?_
    refine PW.cI q_188_22 (by decide) fun c4 hc4 => ?_
    refine PW.iload_n q_188_23 rfl ?_
    refine PW.ishl q_188_24 ?_
    refine PW.nmI ?_; intro x5 ex5
    refine PW.ior q_188_25 ?_
    refine PW.nmI ?_; intro x6 ex6
    have eo : x6.toInt = (w294_20 ||| (1 <<< (a1 &&& 31))).toInt := by rw [ex6, ex5, show c4 = 1 from n_eq.mpr (by rw [hc4]; decide)]
    have nb := n_bit (o := w294_20) (k := a1) (by omega) (by omega) (by omega) (by omega)
    refine PW.pI q_188_26 (Or.inl t_ft_188_195) gF_40_20 gP_40_20 kd_294 hV I (by decide) rfl (n_lo _) (n_hi _) fun M7 IM7 fM7 UM7 => ?_
    have FM7 := Fr.pu F UM7.1 kd_294 (rfl : List.contains [40] 40 = true)
    refine PW.aload_n q_188_29 rfl ?_
    refine PW.cV (as := []) (rest := []) q_188_30 t_mv_188_173 kd_294 IM7.1 (by decide) rfl (by decide) rfl rfl (Nat.le_of_ble_eq_true rfl) (Nat.le_of_ble_eq_true rfl) (by decide) (by decide) ?_
    refine PW.up (by decide) (c_X12_go_vk (V) (hV) G _ M7 IM7 _ _ (k_ra.nx (hp_0.U UM7 rfl) (by omega)) fun M8 IM8 GM8 PM8 => ?_)
    have FM8 := Fr.trans FM7 GM8 (rfl)
    rcases PM8 with ⟨QM8, PtM8⟩
    refine PW.cI q_188_33 (by decide) fun c9 hc9 => ?_
    refine PW.rZ q_188_34 rfl (by omega) (by omega) (by decide) (by decide) ?_
    exact hK c9 M8 IM8 FM8 (by omega) (by omega) ⟨((gKl.refl.put UM7 rfl).tr QM8 rfl), (Or.inr ⟨by omega, by omega, (by have w := (o_i_of ((QM8 20 rfl).trans fM7)); omega), PtM8⟩)⟩
  · skip
    refine PW.aload_n q_188_11 rfl ?_
    refine PW.cI q_188_12 (by decide) fun c10 hc10 => ?_
    refine PW.cV (as := [_]) (rest := []) q_188_13 t_mv_188_170 kd_294 I.1 (by decide) rfl (by decide) rfl rfl (Nat.le_of_ble_eq_true rfl) (Nat.le_of_ble_eq_true rfl) (by decide) (by decide) ?_
    refine PW.up (by decide) (c_X12_bad_vk (V) (hV) G _ M I c10 _ _ hp_0 fun x12 M11 IM11 GM11 hx12 kx12 PM11 => ?_)
    have FM11 := Fr.trans F GM11 (rfl)
    rcases PM11 with ⟨QM11, ⟨PfM11, PgM11⟩⟩
    refine PW.rZ q_188_16 rfl (by omega) (by omega) (by decide) (by decide) ?_
    exact hK x12 M11 IM11 FM11 (by omega) (by omega) ⟨(gKl.refl.tr QM11 rfl), (Or.inl ⟨by omega, by omega, by omega, by omega⟩)⟩
theorem c_X12_isOnce_vk2 (V : pM → Prop) (hV : Stab V) (G : pG) (Kr : pK) (M : pM) (I : Iv V M) (a1 : Int32) (hl_a1 : 2 ≤ a1.toInt) (hh_a1 : a1.toInt ≤ 2) (y : k_X) (i : Nat) (hp_0 : k_ra y M i) (hp_1 : 0 ≤ o_i (M 294) 20) (hp_2 : o_i (M 294) 20 ≤ 7) (hp_3 : kK y i = 2) (hK : ∀ (x : Int32) (M1 : pM), Iv V M1 → Fr [40] M M1 → 0 ≤ x.toInt → x.toInt ≤ 1 → (gKl [4, 11, 12, 13, 14, 15, 16, 17, 20] M M1 ∧ ((x.toInt = 0 ∧ o_i (M 294) 20 / 4 % 2 = 1 ∧ o_i (M1 294) 15 = 3 ∧ o_i (M1 294) 16 = kP y i) ∨ (x.toInt = 1 ∧ o_i (M 294) 20 / 4 % 2 = 0 ∧ o_i (M1 294) 20 = o_i (M 294) 20 + 4 ∧ k_ra y M1 (i + 1)))) → Kr.1 (some (.int x)) 311 M1) : PW G false 2 188 (p_mc 188) (p_msl 188) Kr 0 (lv_args 0 [.ref 294, .int a1]) [] 311 M 0 0 := by
  have F : Fr [40] M M := Fr.refl
  obtain ⟨w294_20, fw294_20, hw294_20, kw294_20⟩ := gF_40_20.int kd_294 I.1 (by decide)
  have iw294_20 := o_i_of fw294_20
  have jw294_20 : w294_20.toInt = o_i (M 294) 20 := by have w := (rfl : o_i (M 294) 20 = o_i (M 294) 20); omega
  refine PW.aload_n q_188_0 rfl ?_
  refine PW.gE q_188_1 (Or.inl t_ft_188_195) gF_40_20 kd_294 I.1 (by decide) fw294_20 ?_
  refine PW.iload_n q_188_4 rfl ?_
  refine PW.callS (as := [_, _]) (rest := []) q_188_5 t_ms_188_198 (by decide) rfl (Nat.le_of_ble_eq_true rfl) (Nat.le_of_ble_eq_true rfl) (by decide) (by decide) ?_
  refine PW.up (by decide) (c_X12_bitOf_vk (V) (hV) G _ M I w294_20 a1 (by omega) (by omega) (by omega) (by omega) fun x2  hx2 kx2 PM1 => ?_)
  refine PW.jz_eq q_188_8 rfl (fun h3 => ?_) (fun h3 => ?_)
  · skip
    refine PW.aload_n q_188_17 rfl ?_
    refine PW.dup q_188_18 rfl ?_
    refine PW.gE q_188_19 (Or.inl t_ft_188_195) gF_40_20 kd_294 I.1 (by decide) fw294_20 ?_
    refine PW.cI q_188_22 (by decide) fun c4 hc4 => ?_
    refine PW.iload_n q_188_23 rfl ?_
    refine PW.ishl q_188_24 ?_
    refine PW.nmI ?_; intro x5 ex5
    refine PW.ior q_188_25 ?_
    refine PW.nmI ?_; intro x6 ex6
    have eo : x6.toInt = (w294_20 ||| (1 <<< (a1 &&& 31))).toInt := by rw [ex6, ex5, show c4 = 1 from n_eq.mpr (by rw [hc4]; decide)]
    have nb := n_bit (o := w294_20) (k := a1) (by omega) (by omega) (by omega) (by omega)
    refine PW.pI q_188_26 (Or.inl t_ft_188_195) gF_40_20 gP_40_20 kd_294 hV I (by decide) rfl (n_lo _) (n_hi _) fun M7 IM7 fM7 UM7 => ?_
    have FM7 := Fr.pu F UM7.1 kd_294 (rfl : List.contains [40] 40 = true)
    refine PW.aload_n q_188_29 rfl ?_
    refine PW.cV (as := []) (rest := []) q_188_30 t_mv_188_173 kd_294 IM7.1 (by decide) rfl (by decide) rfl rfl (Nat.le_of_ble_eq_true rfl) (Nat.le_of_ble_eq_true rfl) (by decide) (by decide) ?_
    refine PW.up (by decide) (c_X12_go_vk (V) (hV) G _ M7 IM7 _ _ (k_ra.nx (hp_0.U UM7 rfl) (by omega)) fun M8 IM8 GM8 PM8 => ?_)
    have FM8 := Fr.trans FM7 GM8 (rfl)
    rcases PM8 with ⟨QM8, PtM8⟩
    refine PW.cI q_188_33 (by decide) fun c9 hc9 => ?_
    refine PW.rZ q_188_34 rfl (by omega) (by omega) (by decide) (by decide) ?_
    exact hK c9 M8 IM8 FM8 (by omega) (by omega) ⟨((gKl.refl.put UM7 rfl).tr QM8 rfl), (Or.inr ⟨by omega, by omega, (by have w := (o_i_of ((QM8 20 rfl).trans fM7)); omega), PtM8⟩)⟩
  · skip
    refine PW.aload_n q_188_11 rfl ?_
    refine PW.cI q_188_12 (by decide) fun c10 hc10 => ?_
    refine PW.cV (as := [_]) (rest := []) q_188_13 t_mv_188_170 kd_294 I.1 (by decide) rfl (by decide) rfl rfl (Nat.le_of_ble_eq_true rfl) (Nat.le_of_ble_eq_true rfl) (by decide) (by decide) ?_
    refine PW.up (by decide) (c_X12_bad_vk (V) (hV) G _ M I c10 _ _ hp_0 fun x12 M11 IM11 GM11 hx12 kx12 PM11 => ?_)
    have FM11 := Fr.trans F GM11 (rfl)
    rcases PM11 with ⟨QM11, ⟨PfM11, PgM11⟩⟩
    refine PW.rZ q_188_16 rfl (by omega) (by omega) (by decide) (by decide) ?_
    exact hK x12 M11 IM11 FM11 (by omega) (by omega) ⟨(gKl.refl.tr QM11 rfl), (Or.inl ⟨by omega, by omega, by omega, by omega⟩)⟩
theorem c_X12_lawOf_vk (V : pM → Prop) (hV : Stab V) (G : pG) (Kr : pK) (M : pM) (I : Iv V M) (y : k_X) (i : Nat) (hp_0 : k_ra y M i) (hK : ∀ (x : Int32), -1 ≤ x.toInt → x.toInt ≤ 3 → (x.toInt = k_lw y i ∧ (x.toInt = -1 ∨ kK y i = 2)) → Kr.1 (some (.int x)) 311 M) : PW G false 1 191 (p_mc 191) (p_msl 191) Kr 0 (lv_args 0 [.ref 294]) [] 311 M 0 0 := by
  have F : Fr [] M M := Fr.refl
  refine PW.aload_n q_191_0 rfl ?_
  refine PW.ldc2 q_191_1 t_lt_191_90 ?_
  refine PW.nmLk fun l1 el1 => ?_
  refine PW.cV (as := [_]) (rest := []) q_191_4 t_mv_191_201 kd_294 I.1 (by decide) rfl (by decide) rfl rfl (Nat.le_of_ble_eq_true rfl) (Nat.le_of_ble_eq_true rfl) (by decide) (by decide) ?_
  refine PW.up (by decide) (c_X12_isWord_vk (V) (hV) G _ M I l1 _ _ 6 hp_0 (by rw [el1]; decide +kernel) (by decide) fun x3  hx3 kx3 PM2 => ?_)
  rcases PM2 with ⟨PaM2, PbM2, PcM2⟩ | ⟨PaM2, PnM2⟩
  · skip
    refine PW.jz_eq q_191_7 rfl (fun h4 => False.elim (by omega)) (fun h4 => ?_)
    refine PW.cI q_191_10 (by decide) fun c5 hc5 => ?_
    refine PW.rI q_191_11 rfl (by decide) (by decide) ?_
    exact hK c5 (by omega) (by omega) ⟨by unfold k_lw; rw [if_pos ⟨PbM2, PcM2⟩]; omega, by omega⟩
  · skip
    refine PW.jz_eq q_191_7 rfl (fun h6 => ?_) (fun h6 => False.elim (by omega))
    refine PW.aload_n q_191_12 rfl ?_
    refine PW.ldc2 q_191_13 t_lt_191_92 ?_
    refine PW.nmLk fun l7 el7 => ?_
    refine PW.cV (as := [_]) (rest := []) q_191_16 t_mv_191_201 kd_294 I.1 (by decide) rfl (by decide) rfl rfl (Nat.le_of_ble_eq_true rfl) (Nat.le_of_ble_eq_true rfl) (by decide) (by decide) ?_
    refine PW.up (by decide) (c_X12_isWord_vk (V) (hV) G _ M I l7 _ _ 7 hp_0 (by rw [el7]; decide +kernel) (by decide) fun x9  hx9 kx9 PM8 => ?_)
    rcases PM8 with ⟨PaM8, PbM8, PcM8⟩ | ⟨PaM8, PnM8⟩
    · skip
      refine PW.jz_eq q_191_19 rfl (fun h10 => False.elim (by omega)) (fun h10 => ?_)
      refine PW.cI q_191_22 (by decide) fun c11 hc11 => ?_
      refine PW.rI q_191_23 rfl (by decide) (by decide) ?_
      exact hK c11 (by omega) (by omega) ⟨by unfold k_lw; rw [if_neg PnM2, if_pos ⟨PbM8, PcM8⟩]; omega, by omega⟩
    · skip
      refine PW.jz_eq q_191_19 rfl (fun h12 => ?_) (fun h12 => False.elim (by omega))
      refine PW.aload_n q_191_24 rfl ?_
      refine PW.ldc2 q_191_25 t_lt_191_94 ?_
      refine PW.nmLk fun l13 el13 => ?_
      refine PW.cV (as := [_]) (rest := []) q_191_28 t_mv_191_201 kd_294 I.1 (by decide) rfl (by decide) rfl rfl (Nat.le_of_ble_eq_true rfl) (Nat.le_of_ble_eq_true rfl) (by decide) (by decide) ?_
      refine PW.up (by decide) (c_X12_isWord_vk (V) (hV) G _ M I l13 _ _ 8 hp_0 (by rw [el13]; decide +kernel) (by decide) fun x15  hx15 kx15 PM14 => ?_)
      rcases PM14 with ⟨PaM14, PbM14, PcM14⟩ | ⟨PaM14, PnM14⟩
      · skip
        refine PW.jz_eq q_191_31 rfl (fun h16 => False.elim (by omega)) (fun h16 => ?_)
        refine PW.cI q_191_34 (by decide) fun c17 hc17 => ?_
        refine PW.rI q_191_35 rfl (by decide) (by decide) ?_
        exact hK c17 (by omega) (by omega) ⟨by unfold k_lw; rw [if_neg PnM2, if_neg PnM8, if_pos ⟨PbM14, PcM14⟩]; omega, by omega⟩
      · skip
        refine PW.jz_eq q_191_31 rfl (fun h18 => ?_) (fun h18 => False.elim (by omega))
        refine PW.aload_n q_191_36 rfl ?_
        refine PW.ldc2 q_191_37 t_lt_191_96 ?_
        refine PW.nmLk fun l19 el19 => ?_
        refine PW.cV (as := [_]) (rest := []) q_191_40 t_mv_191_201 kd_294 I.1 (by decide) rfl (by decide) rfl rfl (Nat.le_of_ble_eq_true rfl) (Nat.le_of_ble_eq_true rfl) (by decide) (by decide) ?_
        refine PW.up (by decide) (c_X12_isWord_vk (V) (hV) G _ M I l19 _ _ 9 hp_0 (by rw [el19]; decide +kernel) (by decide) fun x21  hx21 kx21 PM20 => ?_)
        rcases PM20 with ⟨PaM20, PbM20, PcM20⟩ | ⟨PaM20, PnM20⟩
        · skip
          refine PW.jz_eq q_191_43 rfl (fun h22 => False.elim (by omega)) (fun h22 => ?_)
          refine PW.cI q_191_46 (by decide) fun c23 hc23 => ?_
          refine PW.goto q_191_47 rfl ?_
          refine PW.rI q_191_51 rfl (by decide) (by decide) ?_
          exact hK c23 (by omega) (by omega) ⟨by unfold k_lw; rw [if_neg PnM2, if_neg PnM8, if_neg PnM14, if_pos ⟨PbM20, PcM20⟩]; omega, by omega⟩
        · skip
          refine PW.jz_eq q_191_43 rfl (fun h24 => ?_) (fun h24 => False.elim (by omega))
          refine PW.cI q_191_50 (by decide) fun c25 hc25 => ?_
          refine PW.rI q_191_51 rfl (by decide) (by decide) ?_
          exact hK c25 (by omega) (by omega) ⟨by unfold k_lw; rw [if_neg PnM2, if_neg PnM8, if_neg PnM14, if_neg PnM20]; omega, by omega⟩
theorem n_or1 {o : Int32} (h0 : 0 ≤ o.toInt) (h1 : o.toInt ≤ 7) : (o ||| 1).toInt = o.toInt + 1 - o.toInt % 2 := by
  rcases n_bit (o := o) (k := 0) h0 h1 (by decide) (by decide) with w | w | w
  · exact w.2.2
  · exact absurd w.1 (by decide)
  · exact absurd w.1 (by decide)
theorem k_upq {e0 e1 : va_E} {f : Nat → Int} {w v : Int} {q b : Nat} (h : ∀ j : Nat, (j : Int) < w → (o_a e0 (b + j)).toInt = f j ∧ 0 ≤ f j) (hv : (o_a e1 (b + q)).toInt = v) (hv0 : 0 ≤ v) (hn : ∀ j : Nat, j ≠ q → (j : Int) < w → o_a e1 (b + j) = o_a e0 (b + j)) : ∀ j : Nat, (j : Int) < w → (o_a e1 (b + j)).toInt = va_up f q v j ∧ 0 ≤ va_up f q v j := by
  intro j hj
  by_cases e : j = q
  · subst e; rw [p_up_eq]; exact ⟨hv, hv0⟩
  · rw [va_up_ne _ _ e, hn j e hj]; exact h j hj
theorem k_upz {e0 e1 : va_E} {f : Nat → Int} {w v : Int} {b : Nat} (h : ∀ j : Nat, (j : Int) < w → (o_a e0 (b + j)).toInt = f j ∧ 0 ≤ f j) (h0 : 0 ≤ w) (hv : (o_a e1 (b + w.toNat)).toInt = v) (hv0 : 0 ≤ v) (hn : ∀ j : Nat, (j : Int) < w → o_a e1 (b + j) = o_a e0 (b + j)) : ∀ j : Nat, (j : Int) < w + 1 → (o_a e1 (b + j)).toInt = va_up f w.toNat v j ∧ 0 ≤ va_up f w.toNat v j := by
  intro j hj
  by_cases e : j = w.toNat
  · subst e; rw [p_up_eq]; exact ⟨hv, hv0⟩
  · rw [va_up_ne _ _ e, hn j (by omega)]; exact h j (by omega)
theorem k_upw {e0 e1 : va_E} {f : Nat → Int} {w v : Int} {b : Nat} (h : ∀ j : Nat, (j : Int) < w → (o_a e0 (b + j)).toInt = f j) (h0 : 0 ≤ w) (hv : (o_a e1 (b + w.toNat)).toInt = v) (hn : ∀ j : Nat, (j : Int) < w → o_a e1 (b + j) = o_a e0 (b + j)) : ∀ j : Nat, (j : Int) < w + 1 → (o_a e1 (b + j)).toInt = va_up f w.toNat v j := by
  intro j hj
  by_cases e : j = w.toNat
  · subst e; rw [p_up_eq]; exact hv
  · rw [va_up_ne _ _ e, hn j (by omega)]; exact h j (by omega)
set_option maxHeartbeats 10000000 in
theorem c_X12_readWalker_vk (V : pM → Prop) (hV : Stab V) (G : pG) (Kr : pK) (M : pM) (I : Iv V M) (y : k_X) (i : Nat) (A : k_A) (hp_0 : k_ra y M i) (hp_1 : k_rp M A) (hp_2 : kK y i = 2) (hK : ∀ (x : Int32) (M1 : pM), Iv V M1 → Fr [40, 43, 45] M M1 → 0 ≤ x.toInt → x.toInt ≤ 1 → (gKl [4, 11, 12, 13, 14, 15, 16, 17, 18, 20] M M1 ∧ (k_rq y (k_walker y A i) x M1)) → Kr.1 (some (.int x)) 311 M1) : PW G false 4 190 (p_mc 190) (p_msl 190) Kr 0 (lv_args 0 [.ref 294]) [] 311 M 0 0 := by
  have F : Fr [40, 43, 45] M M := Fr.refl
  obtain ⟨kc0, kc1, kc2, kc3, kc4, kc5, kc6, kc7, kc8, kc9, kc10, kc11, kc12, kc13, kc14, kc15, kc16, kc17, kc18, kc19⟩ := id hp_1
  refine PW.aload_n q_190_0 rfl ?_
  refine PW.gR 297 q_190_1 (Or.inl t_ft_190_37) gF_40_7 kd_294 I.1 (by decide) rfl ?_
  refine PW.cI q_190_4 (by decide) fun c1 hc1 => ?_
  refine PW.aI q_190_5 gA_43 kd_297 I.1 (by decide) gB_43_0_0 (by decide) (by omega) (by omega) fun x2 fx2 hx2 kx2 => ?_
  have eax2 : x2.toInt = A.1 0 := by rw [← fx2, show c1.toInt.toNat = 0 from by omega]; exact kc0
  refine PW.istore_n q_190_6 (by decide) ?_
  refine PW.iload_n q_190_7 rfl ?_
  refine PW.cB q_190_8 (by decide) fun c3 hc3 => ?_
  refine PW.jc_ne q_190_10 rfl (fun h4 => ?_) (fun h4 => ?_)
  · skip
    refine PW.aload_n q_190_19 rfl ?_
    refine PW.dup q_190_20 rfl ?_
    refine PW.gI q_190_21 (Or.inl t_ft_190_195) gF_40_20 kd_294 I.1 (by decide) fun x5 fx5 hx5 kx5 => ?_
    have ix5 := o_i_of fx5
    clear hx5 kx5
    refine PW.cI q_190_24 (by decide) fun c6 hc6 => ?_
    refine PW.ior q_190_25 ?_
    refine PW.nmI ?_; intro x7 ex7
    have eo : x7.toInt = (x5 ||| 1).toInt := by rw [ex7, show c6 = 1 from n_eq.mpr (by rw [hc6]; decide)]
    rw [n_or1 (by omega) (by omega)] at eo
    refine PW.pI q_190_26 (Or.inl t_ft_190_195) gF_40_20 gP_40_20 kd_294 hV I (by decide) rfl (n_lo _) (n_hi _) fun M8 IM8 fM8 UM8 => ?_
    have FM8 := Fr.pu F UM8.1 kd_294 (rfl : List.contains [40, 43, 45] 40 = true)
    refine PW.aload_n q_190_29 rfl ?_
    refine PW.cV (as := []) (rest := []) q_190_30 t_mv_190_173 kd_294 IM8.1 (by decide) rfl (by decide) rfl rfl (Nat.le_of_ble_eq_true rfl) (Nat.le_of_ble_eq_true rfl) (by decide) (by decide) ?_
    refine PW.up (by decide) (c_X12_go_vk (V) (hV) G _ M8 IM8 _ _ (k_ra.nx (hp_0.U UM8 rfl) (by omega)) fun M9 IM9 GM9 PM9 => ?_)
    have FM9 := Fr.trans FM8 GM9 (rfl)
    rcases PM9 with ⟨QM9, PtM9⟩
    refine PW.aload_n q_190_33 rfl ?_
    refine PW.cB q_190_34 (by decide) fun c10 hc10 => ?_
    refine PW.iload_n q_190_36 rfl ?_
    refine PW.addN q_190_37 (by omega) (by omega) fun x11 hx11 => ?_
    refine PW.cV (as := [_]) (rest := []) q_190_38 t_mv_190_220 kd_294 IM9.1 (by decide) rfl (by decide) rfl rfl (Nat.le_of_ble_eq_true rfl) (Nat.le_of_ble_eq_true rfl) (by decide) (by decide) ?_
    refine PW.up (by decide) (c_X12_fresh_vk (V) (hV) G _ M9 IM9 x11 (by omega) (by omega) _ _ _ PtM9 (hp_1.rs.cg (fun z hz => ((congrArg (fun e => o_a e z) (Fr.at GM9 kd_297 (by decide))).trans (congrArg (fun e => o_a e z) (UM8.1 297 (by decide))))) (fun z hz => ((congrArg (fun e => o_l e z) (Fr.at GM9 kd_299 (by decide))).trans (congrArg (fun e => o_l e z) (UM8.1 299 (by decide)))))) fun x13 M12 IM12 GM12 hx13 kx13 PM12 => ?_)
    have FM12 := Fr.trans FM9 GM12 (rfl)
    rcases PM12 with ⟨QM12, ⟨PaM12, PbM12, PfM12, PgM12⟩ | ⟨PaM12, PbM12, PcM12, PfM12, PgM12⟩ | ⟨PaM12, PbM12, PkM12, PcM12, PdM12, PwM12, PtM12, PhM12⟩⟩
    · skip
      refine PW.jz_eq q_190_41 rfl (fun h14 => ?_) (fun h14 => False.elim (by omega))
      refine PW.cI q_190_75 (by decide) fun c15 hc15 => ?_
      refine PW.rZ q_190_76 rfl (by omega) (by omega) (by decide) (by decide) ?_
      have e : k_walker y A i = (1, kP y (i + 1), A, i) := by unfold k_walker; rw [if_neg (by omega), if_pos (by omega)]
      exact hK c15 M12 IM12 FM12 (by omega) (by omega) ⟨(((gKl.refl.put UM8 rfl).tr QM9 rfl).tr QM12 rfl), (by rw [e]; exact Or.inr ⟨by omega, (by omega : (1 : Int) ≠ 0), (by omega : o_i (M12 294) 15 = 1), (by omega : o_i (M12 294) 16 = kP y (i + 1))⟩)⟩
    · skip
      refine PW.jz_eq q_190_41 rfl (fun h16 => ?_) (fun h16 => False.elim (by omega))
      refine PW.cI q_190_75 (by decide) fun c17 hc17 => ?_
      refine PW.rZ q_190_76 rfl (by omega) (by omega) (by decide) (by decide) ?_
      have e : k_walker y A i = (3, kP y (i + 1), A, i) := by unfold k_walker; rw [if_neg (by omega), if_neg (by omega), if_pos (by omega)]
      exact hK c17 M12 IM12 FM12 (by omega) (by omega) ⟨(((gKl.refl.put UM8 rfl).tr QM9 rfl).tr QM12 rfl), (by rw [e]; exact Or.inr ⟨by omega, (by omega : (3 : Int) ≠ 0), (by omega : o_i (M12 294) 15 = 3), (by omega : o_i (M12 294) 16 = kP y (i + 1))⟩)⟩
    · skip
      refine PW.jz_eq q_190_41 rfl (fun h18 => False.elim (by omega)) (fun h18 => ?_)
      refine PW.aload_n q_190_44 rfl ?_
      refine PW.cI q_190_45 (by decide) fun c19 hc19 => ?_
      refine PW.iload_n q_190_46 rfl ?_
      refine PW.addN q_190_47 (by omega) (by omega) fun x20 hx20 => ?_
      refine PW.cI q_190_48 (by decide) fun c21 hc21 => ?_
      refine PW.aload_n q_190_49 rfl ?_
      refine PW.gR 297 q_190_50 (Or.inl t_ft_190_37) gF_40_7 kd_294 IM12.1 (by decide) rfl ?_
      refine PW.cI q_190_53 (by decide) fun c22 hc22 => ?_
      refine PW.aH q_190_54 gA_43 kd_297 IM12.1 (by decide) (by omega) (by omega) fun x23 fx23 => ?_
      have eax23 : x23.toInt = A.1 2 := by rw [← fx23, show c22.toInt.toNat = 2 from by omega, ((congrArg (fun e => o_a e 2) (Fr.at GM12 kd_297 (by decide))).trans ((congrArg (fun e => o_a e 2) (Fr.at GM9 kd_297 (by decide))).trans (congrArg (fun e => o_a e 2) (UM8.1 297 (by decide)))))]; exact kc2
      refine PW.cV (as := [_, _, _]) (rest := []) q_190_55 t_mv_190_208 kd_294 IM12.1 (by decide) rfl (by decide) rfl rfl (Nat.le_of_ble_eq_true rfl) (Nat.le_of_ble_eq_true rfl) (by decide) (by decide) ?_
      refine PW.up (by decide) (c_X12_puts_vk (V) (hV) G _ M12 IM12 x20 c21 x23 (by omega) (by omega) _ _ 0 (A.1 2) PtM12 (by omega) (by omega) fun x25 M24 IM24 GM24 hx25 kx25 PM24 => ?_)
      have FM24 := Fr.trans FM12 GM24 (rfl)
      rcases PM24 with ⟨QM24, ⟨PaM24, PzM24, PvM24, PlM24, PmM24, PtM24, PhM24⟩ | ⟨PaM24, PzM24, PfM24, PgM24⟩⟩
      · skip
        refine PW.jz_eq q_190_58 rfl (fun h26 => False.elim (by omega)) (fun h26 => ?_)
        refine PW.aload_n q_190_61 rfl ?_
        refine PW.cB q_190_62 (by decide) fun c27 hc27 => ?_
        refine PW.iload_n q_190_64 rfl ?_
        refine PW.addN q_190_65 (by omega) (by omega) fun x28 hx28 => ?_
        refine PW.cI q_190_66 (by decide) fun c29 hc29 => ?_
        refine PW.cB q_190_67 (by decide) fun c30 hc30 => ?_
        refine PW.cV (as := [_, _, _]) (rest := []) q_190_69 t_mv_190_208 kd_294 IM24.1 (by decide) rfl (by decide) rfl rfl (Nat.le_of_ble_eq_true rfl) (Nat.le_of_ble_eq_true rfl) (by decide) (by decide) ?_
        refine PW.up (by decide) (c_X12_puts_vkp (V) (hV) G _ M24 IM24 x28 c29 c30 (by omega) (by omega) (by omega) (by omega) (by omega) (by omega) _ _ 0 9 PtM24 (by omega) (by omega) fun x32 M31 IM31 GM31 hx32 kx32 PM31 => ?_)
        have FM31 := Fr.trans FM24 GM31 (rfl)
        rcases PM31 with ⟨QM31, ⟨PaM31, PzM31, PvM31, PlM31, PmM31, PtM31, PhM31⟩ | ⟨PaM31, PzM31, PfM31, PgM31⟩⟩
        · skip
          refine PW.jz_ne q_190_72 rfl (fun h33 => ?_) (fun h33 => False.elim (by omega))
          refine PW.aload_n q_190_77 rfl ?_
          refine PW.gR 297 q_190_78 (Or.inl t_ft_190_37) gF_40_7 kd_294 IM31.1 (by decide) rfl ?_
          refine PW.cB q_190_81 (by decide) fun c34 hc34 => ?_
          refine PW.iload_n q_190_83 rfl ?_
          refine PW.addN q_190_84 (by omega) (by omega) fun x35 hx35 => ?_
          refine PW.aload_n q_190_85 rfl ?_
          refine PW.ldc2 q_190_86 t_lt_190_86 ?_
          refine PW.nmLk fun l36 el36 => ?_
          refine PW.cV (as := [_]) (rest := [_, _]) q_190_89 t_mv_190_201 kd_294 IM31.1 (by decide) rfl (by decide) rfl rfl (Nat.le_of_ble_eq_true rfl) (Nat.le_of_ble_eq_true rfl) (by decide) (by decide) ?_
          refine PW.up (by decide) (c_X12_isWord_vk (V) (hV) G _ M31 IM31 l36 _ _ 4 PtM31 (by rw [el36]; decide +kernel) (by decide) fun x38  hx38 kx38 PM37 => ?_)
          rcases PM37 with ⟨PaM37, PbM37, PcM37⟩ | ⟨PaM37, PnM37⟩
          · skip
            refine PW.jz_eq q_190_92 rfl (fun h39 => False.elim (by omega)) (fun h39 => ?_)
            refine PW.cI q_190_95 (by decide) fun c40 hc40 => ?_
            refine PW.goto q_190_96 rfl ?_
            refine PW.wI q_190_100 gA_43 kd_297 hV IM31 (by decide) rfl gC_43_17_22 (by decide) (by omega) (by omega) (n_lo _) (n_hi _) fun M41 IM41 fM41 UM41 => ?_
            have FM41 := Fr.pu FM31 UM41.1 kd_297 (rfl : List.contains [40, 43, 45] 43 = true)
            refine PW.aload_n q_190_101 rfl ?_
            refine PW.ldc2 q_190_102 t_lt_190_86 ?_
            refine PW.nmLk fun l42 el42 => ?_
            refine PW.cV (as := [_]) (rest := []) q_190_105 t_mv_190_201 kd_294 IM41.1 (by decide) rfl (by decide) rfl rfl (Nat.le_of_ble_eq_true rfl) (Nat.le_of_ble_eq_true rfl) (by decide) (by decide) ?_
            refine PW.up (by decide) (c_X12_isWord_vk (V) (hV) G _ M41 IM41 l42 _ _ 4 (PtM31.cg (UM41.1 294 (by decide)) (UM41.1 295 (by decide)) (UM41.1 300 (by decide))) (by rw [el42]; decide +kernel) (by decide) fun x44  hx44 kx44 PM43 => ?_)
            rcases PM43 with ⟨PaM43, PbM43, PcM43⟩ | ⟨PaM43, PnM43⟩
            · skip
              refine PW.jz_eq q_190_108 rfl (fun h45 => False.elim (by omega)) (fun h45 => ?_)
              refine PW.aload_n q_190_111 rfl ?_
              refine PW.cV (as := []) (rest := []) q_190_112 t_mv_190_173 kd_294 IM41.1 (by decide) rfl (by decide) rfl rfl (Nat.le_of_ble_eq_true rfl) (Nat.le_of_ble_eq_true rfl) (by decide) (by decide) ?_
              refine PW.up (by decide) (c_X12_go_vk (V) (hV) G _ M41 IM41 _ _ (k_ra.nx (PtM31.cg (UM41.1 294 (by decide)) (UM41.1 295 (by decide)) (UM41.1 300 (by decide))) (by omega)) fun M46 IM46 GM46 PM46 => ?_)
              have FM46 := Fr.trans FM41 GM46 (rfl)
              rcases PM46 with ⟨QM46, PtM46⟩
              refine PW.aload_n q_190_115 rfl ?_
              refine PW.gR 297 q_190_116 (Or.inl t_ft_190_37) gF_40_7 kd_294 IM46.1 (by decide) rfl ?_
              refine PW.cI q_190_119 (by decide) fun c47 hc47 => ?_
              refine PW.dup2 q_190_120 rfl rfl ?_
              refine PW.aI q_190_121 gA_43 kd_297 IM46.1 (by decide) gB_43_0_0 (by decide) (by omega) (by omega) fun x48 fx48 hx48 kx48 => ?_
              have eax48 : x48.toInt = A.1 0 := by rw [← fx48, show c47.toInt.toNat = 0 from by omega, ((congrArg (fun e => o_a e 0) (Fr.at GM46 kd_297 (by decide))).trans ((UM41.2 0 (by omega)).trans ((PhM31 0 (by omega)).trans ((PhM24 0 (by omega)).trans ((congrArg (fun e => o_a e 0) (Fr.at GM12 kd_297 (by decide))).trans ((congrArg (fun e => o_a e 0) (Fr.at GM9 kd_297 (by decide))).trans (congrArg (fun e => o_a e 0) (UM8.1 297 (by decide)))))))))]; exact kc0
              refine PW.cI q_190_122 (by decide) fun c49 hc49 => ?_
              refine PW.addN q_190_123 (by omega) (by omega) fun x50 hx50 => ?_
              refine PW.wI q_190_124 gA_43 kd_297 hV IM46 (by decide) rfl gC_43_0_0 (by decide) (by omega) (by omega) (by omega) (by omega) fun M51 IM51 fM51 UM51 => ?_
              have FM51 := Fr.pu FM46 UM51.1 kd_297 (rfl : List.contains [40, 43, 45] 43 = true)
              refine PW.cI q_190_125 (by decide) fun c52 hc52 => ?_
              refine PW.rZ q_190_126 rfl (by omega) (by omega) (by decide) (by decide) ?_
              have e : k_walker y A i = (0, 0, (va_up A.1 0 (A.1 0 + 1), va_up A.2.1 (A.1 0).toNat (kV y (i + 1)), A.2.2), i + 5) := by unfold k_walker; rw [if_neg (by omega), if_neg (by omega), if_neg (by omega), if_neg (by omega), if_neg (by omega), if_pos ⟨PbM43, PcM43⟩]
              have w20 := o_i_of ((congrArg (fun e => o_f e 20) (UM51.1 _ (g_ne kd_294 kd_297 (by decide)))).trans ((QM46 20 rfl).trans ((congrArg (fun e => o_f e 20) (UM41.1 _ (g_ne kd_294 kd_297 (by decide)))).trans ((QM31 20 rfl).trans ((QM24 20 rfl).trans ((QM12 20 rfl).trans ((QM9 20 rfl).trans fM8)))))))
              exact hK c52 M51 IM51 FM51 (by omega) (by omega) ⟨((((((((gKl.refl.put UM8 rfl).tr QM9 rfl).tr QM12 rfl).tr QM24 rfl).tr QM31 rfl).cg (UM41.1 294 (by decide))).tr QM46 rfl).cg (UM51.1 294 (by decide))), (by rw [e]; exact Or.inl ⟨by omega, rfl, (PtM46.cg (UM51.1 294 (by decide)) (UM51.1 295 (by decide)) (UM51.1 300 (by decide))), ⟨(by have f := fM51; rw [show c47.toInt.toNat = 0 from by omega] at f; rw [f]; show _ = A.1 0 + 1; omega), (by rw [((UM51.2 1 (by omega)).trans ((congrArg (fun e => o_a e 1) (Fr.at GM46 kd_297 (by decide))).trans ((UM41.2 1 (by omega)).trans ((PhM31 1 (by omega)).trans ((PhM24 1 (by omega)).trans ((congrArg (fun e => o_a e 1) (Fr.at GM12 kd_297 (by decide))).trans ((congrArg (fun e => o_a e 1) (Fr.at GM9 kd_297 (by decide))).trans (congrArg (fun e => o_a e 1) (UM8.1 297 (by decide))))))))))]; exact kc1), (by rw [((UM51.2 2 (by omega)).trans ((congrArg (fun e => o_a e 2) (Fr.at GM46 kd_297 (by decide))).trans ((UM41.2 2 (by omega)).trans ((PhM31 2 (by omega)).trans ((PhM24 2 (by omega)).trans ((congrArg (fun e => o_a e 2) (Fr.at GM12 kd_297 (by decide))).trans ((congrArg (fun e => o_a e 2) (Fr.at GM9 kd_297 (by decide))).trans (congrArg (fun e => o_a e 2) (UM8.1 297 (by decide))))))))))]; exact kc2), (by rw [((UM51.2 3 (by omega)).trans ((congrArg (fun e => o_a e 3) (Fr.at GM46 kd_297 (by decide))).trans ((UM41.2 3 (by omega)).trans ((PhM31 3 (by omega)).trans ((PhM24 3 (by omega)).trans ((congrArg (fun e => o_a e 3) (Fr.at GM12 kd_297 (by decide))).trans ((congrArg (fun e => o_a e 3) (Fr.at GM9 kd_297 (by decide))).trans (congrArg (fun e => o_a e 3) (UM8.1 297 (by decide))))))))))]; exact kc3), (by rw [((UM51.2 4 (by omega)).trans ((congrArg (fun e => o_a e 4) (Fr.at GM46 kd_297 (by decide))).trans ((UM41.2 4 (by omega)).trans ((PhM31 4 (by omega)).trans ((PhM24 4 (by omega)).trans ((congrArg (fun e => o_a e 4) (Fr.at GM12 kd_297 (by decide))).trans ((congrArg (fun e => o_a e 4) (Fr.at GM9 kd_297 (by decide))).trans (congrArg (fun e => o_a e 4) (UM8.1 297 (by decide))))))))))]; exact kc4), (((congrArg (fun e => o_i e 19) (UM51.1 294 (by decide))).trans ((QM46.i 19 rfl).trans ((congrArg (fun e => o_i e 19) (UM41.1 294 (by decide))).trans ((QM31.i 19 rfl).trans ((QM24.i 19 rfl).trans ((QM12.i 19 rfl).trans ((QM9.i 19 rfl).trans (UM8.i (c := 294) (k := 19) (Or.inr (by decide)))))))))).trans kc5), (by omega), (by omega), (by show (o_i (M51 294) 20 % 2 = 1 ↔ (A.1 6 = 1 ∨ 0 < A.1 0 + 1)); omega), (by show (o_i (M51 294) 20 / 2 % 2 = 1 ↔ A.1 7 = 1); omega), (by show (o_i (M51 294) 20 / 4 % 2 = 1 ↔ A.1 4 ≠ -1); omega), (k_upn (e0 := M 299) kc11 (by omega) (by have f := PwM12; rw [show x11.toInt.toNat = 8 + (A.1 0).toNat from by omega] at f; rw [((congrArg (fun e => o_l e (8 + (A.1 0).toNat)) (UM51.1 299 (by decide))).trans ((congrArg (fun e => o_l e (8 + (A.1 0).toNat)) (Fr.at GM46 kd_299 (by decide))).trans ((congrArg (fun e => o_l e (8 + (A.1 0).toNat)) (UM41.1 299 (by decide))).trans ((congrArg (fun e => o_l e (8 + (A.1 0).toNat)) (Fr.at GM31 kd_299 (by decide))).trans (congrArg (fun e => o_l e (8 + (A.1 0).toNat)) (Fr.at GM24 kd_299 (by decide)))))))]; exact f) (fun j hj => ((congrArg (fun e => o_l e (8 + j)) (UM51.1 299 (by decide))).trans ((congrArg (fun e => o_l e (8 + j)) (Fr.at GM46 kd_299 (by decide))).trans ((congrArg (fun e => o_l e (8 + j)) (UM41.1 299 (by decide))).trans ((congrArg (fun e => o_l e (8 + j)) (Fr.at GM31 kd_299 (by decide))).trans ((congrArg (fun e => o_l e (8 + j)) (Fr.at GM24 kd_299 (by decide))).trans ((PhM12 (8 + j) (by omega)).trans ((congrArg (fun e => o_l e (8 + j)) (Fr.at GM9 kd_299 (by decide))).trans (congrArg (fun e => o_l e (8 + j)) (UM8.1 299 (by decide)))))))))))), (fun j hj => by rw [((congrArg (fun e => o_l e (14 + j)) (UM51.1 299 (by decide))).trans ((congrArg (fun e => o_l e (14 + j)) (Fr.at GM46 kd_299 (by decide))).trans ((congrArg (fun e => o_l e (14 + j)) (UM41.1 299 (by decide))).trans ((congrArg (fun e => o_l e (14 + j)) (Fr.at GM31 kd_299 (by decide))).trans ((congrArg (fun e => o_l e (14 + j)) (Fr.at GM24 kd_299 (by decide))).trans ((PhM12 (14 + j) (by omega)).trans ((congrArg (fun e => o_l e (14 + j)) (Fr.at GM9 kd_299 (by decide))).trans (congrArg (fun e => o_l e (14 + j)) (UM8.1 299 (by decide))))))))))]; exact kc12 j hj), (fun j hj => by rw [((UM51.2 (31 + j) (by omega)).trans ((congrArg (fun e => o_a e (31 + j)) (Fr.at GM46 kd_297 (by decide))).trans ((UM41.2 (31 + j) (by omega)).trans ((PhM31 (31 + j) (by omega)).trans ((PhM24 (31 + j) (by omega)).trans ((congrArg (fun e => o_a e (31 + j)) (Fr.at GM12 kd_297 (by decide))).trans ((congrArg (fun e => o_a e (31 + j)) (Fr.at GM9 kd_297 (by decide))).trans (congrArg (fun e => o_a e (31 + j)) (UM8.1 297 (by decide))))))))))]; exact kc13 j hj), (fun j hj => by rw [((UM51.2 (29 + j) (by omega)).trans ((congrArg (fun e => o_a e (29 + j)) (Fr.at GM46 kd_297 (by decide))).trans ((UM41.2 (29 + j) (by omega)).trans ((PhM31 (29 + j) (by omega)).trans ((PhM24 (29 + j) (by omega)).trans ((congrArg (fun e => o_a e (29 + j)) (Fr.at GM12 kd_297 (by decide))).trans ((congrArg (fun e => o_a e (29 + j)) (Fr.at GM9 kd_297 (by decide))).trans (congrArg (fun e => o_a e (29 + j)) (UM8.1 297 (by decide))))))))))]; exact kc14 j hj), (fun j hj h2 => by have hj : A.1 1 ≤ (j : Int) := hj; rw [((UM51.2 (31 + j) (by omega)).trans ((congrArg (fun e => o_a e (31 + j)) (Fr.at GM46 kd_297 (by decide))).trans ((UM41.2 (31 + j) (by omega)).trans ((PhM31 (31 + j) (by omega)).trans ((PhM24 (31 + j) (by omega)).trans ((congrArg (fun e => o_a e (31 + j)) (Fr.at GM12 kd_297 (by decide))).trans ((congrArg (fun e => o_a e (31 + j)) (Fr.at GM9 kd_297 (by decide))).trans (congrArg (fun e => o_a e (31 + j)) (UM8.1 297 (by decide))))))))))]; exact kc15 j (by omega) h2), (by show 0 ≤ A.1 0 + 1; omega), (by show A.1 0 + 1 ≤ 6; omega), (by show 0 ≤ A.1 1; omega), (by show A.1 1 ≤ 2; omega)⟩⟩)⟩
            · skip
              exact absurd ⟨PbM37, PcM37⟩ PnM43
          · skip
            refine PW.jz_eq q_190_92 rfl (fun h53 => ?_) (fun h53 => False.elim (by omega))
            refine PW.cI q_190_99 (by decide) fun c54 hc54 => ?_
            refine PW.wI q_190_100 gA_43 kd_297 hV IM31 (by decide) rfl gC_43_17_22 (by decide) (by omega) (by omega) (n_lo _) (n_hi _) fun M55 IM55 fM55 UM55 => ?_
            have FM55 := Fr.pu FM31 UM55.1 kd_297 (rfl : List.contains [40, 43, 45] 43 = true)
            refine PW.aload_n q_190_101 rfl ?_
            refine PW.ldc2 q_190_102 t_lt_190_86 ?_
            refine PW.nmLk fun l56 el56 => ?_
            refine PW.cV (as := [_]) (rest := []) q_190_105 t_mv_190_201 kd_294 IM55.1 (by decide) rfl (by decide) rfl rfl (Nat.le_of_ble_eq_true rfl) (Nat.le_of_ble_eq_true rfl) (by decide) (by decide) ?_
            refine PW.up (by decide) (c_X12_isWord_vk (V) (hV) G _ M55 IM55 l56 _ _ 4 (PtM31.cg (UM55.1 294 (by decide)) (UM55.1 295 (by decide)) (UM55.1 300 (by decide))) (by rw [el56]; decide +kernel) (by decide) fun x58  hx58 kx58 PM57 => ?_)
            rcases PM57 with ⟨PaM57, PbM57, PcM57⟩ | ⟨PaM57, PnM57⟩
            · skip
              exact absurd ⟨PbM57, PcM57⟩ PnM37
            · skip
              refine PW.jz_eq q_190_108 rfl (fun h59 => ?_) (fun h59 => False.elim (by omega))
              refine PW.aload_n q_190_115 rfl ?_
              refine PW.gR 297 q_190_116 (Or.inl t_ft_190_37) gF_40_7 kd_294 IM55.1 (by decide) rfl ?_
              refine PW.cI q_190_119 (by decide) fun c60 hc60 => ?_
              refine PW.dup2 q_190_120 rfl rfl ?_
              refine PW.aI q_190_121 gA_43 kd_297 IM55.1 (by decide) gB_43_0_0 (by decide) (by omega) (by omega) fun x61 fx61 hx61 kx61 => ?_
              have eax61 : x61.toInt = A.1 0 := by rw [← fx61, show c60.toInt.toNat = 0 from by omega, ((UM55.2 0 (by omega)).trans ((PhM31 0 (by omega)).trans ((PhM24 0 (by omega)).trans ((congrArg (fun e => o_a e 0) (Fr.at GM12 kd_297 (by decide))).trans ((congrArg (fun e => o_a e 0) (Fr.at GM9 kd_297 (by decide))).trans (congrArg (fun e => o_a e 0) (UM8.1 297 (by decide))))))))]; exact kc0
              refine PW.cI q_190_122 (by decide) fun c62 hc62 => ?_
              refine PW.addN q_190_123 (by omega) (by omega) fun x63 hx63 => ?_
              refine PW.wI q_190_124 gA_43 kd_297 hV IM55 (by decide) rfl gC_43_0_0 (by decide) (by omega) (by omega) (by omega) (by omega) fun M64 IM64 fM64 UM64 => ?_
              have FM64 := Fr.pu FM55 UM64.1 kd_297 (rfl : List.contains [40, 43, 45] 43 = true)
              refine PW.cI q_190_125 (by decide) fun c65 hc65 => ?_
              refine PW.rZ q_190_126 rfl (by omega) (by omega) (by decide) (by decide) ?_
              have e : k_walker y A i = (0, 0, (va_up A.1 0 (A.1 0 + 1), va_up A.2.1 (A.1 0).toNat (kV y (i + 1)), A.2.2), i + 4) := by unfold k_walker; rw [if_neg (by omega), if_neg (by omega), if_neg (by omega), if_neg (by omega), if_neg (by omega), if_neg PnM57]
              have w20 := o_i_of ((congrArg (fun e => o_f e 20) (UM64.1 _ (g_ne kd_294 kd_297 (by decide)))).trans ((congrArg (fun e => o_f e 20) (UM55.1 _ (g_ne kd_294 kd_297 (by decide)))).trans ((QM31 20 rfl).trans ((QM24 20 rfl).trans ((QM12 20 rfl).trans ((QM9 20 rfl).trans fM8))))))
              exact hK c65 M64 IM64 FM64 (by omega) (by omega) ⟨(((((((gKl.refl.put UM8 rfl).tr QM9 rfl).tr QM12 rfl).tr QM24 rfl).tr QM31 rfl).cg (UM55.1 294 (by decide))).cg (UM64.1 294 (by decide))), (by rw [e]; exact Or.inl ⟨by omega, rfl, ((PtM31.cg (UM55.1 294 (by decide)) (UM55.1 295 (by decide)) (UM55.1 300 (by decide))).cg (UM64.1 294 (by decide)) (UM64.1 295 (by decide)) (UM64.1 300 (by decide))), ⟨(by have f := fM64; rw [show c60.toInt.toNat = 0 from by omega] at f; rw [f]; show _ = A.1 0 + 1; omega), (by rw [((UM64.2 1 (by omega)).trans ((UM55.2 1 (by omega)).trans ((PhM31 1 (by omega)).trans ((PhM24 1 (by omega)).trans ((congrArg (fun e => o_a e 1) (Fr.at GM12 kd_297 (by decide))).trans ((congrArg (fun e => o_a e 1) (Fr.at GM9 kd_297 (by decide))).trans (congrArg (fun e => o_a e 1) (UM8.1 297 (by decide)))))))))]; exact kc1), (by rw [((UM64.2 2 (by omega)).trans ((UM55.2 2 (by omega)).trans ((PhM31 2 (by omega)).trans ((PhM24 2 (by omega)).trans ((congrArg (fun e => o_a e 2) (Fr.at GM12 kd_297 (by decide))).trans ((congrArg (fun e => o_a e 2) (Fr.at GM9 kd_297 (by decide))).trans (congrArg (fun e => o_a e 2) (UM8.1 297 (by decide)))))))))]; exact kc2), (by rw [((UM64.2 3 (by omega)).trans ((UM55.2 3 (by omega)).trans ((PhM31 3 (by omega)).trans ((PhM24 3 (by omega)).trans ((congrArg (fun e => o_a e 3) (Fr.at GM12 kd_297 (by decide))).trans ((congrArg (fun e => o_a e 3) (Fr.at GM9 kd_297 (by decide))).trans (congrArg (fun e => o_a e 3) (UM8.1 297 (by decide)))))))))]; exact kc3), (by rw [((UM64.2 4 (by omega)).trans ((UM55.2 4 (by omega)).trans ((PhM31 4 (by omega)).trans ((PhM24 4 (by omega)).trans ((congrArg (fun e => o_a e 4) (Fr.at GM12 kd_297 (by decide))).trans ((congrArg (fun e => o_a e 4) (Fr.at GM9 kd_297 (by decide))).trans (congrArg (fun e => o_a e 4) (UM8.1 297 (by decide)))))))))]; exact kc4), (((congrArg (fun e => o_i e 19) (UM64.1 294 (by decide))).trans ((congrArg (fun e => o_i e 19) (UM55.1 294 (by decide))).trans ((QM31.i 19 rfl).trans ((QM24.i 19 rfl).trans ((QM12.i 19 rfl).trans ((QM9.i 19 rfl).trans (UM8.i (c := 294) (k := 19) (Or.inr (by decide))))))))).trans kc5), (by omega), (by omega), (by show (o_i (M64 294) 20 % 2 = 1 ↔ (A.1 6 = 1 ∨ 0 < A.1 0 + 1)); omega), (by show (o_i (M64 294) 20 / 2 % 2 = 1 ↔ A.1 7 = 1); omega), (by show (o_i (M64 294) 20 / 4 % 2 = 1 ↔ A.1 4 ≠ -1); omega), (k_upn (e0 := M 299) kc11 (by omega) (by have f := PwM12; rw [show x11.toInt.toNat = 8 + (A.1 0).toNat from by omega] at f; rw [((congrArg (fun e => o_l e (8 + (A.1 0).toNat)) (UM64.1 299 (by decide))).trans ((congrArg (fun e => o_l e (8 + (A.1 0).toNat)) (UM55.1 299 (by decide))).trans ((congrArg (fun e => o_l e (8 + (A.1 0).toNat)) (Fr.at GM31 kd_299 (by decide))).trans (congrArg (fun e => o_l e (8 + (A.1 0).toNat)) (Fr.at GM24 kd_299 (by decide))))))]; exact f) (fun j hj => ((congrArg (fun e => o_l e (8 + j)) (UM64.1 299 (by decide))).trans ((congrArg (fun e => o_l e (8 + j)) (UM55.1 299 (by decide))).trans ((congrArg (fun e => o_l e (8 + j)) (Fr.at GM31 kd_299 (by decide))).trans ((congrArg (fun e => o_l e (8 + j)) (Fr.at GM24 kd_299 (by decide))).trans ((PhM12 (8 + j) (by omega)).trans ((congrArg (fun e => o_l e (8 + j)) (Fr.at GM9 kd_299 (by decide))).trans (congrArg (fun e => o_l e (8 + j)) (UM8.1 299 (by decide))))))))))), (fun j hj => by rw [((congrArg (fun e => o_l e (14 + j)) (UM64.1 299 (by decide))).trans ((congrArg (fun e => o_l e (14 + j)) (UM55.1 299 (by decide))).trans ((congrArg (fun e => o_l e (14 + j)) (Fr.at GM31 kd_299 (by decide))).trans ((congrArg (fun e => o_l e (14 + j)) (Fr.at GM24 kd_299 (by decide))).trans ((PhM12 (14 + j) (by omega)).trans ((congrArg (fun e => o_l e (14 + j)) (Fr.at GM9 kd_299 (by decide))).trans (congrArg (fun e => o_l e (14 + j)) (UM8.1 299 (by decide)))))))))]; exact kc12 j hj), (fun j hj => by rw [((UM64.2 (31 + j) (by omega)).trans ((UM55.2 (31 + j) (by omega)).trans ((PhM31 (31 + j) (by omega)).trans ((PhM24 (31 + j) (by omega)).trans ((congrArg (fun e => o_a e (31 + j)) (Fr.at GM12 kd_297 (by decide))).trans ((congrArg (fun e => o_a e (31 + j)) (Fr.at GM9 kd_297 (by decide))).trans (congrArg (fun e => o_a e (31 + j)) (UM8.1 297 (by decide)))))))))]; exact kc13 j hj), (fun j hj => by rw [((UM64.2 (29 + j) (by omega)).trans ((UM55.2 (29 + j) (by omega)).trans ((PhM31 (29 + j) (by omega)).trans ((PhM24 (29 + j) (by omega)).trans ((congrArg (fun e => o_a e (29 + j)) (Fr.at GM12 kd_297 (by decide))).trans ((congrArg (fun e => o_a e (29 + j)) (Fr.at GM9 kd_297 (by decide))).trans (congrArg (fun e => o_a e (29 + j)) (UM8.1 297 (by decide)))))))))]; exact kc14 j hj), (fun j hj h2 => by have hj : A.1 1 ≤ (j : Int) := hj; rw [((UM64.2 (31 + j) (by omega)).trans ((UM55.2 (31 + j) (by omega)).trans ((PhM31 (31 + j) (by omega)).trans ((PhM24 (31 + j) (by omega)).trans ((congrArg (fun e => o_a e (31 + j)) (Fr.at GM12 kd_297 (by decide))).trans ((congrArg (fun e => o_a e (31 + j)) (Fr.at GM9 kd_297 (by decide))).trans (congrArg (fun e => o_a e (31 + j)) (UM8.1 297 (by decide)))))))))]; exact kc15 j (by omega) h2), (by show 0 ≤ A.1 0 + 1; omega), (by show A.1 0 + 1 ≤ 6; omega), (by show 0 ≤ A.1 1; omega), (by show A.1 1 ≤ 2; omega)⟩⟩)⟩
        · skip
          refine PW.jz_ne q_190_72 rfl (fun h66 => False.elim (by omega)) (fun h66 => ?_)
          refine PW.cI q_190_75 (by decide) fun c67 hc67 => ?_
          refine PW.rZ q_190_76 rfl (by omega) (by omega) (by decide) (by decide) ?_
          have e : k_walker y A i = (k_nr y (i + 3) 0 9, kP y (i + 3), A, i) := by unfold k_walker; rw [if_neg (by omega), if_neg (by omega), if_neg (by omega), if_neg (by omega), if_pos (by omega)]
          exact hK c67 M31 IM31 FM31 (by omega) (by omega) ⟨(((((gKl.refl.put UM8 rfl).tr QM9 rfl).tr QM12 rfl).tr QM24 rfl).tr QM31 rfl), (by rw [e]; exact Or.inr ⟨by omega, (by omega : (k_nr y (i + 3) 0 9 : Int) ≠ 0), (by omega : o_i (M31 294) 15 = k_nr y (i + 3) 0 9), (by omega : o_i (M31 294) 16 = kP y (i + 3))⟩)⟩
      · skip
        refine PW.jz_eq q_190_58 rfl (fun h68 => ?_) (fun h68 => False.elim (by omega))
        refine PW.cI q_190_75 (by decide) fun c69 hc69 => ?_
        refine PW.rZ q_190_76 rfl (by omega) (by omega) (by decide) (by decide) ?_
        have e : k_walker y A i = (k_nr y (i + 2) 0 (A.1 2), kP y (i + 2), A, i) := by unfold k_walker; rw [if_neg (by omega), if_neg (by omega), if_neg (by omega), if_pos (by omega)]
        exact hK c69 M24 IM24 FM24 (by omega) (by omega) ⟨((((gKl.refl.put UM8 rfl).tr QM9 rfl).tr QM12 rfl).tr QM24 rfl), (by rw [e]; exact Or.inr ⟨by omega, (by omega : (k_nr y (i + 2) 0 (A.1 2) : Int) ≠ 0), (by omega : o_i (M24 294) 15 = k_nr y (i + 2) 0 (A.1 2)), (by omega : o_i (M24 294) 16 = kP y (i + 2))⟩)⟩
  · skip
    refine PW.aload_n q_190_13 rfl ?_
    refine PW.cI q_190_14 (by decide) fun c70 hc70 => ?_
    refine PW.cV (as := [_]) (rest := []) q_190_15 t_mv_190_170 kd_294 I.1 (by decide) rfl (by decide) rfl rfl (Nat.le_of_ble_eq_true rfl) (Nat.le_of_ble_eq_true rfl) (by decide) (by decide) ?_
    refine PW.up (by decide) (c_X12_bad_vk (V) (hV) G _ M I c70 _ _ hp_0 fun x72 M71 IM71 GM71 hx72 kx72 PM71 => ?_)
    have FM71 := Fr.trans F GM71 (rfl)
    rcases PM71 with ⟨QM71, ⟨PfM71, PgM71⟩⟩
    refine PW.rZ q_190_18 rfl (by omega) (by omega) (by decide) (by decide) ?_
    have e : k_walker y A i = (4, kP y i, A, i) := by unfold k_walker; rw [if_pos (by omega)]
    exact hK x72 M71 IM71 FM71 (by omega) (by omega) ⟨(gKl.refl.tr QM71 rfl), (by rw [e]; exact Or.inr ⟨by omega, (by omega : (4 : Int) ≠ 0), (by omega : o_i (M71 294) 15 = 4), (by omega : o_i (M71 294) 16 = kP y i)⟩)⟩
set_option maxHeartbeats 10000000 in
theorem c_X12_readDog_vk (V : pM → Prop) (hV : Stab V) (G : pG) (Kr : pK) (M : pM) (I : Iv V M) (y : k_X) (i : Nat) (A : k_A) (hp_0 : k_ra y M i) (hp_1 : k_rp M A) (hp_2 : kK y i = 2) (hK : ∀ (x : Int32) (M1 : pM), Iv V M1 → Fr [40, 43, 45] M M1 → 0 ≤ x.toInt → x.toInt ≤ 1 → (gKl [4, 11, 12, 13, 14, 15, 16, 17, 18, 20] M M1 ∧ (k_rq y (k_dog y A i) x M1)) → Kr.1 (some (.int x)) 311 M1) : PW G false 4 192 (p_mc 192) (p_msl 192) Kr 0 (lv_args 0 [.ref 294]) [] 311 M 0 0 := by
  have F : Fr [40, 43, 45] M M := Fr.refl
  obtain ⟨kc0, kc1, kc2, kc3, kc4, kc5, kc6, kc7, kc8, kc9, kc10, kc11, kc12, kc13, kc14, kc15, kc16, kc17, kc18, kc19⟩ := id hp_1
  refine PW.aload_n q_192_0 rfl ?_
  refine PW.gR 297 q_192_1 (Or.inl t_ft_192_37) gF_40_7 kd_294 I.1 (by decide) rfl ?_
  refine PW.cI q_192_4 (by decide) fun c1 hc1 => ?_
  refine PW.aI q_192_5 gA_43 kd_297 I.1 (by decide) gB_43_1_1 (by decide) (by omega) (by omega) fun x2 fx2 hx2 kx2 => ?_
  have eax2 : x2.toInt = A.1 1 := by rw [← fx2, show c1.toInt.toNat = 1 from by omega]; exact kc1
  refine PW.istore_n q_192_6 (by decide) ?_
  refine PW.iload_n q_192_7 rfl ?_
  refine PW.cI q_192_8 (by decide) fun c3 hc3 => ?_
  refine PW.jc_ne q_192_9 rfl (fun h4 => ?_) (fun h4 => ?_)
  · skip
    refine PW.aload_n q_192_18 rfl ?_
    refine PW.cV (as := []) (rest := []) q_192_19 t_mv_192_173 kd_294 I.1 (by decide) rfl (by decide) rfl rfl (Nat.le_of_ble_eq_true rfl) (Nat.le_of_ble_eq_true rfl) (by decide) (by decide) ?_
    refine PW.up (by decide) (c_X12_go_vk (V) (hV) G _ M I _ _ (k_ra.nx hp_0 (by omega)) fun M5 IM5 GM5 PM5 => ?_)
    have FM5 := Fr.trans F GM5 (rfl)
    rcases PM5 with ⟨QM5, PtM5⟩
    refine PW.aload_n q_192_22 rfl ?_
    refine PW.cB q_192_23 (by decide) fun c6 hc6 => ?_
    refine PW.iload_n q_192_25 rfl ?_
    refine PW.addN q_192_26 (by omega) (by omega) fun x7 hx7 => ?_
    refine PW.cV (as := [_]) (rest := []) q_192_27 t_mv_192_220 kd_294 IM5.1 (by decide) rfl (by decide) rfl rfl (Nat.le_of_ble_eq_true rfl) (Nat.le_of_ble_eq_true rfl) (by decide) (by decide) ?_
    refine PW.up (by decide) (c_X12_fresh_vk (V) (hV) G _ M5 IM5 x7 (by omega) (by omega) _ _ _ PtM5 (hp_1.rs.cg (fun z hz => (congrArg (fun e => o_a e z) (Fr.at GM5 kd_297 (by decide)))) (fun z hz => (congrArg (fun e => o_l e z) (Fr.at GM5 kd_299 (by decide))))) fun x9 M8 IM8 GM8 hx9 kx9 PM8 => ?_)
    have FM8 := Fr.trans FM5 GM8 (rfl)
    rcases PM8 with ⟨QM8, ⟨PaM8, PbM8, PfM8, PgM8⟩ | ⟨PaM8, PbM8, PcM8, PfM8, PgM8⟩ | ⟨PaM8, PbM8, PkM8, PcM8, PdM8, PwM8, PtM8, PhM8⟩⟩
    · skip
      refine PW.jz_eq q_192_30 rfl (fun h10 => ?_) (fun h10 => False.elim (by omega))
      refine PW.cI q_192_48 (by decide) fun c11 hc11 => ?_
      refine PW.rZ q_192_49 rfl (by omega) (by omega) (by decide) (by decide) ?_
      have e : k_dog y A i = (1, kP y (i + 1), A, i) := by unfold k_dog; rw [if_neg (by omega), if_pos (by omega)]
      exact hK c11 M8 IM8 FM8 (by omega) (by omega) ⟨((gKl.refl.tr QM5 rfl).tr QM8 rfl), (by rw [e]; exact Or.inr ⟨by omega, (by omega : (1 : Int) ≠ 0), (by omega : o_i (M8 294) 15 = 1), (by omega : o_i (M8 294) 16 = kP y (i + 1))⟩)⟩
    · skip
      refine PW.jz_eq q_192_30 rfl (fun h12 => ?_) (fun h12 => False.elim (by omega))
      refine PW.cI q_192_48 (by decide) fun c13 hc13 => ?_
      refine PW.rZ q_192_49 rfl (by omega) (by omega) (by decide) (by decide) ?_
      have e : k_dog y A i = (3, kP y (i + 1), A, i) := by unfold k_dog; rw [if_neg (by omega), if_neg (by omega), if_pos (by omega)]
      exact hK c13 M8 IM8 FM8 (by omega) (by omega) ⟨((gKl.refl.tr QM5 rfl).tr QM8 rfl), (by rw [e]; exact Or.inr ⟨by omega, (by omega : (3 : Int) ≠ 0), (by omega : o_i (M8 294) 15 = 3), (by omega : o_i (M8 294) 16 = kP y (i + 1))⟩)⟩
    · skip
      refine PW.jz_eq q_192_30 rfl (fun h14 => False.elim (by omega)) (fun h14 => ?_)
      refine PW.aload_n q_192_33 rfl ?_
      refine PW.cB q_192_34 (by decide) fun c15 hc15 => ?_
      refine PW.aload_n q_192_36 rfl ?_
      refine PW.gR 297 q_192_37 (Or.inl t_ft_192_37) gF_40_7 kd_294 IM8.1 (by decide) rfl ?_
      refine PW.cI q_192_40 (by decide) fun c16 hc16 => ?_
      refine PW.aI q_192_41 gA_43 kd_297 IM8.1 (by decide) gB_43_0_0 (by decide) (by omega) (by omega) fun x17 fx17 hx17 kx17 => ?_
      have eax17 : x17.toInt = A.1 0 := by rw [← fx17, show c16.toInt.toNat = 0 from by omega, ((congrArg (fun e => o_a e 0) (Fr.at GM8 kd_297 (by decide))).trans (congrArg (fun e => o_a e 0) (Fr.at GM5 kd_297 (by decide))))]; exact kc0
      refine PW.cV (as := [_, _]) (rest := []) q_192_42 t_mv_192_217 kd_294 IM8.1 (by decide) rfl (by decide) rfl rfl (Nat.le_of_ble_eq_true rfl) (Nat.le_of_ble_eq_true rfl) (by decide) (by decide) ?_
      refine PW.up (by decide) (c_X12_looksAt_vk (V) (hV) G _ M8 IM8 c15 x17 (by omega) (by omega) (by omega) (by omega) _ _ _ PtM8 (hp_1.rs.cg (fun z hz => ((congrArg (fun e => o_a e z) (Fr.at GM8 kd_297 (by decide))).trans (congrArg (fun e => o_a e z) (Fr.at GM5 kd_297 (by decide))))) (fun z hz => ((PhM8 z (by omega)).trans (congrArg (fun e => o_l e z) (Fr.at GM5 kd_299 (by decide)))))) (by omega) fun x19 M18 IM18 GM18 hx19 kx19 PM18 => ?_)
      have FM18 := Fr.trans FM8 GM18 (rfl)
      rcases PM18 with ⟨QM18, ⟨PaM18, PbM18, PfM18, PgM18⟩ | ⟨PaM18, PbM18, PcM18, PfM18, PgM18⟩ | ⟨PaM18, PbM18, PkM18, PvM18, PnM18, PtM18⟩⟩
      · skip
        refine PW.jz_ne q_192_45 rfl (fun h20 => False.elim (by omega)) (fun h20 => ?_)
        refine PW.cI q_192_48 (by decide) fun c21 hc21 => ?_
        refine PW.rZ q_192_49 rfl (by omega) (by omega) (by decide) (by decide) ?_
        have e : k_dog y A i = (1, kP y (i + 2), A, i) := by unfold k_dog; rw [if_neg (by omega), if_neg (by omega), if_neg (by omega), if_pos (by omega)]
        exact hK c21 M18 IM18 FM18 (by omega) (by omega) ⟨(((gKl.refl.tr QM5 rfl).tr QM8 rfl).tr QM18 rfl), (by rw [e]; exact Or.inr ⟨by omega, (by omega : (1 : Int) ≠ 0), (by omega : o_i (M18 294) 15 = 1), (by omega : o_i (M18 294) 16 = kP y (i + 2))⟩)⟩
      · skip
        refine PW.jz_ne q_192_45 rfl (fun h22 => False.elim (by omega)) (fun h22 => ?_)
        refine PW.cI q_192_48 (by decide) fun c23 hc23 => ?_
        refine PW.rZ q_192_49 rfl (by omega) (by omega) (by decide) (by decide) ?_
        have e : k_dog y A i = (3, kP y (i + 2), A, i) := by unfold k_dog; rw [if_neg (by omega), if_neg (by omega), if_neg (by omega), if_neg (by omega), if_pos (by omega)]
        exact hK c23 M18 IM18 FM18 (by omega) (by omega) ⟨(((gKl.refl.tr QM5 rfl).tr QM8 rfl).tr QM18 rfl), (by rw [e]; exact Or.inr ⟨by omega, (by omega : (3 : Int) ≠ 0), (by omega : o_i (M18 294) 15 = 3), (by omega : o_i (M18 294) 16 = kP y (i + 2))⟩)⟩
      · skip
        refine PW.jz_ne q_192_45 rfl (fun h24 => ?_) (fun h24 => False.elim (by omega))
        refine PW.aload_n q_192_50 rfl ?_
        refine PW.gR 297 q_192_51 (Or.inl t_ft_192_37) gF_40_7 kd_294 IM18.1 (by decide) rfl ?_
        refine PW.cB q_192_54 (by decide) fun c25 hc25 => ?_
        refine PW.iload_n q_192_56 rfl ?_
        refine PW.addN q_192_57 (by omega) (by omega) fun x26 hx26 => ?_
        refine PW.aload_n q_192_58 rfl ?_
        refine PW.gI q_192_59 (Or.inl t_ft_192_180) gF_40_18 kd_294 IM18.1 (by decide) fun x27 fx27 hx27 kx27 => ?_
        have ix27 := o_i_of fx27
        clear hx27 kx27
        have kbx27 := k_fd_b A.2.1 (kV y (i + 2)) (A.1 0).toNat
        have gtx27 : x27.toInt = k_fd A.2.1 (kV y (i + 2)) (A.1 0).toNat := by omega
        refine PW.wI q_192_62 gA_43 kd_297 hV IM18 (by decide) rfl gC_43_23_24 (by decide) (by omega) (by omega) (by omega) (by omega) fun M28 IM28 fM28 UM28 => ?_
        have FM28 := Fr.pu FM18 UM28.1 kd_297 (rfl : List.contains [40, 43, 45] 43 = true)
        refine PW.aload_n q_192_63 rfl ?_
        refine PW.cV (as := []) (rest := []) q_192_64 t_mv_192_173 kd_294 IM28.1 (by decide) rfl (by decide) rfl rfl (Nat.le_of_ble_eq_true rfl) (Nat.le_of_ble_eq_true rfl) (by decide) (by decide) ?_
        refine PW.up (by decide) (c_X12_go_vk (V) (hV) G _ M28 IM28 _ _ (k_ra.nx (PtM18.cg (UM28.1 294 (by decide)) (UM28.1 295 (by decide)) (UM28.1 300 (by decide))) (by omega)) fun M29 IM29 GM29 PM29 => ?_)
        have FM29 := Fr.trans FM28 GM29 (rfl)
        rcases PM29 with ⟨QM29, PtM29⟩
        refine PW.aload_n q_192_67 rfl ?_
        refine PW.cB q_192_68 (by decide) fun c30 hc30 => ?_
        refine PW.iload_n q_192_70 rfl ?_
        refine PW.addN q_192_71 (by omega) (by omega) fun x31 hx31 => ?_
        refine PW.cI q_192_72 (by decide) fun c32 hc32 => ?_
        refine PW.cB q_192_73 (by decide) fun c33 hc33 => ?_
        refine PW.cV (as := [_, _, _]) (rest := []) q_192_75 t_mv_192_208 kd_294 IM29.1 (by decide) rfl (by decide) rfl rfl (Nat.le_of_ble_eq_true rfl) (Nat.le_of_ble_eq_true rfl) (by decide) (by decide) ?_
        refine PW.up (by decide) (c_X12_puts_vkd (V) (hV) G _ M29 IM29 x31 c32 c33 (by omega) (by omega) _ _ 1 30 PtM29 (by omega) (by omega) fun x35 M34 IM34 GM34 hx35 kx35 PM34 => ?_)
        have FM34 := Fr.trans FM29 GM34 (rfl)
        rcases PM34 with ⟨QM34, ⟨PaM34, PzM34, PvM34, PlM34, PmM34, PtM34, PhM34⟩ | ⟨PaM34, PzM34, PfM34, PgM34⟩⟩
        · skip
          refine PW.jz_eq q_192_78 rfl (fun h36 => False.elim (by omega)) (fun h36 => ?_)
          refine PW.aload_n q_192_81 rfl ?_
          refine PW.cB q_192_82 (by decide) fun c37 hc37 => ?_
          refine PW.iload_n q_192_84 rfl ?_
          refine PW.addN q_192_85 (by omega) (by omega) fun x38 hx38 => ?_
          refine PW.cI q_192_86 (by decide) fun c39 hc39 => ?_
          refine PW.cB q_192_87 (by decide) fun c40 hc40 => ?_
          refine PW.cV (as := [_, _, _]) (rest := []) q_192_89 t_mv_192_208 kd_294 IM34.1 (by decide) rfl (by decide) rfl rfl (Nat.le_of_ble_eq_true rfl) (Nat.le_of_ble_eq_true rfl) (by decide) (by decide) ?_
          refine PW.up (by decide) (c_X12_puts_vkd (V) (hV) G _ M34 IM34 x38 c39 c40 (by omega) (by omega) _ _ 0 9 PtM34 (by omega) (by omega) fun x42 M41 IM41 GM41 hx42 kx42 PM41 => ?_)
          have FM41 := Fr.trans FM34 GM41 (rfl)
          rcases PM41 with ⟨QM41, ⟨PaM41, PzM41, PvM41, PlM41, PmM41, PtM41, PhM41⟩ | ⟨PaM41, PzM41, PfM41, PgM41⟩⟩
          · skip
            refine PW.jz_ne q_192_92 rfl (fun h43 => ?_) (fun h43 => False.elim (by omega))
            refine PW.aload_n q_192_97 rfl ?_
            refine PW.gR 297 q_192_98 (Or.inl t_ft_192_37) gF_40_7 kd_294 IM41.1 (by decide) rfl ?_
            refine PW.cB q_192_101 (by decide) fun c44 hc44 => ?_
            refine PW.iload_n q_192_103 rfl ?_
            refine PW.addN q_192_104 (by omega) (by omega) fun x45 hx45 => ?_
            refine PW.aload_n q_192_105 rfl ?_
            refine PW.cV (as := []) (rest := [_, _]) q_192_106 t_mv_192_223 kd_294 IM41.1 (by decide) rfl (by decide) rfl rfl (Nat.le_of_ble_eq_true rfl) (Nat.le_of_ble_eq_true rfl) (by decide) (by decide) ?_
            refine PW.up (by decide) (c_X12_lawOf_vk (V) (hV) G _ M41 IM41 _ _ PtM41 fun x47  hx47 kx47 PM46 => ?_)
            rcases PM46 with ⟨PlM46, PmM46⟩
            refine PW.wI q_192_109 gA_43 kd_297 hV IM41 (by decide) rfl gC_43_29_30 (by decide) (by omega) (by omega) (n_lo _) (n_hi _) fun M48 IM48 fM48 UM48 => ?_
            have FM48 := Fr.pu FM41 UM48.1 kd_297 (rfl : List.contains [40, 43, 45] 43 = true)
            refine PW.aload_n q_192_110 rfl ?_
            refine PW.gR 297 q_192_111 (Or.inl t_ft_192_37) gF_40_7 kd_294 IM48.1 (by decide) rfl ?_
            refine PW.cB q_192_114 (by decide) fun c49 hc49 => ?_
            refine PW.iload_n q_192_116 rfl ?_
            refine PW.addN q_192_117 (by omega) (by omega) fun x50 hx50 => ?_
            refine PW.aH q_192_118 gA_43 kd_297 IM48.1 (by decide) (by omega) (by omega) fun x51 fx51 => ?_
            refine PW.jz_ge q_192_119 rfl (fun h52 => ?_) (fun h52 => ?_)
            · skip
              refine PW.aload_n q_192_128 rfl ?_
              refine PW.cV (as := []) (rest := []) q_192_129 t_mv_192_173 kd_294 IM48.1 (by decide) rfl (by decide) rfl rfl (Nat.le_of_ble_eq_true rfl) (Nat.le_of_ble_eq_true rfl) (by decide) (by decide) ?_
              refine PW.up (by decide) (c_X12_go_vk (V) (hV) G _ M48 IM48 _ _ (k_ra.nx (PtM41.cg (UM48.1 294 (by decide)) (UM48.1 295 (by decide)) (UM48.1 300 (by decide))) (by omega)) fun M53 IM53 GM53 PM53 => ?_)
              have FM53 := Fr.trans FM48 GM53 (rfl)
              rcases PM53 with ⟨QM53, PtM53⟩
              refine PW.aload_n q_192_132 rfl ?_
              refine PW.gR 297 q_192_133 (Or.inl t_ft_192_37) gF_40_7 kd_294 IM53.1 (by decide) rfl ?_
              refine PW.cI q_192_136 (by decide) fun c54 hc54 => ?_
              refine PW.dup2 q_192_137 rfl rfl ?_
              refine PW.aI q_192_138 gA_43 kd_297 IM53.1 (by decide) gB_43_1_1 (by decide) (by omega) (by omega) fun x55 fx55 hx55 kx55 => ?_
              have eax55 : x55.toInt = A.1 1 := by rw [← fx55, show c54.toInt.toNat = 1 from by omega, ((congrArg (fun e => o_a e 1) (Fr.at GM53 kd_297 (by decide))).trans ((UM48.2 1 (by omega)).trans ((PhM41 1 (by omega)).trans ((PhM34 1 (by omega)).trans ((congrArg (fun e => o_a e 1) (Fr.at GM29 kd_297 (by decide))).trans ((UM28.2 1 (by omega)).trans ((congrArg (fun e => o_a e 1) (Fr.at GM18 kd_297 (by decide))).trans ((congrArg (fun e => o_a e 1) (Fr.at GM8 kd_297 (by decide))).trans (congrArg (fun e => o_a e 1) (Fr.at GM5 kd_297 (by decide)))))))))))]; exact kc1
              refine PW.cI q_192_139 (by decide) fun c56 hc56 => ?_
              refine PW.addN q_192_140 (by omega) (by omega) fun x57 hx57 => ?_
              refine PW.wI q_192_141 gA_43 kd_297 hV IM53 (by decide) rfl gC_43_1_1 (by decide) (by omega) (by omega) (by omega) (by omega) fun M58 IM58 fM58 UM58 => ?_
              have FM58 := Fr.pu FM53 UM58.1 kd_297 (rfl : List.contains [40, 43, 45] 43 = true)
              refine PW.cI q_192_142 (by decide) fun c59 hc59 => ?_
              refine PW.rZ q_192_143 rfl (by omega) (by omega) (by decide) (by decide) ?_
              have e : k_dog y A i = (0, 0, (va_up A.1 1 (A.1 1 + 1), A.2.1, va_up A.2.2.1 (A.1 1).toNat (kV y (i + 1)), va_up A.2.2.2.1 (A.1 1).toNat 0, va_up A.2.2.2.2 (A.1 1).toNat (k_lw y (i + 5))), i + 6) := by unfold k_dog; rw [if_neg (by omega), if_neg (by omega), if_neg (by omega), if_neg (by omega), if_neg (by omega), if_neg (by omega), if_neg (by omega), if_neg (by omega)]
              have w20 : o_i (M58 294) 20 = o_i (M 294) 20 := ((congrArg (fun e => o_i e 20) (UM58.1 294 (by decide))).trans ((QM53.i 20 rfl).trans ((congrArg (fun e => o_i e 20) (UM48.1 294 (by decide))).trans ((QM41.i 20 rfl).trans ((QM34.i 20 rfl).trans ((QM29.i 20 rfl).trans ((congrArg (fun e => o_i e 20) (UM28.1 294 (by decide))).trans ((QM18.i 20 rfl).trans ((QM8.i 20 rfl).trans (QM5.i 20 rfl))))))))))
              exact hK c59 M58 IM58 FM58 (by omega) (by omega) ⟨((((((((((gKl.refl.tr QM5 rfl).tr QM8 rfl).tr QM18 rfl).cg (UM28.1 294 (by decide))).tr QM29 rfl).tr QM34 rfl).tr QM41 rfl).cg (UM48.1 294 (by decide))).tr QM53 rfl).cg (UM58.1 294 (by decide))), (by rw [e]; exact Or.inl ⟨by omega, rfl, (PtM53.cg (UM58.1 294 (by decide)) (UM58.1 295 (by decide)) (UM58.1 300 (by decide))), ⟨(by rw [((UM58.2 0 (by omega)).trans ((congrArg (fun e => o_a e 0) (Fr.at GM53 kd_297 (by decide))).trans ((UM48.2 0 (by omega)).trans ((PhM41 0 (by omega)).trans ((PhM34 0 (by omega)).trans ((congrArg (fun e => o_a e 0) (Fr.at GM29 kd_297 (by decide))).trans ((UM28.2 0 (by omega)).trans ((congrArg (fun e => o_a e 0) (Fr.at GM18 kd_297 (by decide))).trans ((congrArg (fun e => o_a e 0) (Fr.at GM8 kd_297 (by decide))).trans (congrArg (fun e => o_a e 0) (Fr.at GM5 kd_297 (by decide))))))))))))]; exact kc0), (by have f := fM58; rw [show c54.toInt.toNat = 1 from by omega] at f; rw [f]; show _ = A.1 1 + 1; omega), (by rw [((UM58.2 2 (by omega)).trans ((congrArg (fun e => o_a e 2) (Fr.at GM53 kd_297 (by decide))).trans ((UM48.2 2 (by omega)).trans ((PhM41 2 (by omega)).trans ((PhM34 2 (by omega)).trans ((congrArg (fun e => o_a e 2) (Fr.at GM29 kd_297 (by decide))).trans ((UM28.2 2 (by omega)).trans ((congrArg (fun e => o_a e 2) (Fr.at GM18 kd_297 (by decide))).trans ((congrArg (fun e => o_a e 2) (Fr.at GM8 kd_297 (by decide))).trans (congrArg (fun e => o_a e 2) (Fr.at GM5 kd_297 (by decide))))))))))))]; exact kc2), (by rw [((UM58.2 3 (by omega)).trans ((congrArg (fun e => o_a e 3) (Fr.at GM53 kd_297 (by decide))).trans ((UM48.2 3 (by omega)).trans ((PhM41 3 (by omega)).trans ((PhM34 3 (by omega)).trans ((congrArg (fun e => o_a e 3) (Fr.at GM29 kd_297 (by decide))).trans ((UM28.2 3 (by omega)).trans ((congrArg (fun e => o_a e 3) (Fr.at GM18 kd_297 (by decide))).trans ((congrArg (fun e => o_a e 3) (Fr.at GM8 kd_297 (by decide))).trans (congrArg (fun e => o_a e 3) (Fr.at GM5 kd_297 (by decide))))))))))))]; exact kc3), (by rw [((UM58.2 4 (by omega)).trans ((congrArg (fun e => o_a e 4) (Fr.at GM53 kd_297 (by decide))).trans ((UM48.2 4 (by omega)).trans ((PhM41 4 (by omega)).trans ((PhM34 4 (by omega)).trans ((congrArg (fun e => o_a e 4) (Fr.at GM29 kd_297 (by decide))).trans ((UM28.2 4 (by omega)).trans ((congrArg (fun e => o_a e 4) (Fr.at GM18 kd_297 (by decide))).trans ((congrArg (fun e => o_a e 4) (Fr.at GM8 kd_297 (by decide))).trans (congrArg (fun e => o_a e 4) (Fr.at GM5 kd_297 (by decide))))))))))))]; exact kc4), (((congrArg (fun e => o_i e 19) (UM58.1 294 (by decide))).trans ((QM53.i 19 rfl).trans ((congrArg (fun e => o_i e 19) (UM48.1 294 (by decide))).trans ((QM41.i 19 rfl).trans ((QM34.i 19 rfl).trans ((QM29.i 19 rfl).trans ((congrArg (fun e => o_i e 19) (UM28.1 294 (by decide))).trans ((QM18.i 19 rfl).trans ((QM8.i 19 rfl).trans (QM5.i 19 rfl)))))))))).trans kc5), (by omega), (by omega), (by show (o_i (M58 294) 20 % 2 = 1 ↔ (A.1 6 = 1 ∨ 0 < A.1 0)); omega), (by show (o_i (M58 294) 20 / 2 % 2 = 1 ↔ A.1 7 = 1); omega), (by show (o_i (M58 294) 20 / 4 % 2 = 1 ↔ A.1 4 ≠ -1); omega), (fun j hj => by rw [((congrArg (fun e => o_l e (8 + j)) (UM58.1 299 (by decide))).trans ((congrArg (fun e => o_l e (8 + j)) (Fr.at GM53 kd_299 (by decide))).trans ((congrArg (fun e => o_l e (8 + j)) (UM48.1 299 (by decide))).trans ((congrArg (fun e => o_l e (8 + j)) (Fr.at GM41 kd_299 (by decide))).trans ((congrArg (fun e => o_l e (8 + j)) (Fr.at GM34 kd_299 (by decide))).trans ((congrArg (fun e => o_l e (8 + j)) (Fr.at GM29 kd_299 (by decide))).trans ((congrArg (fun e => o_l e (8 + j)) (UM28.1 299 (by decide))).trans ((congrArg (fun e => o_l e (8 + j)) (Fr.at GM18 kd_299 (by decide))).trans ((PhM8 (8 + j) (by omega)).trans (congrArg (fun e => o_l e (8 + j)) (Fr.at GM5 kd_299 (by decide))))))))))))]; exact kc11 j hj), (k_upn (e0 := M 299) kc12 (by omega) (by have f := PwM8; rw [show x7.toInt.toNat = 14 + (A.1 1).toNat from by omega] at f; rw [((congrArg (fun e => o_l e (14 + (A.1 1).toNat)) (UM58.1 299 (by decide))).trans ((congrArg (fun e => o_l e (14 + (A.1 1).toNat)) (Fr.at GM53 kd_299 (by decide))).trans ((congrArg (fun e => o_l e (14 + (A.1 1).toNat)) (UM48.1 299 (by decide))).trans ((congrArg (fun e => o_l e (14 + (A.1 1).toNat)) (Fr.at GM41 kd_299 (by decide))).trans ((congrArg (fun e => o_l e (14 + (A.1 1).toNat)) (Fr.at GM34 kd_299 (by decide))).trans ((congrArg (fun e => o_l e (14 + (A.1 1).toNat)) (Fr.at GM29 kd_299 (by decide))).trans ((congrArg (fun e => o_l e (14 + (A.1 1).toNat)) (UM28.1 299 (by decide))).trans (congrArg (fun e => o_l e (14 + (A.1 1).toNat)) (Fr.at GM18 kd_299 (by decide))))))))))]; exact f) (fun j hj => ((congrArg (fun e => o_l e (14 + j)) (UM58.1 299 (by decide))).trans ((congrArg (fun e => o_l e (14 + j)) (Fr.at GM53 kd_299 (by decide))).trans ((congrArg (fun e => o_l e (14 + j)) (UM48.1 299 (by decide))).trans ((congrArg (fun e => o_l e (14 + j)) (Fr.at GM41 kd_299 (by decide))).trans ((congrArg (fun e => o_l e (14 + j)) (Fr.at GM34 kd_299 (by decide))).trans ((congrArg (fun e => o_l e (14 + j)) (Fr.at GM29 kd_299 (by decide))).trans ((congrArg (fun e => o_l e (14 + j)) (UM28.1 299 (by decide))).trans ((congrArg (fun e => o_l e (14 + j)) (Fr.at GM18 kd_299 (by decide))).trans ((PhM8 (14 + j) (by omega)).trans (congrArg (fun e => o_l e (14 + j)) (Fr.at GM5 kd_299 (by decide)))))))))))))), (k_upz (e0 := M 297) kc13 (by omega) (by rw [((UM58.2 (31 + (A.1 1).toNat) (by omega)).trans ((congrArg (fun e => o_a e (31 + (A.1 1).toNat)) (Fr.at GM53 kd_297 (by decide))).trans ((UM48.2 (31 + (A.1 1).toNat) (by omega)).trans ((PhM41 (31 + (A.1 1).toNat) (by omega)).trans ((PhM34 (31 + (A.1 1).toNat) (by omega)).trans ((congrArg (fun e => o_a e (31 + (A.1 1).toNat)) (Fr.at GM29 kd_297 (by decide))).trans ((UM28.2 (31 + (A.1 1).toNat) (by omega)).trans ((congrArg (fun e => o_a e (31 + (A.1 1).toNat)) (Fr.at GM18 kd_297 (by decide))).trans ((congrArg (fun e => o_a e (31 + (A.1 1).toNat)) (Fr.at GM8 kd_297 (by decide))).trans (congrArg (fun e => o_a e (31 + (A.1 1).toNat)) (Fr.at GM5 kd_297 (by decide))))))))))))]; exact kc15 _ (by omega) (by omega)) (by omega) (fun j hj => ((UM58.2 (31 + j) (by omega)).trans ((congrArg (fun e => o_a e (31 + j)) (Fr.at GM53 kd_297 (by decide))).trans ((UM48.2 (31 + j) (by omega)).trans ((PhM41 (31 + j) (by omega)).trans ((PhM34 (31 + j) (by omega)).trans ((congrArg (fun e => o_a e (31 + j)) (Fr.at GM29 kd_297 (by decide))).trans ((UM28.2 (31 + j) (by omega)).trans ((congrArg (fun e => o_a e (31 + j)) (Fr.at GM18 kd_297 (by decide))).trans ((congrArg (fun e => o_a e (31 + j)) (Fr.at GM8 kd_297 (by decide))).trans (congrArg (fun e => o_a e (31 + j)) (Fr.at GM5 kd_297 (by decide)))))))))))))), (k_upw (e0 := M 297) kc14 (by omega) (by have f := fM48; rw [show x45.toInt.toNat = 29 + (A.1 1).toNat from by omega] at f; rw [((UM58.2 (29 + (A.1 1).toNat) (by omega)).trans (congrArg (fun e => o_a e (29 + (A.1 1).toNat)) (Fr.at GM53 kd_297 (by decide))))]; rw [f]; omega) (fun j hj => ((UM58.2 (29 + j) (by omega)).trans ((congrArg (fun e => o_a e (29 + j)) (Fr.at GM53 kd_297 (by decide))).trans ((UM48.2 (29 + j) (by omega)).trans ((PhM41 (29 + j) (by omega)).trans ((PhM34 (29 + j) (by omega)).trans ((congrArg (fun e => o_a e (29 + j)) (Fr.at GM29 kd_297 (by decide))).trans ((UM28.2 (29 + j) (by omega)).trans ((congrArg (fun e => o_a e (29 + j)) (Fr.at GM18 kd_297 (by decide))).trans ((congrArg (fun e => o_a e (29 + j)) (Fr.at GM8 kd_297 (by decide))).trans (congrArg (fun e => o_a e (29 + j)) (Fr.at GM5 kd_297 (by decide)))))))))))))), (fun j hj h2 => by have hj : A.1 1 + 1 ≤ (j : Int) := hj; rw [((UM58.2 (31 + j) (by omega)).trans ((congrArg (fun e => o_a e (31 + j)) (Fr.at GM53 kd_297 (by decide))).trans ((UM48.2 (31 + j) (by omega)).trans ((PhM41 (31 + j) (by omega)).trans ((PhM34 (31 + j) (by omega)).trans ((congrArg (fun e => o_a e (31 + j)) (Fr.at GM29 kd_297 (by decide))).trans ((UM28.2 (31 + j) (by omega)).trans ((congrArg (fun e => o_a e (31 + j)) (Fr.at GM18 kd_297 (by decide))).trans ((congrArg (fun e => o_a e (31 + j)) (Fr.at GM8 kd_297 (by decide))).trans (congrArg (fun e => o_a e (31 + j)) (Fr.at GM5 kd_297 (by decide))))))))))))]; exact kc15 j (by omega) h2), (by show 0 ≤ A.1 0; omega), (by show A.1 0 ≤ 6; omega), (by show 0 ≤ A.1 1 + 1; omega), (by show A.1 1 + 1 ≤ 2; omega)⟩⟩)⟩
            · skip
              refine PW.aload_n q_192_122 rfl ?_
              refine PW.cI q_192_123 (by decide) fun c60 hc60 => ?_
              refine PW.cV (as := [_]) (rest := []) q_192_124 t_mv_192_170 kd_294 IM48.1 (by decide) rfl (by decide) rfl rfl (Nat.le_of_ble_eq_true rfl) (Nat.le_of_ble_eq_true rfl) (by decide) (by decide) ?_
              refine PW.up (by decide) (c_X12_bad_vk (V) (hV) G _ M48 IM48 c60 _ _ (PtM41.cg (UM48.1 294 (by decide)) (UM48.1 295 (by decide)) (UM48.1 300 (by decide))) fun x62 M61 IM61 GM61 hx62 kx62 PM61 => ?_)
              have FM61 := Fr.trans FM48 GM61 (rfl)
              rcases PM61 with ⟨QM61, ⟨PfM61, PgM61⟩⟩
              refine PW.rZ q_192_127 rfl (by omega) (by omega) (by decide) (by decide) ?_
              have e : k_dog y A i = (1, kP y (i + 5), A, i) := by unfold k_dog; rw [if_neg (by omega), if_neg (by omega), if_neg (by omega), if_neg (by omega), if_neg (by omega), if_neg (by omega), if_neg (by omega), if_pos (by omega)]
              exact hK x62 M61 IM61 FM61 (by omega) (by omega) ⟨(((((((((gKl.refl.tr QM5 rfl).tr QM8 rfl).tr QM18 rfl).cg (UM28.1 294 (by decide))).tr QM29 rfl).tr QM34 rfl).tr QM41 rfl).cg (UM48.1 294 (by decide))).tr QM61 rfl), (by rw [e]; exact Or.inr ⟨by omega, (by omega : (1 : Int) ≠ 0), (by omega : o_i (M61 294) 15 = 1), (by omega : o_i (M61 294) 16 = kP y (i + 5))⟩)⟩
          · skip
            refine PW.jz_ne q_192_92 rfl (fun h63 => False.elim (by omega)) (fun h63 => ?_)
            refine PW.cI q_192_95 (by decide) fun c64 hc64 => ?_
            refine PW.rZ q_192_96 rfl (by omega) (by omega) (by decide) (by decide) ?_
            have e : k_dog y A i = (k_nr y (i + 4) 0 9, kP y (i + 4), A, i) := by unfold k_dog; rw [if_neg (by omega), if_neg (by omega), if_neg (by omega), if_neg (by omega), if_neg (by omega), if_neg (by omega), if_pos (by omega)]
            exact hK c64 M41 IM41 FM41 (by omega) (by omega) ⟨(((((((gKl.refl.tr QM5 rfl).tr QM8 rfl).tr QM18 rfl).cg (UM28.1 294 (by decide))).tr QM29 rfl).tr QM34 rfl).tr QM41 rfl), (by rw [e]; exact Or.inr ⟨by omega, (by omega : (k_nr y (i + 4) 0 9 : Int) ≠ 0), (by omega : o_i (M41 294) 15 = k_nr y (i + 4) 0 9), (by omega : o_i (M41 294) 16 = kP y (i + 4))⟩)⟩
        · skip
          refine PW.jz_eq q_192_78 rfl (fun h65 => ?_) (fun h65 => False.elim (by omega))
          refine PW.cI q_192_95 (by decide) fun c66 hc66 => ?_
          refine PW.rZ q_192_96 rfl (by omega) (by omega) (by decide) (by decide) ?_
          have e : k_dog y A i = (k_nr y (i + 3) 1 30, kP y (i + 3), A, i) := by unfold k_dog; rw [if_neg (by omega), if_neg (by omega), if_neg (by omega), if_neg (by omega), if_neg (by omega), if_pos (by omega)]
          exact hK c66 M34 IM34 FM34 (by omega) (by omega) ⟨((((((gKl.refl.tr QM5 rfl).tr QM8 rfl).tr QM18 rfl).cg (UM28.1 294 (by decide))).tr QM29 rfl).tr QM34 rfl), (by rw [e]; exact Or.inr ⟨by omega, (by omega : (k_nr y (i + 3) 1 30 : Int) ≠ 0), (by omega : o_i (M34 294) 15 = k_nr y (i + 3) 1 30), (by omega : o_i (M34 294) 16 = kP y (i + 3))⟩)⟩
  · skip
    refine PW.aload_n q_192_12 rfl ?_
    refine PW.cI q_192_13 (by decide) fun c67 hc67 => ?_
    refine PW.cV (as := [_]) (rest := []) q_192_14 t_mv_192_170 kd_294 I.1 (by decide) rfl (by decide) rfl rfl (Nat.le_of_ble_eq_true rfl) (Nat.le_of_ble_eq_true rfl) (by decide) (by decide) ?_
    refine PW.up (by decide) (c_X12_bad_vk (V) (hV) G _ M I c67 _ _ hp_0 fun x69 M68 IM68 GM68 hx69 kx69 PM68 => ?_)
    have FM68 := Fr.trans F GM68 (rfl)
    rcases PM68 with ⟨QM68, ⟨PfM68, PgM68⟩⟩
    refine PW.rZ q_192_17 rfl (by omega) (by omega) (by decide) (by decide) ?_
    have e : k_dog y A i = (4, kP y i, A, i) := by unfold k_dog; rw [if_pos (by omega)]
    exact hK x69 M68 IM68 FM68 (by omega) (by omega) ⟨(gKl.refl.tr QM68 rfl), (by rw [e]; exact Or.inr ⟨by omega, (by omega : (4 : Int) ≠ 0), (by omega : o_i (M68 294) 15 = 4), (by omega : o_i (M68 294) 16 = kP y i)⟩)⟩
set_option maxHeartbeats 10000000 in
theorem c_X12_line_vk (V : pM → Prop) (hV : Stab V) (G : pG) (Kr : pK) (M : pM) (I : Iv V M) (y : k_X) (i : Nat) (A : k_A) (hp_0 : k_ra y M i) (hp_1 : k_rp M A) (hK : ∀ (x : Int32) (M1 : pM), Iv V M1 → Fr [40, 43, 45] M M1 → 0 ≤ x.toInt → x.toInt ≤ 1 → (gKl [4, 11, 12, 13, 14, 15, 16, 17, 18, 20] M M1 ∧ (k_rq y (k_line y A i) x M1)) → Kr.1 (some (.int x)) 311 M1) : PW G false 5 189 (p_mc 189) (p_msl 189) Kr 0 (lv_args 0 [.ref 294]) [] 311 M 0 0 := by
  have F : Fr [40, 43, 45] M M := Fr.refl
  obtain ⟨kc0, kc1, kc2, kc3, kc4, kc5, kc6, kc7, kc8, kc9, kc10, kc11, kc12, kc13, kc14, kc15, kc16, kc17, kc18, kc19⟩ := id hp_1
  refine PW.aload_n q_189_0 rfl ?_
  refine PW.ldc2 q_189_1 t_lt_189_78 ?_
  refine PW.nmLk fun l1 el1 => ?_
  refine PW.cV (as := [_]) (rest := []) q_189_4 t_mv_189_201 kd_294 I.1 (by decide) rfl (by decide) rfl rfl (Nat.le_of_ble_eq_true rfl) (Nat.le_of_ble_eq_true rfl) (by decide) (by decide) ?_
  refine PW.up (by decide) (c_X12_isWord_vk (V) (hV) G _ M I l1 _ _ 0 hp_0 (by rw [el1]; decide +kernel) (by decide) fun x3  hx3 kx3 PM2 => ?_)
  rcases PM2 with ⟨PaM2, PbM2, PcM2⟩ | ⟨PaM2, PnM2⟩
  · skip
    refine PW.jz_eq q_189_7 rfl (fun h4 => False.elim (by omega)) (fun h4 => ?_)
    refine PW.aload_n q_189_10 rfl ?_
    refine PW.cI q_189_11 (by decide) fun c5 hc5 => ?_
    refine PW.cV (as := [_]) (rest := []) q_189_12 t_mv_189_205 kd_294 I.1 (by decide) rfl (by decide) rfl rfl (Nat.le_of_ble_eq_true rfl) (Nat.le_of_ble_eq_true rfl) (by decide) (by decide) ?_
    refine PW.up (by decide) (c_X12_isOnce_vk0 (V) (hV) G _ M I c5 (by omega) (by omega) _ _ hp_0 (by omega) (by omega) (by omega) fun x7 M6 IM6 GM6 hx7 kx7 PM6 => ?_)
    have FM6 := Fr.trans F GM6 (rfl)
    rcases PM6 with ⟨QM6, ⟨PaM6, PbM6, PfM6, PgM6⟩ | ⟨PaM6, PbM6, PoM6, PtM6⟩⟩
    · skip
      refine PW.jz_eq q_189_15 rfl (fun h8 => ?_) (fun h8 => False.elim (by omega))
      refine PW.cI q_189_34 (by decide) fun c9 hc9 => ?_
      refine PW.rZ q_189_35 rfl (by omega) (by omega) (by decide) (by decide) ?_
      have e : k_line y A i = (3, kP y i, A, i) := by unfold k_line; rw [if_pos ⟨PbM2, PcM2⟩]; unfold k_len; rw [if_pos (by omega)]
      exact hK c9 M6 IM6 FM6 (by omega) (by omega) ⟨(gKl.refl.tr QM6 rfl), (by rw [e]; exact Or.inr ⟨by omega, (by omega : (3 : Int) ≠ 0), (by omega : o_i (M6 294) 15 = 3), (by omega : o_i (M6 294) 16 = kP y i)⟩)⟩
    · skip
      refine PW.jz_eq q_189_15 rfl (fun h10 => False.elim (by omega)) (fun h10 => ?_)
      refine PW.aload_n q_189_18 rfl ?_
      refine PW.cI q_189_19 (by decide) fun c11 hc11 => ?_
      refine PW.cI q_189_20 (by decide) fun c12 hc12 => ?_
      refine PW.cS q_189_21 (by decide) fun c13 hc13 => ?_
      refine PW.cV (as := [_, _, _]) (rest := []) q_189_24 t_mv_189_208 kd_294 IM6.1 (by decide) rfl (by decide) rfl rfl (Nat.le_of_ble_eq_true rfl) (Nat.le_of_ble_eq_true rfl) (by decide) (by decide) ?_
      refine PW.up (by decide) (c_X12_puts_vk (V) (hV) G _ M6 IM6 c11 c12 c13 (by omega) (by omega) _ _ 1 900 PtM6 (by omega) (by omega) fun x15 M14 IM14 GM14 hx15 kx15 PM14 => ?_)
      have FM14 := Fr.trans FM6 GM14 (rfl)
      rcases PM14 with ⟨QM14, ⟨PaM14, PzM14, PvM14, PlM14, PmM14, PtM14, PhM14⟩ | ⟨PaM14, PzM14, PfM14, PgM14⟩⟩
      · skip
        refine PW.jz_eq q_189_27 rfl (fun h16 => False.elim (by omega)) (fun h16 => ?_)
        refine PW.cI q_189_30 (by decide) fun c17 hc17 => ?_
        refine PW.goto q_189_31 rfl ?_
        refine PW.rZ q_189_35 rfl (by omega) (by omega) (by decide) (by decide) ?_
        have e : k_line y A i = (0, 0, (va_up (va_up A.1 6 1) 2 (kV y (i + 1)), A.2), i + 2) := by unfold k_line; rw [if_pos ⟨PbM2, PcM2⟩]; unfold k_len; rw [if_neg (by omega), if_neg (by omega)]
        have w20 : o_i (M14 294) 20 = o_i (M6 294) 20 := (QM14.i 20 rfl)
        exact hK c17 M14 IM14 FM14 (by omega) (by omega) ⟨((gKl.refl.tr QM6 rfl).tr QM14 rfl), (by rw [e]; exact Or.inl ⟨by omega, rfl, PtM14, ⟨(by rw [((PhM14 0 (by omega)).trans (congrArg (fun e => o_a e 0) (Fr.at GM6 kd_297 (by decide))))]; exact kc0), (by rw [((PhM14 1 (by omega)).trans (congrArg (fun e => o_a e 1) (Fr.at GM6 kd_297 (by decide))))]; exact kc1), (by have f := PvM14; rw [show c11.toInt.toNat = 2 from by omega] at f; show _ = kV y (i + 1); omega), (by rw [((PhM14 3 (by omega)).trans (congrArg (fun e => o_a e 3) (Fr.at GM6 kd_297 (by decide))))]; exact kc3), (by rw [((PhM14 4 (by omega)).trans (congrArg (fun e => o_a e 4) (Fr.at GM6 kd_297 (by decide))))]; exact kc4), (((QM14.i 19 rfl).trans (QM6.i 19 rfl)).trans kc5), (by omega), (by omega), (by show (o_i (M14 294) 20 % 2 = 1 ↔ (1 = 1 ∨ 0 < A.1 0)); omega), (by show (o_i (M14 294) 20 / 2 % 2 = 1 ↔ A.1 7 = 1); omega), (by show (o_i (M14 294) 20 / 4 % 2 = 1 ↔ A.1 4 ≠ -1); omega), (fun j hj => by rw [((congrArg (fun e => o_l e (8 + j)) (Fr.at GM14 kd_299 (by decide))).trans (congrArg (fun e => o_l e (8 + j)) (Fr.at GM6 kd_299 (by decide))))]; exact kc11 j hj), (fun j hj => by rw [((congrArg (fun e => o_l e (14 + j)) (Fr.at GM14 kd_299 (by decide))).trans (congrArg (fun e => o_l e (14 + j)) (Fr.at GM6 kd_299 (by decide))))]; exact kc12 j hj), (fun j hj => by rw [((PhM14 (31 + j) (by omega)).trans (congrArg (fun e => o_a e (31 + j)) (Fr.at GM6 kd_297 (by decide))))]; exact kc13 j hj), (fun j hj => by rw [((PhM14 (29 + j) (by omega)).trans (congrArg (fun e => o_a e (29 + j)) (Fr.at GM6 kd_297 (by decide))))]; exact kc14 j hj), (fun j hj h2 => by have hj : A.1 1 ≤ (j : Int) := hj; rw [((PhM14 (31 + j) (by omega)).trans (congrArg (fun e => o_a e (31 + j)) (Fr.at GM6 kd_297 (by decide))))]; exact kc15 j (by omega) h2), (by show 0 ≤ A.1 0; omega), (by show A.1 0 ≤ 6; omega), (by show 0 ≤ A.1 1; omega), (by show A.1 1 ≤ 2; omega)⟩⟩)⟩
      · skip
        refine PW.jz_eq q_189_27 rfl (fun h18 => ?_) (fun h18 => False.elim (by omega))
        refine PW.cI q_189_34 (by decide) fun c19 hc19 => ?_
        refine PW.rZ q_189_35 rfl (by omega) (by omega) (by decide) (by decide) ?_
        have e : k_line y A i = (k_nr y (i + 1) 1 900, kP y (i + 1), A, i) := by unfold k_line; rw [if_pos ⟨PbM2, PcM2⟩]; unfold k_len; rw [if_neg (by omega), if_pos (by omega)]
        exact hK c19 M14 IM14 FM14 (by omega) (by omega) ⟨((gKl.refl.tr QM6 rfl).tr QM14 rfl), (by rw [e]; exact Or.inr ⟨by omega, (by omega : (k_nr y (i + 1) 1 900 : Int) ≠ 0), (by omega : o_i (M14 294) 15 = k_nr y (i + 1) 1 900), (by omega : o_i (M14 294) 16 = kP y (i + 1))⟩)⟩
  · skip
    refine PW.jz_eq q_189_7 rfl (fun h20 => ?_) (fun h20 => False.elim (by omega))
    refine PW.aload_n q_189_36 rfl ?_
    refine PW.ldc2 q_189_37 t_lt_189_80 ?_
    refine PW.nmLk fun l21 el21 => ?_
    refine PW.cV (as := [_]) (rest := []) q_189_40 t_mv_189_201 kd_294 I.1 (by decide) rfl (by decide) rfl rfl (Nat.le_of_ble_eq_true rfl) (Nat.le_of_ble_eq_true rfl) (by decide) (by decide) ?_
    refine PW.up (by decide) (c_X12_isWord_vk (V) (hV) G _ M I l21 _ _ 1 hp_0 (by rw [el21]; decide +kernel) (by decide) fun x23  hx23 kx23 PM22 => ?_)
    rcases PM22 with ⟨PaM22, PbM22, PcM22⟩ | ⟨PaM22, PnM22⟩
    · skip
      refine PW.jz_eq q_189_43 rfl (fun h24 => False.elim (by omega)) (fun h24 => ?_)
      refine PW.aload_n q_189_46 rfl ?_
      refine PW.cI q_189_47 (by decide) fun c25 hc25 => ?_
      refine PW.cV (as := [_]) (rest := []) q_189_48 t_mv_189_205 kd_294 I.1 (by decide) rfl (by decide) rfl rfl (Nat.le_of_ble_eq_true rfl) (Nat.le_of_ble_eq_true rfl) (by decide) (by decide) ?_
      refine PW.up (by decide) (c_X12_isOnce_vk1 (V) (hV) G _ M I c25 (by omega) (by omega) _ _ hp_0 (by omega) (by omega) (by omega) fun x27 M26 IM26 GM26 hx27 kx27 PM26 => ?_)
      have FM26 := Fr.trans F GM26 (rfl)
      rcases PM26 with ⟨QM26, ⟨PaM26, PbM26, PfM26, PgM26⟩ | ⟨PaM26, PbM26, PoM26, PtM26⟩⟩
      · skip
        refine PW.jz_eq q_189_51 rfl (fun h28 => ?_) (fun h28 => False.elim (by omega))
        refine PW.cI q_189_69 (by decide) fun c29 hc29 => ?_
        refine PW.rZ q_189_70 rfl (by omega) (by omega) (by decide) (by decide) ?_
        have e : k_line y A i = (3, kP y i, A, i) := by unfold k_line; rw [if_neg PnM2, if_pos ⟨PbM22, PcM22⟩]; unfold k_body; rw [if_pos (by omega)]
        exact hK c29 M26 IM26 FM26 (by omega) (by omega) ⟨(gKl.refl.tr QM26 rfl), (by rw [e]; exact Or.inr ⟨by omega, (by omega : (3 : Int) ≠ 0), (by omega : o_i (M26 294) 15 = 3), (by omega : o_i (M26 294) 16 = kP y i)⟩)⟩
      · skip
        refine PW.jz_eq q_189_51 rfl (fun h30 => False.elim (by omega)) (fun h30 => ?_)
        refine PW.aload_n q_189_54 rfl ?_
        refine PW.cI q_189_55 (by decide) fun c31 hc31 => ?_
        refine PW.cI q_189_56 (by decide) fun c32 hc32 => ?_
        refine PW.cB q_189_57 (by decide) fun c33 hc33 => ?_
        refine PW.cV (as := [_, _, _]) (rest := []) q_189_59 t_mv_189_208 kd_294 IM26.1 (by decide) rfl (by decide) rfl rfl (Nat.le_of_ble_eq_true rfl) (Nat.le_of_ble_eq_true rfl) (by decide) (by decide) ?_
        refine PW.up (by decide) (c_X12_puts_vk (V) (hV) G _ M26 IM26 c31 c32 c33 (by omega) (by omega) _ _ 0 9 PtM26 (by omega) (by omega) fun x35 M34 IM34 GM34 hx35 kx35 PM34 => ?_)
        have FM34 := Fr.trans FM26 GM34 (rfl)
        rcases PM34 with ⟨QM34, ⟨PaM34, PzM34, PvM34, PlM34, PmM34, PtM34, PhM34⟩ | ⟨PaM34, PzM34, PfM34, PgM34⟩⟩
        · skip
          refine PW.jz_eq q_189_62 rfl (fun h36 => False.elim (by omega)) (fun h36 => ?_)
          refine PW.cI q_189_65 (by decide) fun c37 hc37 => ?_
          refine PW.goto q_189_66 rfl ?_
          refine PW.rZ q_189_70 rfl (by omega) (by omega) (by decide) (by decide) ?_
          have e : k_line y A i = (0, 0, (va_up (va_up A.1 7 1) 3 (kV y (i + 1)), A.2), i + 2) := by unfold k_line; rw [if_neg PnM2, if_pos ⟨PbM22, PcM22⟩]; unfold k_body; rw [if_neg (by omega), if_neg (by omega)]
          have w20 : o_i (M34 294) 20 = o_i (M26 294) 20 := (QM34.i 20 rfl)
          exact hK c37 M34 IM34 FM34 (by omega) (by omega) ⟨((gKl.refl.tr QM26 rfl).tr QM34 rfl), (by rw [e]; exact Or.inl ⟨by omega, rfl, PtM34, ⟨(by rw [((PhM34 0 (by omega)).trans (congrArg (fun e => o_a e 0) (Fr.at GM26 kd_297 (by decide))))]; exact kc0), (by rw [((PhM34 1 (by omega)).trans (congrArg (fun e => o_a e 1) (Fr.at GM26 kd_297 (by decide))))]; exact kc1), (by rw [((PhM34 2 (by omega)).trans (congrArg (fun e => o_a e 2) (Fr.at GM26 kd_297 (by decide))))]; exact kc2), (by have f := PvM34; rw [show c31.toInt.toNat = 3 from by omega] at f; show _ = kV y (i + 1); omega), (by rw [((PhM34 4 (by omega)).trans (congrArg (fun e => o_a e 4) (Fr.at GM26 kd_297 (by decide))))]; exact kc4), (((QM34.i 19 rfl).trans (QM26.i 19 rfl)).trans kc5), (by omega), (by omega), (by show (o_i (M34 294) 20 % 2 = 1 ↔ (A.1 6 = 1 ∨ 0 < A.1 0)); omega), (by show (o_i (M34 294) 20 / 2 % 2 = 1 ↔ 1 = 1); omega), (by show (o_i (M34 294) 20 / 4 % 2 = 1 ↔ A.1 4 ≠ -1); omega), (fun j hj => by rw [((congrArg (fun e => o_l e (8 + j)) (Fr.at GM34 kd_299 (by decide))).trans (congrArg (fun e => o_l e (8 + j)) (Fr.at GM26 kd_299 (by decide))))]; exact kc11 j hj), (fun j hj => by rw [((congrArg (fun e => o_l e (14 + j)) (Fr.at GM34 kd_299 (by decide))).trans (congrArg (fun e => o_l e (14 + j)) (Fr.at GM26 kd_299 (by decide))))]; exact kc12 j hj), (fun j hj => by rw [((PhM34 (31 + j) (by omega)).trans (congrArg (fun e => o_a e (31 + j)) (Fr.at GM26 kd_297 (by decide))))]; exact kc13 j hj), (fun j hj => by rw [((PhM34 (29 + j) (by omega)).trans (congrArg (fun e => o_a e (29 + j)) (Fr.at GM26 kd_297 (by decide))))]; exact kc14 j hj), (fun j hj h2 => by have hj : A.1 1 ≤ (j : Int) := hj; rw [((PhM34 (31 + j) (by omega)).trans (congrArg (fun e => o_a e (31 + j)) (Fr.at GM26 kd_297 (by decide))))]; exact kc15 j (by omega) h2), (by show 0 ≤ A.1 0; omega), (by show A.1 0 ≤ 6; omega), (by show 0 ≤ A.1 1; omega), (by show A.1 1 ≤ 2; omega)⟩⟩)⟩
        · skip
          refine PW.jz_eq q_189_62 rfl (fun h38 => ?_) (fun h38 => False.elim (by omega))
          refine PW.cI q_189_69 (by decide) fun c39 hc39 => ?_
          refine PW.rZ q_189_70 rfl (by omega) (by omega) (by decide) (by decide) ?_
          have e : k_line y A i = (k_nr y (i + 1) 0 9, kP y (i + 1), A, i) := by unfold k_line; rw [if_neg PnM2, if_pos ⟨PbM22, PcM22⟩]; unfold k_body; rw [if_neg (by omega), if_pos (by omega)]
          exact hK c39 M34 IM34 FM34 (by omega) (by omega) ⟨((gKl.refl.tr QM26 rfl).tr QM34 rfl), (by rw [e]; exact Or.inr ⟨by omega, (by omega : (k_nr y (i + 1) 0 9 : Int) ≠ 0), (by omega : o_i (M34 294) 15 = k_nr y (i + 1) 0 9), (by omega : o_i (M34 294) 16 = kP y (i + 1))⟩)⟩
    · skip
      refine PW.jz_eq q_189_43 rfl (fun h40 => ?_) (fun h40 => False.elim (by omega))
      refine PW.aload_n q_189_71 rfl ?_
      refine PW.ldc2 q_189_72 t_lt_189_82 ?_
      refine PW.nmLk fun l41 el41 => ?_
      refine PW.cV (as := [_]) (rest := []) q_189_75 t_mv_189_201 kd_294 I.1 (by decide) rfl (by decide) rfl rfl (Nat.le_of_ble_eq_true rfl) (Nat.le_of_ble_eq_true rfl) (by decide) (by decide) ?_
      refine PW.up (by decide) (c_X12_isWord_vk (V) (hV) G _ M I l41 _ _ 2 hp_0 (by rw [el41]; decide +kernel) (by decide) fun x43  hx43 kx43 PM42 => ?_)
      rcases PM42 with ⟨PaM42, PbM42, PcM42⟩ | ⟨PaM42, PnM42⟩
      · skip
        refine PW.jz_eq q_189_78 rfl (fun h44 => False.elim (by omega)) (fun h44 => ?_)
        refine PW.aload_n q_189_81 rfl ?_
        refine PW.cI q_189_82 (by decide) fun c45 hc45 => ?_
        refine PW.cV (as := [_]) (rest := []) q_189_83 t_mv_189_205 kd_294 I.1 (by decide) rfl (by decide) rfl rfl (Nat.le_of_ble_eq_true rfl) (Nat.le_of_ble_eq_true rfl) (by decide) (by decide) ?_
        refine PW.up (by decide) (c_X12_isOnce_vk2 (V) (hV) G _ M I c45 (by omega) (by omega) _ _ hp_0 (by omega) (by omega) (by omega) fun x47 M46 IM46 GM46 hx47 kx47 PM46 => ?_)
        have FM46 := Fr.trans F GM46 (rfl)
        rcases PM46 with ⟨QM46, ⟨PaM46, PbM46, PfM46, PgM46⟩ | ⟨PaM46, PbM46, PoM46, PtM46⟩⟩
        · skip
          refine PW.jz_eq q_189_86 rfl (fun h48 => ?_) (fun h48 => False.elim (by omega))
          refine PW.cI q_189_104 (by decide) fun c49 hc49 => ?_
          refine PW.rZ q_189_105 rfl (by omega) (by omega) (by decide) (by decide) ?_
          have e : k_line y A i = (3, kP y i, A, i) := by unfold k_line; rw [if_neg PnM2, if_neg PnM22, if_pos ⟨PbM42, PcM42⟩]; unfold k_keeps; rw [if_pos (by omega)]
          exact hK c49 M46 IM46 FM46 (by omega) (by omega) ⟨(gKl.refl.tr QM46 rfl), (by rw [e]; exact Or.inr ⟨by omega, (by omega : (3 : Int) ≠ 0), (by omega : o_i (M46 294) 15 = 3), (by omega : o_i (M46 294) 16 = kP y i)⟩)⟩
        · skip
          refine PW.jz_eq q_189_86 rfl (fun h50 => False.elim (by omega)) (fun h50 => ?_)
          refine PW.aload_n q_189_89 rfl ?_
          refine PW.cI q_189_90 (by decide) fun c51 hc51 => ?_
          refine PW.cI q_189_91 (by decide) fun c52 hc52 => ?_
          refine PW.cB q_189_92 (by decide) fun c53 hc53 => ?_
          refine PW.cV (as := [_, _, _]) (rest := []) q_189_94 t_mv_189_208 kd_294 IM46.1 (by decide) rfl (by decide) rfl rfl (Nat.le_of_ble_eq_true rfl) (Nat.le_of_ble_eq_true rfl) (by decide) (by decide) ?_
          refine PW.up (by decide) (c_X12_puts_vk (V) (hV) G _ M46 IM46 c51 c52 c53 (by omega) (by omega) _ _ 1 99 PtM46 (by omega) (by omega) fun x55 M54 IM54 GM54 hx55 kx55 PM54 => ?_)
          have FM54 := Fr.trans FM46 GM54 (rfl)
          rcases PM54 with ⟨QM54, ⟨PaM54, PzM54, PvM54, PlM54, PmM54, PtM54, PhM54⟩ | ⟨PaM54, PzM54, PfM54, PgM54⟩⟩
          · skip
            refine PW.jz_eq q_189_97 rfl (fun h56 => False.elim (by omega)) (fun h56 => ?_)
            refine PW.cI q_189_100 (by decide) fun c57 hc57 => ?_
            refine PW.goto q_189_101 rfl ?_
            refine PW.rZ q_189_105 rfl (by omega) (by omega) (by decide) (by decide) ?_
            have e : k_line y A i = (0, 0, (va_up A.1 4 (kV y (i + 1)), A.2), i + 2) := by unfold k_line; rw [if_neg PnM2, if_neg PnM22, if_pos ⟨PbM42, PcM42⟩]; unfold k_keeps; rw [if_neg (by omega), if_neg (by omega)]
            have w20 : o_i (M54 294) 20 = o_i (M46 294) 20 := (QM54.i 20 rfl)
            exact hK c57 M54 IM54 FM54 (by omega) (by omega) ⟨((gKl.refl.tr QM46 rfl).tr QM54 rfl), (by rw [e]; exact Or.inl ⟨by omega, rfl, PtM54, ⟨(by rw [((PhM54 0 (by omega)).trans (congrArg (fun e => o_a e 0) (Fr.at GM46 kd_297 (by decide))))]; exact kc0), (by rw [((PhM54 1 (by omega)).trans (congrArg (fun e => o_a e 1) (Fr.at GM46 kd_297 (by decide))))]; exact kc1), (by rw [((PhM54 2 (by omega)).trans (congrArg (fun e => o_a e 2) (Fr.at GM46 kd_297 (by decide))))]; exact kc2), (by rw [((PhM54 3 (by omega)).trans (congrArg (fun e => o_a e 3) (Fr.at GM46 kd_297 (by decide))))]; exact kc3), (Or.inr ⟨by show 1 ≤ kV y (i + 1); omega, (by have f := PvM54; rw [show c51.toInt.toNat = 4 from by omega] at f; show _ = kV y (i + 1); omega)⟩), (((QM54.i 19 rfl).trans (QM46.i 19 rfl)).trans kc5), (by omega), (by omega), (by show (o_i (M54 294) 20 % 2 = 1 ↔ (A.1 6 = 1 ∨ 0 < A.1 0)); omega), (by show (o_i (M54 294) 20 / 2 % 2 = 1 ↔ A.1 7 = 1); omega), (by show (o_i (M54 294) 20 / 4 % 2 = 1 ↔ kV y (i + 1) ≠ -1); omega), (fun j hj => by rw [((congrArg (fun e => o_l e (8 + j)) (Fr.at GM54 kd_299 (by decide))).trans (congrArg (fun e => o_l e (8 + j)) (Fr.at GM46 kd_299 (by decide))))]; exact kc11 j hj), (fun j hj => by rw [((congrArg (fun e => o_l e (14 + j)) (Fr.at GM54 kd_299 (by decide))).trans (congrArg (fun e => o_l e (14 + j)) (Fr.at GM46 kd_299 (by decide))))]; exact kc12 j hj), (fun j hj => by rw [((PhM54 (31 + j) (by omega)).trans (congrArg (fun e => o_a e (31 + j)) (Fr.at GM46 kd_297 (by decide))))]; exact kc13 j hj), (fun j hj => by rw [((PhM54 (29 + j) (by omega)).trans (congrArg (fun e => o_a e (29 + j)) (Fr.at GM46 kd_297 (by decide))))]; exact kc14 j hj), (fun j hj h2 => by have hj : A.1 1 ≤ (j : Int) := hj; rw [((PhM54 (31 + j) (by omega)).trans (congrArg (fun e => o_a e (31 + j)) (Fr.at GM46 kd_297 (by decide))))]; exact kc15 j (by omega) h2), (by show 0 ≤ A.1 0; omega), (by show A.1 0 ≤ 6; omega), (by show 0 ≤ A.1 1; omega), (by show A.1 1 ≤ 2; omega)⟩⟩)⟩
          · skip
            refine PW.jz_eq q_189_97 rfl (fun h58 => ?_) (fun h58 => False.elim (by omega))
            refine PW.cI q_189_104 (by decide) fun c59 hc59 => ?_
            refine PW.rZ q_189_105 rfl (by omega) (by omega) (by decide) (by decide) ?_
            have e : k_line y A i = (k_nr y (i + 1) 1 99, kP y (i + 1), A, i) := by unfold k_line; rw [if_neg PnM2, if_neg PnM22, if_pos ⟨PbM42, PcM42⟩]; unfold k_keeps; rw [if_neg (by omega), if_pos (by omega)]
            exact hK c59 M54 IM54 FM54 (by omega) (by omega) ⟨((gKl.refl.tr QM46 rfl).tr QM54 rfl), (by rw [e]; exact Or.inr ⟨by omega, (by omega : (k_nr y (i + 1) 1 99 : Int) ≠ 0), (by omega : o_i (M54 294) 15 = k_nr y (i + 1) 1 99), (by omega : o_i (M54 294) 16 = kP y (i + 1))⟩)⟩
      · skip
        refine PW.jz_eq q_189_78 rfl (fun h60 => ?_) (fun h60 => False.elim (by omega))
        refine PW.aload_n q_189_106 rfl ?_
        refine PW.ldc2 q_189_107 t_lt_189_84 ?_
        refine PW.nmLk fun l61 el61 => ?_
        refine PW.cV (as := [_]) (rest := []) q_189_110 t_mv_189_201 kd_294 I.1 (by decide) rfl (by decide) rfl rfl (Nat.le_of_ble_eq_true rfl) (Nat.le_of_ble_eq_true rfl) (by decide) (by decide) ?_
        refine PW.up (by decide) (c_X12_isWord_vk (V) (hV) G _ M I l61 _ _ 3 hp_0 (by rw [el61]; decide +kernel) (by decide) fun x63  hx63 kx63 PM62 => ?_)
        rcases PM62 with ⟨PaM62, PbM62, PcM62⟩ | ⟨PaM62, PnM62⟩
        · skip
          refine PW.jz_eq q_189_113 rfl (fun h64 => False.elim (by omega)) (fun h64 => ?_)
          refine PW.aload_n q_189_116 rfl ?_
          refine PW.cV (as := []) (rest := []) q_189_117 t_mv_189_211 kd_294 I.1 (by decide) rfl (by decide) rfl rfl (Nat.le_of_ble_eq_true rfl) (Nat.le_of_ble_eq_true rfl) (by decide) (by decide) ?_
          refine PW.up (by decide) (c_X12_readWalker_vk (V) (hV) G _ M I _ _ _ hp_0 hp_1 (by omega) fun x66 M65 IM65 GM65 hx66 kx66 PM65 => ?_)
          have FM65 := Fr.trans F GM65 (rfl)
          rcases PM65 with ⟨QM65, PrM65⟩
          refine PW.rZ q_189_120 rfl (by omega) (by omega) (by decide) (by decide) ?_
          have e : k_line y A i = k_walker y A i := by unfold k_line; rw [if_neg PnM2, if_neg PnM22, if_neg PnM42, if_pos ⟨PbM62, PcM62⟩]
          exact hK x66 M65 IM65 FM65 (by omega) (by omega) ⟨(gKl.refl.tr QM65 rfl), (by rw [e]; exact PrM65)⟩
        · skip
          refine PW.jz_eq q_189_113 rfl (fun h67 => ?_) (fun h67 => False.elim (by omega))
          refine PW.aload_n q_189_121 rfl ?_
          refine PW.ldc2 q_189_122 t_lt_189_88 ?_
          refine PW.nmLk fun l68 el68 => ?_
          refine PW.cV (as := [_]) (rest := []) q_189_125 t_mv_189_201 kd_294 I.1 (by decide) rfl (by decide) rfl rfl (Nat.le_of_ble_eq_true rfl) (Nat.le_of_ble_eq_true rfl) (by decide) (by decide) ?_
          refine PW.up (by decide) (c_X12_isWord_vk (V) (hV) G _ M I l68 _ _ 5 hp_0 (by rw [el68]; decide +kernel) (by decide) fun x70  hx70 kx70 PM69 => ?_)
          rcases PM69 with ⟨PaM69, PbM69, PcM69⟩ | ⟨PaM69, PnM69⟩
          · skip
            refine PW.jz_eq q_189_128 rfl (fun h71 => False.elim (by omega)) (fun h71 => ?_)
            refine PW.aload_n q_189_131 rfl ?_
            refine PW.cV (as := []) (rest := []) q_189_132 t_mv_189_214 kd_294 I.1 (by decide) rfl (by decide) rfl rfl (Nat.le_of_ble_eq_true rfl) (Nat.le_of_ble_eq_true rfl) (by decide) (by decide) ?_
            refine PW.up (by decide) (c_X12_readDog_vk (V) (hV) G _ M I _ _ _ hp_0 hp_1 (by omega) fun x73 M72 IM72 GM72 hx73 kx73 PM72 => ?_)
            have FM72 := Fr.trans F GM72 (rfl)
            rcases PM72 with ⟨QM72, PrM72⟩
            refine PW.rZ q_189_135 rfl (by omega) (by omega) (by decide) (by decide) ?_
            have e : k_line y A i = k_dog y A i := by unfold k_line; rw [if_neg PnM2, if_neg PnM22, if_neg PnM42, if_neg PnM62, if_pos ⟨PbM69, PcM69⟩]
            exact hK x73 M72 IM72 FM72 (by omega) (by omega) ⟨(gKl.refl.tr QM72 rfl), (by rw [e]; exact PrM72)⟩
          · skip
            refine PW.jz_eq q_189_128 rfl (fun h74 => ?_) (fun h74 => False.elim (by omega))
            refine PW.aload_n q_189_136 rfl ?_
            refine PW.ldc2 q_189_137 t_lt_189_98 ?_
            refine PW.nmLk fun l75 el75 => ?_
            refine PW.cV (as := [_]) (rest := []) q_189_140 t_mv_189_201 kd_294 I.1 (by decide) rfl (by decide) rfl rfl (Nat.le_of_ble_eq_true rfl) (Nat.le_of_ble_eq_true rfl) (by decide) (by decide) ?_
            refine PW.up (by decide) (c_X12_isWord_vk (V) (hV) G _ M I l75 _ _ 10 hp_0 (by rw [el75]; decide +kernel) (by decide) fun x77  hx77 kx77 PM76 => ?_)
            rcases PM76 with ⟨PaM76, PbM76, PcM76⟩ | ⟨PaM76, PnM76⟩
            · skip
              refine PW.jz_ne q_189_143 rfl (fun h78 => ?_) (fun h78 => False.elim (by omega))
              refine PW.aload_n q_189_152 rfl ?_
              refine PW.cV (as := []) (rest := []) q_189_153 t_mv_189_173 kd_294 I.1 (by decide) rfl (by decide) rfl rfl (Nat.le_of_ble_eq_true rfl) (Nat.le_of_ble_eq_true rfl) (by decide) (by decide) ?_
              refine PW.up (by decide) (c_X12_go_vk (V) (hV) G _ M I _ _ (k_ra.nx hp_0 (by omega)) fun M79 IM79 GM79 PM79 => ?_)
              have FM79 := Fr.trans F GM79 (rfl)
              rcases PM79 with ⟨QM79, PtM79⟩
              refine PW.aload_n q_189_156 rfl ?_
              refine PW.cB q_189_157 (by decide) fun c80 hc80 => ?_
              refine PW.aload_n q_189_159 rfl ?_
              refine PW.gR 297 q_189_160 (Or.inl t_ft_189_37) gF_40_7 kd_294 IM79.1 (by decide) rfl ?_
              refine PW.cI q_189_163 (by decide) fun c81 hc81 => ?_
              refine PW.aI q_189_164 gA_43 kd_297 IM79.1 (by decide) gB_43_1_1 (by decide) (by omega) (by omega) fun x82 fx82 hx82 kx82 => ?_
              have eax82 : x82.toInt = A.1 1 := by rw [← fx82, show c81.toInt.toNat = 1 from by omega, (congrArg (fun e => o_a e 1) (Fr.at GM79 kd_297 (by decide)))]; exact kc1
              refine PW.cV (as := [_, _]) (rest := []) q_189_165 t_mv_189_217 kd_294 IM79.1 (by decide) rfl (by decide) rfl rfl (Nat.le_of_ble_eq_true rfl) (Nat.le_of_ble_eq_true rfl) (by decide) (by decide) ?_
              refine PW.up (by decide) (c_X12_looksAt_vkd (V) (hV) G _ M79 IM79 c80 x82 (by omega) (by omega) (by omega) (by omega) _ _ _ PtM79 (hp_1.rs.cg (fun z hz => (congrArg (fun e => o_a e z) (Fr.at GM79 kd_297 (by decide)))) (fun z hz => (congrArg (fun e => o_l e z) (Fr.at GM79 kd_299 (by decide))))) (by omega) fun x84 M83 IM83 GM83 hx84 kx84 PM83 => ?_)
              have FM83 := Fr.trans FM79 GM83 (rfl)
              rcases PM83 with ⟨QM83, ⟨PaM83, PbM83, PfM83, PgM83⟩ | ⟨PaM83, PbM83, PcM83, PfM83, PgM83⟩ | ⟨PaM83, PbM83, PkM83, PvM83, PnM83, PtM83⟩⟩
              · skip
                refine PW.jz_ne q_189_168 rfl (fun h85 => False.elim (by omega)) (fun h85 => ?_)
                refine PW.cI q_189_171 (by decide) fun c86 hc86 => ?_
                refine PW.rZ q_189_172 rfl (by omega) (by omega) (by decide) (by decide) ?_
                have e : k_line y A i = (1, kP y (i + 1), A, i) := by unfold k_line; rw [if_neg PnM2, if_neg PnM22, if_neg PnM42, if_neg PnM62, if_neg PnM69, if_pos ⟨PbM76, PcM76⟩]; unfold k_tires; rw [if_pos (by omega)]
                exact hK c86 M83 IM83 FM83 (by omega) (by omega) ⟨((gKl.refl.tr QM79 rfl).tr QM83 rfl), (by rw [e]; exact Or.inr ⟨by omega, (by omega : (1 : Int) ≠ 0), (by omega : o_i (M83 294) 15 = 1), (by omega : o_i (M83 294) 16 = kP y (i + 1))⟩)⟩
              · skip
                refine PW.jz_ne q_189_168 rfl (fun h87 => False.elim (by omega)) (fun h87 => ?_)
                refine PW.cI q_189_171 (by decide) fun c88 hc88 => ?_
                refine PW.rZ q_189_172 rfl (by omega) (by omega) (by decide) (by decide) ?_
                have e : k_line y A i = (3, kP y (i + 1), A, i) := by unfold k_line; rw [if_neg PnM2, if_neg PnM22, if_neg PnM42, if_neg PnM62, if_neg PnM69, if_pos ⟨PbM76, PcM76⟩]; unfold k_tires; rw [if_neg (by omega), if_pos (by omega)]
                exact hK c88 M83 IM83 FM83 (by omega) (by omega) ⟨((gKl.refl.tr QM79 rfl).tr QM83 rfl), (by rw [e]; exact Or.inr ⟨by omega, (by omega : (3 : Int) ≠ 0), (by omega : o_i (M83 294) 15 = 3), (by omega : o_i (M83 294) 16 = kP y (i + 1))⟩)⟩
              · skip
                refine PW.jz_ne q_189_168 rfl (fun h89 => ?_) (fun h89 => False.elim (by omega))
                refine PW.aload_n q_189_173 rfl ?_
                refine PW.gI q_189_174 (Or.inl t_ft_189_180) gF_40_18 kd_294 IM83.1 (by decide) fun x90 fx90 hx90 kx90 => ?_
                have ix90 := o_i_of fx90
                clear hx90 kx90
                have kbx90 := k_fd_b A.2.2.1 (kV y (i + 1)) (A.1 1).toNat
                have gtx90 : x90.toInt = k_fd A.2.2.1 (kV y (i + 1)) (A.1 1).toNat := by omega
                refine PW.istore_n q_189_177 (by decide) ?_
                refine PW.aload_n q_189_178 rfl ?_
                refine PW.gR 297 q_189_179 (Or.inl t_ft_189_37) gF_40_7 kd_294 IM83.1 (by decide) rfl ?_
                refine PW.cB q_189_182 (by decide) fun c91 hc91 => ?_
                refine PW.iload_n q_189_184 rfl ?_
                refine PW.addN q_189_185 (by have := n_lo x90; have := n_hi x90; omega) (by have := n_lo x90; have := n_hi x90; omega) fun x92 hx92 => ?_
                refine PW.aH q_189_186 gA_43 kd_297 IM83.1 (by decide) (by omega) (by omega) fun x93 fx93 => ?_
                have et : x93.toInt = A.2.2.2.1 (k_fd A.2.2.1 (kV y (i + 1)) (A.1 1).toNat).toNat ∧ 0 ≤ A.2.2.2.1 (k_fd A.2.2.1 (kV y (i + 1)) (A.1 1).toNat).toNat := by have w3 := kc13 (k_fd A.2.2.1 (kV y (i + 1)) (A.1 1).toNat).toNat (by omega); rw [← fx93, show x92.toInt.toNat = 31 + (k_fd A.2.2.1 (kV y (i + 1)) (A.1 1).toNat).toNat from by omega, ((congrArg (fun e => o_a e (31 + (k_fd A.2.2.1 (kV y (i + 1)) (A.1 1).toNat).toNat)) (Fr.at GM83 kd_297 (by decide))).trans (congrArg (fun e => o_a e (31 + (k_fd A.2.2.1 (kV y (i + 1)) (A.1 1).toNat).toNat)) (Fr.at GM79 kd_297 (by decide))))]; exact w3
                refine PW.jz_le q_189_187 rfl (fun h94 => ?_) (fun h94 => ?_)
                · skip
                  refine PW.aload_n q_189_196 rfl ?_
                  refine PW.cV (as := []) (rest := []) q_189_197 t_mv_189_173 kd_294 IM83.1 (by decide) rfl (by decide) rfl rfl (Nat.le_of_ble_eq_true rfl) (Nat.le_of_ble_eq_true rfl) (by decide) (by decide) ?_
                  refine PW.up (by decide) (c_X12_go_vk (V) (hV) G _ M83 IM83 _ _ (k_ra.nx PtM83 (by omega)) fun M95 IM95 GM95 PM95 => ?_)
                  have FM95 := Fr.trans FM83 GM95 (rfl)
                  rcases PM95 with ⟨QM95, PtM95⟩
                  refine PW.aload_n q_189_200 rfl ?_
                  refine PW.cB q_189_201 (by decide) fun c96 hc96 => ?_
                  refine PW.iload_n q_189_203 rfl ?_
                  refine PW.addN q_189_204 (by have := n_lo x90; have := n_hi x90; omega) (by have := n_lo x90; have := n_hi x90; omega) fun x97 hx97 => ?_
                  refine PW.cI q_189_205 (by decide) fun c98 hc98 => ?_
                  refine PW.cB q_189_206 (by decide) fun c99 hc99 => ?_
                  refine PW.cV (as := [_, _, _]) (rest := []) q_189_208 t_mv_189_208 kd_294 IM95.1 (by decide) rfl (by decide) rfl rfl (Nat.le_of_ble_eq_true rfl) (Nat.le_of_ble_eq_true rfl) (by decide) (by decide) ?_
                  refine PW.up (by decide) (c_X12_puts_vkd (V) (hV) G _ M95 IM95 x97 c98 c99 (by omega) (by omega) _ _ 1 20 PtM95 (by omega) (by omega) fun x101 M100 IM100 GM100 hx101 kx101 PM100 => ?_)
                  have FM100 := Fr.trans FM95 GM100 (rfl)
                  rcases PM100 with ⟨QM100, ⟨PaM100, PzM100, PvM100, PlM100, PmM100, PtM100, PhM100⟩ | ⟨PaM100, PzM100, PfM100, PgM100⟩⟩
                  · skip
                    refine PW.rZ q_189_211 rfl (by omega) (by omega) (by decide) (by decide) ?_
                    have e : k_line y A i = (0, 0, (A.1, A.2.1, A.2.2.1, va_up A.2.2.2.1 (k_fd A.2.2.1 (kV y (i + 1)) (A.1 1).toNat).toNat (kV y (i + 2)), A.2.2.2.2), i + 3) := by unfold k_line; rw [if_neg PnM2, if_neg PnM22, if_neg PnM42, if_neg PnM62, if_neg PnM69, if_pos ⟨PbM76, PcM76⟩]; unfold k_tires; rw [if_neg (by omega), if_neg (by omega), if_neg (by omega), if_neg (by omega)]
                    have w20 : o_i (M100 294) 20 = o_i (M 294) 20 := ((QM100.i 20 rfl).trans ((QM95.i 20 rfl).trans ((QM83.i 20 rfl).trans (QM79.i 20 rfl))))
                    exact hK x101 M100 IM100 FM100 (by omega) (by omega) ⟨((((gKl.refl.tr QM79 rfl).tr QM83 rfl).tr QM95 rfl).tr QM100 rfl), (by rw [e]; exact Or.inl ⟨by omega, rfl, PtM100, ⟨(by rw [((PhM100 0 (by omega)).trans ((congrArg (fun e => o_a e 0) (Fr.at GM95 kd_297 (by decide))).trans ((congrArg (fun e => o_a e 0) (Fr.at GM83 kd_297 (by decide))).trans (congrArg (fun e => o_a e 0) (Fr.at GM79 kd_297 (by decide))))))]; exact kc0), (by rw [((PhM100 1 (by omega)).trans ((congrArg (fun e => o_a e 1) (Fr.at GM95 kd_297 (by decide))).trans ((congrArg (fun e => o_a e 1) (Fr.at GM83 kd_297 (by decide))).trans (congrArg (fun e => o_a e 1) (Fr.at GM79 kd_297 (by decide))))))]; exact kc1), (by rw [((PhM100 2 (by omega)).trans ((congrArg (fun e => o_a e 2) (Fr.at GM95 kd_297 (by decide))).trans ((congrArg (fun e => o_a e 2) (Fr.at GM83 kd_297 (by decide))).trans (congrArg (fun e => o_a e 2) (Fr.at GM79 kd_297 (by decide))))))]; exact kc2), (by rw [((PhM100 3 (by omega)).trans ((congrArg (fun e => o_a e 3) (Fr.at GM95 kd_297 (by decide))).trans ((congrArg (fun e => o_a e 3) (Fr.at GM83 kd_297 (by decide))).trans (congrArg (fun e => o_a e 3) (Fr.at GM79 kd_297 (by decide))))))]; exact kc3), (by rw [((PhM100 4 (by omega)).trans ((congrArg (fun e => o_a e 4) (Fr.at GM95 kd_297 (by decide))).trans ((congrArg (fun e => o_a e 4) (Fr.at GM83 kd_297 (by decide))).trans (congrArg (fun e => o_a e 4) (Fr.at GM79 kd_297 (by decide))))))]; exact kc4), (((QM100.i 19 rfl).trans ((QM95.i 19 rfl).trans ((QM83.i 19 rfl).trans (QM79.i 19 rfl)))).trans kc5), (by omega), (by omega), (by show (o_i (M100 294) 20 % 2 = 1 ↔ (A.1 6 = 1 ∨ 0 < A.1 0)); omega), (by show (o_i (M100 294) 20 / 2 % 2 = 1 ↔ A.1 7 = 1); omega), (by show (o_i (M100 294) 20 / 4 % 2 = 1 ↔ A.1 4 ≠ -1); omega), (fun j hj => by rw [((congrArg (fun e => o_l e (8 + j)) (Fr.at GM100 kd_299 (by decide))).trans ((congrArg (fun e => o_l e (8 + j)) (Fr.at GM95 kd_299 (by decide))).trans ((congrArg (fun e => o_l e (8 + j)) (Fr.at GM83 kd_299 (by decide))).trans (congrArg (fun e => o_l e (8 + j)) (Fr.at GM79 kd_299 (by decide))))))]; exact kc11 j hj), (fun j hj => by rw [((congrArg (fun e => o_l e (14 + j)) (Fr.at GM100 kd_299 (by decide))).trans ((congrArg (fun e => o_l e (14 + j)) (Fr.at GM95 kd_299 (by decide))).trans ((congrArg (fun e => o_l e (14 + j)) (Fr.at GM83 kd_299 (by decide))).trans (congrArg (fun e => o_l e (14 + j)) (Fr.at GM79 kd_299 (by decide))))))]; exact kc12 j hj), (k_upq (e0 := M 297) kc13 (by have f := PvM100; rw [show x97.toInt.toNat = 31 + (k_fd A.2.2.1 (kV y (i + 1)) (A.1 1).toNat).toNat from by omega] at f; exact f) (by omega) (fun j hj h2 => ((PhM100 (31 + j) (by omega)).trans ((congrArg (fun e => o_a e (31 + j)) (Fr.at GM95 kd_297 (by decide))).trans ((congrArg (fun e => o_a e (31 + j)) (Fr.at GM83 kd_297 (by decide))).trans (congrArg (fun e => o_a e (31 + j)) (Fr.at GM79 kd_297 (by decide)))))))), (fun j hj => by rw [((PhM100 (29 + j) (by omega)).trans ((congrArg (fun e => o_a e (29 + j)) (Fr.at GM95 kd_297 (by decide))).trans ((congrArg (fun e => o_a e (29 + j)) (Fr.at GM83 kd_297 (by decide))).trans (congrArg (fun e => o_a e (29 + j)) (Fr.at GM79 kd_297 (by decide))))))]; exact kc14 j hj), (fun j hj h2 => by have hj : A.1 1 ≤ (j : Int) := hj; rw [((PhM100 (31 + j) (by omega)).trans ((congrArg (fun e => o_a e (31 + j)) (Fr.at GM95 kd_297 (by decide))).trans ((congrArg (fun e => o_a e (31 + j)) (Fr.at GM83 kd_297 (by decide))).trans (congrArg (fun e => o_a e (31 + j)) (Fr.at GM79 kd_297 (by decide))))))]; exact kc15 j (by omega) h2), (by show 0 ≤ A.1 0; omega), (by show A.1 0 ≤ 6; omega), (by show 0 ≤ A.1 1; omega), (by show A.1 1 ≤ 2; omega)⟩⟩)⟩
                  · skip
                    refine PW.rZ q_189_211 rfl (by omega) (by omega) (by decide) (by decide) ?_
                    have e : k_line y A i = (k_nr y (i + 2) 1 20, kP y (i + 2), A, i) := by unfold k_line; rw [if_neg PnM2, if_neg PnM22, if_neg PnM42, if_neg PnM62, if_neg PnM69, if_pos ⟨PbM76, PcM76⟩]; unfold k_tires; rw [if_neg (by omega), if_neg (by omega), if_neg (by omega), if_pos (by omega)]
                    exact hK x101 M100 IM100 FM100 (by omega) (by omega) ⟨((((gKl.refl.tr QM79 rfl).tr QM83 rfl).tr QM95 rfl).tr QM100 rfl), (by rw [e]; exact Or.inr ⟨by omega, (by omega : (k_nr y (i + 2) 1 20 : Int) ≠ 0), (by omega : o_i (M100 294) 15 = k_nr y (i + 2) 1 20), (by omega : o_i (M100 294) 16 = kP y (i + 2))⟩)⟩
                · skip
                  refine PW.aload_n q_189_190 rfl ?_
                  refine PW.cI q_189_191 (by decide) fun c102 hc102 => ?_
                  refine PW.cV (as := [_]) (rest := []) q_189_192 t_mv_189_170 kd_294 IM83.1 (by decide) rfl (by decide) rfl rfl (Nat.le_of_ble_eq_true rfl) (Nat.le_of_ble_eq_true rfl) (by decide) (by decide) ?_
                  refine PW.up (by decide) (c_X12_bad_vk (V) (hV) G _ M83 IM83 c102 _ _ PtM83 fun x104 M103 IM103 GM103 hx104 kx104 PM103 => ?_)
                  have FM103 := Fr.trans FM83 GM103 (rfl)
                  rcases PM103 with ⟨QM103, ⟨PfM103, PgM103⟩⟩
                  refine PW.rZ q_189_195 rfl (by omega) (by omega) (by decide) (by decide) ?_
                  have e : k_line y A i = (3, kP y (i + 1), A, i) := by unfold k_line; rw [if_neg PnM2, if_neg PnM22, if_neg PnM42, if_neg PnM62, if_neg PnM69, if_pos ⟨PbM76, PcM76⟩]; unfold k_tires; rw [if_neg (by omega), if_neg (by omega), if_pos (by omega)]
                  exact hK x104 M103 IM103 FM103 (by omega) (by omega) ⟨(((gKl.refl.tr QM79 rfl).tr QM83 rfl).tr QM103 rfl), (by rw [e]; exact Or.inr ⟨by omega, (by omega : (3 : Int) ≠ 0), (by omega : o_i (M103 294) 15 = 3), (by omega : o_i (M103 294) 16 = kP y (i + 1))⟩)⟩
            · skip
              refine PW.jz_ne q_189_143 rfl (fun h105 => False.elim (by omega)) (fun h105 => ?_)
              refine PW.aload_n q_189_146 rfl ?_
              refine PW.cI q_189_147 (by decide) fun c106 hc106 => ?_
              refine PW.cV (as := [_]) (rest := []) q_189_148 t_mv_189_170 kd_294 I.1 (by decide) rfl (by decide) rfl rfl (Nat.le_of_ble_eq_true rfl) (Nat.le_of_ble_eq_true rfl) (by decide) (by decide) ?_
              refine PW.up (by decide) (c_X12_bad_vk (V) (hV) G _ M I c106 _ _ hp_0 fun x108 M107 IM107 GM107 hx108 kx108 PM107 => ?_)
              have FM107 := Fr.trans F GM107 (rfl)
              rcases PM107 with ⟨QM107, ⟨PfM107, PgM107⟩⟩
              refine PW.rZ q_189_151 rfl (by omega) (by omega) (by decide) (by decide) ?_
              have e : k_line y A i = (1, kP y i, A, i) := by unfold k_line; rw [if_neg PnM2, if_neg PnM22, if_neg PnM42, if_neg PnM62, if_neg PnM69, if_neg PnM76]
              exact hK x108 M107 IM107 FM107 (by omega) (by omega) ⟨(gKl.refl.tr QM107 rfl), (by rw [e]; exact Or.inr ⟨by omega, (by omega : (1 : Int) ≠ 0), (by omega : o_i (M107 294) 15 = 1), (by omega : o_i (M107 294) 16 = kP y i)⟩)⟩
