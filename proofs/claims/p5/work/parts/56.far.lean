theorem q_171_0 : p_tb 171 0 = some (.lload_n 0, 1) := by decide +kernel
theorem q_171_1 : p_tb 171 1 = some (.lstore 5, 2) := by decide +kernel
theorem q_171_3 : p_tb 171 3 = some (.lload_n 2, 1) := by decide +kernel
theorem q_171_4 : p_tb 171 4 = some (.lstore 7, 2) := by decide +kernel
theorem q_171_6 : p_tb 171 6 = some (.lload 7, 2) := by decide +kernel
theorem q_171_8 : p_tb 171 8 = some (.lconst 0, 1) := by decide +kernel
theorem q_171_9 : p_tb 171 9 = some (.lcmp, 1) := by decide +kernel
theorem q_171_10 : p_tb 171 10 = some (.ifCond .eq 21, 3) := by decide +kernel
theorem q_171_13 : p_tb 171 13 = some (.lload 5, 2) := by decide +kernel
theorem q_171_15 : p_tb 171 15 = some (.lload 7, 2) := by decide +kernel
theorem q_171_17 : p_tb 171 17 = some (.lrem, 1) := by decide +kernel
theorem q_171_18 : p_tb 171 18 = some (.lstore 9, 2) := by decide +kernel
theorem q_171_20 : p_tb 171 20 = some (.lload 7, 2) := by decide +kernel
theorem q_171_22 : p_tb 171 22 = some (.lstore 5, 2) := by decide +kernel
theorem q_171_24 : p_tb 171 24 = some (.lload 9, 2) := by decide +kernel
theorem q_171_26 : p_tb 171 26 = some (.lstore 7, 2) := by decide +kernel
theorem q_171_28 : p_tb 171 28 = some (.goto (-22), 3) := by decide +kernel
theorem q_171_31 : p_tb 171 31 = some (.iload 4, 2) := by decide +kernel
theorem q_171_33 : p_tb 171 33 = some (.ifCond .ne 7, 3) := by decide +kernel
theorem q_171_36 : p_tb 171 36 = some (.lload_n 0, 1) := by decide +kernel
theorem q_171_37 : p_tb 171 37 = some (.goto 4, 3) := by decide +kernel
theorem q_171_40 : p_tb 171 40 = some (.lload_n 2, 1) := by decide +kernel
theorem q_171_41 : p_tb 171 41 = some (.lload 5, 2) := by decide +kernel
theorem q_171_43 : p_tb 171 43 = some (.ldiv, 1) := by decide +kernel
theorem q_171_44 : p_tb 171 44 = some (.lreturn, 1) := by decide +kernel
theorem q_231_0 : p_tb 231 0 = some (.aload_n 0, 1) := by decide +kernel
theorem q_231_1 : p_tb 231 1 = some (.iload_n 1, 1) := by decide +kernel
theorem q_231_2 : p_tb 231 2 = some (.iload_n 2, 1) := by decide +kernel
theorem q_231_3 : p_tb 231 3 = some (.invokevirtual 305, 3) := by decide +kernel
theorem q_231_6 : p_tb 231 6 = some (.ifCond .eq 74, 3) := by decide +kernel
theorem q_231_9 : p_tb 231 9 = some (.iload_n 3, 1) := by decide +kernel
theorem q_231_10 : p_tb 231 10 = some (.iconst 1, 1) := by decide +kernel
theorem q_231_11 : p_tb 231 11 = some (.bipush 99, 2) := by decide +kernel
theorem q_231_13 : p_tb 231 13 = some (.invokestatic 176, 3) := by decide +kernel
theorem q_231_16 : p_tb 231 16 = some (.ifCond .eq 64, 3) := by decide +kernel
theorem q_231_19 : p_tb 231 19 = some (.aload_n 0, 1) := by decide +kernel
theorem q_231_20 : p_tb 231 20 = some (.iload_n 1, 1) := by decide +kernel
theorem q_231_21 : p_tb 231 21 = some (.iload_n 2, 1) := by decide +kernel
theorem q_231_22 : p_tb 231 22 = some (.invokevirtual 302, 3) := by decide +kernel
theorem q_231_25 : p_tb 231 25 = some (.ifCond .le 55, 3) := by decide +kernel
theorem q_231_28 : p_tb 231 28 = some (.aload_n 0, 1) := by decide +kernel
theorem q_231_29 : p_tb 231 29 = some (.getfield 33, 3) := by decide +kernel
theorem q_231_32 : p_tb 231 32 = some (.bipush 11, 2) := by decide +kernel
theorem q_231_34 : p_tb 231 34 = some (.iload_n 1, 1) := by decide +kernel
theorem q_231_35 : p_tb 231 35 = some (.iadd, 1) := by decide +kernel
theorem q_231_36 : p_tb 231 36 = some (.iaload, 1) := by decide +kernel
theorem q_231_37 : p_tb 231 37 = some (.aload_n 0, 1) := by decide +kernel
theorem q_231_38 : p_tb 231 38 = some (.getfield 33, 3) := by decide +kernel
theorem q_231_41 : p_tb 231 41 = some (.bipush 11, 2) := by decide +kernel
theorem q_231_43 : p_tb 231 43 = some (.iload_n 2, 1) := by decide +kernel
theorem q_231_44 : p_tb 231 44 = some (.iadd, 1) := by decide +kernel
theorem q_231_45 : p_tb 231 45 = some (.iaload, 1) := by decide +kernel
theorem q_231_46 : p_tb 231 46 = some (.iadd, 1) := by decide +kernel
theorem q_231_47 : p_tb 231 47 = some (.ifCond .le 33, 3) := by decide +kernel
theorem q_231_50 : p_tb 231 50 = some (.iload_n 3, 1) := by decide +kernel
theorem q_231_51 : p_tb 231 51 = some (.aload_n 0, 1) := by decide +kernel
theorem q_231_52 : p_tb 231 52 = some (.getfield 33, 3) := by decide +kernel
theorem q_231_55 : p_tb 231 55 = some (.bipush 11, 2) := by decide +kernel
theorem q_231_57 : p_tb 231 57 = some (.iload_n 1, 1) := by decide +kernel
theorem q_231_58 : p_tb 231 58 = some (.iadd, 1) := by decide +kernel
theorem q_231_59 : p_tb 231 59 = some (.iaload, 1) := by decide +kernel
theorem q_231_60 : p_tb 231 60 = some (.if_icmp .le 20, 3) := by decide +kernel
theorem q_231_63 : p_tb 231 63 = some (.iload_n 3, 1) := by decide +kernel
theorem q_231_64 : p_tb 231 64 = some (.aload_n 0, 1) := by decide +kernel
theorem q_231_65 : p_tb 231 65 = some (.getfield 33, 3) := by decide +kernel
theorem q_231_68 : p_tb 231 68 = some (.bipush 11, 2) := by decide +kernel
theorem q_231_70 : p_tb 231 70 = some (.iload_n 2, 1) := by decide +kernel
theorem q_231_71 : p_tb 231 71 = some (.iadd, 1) := by decide +kernel
theorem q_231_72 : p_tb 231 72 = some (.iaload, 1) := by decide +kernel
theorem q_231_73 : p_tb 231 73 = some (.if_icmp .le 7, 3) := by decide +kernel
theorem q_231_76 : p_tb 231 76 = some (.iconst 1, 1) := by decide +kernel
theorem q_231_77 : p_tb 231 77 = some (.goto 4, 3) := by decide +kernel
theorem q_231_80 : p_tb 231 80 = some (.iconst 0, 1) := by decide +kernel
theorem q_231_81 : p_tb 231 81 = some (.ireturn, 1) := by decide +kernel
theorem t_ft_231_33 : p_f2 p_ft (p_mK 231) 33 = some (11, 6) := by decide +kernel
theorem t_ms_231_176 : p_f2 p_ms (p_mK 231) 176 = some 166 := by decide +kernel
theorem t_mv_231_302 : p_f2 p_mv (p_mK 231) 302 = some 198 := by decide +kernel
theorem t_mv_231_305 : p_f2 p_mv (p_mK 231) 305 = some 197 := by decide +kernel
theorem q_232_0 : p_tb 232 0 = some (.aload_n 0, 1) := by decide +kernel
theorem q_232_1 : p_tb 232 1 = some (.iload_n 1, 1) := by decide +kernel
theorem q_232_2 : p_tb 232 2 = some (.iload_n 2, 1) := by decide +kernel
theorem q_232_3 : p_tb 232 3 = some (.invokevirtual 302, 3) := by decide +kernel
theorem q_232_6 : p_tb 232 6 = some (.i2l, 1) := by decide +kernel
theorem q_232_7 : p_tb 232 7 = some (.lstore 5, 2) := by decide +kernel
theorem q_232_9 : p_tb 232 9 = some (.iconst 0, 1) := by decide +kernel
theorem q_232_10 : p_tb 232 10 = some (.istore 7, 2) := by decide +kernel
theorem q_232_12 : p_tb 232 12 = some (.iload 7, 2) := by decide +kernel
theorem q_232_14 : p_tb 232 14 = some (.iload 4, 2) := by decide +kernel
theorem q_232_16 : p_tb 232 16 = some (.if_icmp .ge 37, 3) := by decide +kernel
theorem q_232_19 : p_tb 232 19 = some (.lload 5, 2) := by decide +kernel
theorem q_232_21 : p_tb 232 21 = some (.iload_n 3, 1) := by decide +kernel
theorem q_232_22 : p_tb 232 22 = some (.aload_n 0, 1) := by decide +kernel
theorem q_232_23 : p_tb 232 23 = some (.getfield 33, 3) := by decide +kernel
theorem q_232_26 : p_tb 232 26 = some (.bipush 11, 2) := by decide +kernel
theorem q_232_28 : p_tb 232 28 = some (.iload 7, 2) := by decide +kernel
theorem q_232_30 : p_tb 232 30 = some (.iconst 2, 1) := by decide +kernel
theorem q_232_31 : p_tb 232 31 = some (.irem, 1) := by decide +kernel
theorem q_232_32 : p_tb 232 32 = some (.ifCond .ne 7, 3) := by decide +kernel
theorem q_232_35 : p_tb 232 35 = some (.iload_n 1, 1) := by decide +kernel
theorem q_232_36 : p_tb 232 36 = some (.goto 4, 3) := by decide +kernel
theorem q_232_39 : p_tb 232 39 = some (.iload_n 2, 1) := by decide +kernel
theorem q_232_40 : p_tb 232 40 = some (.iadd, 1) := by decide +kernel
theorem q_232_41 : p_tb 232 41 = some (.iaload, 1) := by decide +kernel
theorem q_232_42 : p_tb 232 42 = some (.isub, 1) := by decide +kernel
theorem q_232_43 : p_tb 232 43 = some (.i2l, 1) := by decide +kernel
theorem q_232_44 : p_tb 232 44 = some (.lmul, 1) := by decide +kernel
theorem q_232_45 : p_tb 232 45 = some (.lstore 5, 2) := by decide +kernel
theorem q_232_47 : p_tb 232 47 = some (.iinc 7 1, 3) := by decide +kernel
theorem q_232_50 : p_tb 232 50 = some (.goto (-38), 3) := by decide +kernel
theorem q_232_53 : p_tb 232 53 = some (.lload 5, 2) := by decide +kernel
theorem q_232_55 : p_tb 232 55 = some (.lreturn, 1) := by decide +kernel
theorem t_ft_232_33 : p_f2 p_ft (p_mK 232) 33 = some (11, 6) := by decide +kernel
theorem t_mv_232_302 : p_f2 p_mv (p_mK 232) 302 = some 198 := by decide +kernel
theorem q_233_0 : p_tb 233 0 = some (.lconst 1, 1) := by decide +kernel
theorem q_233_1 : p_tb 233 1 = some (.lstore 5, 2) := by decide +kernel
theorem q_233_3 : p_tb 233 3 = some (.iconst 0, 1) := by decide +kernel
theorem q_233_4 : p_tb 233 4 = some (.istore 7, 2) := by decide +kernel
theorem q_233_6 : p_tb 233 6 = some (.iload 7, 2) := by decide +kernel
theorem q_233_8 : p_tb 233 8 = some (.iload 4, 2) := by decide +kernel
theorem q_233_10 : p_tb 233 10 = some (.if_icmp .ge 37, 3) := by decide +kernel
theorem q_233_13 : p_tb 233 13 = some (.lload 5, 2) := by decide +kernel
theorem q_233_15 : p_tb 233 15 = some (.iload_n 3, 1) := by decide +kernel
theorem q_233_16 : p_tb 233 16 = some (.aload_n 0, 1) := by decide +kernel
theorem q_233_17 : p_tb 233 17 = some (.getfield 33, 3) := by decide +kernel
theorem q_233_20 : p_tb 233 20 = some (.bipush 11, 2) := by decide +kernel
theorem q_233_22 : p_tb 233 22 = some (.iload 7, 2) := by decide +kernel
theorem q_233_24 : p_tb 233 24 = some (.iconst 2, 1) := by decide +kernel
theorem q_233_25 : p_tb 233 25 = some (.irem, 1) := by decide +kernel
theorem q_233_26 : p_tb 233 26 = some (.ifCond .ne 7, 3) := by decide +kernel
theorem q_233_29 : p_tb 233 29 = some (.iload_n 2, 1) := by decide +kernel
theorem q_233_30 : p_tb 233 30 = some (.goto 4, 3) := by decide +kernel
theorem q_233_33 : p_tb 233 33 = some (.iload_n 1, 1) := by decide +kernel
theorem q_233_34 : p_tb 233 34 = some (.iadd, 1) := by decide +kernel
theorem q_233_35 : p_tb 233 35 = some (.iaload, 1) := by decide +kernel
theorem q_233_36 : p_tb 233 36 = some (.iadd, 1) := by decide +kernel
theorem q_233_37 : p_tb 233 37 = some (.i2l, 1) := by decide +kernel
theorem q_233_38 : p_tb 233 38 = some (.lmul, 1) := by decide +kernel
theorem q_233_39 : p_tb 233 39 = some (.lstore 5, 2) := by decide +kernel
theorem q_233_41 : p_tb 233 41 = some (.iinc 7 1, 3) := by decide +kernel
theorem q_233_44 : p_tb 233 44 = some (.goto (-38), 3) := by decide +kernel
theorem q_233_47 : p_tb 233 47 = some (.lload 5, 2) := by decide +kernel
theorem q_233_49 : p_tb 233 49 = some (.lreturn, 1) := by decide +kernel
theorem t_ft_233_33 : p_f2 p_ft (p_mK 233) 33 = some (11, 6) := by decide +kernel
theorem q_234_0 : p_tb 234 0 = some (.aload_n 0, 1) := by decide +kernel
theorem q_234_1 : p_tb 234 1 = some (.aload_n 0, 1) := by decide +kernel
theorem q_234_2 : p_tb 234 2 = some (.iload_n 1, 1) := by decide +kernel
theorem q_234_3 : p_tb 234 3 = some (.iload_n 2, 1) := by decide +kernel
theorem q_234_4 : p_tb 234 4 = some (.iload_n 3, 1) := by decide +kernel
theorem q_234_5 : p_tb 234 5 = some (.invokevirtual 314, 3) := by decide +kernel
theorem q_234_8 : p_tb 234 8 = some (.ifCond .eq 13, 3) := by decide +kernel
theorem q_234_11 : p_tb 234 11 = some (.iload 4, 2) := by decide +kernel
theorem q_234_13 : p_tb 234 13 = some (.iconst 0, 1) := by decide +kernel
theorem q_234_14 : p_tb 234 14 = some (.iconst 1, 1) := by decide +kernel
theorem q_234_15 : p_tb 234 15 = some (.invokestatic 176, 3) := by decide +kernel
theorem q_234_18 : p_tb 234 18 = some (.ifCond .ne 7, 3) := by decide +kernel
theorem q_234_21 : p_tb 234 21 = some (.iconst 1, 1) := by decide +kernel
theorem q_234_22 : p_tb 234 22 = some (.goto 4, 3) := by decide +kernel
theorem q_234_25 : p_tb 234 25 = some (.iconst 0, 1) := by decide +kernel
theorem q_234_26 : p_tb 234 26 = some (.invokevirtual 247, 3) := by decide +kernel
theorem q_234_29 : p_tb 234 29 = some (.ifCond .eq 5, 3) := by decide +kernel
theorem q_234_32 : p_tb 234 32 = some (.iconst 0, 1) := by decide +kernel
theorem q_234_33 : p_tb 234 33 = some (.ireturn, 1) := by decide +kernel
theorem q_234_34 : p_tb 234 34 = some (.iload_n 3, 1) := by decide +kernel
theorem q_234_35 : p_tb 234 35 = some (.i2l, 1) := by decide +kernel
theorem q_234_36 : p_tb 234 36 = some (.aload_n 0, 1) := by decide +kernel
theorem q_234_37 : p_tb 234 37 = some (.iload_n 1, 1) := by decide +kernel
theorem q_234_38 : p_tb 234 38 = some (.iload_n 2, 1) := by decide +kernel
theorem q_234_39 : p_tb 234 39 = some (.invokevirtual 302, 3) := by decide +kernel
theorem q_234_42 : p_tb 234 42 = some (.i2l, 1) := by decide +kernel
theorem q_234_43 : p_tb 234 43 = some (.lmul, 1) := by decide +kernel
theorem q_234_44 : p_tb 234 44 = some (.aload_n 0, 1) := by decide +kernel
theorem q_234_45 : p_tb 234 45 = some (.getfield 33, 3) := by decide +kernel
theorem q_234_48 : p_tb 234 48 = some (.bipush 11, 2) := by decide +kernel
theorem q_234_50 : p_tb 234 50 = some (.iload_n 1, 1) := by decide +kernel
theorem q_234_51 : p_tb 234 51 = some (.iadd, 1) := by decide +kernel
theorem q_234_52 : p_tb 234 52 = some (.iaload, 1) := by decide +kernel
theorem q_234_53 : p_tb 234 53 = some (.aload_n 0, 1) := by decide +kernel
theorem q_234_54 : p_tb 234 54 = some (.getfield 33, 3) := by decide +kernel
theorem q_234_57 : p_tb 234 57 = some (.bipush 11, 2) := by decide +kernel
theorem q_234_59 : p_tb 234 59 = some (.iload_n 2, 1) := by decide +kernel
theorem q_234_60 : p_tb 234 60 = some (.iadd, 1) := by decide +kernel
theorem q_234_61 : p_tb 234 61 = some (.iaload, 1) := by decide +kernel
theorem q_234_62 : p_tb 234 62 = some (.iadd, 1) := by decide +kernel
theorem q_234_63 : p_tb 234 63 = some (.i2l, 1) := by decide +kernel
theorem q_234_64 : p_tb 234 64 = some (.iload 4, 2) := by decide +kernel
theorem q_234_66 : p_tb 234 66 = some (.invokestatic 317, 3) := by decide +kernel
theorem q_234_69 : p_tb 234 69 = some (.l2i, 1) := by decide +kernel
theorem q_234_70 : p_tb 234 70 = some (.ireturn, 1) := by decide +kernel
theorem t_ft_234_33 : p_f2 p_ft (p_mK 234) 33 = some (11, 6) := by decide +kernel
theorem t_ms_234_176 : p_f2 p_ms (p_mK 234) 176 = some 166 := by decide +kernel
theorem t_ms_234_317 : p_f2 p_ms (p_mK 234) 317 = some 171 := by decide +kernel
theorem t_mv_234_247 : p_f2 p_mv (p_mK 234) 247 = some 161 := by decide +kernel
theorem t_mv_234_302 : p_f2 p_mv (p_mK 234) 302 = some 198 := by decide +kernel
theorem t_mv_234_314 : p_f2 p_mv (p_mK 234) 314 = some 231 := by decide +kernel
theorem q_235_0 : p_tb 235 0 = some (.aload_n 0, 1) := by decide +kernel
theorem q_235_1 : p_tb 235 1 = some (.aload_n 0, 1) := by decide +kernel
theorem q_235_2 : p_tb 235 2 = some (.iload_n 1, 1) := by decide +kernel
theorem q_235_3 : p_tb 235 3 = some (.iload_n 2, 1) := by decide +kernel
theorem q_235_4 : p_tb 235 4 = some (.iload_n 3, 1) := by decide +kernel
theorem q_235_5 : p_tb 235 5 = some (.invokevirtual 314, 3) := by decide +kernel
theorem q_235_8 : p_tb 235 8 = some (.ifCond .eq 24, 3) := by decide +kernel
theorem q_235_11 : p_tb 235 11 = some (.iload 4, 2) := by decide +kernel
theorem q_235_13 : p_tb 235 13 = some (.iconst 1, 1) := by decide +kernel
theorem q_235_14 : p_tb 235 14 = some (.bipush 6, 2) := by decide +kernel
theorem q_235_16 : p_tb 235 16 = some (.invokestatic 176, 3) := by decide +kernel
theorem q_235_19 : p_tb 235 19 = some (.ifCond .eq 13, 3) := by decide +kernel
theorem q_235_22 : p_tb 235 22 = some (.iload 5, 2) := by decide +kernel
theorem q_235_24 : p_tb 235 24 = some (.iconst 0, 1) := by decide +kernel
theorem q_235_25 : p_tb 235 25 = some (.iconst 1, 1) := by decide +kernel
theorem q_235_26 : p_tb 235 26 = some (.invokestatic 176, 3) := by decide +kernel
theorem q_235_29 : p_tb 235 29 = some (.ifCond .ne 7, 3) := by decide +kernel
theorem q_235_32 : p_tb 235 32 = some (.iconst 1, 1) := by decide +kernel
theorem q_235_33 : p_tb 235 33 = some (.goto 4, 3) := by decide +kernel
theorem q_235_36 : p_tb 235 36 = some (.iconst 0, 1) := by decide +kernel
theorem q_235_37 : p_tb 235 37 = some (.invokevirtual 247, 3) := by decide +kernel
theorem q_235_40 : p_tb 235 40 = some (.ifCond .eq 5, 3) := by decide +kernel
theorem q_235_43 : p_tb 235 43 = some (.lconst 0, 1) := by decide +kernel
theorem q_235_44 : p_tb 235 44 = some (.lreturn, 1) := by decide +kernel
theorem q_235_45 : p_tb 235 45 = some (.aload_n 0, 1) := by decide +kernel
theorem q_235_46 : p_tb 235 46 = some (.iload_n 1, 1) := by decide +kernel
theorem q_235_47 : p_tb 235 47 = some (.iload_n 2, 1) := by decide +kernel
theorem q_235_48 : p_tb 235 48 = some (.iload_n 3, 1) := by decide +kernel
theorem q_235_49 : p_tb 235 49 = some (.iload 4, 2) := by decide +kernel
theorem q_235_51 : p_tb 235 51 = some (.invokevirtual 321, 3) := by decide +kernel
theorem q_235_54 : p_tb 235 54 = some (.aload_n 0, 1) := by decide +kernel
theorem q_235_55 : p_tb 235 55 = some (.iload_n 1, 1) := by decide +kernel
theorem q_235_56 : p_tb 235 56 = some (.iload_n 2, 1) := by decide +kernel
theorem q_235_57 : p_tb 235 57 = some (.iload_n 3, 1) := by decide +kernel
theorem q_235_58 : p_tb 235 58 = some (.iload 4, 2) := by decide +kernel
theorem q_235_60 : p_tb 235 60 = some (.invokevirtual 325, 3) := by decide +kernel
theorem q_235_63 : p_tb 235 63 = some (.iload 5, 2) := by decide +kernel
theorem q_235_65 : p_tb 235 65 = some (.invokestatic 317, 3) := by decide +kernel
theorem q_235_68 : p_tb 235 68 = some (.lreturn, 1) := by decide +kernel
theorem t_ms_235_176 : p_f2 p_ms (p_mK 235) 176 = some 166 := by decide +kernel
theorem t_ms_235_317 : p_f2 p_ms (p_mK 235) 317 = some 171 := by decide +kernel
theorem t_mv_235_247 : p_f2 p_mv (p_mK 235) 247 = some 161 := by decide +kernel
theorem t_mv_235_314 : p_f2 p_mv (p_mK 235) 314 = some 231 := by decide +kernel
theorem t_mv_235_321 : p_f2 p_mv (p_mK 235) 321 = some 232 := by decide +kernel
theorem t_mv_235_325 : p_f2 p_mv (p_mK 235) 325 = some 233 := by decide +kernel
theorem q_236_0 : p_tb 236 0 = some (.aload_n 0, 1) := by decide +kernel
theorem q_236_1 : p_tb 236 1 = some (.aload_n 0, 1) := by decide +kernel
theorem q_236_2 : p_tb 236 2 = some (.iload_n 1, 1) := by decide +kernel
theorem q_236_3 : p_tb 236 3 = some (.iload_n 2, 1) := by decide +kernel
theorem q_236_4 : p_tb 236 4 = some (.iload_n 3, 1) := by decide +kernel
theorem q_236_5 : p_tb 236 5 = some (.invokevirtual 314, 3) := by decide +kernel
theorem q_236_8 : p_tb 236 8 = some (.ifCond .ne 7, 3) := by decide +kernel
theorem q_236_11 : p_tb 236 11 = some (.iconst 1, 1) := by decide +kernel
theorem q_236_12 : p_tb 236 12 = some (.goto 4, 3) := by decide +kernel
theorem q_236_15 : p_tb 236 15 = some (.iconst 0, 1) := by decide +kernel
theorem q_236_16 : p_tb 236 16 = some (.invokevirtual 247, 3) := by decide +kernel
theorem q_236_19 : p_tb 236 19 = some (.ifCond .eq 5, 3) := by decide +kernel
theorem q_236_22 : p_tb 236 22 = some (.iconst 0, 1) := by decide +kernel
theorem q_236_23 : p_tb 236 23 = some (.ireturn, 1) := by decide +kernel
theorem q_236_24 : p_tb 236 24 = some (.iconst 1, 1) := by decide +kernel
theorem q_236_25 : p_tb 236 25 = some (.istore 4, 2) := by decide +kernel
theorem q_236_27 : p_tb 236 27 = some (.iload 4, 2) := by decide +kernel
theorem q_236_29 : p_tb 236 29 = some (.bipush 7, 2) := by decide +kernel
theorem q_236_31 : p_tb 236 31 = some (.if_icmp .ge 42, 3) := by decide +kernel
theorem q_236_34 : p_tb 236 34 = some (.aload_n 0, 1) := by decide +kernel
theorem q_236_35 : p_tb 236 35 = some (.iload_n 1, 1) := by decide +kernel
theorem q_236_36 : p_tb 236 36 = some (.iload_n 2, 1) := by decide +kernel
theorem q_236_37 : p_tb 236 37 = some (.iload_n 3, 1) := by decide +kernel
theorem q_236_38 : p_tb 236 38 = some (.iload 4, 2) := by decide +kernel
theorem q_236_40 : p_tb 236 40 = some (.invokevirtual 321, 3) := by decide +kernel
theorem q_236_43 : p_tb 236 43 = some (.aload_n 0, 1) := by decide +kernel
theorem q_236_44 : p_tb 236 44 = some (.getfield 33, 3) := by decide +kernel
theorem q_236_47 : p_tb 236 47 = some (.iconst 3, 1) := by decide +kernel
theorem q_236_48 : p_tb 236 48 = some (.iaload, 1) := by decide +kernel
theorem q_236_49 : p_tb 236 49 = some (.i2l, 1) := by decide +kernel
theorem q_236_50 : p_tb 236 50 = some (.aload_n 0, 1) := by decide +kernel
theorem q_236_51 : p_tb 236 51 = some (.iload_n 1, 1) := by decide +kernel
theorem q_236_52 : p_tb 236 52 = some (.iload_n 2, 1) := by decide +kernel
theorem q_236_53 : p_tb 236 53 = some (.iload_n 3, 1) := by decide +kernel
theorem q_236_54 : p_tb 236 54 = some (.iload 4, 2) := by decide +kernel
theorem q_236_56 : p_tb 236 56 = some (.invokevirtual 325, 3) := by decide +kernel
theorem q_236_59 : p_tb 236 59 = some (.lmul, 1) := by decide +kernel
theorem q_236_60 : p_tb 236 60 = some (.lcmp, 1) := by decide +kernel
theorem q_236_61 : p_tb 236 61 = some (.ifCond .gt 6, 3) := by decide +kernel
theorem q_236_64 : p_tb 236 64 = some (.iload 4, 2) := by decide +kernel
theorem q_236_66 : p_tb 236 66 = some (.ireturn, 1) := by decide +kernel
theorem q_236_67 : p_tb 236 67 = some (.iinc 4 1, 3) := by decide +kernel
theorem q_236_70 : p_tb 236 70 = some (.goto (-43), 3) := by decide +kernel
theorem q_236_73 : p_tb 236 73 = some (.iconst (-1), 1) := by decide +kernel
theorem q_236_74 : p_tb 236 74 = some (.ireturn, 1) := by decide +kernel
theorem t_ft_236_33 : p_f2 p_ft (p_mK 236) 33 = some (11, 6) := by decide +kernel
theorem t_mv_236_247 : p_f2 p_mv (p_mK 236) 247 = some 161 := by decide +kernel
theorem t_mv_236_314 : p_f2 p_mv (p_mK 236) 314 = some 231 := by decide +kernel
theorem t_mv_236_321 : p_f2 p_mv (p_mK 236) 321 = some 232 := by decide +kernel
theorem t_mv_236_325 : p_f2 p_mv (p_mK 236) 325 = some 233 := by decide +kernel
theorem n_i2l (x : Int32) : x.toInt64.toInt = x.toInt := Int32.toInt_toInt64 x
theorem n_cmp2 {x y : Int64} (h : (lg_cmp x y).toInt = 0) : x = y := by
  unfold lg_cmp at h
  by_cases h1 : x > y
  · rw [if_pos h1] at h; exact absurd h (by decide)
  · rw [if_neg h1] at h
    by_cases h2 : x = y
    · exact h2
    · rw [if_neg h2] at h; exact absurd h (by decide)
section LNG
variable {G : pG} {al : Bool} {d j mc ms : Nat} {Kr : pK} {pc : Nat} {lv : List (Nat × Value)} {st : List Value} {N : Nat} {M : pM} {ce sl : Nat}
theorem PW.nmL {x : Int64} (k : ∀ z : Int64, z = x → PW G al d j mc ms Kr pc lv (.long z :: st) N M ce sl) : PW G al d j mc ms Kr pc lv (.long x :: st) N M ce sl := k x rfl
theorem PW.lcmpE {x y : Int64} (h : p_tb j pc = some (.lcmp, 1)) (k : ∀ z : Int32, (z.toInt ≠ 0 → x ≠ y) → (0 < z.toInt → y.toInt < x.toInt) → (z.toInt = 0 → x = y) → PW G al d j mc ms Kr (pc + 1) lv (.int z :: st) N M ce sl) : PW G al d j mc ms Kr pc lv (.long y :: .long x :: st) N M ce sl := PW.lcmp h (k _ n_cmp0 n_cmp1 n_cmp2)
theorem PW.subE {x y : Int32} (h : p_tb j pc = some (.isub, 1)) (k : ∀ z : Int32, z = x - y → PW G al d j mc ms Kr (pc + 1) lv (.int z :: st) N M ce sl) : PW G al d j mc ms Kr pc lv (.int y :: .int x :: st) N M ce sl := PW.isub h (k _ rfl)
end LNG
theorem n_lrem {x y : Int64} (h : ¬ y = 0) : (x - x / y * y).toInt.natAbs < y.toInt.natAbs := by
  have hy : y.toInt ≠ 0 := fun e => h (Int64.toInt_inj.mp (by rw [e]; rfl))
  have e1 : (x - x / y * y).toInt = (x.toInt - x.toInt.tdiv y.toInt * y.toInt).bmod (2 ^ 64) := by
    rw [Int64.toInt_sub, Int64.toInt_mul, Int64.toInt_div, Int.bmod_mul_bmod, Int.sub_bmod_bmod]
  have e2 : x.toInt - x.toInt.tdiv y.toInt * y.toInt = x.toInt.tmod y.toInt := by
    have w := Int.tmod_add_tdiv_mul x.toInt y.toInt
    omega
  have b1 := Int64.le_toInt y
  have b2 := Int64.toInt_lt y
  have l1 : (x.toInt.tmod y.toInt).natAbs < y.toInt.natAbs := by
    rw [Int.natAbs_tmod]
    exact Nat.mod_lt _ (by omega)
  rw [e1, e2, Int.bmod_eq_of_le (by omega) (by omega)]
  exact l1
theorem n_pw {b l1 l2 : Int64} {z : Int32} {i i' : Int} (h : 1 ≤ b.toInt ∧ b.toInt ≤ (108 : Int) ^ i.toNat) (e1 : l1.toInt = z.toInt) (h1 : 1 ≤ z.toInt) (h2 : z.toInt ≤ 108) (e2 : l2 = b * l1) (hi : 0 ≤ i) (hi6 : i ≤ 5) (hi' : i' = i + 1) : 1 ≤ l2.toInt ∧ l2.toInt ≤ (108 : Int) ^ i'.toNat := by
  have q1 : b.toInt * z.toInt ≤ (108 : Int) ^ i.toNat * 108 := Int.mul_le_mul h.2 h2 (by omega) (by have := h.1; have := h.2; omega)
  have q2 : 1 * 1 ≤ b.toInt * z.toInt := Int.mul_le_mul h.1 h1 (by omega) (by have := h.1; omega)
  have q3 : (108 : Int) ^ i'.toNat = (108 : Int) ^ i.toNat * 108 := by
    rw [hi', show (i + 1).toNat = i.toNat + 1 from by omega, Int.pow_succ]
  have q4 : (108 : Int) ^ i.toNat * 108 ≤ 1586874322944 := by
    rcases (show i = 0 ∨ i = 1 ∨ i = 2 ∨ i = 3 ∨ i = 4 ∨ i = 5 by omega) with rfl | rfl | rfl | rfl | rfl | rfl <;> decide
  have q5 : l2.toInt = b.toInt * z.toInt := by
    rw [e2, Int64.toInt_mul, e1]
    exact Int.bmod_eq_of_le (by omega) (by omega)
  rw [q5, q3]
  exact ⟨by omega, q1⟩
theorem c_X12_part (V : pM → Prop) (hV : Stab V) (G : pG) (Kr : pK) (M : pM) (I : Iv V M) (a0 : Int64) (a1 : Int64) (a2 : Int32) (hp_0 : 1 ≤ a1.toInt) (hK : ∀ (x : Int64) (M1 : pM), Iv V M1 → Fr [] M M1 → Kr.1 (some (.long x)) 311 M1) : PW G false 0 171 (p_mc 171) (p_msl 171) Kr 0 (lv_args 0 [.long a0, .long a1, .int a2]) [] 311 M 0 0 := by
  have F : Fr [] M M := Fr.refl
  refine PW.lload_n q_171_0 rfl ?_
  refine PW.lstore q_171_1 (by decide) ?_
  refine PW.lload_n q_171_3 rfl ?_
  refine PW.lstore q_171_4 (by decide) ?_
  have L171_6_1 : ∀ (n : Nat) (ML171_6_1 : pM) (l2 l3 : Int64), Iv (V) ML171_6_1 → Fr [] M ML171_6_1 → l2 ≠ 0 ∨ l3 ≠ 0 → ((l3.toInt.natAbs : Int)).toNat = n → PW G false 0 171 (p_mc 171) (p_msl 171) Kr 6 [(0, .long a0), (2, .long a1), (4, .int a2), (5, .long l2), (7, .long l3)] [] 311 ML171_6_1 0 0 := by
    intro n
    induction n using Nat.strongRecOn with
    | ind n ih_L171_6_1 =>
    intro ML171_6_1 l2 l3 IML171_6_1 FML171_6_1 hbL171_6_10 hmL171_6_1
    refine PW.lload q_171_6 rfl ?_
    refine PW.lconst q_171_8 ?_
    refine PW.nmL fun l4 el4 => ?_
    refine PW.lcmpE q_171_9 fun x5 lax5 lbx5 lcx5 => ?_
    refine PW.jz_eq q_171_10 rfl (fun h6 => ?_) (fun h6 => ?_)
    · skip
      refine PW.iload q_171_31 rfl ?_
      refine PW.jz_ne q_171_33 rfl (fun h7 => ?_) (fun h7 => ?_)
      · skip
        refine PW.lload_n q_171_40 rfl ?_
        refine PW.lload q_171_41 rfl ?_
        refine PW.ldiv q_171_43 (fun e => hbL171_6_10.elim (fun w => w e) (fun w => w ((lcx5 h6).trans (by rw [el4]; rfl)))) ?_
        refine PW.nmL fun l8 el8 => ?_
        refine PW.lret q_171_44 rfl (by decide) (by decide) ?_
        exact hK _ ML171_6_1 IML171_6_1 FML171_6_1
      · skip
        refine PW.lload_n q_171_36 rfl ?_
        refine PW.goto q_171_37 rfl ?_
        refine PW.lload q_171_41 rfl ?_
        refine PW.ldiv q_171_43 (fun e => hbL171_6_10.elim (fun w => w e) (fun w => w ((lcx5 h6).trans (by rw [el4]; rfl)))) ?_
        refine PW.nmL fun l9 el9 => ?_
        refine PW.lret q_171_44 rfl (by decide) (by decide) ?_
        exact hK _ ML171_6_1 IML171_6_1 FML171_6_1
    · skip
      refine PW.lload q_171_13 rfl ?_
      refine PW.lload q_171_15 rfl ?_
      refine PW.lrem q_171_17 (fun e => lax5 h6 (e.trans (by rw [el4]; rfl))) ?_
      refine PW.nmL fun l10 el10 => ?_
      refine PW.lstore q_171_18 (by decide) ?_
      refine PW.lload q_171_20 rfl ?_
      refine PW.lstore q_171_22 (by decide) ?_
      refine PW.lload q_171_24 rfl ?_
      refine PW.lstore q_171_26 (by decide) ?_
      refine PW.goto q_171_28 rfl ?_
      refine PW.lvS (lk1 rfl (lk1 rfl (lk1 rfl (lk1 rfl (lk1 rfl lk0))))) (ih_L171_6_1 _ ?_ ML171_6_1 _ _ IML171_6_1 FML171_6_1 (Or.inl (fun e => lax5 h6 (e.trans (by rw [el4]; rfl)))) rfl)
      have wl := n_lrem (x := l2) (y := l3) (fun e => lax5 h6 (e.trans (by rw [el4]; rfl))); rw [← el10] at wl; omega
  exact PW.lvS (lk1 rfl (lk1 rfl (lk1 rfl (lk1 rfl (lk1 rfl lk0))))) (L171_6_1 _ M _ _ I F (Or.inr (fun e => by rw [e] at hp_0; exact absurd hp_0 (by decide))) rfl)
theorem c_X12_isBetween (V : pM → Prop) (hV : Stab V) (G : pG) (Kr : pK) (M : pM) (I : Iv V M) (a1 : Int32) (a2 : Int32) (a3 : Int32) (hK : ∀ (x : Int32) (M1 : pM), Iv V M1 → Fr [] M M1 → 0 ≤ x.toInt → x.toInt ≤ 1 → (x.toInt = 0 ∨ (0 ≤ a1.toInt ∧ a1.toInt ≤ 5 ∧ 0 ≤ a2.toInt ∧ a2.toInt ≤ 5 ∧ 1 ≤ a3.toInt ∧ a3.toInt ≤ 99 ∧ 1 ≤ (o_a (M 296) (11 + a1.toInt).toNat).toInt + (o_a (M 296) (11 + a2.toInt).toNat).toInt)) → ((gLq M1 M) ∧ gHq M1 M) → Kr.1 (some (.int x)) 311 M1) : PW G false 3 231 (p_mc 231) (p_msl 231) Kr 0 (lv_args 0 [.ref 294, .int a1, .int a2, .int a3]) [] 311 M 0 0 := by
  have F : Fr [] M M := Fr.refl
  refine PW.aload_n q_231_0 rfl ?_
  refine PW.iload_n q_231_1 rfl ?_
  refine PW.iload_n q_231_2 rfl ?_
  refine PW.cV (as := [_, _]) (rest := []) q_231_3 t_mv_231_305 kd_294 I.1 (by decide) rfl (by decide) rfl rfl (Nat.le_of_ble_eq_true rfl) (Nat.le_of_ble_eq_true rfl) (by decide) (by decide) ?_
  refine PW.aload_n q_197_0 rfl ?_
  refine PW.iload_n q_197_1 rfl ?_
  refine PW.cV (as := [_]) (rest := []) q_197_2 t_mv_197_241 kd_294 I.1 (by decide) rfl (by decide) rfl rfl (Nat.le_of_ble_eq_true rfl) (Nat.le_of_ble_eq_true rfl) (by decide) (by decide) ?_
  refine PW.iload_n q_195_0 rfl ?_
  refine PW.cI q_195_1 (by decide) fun c1 hc1 => ?_
  refine PW.aload_n q_195_2 rfl ?_
  refine PW.gR 296 q_195_3 (Or.inl t_ft_195_33) gF_40_6 kd_294 I.1 (by decide) rfl ?_
  refine PW.cI q_195_6 (by decide) fun c2 hc2 => ?_
  refine PW.aI q_195_7 gA_42 kd_296 I.1 (by decide) gB_42_0_0 (by decide) (by omega) (by omega) fun x3 fx3 hx3 kx3 => ?_
  refine PW.cI q_195_8 (by decide) fun c4 hc4 => ?_
  refine PW.subN q_195_9 (by omega) (by omega) fun x5 hx5 => ?_
  refine PW.callS (as := [_, _, _]) (rest := []) q_195_10 t_ms_195_176 (by decide) rfl (Nat.le_of_ble_eq_true rfl) (Nat.le_of_ble_eq_true rfl) (by decide) (by decide) ?_
  refine PW.iload_n q_166_0 rfl ?_
  refine PW.iload_n q_166_1 rfl ?_
  refine PW.jc_lt q_166_2 rfl (fun h6 => ?_) (fun h6 => ?_)
  · skip
    refine PW.cI q_166_14 (by decide) fun c7 hc7 => ?_
    refine PW.rZ q_166_15 rfl (by omega) (by omega) (by decide) (by decide) ?_
    refine PW.rZ q_195_13 rfl (by omega) (by omega) (by decide) (by decide) ?_
    refine PW.jz_eq q_197_5 rfl (fun h8 => ?_) (fun h8 => False.elim (by omega))
    refine PW.cI q_197_25 (by decide) fun c9 hc9 => ?_
    refine PW.rZ q_197_26 rfl (by omega) (by omega) (by decide) (by decide) ?_
    refine PW.jz_eq q_231_6 rfl (fun h10 => ?_) (fun h10 => False.elim (by omega))
    refine PW.cI q_231_80 (by decide) fun c11 hc11 => ?_
    refine PW.rZ q_231_81 rfl (by omega) (by omega) (by decide) (by decide) ?_
    exact hK c11 M I F (by omega) (by omega) (by omega) ⟨rfl, gHq.refl⟩
  · skip
    refine PW.iload_n q_166_5 rfl ?_
    refine PW.iload_n q_166_6 rfl ?_
    refine PW.jc_gt q_166_7 rfl (fun h12 => ?_) (fun h12 => ?_)
    · skip
      refine PW.cI q_166_14 (by decide) fun c13 hc13 => ?_
      refine PW.rZ q_166_15 rfl (by omega) (by omega) (by decide) (by decide) ?_
      refine PW.rZ q_195_13 rfl (by omega) (by omega) (by decide) (by decide) ?_
      refine PW.jz_eq q_197_5 rfl (fun h14 => ?_) (fun h14 => False.elim (by omega))
      refine PW.cI q_197_25 (by decide) fun c15 hc15 => ?_
      refine PW.rZ q_197_26 rfl (by omega) (by omega) (by decide) (by decide) ?_
      refine PW.jz_eq q_231_6 rfl (fun h16 => ?_) (fun h16 => False.elim (by omega))
      refine PW.cI q_231_80 (by decide) fun c17 hc17 => ?_
      refine PW.rZ q_231_81 rfl (by omega) (by omega) (by decide) (by decide) ?_
      exact hK c17 M I F (by omega) (by omega) (by omega) ⟨rfl, gHq.refl⟩
    · skip
      refine PW.cI q_166_10 (by decide) fun c18 hc18 => ?_
      refine PW.goto q_166_11 rfl ?_
      refine PW.rZ q_166_15 rfl (by omega) (by omega) (by decide) (by decide) ?_
      refine PW.rZ q_195_13 rfl (by omega) (by omega) (by decide) (by decide) ?_
      refine PW.jz_eq q_197_5 rfl (fun h19 => False.elim (by omega)) (fun h19 => ?_)
      refine PW.aload_n q_197_8 rfl ?_
      refine PW.iload_n q_197_9 rfl ?_
      refine PW.cV (as := [_]) (rest := []) q_197_10 t_mv_197_241 kd_294 I.1 (by decide) rfl (by decide) rfl rfl (Nat.le_of_ble_eq_true rfl) (Nat.le_of_ble_eq_true rfl) (by decide) (by decide) ?_
      refine PW.iload_n q_195_0 rfl ?_
      refine PW.cI q_195_1 (by decide) fun c20 hc20 => ?_
      refine PW.aload_n q_195_2 rfl ?_
      refine PW.gR 296 q_195_3 (Or.inl t_ft_195_33) gF_40_6 kd_294 I.1 (by decide) rfl ?_
      refine PW.cI q_195_6 (by decide) fun c21 hc21 => ?_
      refine PW.aI q_195_7 gA_42 kd_296 I.1 (by decide) gB_42_0_0 (by decide) (by omega) (by omega) fun x22 fx22 hx22 kx22 => ?_
      refine PW.cI q_195_8 (by decide) fun c23 hc23 => ?_
      refine PW.subN q_195_9 (by omega) (by omega) fun x24 hx24 => ?_
      refine PW.callS (as := [_, _, _]) (rest := []) q_195_10 t_ms_195_176 (by decide) rfl (Nat.le_of_ble_eq_true rfl) (Nat.le_of_ble_eq_true rfl) (by decide) (by decide) ?_
      refine PW.iload_n q_166_0 rfl ?_
      refine PW.iload_n q_166_1 rfl ?_
      refine PW.jc_lt q_166_2 rfl (fun h25 => ?_) (fun h25 => ?_)
      · skip
        refine PW.cI q_166_14 (by decide) fun c26 hc26 => ?_
        refine PW.rZ q_166_15 rfl (by omega) (by omega) (by decide) (by decide) ?_
        refine PW.rZ q_195_13 rfl (by omega) (by omega) (by decide) (by decide) ?_
        refine PW.jz_eq q_197_13 rfl (fun h27 => ?_) (fun h27 => False.elim (by omega))
        refine PW.cI q_197_25 (by decide) fun c28 hc28 => ?_
        refine PW.rZ q_197_26 rfl (by omega) (by omega) (by decide) (by decide) ?_
        refine PW.jz_eq q_231_6 rfl (fun h29 => ?_) (fun h29 => False.elim (by omega))
        refine PW.cI q_231_80 (by decide) fun c30 hc30 => ?_
        refine PW.rZ q_231_81 rfl (by omega) (by omega) (by decide) (by decide) ?_
        exact hK c30 M I F (by omega) (by omega) (by omega) ⟨rfl, gHq.refl⟩
      · skip
        refine PW.iload_n q_166_5 rfl ?_
        refine PW.iload_n q_166_6 rfl ?_
        refine PW.jc_gt q_166_7 rfl (fun h31 => ?_) (fun h31 => ?_)
        · skip
          refine PW.cI q_166_14 (by decide) fun c32 hc32 => ?_
          refine PW.rZ q_166_15 rfl (by omega) (by omega) (by decide) (by decide) ?_
          refine PW.rZ q_195_13 rfl (by omega) (by omega) (by decide) (by decide) ?_
          refine PW.jz_eq q_197_13 rfl (fun h33 => ?_) (fun h33 => False.elim (by omega))
          refine PW.cI q_197_25 (by decide) fun c34 hc34 => ?_
          refine PW.rZ q_197_26 rfl (by omega) (by omega) (by decide) (by decide) ?_
          refine PW.jz_eq q_231_6 rfl (fun h35 => ?_) (fun h35 => False.elim (by omega))
          refine PW.cI q_231_80 (by decide) fun c36 hc36 => ?_
          refine PW.rZ q_231_81 rfl (by omega) (by omega) (by decide) (by decide) ?_
          exact hK c36 M I F (by omega) (by omega) (by omega) ⟨rfl, gHq.refl⟩
        · skip
          refine PW.cI q_166_10 (by decide) fun c37 hc37 => ?_
          refine PW.goto q_166_11 rfl ?_
          refine PW.rZ q_166_15 rfl (by omega) (by omega) (by decide) (by decide) ?_
          refine PW.rZ q_195_13 rfl (by omega) (by omega) (by decide) (by decide) ?_
          refine PW.jz_eq q_197_13 rfl (fun h38 => False.elim (by omega)) (fun h38 => ?_)
          refine PW.iload_n q_197_16 rfl ?_
          refine PW.iload_n q_197_17 rfl ?_
          refine PW.jc_eq q_197_18 rfl (fun h39 => ?_) (fun h39 => ?_)
          · skip
            refine PW.cI q_197_25 (by decide) fun c40 hc40 => ?_
            refine PW.rZ q_197_26 rfl (by omega) (by omega) (by decide) (by decide) ?_
            refine PW.jz_eq q_231_6 rfl (fun h41 => ?_) (fun h41 => False.elim (by omega))
            refine PW.cI q_231_80 (by decide) fun c42 hc42 => ?_
            refine PW.rZ q_231_81 rfl (by omega) (by omega) (by decide) (by decide) ?_
            exact hK c42 M I F (by omega) (by omega) (by omega) ⟨rfl, gHq.refl⟩
          · skip
            refine PW.cI q_197_21 (by decide) fun c43 hc43 => ?_
            refine PW.goto q_197_22 rfl ?_
            refine PW.rZ q_197_26 rfl (by omega) (by omega) (by decide) (by decide) ?_
            refine PW.jz_eq q_231_6 rfl (fun h44 => False.elim (by omega)) (fun h44 => ?_)
            refine PW.iload_n q_231_9 rfl ?_
            refine PW.cI q_231_10 (by decide) fun c45 hc45 => ?_
            refine PW.cB q_231_11 (by decide) fun c46 hc46 => ?_
            refine PW.callS (as := [_, _, _]) (rest := []) q_231_13 t_ms_231_176 (by decide) rfl (Nat.le_of_ble_eq_true rfl) (Nat.le_of_ble_eq_true rfl) (by decide) (by decide) ?_
            refine PW.iload_n q_166_0 rfl ?_
            refine PW.iload_n q_166_1 rfl ?_
            refine PW.jc_lt q_166_2 rfl (fun h47 => ?_) (fun h47 => ?_)
            · skip
              refine PW.cI q_166_14 (by decide) fun c48 hc48 => ?_
              refine PW.rZ q_166_15 rfl (by omega) (by omega) (by decide) (by decide) ?_
              refine PW.jz_eq q_231_16 rfl (fun h49 => ?_) (fun h49 => False.elim (by omega))
              refine PW.cI q_231_80 (by decide) fun c50 hc50 => ?_
              refine PW.rZ q_231_81 rfl (by omega) (by omega) (by decide) (by decide) ?_
              exact hK c50 M I F (by omega) (by omega) (by omega) ⟨rfl, gHq.refl⟩
            · skip
              refine PW.iload_n q_166_5 rfl ?_
              refine PW.iload_n q_166_6 rfl ?_
              refine PW.jc_gt q_166_7 rfl (fun h51 => ?_) (fun h51 => ?_)
              · skip
                refine PW.cI q_166_14 (by decide) fun c52 hc52 => ?_
                refine PW.rZ q_166_15 rfl (by omega) (by omega) (by decide) (by decide) ?_
                refine PW.jz_eq q_231_16 rfl (fun h53 => ?_) (fun h53 => False.elim (by omega))
                refine PW.cI q_231_80 (by decide) fun c54 hc54 => ?_
                refine PW.rZ q_231_81 rfl (by omega) (by omega) (by decide) (by decide) ?_
                exact hK c54 M I F (by omega) (by omega) (by omega) ⟨rfl, gHq.refl⟩
              · skip
                refine PW.cI q_166_10 (by decide) fun c55 hc55 => ?_
                refine PW.goto q_166_11 rfl ?_
                refine PW.rZ q_166_15 rfl (by omega) (by omega) (by decide) (by decide) ?_
                refine PW.jz_eq q_231_16 rfl (fun h56 => False.elim (by omega)) (fun h56 => ?_)
                refine PW.aload_n q_231_19 rfl ?_
                refine PW.iload_n q_231_20 rfl ?_
                refine PW.iload_n q_231_21 rfl ?_
                refine PW.cV (as := [_, _]) (rest := []) q_231_22 t_mv_231_302 kd_294 I.1 (by decide) rfl (by decide) rfl rfl (Nat.le_of_ble_eq_true rfl) (Nat.le_of_ble_eq_true rfl) (by decide) (by decide) ?_
                refine PW.aload_n q_198_0 rfl ?_
                refine PW.gR 296 q_198_1 (Or.inl t_ft_198_33) gF_40_6 kd_294 I.1 (by decide) rfl ?_
                refine PW.cB q_198_4 (by decide) fun c57 hc57 => ?_
                refine PW.iload_n q_198_6 rfl ?_
                refine PW.addN q_198_7 (by have := n_lo a1; have := n_hi a1; omega) (by have := n_lo a1; have := n_hi a1; omega) fun x58 hx58 => ?_
                refine PW.aH q_198_8 gA_42 kd_296 I.1 (by decide) (by omega) (by omega) fun x59 fx59 => ?_
                refine PW.aload_n q_198_9 rfl ?_
                refine PW.gR 296 q_198_10 (Or.inl t_ft_198_33) gF_40_6 kd_294 I.1 (by decide) rfl ?_
                refine PW.cB q_198_13 (by decide) fun c60 hc60 => ?_
                refine PW.iload_n q_198_15 rfl ?_
                refine PW.addN q_198_16 (by have := n_lo a2; have := n_hi a2; omega) (by have := n_lo a2; have := n_hi a2; omega) fun x61 hx61 => ?_
                refine PW.aH q_198_17 gA_42 kd_296 I.1 (by decide) (by omega) (by omega) fun x62 fx62 => ?_
                refine PW.callS (as := [_, _]) (rest := []) q_198_18 t_ms_198_244 (by decide) rfl (Nat.le_of_ble_eq_true rfl) (Nat.le_of_ble_eq_true rfl) (by decide) (by decide) ?_
                refine PW.iload_n q_170_0 rfl ?_
                refine PW.iload_n q_170_1 rfl ?_
                refine PW.jc_ge q_170_2 rfl (fun h63 => ?_) (fun h63 => ?_)
                · skip
                  refine PW.iload_n q_170_11 rfl ?_
                  refine PW.iload_n q_170_12 rfl ?_
                  refine PW.subH q_170_13 fun x64 => ?_
                  refine PW.rI q_170_14 rfl (by decide) (by decide) ?_
                  refine PW.rI q_198_21 rfl (by decide) (by decide) ?_
                  refine PW.jz_le q_231_25 rfl (fun h65 => ?_) (fun h65 => ?_)
                  · skip
                    refine PW.cI q_231_80 (by decide) fun c66 hc66 => ?_
                    refine PW.rZ q_231_81 rfl (by omega) (by omega) (by decide) (by decide) ?_
                    exact hK c66 M I F (by omega) (by omega) (by omega) ⟨rfl, gHq.refl⟩
                  · skip
                    refine PW.aload_n q_231_28 rfl ?_
                    refine PW.gR 296 q_231_29 (Or.inl t_ft_231_33) gF_40_6 kd_294 I.1 (by decide) rfl ?_
                    refine PW.cB q_231_32 (by decide) fun c67 hc67 => ?_
                    refine PW.iload_n q_231_34 rfl ?_
                    refine PW.addN q_231_35 (by have := n_lo a1; have := n_hi a1; omega) (by have := n_lo a1; have := n_hi a1; omega) fun x68 hx68 => ?_
                    refine PW.aI q_231_36 gA_42 kd_296 I.1 (by decide) gB_42_11_16 (by decide) (by omega) (by omega) fun x69 fx69 hx69 kx69 => ?_
                    have tp70 : (o_a (M 296) (11 + a1.toInt).toNat).toInt = x69.toInt := by rw [show (11 + a1.toInt).toNat = x68.toInt.toNat from by omega, fx69]
                    refine PW.aload_n q_231_37 rfl ?_
                    refine PW.gR 296 q_231_38 (Or.inl t_ft_231_33) gF_40_6 kd_294 I.1 (by decide) rfl ?_
                    refine PW.cB q_231_41 (by decide) fun c71 hc71 => ?_
                    refine PW.iload_n q_231_43 rfl ?_
                    refine PW.addN q_231_44 (by have := n_lo a2; have := n_hi a2; omega) (by have := n_lo a2; have := n_hi a2; omega) fun x72 hx72 => ?_
                    refine PW.aI q_231_45 gA_42 kd_296 I.1 (by decide) gB_42_11_16 (by decide) (by omega) (by omega) fun x73 fx73 hx73 kx73 => ?_
                    have tp74 : (o_a (M 296) (11 + a2.toInt).toNat).toInt = x73.toInt := by rw [show (11 + a2.toInt).toNat = x72.toInt.toNat from by omega, fx73]
                    refine PW.addN q_231_46 (by omega) (by omega) fun x75 hx75 => ?_
                    refine PW.jz_le q_231_47 rfl (fun h76 => ?_) (fun h76 => ?_)
                    · skip
                      refine PW.cI q_231_80 (by decide) fun c77 hc77 => ?_
                      refine PW.rZ q_231_81 rfl (by omega) (by omega) (by decide) (by decide) ?_
                      exact hK c77 M I F (by omega) (by omega) (by omega) ⟨rfl, gHq.refl⟩
                    · skip
                      refine PW.iload_n q_231_50 rfl ?_
                      refine PW.aload_n q_231_51 rfl ?_
                      refine PW.gR 296 q_231_52 (Or.inl t_ft_231_33) gF_40_6 kd_294 I.1 (by decide) rfl ?_
                      refine PW.cB q_231_55 (by decide) fun c78 hc78 => ?_
                      refine PW.iload_n q_231_57 rfl ?_
                      refine PW.addN q_231_58 (by have := n_lo a1; have := n_hi a1; omega) (by have := n_lo a1; have := n_hi a1; omega) fun x79 hx79 => ?_
                      refine PW.aI q_231_59 gA_42 kd_296 I.1 (by decide) gB_42_11_16 (by decide) (by omega) (by omega) fun x80 fx80 hx80 kx80 => ?_
                      refine PW.jc_le q_231_60 rfl (fun h81 => ?_) (fun h81 => ?_)
                      · skip
                        refine PW.cI q_231_80 (by decide) fun c82 hc82 => ?_
                        refine PW.rZ q_231_81 rfl (by omega) (by omega) (by decide) (by decide) ?_
                        exact hK c82 M I F (by omega) (by omega) (by omega) ⟨rfl, gHq.refl⟩
                      · skip
                        refine PW.iload_n q_231_63 rfl ?_
                        refine PW.aload_n q_231_64 rfl ?_
                        refine PW.gR 296 q_231_65 (Or.inl t_ft_231_33) gF_40_6 kd_294 I.1 (by decide) rfl ?_
                        refine PW.cB q_231_68 (by decide) fun c83 hc83 => ?_
                        refine PW.iload_n q_231_70 rfl ?_
                        refine PW.addN q_231_71 (by have := n_lo a2; have := n_hi a2; omega) (by have := n_lo a2; have := n_hi a2; omega) fun x84 hx84 => ?_
                        refine PW.aI q_231_72 gA_42 kd_296 I.1 (by decide) gB_42_11_16 (by decide) (by omega) (by omega) fun x85 fx85 hx85 kx85 => ?_
                        refine PW.jc_le q_231_73 rfl (fun h86 => ?_) (fun h86 => ?_)
                        · skip
                          refine PW.cI q_231_80 (by decide) fun c87 hc87 => ?_
                          refine PW.rZ q_231_81 rfl (by omega) (by omega) (by decide) (by decide) ?_
                          exact hK c87 M I F (by omega) (by omega) (by omega) ⟨rfl, gHq.refl⟩
                        · skip
                          refine PW.cI q_231_76 (by decide) fun c88 hc88 => ?_
                          refine PW.goto q_231_77 rfl ?_
                          refine PW.rZ q_231_81 rfl (by omega) (by omega) (by decide) (by decide) ?_
                          exact hK c88 M I F (by omega) (by omega) (by omega) ⟨rfl, gHq.refl⟩
                · skip
                  refine PW.iload_n q_170_5 rfl ?_
                  refine PW.iload_n q_170_6 rfl ?_
                  refine PW.subH q_170_7 fun x89 => ?_
                  refine PW.goto q_170_8 rfl ?_
                  refine PW.rI q_170_14 rfl (by decide) (by decide) ?_
                  refine PW.rI q_198_21 rfl (by decide) (by decide) ?_
                  refine PW.jz_le q_231_25 rfl (fun h90 => ?_) (fun h90 => ?_)
                  · skip
                    refine PW.cI q_231_80 (by decide) fun c91 hc91 => ?_
                    refine PW.rZ q_231_81 rfl (by omega) (by omega) (by decide) (by decide) ?_
                    exact hK c91 M I F (by omega) (by omega) (by omega) ⟨rfl, gHq.refl⟩
                  · skip
                    refine PW.aload_n q_231_28 rfl ?_
                    refine PW.gR 296 q_231_29 (Or.inl t_ft_231_33) gF_40_6 kd_294 I.1 (by decide) rfl ?_
                    refine PW.cB q_231_32 (by decide) fun c92 hc92 => ?_
                    refine PW.iload_n q_231_34 rfl ?_
                    refine PW.addN q_231_35 (by have := n_lo a1; have := n_hi a1; omega) (by have := n_lo a1; have := n_hi a1; omega) fun x93 hx93 => ?_
                    refine PW.aI q_231_36 gA_42 kd_296 I.1 (by decide) gB_42_11_16 (by decide) (by omega) (by omega) fun x94 fx94 hx94 kx94 => ?_
                    have tp95 : (o_a (M 296) (11 + a1.toInt).toNat).toInt = x94.toInt := by rw [show (11 + a1.toInt).toNat = x93.toInt.toNat from by omega, fx94]
                    refine PW.aload_n q_231_37 rfl ?_
                    refine PW.gR 296 q_231_38 (Or.inl t_ft_231_33) gF_40_6 kd_294 I.1 (by decide) rfl ?_
                    refine PW.cB q_231_41 (by decide) fun c96 hc96 => ?_
                    refine PW.iload_n q_231_43 rfl ?_
                    refine PW.addN q_231_44 (by have := n_lo a2; have := n_hi a2; omega) (by have := n_lo a2; have := n_hi a2; omega) fun x97 hx97 => ?_
                    refine PW.aI q_231_45 gA_42 kd_296 I.1 (by decide) gB_42_11_16 (by decide) (by omega) (by omega) fun x98 fx98 hx98 kx98 => ?_
                    have tp99 : (o_a (M 296) (11 + a2.toInt).toNat).toInt = x98.toInt := by rw [show (11 + a2.toInt).toNat = x97.toInt.toNat from by omega, fx98]
                    refine PW.addN q_231_46 (by omega) (by omega) fun x100 hx100 => ?_
                    refine PW.jz_le q_231_47 rfl (fun h101 => ?_) (fun h101 => ?_)
                    · skip
                      refine PW.cI q_231_80 (by decide) fun c102 hc102 => ?_
                      refine PW.rZ q_231_81 rfl (by omega) (by omega) (by decide) (by decide) ?_
                      exact hK c102 M I F (by omega) (by omega) (by omega) ⟨rfl, gHq.refl⟩
                    · skip
                      refine PW.iload_n q_231_50 rfl ?_
                      refine PW.aload_n q_231_51 rfl ?_
                      refine PW.gR 296 q_231_52 (Or.inl t_ft_231_33) gF_40_6 kd_294 I.1 (by decide) rfl ?_
                      refine PW.cB q_231_55 (by decide) fun c103 hc103 => ?_
                      refine PW.iload_n q_231_57 rfl ?_
                      refine PW.addN q_231_58 (by have := n_lo a1; have := n_hi a1; omega) (by have := n_lo a1; have := n_hi a1; omega) fun x104 hx104 => ?_
                      refine PW.aI q_231_59 gA_42 kd_296 I.1 (by decide) gB_42_11_16 (by decide) (by omega) (by omega) fun x105 fx105 hx105 kx105 => ?_
                      refine PW.jc_le q_231_60 rfl (fun h106 => ?_) (fun h106 => ?_)
                      · skip
                        refine PW.cI q_231_80 (by decide) fun c107 hc107 => ?_
                        refine PW.rZ q_231_81 rfl (by omega) (by omega) (by decide) (by decide) ?_
                        exact hK c107 M I F (by omega) (by omega) (by omega) ⟨rfl, gHq.refl⟩
                      · skip
                        refine PW.iload_n q_231_63 rfl ?_
                        refine PW.aload_n q_231_64 rfl ?_
                        refine PW.gR 296 q_231_65 (Or.inl t_ft_231_33) gF_40_6 kd_294 I.1 (by decide) rfl ?_
                        refine PW.cB q_231_68 (by decide) fun c108 hc108 => ?_
                        refine PW.iload_n q_231_70 rfl ?_
                        refine PW.addN q_231_71 (by have := n_lo a2; have := n_hi a2; omega) (by have := n_lo a2; have := n_hi a2; omega) fun x109 hx109 => ?_
                        refine PW.aI q_231_72 gA_42 kd_296 I.1 (by decide) gB_42_11_16 (by decide) (by omega) (by omega) fun x110 fx110 hx110 kx110 => ?_
                        refine PW.jc_le q_231_73 rfl (fun h111 => ?_) (fun h111 => ?_)
                        · skip
                          refine PW.cI q_231_80 (by decide) fun c112 hc112 => ?_
                          refine PW.rZ q_231_81 rfl (by omega) (by omega) (by decide) (by decide) ?_
                          exact hK c112 M I F (by omega) (by omega) (by omega) ⟨rfl, gHq.refl⟩
                        · skip
                          refine PW.cI q_231_76 (by decide) fun c113 hc113 => ?_
                          refine PW.goto q_231_77 rfl ?_
                          refine PW.rZ q_231_81 rfl (by omega) (by omega) (by decide) (by decide) ?_
                          exact hK c113 M I F (by omega) (by omega) (by omega) ⟨rfl, gHq.refl⟩
theorem c_X12_upOf (V : pM → Prop) (hV : Stab V) (G : pG) (Kr : pK) (M : pM) (I : Iv V M) (a1 : Int32) (a2 : Int32) (a3 : Int32) (a4 : Int32) (hl_a1 : 0 ≤ a1.toInt) (hh_a1 : a1.toInt ≤ 5) (hl_a2 : 0 ≤ a2.toInt) (hh_a2 : a2.toInt ≤ 5) (hl_a4 : 1 ≤ a4.toInt) (hh_a4 : a4.toInt ≤ 6) (hK : ∀ (x : Int64) (M1 : pM), Iv V M1 → Fr [] M M1 → ((gLq M1 M) ∧ gHq M1 M) → Kr.1 (some (.long x)) 311 M1) : PW G false 2 232 (p_mc 232) (p_msl 232) Kr 0 (lv_args 0 [.ref 294, .int a1, .int a2, .int a3, .int a4]) [] 311 M 0 0 := by
  have F : Fr [] M M := Fr.refl
  refine PW.aload_n q_232_0 rfl ?_
  refine PW.iload_n q_232_1 rfl ?_
  refine PW.iload_n q_232_2 rfl ?_
  refine PW.cV (as := [_, _]) (rest := []) q_232_3 t_mv_232_302 kd_294 I.1 (by decide) rfl (by decide) rfl rfl (Nat.le_of_ble_eq_true rfl) (Nat.le_of_ble_eq_true rfl) (by decide) (by decide) ?_
  refine PW.aload_n q_198_0 rfl ?_
  refine PW.gR 296 q_198_1 (Or.inl t_ft_198_33) gF_40_6 kd_294 I.1 (by decide) rfl ?_
  refine PW.cB q_198_4 (by decide) fun c1 hc1 => ?_
  refine PW.iload_n q_198_6 rfl ?_
  refine PW.addN q_198_7 (by omega) (by omega) fun x2 hx2 => ?_
  refine PW.aH q_198_8 gA_42 kd_296 I.1 (by decide) (by omega) (by omega) fun x3 fx3 => ?_
  refine PW.aload_n q_198_9 rfl ?_
  refine PW.gR 296 q_198_10 (Or.inl t_ft_198_33) gF_40_6 kd_294 I.1 (by decide) rfl ?_
  refine PW.cB q_198_13 (by decide) fun c4 hc4 => ?_
  refine PW.iload_n q_198_15 rfl ?_
  refine PW.addN q_198_16 (by omega) (by omega) fun x5 hx5 => ?_
  refine PW.aH q_198_17 gA_42 kd_296 I.1 (by decide) (by omega) (by omega) fun x6 fx6 => ?_
  refine PW.callS (as := [_, _]) (rest := []) q_198_18 t_ms_198_244 (by decide) rfl (Nat.le_of_ble_eq_true rfl) (Nat.le_of_ble_eq_true rfl) (by decide) (by decide) ?_
  refine PW.iload_n q_170_0 rfl ?_
  refine PW.iload_n q_170_1 rfl ?_
  refine PW.jc_ge q_170_2 rfl (fun h7 => ?_) (fun h7 => ?_)
  · skip
    refine PW.iload_n q_170_11 rfl ?_
    refine PW.iload_n q_170_12 rfl ?_
    refine PW.subH q_170_13 fun x8 => ?_
    refine PW.rI q_170_14 rfl (by decide) (by decide) ?_
    refine PW.rI q_198_21 rfl (by decide) (by decide) ?_
    refine PW.i2l q_232_6 ?_
    refine PW.lstore q_232_7 (by decide) ?_
    refine PW.cI q_232_9 (by decide) fun c9 hc9 => ?_
    refine PW.istore q_232_10 (by decide) ?_
    have L232_12_10 : ∀ (n : Nat) (ML232_12_10 : pM) (v11 : Int32) (l12 : Int64), Iv (V) ML232_12_10 → Fr [] M ML232_12_10 → 0 ≤ v11.toInt → v11.toInt ≤ 6 → (gLq ML232_12_10 M ∧ gHq ML232_12_10 M) → (6 - v11.toInt).toNat = n → PW G false 2 232 (p_mc 232) (p_msl 232) Kr 12 [(0, .ref 294), (1, .int a1), (2, .int a2), (3, .int a3), (4, .int a4), (5, .long l12), (7, .int v11)] [] 311 ML232_12_10 0 0 := by
      intro n
      induction n using Nat.strongRecOn with
      | ind n ih_L232_12_10 =>
      intro ML232_12_10 v11 l12 IML232_12_10 FML232_12_10 hbL232_12_100 hbL232_12_101 hbL232_12_102 hmL232_12_10
      refine PW.iload q_232_12 rfl ?_
      refine PW.iload q_232_14 rfl ?_
      refine PW.jc_ge q_232_16 rfl (fun h13 => ?_) (fun h13 => ?_)
      · skip
        refine PW.lload q_232_53 rfl ?_
        refine PW.lret q_232_55 rfl (by decide) (by decide) ?_
        exact hK _ ML232_12_10 IML232_12_10 FML232_12_10 ⟨hbL232_12_102.1, hbL232_12_102.2⟩
      · skip
        refine PW.lload q_232_19 rfl ?_
        refine PW.iload_n q_232_21 rfl ?_
        refine PW.aload_n q_232_22 rfl ?_
        refine PW.gR 296 q_232_23 (Or.inl t_ft_232_33) gF_40_6 kd_294 IML232_12_10.1 (by decide) rfl ?_
        refine PW.cB q_232_26 (by decide) fun c14 hc14 => ?_
        refine PW.iload q_232_28 rfl ?_
        refine PW.cI q_232_30 (by decide) fun c15 hc15 => ?_
        refine PW.remP q_232_31 (by omega) (by omega) fun x16 hx16 kx16 ex16 => ?_
        clear ex16
        have J40_18 : ∀ (MJ40_18 : pM) (s19 : Int32), Iv (V) MJ40_18 → Fr [] M MJ40_18 → 0 ≤ s19.toInt → s19.toInt ≤ 5 → (gLq MJ40_18 M ∧ gHq MJ40_18 M) → PW G false 2 232 (p_mc 232) (p_msl 232) Kr 40 [(0, .ref 294), (1, .int a1), (2, .int a2), (3, .int a3), (4, .int a4), (5, .long l12), (7, .int v11)] [.int s19, .int c14, .ref 296, .int a3, .long l12] 311 MJ40_18 0 0 := by
          intro MJ40_18 s19 IMJ40_18 FMJ40_18 hbJ40_180 hbJ40_181 hbJ40_182
          refine PW.addN q_232_40 (by omega) (by omega) fun x20 hx20 => ?_
          refine PW.aI q_232_41 gA_42 kd_296 IMJ40_18.1 (by decide) gB_42_11_16 (by decide) (by omega) (by omega) fun x21 fx21 hx21 kx21 => ?_
          refine PW.subH q_232_42 fun x22 => ?_
          refine PW.i2l q_232_43 ?_
          refine PW.lmul q_232_44 ?_
          refine PW.lstore q_232_45 (by decide) ?_
          refine PW.incN q_232_47 rfl (by decide) (by decide) (by omega) (by omega) fun x23 hx23 => ?_
          refine PW.goto q_232_50 rfl ?_
          refine PW.lvS (lk1 rfl (lk1 rfl (lk1 rfl (lk1 rfl (lk1 rfl (lk1 rfl (lk1 rfl lk0))))))) (ih_L232_12_10 _ ?_ MJ40_18 x23 _ IMJ40_18 FMJ40_18 (by omega) (by omega) ⟨hbJ40_182.1, hbJ40_182.2⟩ rfl)
          omega
        refine PW.jz_ne q_232_32 rfl (fun h17 => ?_) (fun h17 => ?_)
        · skip
          refine PW.iload_n q_232_39 rfl ?_
          exact PW.lvS (lk1 rfl (lk1 rfl (lk1 rfl (lk1 rfl (lk1 rfl (lk1 rfl (lk1 rfl lk0))))))) (J40_18 ML232_12_10 a2 IML232_12_10 FML232_12_10 (by omega) (by omega) ⟨hbL232_12_102.1, hbL232_12_102.2⟩)
        · skip
          refine PW.iload_n q_232_35 rfl ?_
          refine PW.goto q_232_36 rfl ?_
          exact PW.lvS (lk1 rfl (lk1 rfl (lk1 rfl (lk1 rfl (lk1 rfl (lk1 rfl (lk1 rfl lk0))))))) (J40_18 ML232_12_10 a1 IML232_12_10 FML232_12_10 (by omega) (by omega) ⟨hbL232_12_102.1, hbL232_12_102.2⟩)
    exact PW.lvS (lk1 rfl (lk1 rfl (lk1 rfl (lk1 rfl (lk1 rfl (lk1 rfl (lk1 rfl lk0))))))) (L232_12_10 _ M c9 _ I F (by omega) (by omega) ⟨rfl, gHq.refl⟩ rfl)
  · skip
    refine PW.iload_n q_170_5 rfl ?_
    refine PW.iload_n q_170_6 rfl ?_
    refine PW.subH q_170_7 fun x24 => ?_
    refine PW.goto q_170_8 rfl ?_
    refine PW.rI q_170_14 rfl (by decide) (by decide) ?_
    refine PW.rI q_198_21 rfl (by decide) (by decide) ?_
    refine PW.i2l q_232_6 ?_
    refine PW.lstore q_232_7 (by decide) ?_
    refine PW.cI q_232_9 (by decide) fun c25 hc25 => ?_
    refine PW.istore q_232_10 (by decide) ?_
    have L232_12_26 : ∀ (n : Nat) (ML232_12_26 : pM) (v27 : Int32) (l28 : Int64), Iv (V) ML232_12_26 → Fr [] M ML232_12_26 → 0 ≤ v27.toInt → v27.toInt ≤ 6 → (gLq ML232_12_26 M ∧ gHq ML232_12_26 M) → (6 - v27.toInt).toNat = n → PW G false 2 232 (p_mc 232) (p_msl 232) Kr 12 [(0, .ref 294), (1, .int a1), (2, .int a2), (3, .int a3), (4, .int a4), (5, .long l28), (7, .int v27)] [] 311 ML232_12_26 0 0 := by
      intro n
      induction n using Nat.strongRecOn with
      | ind n ih_L232_12_26 =>
      intro ML232_12_26 v27 l28 IML232_12_26 FML232_12_26 hbL232_12_260 hbL232_12_261 hbL232_12_262 hmL232_12_26
      refine PW.iload q_232_12 rfl ?_
      refine PW.iload q_232_14 rfl ?_
      refine PW.jc_ge q_232_16 rfl (fun h29 => ?_) (fun h29 => ?_)
      · skip
        refine PW.lload q_232_53 rfl ?_
        refine PW.lret q_232_55 rfl (by decide) (by decide) ?_
        exact hK _ ML232_12_26 IML232_12_26 FML232_12_26 ⟨hbL232_12_262.1, hbL232_12_262.2⟩
      · skip
        refine PW.lload q_232_19 rfl ?_
        refine PW.iload_n q_232_21 rfl ?_
        refine PW.aload_n q_232_22 rfl ?_
        refine PW.gR 296 q_232_23 (Or.inl t_ft_232_33) gF_40_6 kd_294 IML232_12_26.1 (by decide) rfl ?_
        refine PW.cB q_232_26 (by decide) fun c30 hc30 => ?_
        refine PW.iload q_232_28 rfl ?_
        refine PW.cI q_232_30 (by decide) fun c31 hc31 => ?_
        refine PW.remP q_232_31 (by omega) (by omega) fun x32 hx32 kx32 ex32 => ?_
        clear ex32
        have J40_34 : ∀ (MJ40_34 : pM) (s35 : Int32), Iv (V) MJ40_34 → Fr [] M MJ40_34 → 0 ≤ s35.toInt → s35.toInt ≤ 5 → (gLq MJ40_34 M ∧ gHq MJ40_34 M) → PW G false 2 232 (p_mc 232) (p_msl 232) Kr 40 [(0, .ref 294), (1, .int a1), (2, .int a2), (3, .int a3), (4, .int a4), (5, .long l28), (7, .int v27)] [.int s35, .int c30, .ref 296, .int a3, .long l28] 311 MJ40_34 0 0 := by
          intro MJ40_34 s35 IMJ40_34 FMJ40_34 hbJ40_340 hbJ40_341 hbJ40_342
          refine PW.addN q_232_40 (by omega) (by omega) fun x36 hx36 => ?_
          refine PW.aI q_232_41 gA_42 kd_296 IMJ40_34.1 (by decide) gB_42_11_16 (by decide) (by omega) (by omega) fun x37 fx37 hx37 kx37 => ?_
          refine PW.subH q_232_42 fun x38 => ?_
          refine PW.i2l q_232_43 ?_
          refine PW.lmul q_232_44 ?_
          refine PW.lstore q_232_45 (by decide) ?_
          refine PW.incN q_232_47 rfl (by decide) (by decide) (by omega) (by omega) fun x39 hx39 => ?_
          refine PW.goto q_232_50 rfl ?_
          refine PW.lvS (lk1 rfl (lk1 rfl (lk1 rfl (lk1 rfl (lk1 rfl (lk1 rfl (lk1 rfl lk0))))))) (ih_L232_12_26 _ ?_ MJ40_34 x39 _ IMJ40_34 FMJ40_34 (by omega) (by omega) ⟨hbJ40_342.1, hbJ40_342.2⟩ rfl)
          omega
        refine PW.jz_ne q_232_32 rfl (fun h33 => ?_) (fun h33 => ?_)
        · skip
          refine PW.iload_n q_232_39 rfl ?_
          exact PW.lvS (lk1 rfl (lk1 rfl (lk1 rfl (lk1 rfl (lk1 rfl (lk1 rfl (lk1 rfl lk0))))))) (J40_34 ML232_12_26 a2 IML232_12_26 FML232_12_26 (by omega) (by omega) ⟨hbL232_12_262.1, hbL232_12_262.2⟩)
        · skip
          refine PW.iload_n q_232_35 rfl ?_
          refine PW.goto q_232_36 rfl ?_
          exact PW.lvS (lk1 rfl (lk1 rfl (lk1 rfl (lk1 rfl (lk1 rfl (lk1 rfl (lk1 rfl lk0))))))) (J40_34 ML232_12_26 a1 IML232_12_26 FML232_12_26 (by omega) (by omega) ⟨hbL232_12_262.1, hbL232_12_262.2⟩)
    exact PW.lvS (lk1 rfl (lk1 rfl (lk1 rfl (lk1 rfl (lk1 rfl (lk1 rfl (lk1 rfl lk0))))))) (L232_12_26 _ M c25 _ I F (by omega) (by omega) ⟨rfl, gHq.refl⟩ rfl)
theorem c_X12_belowOf (V : pM → Prop) (hV : Stab V) (G : pG) (Kr : pK) (M : pM) (I : Iv V M) (a1 : Int32) (a2 : Int32) (a3 : Int32) (a4 : Int32) (hl_a1 : 0 ≤ a1.toInt) (hh_a1 : a1.toInt ≤ 5) (hl_a2 : 0 ≤ a2.toInt) (hh_a2 : a2.toInt ≤ 5) (hl_a3 : 1 ≤ a3.toInt) (hh_a3 : a3.toInt ≤ 99) (hl_a4 : 1 ≤ a4.toInt) (hh_a4 : a4.toInt ≤ 6) (hK : ∀ (x : Int64) (M1 : pM), Iv V M1 → Fr [] M M1 → (1 ≤ x.toInt) → ((gLq M1 M) ∧ gHq M1 M) → Kr.1 (some (.long x)) 311 M1) : PW G false 0 233 (p_mc 233) (p_msl 233) Kr 0 (lv_args 0 [.ref 294, .int a1, .int a2, .int a3, .int a4]) [] 311 M 0 0 := by
  have F : Fr [] M M := Fr.refl
  refine PW.lconst q_233_0 ?_
  refine PW.nmL fun l1 el1 => ?_
  refine PW.lstore q_233_1 (by decide) ?_
  refine PW.cI q_233_3 (by decide) fun c2 hc2 => ?_
  refine PW.istore q_233_4 (by decide) ?_
  have L233_6_3 : ∀ (n : Nat) (ML233_6_3 : pM) (v4 : Int32) (l5 : Int64), Iv (V) ML233_6_3 → Fr [] M ML233_6_3 → 0 ≤ v4.toInt → v4.toInt ≤ 6 → 1 ≤ l5.toInt ∧ l5.toInt ≤ (108 : Int) ^ (v4.toInt).toNat → (gLq ML233_6_3 M ∧ gHq ML233_6_3 M) → (6 - v4.toInt).toNat = n → PW G false 0 233 (p_mc 233) (p_msl 233) Kr 6 [(0, .ref 294), (1, .int a1), (2, .int a2), (3, .int a3), (4, .int a4), (5, .long l5), (7, .int v4)] [] 311 ML233_6_3 0 0 := by
    intro n
    induction n using Nat.strongRecOn with
    | ind n ih_L233_6_3 =>
    intro ML233_6_3 v4 l5 IML233_6_3 FML233_6_3 hbL233_6_30 hbL233_6_31 hbL233_6_32 hbL233_6_33 hmL233_6_3
    refine PW.iload q_233_6 rfl ?_
    refine PW.iload q_233_8 rfl ?_
    refine PW.jc_ge q_233_10 rfl (fun h6 => ?_) (fun h6 => ?_)
    · skip
      refine PW.lload q_233_47 rfl ?_
      refine PW.lret q_233_49 rfl (by decide) (by decide) ?_
      exact hK _ ML233_6_3 IML233_6_3 FML233_6_3 (by omega) ⟨hbL233_6_33.1, hbL233_6_33.2⟩
    · skip
      refine PW.lload q_233_13 rfl ?_
      refine PW.iload_n q_233_15 rfl ?_
      refine PW.aload_n q_233_16 rfl ?_
      refine PW.gR 296 q_233_17 (Or.inl t_ft_233_33) gF_40_6 kd_294 IML233_6_3.1 (by decide) rfl ?_
      refine PW.cB q_233_20 (by decide) fun c7 hc7 => ?_
      refine PW.iload q_233_22 rfl ?_
      refine PW.cI q_233_24 (by decide) fun c8 hc8 => ?_
      refine PW.remP q_233_25 (by omega) (by omega) fun x9 hx9 kx9 ex9 => ?_
      clear ex9
      refine PW.jz_ne q_233_26 rfl (fun h10 => ?_) (fun h10 => ?_)
      · skip
        refine PW.iload_n q_233_33 rfl ?_
        refine PW.addN q_233_34 (by omega) (by omega) fun x11 hx11 => ?_
        refine PW.aI q_233_35 gA_42 kd_296 IML233_6_3.1 (by decide) gB_42_11_16 (by decide) (by omega) (by omega) fun x12 fx12 hx12 kx12 => ?_
        refine PW.addN q_233_36 (by omega) (by omega) fun x13 hx13 => ?_
        refine PW.i2l q_233_37 ?_
        refine PW.nmL fun l14 el14 => ?_
        have ill14 : l14.toInt = x13.toInt := by rw [el14]; exact n_i2l _
        refine PW.lmul q_233_38 ?_
        refine PW.nmL fun l15 el15 => ?_
        refine PW.lstore q_233_39 (by decide) ?_
        refine PW.incN q_233_41 rfl (by decide) (by decide) (by omega) (by omega) fun x16 hx16 => ?_
        refine PW.goto q_233_44 rfl ?_
        refine PW.lvS (lk1 rfl (lk1 rfl (lk1 rfl (lk1 rfl (lk1 rfl (lk1 rfl (lk1 rfl lk0))))))) (ih_L233_6_3 _ ?_ ML233_6_3 x16 _ IML233_6_3 FML233_6_3 (by omega) (by omega) (n_pw hbL233_6_32 ill14 (by omega) (by omega) el15 (by omega) (by omega) (by omega)) ⟨hbL233_6_33.1, hbL233_6_33.2⟩ rfl)
        omega
      · skip
        refine PW.iload_n q_233_29 rfl ?_
        refine PW.goto q_233_30 rfl ?_
        refine PW.addN q_233_34 (by omega) (by omega) fun x17 hx17 => ?_
        refine PW.aI q_233_35 gA_42 kd_296 IML233_6_3.1 (by decide) gB_42_11_16 (by decide) (by omega) (by omega) fun x18 fx18 hx18 kx18 => ?_
        refine PW.addN q_233_36 (by omega) (by omega) fun x19 hx19 => ?_
        refine PW.i2l q_233_37 ?_
        refine PW.nmL fun l20 el20 => ?_
        have ill20 : l20.toInt = x19.toInt := by rw [el20]; exact n_i2l _
        refine PW.lmul q_233_38 ?_
        refine PW.nmL fun l21 el21 => ?_
        refine PW.lstore q_233_39 (by decide) ?_
        refine PW.incN q_233_41 rfl (by decide) (by decide) (by omega) (by omega) fun x22 hx22 => ?_
        refine PW.goto q_233_44 rfl ?_
        refine PW.lvS (lk1 rfl (lk1 rfl (lk1 rfl (lk1 rfl (lk1 rfl (lk1 rfl (lk1 rfl lk0))))))) (ih_L233_6_3 _ ?_ ML233_6_3 x22 _ IML233_6_3 FML233_6_3 (by omega) (by omega) (n_pw hbL233_6_32 ill20 (by omega) (by omega) el21 (by omega) (by omega) (by omega)) ⟨hbL233_6_33.1, hbL233_6_33.2⟩ rfl)
        omega
  exact PW.lvS (lk1 rfl (lk1 rfl (lk1 rfl (lk1 rfl (lk1 rfl (lk1 rfl (lk1 rfl lk0))))))) (L233_6_3 _ M c2 _ I F (by omega) (by omega) ⟨by rw [el1]; decide, by rw [el1, hc2]; decide⟩ ⟨rfl, gHq.refl⟩ rfl)
theorem c_X12_far (G : pG) (Kr : pK) (M : pM) (I : Iv gTT M) (a1 : Int32) (a2 : Int32) (a3 : Int32) (a4 : Int32) (hK : ∀ (x : Int32) (M1 : pM), Iv gTT M1 → Fr [40] M M1 → ((gLq M1 M) ∧ gHq M1 M) → Kr.1 (some (.int x)) 311 M1) : PW G false 4 234 (p_mc 234) (p_msl 234) Kr 0 (lv_args 0 [.ref 294, .int a1, .int a2, .int a3, .int a4]) [] 311 M 0 0 := by
  have F : Fr [40] M M := Fr.refl
  refine PW.aload_n q_234_0 rfl ?_
  refine PW.aload_n q_234_1 rfl ?_
  refine PW.iload_n q_234_2 rfl ?_
  refine PW.iload_n q_234_3 rfl ?_
  refine PW.iload_n q_234_4 rfl ?_
  refine PW.cV (as := [_, _, _]) (rest := [_]) q_234_5 t_mv_234_314 kd_294 I.1 (by decide) rfl (by decide) rfl rfl (Nat.le_of_ble_eq_true rfl) (Nat.le_of_ble_eq_true rfl) (by decide) (by decide) ?_
  refine PW.up (by decide) (c_X12_isBetween (gTT) (Stab0) G _ M I a1 a2 a3 fun x2 M1 IM1 GM1 hx2 kx2 PM1 TM1 => ?_)
  have FM1 := Fr.trans F GM1 (rfl)
  refine PW.jz_eq q_234_8 rfl (fun h3 => ?_) (fun h3 => ?_)
  · skip
    refine PW.cI q_234_21 (by decide) fun c4 hc4 => ?_
    refine PW.goto q_234_22 rfl ?_
    refine PW.cV (as := [_]) (rest := []) q_234_26 t_mv_234_247 kd_294 IM1.1 (by decide) rfl (by decide) rfl rfl (Nat.le_of_ble_eq_true rfl) (Nat.le_of_ble_eq_true rfl) (by decide) (by decide) ?_
    refine PW.up (by decide) (c_X12_throwsIf (gTT) (Stab0) G _ M1 IM1 c4 (by omega) (by omega) fun x6 M5 IM5 GM5 hx6 kx6 PM5 TM5 => ?_)
    have FM5 := Fr.trans FM1 GM5 (rfl)
    refine PW.jz_eq q_234_29 rfl (fun h7 => False.elim (by omega)) (fun h7 => ?_)
    refine PW.cI q_234_32 (by decide) fun c8 hc8 => ?_
    refine PW.rI q_234_33 rfl (by decide) (by decide) ?_
    exact hK c8 M5 IM5 FM5 ⟨(TM5.1.trans (congrArg (fun e => o_i e 2) (Fr.at GM1 kd_294 rfl))), ((gHq.refl.cg (Fr.at GM1 kd_296 rfl) (Fr.at GM1 kd_294 rfl)).tr TM5.2)⟩
  · skip
    refine PW.iload q_234_11 rfl ?_
    refine PW.cI q_234_13 (by decide) fun c9 hc9 => ?_
    refine PW.cI q_234_14 (by decide) fun c10 hc10 => ?_
    refine PW.callS (as := [_, _, _]) (rest := [_]) q_234_15 t_ms_234_176 (by decide) rfl (Nat.le_of_ble_eq_true rfl) (Nat.le_of_ble_eq_true rfl) (by decide) (by decide) ?_
    refine PW.iload_n q_166_0 rfl ?_
    refine PW.iload_n q_166_1 rfl ?_
    refine PW.jc_lt q_166_2 rfl (fun h11 => ?_) (fun h11 => ?_)
    · skip
      refine PW.cI q_166_14 (by decide) fun c12 hc12 => ?_
      refine PW.rZ q_166_15 rfl (by omega) (by omega) (by decide) (by decide) ?_
      refine PW.jz_ne q_234_18 rfl (fun h13 => False.elim (by omega)) (fun h13 => ?_)
      refine PW.cI q_234_21 (by decide) fun c14 hc14 => ?_
      refine PW.goto q_234_22 rfl ?_
      refine PW.cV (as := [_]) (rest := []) q_234_26 t_mv_234_247 kd_294 IM1.1 (by decide) rfl (by decide) rfl rfl (Nat.le_of_ble_eq_true rfl) (Nat.le_of_ble_eq_true rfl) (by decide) (by decide) ?_
      refine PW.up (by decide) (c_X12_throwsIf (gTT) (Stab0) G _ M1 IM1 c14 (by omega) (by omega) fun x16 M15 IM15 GM15 hx16 kx16 PM15 TM15 => ?_)
      have FM15 := Fr.trans FM1 GM15 (rfl)
      refine PW.jz_eq q_234_29 rfl (fun h17 => False.elim (by omega)) (fun h17 => ?_)
      refine PW.cI q_234_32 (by decide) fun c18 hc18 => ?_
      refine PW.rI q_234_33 rfl (by decide) (by decide) ?_
      exact hK c18 M15 IM15 FM15 ⟨(TM15.1.trans (congrArg (fun e => o_i e 2) (Fr.at GM1 kd_294 rfl))), ((gHq.refl.cg (Fr.at GM1 kd_296 rfl) (Fr.at GM1 kd_294 rfl)).tr TM15.2)⟩
    · skip
      refine PW.iload_n q_166_5 rfl ?_
      refine PW.iload_n q_166_6 rfl ?_
      refine PW.jc_gt q_166_7 rfl (fun h19 => ?_) (fun h19 => ?_)
      · skip
        refine PW.cI q_166_14 (by decide) fun c20 hc20 => ?_
        refine PW.rZ q_166_15 rfl (by omega) (by omega) (by decide) (by decide) ?_
        refine PW.jz_ne q_234_18 rfl (fun h21 => False.elim (by omega)) (fun h21 => ?_)
        refine PW.cI q_234_21 (by decide) fun c22 hc22 => ?_
        refine PW.goto q_234_22 rfl ?_
        refine PW.cV (as := [_]) (rest := []) q_234_26 t_mv_234_247 kd_294 IM1.1 (by decide) rfl (by decide) rfl rfl (Nat.le_of_ble_eq_true rfl) (Nat.le_of_ble_eq_true rfl) (by decide) (by decide) ?_
        refine PW.up (by decide) (c_X12_throwsIf (gTT) (Stab0) G _ M1 IM1 c22 (by omega) (by omega) fun x24 M23 IM23 GM23 hx24 kx24 PM23 TM23 => ?_)
        have FM23 := Fr.trans FM1 GM23 (rfl)
        refine PW.jz_eq q_234_29 rfl (fun h25 => False.elim (by omega)) (fun h25 => ?_)
        refine PW.cI q_234_32 (by decide) fun c26 hc26 => ?_
        refine PW.rI q_234_33 rfl (by decide) (by decide) ?_
        exact hK c26 M23 IM23 FM23 ⟨(TM23.1.trans (congrArg (fun e => o_i e 2) (Fr.at GM1 kd_294 rfl))), ((gHq.refl.cg (Fr.at GM1 kd_296 rfl) (Fr.at GM1 kd_294 rfl)).tr TM23.2)⟩
      · skip
        refine PW.cI q_166_10 (by decide) fun c27 hc27 => ?_
        refine PW.goto q_166_11 rfl ?_
        refine PW.rZ q_166_15 rfl (by omega) (by omega) (by decide) (by decide) ?_
        refine PW.jz_ne q_234_18 rfl (fun h28 => ?_) (fun h28 => False.elim (by omega))
        refine PW.cI q_234_25 (by decide) fun c29 hc29 => ?_
        refine PW.cV (as := [_]) (rest := []) q_234_26 t_mv_234_247 kd_294 IM1.1 (by decide) rfl (by decide) rfl rfl (Nat.le_of_ble_eq_true rfl) (Nat.le_of_ble_eq_true rfl) (by decide) (by decide) ?_
        refine PW.up (by decide) (c_X12_throwsIf (gTT) (Stab0) G _ M1 IM1 c29 (by omega) (by omega) fun x31 M30 IM30 GM30 hx31 kx31 PM30 TM30 => ?_)
        have FM30 := Fr.trans FM1 GM30 (rfl)
        refine PW.jz_eq q_234_29 rfl (fun h32 => ?_) (fun h32 => False.elim (by omega))
        refine PW.iload_n q_234_34 rfl ?_
        refine PW.i2l q_234_35 ?_
        refine PW.nmL fun l33 el33 => ?_
        have ill33 : l33.toInt = a3.toInt := by rw [el33]; exact n_i2l _
        refine PW.aload_n q_234_36 rfl ?_
        refine PW.iload_n q_234_37 rfl ?_
        refine PW.iload_n q_234_38 rfl ?_
        refine PW.cV (as := [_, _]) (rest := [_]) q_234_39 t_mv_234_302 kd_294 IM30.1 (by decide) rfl (by decide) rfl rfl (Nat.le_of_ble_eq_true rfl) (Nat.le_of_ble_eq_true rfl) (by decide) (by decide) ?_
        refine PW.aload_n q_198_0 rfl ?_
        refine PW.gR 296 q_198_1 (Or.inl t_ft_198_33) gF_40_6 kd_294 IM30.1 (by decide) rfl ?_
        refine PW.cB q_198_4 (by decide) fun c34 hc34 => ?_
        refine PW.iload_n q_198_6 rfl ?_
        refine PW.addN q_198_7 (by have := n_lo a1; have := n_hi a1; omega) (by have := n_lo a1; have := n_hi a1; omega) fun x35 hx35 => ?_
        refine PW.aH q_198_8 gA_42 kd_296 IM30.1 (by decide) (by omega) (by omega) fun x36 fx36 => ?_
        refine PW.aload_n q_198_9 rfl ?_
        refine PW.gR 296 q_198_10 (Or.inl t_ft_198_33) gF_40_6 kd_294 IM30.1 (by decide) rfl ?_
        refine PW.cB q_198_13 (by decide) fun c37 hc37 => ?_
        refine PW.iload_n q_198_15 rfl ?_
        refine PW.addN q_198_16 (by have := n_lo a2; have := n_hi a2; omega) (by have := n_lo a2; have := n_hi a2; omega) fun x38 hx38 => ?_
        refine PW.aH q_198_17 gA_42 kd_296 IM30.1 (by decide) (by omega) (by omega) fun x39 fx39 => ?_
        refine PW.callS (as := [_, _]) (rest := []) q_198_18 t_ms_198_244 (by decide) rfl (Nat.le_of_ble_eq_true rfl) (Nat.le_of_ble_eq_true rfl) (by decide) (by decide) ?_
        refine PW.iload_n q_170_0 rfl ?_
        refine PW.iload_n q_170_1 rfl ?_
        refine PW.jc_ge q_170_2 rfl (fun h40 => ?_) (fun h40 => ?_)
        · skip
          refine PW.iload_n q_170_11 rfl ?_
          refine PW.iload_n q_170_12 rfl ?_
          refine PW.subH q_170_13 fun x41 => ?_
          refine PW.rI q_170_14 rfl (by decide) (by decide) ?_
          refine PW.rI q_198_21 rfl (by decide) (by decide) ?_
          refine PW.i2l q_234_42 ?_
          refine PW.nmL fun l42 el42 => ?_
          have ill42 : l42.toInt = x41.toInt := by rw [el42]; exact n_i2l _
          refine PW.lmul q_234_43 ?_
          refine PW.nmL fun l43 el43 => ?_
          refine PW.aload_n q_234_44 rfl ?_
          refine PW.gR 296 q_234_45 (Or.inl t_ft_234_33) gF_40_6 kd_294 IM30.1 (by decide) rfl ?_
          refine PW.cB q_234_48 (by decide) fun c44 hc44 => ?_
          refine PW.iload_n q_234_50 rfl ?_
          refine PW.addN q_234_51 (by have := n_lo a1; have := n_hi a1; omega) (by have := n_lo a1; have := n_hi a1; omega) fun x45 hx45 => ?_
          refine PW.aI q_234_52 gA_42 kd_296 IM30.1 (by decide) gB_42_11_16 (by decide) (by omega) (by omega) fun x46 fx46 hx46 kx46 => ?_
          have tp47 : (o_a (M 296) (11 + a1.toInt).toNat).toInt = x46.toInt := by rw [← Fr.at FM30 kd_296 rfl, show (11 + a1.toInt).toNat = x45.toInt.toNat from by omega, fx46]
          refine PW.aload_n q_234_53 rfl ?_
          refine PW.gR 296 q_234_54 (Or.inl t_ft_234_33) gF_40_6 kd_294 IM30.1 (by decide) rfl ?_
          refine PW.cB q_234_57 (by decide) fun c48 hc48 => ?_
          refine PW.iload_n q_234_59 rfl ?_
          refine PW.addN q_234_60 (by have := n_lo a2; have := n_hi a2; omega) (by have := n_lo a2; have := n_hi a2; omega) fun x49 hx49 => ?_
          refine PW.aI q_234_61 gA_42 kd_296 IM30.1 (by decide) gB_42_11_16 (by decide) (by omega) (by omega) fun x50 fx50 hx50 kx50 => ?_
          have tp51 : (o_a (M 296) (11 + a2.toInt).toNat).toInt = x50.toInt := by rw [← Fr.at FM30 kd_296 rfl, show (11 + a2.toInt).toNat = x49.toInt.toNat from by omega, fx50]
          refine PW.addN q_234_62 (by omega) (by omega) fun x52 hx52 => ?_
          refine PW.i2l q_234_63 ?_
          refine PW.nmL fun l53 el53 => ?_
          have ill53 : l53.toInt = x52.toInt := by rw [el53]; exact n_i2l _
          refine PW.iload q_234_64 rfl ?_
          refine PW.callS (as := [_, _, _]) (rest := []) q_234_66 t_ms_234_317 (by decide) rfl (Nat.le_of_ble_eq_true rfl) (Nat.le_of_ble_eq_true rfl) (by decide) (by decide) ?_
          refine PW.up (by decide) (c_X12_part (gTT) (Stab0) G _ M30 IM30 l43 l53 a4 (by omega) fun l55 M54 IM54 GM54 => ?_)
          have FM54 := Fr.trans FM30 GM54 (rfl)
          refine PW.l2i q_234_69 ?_
          refine PW.hvI fun x56 => ?_
          refine PW.rI q_234_70 rfl (by decide) (by decide) ?_
          exact hK x56 M54 IM54 FM54 ⟨((congrArg (fun e => o_i e 2) (Fr.at GM54 kd_294 rfl)).trans (TM30.1.trans (congrArg (fun e => o_i e 2) (Fr.at GM1 kd_294 rfl)))), (((gHq.refl.cg (Fr.at GM1 kd_296 rfl) (Fr.at GM1 kd_294 rfl)).tr TM30.2).cg (Fr.at GM54 kd_296 rfl) (Fr.at GM54 kd_294 rfl))⟩
        · skip
          refine PW.iload_n q_170_5 rfl ?_
          refine PW.iload_n q_170_6 rfl ?_
          refine PW.subH q_170_7 fun x57 => ?_
          refine PW.goto q_170_8 rfl ?_
          refine PW.rI q_170_14 rfl (by decide) (by decide) ?_
          refine PW.rI q_198_21 rfl (by decide) (by decide) ?_
          refine PW.i2l q_234_42 ?_
          refine PW.nmL fun l58 el58 => ?_
          have ill58 : l58.toInt = x57.toInt := by rw [el58]; exact n_i2l _
          refine PW.lmul q_234_43 ?_
          refine PW.nmL fun l59 el59 => ?_
          refine PW.aload_n q_234_44 rfl ?_
          refine PW.gR 296 q_234_45 (Or.inl t_ft_234_33) gF_40_6 kd_294 IM30.1 (by decide) rfl ?_
          refine PW.cB q_234_48 (by decide) fun c60 hc60 => ?_
          refine PW.iload_n q_234_50 rfl ?_
          refine PW.addN q_234_51 (by have := n_lo a1; have := n_hi a1; omega) (by have := n_lo a1; have := n_hi a1; omega) fun x61 hx61 => ?_
          refine PW.aI q_234_52 gA_42 kd_296 IM30.1 (by decide) gB_42_11_16 (by decide) (by omega) (by omega) fun x62 fx62 hx62 kx62 => ?_
          have tp63 : (o_a (M 296) (11 + a1.toInt).toNat).toInt = x62.toInt := by rw [← Fr.at FM30 kd_296 rfl, show (11 + a1.toInt).toNat = x61.toInt.toNat from by omega, fx62]
          refine PW.aload_n q_234_53 rfl ?_
          refine PW.gR 296 q_234_54 (Or.inl t_ft_234_33) gF_40_6 kd_294 IM30.1 (by decide) rfl ?_
          refine PW.cB q_234_57 (by decide) fun c64 hc64 => ?_
          refine PW.iload_n q_234_59 rfl ?_
          refine PW.addN q_234_60 (by have := n_lo a2; have := n_hi a2; omega) (by have := n_lo a2; have := n_hi a2; omega) fun x65 hx65 => ?_
          refine PW.aI q_234_61 gA_42 kd_296 IM30.1 (by decide) gB_42_11_16 (by decide) (by omega) (by omega) fun x66 fx66 hx66 kx66 => ?_
          have tp67 : (o_a (M 296) (11 + a2.toInt).toNat).toInt = x66.toInt := by rw [← Fr.at FM30 kd_296 rfl, show (11 + a2.toInt).toNat = x65.toInt.toNat from by omega, fx66]
          refine PW.addN q_234_62 (by omega) (by omega) fun x68 hx68 => ?_
          refine PW.i2l q_234_63 ?_
          refine PW.nmL fun l69 el69 => ?_
          have ill69 : l69.toInt = x68.toInt := by rw [el69]; exact n_i2l _
          refine PW.iload q_234_64 rfl ?_
          refine PW.callS (as := [_, _, _]) (rest := []) q_234_66 t_ms_234_317 (by decide) rfl (Nat.le_of_ble_eq_true rfl) (Nat.le_of_ble_eq_true rfl) (by decide) (by decide) ?_
          refine PW.up (by decide) (c_X12_part (gTT) (Stab0) G _ M30 IM30 l59 l69 a4 (by omega) fun l71 M70 IM70 GM70 => ?_)
          have FM70 := Fr.trans FM30 GM70 (rfl)
          refine PW.l2i q_234_69 ?_
          refine PW.hvI fun x72 => ?_
          refine PW.rI q_234_70 rfl (by decide) (by decide) ?_
          exact hK x72 M70 IM70 FM70 ⟨((congrArg (fun e => o_i e 2) (Fr.at GM70 kd_294 rfl)).trans (TM30.1.trans (congrArg (fun e => o_i e 2) (Fr.at GM1 kd_294 rfl)))), (((gHq.refl.cg (Fr.at GM1 kd_296 rfl) (Fr.at GM1 kd_294 rfl)).tr TM30.2).cg (Fr.at GM70 kd_296 rfl) (Fr.at GM70 kd_294 rfl))⟩
theorem c_X12_near (G : pG) (Kr : pK) (M : pM) (I : Iv gTT M) (a1 : Int32) (a2 : Int32) (a3 : Int32) (a4 : Int32) (a5 : Int32) (hK : ∀ (x : Int64) (M1 : pM), Iv gTT M1 → Fr [40] M M1 → ((gLq M1 M) ∧ gHq M1 M) → Kr.1 (some (.long x)) 311 M1) : PW G false 4 235 (p_mc 235) (p_msl 235) Kr 0 (lv_args 0 [.ref 294, .int a1, .int a2, .int a3, .int a4, .int a5]) [] 311 M 0 0 := by
  have F : Fr [40] M M := Fr.refl
  refine PW.aload_n q_235_0 rfl ?_
  refine PW.aload_n q_235_1 rfl ?_
  refine PW.iload_n q_235_2 rfl ?_
  refine PW.iload_n q_235_3 rfl ?_
  refine PW.iload_n q_235_4 rfl ?_
  refine PW.cV (as := [_, _, _]) (rest := [_]) q_235_5 t_mv_235_314 kd_294 I.1 (by decide) rfl (by decide) rfl rfl (Nat.le_of_ble_eq_true rfl) (Nat.le_of_ble_eq_true rfl) (by decide) (by decide) ?_
  refine PW.up (by decide) (c_X12_isBetween (gTT) (Stab0) G _ M I a1 a2 a3 fun x2 M1 IM1 GM1 hx2 kx2 PM1 TM1 => ?_)
  have FM1 := Fr.trans F GM1 (rfl)
  refine PW.jz_eq q_235_8 rfl (fun h3 => ?_) (fun h3 => ?_)
  · skip
    refine PW.cI q_235_32 (by decide) fun c4 hc4 => ?_
    refine PW.goto q_235_33 rfl ?_
    refine PW.cV (as := [_]) (rest := []) q_235_37 t_mv_235_247 kd_294 IM1.1 (by decide) rfl (by decide) rfl rfl (Nat.le_of_ble_eq_true rfl) (Nat.le_of_ble_eq_true rfl) (by decide) (by decide) ?_
    refine PW.up (by decide) (c_X12_throwsIf (gTT) (Stab0) G _ M1 IM1 c4 (by omega) (by omega) fun x6 M5 IM5 GM5 hx6 kx6 PM5 TM5 => ?_)
    have FM5 := Fr.trans FM1 GM5 (rfl)
    refine PW.jz_eq q_235_40 rfl (fun h7 => False.elim (by omega)) (fun h7 => ?_)
    refine PW.lconst q_235_43 ?_
    refine PW.nmL fun l8 el8 => ?_
    refine PW.lret q_235_44 rfl (by decide) (by decide) ?_
    exact hK _ M5 IM5 FM5 ⟨(TM5.1.trans (congrArg (fun e => o_i e 2) (Fr.at GM1 kd_294 rfl))), ((gHq.refl.cg (Fr.at GM1 kd_296 rfl) (Fr.at GM1 kd_294 rfl)).tr TM5.2)⟩
  · skip
    refine PW.iload q_235_11 rfl ?_
    refine PW.cI q_235_13 (by decide) fun c9 hc9 => ?_
    refine PW.cB q_235_14 (by decide) fun c10 hc10 => ?_
    refine PW.callS (as := [_, _, _]) (rest := [_]) q_235_16 t_ms_235_176 (by decide) rfl (Nat.le_of_ble_eq_true rfl) (Nat.le_of_ble_eq_true rfl) (by decide) (by decide) ?_
    refine PW.iload_n q_166_0 rfl ?_
    refine PW.iload_n q_166_1 rfl ?_
    refine PW.jc_lt q_166_2 rfl (fun h11 => ?_) (fun h11 => ?_)
    · skip
      refine PW.cI q_166_14 (by decide) fun c12 hc12 => ?_
      refine PW.rZ q_166_15 rfl (by omega) (by omega) (by decide) (by decide) ?_
      refine PW.jz_eq q_235_19 rfl (fun h13 => ?_) (fun h13 => False.elim (by omega))
      refine PW.cI q_235_32 (by decide) fun c14 hc14 => ?_
      refine PW.goto q_235_33 rfl ?_
      refine PW.cV (as := [_]) (rest := []) q_235_37 t_mv_235_247 kd_294 IM1.1 (by decide) rfl (by decide) rfl rfl (Nat.le_of_ble_eq_true rfl) (Nat.le_of_ble_eq_true rfl) (by decide) (by decide) ?_
      refine PW.up (by decide) (c_X12_throwsIf (gTT) (Stab0) G _ M1 IM1 c14 (by omega) (by omega) fun x16 M15 IM15 GM15 hx16 kx16 PM15 TM15 => ?_)
      have FM15 := Fr.trans FM1 GM15 (rfl)
      refine PW.jz_eq q_235_40 rfl (fun h17 => False.elim (by omega)) (fun h17 => ?_)
      refine PW.lconst q_235_43 ?_
      refine PW.nmL fun l18 el18 => ?_
      refine PW.lret q_235_44 rfl (by decide) (by decide) ?_
      exact hK _ M15 IM15 FM15 ⟨(TM15.1.trans (congrArg (fun e => o_i e 2) (Fr.at GM1 kd_294 rfl))), ((gHq.refl.cg (Fr.at GM1 kd_296 rfl) (Fr.at GM1 kd_294 rfl)).tr TM15.2)⟩
    · skip
      refine PW.iload_n q_166_5 rfl ?_
      refine PW.iload_n q_166_6 rfl ?_
      refine PW.jc_gt q_166_7 rfl (fun h19 => ?_) (fun h19 => ?_)
      · skip
        refine PW.cI q_166_14 (by decide) fun c20 hc20 => ?_
        refine PW.rZ q_166_15 rfl (by omega) (by omega) (by decide) (by decide) ?_
        refine PW.jz_eq q_235_19 rfl (fun h21 => ?_) (fun h21 => False.elim (by omega))
        refine PW.cI q_235_32 (by decide) fun c22 hc22 => ?_
        refine PW.goto q_235_33 rfl ?_
        refine PW.cV (as := [_]) (rest := []) q_235_37 t_mv_235_247 kd_294 IM1.1 (by decide) rfl (by decide) rfl rfl (Nat.le_of_ble_eq_true rfl) (Nat.le_of_ble_eq_true rfl) (by decide) (by decide) ?_
        refine PW.up (by decide) (c_X12_throwsIf (gTT) (Stab0) G _ M1 IM1 c22 (by omega) (by omega) fun x24 M23 IM23 GM23 hx24 kx24 PM23 TM23 => ?_)
        have FM23 := Fr.trans FM1 GM23 (rfl)
        refine PW.jz_eq q_235_40 rfl (fun h25 => False.elim (by omega)) (fun h25 => ?_)
        refine PW.lconst q_235_43 ?_
        refine PW.nmL fun l26 el26 => ?_
        refine PW.lret q_235_44 rfl (by decide) (by decide) ?_
        exact hK _ M23 IM23 FM23 ⟨(TM23.1.trans (congrArg (fun e => o_i e 2) (Fr.at GM1 kd_294 rfl))), ((gHq.refl.cg (Fr.at GM1 kd_296 rfl) (Fr.at GM1 kd_294 rfl)).tr TM23.2)⟩
      · skip
        refine PW.cI q_166_10 (by decide) fun c27 hc27 => ?_
        refine PW.goto q_166_11 rfl ?_
        refine PW.rZ q_166_15 rfl (by omega) (by omega) (by decide) (by decide) ?_
        refine PW.jz_eq q_235_19 rfl (fun h28 => False.elim (by omega)) (fun h28 => ?_)
        refine PW.iload q_235_22 rfl ?_
        refine PW.cI q_235_24 (by decide) fun c29 hc29 => ?_
        refine PW.cI q_235_25 (by decide) fun c30 hc30 => ?_
        refine PW.callS (as := [_, _, _]) (rest := [_]) q_235_26 t_ms_235_176 (by decide) rfl (Nat.le_of_ble_eq_true rfl) (Nat.le_of_ble_eq_true rfl) (by decide) (by decide) ?_
        refine PW.iload_n q_166_0 rfl ?_
        refine PW.iload_n q_166_1 rfl ?_
        refine PW.jc_lt q_166_2 rfl (fun h31 => ?_) (fun h31 => ?_)
        · skip
          refine PW.cI q_166_14 (by decide) fun c32 hc32 => ?_
          refine PW.rZ q_166_15 rfl (by omega) (by omega) (by decide) (by decide) ?_
          refine PW.jz_ne q_235_29 rfl (fun h33 => False.elim (by omega)) (fun h33 => ?_)
          refine PW.cI q_235_32 (by decide) fun c34 hc34 => ?_
          refine PW.goto q_235_33 rfl ?_
          refine PW.cV (as := [_]) (rest := []) q_235_37 t_mv_235_247 kd_294 IM1.1 (by decide) rfl (by decide) rfl rfl (Nat.le_of_ble_eq_true rfl) (Nat.le_of_ble_eq_true rfl) (by decide) (by decide) ?_
          refine PW.up (by decide) (c_X12_throwsIf (gTT) (Stab0) G _ M1 IM1 c34 (by omega) (by omega) fun x36 M35 IM35 GM35 hx36 kx36 PM35 TM35 => ?_)
          have FM35 := Fr.trans FM1 GM35 (rfl)
          refine PW.jz_eq q_235_40 rfl (fun h37 => False.elim (by omega)) (fun h37 => ?_)
          refine PW.lconst q_235_43 ?_
          refine PW.nmL fun l38 el38 => ?_
          refine PW.lret q_235_44 rfl (by decide) (by decide) ?_
          exact hK _ M35 IM35 FM35 ⟨(TM35.1.trans (congrArg (fun e => o_i e 2) (Fr.at GM1 kd_294 rfl))), ((gHq.refl.cg (Fr.at GM1 kd_296 rfl) (Fr.at GM1 kd_294 rfl)).tr TM35.2)⟩
        · skip
          refine PW.iload_n q_166_5 rfl ?_
          refine PW.iload_n q_166_6 rfl ?_
          refine PW.jc_gt q_166_7 rfl (fun h39 => ?_) (fun h39 => ?_)
          · skip
            refine PW.cI q_166_14 (by decide) fun c40 hc40 => ?_
            refine PW.rZ q_166_15 rfl (by omega) (by omega) (by decide) (by decide) ?_
            refine PW.jz_ne q_235_29 rfl (fun h41 => False.elim (by omega)) (fun h41 => ?_)
            refine PW.cI q_235_32 (by decide) fun c42 hc42 => ?_
            refine PW.goto q_235_33 rfl ?_
            refine PW.cV (as := [_]) (rest := []) q_235_37 t_mv_235_247 kd_294 IM1.1 (by decide) rfl (by decide) rfl rfl (Nat.le_of_ble_eq_true rfl) (Nat.le_of_ble_eq_true rfl) (by decide) (by decide) ?_
            refine PW.up (by decide) (c_X12_throwsIf (gTT) (Stab0) G _ M1 IM1 c42 (by omega) (by omega) fun x44 M43 IM43 GM43 hx44 kx44 PM43 TM43 => ?_)
            have FM43 := Fr.trans FM1 GM43 (rfl)
            refine PW.jz_eq q_235_40 rfl (fun h45 => False.elim (by omega)) (fun h45 => ?_)
            refine PW.lconst q_235_43 ?_
            refine PW.nmL fun l46 el46 => ?_
            refine PW.lret q_235_44 rfl (by decide) (by decide) ?_
            exact hK _ M43 IM43 FM43 ⟨(TM43.1.trans (congrArg (fun e => o_i e 2) (Fr.at GM1 kd_294 rfl))), ((gHq.refl.cg (Fr.at GM1 kd_296 rfl) (Fr.at GM1 kd_294 rfl)).tr TM43.2)⟩
          · skip
            refine PW.cI q_166_10 (by decide) fun c47 hc47 => ?_
            refine PW.goto q_166_11 rfl ?_
            refine PW.rZ q_166_15 rfl (by omega) (by omega) (by decide) (by decide) ?_
            refine PW.jz_ne q_235_29 rfl (fun h48 => ?_) (fun h48 => False.elim (by omega))
            refine PW.cI q_235_36 (by decide) fun c49 hc49 => ?_
            refine PW.cV (as := [_]) (rest := []) q_235_37 t_mv_235_247 kd_294 IM1.1 (by decide) rfl (by decide) rfl rfl (Nat.le_of_ble_eq_true rfl) (Nat.le_of_ble_eq_true rfl) (by decide) (by decide) ?_
            refine PW.up (by decide) (c_X12_throwsIf (gTT) (Stab0) G _ M1 IM1 c49 (by omega) (by omega) fun x51 M50 IM50 GM50 hx51 kx51 PM50 TM50 => ?_)
            have FM50 := Fr.trans FM1 GM50 (rfl)
            refine PW.jz_eq q_235_40 rfl (fun h52 => ?_) (fun h52 => False.elim (by omega))
            refine PW.aload_n q_235_45 rfl ?_
            refine PW.iload_n q_235_46 rfl ?_
            refine PW.iload_n q_235_47 rfl ?_
            refine PW.iload_n q_235_48 rfl ?_
            refine PW.iload q_235_49 rfl ?_
            refine PW.cV (as := [_, _, _, _]) (rest := []) q_235_51 t_mv_235_321 kd_294 IM50.1 (by decide) rfl (by decide) rfl rfl (Nat.le_of_ble_eq_true rfl) (Nat.le_of_ble_eq_true rfl) (by decide) (by decide) ?_
            refine PW.up (by decide) (c_X12_upOf (gTT) (Stab0) G _ M50 IM50 a1 a2 a3 a4 (by omega) (by omega) (by omega) (by omega) (by omega) (by omega) fun l54 M53 IM53 GM53 TM53 => ?_)
            have FM53 := Fr.trans FM50 GM53 (rfl)
            refine PW.aload_n q_235_54 rfl ?_
            refine PW.iload_n q_235_55 rfl ?_
            refine PW.iload_n q_235_56 rfl ?_
            refine PW.iload_n q_235_57 rfl ?_
            refine PW.iload q_235_58 rfl ?_
            refine PW.cV (as := [_, _, _, _]) (rest := [_]) q_235_60 t_mv_235_325 kd_294 IM53.1 (by decide) rfl (by decide) rfl rfl (Nat.le_of_ble_eq_true rfl) (Nat.le_of_ble_eq_true rfl) (by decide) (by decide) ?_
            refine PW.up (by decide) (c_X12_belowOf (gTT) (Stab0) G _ M53 IM53 a1 a2 a3 a4 (by omega) (by omega) (by omega) (by omega) (by omega) (by omega) (by omega) (by omega) fun l56 M55 IM55 GM55 PM55 TM55 => ?_)
            have FM55 := Fr.trans FM53 GM55 (rfl)
            refine PW.iload q_235_63 rfl ?_
            refine PW.callS (as := [_, _, _]) (rest := []) q_235_65 t_ms_235_317 (by decide) rfl (Nat.le_of_ble_eq_true rfl) (Nat.le_of_ble_eq_true rfl) (by decide) (by decide) ?_
            refine PW.up (by decide) (c_X12_part (gTT) (Stab0) G _ M55 IM55 l54 l56 a5 (by omega) fun l58 M57 IM57 GM57 => ?_)
            have FM57 := Fr.trans FM55 GM57 (rfl)
            refine PW.lret q_235_68 rfl (by decide) (by decide) ?_
            exact hK _ M57 IM57 FM57 ⟨((congrArg (fun e => o_i e 2) (Fr.at GM57 kd_294 rfl)).trans ((congrArg (fun e => o_i e 2) (Fr.at GM55 kd_294 rfl)).trans ((congrArg (fun e => o_i e 2) (Fr.at GM53 kd_294 rfl)).trans (TM50.1.trans (congrArg (fun e => o_i e 2) (Fr.at GM1 kd_294 rfl)))))), (((((gHq.refl.cg (Fr.at GM1 kd_296 rfl) (Fr.at GM1 kd_294 rfl)).tr TM50.2).cg (Fr.at GM53 kd_296 rfl) (Fr.at GM53 kd_294 rfl)).cg (Fr.at GM55 kd_296 rfl) (Fr.at GM55 kd_294 rfl)).cg (Fr.at GM57 kd_296 rfl) (Fr.at GM57 kd_294 rfl))⟩
theorem c_X12_ends (G : pG) (Kr : pK) (M : pM) (I : Iv gTT M) (a1 : Int32) (a2 : Int32) (a3 : Int32) (hK : ∀ (x : Int32) (M1 : pM), Iv gTT M1 → Fr [40] M M1 → ((gLq M1 M) ∧ gHq M1 M) → Kr.1 (some (.int x)) 311 M1) : PW G false 4 236 (p_mc 236) (p_msl 236) Kr 0 (lv_args 0 [.ref 294, .int a1, .int a2, .int a3]) [] 311 M 0 0 := by
  have F : Fr [40] M M := Fr.refl
  refine PW.aload_n q_236_0 rfl ?_
  refine PW.aload_n q_236_1 rfl ?_
  refine PW.iload_n q_236_2 rfl ?_
  refine PW.iload_n q_236_3 rfl ?_
  refine PW.iload_n q_236_4 rfl ?_
  refine PW.cV (as := [_, _, _]) (rest := [_]) q_236_5 t_mv_236_314 kd_294 I.1 (by decide) rfl (by decide) rfl rfl (Nat.le_of_ble_eq_true rfl) (Nat.le_of_ble_eq_true rfl) (by decide) (by decide) ?_
  refine PW.up (by decide) (c_X12_isBetween (gTT) (Stab0) G _ M I a1 a2 a3 fun x2 M1 IM1 GM1 hx2 kx2 PM1 TM1 => ?_)
  have FM1 := Fr.trans F GM1 (rfl)
  refine PW.jz_ne q_236_8 rfl (fun h3 => ?_) (fun h3 => ?_)
  · skip
    refine PW.cI q_236_15 (by decide) fun c4 hc4 => ?_
    refine PW.cV (as := [_]) (rest := []) q_236_16 t_mv_236_247 kd_294 IM1.1 (by decide) rfl (by decide) rfl rfl (Nat.le_of_ble_eq_true rfl) (Nat.le_of_ble_eq_true rfl) (by decide) (by decide) ?_
    refine PW.up (by decide) (c_X12_throwsIf (gTT) (Stab0) G _ M1 IM1 c4 (by omega) (by omega) fun x6 M5 IM5 GM5 hx6 kx6 PM5 TM5 => ?_)
    have FM5 := Fr.trans FM1 GM5 (rfl)
    refine PW.jz_eq q_236_19 rfl (fun h7 => ?_) (fun h7 => False.elim (by omega))
    refine PW.cI q_236_24 (by decide) fun c8 hc8 => ?_
    refine PW.istore q_236_25 (by decide) ?_
    have L236_27_9 : ∀ (n : Nat) (ML236_27_9 : pM) (v10 : Int32), Iv (gTT) ML236_27_9 → Fr [40] M ML236_27_9 → 1 ≤ v10.toInt → v10.toInt ≤ 7 → (gLq ML236_27_9 M ∧ gHq ML236_27_9 M) → (7 - v10.toInt).toNat = n → PW G false 4 236 (p_mc 236) (p_msl 236) Kr 27 [(0, .ref 294), (1, .int a1), (2, .int a2), (3, .int a3), (4, .int v10)] [] 311 ML236_27_9 0 0 := by
      intro n
      induction n using Nat.strongRecOn with
      | ind n ih_L236_27_9 =>
      intro ML236_27_9 v10 IML236_27_9 FML236_27_9 hbL236_27_90 hbL236_27_91 hbL236_27_92 hmL236_27_9
      refine PW.iload q_236_27 rfl ?_
      refine PW.cB q_236_29 (by decide) fun c11 hc11 => ?_
      refine PW.jc_ge q_236_31 rfl (fun h12 => ?_) (fun h12 => ?_)
      · skip
        refine PW.cI q_236_73 (by decide) fun c13 hc13 => ?_
        refine PW.rI q_236_74 rfl (by decide) (by decide) ?_
        exact hK c13 ML236_27_9 IML236_27_9 FML236_27_9 ⟨hbL236_27_92.1, hbL236_27_92.2⟩
      · skip
        refine PW.aload_n q_236_34 rfl ?_
        refine PW.iload_n q_236_35 rfl ?_
        refine PW.iload_n q_236_36 rfl ?_
        refine PW.iload_n q_236_37 rfl ?_
        refine PW.iload q_236_38 rfl ?_
        refine PW.cV (as := [_, _, _, _]) (rest := []) q_236_40 t_mv_236_321 kd_294 IML236_27_9.1 (by decide) rfl (by decide) rfl rfl (Nat.le_of_ble_eq_true rfl) (Nat.le_of_ble_eq_true rfl) (by decide) (by decide) ?_
        refine PW.up (by decide) (c_X12_upOf (gTT) (Stab0) G _ ML236_27_9 IML236_27_9 a1 a2 a3 v10 (by omega) (by omega) (by omega) (by omega) (by omega) (by omega) fun l15 M14 IM14 GM14 TM14 => ?_)
        have FM14 := Fr.trans FML236_27_9 GM14 (rfl)
        refine PW.aload_n q_236_43 rfl ?_
        refine PW.gR 296 q_236_44 (Or.inl t_ft_236_33) gF_40_6 kd_294 IM14.1 (by decide) rfl ?_
        refine PW.cI q_236_47 (by decide) fun c16 hc16 => ?_
        refine PW.aH q_236_48 gA_42 kd_296 IM14.1 (by decide) (by omega) (by omega) fun x17 fx17 => ?_
        refine PW.i2l q_236_49 ?_
        refine PW.aload_n q_236_50 rfl ?_
        refine PW.iload_n q_236_51 rfl ?_
        refine PW.iload_n q_236_52 rfl ?_
        refine PW.iload_n q_236_53 rfl ?_
        refine PW.iload q_236_54 rfl ?_
        refine PW.cV (as := [_, _, _, _]) (rest := [_, _]) q_236_56 t_mv_236_325 kd_294 IM14.1 (by decide) rfl (by decide) rfl rfl (Nat.le_of_ble_eq_true rfl) (Nat.le_of_ble_eq_true rfl) (by decide) (by decide) ?_
        refine PW.up (by decide) (c_X12_belowOf (gTT) (Stab0) G _ M14 IM14 a1 a2 a3 v10 (by omega) (by omega) (by omega) (by omega) (by omega) (by omega) (by omega) (by omega) fun l19 M18 IM18 GM18 PM18 TM18 => ?_)
        have FM18 := Fr.trans FM14 GM18 (rfl)
        refine PW.lmul q_236_59 ?_
        refine PW.lcmpH q_236_60 fun x20 => ?_
        refine PW.jz_gt q_236_61 rfl (fun h21 => ?_) (fun h21 => ?_)
        · skip
          refine PW.incN q_236_67 rfl (by decide) (by decide) (by omega) (by omega) fun x22 hx22 => ?_
          refine PW.goto q_236_70 rfl ?_
          refine PW.lvS (lk1 rfl (lk1 rfl (lk1 rfl (lk1 rfl (lk1 rfl lk0))))) (ih_L236_27_9 _ ?_ M18 x22 IM18 FM18 (by omega) (by omega) ⟨((congrArg (fun e => o_i e 2) (Fr.at GM18 kd_294 rfl)).trans ((congrArg (fun e => o_i e 2) (Fr.at GM14 kd_294 rfl)).trans hbL236_27_92.1)), ((hbL236_27_92.2.cg (Fr.at GM14 kd_296 rfl) (Fr.at GM14 kd_294 rfl)).cg (Fr.at GM18 kd_296 rfl) (Fr.at GM18 kd_294 rfl))⟩ rfl)
          omega
        · skip
          refine PW.iload q_236_64 rfl ?_
          refine PW.rI q_236_66 rfl (by decide) (by decide) ?_
          exact hK v10 M18 IM18 FM18 ⟨((congrArg (fun e => o_i e 2) (Fr.at GM18 kd_294 rfl)).trans ((congrArg (fun e => o_i e 2) (Fr.at GM14 kd_294 rfl)).trans hbL236_27_92.1)), ((hbL236_27_92.2.cg (Fr.at GM14 kd_296 rfl) (Fr.at GM14 kd_294 rfl)).cg (Fr.at GM18 kd_296 rfl) (Fr.at GM18 kd_294 rfl))⟩
    exact PW.lvS (lk1 rfl (lk1 rfl (lk1 rfl (lk1 rfl (lk1 rfl lk0))))) (L236_27_9 _ M5 c8 IM5 FM5 (by omega) (by omega) ⟨(TM5.1.trans (congrArg (fun e => o_i e 2) (Fr.at GM1 kd_294 rfl))), ((gHq.refl.cg (Fr.at GM1 kd_296 rfl) (Fr.at GM1 kd_294 rfl)).tr TM5.2)⟩ rfl)
  · skip
    refine PW.cI q_236_11 (by decide) fun c23 hc23 => ?_
    refine PW.goto q_236_12 rfl ?_
    refine PW.cV (as := [_]) (rest := []) q_236_16 t_mv_236_247 kd_294 IM1.1 (by decide) rfl (by decide) rfl rfl (Nat.le_of_ble_eq_true rfl) (Nat.le_of_ble_eq_true rfl) (by decide) (by decide) ?_
    refine PW.up (by decide) (c_X12_throwsIf (gTT) (Stab0) G _ M1 IM1 c23 (by omega) (by omega) fun x25 M24 IM24 GM24 hx25 kx25 PM24 TM24 => ?_)
    have FM24 := Fr.trans FM1 GM24 (rfl)
    refine PW.jz_eq q_236_19 rfl (fun h26 => False.elim (by omega)) (fun h26 => ?_)
    refine PW.cI q_236_22 (by decide) fun c27 hc27 => ?_
    refine PW.rI q_236_23 rfl (by decide) (by decide) ?_
    exact hK c27 M24 IM24 FM24 ⟨(TM24.1.trans (congrArg (fun e => o_i e 2) (Fr.at GM1 kd_294 rfl))), ((gHq.refl.cg (Fr.at GM1 kd_296 rfl) (Fr.at GM1 kd_294 rfl)).tr TM24.2)⟩
