theorem q_222_0 : p_tb 222 0 = some (.iconst 0, 1) := by decide +kernel
theorem q_222_1 : p_tb 222 1 = some (.istore_n 1, 1) := by decide +kernel
theorem q_222_2 : p_tb 222 2 = some (.iload_n 1, 1) := by decide +kernel
theorem q_222_3 : p_tb 222 3 = some (.sipush 183, 3) := by decide +kernel
theorem q_222_6 : p_tb 222 6 = some (.if_icmp .ge 24, 3) := by decide +kernel
theorem q_222_9 : p_tb 222 9 = some (.aload_n 0, 1) := by decide +kernel
theorem q_222_10 : p_tb 222 10 = some (.getfield 53, 3) := by decide +kernel
theorem q_222_13 : p_tb 222 13 = some (.iload_n 1, 1) := by decide +kernel
theorem q_222_14 : p_tb 222 14 = some (.aload_n 0, 1) := by decide +kernel
theorem q_222_15 : p_tb 222 15 = some (.getfield 33, 3) := by decide +kernel
theorem q_222_18 : p_tb 222 18 = some (.bipush 33, 2) := by decide +kernel
theorem q_222_20 : p_tb 222 20 = some (.iload_n 1, 1) := by decide +kernel
theorem q_222_21 : p_tb 222 21 = some (.iadd, 1) := by decide +kernel
theorem q_222_22 : p_tb 222 22 = some (.iaload, 1) := by decide +kernel
theorem q_222_23 : p_tb 222 23 = some (.iastore, 1) := by decide +kernel
theorem q_222_24 : p_tb 222 24 = some (.iinc 1 1, 3) := by decide +kernel
theorem q_222_27 : p_tb 222 27 = some (.goto (-25), 3) := by decide +kernel
theorem q_222_30 : p_tb 222 30 = some (.return_, 1) := by decide +kernel
theorem t_ft_222_33 : p_f2 p_ft (p_mK 222) 33 = some (11, 6) := by decide +kernel
theorem t_ft_222_53 : p_f2 p_ft (p_mK 222) 53 = some (11, 22) := by decide +kernel
theorem q_223_0 : p_tb 223 0 = some (.iconst 0, 1) := by decide +kernel
theorem q_223_1 : p_tb 223 1 = some (.istore_n 1, 1) := by decide +kernel
theorem q_223_2 : p_tb 223 2 = some (.iload_n 1, 1) := by decide +kernel
theorem q_223_3 : p_tb 223 3 = some (.sipush 183, 3) := by decide +kernel
theorem q_223_6 : p_tb 223 6 = some (.if_icmp .ge 24, 3) := by decide +kernel
theorem q_223_9 : p_tb 223 9 = some (.aload_n 0, 1) := by decide +kernel
theorem q_223_10 : p_tb 223 10 = some (.getfield 33, 3) := by decide +kernel
theorem q_223_13 : p_tb 223 13 = some (.bipush 33, 2) := by decide +kernel
theorem q_223_15 : p_tb 223 15 = some (.iload_n 1, 1) := by decide +kernel
theorem q_223_16 : p_tb 223 16 = some (.iadd, 1) := by decide +kernel
theorem q_223_17 : p_tb 223 17 = some (.aload_n 0, 1) := by decide +kernel
theorem q_223_18 : p_tb 223 18 = some (.getfield 53, 3) := by decide +kernel
theorem q_223_21 : p_tb 223 21 = some (.iload_n 1, 1) := by decide +kernel
theorem q_223_22 : p_tb 223 22 = some (.iaload, 1) := by decide +kernel
theorem q_223_23 : p_tb 223 23 = some (.iastore, 1) := by decide +kernel
theorem q_223_24 : p_tb 223 24 = some (.iinc 1 1, 3) := by decide +kernel
theorem q_223_27 : p_tb 223 27 = some (.goto (-25), 3) := by decide +kernel
theorem q_223_30 : p_tb 223 30 = some (.return_, 1) := by decide +kernel
theorem t_ft_223_33 : p_f2 p_ft (p_mK 223) 33 = some (11, 6) := by decide +kernel
theorem t_ft_223_53 : p_f2 p_ft (p_mK 223) 53 = some (11, 22) := by decide +kernel
theorem q_220_0 : p_tb 220 0 = some (.aload_n 0, 1) := by decide +kernel
theorem q_220_1 : p_tb 220 1 = some (.getfield 238, 3) := by decide +kernel
theorem q_220_4 : p_tb 220 4 = some (.bipush 8, 2) := by decide +kernel
theorem q_220_6 : p_tb 220 6 = some (.if_icmp .ne 40, 3) := by decide +kernel
theorem q_220_9 : p_tb 220 9 = some (.iconst 0, 1) := by decide +kernel
theorem q_220_10 : p_tb 220 10 = some (.istore_n 1, 1) := by decide +kernel
theorem q_220_11 : p_tb 220 11 = some (.iload_n 1, 1) := by decide +kernel
theorem q_220_12 : p_tb 220 12 = some (.sipush 1281, 3) := by decide +kernel
theorem q_220_15 : p_tb 220 15 = some (.if_icmp .ge 25, 3) := by decide +kernel
theorem q_220_18 : p_tb 220 18 = some (.aload_n 0, 1) := by decide +kernel
theorem q_220_19 : p_tb 220 19 = some (.getfield 50, 3) := by decide +kernel
theorem q_220_22 : p_tb 220 22 = some (.iload_n 1, 1) := by decide +kernel
theorem q_220_23 : p_tb 220 23 = some (.aload_n 0, 1) := by decide +kernel
theorem q_220_24 : p_tb 220 24 = some (.getfield 50, 3) := by decide +kernel
theorem q_220_27 : p_tb 220 27 = some (.iload_n 1, 1) := by decide +kernel
theorem q_220_28 : p_tb 220 28 = some (.sipush 183, 3) := by decide +kernel
theorem q_220_31 : p_tb 220 31 = some (.iadd, 1) := by decide +kernel
theorem q_220_32 : p_tb 220 32 = some (.iaload, 1) := by decide +kernel
theorem q_220_33 : p_tb 220 33 = some (.iastore, 1) := by decide +kernel
theorem q_220_34 : p_tb 220 34 = some (.iinc 1 1, 3) := by decide +kernel
theorem q_220_37 : p_tb 220 37 = some (.goto (-26), 3) := by decide +kernel
theorem q_220_40 : p_tb 220 40 = some (.aload_n 0, 1) := by decide +kernel
theorem q_220_41 : p_tb 220 41 = some (.bipush 7, 2) := by decide +kernel
theorem q_220_43 : p_tb 220 43 = some (.putfield 238, 3) := by decide +kernel
theorem q_220_46 : p_tb 220 46 = some (.iconst 0, 1) := by decide +kernel
theorem q_220_47 : p_tb 220 47 = some (.istore_n 1, 1) := by decide +kernel
theorem q_220_48 : p_tb 220 48 = some (.iload_n 1, 1) := by decide +kernel
theorem q_220_49 : p_tb 220 49 = some (.sipush 183, 3) := by decide +kernel
theorem q_220_52 : p_tb 220 52 = some (.if_icmp .ge 33, 3) := by decide +kernel
theorem q_220_55 : p_tb 220 55 = some (.aload_n 0, 1) := by decide +kernel
theorem q_220_56 : p_tb 220 56 = some (.getfield 50, 3) := by decide +kernel
theorem q_220_59 : p_tb 220 59 = some (.sipush 183, 3) := by decide +kernel
theorem q_220_62 : p_tb 220 62 = some (.aload_n 0, 1) := by decide +kernel
theorem q_220_63 : p_tb 220 63 = some (.getfield 238, 3) := by decide +kernel
theorem q_220_66 : p_tb 220 66 = some (.imul, 1) := by decide +kernel
theorem q_220_67 : p_tb 220 67 = some (.iload_n 1, 1) := by decide +kernel
theorem q_220_68 : p_tb 220 68 = some (.iadd, 1) := by decide +kernel
theorem q_220_69 : p_tb 220 69 = some (.aload_n 0, 1) := by decide +kernel
theorem q_220_70 : p_tb 220 70 = some (.getfield 33, 3) := by decide +kernel
theorem q_220_73 : p_tb 220 73 = some (.bipush 33, 2) := by decide +kernel
theorem q_220_75 : p_tb 220 75 = some (.iload_n 1, 1) := by decide +kernel
theorem q_220_76 : p_tb 220 76 = some (.iadd, 1) := by decide +kernel
theorem q_220_77 : p_tb 220 77 = some (.iaload, 1) := by decide +kernel
theorem q_220_78 : p_tb 220 78 = some (.iastore, 1) := by decide +kernel
theorem q_220_79 : p_tb 220 79 = some (.iinc 1 1, 3) := by decide +kernel
theorem q_220_82 : p_tb 220 82 = some (.goto (-34), 3) := by decide +kernel
theorem q_220_85 : p_tb 220 85 = some (.aload_n 0, 1) := by decide +kernel
theorem q_220_86 : p_tb 220 86 = some (.dup, 1) := by decide +kernel
theorem q_220_87 : p_tb 220 87 = some (.getfield 238, 3) := by decide +kernel
theorem q_220_90 : p_tb 220 90 = some (.iconst 1, 1) := by decide +kernel
theorem q_220_91 : p_tb 220 91 = some (.iadd, 1) := by decide +kernel
theorem q_220_92 : p_tb 220 92 = some (.putfield 238, 3) := by decide +kernel
theorem q_220_95 : p_tb 220 95 = some (.return_, 1) := by decide +kernel
theorem t_ft_220_238 : p_f2 p_ft (p_mK 220) 238 = some (11, 23) := by decide +kernel
theorem t_ft_220_33 : p_f2 p_ft (p_mK 220) 33 = some (11, 6) := by decide +kernel
theorem t_ft_220_50 : p_f2 p_ft (p_mK 220) 50 = some (11, 21) := by decide +kernel
theorem q_221_0 : p_tb 221 0 = some (.aload_n 0, 1) := by decide +kernel
theorem q_221_1 : p_tb 221 1 = some (.iconst 0, 1) := by decide +kernel
theorem q_221_2 : p_tb 221 2 = some (.putfield 1, 3) := by decide +kernel
theorem q_221_5 : p_tb 221 5 = some (.aload_n 0, 1) := by decide +kernel
theorem q_221_6 : p_tb 221 6 = some (.getfield 238, 3) := by decide +kernel
theorem q_221_9 : p_tb 221 9 = some (.ifCond .ne 5, 3) := by decide +kernel
theorem q_221_12 : p_tb 221 12 = some (.iconst (-1), 1) := by decide +kernel
theorem q_221_13 : p_tb 221 13 = some (.ireturn, 1) := by decide +kernel
theorem q_221_14 : p_tb 221 14 = some (.aload_n 0, 1) := by decide +kernel
theorem q_221_15 : p_tb 221 15 = some (.dup, 1) := by decide +kernel
theorem q_221_16 : p_tb 221 16 = some (.getfield 238, 3) := by decide +kernel
theorem q_221_19 : p_tb 221 19 = some (.iconst 1, 1) := by decide +kernel
theorem q_221_20 : p_tb 221 20 = some (.isub, 1) := by decide +kernel
theorem q_221_21 : p_tb 221 21 = some (.putfield 238, 3) := by decide +kernel
theorem q_221_24 : p_tb 221 24 = some (.iconst 0, 1) := by decide +kernel
theorem q_221_25 : p_tb 221 25 = some (.istore_n 1, 1) := by decide +kernel
theorem q_221_26 : p_tb 221 26 = some (.iload_n 1, 1) := by decide +kernel
theorem q_221_27 : p_tb 221 27 = some (.sipush 183, 3) := by decide +kernel
theorem q_221_30 : p_tb 221 30 = some (.if_icmp .ge 33, 3) := by decide +kernel
theorem q_221_33 : p_tb 221 33 = some (.aload_n 0, 1) := by decide +kernel
theorem q_221_34 : p_tb 221 34 = some (.getfield 33, 3) := by decide +kernel
theorem q_221_37 : p_tb 221 37 = some (.bipush 33, 2) := by decide +kernel
theorem q_221_39 : p_tb 221 39 = some (.iload_n 1, 1) := by decide +kernel
theorem q_221_40 : p_tb 221 40 = some (.iadd, 1) := by decide +kernel
theorem q_221_41 : p_tb 221 41 = some (.aload_n 0, 1) := by decide +kernel
theorem q_221_42 : p_tb 221 42 = some (.getfield 50, 3) := by decide +kernel
theorem q_221_45 : p_tb 221 45 = some (.sipush 183, 3) := by decide +kernel
theorem q_221_48 : p_tb 221 48 = some (.aload_n 0, 1) := by decide +kernel
theorem q_221_49 : p_tb 221 49 = some (.getfield 238, 3) := by decide +kernel
theorem q_221_52 : p_tb 221 52 = some (.imul, 1) := by decide +kernel
theorem q_221_53 : p_tb 221 53 = some (.iload_n 1, 1) := by decide +kernel
theorem q_221_54 : p_tb 221 54 = some (.iadd, 1) := by decide +kernel
theorem q_221_55 : p_tb 221 55 = some (.iaload, 1) := by decide +kernel
theorem q_221_56 : p_tb 221 56 = some (.iastore, 1) := by decide +kernel
theorem q_221_57 : p_tb 221 57 = some (.iinc 1 1, 3) := by decide +kernel
theorem q_221_60 : p_tb 221 60 = some (.goto (-34), 3) := by decide +kernel
theorem q_221_63 : p_tb 221 63 = some (.aload_n 0, 1) := by decide +kernel
theorem q_221_64 : p_tb 221 64 = some (.getfield 238, 3) := by decide +kernel
theorem q_221_67 : p_tb 221 67 = some (.ireturn, 1) := by decide +kernel
theorem t_ft_221_1 : p_f2 p_ft (p_mK 221) 1 = some (11, 0) := by decide +kernel
theorem t_ft_221_238 : p_f2 p_ft (p_mK 221) 238 = some (11, 23) := by decide +kernel
theorem t_ft_221_33 : p_f2 p_ft (p_mK 221) 33 = some (11, 6) := by decide +kernel
theorem t_ft_221_50 : p_f2 p_ft (p_mK 221) 50 = some (11, 21) := by decide +kernel
theorem q_272_0 : p_tb 272 0 = some (.aload_n 0, 1) := by decide +kernel
theorem q_272_1 : p_tb 272 1 = some (.iconst 0, 1) := by decide +kernel
theorem q_272_2 : p_tb 272 2 = some (.putfield 1, 3) := by decide +kernel
theorem q_272_5 : p_tb 272 5 = some (.iload_n 1, 1) := by decide +kernel
theorem q_272_6 : p_tb 272 6 = some (.iconst 0, 1) := by decide +kernel
theorem q_272_7 : p_tb 272 7 = some (.iconst 1, 1) := by decide +kernel
theorem q_272_8 : p_tb 272 8 = some (.invokestatic 176, 3) := by decide +kernel
theorem q_272_11 : p_tb 272 11 = some (.ifCond .ne 5, 3) := by decide +kernel
theorem q_272_14 : p_tb 272 14 = some (.iconst 0, 1) := by decide +kernel
theorem q_272_15 : p_tb 272 15 = some (.ireturn, 1) := by decide +kernel
theorem q_272_16 : p_tb 272 16 = some (.iconst 0, 1) := by decide +kernel
theorem q_272_17 : p_tb 272 17 = some (.istore_n 2, 1) := by decide +kernel
theorem q_272_18 : p_tb 272 18 = some (.iload_n 2, 1) := by decide +kernel
theorem q_272_19 : p_tb 272 19 = some (.sipush 397, 3) := by decide +kernel
theorem q_272_22 : p_tb 272 22 = some (.if_icmp .ge 27, 3) := by decide +kernel
theorem q_272_25 : p_tb 272 25 = some (.aload_n 0, 1) := by decide +kernel
theorem q_272_26 : p_tb 272 26 = some (.getfield 69, 3) := by decide +kernel
theorem q_272_29 : p_tb 272 29 = some (.sipush 397, 3) := by decide +kernel
theorem q_272_32 : p_tb 272 32 = some (.iload_n 1, 1) := by decide +kernel
theorem q_272_33 : p_tb 272 33 = some (.imul, 1) := by decide +kernel
theorem q_272_34 : p_tb 272 34 = some (.iload_n 2, 1) := by decide +kernel
theorem q_272_35 : p_tb 272 35 = some (.iadd, 1) := by decide +kernel
theorem q_272_36 : p_tb 272 36 = some (.aload_n 0, 1) := by decide +kernel
theorem q_272_37 : p_tb 272 37 = some (.getfield 33, 3) := by decide +kernel
theorem q_272_40 : p_tb 272 40 = some (.iload_n 2, 1) := by decide +kernel
theorem q_272_41 : p_tb 272 41 = some (.iaload, 1) := by decide +kernel
theorem q_272_42 : p_tb 272 42 = some (.iastore, 1) := by decide +kernel
theorem q_272_43 : p_tb 272 43 = some (.iinc 2 1, 3) := by decide +kernel
theorem q_272_46 : p_tb 272 46 = some (.goto (-28), 3) := by decide +kernel
theorem q_272_49 : p_tb 272 49 = some (.iconst 0, 1) := by decide +kernel
theorem q_272_50 : p_tb 272 50 = some (.istore_n 2, 1) := by decide +kernel
theorem q_272_51 : p_tb 272 51 = some (.iload_n 2, 1) := by decide +kernel
theorem q_272_52 : p_tb 272 52 = some (.bipush 8, 2) := by decide +kernel
theorem q_272_54 : p_tb 272 54 = some (.if_icmp .ge 26, 3) := by decide +kernel
theorem q_272_57 : p_tb 272 57 = some (.aload_n 0, 1) := by decide +kernel
theorem q_272_58 : p_tb 272 58 = some (.getfield 72, 3) := by decide +kernel
theorem q_272_61 : p_tb 272 61 = some (.bipush 8, 2) := by decide +kernel
theorem q_272_63 : p_tb 272 63 = some (.iload_n 1, 1) := by decide +kernel
theorem q_272_64 : p_tb 272 64 = some (.imul, 1) := by decide +kernel
theorem q_272_65 : p_tb 272 65 = some (.iload_n 2, 1) := by decide +kernel
theorem q_272_66 : p_tb 272 66 = some (.iadd, 1) := by decide +kernel
theorem q_272_67 : p_tb 272 67 = some (.aload_n 0, 1) := by decide +kernel
theorem q_272_68 : p_tb 272 68 = some (.getfield 43, 3) := by decide +kernel
theorem q_272_71 : p_tb 272 71 = some (.iload_n 2, 1) := by decide +kernel
theorem q_272_72 : p_tb 272 72 = some (.laload, 1) := by decide +kernel
theorem q_272_73 : p_tb 272 73 = some (.lastore, 1) := by decide +kernel
theorem q_272_74 : p_tb 272 74 = some (.iinc 2 1, 3) := by decide +kernel
theorem q_272_77 : p_tb 272 77 = some (.goto (-26), 3) := by decide +kernel
theorem q_272_80 : p_tb 272 80 = some (.aload_n 0, 1) := by decide +kernel
theorem q_272_81 : p_tb 272 81 = some (.getfield 75, 3) := by decide +kernel
theorem q_272_84 : p_tb 272 84 = some (.iload_n 1, 1) := by decide +kernel
theorem q_272_85 : p_tb 272 85 = some (.iconst 1, 1) := by decide +kernel
theorem q_272_86 : p_tb 272 86 = some (.bastore, 1) := by decide +kernel
theorem q_272_87 : p_tb 272 87 = some (.iconst 1, 1) := by decide +kernel
theorem q_272_88 : p_tb 272 88 = some (.ireturn, 1) := by decide +kernel
theorem t_ft_272_1 : p_f2 p_ft (p_mK 272) 1 = some (11, 0) := by decide +kernel
theorem t_ft_272_33 : p_f2 p_ft (p_mK 272) 33 = some (11, 6) := by decide +kernel
theorem t_ft_272_43 : p_f2 p_ft (p_mK 272) 43 = some (11, 9) := by decide +kernel
theorem t_ft_272_69 : p_f2 p_ft (p_mK 272) 69 = some (11, 39) := by decide +kernel
theorem t_ft_272_72 : p_f2 p_ft (p_mK 272) 72 = some (11, 40) := by decide +kernel
theorem t_ft_272_75 : p_f2 p_ft (p_mK 272) 75 = some (11, 41) := by decide +kernel
theorem t_ms_272_176 : p_f2 p_ms (p_mK 272) 176 = some 166 := by decide +kernel
theorem gC_55_0_1 : gC 55 0 1 0 1 := gC.of (by decide +kernel)
theorem q_273_0 : p_tb 273 0 = some (.aload_n 0, 1) := by decide +kernel
theorem q_273_1 : p_tb 273 1 = some (.iconst 0, 1) := by decide +kernel
theorem q_273_2 : p_tb 273 2 = some (.putfield 1, 3) := by decide +kernel
theorem q_273_5 : p_tb 273 5 = some (.iload_n 1, 1) := by decide +kernel
theorem q_273_6 : p_tb 273 6 = some (.iconst 0, 1) := by decide +kernel
theorem q_273_7 : p_tb 273 7 = some (.iconst 1, 1) := by decide +kernel
theorem q_273_8 : p_tb 273 8 = some (.invokestatic 176, 3) := by decide +kernel
theorem q_273_11 : p_tb 273 11 = some (.ifCond .eq 12, 3) := by decide +kernel
theorem q_273_14 : p_tb 273 14 = some (.aload_n 0, 1) := by decide +kernel
theorem q_273_15 : p_tb 273 15 = some (.getfield 75, 3) := by decide +kernel
theorem q_273_18 : p_tb 273 18 = some (.iload_n 1, 1) := by decide +kernel
theorem q_273_19 : p_tb 273 19 = some (.baload, 1) := by decide +kernel
theorem q_273_20 : p_tb 273 20 = some (.ifCond .ne 5, 3) := by decide +kernel
theorem q_273_23 : p_tb 273 23 = some (.iconst 0, 1) := by decide +kernel
theorem q_273_24 : p_tb 273 24 = some (.ireturn, 1) := by decide +kernel
theorem q_273_25 : p_tb 273 25 = some (.iconst 0, 1) := by decide +kernel
theorem q_273_26 : p_tb 273 26 = some (.istore_n 2, 1) := by decide +kernel
theorem q_273_27 : p_tb 273 27 = some (.iload_n 2, 1) := by decide +kernel
theorem q_273_28 : p_tb 273 28 = some (.sipush 397, 3) := by decide +kernel
theorem q_273_31 : p_tb 273 31 = some (.if_icmp .ge 27, 3) := by decide +kernel
theorem q_273_34 : p_tb 273 34 = some (.aload_n 0, 1) := by decide +kernel
theorem q_273_35 : p_tb 273 35 = some (.getfield 33, 3) := by decide +kernel
theorem q_273_38 : p_tb 273 38 = some (.iload_n 2, 1) := by decide +kernel
theorem q_273_39 : p_tb 273 39 = some (.aload_n 0, 1) := by decide +kernel
theorem q_273_40 : p_tb 273 40 = some (.getfield 69, 3) := by decide +kernel
theorem q_273_43 : p_tb 273 43 = some (.sipush 397, 3) := by decide +kernel
theorem q_273_46 : p_tb 273 46 = some (.iload_n 1, 1) := by decide +kernel
theorem q_273_47 : p_tb 273 47 = some (.imul, 1) := by decide +kernel
theorem q_273_48 : p_tb 273 48 = some (.iload_n 2, 1) := by decide +kernel
theorem q_273_49 : p_tb 273 49 = some (.iadd, 1) := by decide +kernel
theorem q_273_50 : p_tb 273 50 = some (.iaload, 1) := by decide +kernel
theorem q_273_51 : p_tb 273 51 = some (.iastore, 1) := by decide +kernel
theorem q_273_52 : p_tb 273 52 = some (.iinc 2 1, 3) := by decide +kernel
theorem q_273_55 : p_tb 273 55 = some (.goto (-28), 3) := by decide +kernel
theorem q_273_58 : p_tb 273 58 = some (.iconst 0, 1) := by decide +kernel
theorem q_273_59 : p_tb 273 59 = some (.istore_n 2, 1) := by decide +kernel
theorem q_273_60 : p_tb 273 60 = some (.iload_n 2, 1) := by decide +kernel
theorem q_273_61 : p_tb 273 61 = some (.bipush 8, 2) := by decide +kernel
theorem q_273_63 : p_tb 273 63 = some (.if_icmp .ge 26, 3) := by decide +kernel
theorem q_273_66 : p_tb 273 66 = some (.aload_n 0, 1) := by decide +kernel
theorem q_273_67 : p_tb 273 67 = some (.getfield 43, 3) := by decide +kernel
theorem q_273_70 : p_tb 273 70 = some (.iload_n 2, 1) := by decide +kernel
theorem q_273_71 : p_tb 273 71 = some (.aload_n 0, 1) := by decide +kernel
theorem q_273_72 : p_tb 273 72 = some (.getfield 72, 3) := by decide +kernel
theorem q_273_75 : p_tb 273 75 = some (.bipush 8, 2) := by decide +kernel
theorem q_273_77 : p_tb 273 77 = some (.iload_n 1, 1) := by decide +kernel
theorem q_273_78 : p_tb 273 78 = some (.imul, 1) := by decide +kernel
theorem q_273_79 : p_tb 273 79 = some (.iload_n 2, 1) := by decide +kernel
theorem q_273_80 : p_tb 273 80 = some (.iadd, 1) := by decide +kernel
theorem q_273_81 : p_tb 273 81 = some (.laload, 1) := by decide +kernel
theorem q_273_82 : p_tb 273 82 = some (.lastore, 1) := by decide +kernel
theorem q_273_83 : p_tb 273 83 = some (.iinc 2 1, 3) := by decide +kernel
theorem q_273_86 : p_tb 273 86 = some (.goto (-26), 3) := by decide +kernel
theorem q_273_89 : p_tb 273 89 = some (.aload_n 0, 1) := by decide +kernel
theorem q_273_90 : p_tb 273 90 = some (.iconst 0, 1) := by decide +kernel
theorem q_273_91 : p_tb 273 91 = some (.putfield 238, 3) := by decide +kernel
theorem q_273_94 : p_tb 273 94 = some (.iconst 1, 1) := by decide +kernel
theorem q_273_95 : p_tb 273 95 = some (.ireturn, 1) := by decide +kernel
theorem t_ft_273_1 : p_f2 p_ft (p_mK 273) 1 = some (11, 0) := by decide +kernel
theorem t_ft_273_238 : p_f2 p_ft (p_mK 273) 238 = some (11, 23) := by decide +kernel
theorem t_ft_273_33 : p_f2 p_ft (p_mK 273) 33 = some (11, 6) := by decide +kernel
theorem t_ft_273_43 : p_f2 p_ft (p_mK 273) 43 = some (11, 9) := by decide +kernel
theorem t_ft_273_69 : p_f2 p_ft (p_mK 273) 69 = some (11, 39) := by decide +kernel
theorem t_ft_273_72 : p_f2 p_ft (p_mK 273) 72 = some (11, 40) := by decide +kernel
theorem t_ft_273_75 : p_f2 p_ft (p_mK 273) 75 = some (11, 41) := by decide +kernel
theorem t_ms_273_176 : p_f2 p_ms (p_mK 273) 176 = some 166 := by decide +kernel
theorem gB_55_0_1 : gB 55 0 1 0 1 := gB.of (by decide +kernel)
/-- all but the row t is whole -/
def gX (t : Nat) (M : pM) : Prop := g_T M ∧ (t ≠ 296 → g_sa (o_a (M 296))) ∧ (t ≠ 302 → g_st (o_a (M 302))) ∧ (t ≠ 301 → ∀ u, u < 8 → g_st (fun i => o_a (M 301) (183 * u + i))) ∧ (t ≠ 307 → ∀ u, u < 2 → g_sa (fun i => o_a (M 307) (397 * u + i)))
theorem gX.of {t : Nat} {M : pM} (h : gTT M) : gX t M := ⟨h.1, fun _ => h.2.1, fun _ => h.2.2.1, fun _ => h.2.2.2.1, fun _ => h.2.2.2.2⟩
theorem gX.up {t : Nat} {M M1 : pM} (h : gX t M) (U : ∀ c, c ≠ t → M1 c = M c) (ht : t = 296 ∨ t = 302 ∨ t = 301 ∨ t = 307) : gX t M1 := by
  refine ⟨?_, fun e => ?_, fun e => ?_, fun e => ?_, fun e => ?_⟩
  · rcases ht with rfl | rfl | rfl | rfl
    · exact gVT U kd_296 (by decide) h.1
    · exact gVT U kd_302 (by decide) h.1
    · exact gVT U kd_301 (by decide) h.1
    · exact gVT U kd_307 (by decide) h.1
  · rw [U 296 (Ne.symm e)]; exact h.2.1 e
  · rw [U 302 (Ne.symm e)]; exact h.2.2.1 e
  · rw [U 301 (Ne.symm e)]; exact h.2.2.2.1 e
  · rw [U 307 (Ne.symm e)]; exact h.2.2.2.2 e
theorem gX.e296 {M : pM} (h : gX 296 M) (q : g_sa (o_a (M 296))) : gTT M := ⟨h.1, q, h.2.2.1 (by decide), h.2.2.2.1 (by decide), h.2.2.2.2 (by decide)⟩
theorem gX.e302 {M : pM} (h : gX 302 M) (q : g_st (o_a (M 302))) : gTT M := ⟨h.1, h.2.1 (by decide), q, h.2.2.2.1 (by decide), h.2.2.2.2 (by decide)⟩
theorem gX.e301 {M : pM} (h : gX 301 M) (q : ∀ u, u < 8 → g_st (fun i => o_a (M 301) (183 * u + i))) : gTT M := ⟨h.1, h.2.1 (by decide), h.2.2.1 (by decide), q, h.2.2.2.2 (by decide)⟩
theorem gX.e307 {M : pM} (h : gX 307 M) (q : ∀ u, u < 2 → g_sa (fun i => o_a (M 307) (397 * u + i))) : gTT M := ⟨h.1, h.2.1 (by decide), h.2.2.1 (by decide), h.2.2.2.1 (by decide), q⟩
/-- so far as i, row t from a on is row s from b on -/
def gcp (M : pM) (t a s b : Nat) (i : Int) : Prop := ∀ z : Nat, (z : Int) < i → o_a (M t) (a + z) = o_a (M s) (b + z)
theorem gcp.zero {M : pM} {t a s b : Nat} {i : Int} (h : i ≤ 0) : gcp M t a s b i := fun z hz => absurd hz (by omega)
theorem gcp.step {M M1 : pM} {t a s b q j : Nat} {i i' : Int} {x : Int32} (h : gcp M t a s b i) (U : gVv M M1 t q) (hq : q = a + i.toNat) (hst : s ≠ t) (hv : o_a (M1 t) q = x) (hj : j = b + i.toNat) (hs : o_a (M s) j = x) (hi : 0 ≤ i) (hi' : i' = i + 1) : gcp M1 t a s b i' := fun z hz => by
  rw [U.1 s hst]
  by_cases e : z = i.toNat
  · rw [e, ← hq, hv, ← hj, hs]
  · rw [U.2 (a + z) (by omega)]; exact h z (by omega)
theorem as48 {p j : Nat} (h : j = 33 + p) : g_as 48 p = g_as 42 j := by subst h; rfl
theorem as42 {p j : Nat} (h : p = 33 + j) : g_as 42 p = g_as 48 j := by subst h; rfl
theorem as47 {p j : Nat} (u z : Nat) (h : p = 183 * u + z) (hz : z < 183) (hj : j = 33 + z) : g_as 47 p = g_as 42 j := by
  subst h; subst hj; show g_s42 (33 + (183 * u + z) % 183) = g_s42 (33 + z); rw [show (183 * u + z) % 183 = z from by omega]
theorem as47' {p j : Nat} (u z : Nat) (h : p = 183 * u + z) (hz : z < 183) (hj : j = 33 + z) : g_as 42 j = g_as 47 p := (as47 u z h hz hj).symm
theorem as4748 {p j : Nat} (u z : Nat) (h : p = 183 * u + z) (hz : z < 183) (hj : j = z) : g_as 47 p = g_as 48 j := by
  subst h; subst hj; show g_s42 (33 + (183 * u + j) % 183) = g_s42 (33 + j); rw [show (183 * u + j) % 183 = j from by omega]
theorem as4747 {p j : Nat} (h : j = p + 183) : g_as 47 p = g_as 47 j := by
  subst h; show g_s42 (33 + p % 183) = g_s42 (33 + (p + 183) % 183); rw [Nat.add_mod_right]
theorem as53 {p j : Nat} (u : Nat) (h : p = 397 * u + j) (hz : j < 397) : g_as 53 p = g_as 42 j := by
  subst h; show g_s42 ((397 * u + j) % 397) = g_s42 j; rw [show (397 * u + j) % 397 = j from by omega]
theorem as53' {p j : Nat} (u : Nat) (h : p = 397 * u + j) (hz : j < 397) : g_as 42 j = g_as 53 p := (as53 u h hz).symm
theorem as43 {p : Nat} (h : p < 33) : g_as 42 p = g_as 43 p := by
  show g_s42 p = if p < 33 then g_s42 p else _
  rw [if_pos h]
theorem as0 (p : Nat) {x : Int32} (hx : x.toInt = 0) : (g_as 42 p).1 ≤ x.toInt ∧ x.toInt ≤ (g_as 42 p).2 := by
  rw [hx]
  show (g_s42 p).1 ≤ 0 ∧ 0 ≤ (g_s42 p).2
  unfold g_s42
  repeat' split
  all_goals exact ⟨by decide, by decide⟩
theorem g_rp_c {g h : Nat → Int32} : ∀ n : Nat, (∀ z, z < 3 * n → g z = h z) → g_rp g n = g_rp h n
  | 0, _ => rfl
  | n + 1, e => by
    show (g_rp g n).bind _ = (g_rp h n).bind _
    rw [g_rp_c n (fun z hz => e z (by omega)), e (3 * n) (by omega)]
theorem g_RP_c {c : Int} {g h : Nat → Int32} (hc : c ≤ 40) (e : ∀ z, z < 120 → h z = g z) (q : g_RP c g) : g_RP c h := by
  refine ⟨?_, fun i hi => ?_⟩
  · rw [g_rp_c c.toNat (fun z hz => e z (by omega))]; exact q.1
  · rw [e (3 * i) (by omega), e (3 * i + 2) (by omega)]; exact q.2 i hi
theorem g_sa_c {f h : Nat → Int32} (hc : (f 216).toInt ≤ 40) (e : ∀ z, z < 397 → h z = f z) (q : g_sa f) : g_sa h := by
  refine ⟨⟨?_, ?_⟩, ?_⟩
  · show (h 80).toInt ≤ (h 33).toInt; rw [e 80 (by decide), e 33 (by decide)]; exact q.1.1
  · show (h 81).toInt ≤ (h 33).toInt; rw [e 81 (by decide), e 33 (by decide)]; exact q.1.2
  · rw [e 216 (by decide)]; exact g_RP_c hc (fun z hz => e _ (by omega)) q.2
/-- the codes of the reference's row -/
def gRp (M : pM) : Prop := g_RP (o_a (M 296) 216).toInt (fun i => o_a (M 296) (217 + i))
theorem gRp.step {M M1 : pM} {q : Nat} (h : gRp M) (U : gVv M M1 296 q) (hq : q < 216) : gRp M1 := by
  unfold gRp
  rw [U.2 216 (by omega), show (fun i => o_a (M1 296) (217 + i)) = (fun i => o_a (M 296) (217 + i)) from funext fun i => U.2 _ (by omega)]
  exact h
theorem gSt.of {M : pM} {s b : Nat} {i : Int} (c : gcp M 296 33 s b i) (hi : 183 ≤ i) (h : g_st (fun z => o_a (M s) (b + z))) (r : gRp M) : g_sa (o_a (M 296)) := by
  refine ⟨⟨?_, ?_⟩, r⟩
  · show (o_a (M 296) (33 + 47)).toInt ≤ (o_a (M 296) (33 + 0)).toInt; rw [c 47 (by omega), c 0 (by omega)]; exact h.1
  · show (o_a (M 296) (33 + 48)).toInt ≤ (o_a (M 296) (33 + 0)).toInt; rw [c 48 (by omega), c 0 (by omega)]; exact h.2
theorem gSt.to {M : pM} {t a s b : Nat} {i : Int} (c : gcp M t a s b i) (hi : 183 ≤ i) (h : g_st (fun z => o_a (M s) (b + z))) : g_st (fun z => o_a (M t) (a + z)) := by
  refine ⟨?_, ?_⟩
  · show (o_a (M t) (a + 47)).toInt ≤ (o_a (M t) (a + 0)).toInt; rw [c 47 (by omega), c 0 (by omega)]; exact h.1
  · show (o_a (M t) (a + 48)).toInt ≤ (o_a (M t) (a + 0)).toInt; rw [c 48 (by omega), c 0 (by omega)]; exact h.2
theorem g_st0 {f : Nat → Int32} : g_st (fun z => f (0 + z)) ↔ g_st f := by
  rw [show (fun z => f (0 + z)) = f from funext fun z => by rw [Nat.zero_add]]
/-- the kept states but one -/
def grw (M : pM) (U : Nat) : Prop := ∀ u, u < 8 → u ≠ U → g_st (fun i => o_a (M 301) (183 * u + i))
theorem grw.of {M : pM} {U : Nat} (h : gTT M) : grw M U := fun u hu _ => h.2.2.2.1 u hu
theorem grw.step {M M1 : pM} {U q : Nat} (i : Nat) (h : grw M U) (V : gVv M M1 301 q) (hq : q = 183 * U + i) (hi : i < 183) : grw M1 U := fun u h1 h2 => by
  have w := h u h1 h2
  refine ⟨?_, ?_⟩
  · show (o_a (M1 301) (183 * u + 47)).toInt ≤ (o_a (M1 301) (183 * u + 0)).toInt
    rw [V.2 (183 * u + 47) (by omega), V.2 (183 * u + 0) (by omega)]; exact w.1
  · show (o_a (M1 301) (183 * u + 48)).toInt ≤ (o_a (M1 301) (183 * u + 0)).toInt
    rw [V.2 (183 * u + 48) (by omega), V.2 (183 * u + 0) (by omega)]; exact w.2
theorem grw.all {M : pM} {U : Nat} (h : grw M U) (w : g_st (fun i => o_a (M 301) (183 * U + i))) : ∀ u, u < 8 → g_st (fun i => o_a (M 301) (183 * u + i)) := fun u hu => by
  by_cases e : u = U
  · subst e; exact w
  · exact h u hu e
/-- the kept states, moved by one, so far as i -/
def gsh (M0 M : pM) (i : Int) : Prop := (∀ z : Nat, (z : Int) < i → o_a (M 301) z = o_a (M0 301) (z + 183)) ∧ ∀ z : Nat, i ≤ (z : Int) → o_a (M 301) z = o_a (M0 301) z
theorem gsh.zero {M : pM} {i : Int} (h : i ≤ 0) : gsh M M i := ⟨fun z hz => absurd hz (by omega), fun _ _ => rfl⟩
theorem gsh.step {M0 M M1 : pM} {q j : Nat} {i i' : Int} {x : Int32} (h : gsh M0 M i) (U : gVv M M1 301 q) (hq : q = i.toNat) (hv : o_a (M1 301) q = x) (hj : j = i.toNat + 183) (hs : o_a (M 301) j = x) (hi : 0 ≤ i) (hi' : i' = i + 1) : gsh M0 M1 i' := by
  refine ⟨fun z hz => ?_, fun z hz => ?_⟩
  · by_cases e : z = i.toNat
    · rw [e, ← hq, hv, ← hs, hj, hq]; exact h.2 _ (by omega)
    · rw [U.2 z (by omega)]; exact h.1 z (by omega)
  · rw [U.2 z (by omega)]; exact h.2 z (by omega)
theorem gsh.rows {M0 M : pM} {i : Int} (h : gsh M0 M i) (hi : i = 1281) (T : gTT M0) : ∀ u, u < 8 → g_st (fun i => o_a (M 301) (183 * u + i)) := fun u hu => by
  by_cases e : u = 7
  · subst e
    have w := T.2.2.2.1 7 (by decide)
    refine ⟨?_, ?_⟩
    · show (o_a (M 301) (183 * 7 + 47)).toInt ≤ (o_a (M 301) (183 * 7 + 0)).toInt
      rw [h.2 (183 * 7 + 47) (by omega), h.2 (183 * 7 + 0) (by omega)]; exact w.1
    · show (o_a (M 301) (183 * 7 + 48)).toInt ≤ (o_a (M 301) (183 * 7 + 0)).toInt
      rw [h.2 (183 * 7 + 48) (by omega), h.2 (183 * 7 + 0) (by omega)]; exact w.2
  · have w := T.2.2.2.1 (u + 1) (by omega)
    refine ⟨?_, ?_⟩
    · show (o_a (M 301) (183 * u + 47)).toInt ≤ (o_a (M 301) (183 * u + 0)).toInt
      rw [h.1 (183 * u + 47) (by omega), h.1 (183 * u + 0) (by omega), show 183 * u + 47 + 183 = 183 * (u + 1) + 47 from by omega, show 183 * u + 0 + 183 = 183 * (u + 1) + 0 from by omega]; exact w.1
    · show (o_a (M 301) (183 * u + 48)).toInt ≤ (o_a (M 301) (183 * u + 0)).toInt
      rw [h.1 (183 * u + 48) (by omega), h.1 (183 * u + 0) (by omega), show 183 * u + 48 + 183 = 183 * (u + 1) + 48 from by omega, show 183 * u + 0 + 183 = 183 * (u + 1) + 0 from by omega]; exact w.2
/-- the images but one -/
def gkw (M : pM) (U : Nat) : Prop := ∀ u, u < 2 → u ≠ U → g_sa (fun i => o_a (M 307) (397 * u + i))
theorem gkw.of {M : pM} {U : Nat} (h : gTT M) : gkw M U := fun u hu _ => h.2.2.2.2 u hu
theorem gkw.step {M M1 : pM} {U q : Nat} (i : Nat) (I : InvB M) (h : gkw M U) (V : gVv M M1 307 q) (hq : q = 397 * U + i) (hi : i < 397) : gkw M1 U := fun u h1 h2 =>
  g_sa_c (by
    have w := (InvB.arr I kd_307 (by decide) gA_53).2.2 (397 * u + 216) (by omega)
    rw [as53 u rfl (by decide)] at w
    exact w.2) (fun z hz => V.2 _ (by omega)) (h u h1 h2)
theorem gkw.all {M : pM} {U : Nat} (h : gkw M U) (w : g_sa (fun i => o_a (M 307) (397 * U + i))) : ∀ u, u < 2 → g_sa (fun i => o_a (M 307) (397 * u + i)) := fun u hu => by
  by_cases e : u = U
  · subst e; exact w
  · exact h u hu e
theorem g_216 {M : pM} (I : InvB M) : (o_a (M 296) 216).toInt ≤ 40 := ((InvB.arr I kd_296 (by decide) gA_42).2.2 216 (by decide)).2
theorem g_216' {M : pM} (I : InvB M) {u : Nat} (hu : u < 2) : (o_a (M 307) (397 * u + 216)).toInt ≤ 40 := by
  have w := (InvB.arr I kd_307 (by decide) gA_53).2.2 (397 * u + 216) (by omega)
  rw [as53 u rfl (by decide)] at w
  exact w.2
theorem c_X12_tries (G : pG) (Kr : pK) (M : pM) (I : Iv gTT M)  (hK : ∀ (M1 : pM), Iv gTT M1 → Fr [48] M M1 → ((gLq M1 M) ∧ gHq M1 M) → Kr.1 none 311 M1) : PW G false 0 222 (p_mc 222) (p_msl 222) Kr 0 (lv_args 0 [.ref 294]) [] 311 M 0 0 := by
  have F : Fr [48] M M := Fr.refl
  have X1 : Iv (gX 302) M := ⟨I.1, gX.of I.2⟩
  refine PW.cI q_222_0 (by decide) fun c2 hc2 => ?_
  refine PW.istore_n q_222_1 (by decide) ?_
  have L222_2_3 : ∀ (n : Nat) (ML222_2_3 : pM) (v4 : Int32), Iv (gX 302) ML222_2_3 → Fr [48] M ML222_2_3 → 0 ≤ v4.toInt → v4.toInt ≤ 183 → gcp ML222_2_3 302 0 296 33 v4.toInt → (gLq ML222_2_3 M ∧ gHq ML222_2_3 M) → (183 - v4.toInt).toNat = n → PW G false 0 222 (p_mc 222) (p_msl 222) Kr 2 [(0, .ref 294), (1, .int v4)] [] 311 ML222_2_3 0 0 := by
    intro n
    induction n using Nat.strongRecOn with
    | ind n ih_L222_2_3 =>
    intro ML222_2_3 v4 IML222_2_3 FML222_2_3 hbL222_2_30 hbL222_2_31 hbL222_2_32 hbL222_2_33 hmL222_2_3
    refine PW.iload_n q_222_2 rfl ?_
    refine PW.cS q_222_3 (by decide) fun c5 hc5 => ?_
    refine PW.jc_ge q_222_6 rfl (fun h6 => ?_) (fun h6 => ?_)
    · skip
      have X7 : Iv gTT ML222_2_3 := ⟨IML222_2_3.1, gX.e302 IML222_2_3.2 (g_st0.mp (gSt.to hbL222_2_32 (by omega) (IML222_2_3.2.2.1 (by decide)).1))⟩
      refine PW.vret q_222_30 rfl (by decide) (by decide) ?_
      exact hK ML222_2_3 X7 FML222_2_3 ⟨hbL222_2_33.1, hbL222_2_33.2⟩
    · skip
      refine PW.aload_n q_222_9 rfl ?_
      refine PW.gR 302 q_222_10 (Or.inl t_ft_222_53) gF_40_22 kd_294 IML222_2_3.1 (by decide) rfl ?_
      refine PW.iload_n q_222_13 rfl ?_
      refine PW.aload_n q_222_14 rfl ?_
      refine PW.gR 296 q_222_15 (Or.inl t_ft_222_33) gF_40_6 kd_294 IML222_2_3.1 (by decide) rfl ?_
      refine PW.cB q_222_18 (by decide) fun c8 hc8 => ?_
      refine PW.iload_n q_222_20 rfl ?_
      refine PW.addN q_222_21 (by omega) (by omega) fun x9 hx9 => ?_
      refine PW.aH q_222_22 gA_42 kd_296 IML222_2_3.1 (by decide) (by omega) (by omega) fun x10 fx10 => ?_
      have bsM11 := (InvB.arr IML222_2_3.1 kd_296 (by decide) gA_42).2.2 x9.toInt.toNat (by omega)
      rw [fx10] at bsM11
      refine PW.wB q_222_23 gA_48 kd_302 IML222_2_3.1 (by decide) (by omega) (by omega) (by rw [as48 (j := x9.toInt.toNat) (by omega)]; exact bsM11) fun M11 JM11 fM11 UM11 => ?_
      have IM11 : Iv (gX 302) M11 := ⟨JM11, gX.up IML222_2_3.2 UM11.1 (by decide)⟩
      have FM11 := Fr.pu FML222_2_3 UM11.1 kd_302 (rfl : List.contains [48] 48 = true)
      refine PW.incN q_222_24 rfl (by decide) (by decide) (by omega) (by omega) fun x12 hx12 => ?_
      refine PW.goto q_222_27 rfl ?_
      refine PW.lvS (lk1 rfl (lk1 rfl lk0)) (ih_L222_2_3 _ ?_ M11 x12 IM11 FM11 (by omega) (by omega) (gcp.step hbL222_2_32 UM11 (by omega) (by decide) fM11 (by omega) fx10 (by omega) (by omega)) ⟨((congrArg (fun e => o_i e 2) (UM11.1 294 (by decide))).trans hbL222_2_33.1), (hbL222_2_33.2.cg (UM11.1 296 (by decide)) (UM11.1 294 (by decide)))⟩ rfl)
      omega
  exact PW.lvS (lk1 rfl (lk1 rfl lk0)) (L222_2_3 _ M c2 X1 F (by omega) (by omega) (gcp.zero (by omega)) ⟨rfl, gHq.refl⟩ rfl)
theorem c_X12_back (G : pG) (Kr : pK) (M : pM) (I : Iv gTT M)  (hK : ∀ (M1 : pM), Iv gTT M1 → Fr [42] M M1 → ((gLq M1 M) ∧ gHq M1 M) → Kr.1 none 311 M1) : PW G false 0 223 (p_mc 223) (p_msl 223) Kr 0 (lv_args 0 [.ref 294]) [] 311 M 0 0 := by
  have F : Fr [42] M M := Fr.refl
  have X1 : Iv (gX 296) M := ⟨I.1, gX.of I.2⟩
  refine PW.cI q_223_0 (by decide) fun c2 hc2 => ?_
  refine PW.istore_n q_223_1 (by decide) ?_
  have L223_2_3 : ∀ (n : Nat) (ML223_2_3 : pM) (v4 : Int32), Iv (gX 296) ML223_2_3 → Fr [42] M ML223_2_3 → 0 ≤ v4.toInt → v4.toInt ≤ 183 → gRp ML223_2_3 → gcp ML223_2_3 296 33 302 0 v4.toInt → (gLq ML223_2_3 M ∧ gHq ML223_2_3 M) → (183 - v4.toInt).toNat = n → PW G false 0 223 (p_mc 223) (p_msl 223) Kr 2 [(0, .ref 294), (1, .int v4)] [] 311 ML223_2_3 0 0 := by
    intro n
    induction n using Nat.strongRecOn with
    | ind n ih_L223_2_3 =>
    intro ML223_2_3 v4 IML223_2_3 FML223_2_3 hbL223_2_30 hbL223_2_31 hbL223_2_32 hbL223_2_33 hbL223_2_34 hmL223_2_3
    refine PW.iload_n q_223_2 rfl ?_
    refine PW.cS q_223_3 (by decide) fun c5 hc5 => ?_
    refine PW.jc_ge q_223_6 rfl (fun h6 => ?_) (fun h6 => ?_)
    · skip
      have X7 : Iv gTT ML223_2_3 := ⟨IML223_2_3.1, gX.e296 IML223_2_3.2 (gSt.of hbL223_2_33 (by omega) (g_st0.mpr (IML223_2_3.2.2.2.1 (by decide))) hbL223_2_32)⟩
      refine PW.vret q_223_30 rfl (by decide) (by decide) ?_
      exact hK ML223_2_3 X7 FML223_2_3 ⟨hbL223_2_34.1, hbL223_2_34.2⟩
    · skip
      refine PW.aload_n q_223_9 rfl ?_
      refine PW.gR 296 q_223_10 (Or.inl t_ft_223_33) gF_40_6 kd_294 IML223_2_3.1 (by decide) rfl ?_
      refine PW.cB q_223_13 (by decide) fun c8 hc8 => ?_
      refine PW.iload_n q_223_15 rfl ?_
      refine PW.addN q_223_16 (by omega) (by omega) fun x9 hx9 => ?_
      refine PW.aload_n q_223_17 rfl ?_
      refine PW.gR 302 q_223_18 (Or.inl t_ft_223_53) gF_40_22 kd_294 IML223_2_3.1 (by decide) rfl ?_
      refine PW.iload_n q_223_21 rfl ?_
      refine PW.aH q_223_22 gA_48 kd_302 IML223_2_3.1 (by decide) (by omega) (by omega) fun x10 fx10 => ?_
      have bsM11 := (InvB.arr IML223_2_3.1 kd_302 (by decide) gA_48).2.2 v4.toInt.toNat (by omega)
      rw [fx10] at bsM11
      refine PW.wB q_223_23 gA_42 kd_296 IML223_2_3.1 (by decide) (by omega) (by omega) (by rw [as42 (j := v4.toInt.toNat) (by omega)]; exact bsM11) fun M11 JM11 fM11 UM11 => ?_
      have IM11 : Iv (gX 296) M11 := ⟨JM11, gX.up IML223_2_3.2 UM11.1 (by decide)⟩
      have FM11 := Fr.pu FML223_2_3 UM11.1 kd_296 (rfl : List.contains [42] 42 = true)
      refine PW.incN q_223_24 rfl (by decide) (by decide) (by omega) (by omega) fun x12 hx12 => ?_
      refine PW.goto q_223_27 rfl ?_
      refine PW.lvS (lk1 rfl (lk1 rfl lk0)) (ih_L223_2_3 _ ?_ M11 x12 IM11 FM11 (by omega) (by omega) (gRp.step hbL223_2_32 UM11 (by omega)) (gcp.step hbL223_2_33 UM11 (by omega) (by decide) fM11 (by omega) fx10 (by omega) (by omega)) ⟨((congrArg (fun e => o_i e 2) (UM11.1 294 (by decide))).trans hbL223_2_34.1), (hbL223_2_34.2.st UM11 (by omega))⟩ rfl)
      omega
  exact PW.lvS (lk1 rfl (lk1 rfl lk0)) (L223_2_3 _ M c2 X1 F (by omega) (by omega) (I.2.2.1.2) (gcp.zero (by omega)) ⟨rfl, gHq.refl⟩ rfl)
theorem c_X12_keep (G : pG) (Kr : pK) (M : pM) (I : Iv gTT M)  (hK : ∀ (M1 : pM), Iv gTT M1 → Fr [40, 47] M M1 → (1 ≤ o_i (M1 294) 23) → ((gLq M1 M) ∧ gHq M1 M) → Kr.1 none 311 M1) : PW G false 0 220 (p_mc 220) (p_msl 220) Kr 0 (lv_args 0 [.ref 294]) [] 311 M 0 0 := by
  have F : Fr [40, 47] M M := Fr.refl
  refine PW.aload_n q_220_0 rfl ?_
  refine PW.gI q_220_1 (Or.inl t_ft_220_238) gF_40_23 kd_294 I.1 (by decide) fun x1 fx1 hx1 kx1 => ?_
  have trx1 := o_i_of fx1
  refine PW.cB q_220_4 (by decide) fun c2 hc2 => ?_
  refine PW.jc_ne q_220_6 rfl (fun h3 => ?_) (fun h3 => ?_)
  · skip
    have X4 : Iv (gX 301) M := ⟨I.1, gX.of I.2⟩
    have trU5 := o_i_of fx1
    refine PW.cI q_220_46 (by decide) fun c6 hc6 => ?_
    refine PW.istore_n q_220_47 (by decide) ?_
    have L220_48_7 : ∀ (n : Nat) (ML220_48_7 : pM) (v8 : Int32), Iv (gX 301) ML220_48_7 → Fr [40, 47] M ML220_48_7 → 0 ≤ v8.toInt → v8.toInt ≤ 183 → grw ML220_48_7 x1.toInt.toNat → gcp ML220_48_7 301 (183 * x1.toInt.toNat) 296 33 v8.toInt → o_i (ML220_48_7 294) 23 = x1.toInt → (gLq ML220_48_7 M ∧ gHq ML220_48_7 M) → (183 - v8.toInt).toNat = n → PW G false 0 220 (p_mc 220) (p_msl 220) Kr 48 [(0, .ref 294), (1, .int v8)] [] 311 ML220_48_7 0 0 := by
      intro n
      induction n using Nat.strongRecOn with
      | ind n ih_L220_48_7 =>
      intro ML220_48_7 v8 IML220_48_7 FML220_48_7 hbL220_48_70 hbL220_48_71 hbL220_48_72 hbL220_48_73 hbL220_48_74 hbL220_48_75 hmL220_48_7
      refine PW.iload_n q_220_48 rfl ?_
      refine PW.cS q_220_49 (by decide) fun c9 hc9 => ?_
      refine PW.jc_ge q_220_52 rfl (fun h10 => ?_) (fun h10 => ?_)
      · skip
        have X11 : Iv gTT ML220_48_7 := ⟨IML220_48_7.1, gX.e301 IML220_48_7.2 (grw.all hbL220_48_72 (gSt.to hbL220_48_73 (by omega) (IML220_48_7.2.2.1 (by decide)).1))⟩
        refine PW.aload_n q_220_85 rfl ?_
        refine PW.dup q_220_86 rfl ?_
        refine PW.gI q_220_87 (Or.inl t_ft_220_238) gF_40_23 kd_294 X11.1 (by decide) fun x12 fx12 hx12 kx12 => ?_
        have trx12 := o_i_of fx12
        refine PW.cI q_220_90 (by decide) fun c13 hc13 => ?_
        refine PW.addN q_220_91 (by omega) (by omega) fun x14 hx14 => ?_
        refine PW.pI q_220_92 (Or.inl t_ft_220_238) gF_40_23 gP_40_23 kd_294 Stab0 X11 (by decide) rfl (by omega) (by omega) fun M15 IM15 fM15 UM15 => ?_
        have FM15 := Fr.pu FML220_48_7 UM15.1 kd_294 (rfl : List.contains [40, 47] 40 = true)
        have tr16 := o_i_of fM15
        refine PW.vret q_220_95 rfl (by decide) (by decide) ?_
        exact hK M15 IM15 FM15 (by omega) ⟨((UM15.i (c := 294) (k := 2) (Or.inr (by decide))).trans hbL220_48_75.1), (hbL220_48_75.2.pu UM15 (by decide))⟩
      · skip
        refine PW.aload_n q_220_55 rfl ?_
        refine PW.gR 301 q_220_56 (Or.inl t_ft_220_50) gF_40_21 kd_294 IML220_48_7.1 (by decide) rfl ?_
        refine PW.cS q_220_59 (by decide) fun c17 hc17 => ?_
        refine PW.aload_n q_220_62 rfl ?_
        refine PW.gI q_220_63 (Or.inl t_ft_220_238) gF_40_23 kd_294 IML220_48_7.1 (by decide) fun x18 fx18 hx18 kx18 => ?_
        have trx18 := o_i_of fx18
        refine PW.mulN q_220_66 (183) (by omega) x18 (fun h => n_eq.mpr (by omega)) (fun h => n_eq.mpr (by omega)) (by omega) (by omega) fun x19 hx19 => ?_
        refine PW.iload_n q_220_67 rfl ?_
        refine PW.addN q_220_68 (by omega) (by omega) fun x20 hx20 => ?_
        refine PW.aload_n q_220_69 rfl ?_
        refine PW.gR 296 q_220_70 (Or.inl t_ft_220_33) gF_40_6 kd_294 IML220_48_7.1 (by decide) rfl ?_
        refine PW.cB q_220_73 (by decide) fun c21 hc21 => ?_
        refine PW.iload_n q_220_75 rfl ?_
        refine PW.addN q_220_76 (by omega) (by omega) fun x22 hx22 => ?_
        refine PW.aH q_220_77 gA_42 kd_296 IML220_48_7.1 (by decide) (by omega) (by omega) fun x23 fx23 => ?_
        -- index (0, 1646) of 1464 at X12_keep 78
        have bsM24 := (InvB.arr IML220_48_7.1 kd_296 (by decide) gA_42).2.2 x22.toInt.toNat (by omega)
        rw [fx23] at bsM24
        refine PW.wB q_220_78 gA_47 kd_301 IML220_48_7.1 (by decide) (by omega) (by omega) (by rw [as47 (j := x22.toInt.toNat) x1.toInt.toNat v8.toInt.toNat (by omega) (by omega) (by omega)]; exact bsM24) fun M24 JM24 fM24 UM24 => ?_
        have IM24 : Iv (gX 301) M24 := ⟨JM24, gX.up IML220_48_7.2 UM24.1 (by decide)⟩
        have FM24 := Fr.pu FML220_48_7 UM24.1 kd_301 (rfl : List.contains [40, 47] 47 = true)
        have tr25 : o_i (M24 294) 23 = o_i (ML220_48_7 294) 23 := by rw [UM24.1 294 (g_ne kd_294 kd_301 (by decide))]
        refine PW.incN q_220_79 rfl (by decide) (by decide) (by omega) (by omega) fun x26 hx26 => ?_
        refine PW.goto q_220_82 rfl ?_
        refine PW.lvS (lk1 rfl (lk1 rfl lk0)) (ih_L220_48_7 _ ?_ M24 x26 IM24 FM24 (by omega) (by omega) (grw.step v8.toInt.toNat hbL220_48_72 UM24 (by omega) (by omega)) (gcp.step hbL220_48_73 UM24 (by omega) (by decide) fM24 (by omega) fx23 (by omega) (by omega)) (by omega) ⟨((congrArg (fun e => o_i e 2) (UM24.1 294 (by decide))).trans hbL220_48_75.1), (hbL220_48_75.2.cg (UM24.1 296 (by decide)) (UM24.1 294 (by decide)))⟩ rfl)
        omega
    exact PW.lvS (lk1 rfl (lk1 rfl lk0)) (L220_48_7 _ M c6 X4 F (by omega) (by omega) (grw.of I.2) (gcp.zero (by omega)) (by omega) ⟨rfl, gHq.refl⟩ rfl)
  · skip
    have X27 : Iv (gX 301) M := ⟨I.1, gX.of I.2⟩
    refine PW.cI q_220_9 (by decide) fun c28 hc28 => ?_
    refine PW.istore_n q_220_10 (by decide) ?_
    have L220_11_29 : ∀ (n : Nat) (ML220_11_29 : pM) (v30 : Int32), Iv (gX 301) ML220_11_29 → Fr [40, 47] M ML220_11_29 → 0 ≤ v30.toInt → v30.toInt ≤ 1281 → gsh M ML220_11_29 v30.toInt → (gLq ML220_11_29 M ∧ gHq ML220_11_29 M) → (1281 - v30.toInt).toNat = n → PW G false 0 220 (p_mc 220) (p_msl 220) Kr 11 [(0, .ref 294), (1, .int v30)] [] 311 ML220_11_29 0 0 := by
      intro n
      induction n using Nat.strongRecOn with
      | ind n ih_L220_11_29 =>
      intro ML220_11_29 v30 IML220_11_29 FML220_11_29 hbL220_11_290 hbL220_11_291 hbL220_11_292 hbL220_11_293 hmL220_11_29
      refine PW.iload_n q_220_11 rfl ?_
      refine PW.cS q_220_12 (by decide) fun c31 hc31 => ?_
      refine PW.jc_ge q_220_15 rfl (fun h32 => ?_) (fun h32 => ?_)
      · skip
        have X33 : Iv gTT ML220_11_29 := ⟨IML220_11_29.1, gX.e301 IML220_11_29.2 (gsh.rows hbL220_11_292 (by omega) I.2)⟩
        refine PW.aload_n q_220_40 rfl ?_
        refine PW.cB q_220_41 (by decide) fun c34 hc34 => ?_
        refine PW.pI q_220_43 (Or.inl t_ft_220_238) gF_40_23 gP_40_23 kd_294 Stab0 X33 (by decide) rfl (by omega) (by omega) fun M35 IM35 fM35 UM35 => ?_
        have FM35 := Fr.pu FML220_11_29 UM35.1 kd_294 (rfl : List.contains [40, 47] 40 = true)
        have tr36 := o_i_of fM35
        have X37 : Iv (gX 301) M35 := ⟨IM35.1, gX.of IM35.2⟩
        have trU38 := o_i_of fM35
        refine PW.cI q_220_46 (by decide) fun c39 hc39 => ?_
        refine PW.istore_n q_220_47 (by decide) ?_
        have L220_48_40 : ∀ (n : Nat) (ML220_48_40 : pM) (v41 : Int32), Iv (gX 301) ML220_48_40 → Fr [40, 47] M ML220_48_40 → 0 ≤ v41.toInt → v41.toInt ≤ 183 → grw ML220_48_40 c34.toInt.toNat → gcp ML220_48_40 301 (183 * c34.toInt.toNat) 296 33 v41.toInt → o_i (ML220_48_40 294) 23 = c34.toInt → (gLq ML220_48_40 M ∧ gHq ML220_48_40 M) → (183 - v41.toInt).toNat = n → PW G false 0 220 (p_mc 220) (p_msl 220) Kr 48 [(0, .ref 294), (1, .int v41)] [] 311 ML220_48_40 0 0 := by
          intro n
          induction n using Nat.strongRecOn with
          | ind n ih_L220_48_40 =>
          intro ML220_48_40 v41 IML220_48_40 FML220_48_40 hbL220_48_400 hbL220_48_401 hbL220_48_402 hbL220_48_403 hbL220_48_404 hbL220_48_405 hmL220_48_40
          refine PW.iload_n q_220_48 rfl ?_
          refine PW.cS q_220_49 (by decide) fun c42 hc42 => ?_
          refine PW.jc_ge q_220_52 rfl (fun h43 => ?_) (fun h43 => ?_)
          · skip
            have X44 : Iv gTT ML220_48_40 := ⟨IML220_48_40.1, gX.e301 IML220_48_40.2 (grw.all hbL220_48_402 (gSt.to hbL220_48_403 (by omega) (IML220_48_40.2.2.1 (by decide)).1))⟩
            refine PW.aload_n q_220_85 rfl ?_
            refine PW.dup q_220_86 rfl ?_
            refine PW.gI q_220_87 (Or.inl t_ft_220_238) gF_40_23 kd_294 X44.1 (by decide) fun x45 fx45 hx45 kx45 => ?_
            have trx45 := o_i_of fx45
            refine PW.cI q_220_90 (by decide) fun c46 hc46 => ?_
            refine PW.addN q_220_91 (by omega) (by omega) fun x47 hx47 => ?_
            refine PW.pI q_220_92 (Or.inl t_ft_220_238) gF_40_23 gP_40_23 kd_294 Stab0 X44 (by decide) rfl (by omega) (by omega) fun M48 IM48 fM48 UM48 => ?_
            have FM48 := Fr.pu FML220_48_40 UM48.1 kd_294 (rfl : List.contains [40, 47] 40 = true)
            have tr49 := o_i_of fM48
            refine PW.vret q_220_95 rfl (by decide) (by decide) ?_
            exact hK M48 IM48 FM48 (by omega) ⟨((UM48.i (c := 294) (k := 2) (Or.inr (by decide))).trans hbL220_48_405.1), (hbL220_48_405.2.pu UM48 (by decide))⟩
          · skip
            refine PW.aload_n q_220_55 rfl ?_
            refine PW.gR 301 q_220_56 (Or.inl t_ft_220_50) gF_40_21 kd_294 IML220_48_40.1 (by decide) rfl ?_
            refine PW.cS q_220_59 (by decide) fun c50 hc50 => ?_
            refine PW.aload_n q_220_62 rfl ?_
            refine PW.gI q_220_63 (Or.inl t_ft_220_238) gF_40_23 kd_294 IML220_48_40.1 (by decide) fun x51 fx51 hx51 kx51 => ?_
            have trx51 := o_i_of fx51
            refine PW.mulN q_220_66 (183) (by omega) x51 (fun h => n_eq.mpr (by omega)) (fun h => n_eq.mpr (by omega)) (by omega) (by omega) fun x52 hx52 => ?_
            refine PW.iload_n q_220_67 rfl ?_
            refine PW.addN q_220_68 (by omega) (by omega) fun x53 hx53 => ?_
            refine PW.aload_n q_220_69 rfl ?_
            refine PW.gR 296 q_220_70 (Or.inl t_ft_220_33) gF_40_6 kd_294 IML220_48_40.1 (by decide) rfl ?_
            refine PW.cB q_220_73 (by decide) fun c54 hc54 => ?_
            refine PW.iload_n q_220_75 rfl ?_
            refine PW.addN q_220_76 (by omega) (by omega) fun x55 hx55 => ?_
            refine PW.aH q_220_77 gA_42 kd_296 IML220_48_40.1 (by decide) (by omega) (by omega) fun x56 fx56 => ?_
            -- index (0, 1646) of 1464 at X12_keep 78
            have bsM57 := (InvB.arr IML220_48_40.1 kd_296 (by decide) gA_42).2.2 x55.toInt.toNat (by omega)
            rw [fx56] at bsM57
            refine PW.wB q_220_78 gA_47 kd_301 IML220_48_40.1 (by decide) (by omega) (by omega) (by rw [as47 (j := x55.toInt.toNat) c34.toInt.toNat v41.toInt.toNat (by omega) (by omega) (by omega)]; exact bsM57) fun M57 JM57 fM57 UM57 => ?_
            have IM57 : Iv (gX 301) M57 := ⟨JM57, gX.up IML220_48_40.2 UM57.1 (by decide)⟩
            have FM57 := Fr.pu FML220_48_40 UM57.1 kd_301 (rfl : List.contains [40, 47] 47 = true)
            have tr58 : o_i (M57 294) 23 = o_i (ML220_48_40 294) 23 := by rw [UM57.1 294 (g_ne kd_294 kd_301 (by decide))]
            refine PW.incN q_220_79 rfl (by decide) (by decide) (by omega) (by omega) fun x59 hx59 => ?_
            refine PW.goto q_220_82 rfl ?_
            refine PW.lvS (lk1 rfl (lk1 rfl lk0)) (ih_L220_48_40 _ ?_ M57 x59 IM57 FM57 (by omega) (by omega) (grw.step v41.toInt.toNat hbL220_48_402 UM57 (by omega) (by omega)) (gcp.step hbL220_48_403 UM57 (by omega) (by decide) fM57 (by omega) fx56 (by omega) (by omega)) (by omega) ⟨((congrArg (fun e => o_i e 2) (UM57.1 294 (by decide))).trans hbL220_48_405.1), (hbL220_48_405.2.cg (UM57.1 296 (by decide)) (UM57.1 294 (by decide)))⟩ rfl)
            omega
        exact PW.lvS (lk1 rfl (lk1 rfl lk0)) (L220_48_40 _ M35 c39 X37 FM35 (by omega) (by omega) (grw.of IM35.2) (gcp.zero (by omega)) (by omega) ⟨((UM35.i (c := 294) (k := 2) (Or.inr (by decide))).trans hbL220_11_293.1), (hbL220_11_293.2.pu UM35 (by decide))⟩ rfl)
      · skip
        refine PW.aload_n q_220_18 rfl ?_
        refine PW.gR 301 q_220_19 (Or.inl t_ft_220_50) gF_40_21 kd_294 IML220_11_29.1 (by decide) rfl ?_
        refine PW.iload_n q_220_22 rfl ?_
        refine PW.aload_n q_220_23 rfl ?_
        refine PW.gR 301 q_220_24 (Or.inl t_ft_220_50) gF_40_21 kd_294 IML220_11_29.1 (by decide) rfl ?_
        refine PW.iload_n q_220_27 rfl ?_
        refine PW.cS q_220_28 (by decide) fun c60 hc60 => ?_
        refine PW.addN q_220_31 (by omega) (by omega) fun x61 hx61 => ?_
        refine PW.aH q_220_32 gA_47 kd_301 IML220_11_29.1 (by decide) (by omega) (by omega) fun x62 fx62 => ?_
        have bsM63 := (InvB.arr IML220_11_29.1 kd_301 (by decide) gA_47).2.2 x61.toInt.toNat (by omega)
        rw [fx62] at bsM63
        refine PW.wB q_220_33 gA_47 kd_301 IML220_11_29.1 (by decide) (by omega) (by omega) (by rw [as4747 (j := x61.toInt.toNat) (by omega)]; exact bsM63) fun M63 JM63 fM63 UM63 => ?_
        have IM63 : Iv (gX 301) M63 := ⟨JM63, gX.up IML220_11_29.2 UM63.1 (by decide)⟩
        have FM63 := Fr.pu FML220_11_29 UM63.1 kd_301 (rfl : List.contains [40, 47] 47 = true)
        have tr64 : o_i (M63 294) 23 = o_i (ML220_11_29 294) 23 := by rw [UM63.1 294 (g_ne kd_294 kd_301 (by decide))]
        refine PW.incN q_220_34 rfl (by decide) (by decide) (by omega) (by omega) fun x65 hx65 => ?_
        refine PW.goto q_220_37 rfl ?_
        refine PW.lvS (lk1 rfl (lk1 rfl lk0)) (ih_L220_11_29 _ ?_ M63 x65 IM63 FM63 (by omega) (by omega) (gsh.step hbL220_11_292 UM63 (by omega) fM63 (by omega) fx62 (by omega) (by omega)) ⟨((congrArg (fun e => o_i e 2) (UM63.1 294 (by decide))).trans hbL220_11_293.1), (hbL220_11_293.2.cg (UM63.1 296 (by decide)) (UM63.1 294 (by decide)))⟩ rfl)
        omega
    exact PW.lvS (lk1 rfl (lk1 rfl lk0)) (L220_11_29 _ M c28 X27 F (by omega) (by omega) (gsh.zero (by omega)) ⟨rfl, gHq.refl⟩ rfl)
theorem c_X12_undo (G : pG) (Kr : pK) (M : pM) (I : Iv gTT M)  (hK : ∀ (x : Int32) (M1 : pM), Iv gTT M1 → Fr [40, 42] M M1 → ((gLq M1 M) ∧ gHq M1 M) → Kr.1 (some (.int x)) 311 M1) : PW G false 0 221 (p_mc 221) (p_msl 221) Kr 0 (lv_args 0 [.ref 294]) [] 311 M 0 0 := by
  have F : Fr [40, 42] M M := Fr.refl
  refine PW.aload_n q_221_0 rfl ?_
  refine PW.cI q_221_1 (by decide) fun c1 hc1 => ?_
  refine PW.pI q_221_2 (Or.inl t_ft_221_1) gF_40_0 gP_40_0 kd_294 Stab0 I (by decide) rfl (n_lo _) (n_hi _) fun M2 IM2 fM2 UM2 => ?_
  have FM2 := Fr.pu F UM2.1 kd_294 (rfl : List.contains [40, 42] 40 = true)
  have tr3 := UM2.i (c := 294) (k := 23) (Or.inr (by decide))
  refine PW.aload_n q_221_5 rfl ?_
  refine PW.gI q_221_6 (Or.inl t_ft_221_238) gF_40_23 kd_294 IM2.1 (by decide) fun x4 fx4 hx4 kx4 => ?_
  have trx4 := o_i_of fx4
  refine PW.jz_ne q_221_9 rfl (fun h5 => ?_) (fun h5 => ?_)
  · skip
    refine PW.aload_n q_221_14 rfl ?_
    refine PW.dup q_221_15 rfl ?_
    refine PW.gE q_221_16 (Or.inl t_ft_221_238) gF_40_23 kd_294 IM2.1 (by decide) fx4 ?_
    have tr6 := o_i_of fx4
    refine PW.cI q_221_19 (by decide) fun c7 hc7 => ?_
    refine PW.subN q_221_20 (by omega) (by omega) fun x8 hx8 => ?_
    refine PW.pI q_221_21 (Or.inl t_ft_221_238) gF_40_23 gP_40_23 kd_294 Stab0 IM2 (by decide) rfl (by omega) (by omega) fun M9 IM9 fM9 UM9 => ?_
    have FM9 := Fr.pu FM2 UM9.1 kd_294 (rfl : List.contains [40, 42] 40 = true)
    have tr10 := o_i_of fM9
    have X11 : Iv (gX 296) M9 := ⟨IM9.1, gX.of IM9.2⟩
    have trU12 := o_i_of fM9
    refine PW.cI q_221_24 (by decide) fun c13 hc13 => ?_
    refine PW.istore_n q_221_25 (by decide) ?_
    have L221_26_14 : ∀ (n : Nat) (ML221_26_14 : pM) (v15 : Int32), Iv (gX 296) ML221_26_14 → Fr [40, 42] M ML221_26_14 → 0 ≤ v15.toInt → v15.toInt ≤ 183 → gRp ML221_26_14 → gcp ML221_26_14 296 33 301 (183 * x8.toInt.toNat) v15.toInt → o_i (ML221_26_14 294) 23 = x8.toInt → (gLq ML221_26_14 M ∧ gHq ML221_26_14 M) → (183 - v15.toInt).toNat = n → PW G false 0 221 (p_mc 221) (p_msl 221) Kr 26 [(0, .ref 294), (1, .int v15)] [] 311 ML221_26_14 0 0 := by
      intro n
      induction n using Nat.strongRecOn with
      | ind n ih_L221_26_14 =>
      intro ML221_26_14 v15 IML221_26_14 FML221_26_14 hbL221_26_140 hbL221_26_141 hbL221_26_142 hbL221_26_143 hbL221_26_144 hbL221_26_145 hmL221_26_14
      refine PW.iload_n q_221_26 rfl ?_
      refine PW.cS q_221_27 (by decide) fun c16 hc16 => ?_
      refine PW.jc_ge q_221_30 rfl (fun h17 => ?_) (fun h17 => ?_)
      · skip
        have X18 : Iv gTT ML221_26_14 := ⟨IML221_26_14.1, gX.e296 IML221_26_14.2 (gSt.of hbL221_26_143 (by omega) (IML221_26_14.2.2.2.2.1 (by decide) _ (by omega)) hbL221_26_142)⟩
        refine PW.aload_n q_221_63 rfl ?_
        refine PW.gI q_221_64 (Or.inl t_ft_221_238) gF_40_23 kd_294 X18.1 (by decide) fun x19 fx19 hx19 kx19 => ?_
        have trx19 := o_i_of fx19
        refine PW.rI q_221_67 rfl (by decide) (by decide) ?_
        exact hK x19 ML221_26_14 X18 FML221_26_14 ⟨hbL221_26_145.1, hbL221_26_145.2⟩
      · skip
        refine PW.aload_n q_221_33 rfl ?_
        refine PW.gR 296 q_221_34 (Or.inl t_ft_221_33) gF_40_6 kd_294 IML221_26_14.1 (by decide) rfl ?_
        refine PW.cB q_221_37 (by decide) fun c20 hc20 => ?_
        refine PW.iload_n q_221_39 rfl ?_
        refine PW.addN q_221_40 (by omega) (by omega) fun x21 hx21 => ?_
        refine PW.aload_n q_221_41 rfl ?_
        refine PW.gR 301 q_221_42 (Or.inl t_ft_221_50) gF_40_21 kd_294 IML221_26_14.1 (by decide) rfl ?_
        refine PW.cS q_221_45 (by decide) fun c22 hc22 => ?_
        refine PW.aload_n q_221_48 rfl ?_
        refine PW.gI q_221_49 (Or.inl t_ft_221_238) gF_40_23 kd_294 IML221_26_14.1 (by decide) fun x23 fx23 hx23 kx23 => ?_
        have trx23 := o_i_of fx23
        refine PW.mulN q_221_52 (183) (by omega) x23 (fun h => n_eq.mpr (by omega)) (fun h => n_eq.mpr (by omega)) (by omega) (by omega) fun x24 hx24 => ?_
        refine PW.iload_n q_221_53 rfl ?_
        refine PW.addN q_221_54 (by omega) (by omega) fun x25 hx25 => ?_
        -- index (0, 1646) of 1464 at X12_undo 55
        refine PW.aH q_221_55 gA_47 kd_301 IML221_26_14.1 (by decide) (by omega) (by omega) fun x26 fx26 => ?_
        have bsM27 := (InvB.arr IML221_26_14.1 kd_301 (by decide) gA_47).2.2 x25.toInt.toNat (by omega)
        rw [fx26] at bsM27
        refine PW.wB q_221_56 gA_42 kd_296 IML221_26_14.1 (by decide) (by omega) (by omega) (by rw [as47' (p := x25.toInt.toNat) x8.toInt.toNat v15.toInt.toNat (by omega) (by omega) (by omega)]; exact bsM27) fun M27 JM27 fM27 UM27 => ?_
        have IM27 : Iv (gX 296) M27 := ⟨JM27, gX.up IML221_26_14.2 UM27.1 (by decide)⟩
        have FM27 := Fr.pu FML221_26_14 UM27.1 kd_296 (rfl : List.contains [40, 42] 42 = true)
        have tr28 : o_i (M27 294) 23 = o_i (ML221_26_14 294) 23 := by rw [UM27.1 294 (g_ne kd_294 kd_296 (by decide))]
        refine PW.incN q_221_57 rfl (by decide) (by decide) (by omega) (by omega) fun x29 hx29 => ?_
        refine PW.goto q_221_60 rfl ?_
        refine PW.lvS (lk1 rfl (lk1 rfl lk0)) (ih_L221_26_14 _ ?_ M27 x29 IM27 FM27 (by omega) (by omega) (gRp.step hbL221_26_142 UM27 (by omega)) (gcp.step hbL221_26_143 UM27 (by omega) (by decide) fM27 (by omega) fx26 (by omega) (by omega)) (by omega) ⟨((congrArg (fun e => o_i e 2) (UM27.1 294 (by decide))).trans hbL221_26_145.1), (hbL221_26_145.2.st UM27 (by omega))⟩ rfl)
        omega
    exact PW.lvS (lk1 rfl (lk1 rfl lk0)) (L221_26_14 _ M9 c13 X11 FM9 (by omega) (by omega) (IM9.2.2.1.2) (gcp.zero (by omega)) (by omega) ⟨((UM9.i (c := 294) (k := 2) (Or.inr (by decide))).trans (UM2.i (c := 294) (k := 2) (Or.inr (by decide)))), ((gHq.refl.pu UM2 (by decide)).pu UM9 (by decide))⟩ rfl)
  · skip
    refine PW.cI q_221_12 (by decide) fun c30 hc30 => ?_
    refine PW.rI q_221_13 rfl (by decide) (by decide) ?_
    exact hK c30 M2 IM2 FM2 ⟨(UM2.i (c := 294) (k := 2) (Or.inr (by decide))), (gHq.refl.pu UM2 (by decide))⟩
theorem c_X12_image (G : pG) (Kr : pK) (M : pM) (I : Iv gTT M) (a1 : Int32) (hK : ∀ (x : Int32) (M1 : pM), Iv gTT M1 → Fr [40, 53, 54, 55] M M1 → 0 ≤ x.toInt → x.toInt ≤ 1 → ((gLq M1 M) ∧ gHq M1 M) → Kr.1 (some (.int x)) 311 M1) : PW G false 1 272 (p_mc 272) (p_msl 272) Kr 0 (lv_args 0 [.ref 294, .int a1]) [] 311 M 0 0 := by
  have F : Fr [40, 53, 54, 55] M M := Fr.refl
  refine PW.aload_n q_272_0 rfl ?_
  refine PW.cI q_272_1 (by decide) fun c1 hc1 => ?_
  refine PW.pI q_272_2 (Or.inl t_ft_272_1) gF_40_0 gP_40_0 kd_294 Stab0 I (by decide) rfl (n_lo _) (n_hi _) fun M2 IM2 fM2 UM2 => ?_
  have FM2 := Fr.pu F UM2.1 kd_294 (rfl : List.contains [40, 53, 54, 55] 40 = true)
  refine PW.iload_n q_272_5 rfl ?_
  refine PW.cI q_272_6 (by decide) fun c3 hc3 => ?_
  refine PW.cI q_272_7 (by decide) fun c4 hc4 => ?_
  refine PW.callS (as := [_, _, _]) (rest := []) q_272_8 t_ms_272_176 (by decide) rfl (Nat.le_of_ble_eq_true rfl) (Nat.le_of_ble_eq_true rfl) (by decide) (by decide) ?_
  refine PW.iload_n q_166_0 rfl ?_
  refine PW.iload_n q_166_1 rfl ?_
  refine PW.jc_lt q_166_2 rfl (fun h5 => ?_) (fun h5 => ?_)
  · skip
    refine PW.cI q_166_14 (by decide) fun c6 hc6 => ?_
    refine PW.rZ q_166_15 rfl (by omega) (by omega) (by decide) (by decide) ?_
    refine PW.jz_ne q_272_11 rfl (fun h7 => False.elim (by omega)) (fun h7 => ?_)
    refine PW.cI q_272_14 (by decide) fun c8 hc8 => ?_
    refine PW.rZ q_272_15 rfl (by omega) (by omega) (by decide) (by decide) ?_
    exact hK c8 M2 IM2 FM2 (by omega) (by omega) ⟨(UM2.i (c := 294) (k := 2) (Or.inr (by decide))), (gHq.refl.pu UM2 (by decide))⟩
  · skip
    refine PW.iload_n q_166_5 rfl ?_
    refine PW.iload_n q_166_6 rfl ?_
    refine PW.jc_gt q_166_7 rfl (fun h9 => ?_) (fun h9 => ?_)
    · skip
      refine PW.cI q_166_14 (by decide) fun c10 hc10 => ?_
      refine PW.rZ q_166_15 rfl (by omega) (by omega) (by decide) (by decide) ?_
      refine PW.jz_ne q_272_11 rfl (fun h11 => False.elim (by omega)) (fun h11 => ?_)
      refine PW.cI q_272_14 (by decide) fun c12 hc12 => ?_
      refine PW.rZ q_272_15 rfl (by omega) (by omega) (by decide) (by decide) ?_
      exact hK c12 M2 IM2 FM2 (by omega) (by omega) ⟨(UM2.i (c := 294) (k := 2) (Or.inr (by decide))), (gHq.refl.pu UM2 (by decide))⟩
    · skip
      refine PW.cI q_166_10 (by decide) fun c13 hc13 => ?_
      refine PW.goto q_166_11 rfl ?_
      refine PW.rZ q_166_15 rfl (by omega) (by omega) (by decide) (by decide) ?_
      refine PW.jz_ne q_272_11 rfl (fun h14 => ?_) (fun h14 => False.elim (by omega))
      have X15 : Iv (gX 307) M2 := ⟨IM2.1, gX.of IM2.2⟩
      refine PW.cI q_272_16 (by decide) fun c16 hc16 => ?_
      refine PW.istore_n q_272_17 (by decide) ?_
      have L272_18_17 : ∀ (n : Nat) (ML272_18_17 : pM) (v18 : Int32), Iv (gX 307) ML272_18_17 → Fr [40, 53, 54, 55] M ML272_18_17 → 0 ≤ v18.toInt → v18.toInt ≤ 397 → gkw ML272_18_17 a1.toInt.toNat → gcp ML272_18_17 307 (397 * a1.toInt.toNat) 296 0 v18.toInt → (gLq ML272_18_17 M ∧ gHq ML272_18_17 M) → (397 - v18.toInt).toNat = n → PW G false 1 272 (p_mc 272) (p_msl 272) Kr 18 [(0, .ref 294), (1, .int a1), (2, .int v18)] [] 311 ML272_18_17 0 0 := by
        intro n
        induction n using Nat.strongRecOn with
        | ind n ih_L272_18_17 =>
        intro ML272_18_17 v18 IML272_18_17 FML272_18_17 hbL272_18_170 hbL272_18_171 hbL272_18_172 hbL272_18_173 hbL272_18_174 hmL272_18_17
        refine PW.iload_n q_272_18 rfl ?_
        refine PW.cS q_272_19 (by decide) fun c19 hc19 => ?_
        refine PW.jc_ge q_272_22 rfl (fun h20 => ?_) (fun h20 => ?_)
        · skip
          have X21 : Iv gTT ML272_18_17 := ⟨IML272_18_17.1, gX.e307 IML272_18_17.2 (gkw.all hbL272_18_172 (g_sa_c (g_216 IML272_18_17.1) (fun z hz => (hbL272_18_173 z (by omega)).trans (by rw [Nat.zero_add])) (IML272_18_17.2.2.1 (by decide))))⟩
          refine PW.cI q_272_49 (by decide) fun c22 hc22 => ?_
          refine PW.istore_n q_272_50 (by decide) ?_
          have L272_51_23 : ∀ (n : Nat) (ML272_51_23 : pM) (v24 : Int32), Iv (gTT) ML272_51_23 → Fr [40, 53, 54, 55] M ML272_51_23 → 0 ≤ v24.toInt → v24.toInt ≤ 8 → (gLq ML272_51_23 M ∧ gHq ML272_51_23 M) → (8 - v24.toInt).toNat = n → PW G false 1 272 (p_mc 272) (p_msl 272) Kr 51 [(0, .ref 294), (1, .int a1), (2, .int v24)] [] 311 ML272_51_23 0 0 := by
            intro n
            induction n using Nat.strongRecOn with
            | ind n ih_L272_51_23 =>
            intro ML272_51_23 v24 IML272_51_23 FML272_51_23 hbL272_51_230 hbL272_51_231 hbL272_51_232 hmL272_51_23
            refine PW.iload_n q_272_51 rfl ?_
            refine PW.cB q_272_52 (by decide) fun c25 hc25 => ?_
            refine PW.jc_ge q_272_54 rfl (fun h26 => ?_) (fun h26 => ?_)
            · skip
              refine PW.aload_n q_272_80 rfl ?_
              refine PW.gR 309 q_272_81 (Or.inl t_ft_272_75) gF_40_41 kd_294 IML272_51_23.1 (by decide) rfl ?_
              refine PW.iload_n q_272_84 rfl ?_
              refine PW.cI q_272_85 (by decide) fun c27 hc27 => ?_
              refine PW.wZ q_272_86 gA_55 kd_309 Stab0 IML272_51_23 (by decide) rfl gC_55_0_1 (by omega) (by omega) (by omega) (by omega) fun M28 IM28 fM28 UM28 => ?_
              have FM28 := Fr.pu FML272_51_23 UM28.1 kd_309 (rfl : List.contains [40, 53, 54, 55] 55 = true)
              refine PW.cI q_272_87 (by decide) fun c29 hc29 => ?_
              refine PW.rZ q_272_88 rfl (by omega) (by omega) (by decide) (by decide) ?_
              exact hK c29 M28 IM28 FM28 (by omega) (by omega) ⟨((congrArg (fun e => o_i e 2) (UM28.1 294 (by decide))).trans hbL272_51_232.1), (hbL272_51_232.2.cg (UM28.1 296 (by decide)) (UM28.1 294 (by decide)))⟩
            · skip
              refine PW.aload_n q_272_57 rfl ?_
              refine PW.gR 308 q_272_58 (Or.inl t_ft_272_72) gF_40_40 kd_294 IML272_51_23.1 (by decide) rfl ?_
              refine PW.cB q_272_61 (by decide) fun c30 hc30 => ?_
              refine PW.iload_n q_272_63 rfl ?_
              refine PW.mulN q_272_64 (8) (by omega) a1 (fun h => n_eq.mpr (by omega)) (fun h => n_eq.mpr (by omega)) (by omega) (by omega) fun x31 hx31 => ?_
              refine PW.iload_n q_272_65 rfl ?_
              refine PW.addN q_272_66 (by omega) (by omega) fun x32 hx32 => ?_
              refine PW.aload_n q_272_67 rfl ?_
              refine PW.gR 299 q_272_68 (Or.inl t_ft_272_43) gF_40_9 kd_294 IML272_51_23.1 (by decide) rfl ?_
              refine PW.iload_n q_272_71 rfl ?_
              refine PW.aL q_272_72 rfl kd_299 IML272_51_23.1 (by decide) (by omega) (by omega) fun l33 fl33 => ?_
              refine PW.wL q_272_73 rfl kd_308 Stab0 IML272_51_23 (by decide) rfl (by omega) (by omega) fun M34 IM34 UM34 => ?_
              have FM34 := Fr.pu FML272_51_23 UM34 kd_308 (rfl : List.contains [40, 53, 54, 55] 54 = true)
              refine PW.incN q_272_74 rfl (by decide) (by decide) (by omega) (by omega) fun x35 hx35 => ?_
              refine PW.goto q_272_77 rfl ?_
              refine PW.lvS (lk1 rfl (lk1 rfl (lk1 rfl lk0))) (ih_L272_51_23 _ ?_ M34 x35 IM34 FM34 (by omega) (by omega) ⟨((congrArg (fun e => o_i e 2) (UM34 294 (by decide))).trans hbL272_51_232.1), (hbL272_51_232.2.cg (UM34 296 (by decide)) (UM34 294 (by decide)))⟩ rfl)
              omega
          exact PW.lvS (lk1 rfl (lk1 rfl (lk1 rfl lk0))) (L272_51_23 _ ML272_18_17 c22 X21 FML272_18_17 (by omega) (by omega) ⟨hbL272_18_174.1, hbL272_18_174.2⟩ rfl)
        · skip
          refine PW.aload_n q_272_25 rfl ?_
          refine PW.gR 307 q_272_26 (Or.inl t_ft_272_69) gF_40_39 kd_294 IML272_18_17.1 (by decide) rfl ?_
          refine PW.cS q_272_29 (by decide) fun c36 hc36 => ?_
          refine PW.iload_n q_272_32 rfl ?_
          refine PW.mulN q_272_33 (397) (by omega) a1 (fun h => n_eq.mpr (by omega)) (fun h => n_eq.mpr (by omega)) (by omega) (by omega) fun x37 hx37 => ?_
          refine PW.iload_n q_272_34 rfl ?_
          refine PW.addN q_272_35 (by omega) (by omega) fun x38 hx38 => ?_
          refine PW.aload_n q_272_36 rfl ?_
          refine PW.gR 296 q_272_37 (Or.inl t_ft_272_33) gF_40_6 kd_294 IML272_18_17.1 (by decide) rfl ?_
          refine PW.iload_n q_272_40 rfl ?_
          refine PW.aH q_272_41 gA_42 kd_296 IML272_18_17.1 (by decide) (by omega) (by omega) fun x39 fx39 => ?_
          have bsM40 := (InvB.arr IML272_18_17.1 kd_296 (by decide) gA_42).2.2 v18.toInt.toNat (by omega)
          rw [fx39] at bsM40
          refine PW.wB q_272_42 gA_53 kd_307 IML272_18_17.1 (by decide) (by omega) (by omega) (by rw [as53 (j := v18.toInt.toNat) a1.toInt.toNat (by omega) (by omega)]; exact bsM40) fun M40 JM40 fM40 UM40 => ?_
          have IM40 : Iv (gX 307) M40 := ⟨JM40, gX.up IML272_18_17.2 UM40.1 (by decide)⟩
          have FM40 := Fr.pu FML272_18_17 UM40.1 kd_307 (rfl : List.contains [40, 53, 54, 55] 53 = true)
          refine PW.incN q_272_43 rfl (by decide) (by decide) (by omega) (by omega) fun x41 hx41 => ?_
          refine PW.goto q_272_46 rfl ?_
          refine PW.lvS (lk1 rfl (lk1 rfl (lk1 rfl lk0))) (ih_L272_18_17 _ ?_ M40 x41 IM40 FM40 (by omega) (by omega) (gkw.step v18.toInt.toNat IML272_18_17.1 hbL272_18_172 UM40 (by omega) (by omega)) (gcp.step hbL272_18_173 UM40 (by omega) (by decide) fM40 (by omega) fx39 (by omega) (by omega)) ⟨((congrArg (fun e => o_i e 2) (UM40.1 294 (by decide))).trans hbL272_18_174.1), (hbL272_18_174.2.cg (UM40.1 296 (by decide)) (UM40.1 294 (by decide)))⟩ rfl)
          omega
      exact PW.lvS (lk1 rfl (lk1 rfl (lk1 rfl lk0))) (L272_18_17 _ M2 c16 X15 FM2 (by omega) (by omega) (gkw.of IM2.2) (gcp.zero (by omega)) ⟨(UM2.i (c := 294) (k := 2) (Or.inr (by decide))), (gHq.refl.pu UM2 (by decide))⟩ rfl)
theorem c_X12_restore (G : pG) (Kr : pK) (M : pM) (I : Iv gTT M) (a1 : Int32) (hK : ∀ (x : Int32) (M1 : pM), Iv gTT M1 → Fr [40, 42, 45] M M1 → 0 ≤ x.toInt → x.toInt ≤ 1 → (gLq M1 M) → Kr.1 (some (.int x)) 311 M1) : PW G false 1 273 (p_mc 273) (p_msl 273) Kr 0 (lv_args 0 [.ref 294, .int a1]) [] 311 M 0 0 := by
  have F : Fr [40, 42, 45] M M := Fr.refl
  refine PW.aload_n q_273_0 rfl ?_
  refine PW.cI q_273_1 (by decide) fun c1 hc1 => ?_
  refine PW.pI q_273_2 (Or.inl t_ft_273_1) gF_40_0 gP_40_0 kd_294 Stab0 I (by decide) rfl (n_lo _) (n_hi _) fun M2 IM2 fM2 UM2 => ?_
  have FM2 := Fr.pu F UM2.1 kd_294 (rfl : List.contains [40, 42, 45] 40 = true)
  refine PW.iload_n q_273_5 rfl ?_
  refine PW.cI q_273_6 (by decide) fun c3 hc3 => ?_
  refine PW.cI q_273_7 (by decide) fun c4 hc4 => ?_
  refine PW.callS (as := [_, _, _]) (rest := []) q_273_8 t_ms_273_176 (by decide) rfl (Nat.le_of_ble_eq_true rfl) (Nat.le_of_ble_eq_true rfl) (by decide) (by decide) ?_
  refine PW.iload_n q_166_0 rfl ?_
  refine PW.iload_n q_166_1 rfl ?_
  refine PW.jc_lt q_166_2 rfl (fun h5 => ?_) (fun h5 => ?_)
  · skip
    refine PW.cI q_166_14 (by decide) fun c6 hc6 => ?_
    refine PW.rZ q_166_15 rfl (by omega) (by omega) (by decide) (by decide) ?_
    refine PW.jz_eq q_273_11 rfl (fun h7 => ?_) (fun h7 => False.elim (by omega))
    refine PW.cI q_273_23 (by decide) fun c8 hc8 => ?_
    refine PW.rZ q_273_24 rfl (by omega) (by omega) (by decide) (by decide) ?_
    exact hK c8 M2 IM2 FM2 (by omega) (by omega) (UM2.i (c := 294) (k := 2) (Or.inr (by decide)))
  · skip
    refine PW.iload_n q_166_5 rfl ?_
    refine PW.iload_n q_166_6 rfl ?_
    refine PW.jc_gt q_166_7 rfl (fun h9 => ?_) (fun h9 => ?_)
    · skip
      refine PW.cI q_166_14 (by decide) fun c10 hc10 => ?_
      refine PW.rZ q_166_15 rfl (by omega) (by omega) (by decide) (by decide) ?_
      refine PW.jz_eq q_273_11 rfl (fun h11 => ?_) (fun h11 => False.elim (by omega))
      refine PW.cI q_273_23 (by decide) fun c12 hc12 => ?_
      refine PW.rZ q_273_24 rfl (by omega) (by omega) (by decide) (by decide) ?_
      exact hK c12 M2 IM2 FM2 (by omega) (by omega) (UM2.i (c := 294) (k := 2) (Or.inr (by decide)))
    · skip
      refine PW.cI q_166_10 (by decide) fun c13 hc13 => ?_
      refine PW.goto q_166_11 rfl ?_
      refine PW.rZ q_166_15 rfl (by omega) (by omega) (by decide) (by decide) ?_
      refine PW.jz_eq q_273_11 rfl (fun h14 => False.elim (by omega)) (fun h14 => ?_)
      refine PW.aload_n q_273_14 rfl ?_
      refine PW.gR 309 q_273_15 (Or.inl t_ft_273_75) gF_40_41 kd_294 IM2.1 (by decide) rfl ?_
      refine PW.iload_n q_273_18 rfl ?_
      refine PW.aZ q_273_19 gA_55 kd_309 IM2.1 (by decide) gB_55_0_1 (by omega) (by omega) fun x15 fx15 hx15 kx15 => ?_
      refine PW.jz_ne q_273_20 rfl (fun h16 => ?_) (fun h16 => ?_)
      · skip
        have X17 : Iv (gX 296) M2 := ⟨IM2.1, gX.of IM2.2⟩
        refine PW.cI q_273_25 (by decide) fun c18 hc18 => ?_
        refine PW.istore_n q_273_26 (by decide) ?_
        have L273_27_19 : ∀ (n : Nat) (ML273_27_19 : pM) (v20 : Int32), Iv (gX 296) ML273_27_19 → Fr [40, 42, 45] M ML273_27_19 → 0 ≤ v20.toInt → v20.toInt ≤ 397 → gcp ML273_27_19 296 0 307 (397 * a1.toInt.toNat) v20.toInt → gLq ML273_27_19 M → (397 - v20.toInt).toNat = n → PW G false 1 273 (p_mc 273) (p_msl 273) Kr 27 [(0, .ref 294), (1, .int a1), (2, .int v20)] [] 311 ML273_27_19 0 0 := by
          intro n
          induction n using Nat.strongRecOn with
          | ind n ih_L273_27_19 =>
          intro ML273_27_19 v20 IML273_27_19 FML273_27_19 hbL273_27_190 hbL273_27_191 hbL273_27_192 hbL273_27_193 hmL273_27_19
          refine PW.iload_n q_273_27 rfl ?_
          refine PW.cS q_273_28 (by decide) fun c21 hc21 => ?_
          refine PW.jc_ge q_273_31 rfl (fun h22 => ?_) (fun h22 => ?_)
          · skip
            have X23 : Iv gTT ML273_27_19 := ⟨IML273_27_19.1, gX.e296 IML273_27_19.2 (g_sa_c (g_216' IML273_27_19.1 (u := a1.toInt.toNat) (by omega)) (fun z hz => by have w := hbL273_27_192 z (by omega); rw [Nat.zero_add] at w; exact w) (IML273_27_19.2.2.2.2.2 (by decide) _ (by omega)))⟩
            refine PW.cI q_273_58 (by decide) fun c24 hc24 => ?_
            refine PW.istore_n q_273_59 (by decide) ?_
            have L273_60_25 : ∀ (n : Nat) (ML273_60_25 : pM) (v26 : Int32), Iv (gTT) ML273_60_25 → Fr [40, 42, 45] M ML273_60_25 → 0 ≤ v26.toInt → v26.toInt ≤ 8 → gLq ML273_60_25 M → (8 - v26.toInt).toNat = n → PW G false 1 273 (p_mc 273) (p_msl 273) Kr 60 [(0, .ref 294), (1, .int a1), (2, .int v26)] [] 311 ML273_60_25 0 0 := by
              intro n
              induction n using Nat.strongRecOn with
              | ind n ih_L273_60_25 =>
              intro ML273_60_25 v26 IML273_60_25 FML273_60_25 hbL273_60_250 hbL273_60_251 hbL273_60_252 hmL273_60_25
              refine PW.iload_n q_273_60 rfl ?_
              refine PW.cB q_273_61 (by decide) fun c27 hc27 => ?_
              refine PW.jc_ge q_273_63 rfl (fun h28 => ?_) (fun h28 => ?_)
              · skip
                refine PW.aload_n q_273_89 rfl ?_
                refine PW.cI q_273_90 (by decide) fun c29 hc29 => ?_
                refine PW.pI q_273_91 (Or.inl t_ft_273_238) gF_40_23 gP_40_23 kd_294 Stab0 IML273_60_25 (by decide) rfl (by omega) (by omega) fun M30 IM30 fM30 UM30 => ?_
                have FM30 := Fr.pu FML273_60_25 UM30.1 kd_294 (rfl : List.contains [40, 42, 45] 40 = true)
                refine PW.cI q_273_94 (by decide) fun c31 hc31 => ?_
                refine PW.rZ q_273_95 rfl (by omega) (by omega) (by decide) (by decide) ?_
                exact hK c31 M30 IM30 FM30 (by omega) (by omega) ((UM30.i (c := 294) (k := 2) (Or.inr (by decide))).trans hbL273_60_252)
              · skip
                refine PW.aload_n q_273_66 rfl ?_
                refine PW.gR 299 q_273_67 (Or.inl t_ft_273_43) gF_40_9 kd_294 IML273_60_25.1 (by decide) rfl ?_
                refine PW.iload_n q_273_70 rfl ?_
                refine PW.aload_n q_273_71 rfl ?_
                refine PW.gR 308 q_273_72 (Or.inl t_ft_273_72) gF_40_40 kd_294 IML273_60_25.1 (by decide) rfl ?_
                refine PW.cB q_273_75 (by decide) fun c32 hc32 => ?_
                refine PW.iload_n q_273_77 rfl ?_
                refine PW.mulN q_273_78 (8) (by omega) a1 (fun h => n_eq.mpr (by omega)) (fun h => n_eq.mpr (by omega)) (by omega) (by omega) fun x33 hx33 => ?_
                refine PW.iload_n q_273_79 rfl ?_
                refine PW.addN q_273_80 (by omega) (by omega) fun x34 hx34 => ?_
                refine PW.aL q_273_81 rfl kd_308 IML273_60_25.1 (by decide) (by omega) (by omega) fun l35 fl35 => ?_
                refine PW.wL q_273_82 rfl kd_299 Stab0 IML273_60_25 (by decide) rfl (by omega) (by omega) fun M36 IM36 UM36 => ?_
                have FM36 := Fr.pu FML273_60_25 UM36 kd_299 (rfl : List.contains [40, 42, 45] 45 = true)
                refine PW.incN q_273_83 rfl (by decide) (by decide) (by omega) (by omega) fun x37 hx37 => ?_
                refine PW.goto q_273_86 rfl ?_
                refine PW.lvS (lk1 rfl (lk1 rfl (lk1 rfl lk0))) (ih_L273_60_25 _ ?_ M36 x37 IM36 FM36 (by omega) (by omega) ((congrArg (fun e => o_i e 2) (UM36 294 (by decide))).trans hbL273_60_252) rfl)
                omega
            exact PW.lvS (lk1 rfl (lk1 rfl (lk1 rfl lk0))) (L273_60_25 _ ML273_27_19 c24 X23 FML273_27_19 (by omega) (by omega) hbL273_27_193 rfl)
          · skip
            refine PW.aload_n q_273_34 rfl ?_
            refine PW.gR 296 q_273_35 (Or.inl t_ft_273_33) gF_40_6 kd_294 IML273_27_19.1 (by decide) rfl ?_
            refine PW.iload_n q_273_38 rfl ?_
            refine PW.aload_n q_273_39 rfl ?_
            refine PW.gR 307 q_273_40 (Or.inl t_ft_273_69) gF_40_39 kd_294 IML273_27_19.1 (by decide) rfl ?_
            refine PW.cS q_273_43 (by decide) fun c38 hc38 => ?_
            refine PW.iload_n q_273_46 rfl ?_
            refine PW.mulN q_273_47 (397) (by omega) a1 (fun h => n_eq.mpr (by omega)) (fun h => n_eq.mpr (by omega)) (by omega) (by omega) fun x39 hx39 => ?_
            refine PW.iload_n q_273_48 rfl ?_
            refine PW.addN q_273_49 (by omega) (by omega) fun x40 hx40 => ?_
            refine PW.aH q_273_50 gA_53 kd_307 IML273_27_19.1 (by decide) (by omega) (by omega) fun x41 fx41 => ?_
            have bsM42 := (InvB.arr IML273_27_19.1 kd_307 (by decide) gA_53).2.2 x40.toInt.toNat (by omega)
            rw [fx41] at bsM42
            refine PW.wB q_273_51 gA_42 kd_296 IML273_27_19.1 (by decide) (by omega) (by omega) (by rw [as53' (p := x40.toInt.toNat) a1.toInt.toNat (by omega) (by omega)]; exact bsM42) fun M42 JM42 fM42 UM42 => ?_
            have IM42 : Iv (gX 296) M42 := ⟨JM42, gX.up IML273_27_19.2 UM42.1 (by decide)⟩
            have FM42 := Fr.pu FML273_27_19 UM42.1 kd_296 (rfl : List.contains [40, 42, 45] 42 = true)
            refine PW.incN q_273_52 rfl (by decide) (by decide) (by omega) (by omega) fun x43 hx43 => ?_
            refine PW.goto q_273_55 rfl ?_
            refine PW.lvS (lk1 rfl (lk1 rfl (lk1 rfl lk0))) (ih_L273_27_19 _ ?_ M42 x43 IM42 FM42 (by omega) (by omega) (gcp.step hbL273_27_192 UM42 (by omega) (by decide) fM42 (by omega) fx41 (by omega) (by omega)) ((congrArg (fun e => o_i e 2) (UM42.1 294 (by decide))).trans hbL273_27_193) rfl)
            omega
        exact PW.lvS (lk1 rfl (lk1 rfl (lk1 rfl lk0))) (L273_27_19 _ M2 c18 X17 FM2 (by omega) (by omega) (gcp.zero (by omega)) (UM2.i (c := 294) (k := 2) (Or.inr (by decide))) rfl)
      · skip
        refine PW.cI q_273_23 (by decide) fun c44 hc44 => ?_
        refine PW.rZ q_273_24 rfl (by omega) (by omega) (by decide) (by decide) ?_
        exact hK c44 M2 IM2 FM2 (by omega) (by omega) (UM2.i (c := 294) (k := 2) (Or.inr (by decide)))
