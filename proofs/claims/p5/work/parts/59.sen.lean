theorem q_261_0 : p_tb 261 0 = some (.aload_n 0, 1) := by decide +kernel
theorem q_261_1 : p_tb 261 1 = some (.getfield 40, 3) := by decide +kernel
theorem q_261_4 : p_tb 261 4 = some (.iconst 3, 1) := by decide +kernel
theorem q_261_5 : p_tb 261 5 = some (.aload_n 0, 1) := by decide +kernel
theorem q_261_6 : p_tb 261 6 = some (.getfield 382, 3) := by decide +kernel
theorem q_261_9 : p_tb 261 9 = some (.imul, 1) := by decide +kernel
theorem q_261_10 : p_tb 261 10 = some (.iload_n 1, 1) := by decide +kernel
theorem q_261_11 : p_tb 261 11 = some (.iastore, 1) := by decide +kernel
theorem q_261_12 : p_tb 261 12 = some (.aload_n 0, 1) := by decide +kernel
theorem q_261_13 : p_tb 261 13 = some (.getfield 40, 3) := by decide +kernel
theorem q_261_16 : p_tb 261 16 = some (.iconst 3, 1) := by decide +kernel
theorem q_261_17 : p_tb 261 17 = some (.aload_n 0, 1) := by decide +kernel
theorem q_261_18 : p_tb 261 18 = some (.getfield 382, 3) := by decide +kernel
theorem q_261_21 : p_tb 261 21 = some (.imul, 1) := by decide +kernel
theorem q_261_22 : p_tb 261 22 = some (.iconst 1, 1) := by decide +kernel
theorem q_261_23 : p_tb 261 23 = some (.iadd, 1) := by decide +kernel
theorem q_261_24 : p_tb 261 24 = some (.iload_n 2, 1) := by decide +kernel
theorem q_261_25 : p_tb 261 25 = some (.iastore, 1) := by decide +kernel
theorem q_261_26 : p_tb 261 26 = some (.aload_n 0, 1) := by decide +kernel
theorem q_261_27 : p_tb 261 27 = some (.getfield 40, 3) := by decide +kernel
theorem q_261_30 : p_tb 261 30 = some (.iconst 3, 1) := by decide +kernel
theorem q_261_31 : p_tb 261 31 = some (.aload_n 0, 1) := by decide +kernel
theorem q_261_32 : p_tb 261 32 = some (.getfield 382, 3) := by decide +kernel
theorem q_261_35 : p_tb 261 35 = some (.imul, 1) := by decide +kernel
theorem q_261_36 : p_tb 261 36 = some (.iconst 2, 1) := by decide +kernel
theorem q_261_37 : p_tb 261 37 = some (.iadd, 1) := by decide +kernel
theorem q_261_38 : p_tb 261 38 = some (.iload_n 3, 1) := by decide +kernel
theorem q_261_39 : p_tb 261 39 = some (.iastore, 1) := by decide +kernel
theorem q_261_40 : p_tb 261 40 = some (.aload_n 0, 1) := by decide +kernel
theorem q_261_41 : p_tb 261 41 = some (.dup, 1) := by decide +kernel
theorem q_261_42 : p_tb 261 42 = some (.getfield 382, 3) := by decide +kernel
theorem q_261_45 : p_tb 261 45 = some (.iconst 1, 1) := by decide +kernel
theorem q_261_46 : p_tb 261 46 = some (.iadd, 1) := by decide +kernel
theorem q_261_47 : p_tb 261 47 = some (.putfield 382, 3) := by decide +kernel
theorem q_261_50 : p_tb 261 50 = some (.return_, 1) := by decide +kernel
theorem t_ft_261_382 : p_f2 p_ft (p_mK 261) 382 = some (11, 33) := by decide +kernel
theorem t_ft_261_40 : p_f2 p_ft (p_mK 261) 40 = some (11, 8) := by decide +kernel
theorem gC_44_0_120 : gC 44 0 120 (-2147483648) 2147483647 := gC.of (by decide +kernel)
theorem gC_44_1_121 : gC 44 1 121 (-2147483648) 2147483647 := gC.of (by decide +kernel)
theorem gC_44_2_122 : gC 44 2 122 (-2147483648) 2147483647 := gC.of (by decide +kernel)
theorem q_263_0 : p_tb 263 0 = some (.aload_n 0, 1) := by decide +kernel
theorem q_263_1 : p_tb 263 1 = some (.getfield 385, 3) := by decide +kernel
theorem q_263_4 : p_tb 263 4 = some (.ifCond .le 50, 3) := by decide +kernel
theorem q_263_7 : p_tb 263 7 = some (.aload_n 0, 1) := by decide +kernel
theorem q_263_8 : p_tb 263 8 = some (.getfield 62, 3) := by decide +kernel
theorem q_263_11 : p_tb 263 11 = some (.aload_n 0, 1) := by decide +kernel
theorem q_263_12 : p_tb 263 12 = some (.getfield 385, 3) := by decide +kernel
theorem q_263_15 : p_tb 263 15 = some (.iconst 1, 1) := by decide +kernel
theorem q_263_16 : p_tb 263 16 = some (.isub, 1) := by decide +kernel
theorem q_263_17 : p_tb 263 17 = some (.iaload, 1) := by decide +kernel
theorem q_263_18 : p_tb 263 18 = some (.bipush 20, 2) := by decide +kernel
theorem q_263_20 : p_tb 263 20 = some (.if_icmp .ne 34, 3) := by decide +kernel
theorem q_263_23 : p_tb 263 23 = some (.aload_n 0, 1) := by decide +kernel
theorem q_263_24 : p_tb 263 24 = some (.dup, 1) := by decide +kernel
theorem q_263_25 : p_tb 263 25 = some (.getfield 385, 3) := by decide +kernel
theorem q_263_28 : p_tb 263 28 = some (.iconst 1, 1) := by decide +kernel
theorem q_263_29 : p_tb 263 29 = some (.isub, 1) := by decide +kernel
theorem q_263_30 : p_tb 263 30 = some (.putfield 385, 3) := by decide +kernel
theorem q_263_33 : p_tb 263 33 = some (.aload_n 0, 1) := by decide +kernel
theorem q_263_34 : p_tb 263 34 = some (.dup, 1) := by decide +kernel
theorem q_263_35 : p_tb 263 35 = some (.getfield 392, 3) := by decide +kernel
theorem q_263_38 : p_tb 263 38 = some (.iconst 1, 1) := by decide +kernel
theorem q_263_39 : p_tb 263 39 = some (.isub, 1) := by decide +kernel
theorem q_263_40 : p_tb 263 40 = some (.putfield 392, 3) := by decide +kernel
theorem q_263_43 : p_tb 263 43 = some (.aload_n 0, 1) := by decide +kernel
theorem q_263_44 : p_tb 263 44 = some (.bipush 20, 2) := by decide +kernel
theorem q_263_46 : p_tb 263 46 = some (.iconst 0, 1) := by decide +kernel
theorem q_263_47 : p_tb 263 47 = some (.iconst 0, 1) := by decide +kernel
theorem q_263_48 : p_tb 263 48 = some (.invokevirtual 388, 3) := by decide +kernel
theorem q_263_51 : p_tb 263 51 = some (.goto (-51), 3) := by decide +kernel
theorem q_263_54 : p_tb 263 54 = some (.return_, 1) := by decide +kernel
theorem t_ft_263_385 : p_f2 p_ft (p_mK 263) 385 = some (11, 35) := by decide +kernel
theorem t_ft_263_392 : p_f2 p_ft (p_mK 263) 392 = some (11, 36) := by decide +kernel
theorem t_ft_263_62 : p_f2 p_ft (p_mK 263) 62 = some (11, 32) := by decide +kernel
theorem t_mv_263_388 : p_f2 p_mv (p_mK 263) 388 = some 261 := by decide +kernel
theorem q_262_0 : p_tb 262 0 = some (.aload_n 0, 1) := by decide +kernel
theorem q_262_1 : p_tb 262 1 = some (.getfield 385, 3) := by decide +kernel
theorem q_262_4 : p_tb 262 4 = some (.ifCond .le 69, 3) := by decide +kernel
theorem q_262_7 : p_tb 262 7 = some (.aload_n 0, 1) := by decide +kernel
theorem q_262_8 : p_tb 262 8 = some (.getfield 62, 3) := by decide +kernel
theorem q_262_11 : p_tb 262 11 = some (.aload_n 0, 1) := by decide +kernel
theorem q_262_12 : p_tb 262 12 = some (.getfield 385, 3) := by decide +kernel
theorem q_262_15 : p_tb 262 15 = some (.iconst 1, 1) := by decide +kernel
theorem q_262_16 : p_tb 262 16 = some (.isub, 1) := by decide +kernel
theorem q_262_17 : p_tb 262 17 = some (.iaload, 1) := by decide +kernel
theorem q_262_18 : p_tb 262 18 = some (.bipush 21, 2) := by decide +kernel
theorem q_262_20 : p_tb 262 20 = some (.if_icmp .eq 25, 3) := by decide +kernel
theorem q_262_23 : p_tb 262 23 = some (.aload_n 0, 1) := by decide +kernel
theorem q_262_24 : p_tb 262 24 = some (.getfield 62, 3) := by decide +kernel
theorem q_262_27 : p_tb 262 27 = some (.aload_n 0, 1) := by decide +kernel
theorem q_262_28 : p_tb 262 28 = some (.getfield 385, 3) := by decide +kernel
theorem q_262_31 : p_tb 262 31 = some (.iconst 1, 1) := by decide +kernel
theorem q_262_32 : p_tb 262 32 = some (.isub, 1) := by decide +kernel
theorem q_262_33 : p_tb 262 33 = some (.iaload, 1) := by decide +kernel
theorem q_262_34 : p_tb 262 34 = some (.bipush 22, 2) := by decide +kernel
theorem q_262_36 : p_tb 262 36 = some (.if_icmp .ne 37, 3) := by decide +kernel
theorem q_262_39 : p_tb 262 39 = some (.iload_n 1, 1) := by decide +kernel
theorem q_262_40 : p_tb 262 40 = some (.bipush 22, 2) := by decide +kernel
theorem q_262_42 : p_tb 262 42 = some (.if_icmp .ne 31, 3) := by decide +kernel
theorem q_262_45 : p_tb 262 45 = some (.aload_n 0, 1) := by decide +kernel
theorem q_262_46 : p_tb 262 46 = some (.dup, 1) := by decide +kernel
theorem q_262_47 : p_tb 262 47 = some (.getfield 385, 3) := by decide +kernel
theorem q_262_50 : p_tb 262 50 = some (.iconst 1, 1) := by decide +kernel
theorem q_262_51 : p_tb 262 51 = some (.isub, 1) := by decide +kernel
theorem q_262_52 : p_tb 262 52 = some (.putfield 385, 3) := by decide +kernel
theorem q_262_55 : p_tb 262 55 = some (.aload_n 0, 1) := by decide +kernel
theorem q_262_56 : p_tb 262 56 = some (.aload_n 0, 1) := by decide +kernel
theorem q_262_57 : p_tb 262 57 = some (.getfield 62, 3) := by decide +kernel
theorem q_262_60 : p_tb 262 60 = some (.aload_n 0, 1) := by decide +kernel
theorem q_262_61 : p_tb 262 61 = some (.getfield 385, 3) := by decide +kernel
theorem q_262_64 : p_tb 262 64 = some (.iaload, 1) := by decide +kernel
theorem q_262_65 : p_tb 262 65 = some (.iconst 0, 1) := by decide +kernel
theorem q_262_66 : p_tb 262 66 = some (.iconst 0, 1) := by decide +kernel
theorem q_262_67 : p_tb 262 67 = some (.invokevirtual 388, 3) := by decide +kernel
theorem q_262_70 : p_tb 262 70 = some (.goto (-70), 3) := by decide +kernel
theorem q_262_73 : p_tb 262 73 = some (.return_, 1) := by decide +kernel
theorem t_ft_262_385 : p_f2 p_ft (p_mK 262) 385 = some (11, 35) := by decide +kernel
theorem t_ft_262_62 : p_f2 p_ft (p_mK 262) 62 = some (11, 32) := by decide +kernel
theorem t_mv_262_388 : p_f2 p_mv (p_mK 262) 388 = some 261 := by decide +kernel
theorem q_264_0 : p_tb 264 0 = some (.aload_n 0, 1) := by decide +kernel
theorem q_264_1 : p_tb 264 1 = some (.ldc2_w 118, 3) := by decide +kernel
theorem q_264_4 : p_tb 264 4 = some (.invokevirtual 201, 3) := by decide +kernel
theorem q_264_7 : p_tb 264 7 = some (.ifCond .eq 7, 3) := by decide +kernel
theorem q_264_10 : p_tb 264 10 = some (.iconst 0, 1) := by decide +kernel
theorem q_264_11 : p_tb 264 11 = some (.goto 104, 3) := by decide +kernel
theorem q_264_14 : p_tb 264 14 = some (.aload_n 0, 1) := by decide +kernel
theorem q_264_15 : p_tb 264 15 = some (.ldc2_w 120, 3) := by decide +kernel
theorem q_264_18 : p_tb 264 18 = some (.invokevirtual 201, 3) := by decide +kernel
theorem q_264_21 : p_tb 264 21 = some (.ifCond .eq 7, 3) := by decide +kernel
theorem q_264_24 : p_tb 264 24 = some (.iconst 1, 1) := by decide +kernel
theorem q_264_25 : p_tb 264 25 = some (.goto 90, 3) := by decide +kernel
theorem q_264_28 : p_tb 264 28 = some (.aload_n 0, 1) := by decide +kernel
theorem q_264_29 : p_tb 264 29 = some (.ldc2_w 122, 3) := by decide +kernel
theorem q_264_32 : p_tb 264 32 = some (.invokevirtual 201, 3) := by decide +kernel
theorem q_264_35 : p_tb 264 35 = some (.ifCond .eq 7, 3) := by decide +kernel
theorem q_264_38 : p_tb 264 38 = some (.iconst 2, 1) := by decide +kernel
theorem q_264_39 : p_tb 264 39 = some (.goto 76, 3) := by decide +kernel
theorem q_264_42 : p_tb 264 42 = some (.aload_n 0, 1) := by decide +kernel
theorem q_264_43 : p_tb 264 43 = some (.ldc2_w 124, 3) := by decide +kernel
theorem q_264_46 : p_tb 264 46 = some (.invokevirtual 201, 3) := by decide +kernel
theorem q_264_49 : p_tb 264 49 = some (.ifCond .eq 7, 3) := by decide +kernel
theorem q_264_52 : p_tb 264 52 = some (.iconst 3, 1) := by decide +kernel
theorem q_264_53 : p_tb 264 53 = some (.goto 62, 3) := by decide +kernel
theorem q_264_56 : p_tb 264 56 = some (.aload_n 0, 1) := by decide +kernel
theorem q_264_57 : p_tb 264 57 = some (.ldc2_w 126, 3) := by decide +kernel
theorem q_264_60 : p_tb 264 60 = some (.invokevirtual 201, 3) := by decide +kernel
theorem q_264_63 : p_tb 264 63 = some (.ifCond .eq 7, 3) := by decide +kernel
theorem q_264_66 : p_tb 264 66 = some (.iconst 4, 1) := by decide +kernel
theorem q_264_67 : p_tb 264 67 = some (.goto 48, 3) := by decide +kernel
theorem q_264_70 : p_tb 264 70 = some (.aload_n 0, 1) := by decide +kernel
theorem q_264_71 : p_tb 264 71 = some (.ldc2_w 128, 3) := by decide +kernel
theorem q_264_74 : p_tb 264 74 = some (.invokevirtual 201, 3) := by decide +kernel
theorem q_264_77 : p_tb 264 77 = some (.ifCond .eq 7, 3) := by decide +kernel
theorem q_264_80 : p_tb 264 80 = some (.iconst 5, 1) := by decide +kernel
theorem q_264_81 : p_tb 264 81 = some (.goto 34, 3) := by decide +kernel
theorem q_264_84 : p_tb 264 84 = some (.aload_n 0, 1) := by decide +kernel
theorem q_264_85 : p_tb 264 85 = some (.ldc2_w 130, 3) := by decide +kernel
theorem q_264_88 : p_tb 264 88 = some (.invokevirtual 201, 3) := by decide +kernel
theorem q_264_91 : p_tb 264 91 = some (.ifCond .eq 8, 3) := by decide +kernel
theorem q_264_94 : p_tb 264 94 = some (.bipush 6, 2) := by decide +kernel
theorem q_264_96 : p_tb 264 96 = some (.goto 19, 3) := by decide +kernel
theorem q_264_99 : p_tb 264 99 = some (.aload_n 0, 1) := by decide +kernel
theorem q_264_100 : p_tb 264 100 = some (.ldc2_w 132, 3) := by decide +kernel
theorem q_264_103 : p_tb 264 103 = some (.invokevirtual 201, 3) := by decide +kernel
theorem q_264_106 : p_tb 264 106 = some (.ifCond .eq 8, 3) := by decide +kernel
theorem q_264_109 : p_tb 264 109 = some (.bipush 7, 2) := by decide +kernel
theorem q_264_111 : p_tb 264 111 = some (.goto 4, 3) := by decide +kernel
theorem q_264_114 : p_tb 264 114 = some (.iconst (-1), 1) := by decide +kernel
theorem q_264_115 : p_tb 264 115 = some (.ireturn, 1) := by decide +kernel
theorem t_lt_264_118 : p_f2 p_lt (p_mK 264) 118 = some (126943688025203) := by decide +kernel
theorem t_lt_264_120 : p_f2 p_lt (p_mK 264) 120 = some (448311224179) := by decide +kernel
theorem t_lt_264_122 : p_f2 p_lt (p_mK 264) 122 = some (126922548275316) := by decide +kernel
theorem t_lt_264_124 : p_f2 p_lt (p_mK 264) 124 = some (25209) := by decide +kernel
theorem t_lt_264_126 : p_f2 p_lt (p_mK 264) 126 = some (482854658917) := by decide +kernel
theorem t_lt_264_128 : p_f2 p_lt (p_mK 264) 128 = some (1885430629) := by decide +kernel
theorem t_lt_264_130 : p_f2 p_lt (p_mK 264) 130 = some (130195279934579) := by decide +kernel
theorem t_lt_264_132 : p_f2 p_lt (p_mK 264) 132 = some (121450625394034) := by decide +kernel
theorem t_mv_264_201 : p_f2 p_mv (p_mK 264) 201 = some 179 := by decide +kernel
theorem q_265_0 : p_tb 265 0 = some (.aload_n 0, 1) := by decide +kernel
theorem q_265_1 : p_tb 265 1 = some (.ldc2_w 116, 3) := by decide +kernel
theorem q_265_4 : p_tb 265 4 = some (.invokevirtual 201, 3) := by decide +kernel
theorem q_265_7 : p_tb 265 7 = some (.istore_n 1, 1) := by decide +kernel
theorem q_265_8 : p_tb 265 8 = some (.aload_n 0, 1) := by decide +kernel
theorem q_265_9 : p_tb 265 9 = some (.bipush 40, 2) := by decide +kernel
theorem q_265_11 : p_tb 265 11 = some (.invokevirtual 167, 3) := by decide +kernel
theorem q_265_14 : p_tb 265 14 = some (.istore_n 2, 1) := by decide +kernel
theorem q_265_15 : p_tb 265 15 = some (.aload_n 0, 1) := by decide +kernel
theorem q_265_16 : p_tb 265 16 = some (.invokevirtual 395, 3) := by decide +kernel
theorem q_265_19 : p_tb 265 19 = some (.istore_n 3, 1) := by decide +kernel
theorem q_265_20 : p_tb 265 20 = some (.iload_n 1, 1) := by decide +kernel
theorem q_265_21 : p_tb 265 21 = some (.ifCond .ne 17, 3) := by decide +kernel
theorem q_265_24 : p_tb 265 24 = some (.iload_n 2, 1) := by decide +kernel
theorem q_265_25 : p_tb 265 25 = some (.ifCond .ne 13, 3) := by decide +kernel
theorem q_265_28 : p_tb 265 28 = some (.iload_n 3, 1) := by decide +kernel
theorem q_265_29 : p_tb 265 29 = some (.ifCond .ge 9, 3) := by decide +kernel
theorem q_265_32 : p_tb 265 32 = some (.aload_n 0, 1) := by decide +kernel
theorem q_265_33 : p_tb 265 33 = some (.iconst 1, 1) := by decide +kernel
theorem q_265_34 : p_tb 265 34 = some (.invokevirtual 170, 3) := by decide +kernel
theorem q_265_37 : p_tb 265 37 = some (.ireturn, 1) := by decide +kernel
theorem q_265_38 : p_tb 265 38 = some (.aload_n 0, 1) := by decide +kernel
theorem q_265_39 : p_tb 265 39 = some (.getfield 398, 3) := by decide +kernel
theorem q_265_42 : p_tb 265 42 = some (.bipush 20, 2) := by decide +kernel
theorem q_265_44 : p_tb 265 44 = some (.if_icmp .eq 12, 3) := by decide +kernel
theorem q_265_47 : p_tb 265 47 = some (.aload_n 0, 1) := by decide +kernel
theorem q_265_48 : p_tb 265 48 = some (.getfield 392, 3) := by decide +kernel
theorem q_265_51 : p_tb 265 51 = some (.bipush 8, 2) := by decide +kernel
theorem q_265_53 : p_tb 265 53 = some (.if_icmp .le 9, 3) := by decide +kernel
theorem q_265_56 : p_tb 265 56 = some (.aload_n 0, 1) := by decide +kernel
theorem q_265_57 : p_tb 265 57 = some (.iconst 4, 1) := by decide +kernel
theorem q_265_58 : p_tb 265 58 = some (.invokevirtual 170, 3) := by decide +kernel
theorem q_265_61 : p_tb 265 61 = some (.ireturn, 1) := by decide +kernel
theorem q_265_62 : p_tb 265 62 = some (.aload_n 0, 1) := by decide +kernel
theorem q_265_63 : p_tb 265 63 = some (.dup, 1) := by decide +kernel
theorem q_265_64 : p_tb 265 64 = some (.getfield 398, 3) := by decide +kernel
theorem q_265_67 : p_tb 265 67 = some (.iconst 1, 1) := by decide +kernel
theorem q_265_68 : p_tb 265 68 = some (.iadd, 1) := by decide +kernel
theorem q_265_69 : p_tb 265 69 = some (.putfield 398, 3) := by decide +kernel
theorem q_265_72 : p_tb 265 72 = some (.aload_n 0, 1) := by decide +kernel
theorem q_265_73 : p_tb 265 73 = some (.invokevirtual 173, 3) := by decide +kernel
theorem q_265_76 : p_tb 265 76 = some (.iload_n 1, 1) := by decide +kernel
theorem q_265_77 : p_tb 265 77 = some (.ifCond .ne 7, 3) := by decide +kernel
theorem q_265_80 : p_tb 265 80 = some (.iload_n 2, 1) := by decide +kernel
theorem q_265_81 : p_tb 265 81 = some (.ifCond .eq 45, 3) := by decide +kernel
theorem q_265_84 : p_tb 265 84 = some (.aload_n 0, 1) := by decide +kernel
theorem q_265_85 : p_tb 265 85 = some (.getfield 62, 3) := by decide +kernel
theorem q_265_88 : p_tb 265 88 = some (.aload_n 0, 1) := by decide +kernel
theorem q_265_89 : p_tb 265 89 = some (.getfield 385, 3) := by decide +kernel
theorem q_265_92 : p_tb 265 92 = some (.iload_n 1, 1) := by decide +kernel
theorem q_265_93 : p_tb 265 93 = some (.ifCond .eq 8, 3) := by decide +kernel
theorem q_265_96 : p_tb 265 96 = some (.bipush 20, 2) := by decide +kernel
theorem q_265_98 : p_tb 265 98 = some (.goto 5, 3) := by decide +kernel
theorem q_265_101 : p_tb 265 101 = some (.bipush 23, 2) := by decide +kernel
theorem q_265_103 : p_tb 265 103 = some (.iastore, 1) := by decide +kernel
theorem q_265_104 : p_tb 265 104 = some (.aload_n 0, 1) := by decide +kernel
theorem q_265_105 : p_tb 265 105 = some (.dup, 1) := by decide +kernel
theorem q_265_106 : p_tb 265 106 = some (.getfield 385, 3) := by decide +kernel
theorem q_265_109 : p_tb 265 109 = some (.iconst 1, 1) := by decide +kernel
theorem q_265_110 : p_tb 265 110 = some (.iadd, 1) := by decide +kernel
theorem q_265_111 : p_tb 265 111 = some (.putfield 385, 3) := by decide +kernel
theorem q_265_114 : p_tb 265 114 = some (.aload_n 0, 1) := by decide +kernel
theorem q_265_115 : p_tb 265 115 = some (.dup, 1) := by decide +kernel
theorem q_265_116 : p_tb 265 116 = some (.getfield 392, 3) := by decide +kernel
theorem q_265_119 : p_tb 265 119 = some (.iconst 1, 1) := by decide +kernel
theorem q_265_120 : p_tb 265 120 = some (.iadd, 1) := by decide +kernel
theorem q_265_121 : p_tb 265 121 = some (.putfield 392, 3) := by decide +kernel
theorem q_265_124 : p_tb 265 124 = some (.iconst 1, 1) := by decide +kernel
theorem q_265_125 : p_tb 265 125 = some (.ireturn, 1) := by decide +kernel
theorem q_265_126 : p_tb 265 126 = some (.aload_n 0, 1) := by decide +kernel
theorem q_265_127 : p_tb 265 127 = some (.iconst 1, 1) := by decide +kernel
theorem q_265_128 : p_tb 265 128 = some (.putfield 401, 3) := by decide +kernel
theorem q_265_131 : p_tb 265 131 = some (.iload_n 3, 1) := by decide +kernel
theorem q_265_132 : p_tb 265 132 = some (.iconst 3, 1) := by decide +kernel
theorem q_265_133 : p_tb 265 133 = some (.if_icmp .ge 12, 3) := by decide +kernel
theorem q_265_136 : p_tb 265 136 = some (.aload_n 0, 1) := by decide +kernel
theorem q_265_137 : p_tb 265 137 = some (.iload_n 3, 1) := by decide +kernel
theorem q_265_138 : p_tb 265 138 = some (.iconst 0, 1) := by decide +kernel
theorem q_265_139 : p_tb 265 139 = some (.iconst 0, 1) := by decide +kernel
theorem q_265_140 : p_tb 265 140 = some (.invokevirtual 388, 3) := by decide +kernel
theorem q_265_143 : p_tb 265 143 = some (.iconst 1, 1) := by decide +kernel
theorem q_265_144 : p_tb 265 144 = some (.ireturn, 1) := by decide +kernel
theorem q_265_145 : p_tb 265 145 = some (.iload_n 3, 1) := by decide +kernel
theorem q_265_146 : p_tb 265 146 = some (.iconst 3, 1) := by decide +kernel
theorem q_265_147 : p_tb 265 147 = some (.if_icmp .ne 35, 3) := by decide +kernel
theorem q_265_150 : p_tb 265 150 = some (.aload_n 0, 1) := by decide +kernel
theorem q_265_151 : p_tb 265 151 = some (.iconst 0, 1) := by decide +kernel
theorem q_265_152 : p_tb 265 152 = some (.aload_n 0, 1) := by decide +kernel
theorem q_265_153 : p_tb 265 153 = some (.getfield 33, 3) := by decide +kernel
theorem q_265_156 : p_tb 265 156 = some (.iconst 0, 1) := by decide +kernel
theorem q_265_157 : p_tb 265 157 = some (.iaload, 1) := by decide +kernel
theorem q_265_158 : p_tb 265 158 = some (.invokevirtual 217, 3) := by decide +kernel
theorem q_265_161 : p_tb 265 161 = some (.ifCond .ne 5, 3) := by decide +kernel
theorem q_265_164 : p_tb 265 164 = some (.iconst 0, 1) := by decide +kernel
theorem q_265_165 : p_tb 265 165 = some (.ireturn, 1) := by decide +kernel
theorem q_265_166 : p_tb 265 166 = some (.aload_n 0, 1) := by decide +kernel
theorem q_265_167 : p_tb 265 167 = some (.iload_n 3, 1) := by decide +kernel
theorem q_265_168 : p_tb 265 168 = some (.iconst 0, 1) := by decide +kernel
theorem q_265_169 : p_tb 265 169 = some (.aload_n 0, 1) := by decide +kernel
theorem q_265_170 : p_tb 265 170 = some (.getfield 180, 3) := by decide +kernel
theorem q_265_173 : p_tb 265 173 = some (.invokevirtual 388, 3) := by decide +kernel
theorem q_265_176 : p_tb 265 176 = some (.aload_n 0, 1) := by decide +kernel
theorem q_265_177 : p_tb 265 177 = some (.invokevirtual 173, 3) := by decide +kernel
theorem q_265_180 : p_tb 265 180 = some (.iconst 1, 1) := by decide +kernel
theorem q_265_181 : p_tb 265 181 = some (.ireturn, 1) := by decide +kernel
theorem q_265_182 : p_tb 265 182 = some (.aload_n 0, 1) := by decide +kernel
theorem q_265_183 : p_tb 265 183 = some (.getfield 144, 3) := by decide +kernel
theorem q_265_186 : p_tb 265 186 = some (.iconst 3, 1) := by decide +kernel
theorem q_265_187 : p_tb 265 187 = some (.if_icmp .ne 21, 3) := by decide +kernel
theorem q_265_190 : p_tb 265 190 = some (.aload_n 0, 1) := by decide +kernel
theorem q_265_191 : p_tb 265 191 = some (.getfield 154, 3) := by decide +kernel
theorem q_265_194 : p_tb 265 194 = some (.bipush 60, 2) := by decide +kernel
theorem q_265_196 : p_tb 265 196 = some (.if_icmp .lt 12, 3) := by decide +kernel
theorem q_265_199 : p_tb 265 199 = some (.aload_n 0, 1) := by decide +kernel
theorem q_265_200 : p_tb 265 200 = some (.getfield 154, 3) := by decide +kernel
theorem q_265_203 : p_tb 265 203 = some (.bipush 62, 2) := by decide +kernel
theorem q_265_205 : p_tb 265 205 = some (.if_icmp .le 9, 3) := by decide +kernel
theorem q_265_208 : p_tb 265 208 = some (.aload_n 0, 1) := by decide +kernel
theorem q_265_209 : p_tb 265 209 = some (.iconst 1, 1) := by decide +kernel
theorem q_265_210 : p_tb 265 210 = some (.invokevirtual 170, 3) := by decide +kernel
theorem q_265_213 : p_tb 265 213 = some (.ireturn, 1) := by decide +kernel
theorem q_265_214 : p_tb 265 214 = some (.aload_n 0, 1) := by decide +kernel
theorem q_265_215 : p_tb 265 215 = some (.getfield 154, 3) := by decide +kernel
theorem q_265_218 : p_tb 265 218 = some (.istore 4, 2) := by decide +kernel
theorem q_265_220 : p_tb 265 220 = some (.aload_n 0, 1) := by decide +kernel
theorem q_265_221 : p_tb 265 221 = some (.invokevirtual 173, 3) := by decide +kernel
theorem q_265_224 : p_tb 265 224 = some (.aload_n 0, 1) := by decide +kernel
theorem q_265_225 : p_tb 265 225 = some (.getfield 144, 3) := by decide +kernel
theorem q_265_228 : p_tb 265 228 = some (.iconst 2, 1) := by decide +kernel
theorem q_265_229 : p_tb 265 229 = some (.if_icmp .eq 9, 3) := by decide +kernel
theorem q_265_232 : p_tb 265 232 = some (.aload_n 0, 1) := by decide +kernel
theorem q_265_233 : p_tb 265 233 = some (.iconst 1, 1) := by decide +kernel
theorem q_265_234 : p_tb 265 234 = some (.invokevirtual 170, 3) := by decide +kernel
theorem q_265_237 : p_tb 265 237 = some (.ireturn, 1) := by decide +kernel
theorem q_265_238 : p_tb 265 238 = some (.aload_n 0, 1) := by decide +kernel
theorem q_265_239 : p_tb 265 239 = some (.iload_n 3, 1) := by decide +kernel
theorem q_265_240 : p_tb 265 240 = some (.iload 4, 2) := by decide +kernel
theorem q_265_242 : p_tb 265 242 = some (.aload_n 0, 1) := by decide +kernel
theorem q_265_243 : p_tb 265 243 = some (.getfield 154, 3) := by decide +kernel
theorem q_265_246 : p_tb 265 246 = some (.invokevirtual 388, 3) := by decide +kernel
theorem q_265_249 : p_tb 265 249 = some (.aload_n 0, 1) := by decide +kernel
theorem q_265_250 : p_tb 265 250 = some (.invokevirtual 173, 3) := by decide +kernel
theorem q_265_253 : p_tb 265 253 = some (.iconst 1, 1) := by decide +kernel
theorem q_265_254 : p_tb 265 254 = some (.ireturn, 1) := by decide +kernel
theorem t_ft_265_144 : p_f2 p_ft (p_mK 265) 144 = some (11, 11) := by decide +kernel
theorem t_ft_265_154 : p_f2 p_ft (p_mK 265) 154 = some (11, 14) := by decide +kernel
theorem t_ft_265_180 : p_f2 p_ft (p_mK 265) 180 = some (11, 18) := by decide +kernel
theorem t_ft_265_33 : p_f2 p_ft (p_mK 265) 33 = some (11, 6) := by decide +kernel
theorem t_ft_265_385 : p_f2 p_ft (p_mK 265) 385 = some (11, 35) := by decide +kernel
theorem t_ft_265_392 : p_f2 p_ft (p_mK 265) 392 = some (11, 36) := by decide +kernel
theorem t_ft_265_398 : p_f2 p_ft (p_mK 265) 398 = some (11, 34) := by decide +kernel
theorem t_ft_265_401 : p_f2 p_ft (p_mK 265) 401 = some (11, 37) := by decide +kernel
theorem t_ft_265_62 : p_f2 p_ft (p_mK 265) 62 = some (11, 32) := by decide +kernel
theorem t_lt_265_116 : p_f2 p_lt (p_mK 265) 116 = some (7237492) := by decide +kernel
theorem t_mv_265_167 : p_f2 p_mv (p_mK 265) 167 = some 180 := by decide +kernel
theorem t_mv_265_170 : p_f2 p_mv (p_mK 265) 170 = some 178 := by decide +kernel
theorem t_mv_265_173 : p_f2 p_mv (p_mK 265) 173 = some 177 := by decide +kernel
theorem t_mv_265_201 : p_f2 p_mv (p_mK 265) 201 = some 179 := by decide +kernel
theorem t_mv_265_217 : p_f2 p_mv (p_mK 265) 217 = some 187 := by decide +kernel
theorem t_mv_265_388 : p_f2 p_mv (p_mK 265) 388 = some 261 := by decide +kernel
theorem t_mv_265_395 : p_f2 p_mv (p_mK 265) 395 = some 264 := by decide +kernel
theorem gC_51_0_40 : gC 51 0 40 (-2147483648) 2147483647 := gC.of (by decide +kernel)
theorem q_266_0 : p_tb 266 0 = some (.aload_n 0, 1) := by decide +kernel
theorem q_266_1 : p_tb 266 1 = some (.invokevirtual 404, 3) := by decide +kernel
theorem q_266_4 : p_tb 266 4 = some (.aload_n 0, 1) := by decide +kernel
theorem q_266_5 : p_tb 266 5 = some (.ldc2_w 114, 3) := by decide +kernel
theorem q_266_8 : p_tb 266 8 = some (.invokevirtual 201, 3) := by decide +kernel
theorem q_266_11 : p_tb 266 11 = some (.ifCond .ne 13, 3) := by decide +kernel
theorem q_266_14 : p_tb 266 14 = some (.aload_n 0, 1) := by decide +kernel
theorem q_266_15 : p_tb 266 15 = some (.ldc2_w 112, 3) := by decide +kernel
theorem q_266_18 : p_tb 266 18 = some (.invokevirtual 201, 3) := by decide +kernel
theorem q_266_21 : p_tb 266 21 = some (.ifCond .eq 71, 3) := by decide +kernel
theorem q_266_24 : p_tb 266 24 = some (.aload_n 0, 1) := by decide +kernel
theorem q_266_25 : p_tb 266 25 = some (.aload_n 0, 1) := by decide +kernel
theorem q_266_26 : p_tb 266 26 = some (.ldc2_w 114, 3) := by decide +kernel
theorem q_266_29 : p_tb 266 29 = some (.invokevirtual 201, 3) := by decide +kernel
theorem q_266_32 : p_tb 266 32 = some (.ifCond .eq 8, 3) := by decide +kernel
theorem q_266_35 : p_tb 266 35 = some (.bipush 21, 2) := by decide +kernel
theorem q_266_37 : p_tb 266 37 = some (.goto 5, 3) := by decide +kernel
theorem q_266_40 : p_tb 266 40 = some (.bipush 22, 2) := by decide +kernel
theorem q_266_42 : p_tb 266 42 = some (.invokevirtual 407, 3) := by decide +kernel
theorem q_266_45 : p_tb 266 45 = some (.aload_n 0, 1) := by decide +kernel
theorem q_266_46 : p_tb 266 46 = some (.getfield 62, 3) := by decide +kernel
theorem q_266_49 : p_tb 266 49 = some (.aload_n 0, 1) := by decide +kernel
theorem q_266_50 : p_tb 266 50 = some (.getfield 385, 3) := by decide +kernel
theorem q_266_53 : p_tb 266 53 = some (.aload_n 0, 1) := by decide +kernel
theorem q_266_54 : p_tb 266 54 = some (.ldc2_w 114, 3) := by decide +kernel
theorem q_266_57 : p_tb 266 57 = some (.invokevirtual 201, 3) := by decide +kernel
theorem q_266_60 : p_tb 266 60 = some (.ifCond .eq 8, 3) := by decide +kernel
theorem q_266_63 : p_tb 266 63 = some (.bipush 21, 2) := by decide +kernel
theorem q_266_65 : p_tb 266 65 = some (.goto 5, 3) := by decide +kernel
theorem q_266_68 : p_tb 266 68 = some (.bipush 22, 2) := by decide +kernel
theorem q_266_70 : p_tb 266 70 = some (.iastore, 1) := by decide +kernel
theorem q_266_71 : p_tb 266 71 = some (.aload_n 0, 1) := by decide +kernel
theorem q_266_72 : p_tb 266 72 = some (.dup, 1) := by decide +kernel
theorem q_266_73 : p_tb 266 73 = some (.getfield 385, 3) := by decide +kernel
theorem q_266_76 : p_tb 266 76 = some (.iconst 1, 1) := by decide +kernel
theorem q_266_77 : p_tb 266 77 = some (.iadd, 1) := by decide +kernel
theorem q_266_78 : p_tb 266 78 = some (.putfield 385, 3) := by decide +kernel
theorem q_266_81 : p_tb 266 81 = some (.aload_n 0, 1) := by decide +kernel
theorem q_266_82 : p_tb 266 82 = some (.iconst 0, 1) := by decide +kernel
theorem q_266_83 : p_tb 266 83 = some (.putfield 401, 3) := by decide +kernel
theorem q_266_86 : p_tb 266 86 = some (.aload_n 0, 1) := by decide +kernel
theorem q_266_87 : p_tb 266 87 = some (.invokevirtual 173, 3) := by decide +kernel
theorem q_266_90 : p_tb 266 90 = some (.iconst 1, 1) := by decide +kernel
theorem q_266_91 : p_tb 266 91 = some (.ireturn, 1) := by decide +kernel
theorem q_266_92 : p_tb 266 92 = some (.aload_n 0, 1) := by decide +kernel
theorem q_266_93 : p_tb 266 93 = some (.bipush 22, 2) := by decide +kernel
theorem q_266_95 : p_tb 266 95 = some (.invokevirtual 407, 3) := by decide +kernel
theorem q_266_98 : p_tb 266 98 = some (.aload_n 0, 1) := by decide +kernel
theorem q_266_99 : p_tb 266 99 = some (.bipush 41, 2) := by decide +kernel
theorem q_266_101 : p_tb 266 101 = some (.invokevirtual 167, 3) := by decide +kernel
theorem q_266_104 : p_tb 266 104 = some (.ifCond .eq 10, 3) := by decide +kernel
theorem q_266_107 : p_tb 266 107 = some (.aload_n 0, 1) := by decide +kernel
theorem q_266_108 : p_tb 266 108 = some (.getfield 385, 3) := by decide +kernel
theorem q_266_111 : p_tb 266 111 = some (.ifCond .ne 9, 3) := by decide +kernel
theorem q_266_114 : p_tb 266 114 = some (.aload_n 0, 1) := by decide +kernel
theorem q_266_115 : p_tb 266 115 = some (.iconst 1, 1) := by decide +kernel
theorem q_266_116 : p_tb 266 116 = some (.invokevirtual 170, 3) := by decide +kernel
theorem q_266_119 : p_tb 266 119 = some (.ireturn, 1) := by decide +kernel
theorem q_266_120 : p_tb 266 120 = some (.aload_n 0, 1) := by decide +kernel
theorem q_266_121 : p_tb 266 121 = some (.dup, 1) := by decide +kernel
theorem q_266_122 : p_tb 266 122 = some (.getfield 385, 3) := by decide +kernel
theorem q_266_125 : p_tb 266 125 = some (.iconst 1, 1) := by decide +kernel
theorem q_266_126 : p_tb 266 126 = some (.isub, 1) := by decide +kernel
theorem q_266_127 : p_tb 266 127 = some (.putfield 385, 3) := by decide +kernel
theorem q_266_130 : p_tb 266 130 = some (.aload_n 0, 1) := by decide +kernel
theorem q_266_131 : p_tb 266 131 = some (.dup, 1) := by decide +kernel
theorem q_266_132 : p_tb 266 132 = some (.getfield 392, 3) := by decide +kernel
theorem q_266_135 : p_tb 266 135 = some (.iconst 1, 1) := by decide +kernel
theorem q_266_136 : p_tb 266 136 = some (.isub, 1) := by decide +kernel
theorem q_266_137 : p_tb 266 137 = some (.putfield 392, 3) := by decide +kernel
theorem q_266_140 : p_tb 266 140 = some (.aload_n 0, 1) := by decide +kernel
theorem q_266_141 : p_tb 266 141 = some (.invokevirtual 173, 3) := by decide +kernel
theorem q_266_144 : p_tb 266 144 = some (.iconst 1, 1) := by decide +kernel
theorem q_266_145 : p_tb 266 145 = some (.ireturn, 1) := by decide +kernel
theorem t_ft_266_385 : p_f2 p_ft (p_mK 266) 385 = some (11, 35) := by decide +kernel
theorem t_ft_266_392 : p_f2 p_ft (p_mK 266) 392 = some (11, 36) := by decide +kernel
theorem t_ft_266_401 : p_f2 p_ft (p_mK 266) 401 = some (11, 37) := by decide +kernel
theorem t_ft_266_62 : p_f2 p_ft (p_mK 266) 62 = some (11, 32) := by decide +kernel
theorem t_lt_266_112 : p_f2 p_lt (p_mK 266) 112 = some (28530) := by decide +kernel
theorem t_lt_266_114 : p_f2 p_lt (p_mK 266) 114 = some (6385252) := by decide +kernel
theorem t_mv_266_167 : p_f2 p_mv (p_mK 266) 167 = some 180 := by decide +kernel
theorem t_mv_266_170 : p_f2 p_mv (p_mK 266) 170 = some 178 := by decide +kernel
theorem t_mv_266_173 : p_f2 p_mv (p_mK 266) 173 = some 177 := by decide +kernel
theorem t_mv_266_201 : p_f2 p_mv (p_mK 266) 201 = some 179 := by decide +kernel
theorem t_mv_266_404 : p_f2 p_mv (p_mK 266) 404 = some 263 := by decide +kernel
theorem t_mv_266_407 : p_f2 p_mv (p_mK 266) 407 = some 262 := by decide +kernel
/-- how many AND and OR stand on the stack -/
def gbo (k : Nat → Int32) : Nat → Nat
  | 0 => 0
  | z + 1 => gbo k z + (if (k z).toInt = 21 ∨ (k z).toInt = 22 then 1 else 0)
theorem gbo.c {k k1 : Nat → Int32} : ∀ n, (∀ z, z < n → k1 z = k z) → gbo k1 n = gbo k n
  | 0, _ => rfl
  | n + 1, h => by
    show gbo k1 n + _ = gbo k n + _
    rw [gbo.c n (fun z hz => h z (by omega)), h n (by omega)]
theorem gbo.s (k : Nat → Int32) {tp : Int} (h : 1 ≤ tp) : gbo k tp.toNat = gbo k (tp - 1).toNat + (if (k (tp - 1).toNat).toInt = 21 ∨ (k (tp - 1).toNat).toInt = 22 then 1 else 0) := by
  rw [show tp.toNat = (tp - 1).toNat + 1 from by omega]; rfl
/-- what holds of a sentence so far as it was read: its codes r, the stack k -/
def gSn (c tp wh on : Int) (r k : Nat → Int32) : Prop := g_rp r c.toNat = some (gbo k tp.toNat + wh.toNat) ∧ (∀ i : Nat, (i : Int) < c → (r (3 * i)).toInt = 3 → 0 ≤ (r (3 * i + 2)).toInt ∧ (r (3 * i + 2)).toInt ≤ 5) ∧ c + tp + wh ≤ 2 * on
def gSm (M : pM) : Prop := gSn (o_i (M 294) 33) (o_i (M 294) 35) (o_i (M 294) 37) (o_i (M 294) 34) (o_a (M 298)) (o_a (M 305))
theorem gSm.of {M : pM} {c tp wh on : Int} {r k : Nat → Int32} (h : gSn c tp wh on r k) (e1 : o_i (M 294) 33 = c) (e2 : o_i (M 294) 35 = tp) (e3 : o_i (M 294) 37 = wh) (e4 : o_i (M 294) 34 = on) (e5 : o_a (M 298) = r) (e6 : o_a (M 305) = k) : gSm M := by
  unfold gSm
  rw [e1, e2, e3, e4, e5, e6]; exact h
/-- what code() does to the codes -/
def gce (r r1 : Nat → Int32) (c : Int) (a b : Int32) : Prop := (∀ z : Nat, (z : Int) < 3 * c → r1 z = r z) ∧ r1 (3 * c).toNat = a ∧ r1 (3 * c + 2).toNat = b
theorem gce.rp {r r1 : Nat → Int32} {c : Int} {a b : Int32} (h : gce r r1 c a b) (h0 : 0 ≤ c) : g_rp r1 (c + 1).toNat = (g_rp r c.toNat).bind (g_rs a.toInt) := by
  rw [show (c + 1).toNat = c.toNat + 1 from by omega]
  show (g_rp r1 c.toNat).bind (g_rs (r1 (3 * c.toNat)).toInt) = _
  rw [g_rp_c c.toNat (g := r1) (h := r) (fun z hz => h.1 z (by omega)), show 3 * c.toNat = (3 * c).toNat from by omega, h.2.1]
theorem gce.by {r r1 : Nat → Int32} {c : Int} {a b : Int32} (h : gce r r1 c a b) (h0 : 0 ≤ c) (q : ∀ i : Nat, (i : Int) < c → (r (3 * i)).toInt = 3 → 0 ≤ (r (3 * i + 2)).toInt ∧ (r (3 * i + 2)).toInt ≤ 5) (hb : a.toInt ≠ 3 ∨ (0 ≤ b.toInt ∧ b.toInt ≤ 5)) : ∀ i : Nat, (i : Int) < c + 1 → (r1 (3 * i)).toInt = 3 → 0 ≤ (r1 (3 * i + 2)).toInt ∧ (r1 (3 * i + 2)).toInt ≤ 5 := fun i hi e => by
  by_cases w : (i : Int) = c
  · rw [show 3 * i = (3 * c).toNat from by omega, h.2.1] at e
    rw [show 3 * i + 2 = (3 * c + 2).toNat from by omega, h.2.2]
    omega
  · rw [h.1 (3 * i) (by omega)] at e
    rw [h.1 (3 * i + 2) (by omega)]
    exact q i (by omega) e
theorem gSn.not {c tp on : Int} {r k r1 : Nat → Int32} {a b : Int32} (h : gSn c tp 1 on r k) (h0 : 0 ≤ c) (ht : 1 ≤ tp) (hk : (k (tp - 1).toNat).toInt = 20) (e : gce r r1 c a b) (ha : a.toInt = 20) : gSn (c + 1) (tp - 1) 1 on r1 k := by
  obtain ⟨h1, h2, h3⟩ := h
  refine ⟨?_, e.by h0 h2 (Or.inl (by omega)), by omega⟩
  rw [e.rp h0, h1, gbo.s k ht, if_neg (by omega), ha]
  show g_rs 20 (gbo k (tp - 1).toNat + 0 + 1) = _
  unfold g_rs
  rw [if_pos rfl, if_pos (by omega)]; rfl
theorem gSn.join {c tp on : Int} {r k r1 : Nat → Int32} {a b : Int32} (h : gSn c tp 1 on r k) (h0 : 0 ≤ c) (ht : 1 ≤ tp) (hk : k (tp - 1).toNat = a) (e : gce r r1 c a b) (ha : a.toInt = 21 ∨ a.toInt = 22) : gSn (c + 1) (tp - 1) 1 on r1 k := by
  obtain ⟨h1, h2, h3⟩ := h
  refine ⟨?_, e.by h0 h2 (Or.inl (by omega)), by omega⟩
  rw [e.rp h0, h1, gbo.s k ht, hk, if_pos ha]
  show g_rs a.toInt (gbo k (tp - 1).toNat + 1 + 1) = _
  unfold g_rs
  rw [if_neg (by omega), if_pos ha, if_pos (by omega)]; rfl
theorem gSn.leaf {c tp on on1 : Int} {r k r1 : Nat → Int32} {a b : Int32} (h : gSn c tp 0 on r k) (h0 : 0 ≤ c) (e : gce r r1 c a b) (ha : 0 ≤ a.toInt ∧ a.toInt ≤ 7) (hb : a.toInt ≠ 3 ∨ (0 ≤ b.toInt ∧ b.toInt ≤ 5)) (ho : on1 = on + 1) : gSn (c + 1) tp 1 on1 r1 k := by
  obtain ⟨h1, h2, h3⟩ := h
  refine ⟨?_, e.by h0 h2 hb, by omega⟩
  rw [e.rp h0, h1]
  show g_rs a.toInt (gbo k tp.toNat + 0) = _
  unfold g_rs
  rw [if_neg (by omega), if_neg (by omega)]; rfl
theorem gSn.push {c tp on on1 : Int} {r k k1 : Nat → Int32} (h : gSn c tp 0 on r k) (h0 : 0 ≤ tp) (e : ∀ z : Nat, z ≠ tp.toNat → k1 z = k z) (hv : (k1 tp.toNat).toInt = 20 ∨ (k1 tp.toNat).toInt = 23) (ho : on1 = on + 1) : gSn c (tp + 1) 0 on1 r k1 := by
  obtain ⟨h1, h2, h3⟩ := h
  refine ⟨?_, h2, by omega⟩
  rw [h1, gbo.s k1 (tp := tp + 1) (by omega), show (tp + 1 - 1).toNat = tp.toNat from by omega, if_neg (by omega), gbo.c tp.toNat (fun z hz => e z (by omega))]; rfl
theorem gSn.bin {c tp on : Int} {r k k1 : Nat → Int32} (h : gSn c tp 1 on r k) (h0 : 0 ≤ tp) (e : ∀ z : Nat, z ≠ tp.toNat → k1 z = k z) (hv : (k1 tp.toNat).toInt = 21 ∨ (k1 tp.toNat).toInt = 22) : gSn c (tp + 1) 0 on r k1 := by
  obtain ⟨h1, h2, h3⟩ := h
  refine ⟨?_, h2, by omega⟩
  rw [h1, gbo.s k1 (tp := tp + 1) (by omega), show (tp + 1 - 1).toNat = tp.toNat from by omega, if_pos hv, gbo.c tp.toNat (fun z hz => e z (by omega))]; rfl
theorem gSn.pop {c tp on : Int} {r k : Nat → Int32} (h : gSn c tp 1 on r k) (ht : 1 ≤ tp) (hk : (k (tp - 1).toNat).toInt ≠ 21 ∧ (k (tp - 1).toNat).toInt ≠ 22) : gSn c (tp - 1) 1 on r k := by
  obtain ⟨h1, h2, h3⟩ := h
  refine ⟨?_, h2, by omega⟩
  rw [h1, gbo.s k ht, if_neg (by omega)]; rfl
theorem gSn.RP {c tp on : Int} {r k g : Nat → Int32} (h : gSn c tp 1 on r k) (hc : 0 ≤ c) (hc4 : c ≤ 40) (e : ∀ z : Nat, (z : Int) < 3 * c → g z = r z) : g_RP c g := by
  obtain ⟨h1, h2, h3⟩ := h
  refine ⟨?_, fun i hi => ?_⟩
  · rw [g_rp_c c.toNat (g := g) (h := r) (fun z hz => e z (by omega)), h1]; exact fun q => nomatch q
  · rw [e (3 * i) (by omega), e (3 * i + 2) (by omega)]; exact h2 i hi
theorem g_on20 {M : pM} (I : InvB M) : 0 ≤ o_i (M 294) 34 ∧ o_i (M 294) 34 ≤ 20 := by
  obtain ⟨x, f, h, k⟩ := gF_40_34.int kd_294 I (by decide)
  rw [o_i_of f]; exact ⟨h, k⟩
theorem g_co {M : pM} (I : InvB M) : 0 ≤ o_i (M 294) 33 ∧ 0 ≤ o_i (M 294) 35 := by
  obtain ⟨x, f, h, k⟩ := gF_40_33.int kd_294 I (by decide)
  obtain ⟨y, f2, h2, k2⟩ := gF_40_35.int kd_294 I (by decide)
  rw [o_i_of f, o_i_of f2]; exact ⟨h, h2⟩
/-- the codes kept in the row s are well formed so far -/
theorem g_rp_le {g : Nat → Int32} : ∀ (i n : Nat), g_rp g i = some n → n ≤ i
  | 0, n, h => by
    have e : (0 : Nat) = n := Option.some.inj h
    omega
  | i + 1, n, h => by
    have h' : (g_rp g i).bind (g_rs (g (3 * i)).toInt) = some n := h
    cases q : g_rp g i with
    | none => rw [q] at h'; cases h'
    | some m =>
      rw [q] at h'
      have h2 : g_rs (g (3 * i)).toInt m = some n := h'
      have l := g_rp_le i m q
      unfold g_rs at h2
      split at h2
      · split at h2
        · have := Option.some.inj h2; omega
        · cases h2
      · split at h2
        · split at h2
          · have := Option.some.inj h2; omega
          · cases h2
        · have := Option.some.inj h2; omega
theorem g_rp_no {g : Nat → Int32} {i : Nat} (h : g_rp g i = none) : ∀ d, g_rp g (i + d) = none
  | 0 => h
  | d + 1 => by
    show (g_rp g (i + d)).bind _ = none
    rw [g_rp_no h d]; rfl
theorem g_rp_at {g : Nat → Int32} {c : Int} {i n : Nat} (R : g_RP c g) (hi : (i : Int) < c) (h : g_rp g i = some n) : ∃ m, g_rs (g (3 * i)).toInt n = some m ∧ g_rp g (i + 1) = some m := by
  have e : g_rp g (i + 1) = g_rs (g (3 * i)).toInt n := by
    show (g_rp g i).bind _ = _
    rw [h]; rfl
  cases q : g_rs (g (3 * i)).toInt n with
  | none =>
    exfalso
    rw [q] at e
    have w := g_rp_no e (c.toNat - (i + 1))
    rw [show i + 1 + (c.toNat - (i + 1)) = c.toNat from by omega] at w
    exact R.1 w
  | some m => exact ⟨m, rfl, by rw [e, q]⟩
theorem g_rs_not {w : Int} {n m : Nat} (h : g_rs w n = some m) (hw : w = 20) : 1 ≤ n ∧ m = n := by
  unfold g_rs at h
  rw [if_pos hw] at h
  split at h
  · exact ⟨by omega, (Option.some.inj h).symm⟩
  · cases h
theorem g_rs_two {w : Int} {n m : Nat} (h : g_rs w n = some m) (hw : w = 21 ∨ w = 22) : 2 ≤ n ∧ m = n - 1 := by
  unfold g_rs at h
  rw [if_neg (by omega), if_pos hw] at h
  split at h
  · exact ⟨by omega, (Option.some.inj h).symm⟩
  · cases h
theorem g_rs_one {w : Int} {n m : Nat} (h : g_rs w n = some m) (hw : w ≠ 20 ∧ w ≠ 21 ∧ w ≠ 22) : m = n + 1 := by
  unfold g_rs at h
  rw [if_neg hw.1, if_neg (by omega)] at h
  exact (Option.some.inj h).symm
theorem g_RP.by {c : Int} {g : Nat → Int32} (R : g_RP c g) {i : Nat} (hi : (i : Int) < c) : (g (3 * i)).toInt ≠ 3 ∨ (0 ≤ (g (3 * i + 2)).toInt ∧ (g (3 * i + 2)).toInt ≤ 5) := by
  by_cases e : (g (3 * i)).toInt = 3
  · exact Or.inr (R.2 i hi e)
  · exact Or.inl e
theorem c_X12_code (G : pG) (Kr : pK) (M : pM) (I : Iv gTT M) (a1 : Int32) (a2 : Int32) (a3 : Int32) (hp_0 : o_i (M 294) 33 ≤ 39) (hK : ∀ (M1 : pM), Iv gTT M1 → Fr [40, 44] M M1 → (o_i (M1 294) 33 = o_i (M 294) 33 + 1 ∧ o_i (M1 294) 35 = o_i (M 294) 35 ∧ o_i (M1 294) 37 = o_i (M 294) 37 ∧ o_i (M1 294) 34 = o_i (M 294) 34 ∧ o_i (M1 294) 4 = o_i (M 294) 4 ∧ o_i (M1 294) 11 = o_i (M 294) 11 ∧ gce (o_a (M 298)) (o_a (M1 298)) (o_i (M 294) 33) a1 a3) → ((gLq M1 M) ∧ gHq M1 M) → Kr.1 none 311 M1) : PW G false 0 261 (p_mc 261) (p_msl 261) Kr 0 (lv_args 0 [.ref 294, .int a1, .int a2, .int a3]) [] 311 M 0 0 := by
  have F : Fr [40, 44] M M := Fr.refl
  refine PW.aload_n q_261_0 rfl ?_
  refine PW.gR 298 q_261_1 (Or.inl t_ft_261_40) gF_40_8 kd_294 I.1 (by decide) rfl ?_
  refine PW.cI q_261_4 (by decide) fun c1 hc1 => ?_
  refine PW.aload_n q_261_5 rfl ?_
  refine PW.gI q_261_6 (Or.inl t_ft_261_382) gF_40_33 kd_294 I.1 (by decide) fun x2 fx2 hx2 kx2 => ?_
  have trx2 := o_i_of fx2
  refine PW.mulN q_261_9 (3) (by omega) x2 (fun h => n_eq.mpr (by omega)) (fun h => n_eq.mpr (by omega)) (by omega) (by omega) fun x3 hx3 => ?_
  refine PW.iload_n q_261_10 rfl ?_
  refine PW.wT q_261_11 gA_44 kd_298 I (by decide) rfl gC_44_0_120 (by decide) (by omega) (by omega) (n_lo _) (n_hi _) fun M4 IM4 fM4 UM4 => ?_
  have FM4 := Fr.pu F UM4.1 kd_298 (rfl : List.contains [40, 44] 44 = true)
  have tr5 : o_i (M4 294) 33 = o_i (M 294) 33 := by rw [UM4.1 294 (g_ne kd_294 kd_298 (by decide))]
  have tr6 : o_i (M4 294) 35 = o_i (M 294) 35 := by rw [UM4.1 294 (g_ne kd_294 kd_298 (by decide))]
  have tr7 : o_i (M4 294) 37 = o_i (M 294) 37 := by rw [UM4.1 294 (g_ne kd_294 kd_298 (by decide))]
  have tr8 : o_i (M4 294) 34 = o_i (M 294) 34 := by rw [UM4.1 294 (g_ne kd_294 kd_298 (by decide))]
  have tr9 : o_i (M4 294) 4 = o_i (M 294) 4 := by rw [UM4.1 294 (g_ne kd_294 kd_298 (by decide))]
  have tr10 : o_i (M4 294) 11 = o_i (M 294) 11 := by rw [UM4.1 294 (g_ne kd_294 kd_298 (by decide))]
  refine PW.aload_n q_261_12 rfl ?_
  refine PW.gR 298 q_261_13 (Or.inl t_ft_261_40) gF_40_8 kd_294 IM4.1 (by decide) rfl ?_
  refine PW.cI q_261_16 (by decide) fun c11 hc11 => ?_
  refine PW.aload_n q_261_17 rfl ?_
  refine PW.gE q_261_18 (Or.inl t_ft_261_382) gF_40_33 kd_294 IM4.1 (by decide) ((congrArg (fun e => o_f e 33) (UM4.1 _ (g_ne kd_294 kd_298 (by decide)))).trans fx2) ?_
  have tr12 := o_i_of ((congrArg (fun e => o_f e 33) (UM4.1 _ (g_ne kd_294 kd_298 (by decide)))).trans fx2)
  refine PW.mulN q_261_21 (3) (by omega) x2 (fun h => n_eq.mpr (by omega)) (fun h => n_eq.mpr (by omega)) (by omega) (by omega) fun x13 hx13 => ?_
  refine PW.cI q_261_22 (by decide) fun c14 hc14 => ?_
  refine PW.addN q_261_23 (by omega) (by omega) fun x15 hx15 => ?_
  refine PW.iload_n q_261_24 rfl ?_
  refine PW.wT q_261_25 gA_44 kd_298 IM4 (by decide) rfl gC_44_1_121 (by decide) (by omega) (by omega) (n_lo _) (n_hi _) fun M16 IM16 fM16 UM16 => ?_
  have FM16 := Fr.pu FM4 UM16.1 kd_298 (rfl : List.contains [40, 44] 44 = true)
  have tr17 : o_i (M16 294) 33 = o_i (M4 294) 33 := by rw [UM16.1 294 (g_ne kd_294 kd_298 (by decide))]
  have tr18 : o_i (M16 294) 35 = o_i (M4 294) 35 := by rw [UM16.1 294 (g_ne kd_294 kd_298 (by decide))]
  have tr19 : o_i (M16 294) 37 = o_i (M4 294) 37 := by rw [UM16.1 294 (g_ne kd_294 kd_298 (by decide))]
  have tr20 : o_i (M16 294) 34 = o_i (M4 294) 34 := by rw [UM16.1 294 (g_ne kd_294 kd_298 (by decide))]
  have tr21 : o_i (M16 294) 4 = o_i (M4 294) 4 := by rw [UM16.1 294 (g_ne kd_294 kd_298 (by decide))]
  have tr22 : o_i (M16 294) 11 = o_i (M4 294) 11 := by rw [UM16.1 294 (g_ne kd_294 kd_298 (by decide))]
  refine PW.aload_n q_261_26 rfl ?_
  refine PW.gR 298 q_261_27 (Or.inl t_ft_261_40) gF_40_8 kd_294 IM16.1 (by decide) rfl ?_
  refine PW.cI q_261_30 (by decide) fun c23 hc23 => ?_
  refine PW.aload_n q_261_31 rfl ?_
  refine PW.gE q_261_32 (Or.inl t_ft_261_382) gF_40_33 kd_294 IM16.1 (by decide) ((congrArg (fun e => o_f e 33) (UM16.1 _ (g_ne kd_294 kd_298 (by decide)))).trans ((congrArg (fun e => o_f e 33) (UM4.1 _ (g_ne kd_294 kd_298 (by decide)))).trans fx2)) ?_
  have tr24 := o_i_of ((congrArg (fun e => o_f e 33) (UM16.1 _ (g_ne kd_294 kd_298 (by decide)))).trans ((congrArg (fun e => o_f e 33) (UM4.1 _ (g_ne kd_294 kd_298 (by decide)))).trans fx2))
  refine PW.mulN q_261_35 (3) (by omega) x2 (fun h => n_eq.mpr (by omega)) (fun h => n_eq.mpr (by omega)) (by omega) (by omega) fun x25 hx25 => ?_
  refine PW.cI q_261_36 (by decide) fun c26 hc26 => ?_
  refine PW.addN q_261_37 (by omega) (by omega) fun x27 hx27 => ?_
  refine PW.iload_n q_261_38 rfl ?_
  refine PW.wT q_261_39 gA_44 kd_298 IM16 (by decide) rfl gC_44_2_122 (by decide) (by omega) (by omega) (n_lo _) (n_hi _) fun M28 IM28 fM28 UM28 => ?_
  have FM28 := Fr.pu FM16 UM28.1 kd_298 (rfl : List.contains [40, 44] 44 = true)
  have tr29 : o_i (M28 294) 33 = o_i (M16 294) 33 := by rw [UM28.1 294 (g_ne kd_294 kd_298 (by decide))]
  have tr30 : o_i (M28 294) 35 = o_i (M16 294) 35 := by rw [UM28.1 294 (g_ne kd_294 kd_298 (by decide))]
  have tr31 : o_i (M28 294) 37 = o_i (M16 294) 37 := by rw [UM28.1 294 (g_ne kd_294 kd_298 (by decide))]
  have tr32 : o_i (M28 294) 34 = o_i (M16 294) 34 := by rw [UM28.1 294 (g_ne kd_294 kd_298 (by decide))]
  have tr33 : o_i (M28 294) 4 = o_i (M16 294) 4 := by rw [UM28.1 294 (g_ne kd_294 kd_298 (by decide))]
  have tr34 : o_i (M28 294) 11 = o_i (M16 294) 11 := by rw [UM28.1 294 (g_ne kd_294 kd_298 (by decide))]
  refine PW.aload_n q_261_40 rfl ?_
  refine PW.dup q_261_41 rfl ?_
  refine PW.gE q_261_42 (Or.inl t_ft_261_382) gF_40_33 kd_294 IM28.1 (by decide) ((congrArg (fun e => o_f e 33) (UM28.1 _ (g_ne kd_294 kd_298 (by decide)))).trans ((congrArg (fun e => o_f e 33) (UM16.1 _ (g_ne kd_294 kd_298 (by decide)))).trans ((congrArg (fun e => o_f e 33) (UM4.1 _ (g_ne kd_294 kd_298 (by decide)))).trans fx2))) ?_
  have tr35 := o_i_of ((congrArg (fun e => o_f e 33) (UM28.1 _ (g_ne kd_294 kd_298 (by decide)))).trans ((congrArg (fun e => o_f e 33) (UM16.1 _ (g_ne kd_294 kd_298 (by decide)))).trans ((congrArg (fun e => o_f e 33) (UM4.1 _ (g_ne kd_294 kd_298 (by decide)))).trans fx2)))
  refine PW.cI q_261_45 (by decide) fun c36 hc36 => ?_
  refine PW.addN q_261_46 (by omega) (by omega) fun x37 hx37 => ?_
  refine PW.pT q_261_47 (Or.inl t_ft_261_382) gF_40_33 gP_40_33 kd_294 IM28 (by decide) rfl (by omega) (by omega) fun M38 IM38 fM38 UM38 => ?_
  have FM38 := Fr.pu FM28 UM38.1 kd_294 (rfl : List.contains [40, 44] 40 = true)
  have tr39 := o_i_of fM38
  have tr40 := UM38.i (c := 294) (k := 35) (Or.inr (by decide))
  have tr41 := UM38.i (c := 294) (k := 37) (Or.inr (by decide))
  have tr42 := UM38.i (c := 294) (k := 34) (Or.inr (by decide))
  have tr43 := UM38.i (c := 294) (k := 4) (Or.inr (by decide))
  have tr44 := UM38.i (c := 294) (k := 11) (Or.inr (by decide))
  refine PW.vret q_261_50 rfl (by decide) (by decide) ?_
  exact hK M38 IM38 FM38 ⟨by omega, by omega, by omega, by omega, by omega, by omega, fun z hz => ((congrFun (congrArg o_a (UM38.1 298 (by decide))) z).trans ((UM28.2 z (by omega)).trans ((UM16.2 z (by omega)).trans (UM4.2 z (by omega))))), by rw [show (3 * o_i (M 294) 33).toNat = x3.toInt.toNat from by omega, ((congrFun (congrArg o_a (UM38.1 298 (by decide))) x3.toInt.toNat).trans ((UM28.2 x3.toInt.toNat (by omega)).trans (UM16.2 x3.toInt.toNat (by omega)))), fM4], by rw [show (3 * o_i (M 294) 33 + 2).toNat = x27.toInt.toNat from by omega, (congrFun (congrArg o_a (UM38.1 298 (by decide))) x27.toInt.toNat), fM28]⟩ ⟨((UM38.i (c := 294) (k := 2) (Or.inr (by decide))).trans ((congrArg (fun e => o_i e 2) (UM28.1 294 (by decide))).trans ((congrArg (fun e => o_i e 2) (UM16.1 294 (by decide))).trans (congrArg (fun e => o_i e 2) (UM4.1 294 (by decide)))))), ((((gHq.refl.cg (UM4.1 296 (by decide)) (UM4.1 294 (by decide))).cg (UM16.1 296 (by decide)) (UM16.1 294 (by decide))).cg (UM28.1 296 (by decide)) (UM28.1 294 (by decide))).pu UM38 (by decide))⟩
theorem c_X12_nots (G : pG) (Kr : pK) (M : pM) (I : Iv gTT M) (hp_0 : gSm M) (hp_1 : o_i (M 294) 37 = 1) (hK : ∀ (M1 : pM), Iv gTT M1 → Fr [40, 44] M M1 → (gSm M1 ∧ o_i (M1 294) 37 = 1 ∧ o_i (M1 294) 34 = o_i (M 294) 34 ∧ o_i (M1 294) 4 = o_i (M 294) 4 ∧ o_i (M1 294) 11 = o_i (M 294) 11) → ((gLq M1 M) ∧ gHq M1 M) → Kr.1 none 311 M1) : PW G false 1 263 (p_mc 263) (p_msl 263) Kr 0 (lv_args 0 [.ref 294]) [] 311 M 0 0 := by
  have F : Fr [40, 44] M M := Fr.refl
  have L263_0_1 : ∀ (n : Nat) (ML263_0_1 : pM), Iv (gTT) ML263_0_1 → Fr [40, 44] M ML263_0_1 → gSm ML263_0_1 → o_i (ML263_0_1 294) 37 = 1 → o_i (ML263_0_1 294) 34 = o_i (M 294) 34 → o_i (ML263_0_1 294) 4 = o_i (M 294) 4 → o_i (ML263_0_1 294) 11 = o_i (M 294) 11 → (gLq ML263_0_1 M ∧ gHq ML263_0_1 M) → (o_i (ML263_0_1 294) 35).toNat = n → PW G false 1 263 (p_mc 263) (p_msl 263) Kr 0 [(0, .ref 294)] [] 311 ML263_0_1 0 0 := by
    intro n
    induction n using Nat.strongRecOn with
    | ind n ih_L263_0_1 =>
    intro ML263_0_1  IML263_0_1 FML263_0_1 hbL263_0_10 hbL263_0_11 hbL263_0_12 hbL263_0_13 hbL263_0_14 hbL263_0_15 hmL263_0_1
    refine PW.aload_n q_263_0 rfl ?_
    have hs2 : o_i (ML263_0_1 294) 33 + o_i (ML263_0_1 294) 35 + o_i (ML263_0_1 294) 37 ≤ 2 * o_i (ML263_0_1 294) 34 := hbL263_0_10.2.2
    have ho2 := g_on20 IML263_0_1.1
    have hc2 := g_co IML263_0_1.1
    refine PW.gI q_263_1 (Or.inl t_ft_263_385) gF_40_35 kd_294 IML263_0_1.1 (by decide) fun x3 fx3 hx3 kx3 => ?_
    have trx3 := o_i_of fx3
    refine PW.jz_le q_263_4 rfl (fun h4 => ?_) (fun h4 => ?_)
    · skip
      refine PW.vret q_263_54 rfl (by decide) (by decide) ?_
      exact hK ML263_0_1 IML263_0_1 FML263_0_1 ⟨hbL263_0_10, by omega, by omega, by omega, by omega⟩ ⟨hbL263_0_15.1, hbL263_0_15.2⟩
    · skip
      refine PW.aload_n q_263_7 rfl ?_
      refine PW.gR 305 q_263_8 (Or.inl t_ft_263_62) gF_40_32 kd_294 IML263_0_1.1 (by decide) rfl ?_
      refine PW.aload_n q_263_11 rfl ?_
      refine PW.gE q_263_12 (Or.inl t_ft_263_385) gF_40_35 kd_294 IML263_0_1.1 (by decide) fx3 ?_
      have tr5 := o_i_of fx3
      refine PW.cI q_263_15 (by decide) fun c6 hc6 => ?_
      refine PW.subN q_263_16 (by omega) (by omega) fun x7 hx7 => ?_
      refine PW.aH q_263_17 gA_51 kd_305 IML263_0_1.1 (by decide) (by omega) (by omega) fun x8 fx8 => ?_
      have tk9 : (o_a (ML263_0_1 305) (o_i (ML263_0_1 294) 35 - 1).toNat).toInt = x8.toInt := by rw [show (o_i (ML263_0_1 294) 35 - 1).toNat = x7.toInt.toNat from by omega, fx8]
      refine PW.cB q_263_18 (by decide) fun c10 hc10 => ?_
      refine PW.jc_ne q_263_20 rfl (fun h11 => ?_) (fun h11 => ?_)
      · skip
        refine PW.vret q_263_54 rfl (by decide) (by decide) ?_
        exact hK ML263_0_1 IML263_0_1 FML263_0_1 ⟨hbL263_0_10, by omega, by omega, by omega, by omega⟩ ⟨hbL263_0_15.1, hbL263_0_15.2⟩
      · skip
        refine PW.aload_n q_263_23 rfl ?_
        refine PW.dup q_263_24 rfl ?_
        refine PW.gE q_263_25 (Or.inl t_ft_263_385) gF_40_35 kd_294 IML263_0_1.1 (by decide) fx3 ?_
        have tr12 := o_i_of fx3
        refine PW.cI q_263_28 (by decide) fun c13 hc13 => ?_
        refine PW.subN q_263_29 (by omega) (by omega) fun x14 hx14 => ?_
        refine PW.pT q_263_30 (Or.inl t_ft_263_385) gF_40_35 gP_40_35 kd_294 IML263_0_1 (by decide) rfl (by omega) (by omega) fun M15 IM15 fM15 UM15 => ?_
        have FM15 := Fr.pu FML263_0_1 UM15.1 kd_294 (rfl : List.contains [40, 44] 40 = true)
        have tr16 := UM15.i (c := 294) (k := 33) (Or.inr (by decide))
        have tr17 := o_i_of fM15
        have tr18 := UM15.i (c := 294) (k := 37) (Or.inr (by decide))
        have tr19 := UM15.i (c := 294) (k := 34) (Or.inr (by decide))
        have tr20 := UM15.i (c := 294) (k := 4) (Or.inr (by decide))
        have tr21 := UM15.i (c := 294) (k := 11) (Or.inr (by decide))
        refine PW.aload_n q_263_33 rfl ?_
        refine PW.dup q_263_34 rfl ?_
        refine PW.gI q_263_35 (Or.inl t_ft_263_392) gF_40_36 kd_294 IM15.1 (by decide) fun x22 fx22 hx22 kx22 => ?_
        clear hx22 kx22
        refine PW.cI q_263_38 (by decide) fun c23 hc23 => ?_
        refine PW.subH q_263_39 fun x24 => ?_
        refine PW.pI q_263_40 (Or.inl t_ft_263_392) gF_40_36 gP_40_36 kd_294 Stab0 IM15 (by decide) rfl (n_lo _) (n_hi _) fun M25 IM25 fM25 UM25 => ?_
        have FM25 := Fr.pu FM15 UM25.1 kd_294 (rfl : List.contains [40, 44] 40 = true)
        have tr26 := UM25.i (c := 294) (k := 33) (Or.inr (by decide))
        have tr27 := UM25.i (c := 294) (k := 35) (Or.inr (by decide))
        have tr28 := UM25.i (c := 294) (k := 37) (Or.inr (by decide))
        have tr29 := UM25.i (c := 294) (k := 34) (Or.inr (by decide))
        have tr30 := UM25.i (c := 294) (k := 4) (Or.inr (by decide))
        have tr31 := UM25.i (c := 294) (k := 11) (Or.inr (by decide))
        refine PW.aload_n q_263_43 rfl ?_
        refine PW.cB q_263_44 (by decide) fun c32 hc32 => ?_
        refine PW.cI q_263_46 (by decide) fun c33 hc33 => ?_
        refine PW.cI q_263_47 (by decide) fun c34 hc34 => ?_
        refine PW.cV (as := [_, _, _]) (rest := []) q_263_48 t_mv_263_388 kd_294 IM25.1 (by decide) rfl (by decide) rfl rfl (Nat.le_of_ble_eq_true rfl) (Nat.le_of_ble_eq_true rfl) (by decide) (by decide) ?_
        refine PW.up (by decide) (c_X12_code G _ M25 IM25 c32 c33 c34 (by omega) fun M35 IM35 GM35 PM35 TM35 => ?_)
        have FM35 := Fr.trans FM25 GM35 (rfl)
        obtain ⟨KaM35, KbM35, KcM35, KeM35, KfM35, KhM35, KgM35⟩ := PM35
        refine PW.goto q_263_51 rfl ?_
        have w36 : gSn (o_i (ML263_0_1 294) 33) (o_i (ML263_0_1 294) 35) 1 (o_i (ML263_0_1 294) 34) (o_a (ML263_0_1 298)) (o_a (ML263_0_1 305)) := by have q := hbL263_0_10; unfold gSm at q; rw [show o_i (ML263_0_1 294) 37 = 1 from by omega] at q; exact q
        have kg37 := KgM35
        rw [((congrArg o_a (UM25.1 298 (by decide))).trans (congrArg o_a (UM15.1 298 (by decide)))), show o_i (M25 294) 33 = o_i (ML263_0_1 294) 33 from by omega] at kg37
        refine PW.lvS (lk1 rfl lk0) (ih_L263_0_1 _ ?_ M35  IM35 FM35 (gSm.of (gSn.not w36 (by omega) (by omega) (by omega) kg37 (by omega)) (by omega) (by omega) (by omega) (by omega) rfl ((congrArg o_a (Fr.at GM35 kd_305 rfl)).trans ((congrArg o_a (UM25.1 305 (by decide))).trans (congrArg o_a (UM15.1 305 (by decide)))))) (by omega) (by omega) (by omega) (by omega) ⟨(TM35.1.trans ((UM25.i (c := 294) (k := 2) (Or.inr (by decide))).trans ((UM15.i (c := 294) (k := 2) (Or.inr (by decide))).trans hbL263_0_15.1))), (((hbL263_0_15.2.pu UM15 (by decide)).pu UM25 (by decide)).tr TM35.2)⟩ rfl)
        omega
  exact PW.lvS (lk1 rfl lk0) (L263_0_1 _ M  I F hp_0 hp_1 rfl rfl rfl ⟨rfl, gHq.refl⟩ rfl)
theorem c_X12_joins (G : pG) (Kr : pK) (M : pM) (I : Iv gTT M) (a1 : Int32) (hp_0 : gSm M) (hp_1 : o_i (M 294) 37 = 1) (hK : ∀ (M1 : pM), Iv gTT M1 → Fr [40, 44] M M1 → (gSm M1 ∧ o_i (M1 294) 37 = 1 ∧ o_i (M1 294) 34 = o_i (M 294) 34 ∧ o_i (M1 294) 4 = o_i (M 294) 4 ∧ o_i (M1 294) 11 = o_i (M 294) 11 ∧ (o_i (M1 294) 35 = 0 ∨ ((o_a (M1 305) (o_i (M1 294) 35 - 1).toNat).toInt ≠ 21 ∧ (a1.toInt ≠ 22 ∨ (o_a (M1 305) (o_i (M1 294) 35 - 1).toNat).toInt ≠ 22)))) → ((gLq M1 M) ∧ gHq M1 M) → Kr.1 none 311 M1) : PW G false 1 262 (p_mc 262) (p_msl 262) Kr 0 (lv_args 0 [.ref 294, .int a1]) [] 311 M 0 0 := by
  have F : Fr [40, 44] M M := Fr.refl
  have L262_0_1 : ∀ (n : Nat) (ML262_0_1 : pM), Iv (gTT) ML262_0_1 → Fr [40, 44] M ML262_0_1 → gSm ML262_0_1 → o_i (ML262_0_1 294) 37 = 1 → o_i (ML262_0_1 294) 34 = o_i (M 294) 34 → o_i (ML262_0_1 294) 4 = o_i (M 294) 4 → o_i (ML262_0_1 294) 11 = o_i (M 294) 11 → (gLq ML262_0_1 M ∧ gHq ML262_0_1 M) → (o_i (ML262_0_1 294) 35).toNat = n → PW G false 1 262 (p_mc 262) (p_msl 262) Kr 0 [(0, .ref 294), (1, .int a1)] [] 311 ML262_0_1 0 0 := by
    intro n
    induction n using Nat.strongRecOn with
    | ind n ih_L262_0_1 =>
    intro ML262_0_1  IML262_0_1 FML262_0_1 hbL262_0_10 hbL262_0_11 hbL262_0_12 hbL262_0_13 hbL262_0_14 hbL262_0_15 hmL262_0_1
    refine PW.aload_n q_262_0 rfl ?_
    have hs2 : o_i (ML262_0_1 294) 33 + o_i (ML262_0_1 294) 35 + o_i (ML262_0_1 294) 37 ≤ 2 * o_i (ML262_0_1 294) 34 := hbL262_0_10.2.2
    have ho2 := g_on20 IML262_0_1.1
    have hc2 := g_co IML262_0_1.1
    refine PW.gI q_262_1 (Or.inl t_ft_262_385) gF_40_35 kd_294 IML262_0_1.1 (by decide) fun x3 fx3 hx3 kx3 => ?_
    have trx3 := o_i_of fx3
    refine PW.jz_le q_262_4 rfl (fun h4 => ?_) (fun h4 => ?_)
    · skip
      refine PW.vret q_262_73 rfl (by decide) (by decide) ?_
      exact hK ML262_0_1 IML262_0_1 FML262_0_1 ⟨hbL262_0_10, by omega, by omega, by omega, by omega, by omega⟩ ⟨hbL262_0_15.1, hbL262_0_15.2⟩
    · skip
      refine PW.aload_n q_262_7 rfl ?_
      refine PW.gR 305 q_262_8 (Or.inl t_ft_262_62) gF_40_32 kd_294 IML262_0_1.1 (by decide) rfl ?_
      refine PW.aload_n q_262_11 rfl ?_
      refine PW.gE q_262_12 (Or.inl t_ft_262_385) gF_40_35 kd_294 IML262_0_1.1 (by decide) fx3 ?_
      have tr5 := o_i_of fx3
      refine PW.cI q_262_15 (by decide) fun c6 hc6 => ?_
      refine PW.subN q_262_16 (by omega) (by omega) fun x7 hx7 => ?_
      refine PW.aH q_262_17 gA_51 kd_305 IML262_0_1.1 (by decide) (by omega) (by omega) fun x8 fx8 => ?_
      have tk9 : (o_a (ML262_0_1 305) (o_i (ML262_0_1 294) 35 - 1).toNat).toInt = x8.toInt := by rw [show (o_i (ML262_0_1 294) 35 - 1).toNat = x7.toInt.toNat from by omega, fx8]
      refine PW.cB q_262_18 (by decide) fun c10 hc10 => ?_
      refine PW.jc_eq q_262_20 rfl (fun h11 => ?_) (fun h11 => ?_)
      · skip
        refine PW.aload_n q_262_45 rfl ?_
        refine PW.dup q_262_46 rfl ?_
        refine PW.gE q_262_47 (Or.inl t_ft_262_385) gF_40_35 kd_294 IML262_0_1.1 (by decide) fx3 ?_
        have tr12 := o_i_of fx3
        refine PW.cI q_262_50 (by decide) fun c13 hc13 => ?_
        refine PW.subN q_262_51 (by omega) (by omega) fun x14 hx14 => ?_
        refine PW.pT q_262_52 (Or.inl t_ft_262_385) gF_40_35 gP_40_35 kd_294 IML262_0_1 (by decide) rfl (by omega) (by omega) fun M15 IM15 fM15 UM15 => ?_
        have FM15 := Fr.pu FML262_0_1 UM15.1 kd_294 (rfl : List.contains [40, 44] 40 = true)
        have tr16 := UM15.i (c := 294) (k := 33) (Or.inr (by decide))
        have tr17 := o_i_of fM15
        have tr18 := UM15.i (c := 294) (k := 37) (Or.inr (by decide))
        have tr19 := UM15.i (c := 294) (k := 34) (Or.inr (by decide))
        have tr20 := UM15.i (c := 294) (k := 4) (Or.inr (by decide))
        have tr21 := UM15.i (c := 294) (k := 11) (Or.inr (by decide))
        refine PW.aload_n q_262_55 rfl ?_
        refine PW.aload_n q_262_56 rfl ?_
        refine PW.gR 305 q_262_57 (Or.inl t_ft_262_62) gF_40_32 kd_294 IM15.1 (by decide) rfl ?_
        refine PW.aload_n q_262_60 rfl ?_
        refine PW.gE q_262_61 (Or.inl t_ft_262_385) gF_40_35 kd_294 IM15.1 (by decide) fM15 ?_
        have tr22 := o_i_of fM15
        refine PW.aH q_262_64 gA_51 kd_305 IM15.1 (by decide) (by omega) (by omega) fun x23 fx23 => ?_
        have tz24 : (o_a (ML262_0_1 305) (o_i (ML262_0_1 294) 35 - 1).toNat).toInt = x23.toInt := by rw [show (o_i (ML262_0_1 294) 35 - 1).toNat = x14.toInt.toNat from by omega, ← (congrArg o_a (UM15.1 305 (by decide))), fx23]
        refine PW.cI q_262_65 (by decide) fun c25 hc25 => ?_
        refine PW.cI q_262_66 (by decide) fun c26 hc26 => ?_
        refine PW.cV (as := [_, _, _]) (rest := []) q_262_67 t_mv_262_388 kd_294 IM15.1 (by decide) rfl (by decide) rfl rfl (Nat.le_of_ble_eq_true rfl) (Nat.le_of_ble_eq_true rfl) (by decide) (by decide) ?_
        refine PW.up (by decide) (c_X12_code G _ M15 IM15 x23 c25 c26 (by omega) fun M27 IM27 GM27 PM27 TM27 => ?_)
        have FM27 := Fr.trans FM15 GM27 (rfl)
        obtain ⟨KaM27, KbM27, KcM27, KeM27, KfM27, KhM27, KgM27⟩ := PM27
        refine PW.goto q_262_70 rfl ?_
        have w28 : gSn (o_i (ML262_0_1 294) 33) (o_i (ML262_0_1 294) 35) 1 (o_i (ML262_0_1 294) 34) (o_a (ML262_0_1 298)) (o_a (ML262_0_1 305)) := by have q := hbL262_0_10; unfold gSm at q; rw [show o_i (ML262_0_1 294) 37 = 1 from by omega] at q; exact q
        have kg29 := KgM27
        rw [(congrArg o_a (UM15.1 298 (by decide))), show o_i (M15 294) 33 = o_i (ML262_0_1 294) 33 from by omega] at kg29
        refine PW.lvS (lk1 rfl (lk1 rfl lk0)) (ih_L262_0_1 _ ?_ M27  IM27 FM27 (gSm.of (gSn.join w28 (by omega) (by omega) (by rw [show (o_i (ML262_0_1 294) 35 - 1).toNat = x14.toInt.toNat from by omega, ← (congrArg o_a (UM15.1 305 (by decide))), fx23]) kg29 (by omega)) (by omega) (by omega) (by omega) (by omega) rfl ((congrArg o_a (Fr.at GM27 kd_305 rfl)).trans (congrArg o_a (UM15.1 305 (by decide))))) (by omega) (by omega) (by omega) (by omega) ⟨(TM27.1.trans ((UM15.i (c := 294) (k := 2) (Or.inr (by decide))).trans hbL262_0_15.1)), ((hbL262_0_15.2.pu UM15 (by decide)).tr TM27.2)⟩ rfl)
        omega
      · skip
        refine PW.aload_n q_262_23 rfl ?_
        refine PW.gR 305 q_262_24 (Or.inl t_ft_262_62) gF_40_32 kd_294 IML262_0_1.1 (by decide) rfl ?_
        refine PW.aload_n q_262_27 rfl ?_
        refine PW.gE q_262_28 (Or.inl t_ft_262_385) gF_40_35 kd_294 IML262_0_1.1 (by decide) fx3 ?_
        have tr30 := o_i_of fx3
        refine PW.cI q_262_31 (by decide) fun c31 hc31 => ?_
        refine PW.subN q_262_32 (by omega) (by omega) fun x32 hx32 => ?_
        refine PW.aH q_262_33 gA_51 kd_305 IML262_0_1.1 (by decide) (by omega) (by omega) fun x33 fx33 => ?_
        have tk34 : (o_a (ML262_0_1 305) (o_i (ML262_0_1 294) 35 - 1).toNat).toInt = x33.toInt := by rw [show (o_i (ML262_0_1 294) 35 - 1).toNat = x32.toInt.toNat from by omega, fx33]
        refine PW.cB q_262_34 (by decide) fun c35 hc35 => ?_
        refine PW.jc_ne q_262_36 rfl (fun h36 => ?_) (fun h36 => ?_)
        · skip
          refine PW.vret q_262_73 rfl (by decide) (by decide) ?_
          exact hK ML262_0_1 IML262_0_1 FML262_0_1 ⟨hbL262_0_10, by omega, by omega, by omega, by omega, by omega⟩ ⟨hbL262_0_15.1, hbL262_0_15.2⟩
        · skip
          refine PW.iload_n q_262_39 rfl ?_
          refine PW.cB q_262_40 (by decide) fun c37 hc37 => ?_
          refine PW.jc_ne q_262_42 rfl (fun h38 => ?_) (fun h38 => ?_)
          · skip
            refine PW.vret q_262_73 rfl (by decide) (by decide) ?_
            exact hK ML262_0_1 IML262_0_1 FML262_0_1 ⟨hbL262_0_10, by omega, by omega, by omega, by omega, by omega⟩ ⟨hbL262_0_15.1, hbL262_0_15.2⟩
          · skip
            refine PW.aload_n q_262_45 rfl ?_
            refine PW.dup q_262_46 rfl ?_
            refine PW.gE q_262_47 (Or.inl t_ft_262_385) gF_40_35 kd_294 IML262_0_1.1 (by decide) fx3 ?_
            have tr39 := o_i_of fx3
            refine PW.cI q_262_50 (by decide) fun c40 hc40 => ?_
            refine PW.subN q_262_51 (by omega) (by omega) fun x41 hx41 => ?_
            refine PW.pT q_262_52 (Or.inl t_ft_262_385) gF_40_35 gP_40_35 kd_294 IML262_0_1 (by decide) rfl (by omega) (by omega) fun M42 IM42 fM42 UM42 => ?_
            have FM42 := Fr.pu FML262_0_1 UM42.1 kd_294 (rfl : List.contains [40, 44] 40 = true)
            have tr43 := UM42.i (c := 294) (k := 33) (Or.inr (by decide))
            have tr44 := o_i_of fM42
            have tr45 := UM42.i (c := 294) (k := 37) (Or.inr (by decide))
            have tr46 := UM42.i (c := 294) (k := 34) (Or.inr (by decide))
            have tr47 := UM42.i (c := 294) (k := 4) (Or.inr (by decide))
            have tr48 := UM42.i (c := 294) (k := 11) (Or.inr (by decide))
            refine PW.aload_n q_262_55 rfl ?_
            refine PW.aload_n q_262_56 rfl ?_
            refine PW.gR 305 q_262_57 (Or.inl t_ft_262_62) gF_40_32 kd_294 IM42.1 (by decide) rfl ?_
            refine PW.aload_n q_262_60 rfl ?_
            refine PW.gE q_262_61 (Or.inl t_ft_262_385) gF_40_35 kd_294 IM42.1 (by decide) fM42 ?_
            have tr49 := o_i_of fM42
            refine PW.aH q_262_64 gA_51 kd_305 IM42.1 (by decide) (by omega) (by omega) fun x50 fx50 => ?_
            have tz51 : (o_a (ML262_0_1 305) (o_i (ML262_0_1 294) 35 - 1).toNat).toInt = x50.toInt := by rw [show (o_i (ML262_0_1 294) 35 - 1).toNat = x41.toInt.toNat from by omega, ← (congrArg o_a (UM42.1 305 (by decide))), fx50]
            refine PW.cI q_262_65 (by decide) fun c52 hc52 => ?_
            refine PW.cI q_262_66 (by decide) fun c53 hc53 => ?_
            refine PW.cV (as := [_, _, _]) (rest := []) q_262_67 t_mv_262_388 kd_294 IM42.1 (by decide) rfl (by decide) rfl rfl (Nat.le_of_ble_eq_true rfl) (Nat.le_of_ble_eq_true rfl) (by decide) (by decide) ?_
            refine PW.up (by decide) (c_X12_code G _ M42 IM42 x50 c52 c53 (by omega) fun M54 IM54 GM54 PM54 TM54 => ?_)
            have FM54 := Fr.trans FM42 GM54 (rfl)
            obtain ⟨KaM54, KbM54, KcM54, KeM54, KfM54, KhM54, KgM54⟩ := PM54
            refine PW.goto q_262_70 rfl ?_
            have w55 : gSn (o_i (ML262_0_1 294) 33) (o_i (ML262_0_1 294) 35) 1 (o_i (ML262_0_1 294) 34) (o_a (ML262_0_1 298)) (o_a (ML262_0_1 305)) := by have q := hbL262_0_10; unfold gSm at q; rw [show o_i (ML262_0_1 294) 37 = 1 from by omega] at q; exact q
            have kg56 := KgM54
            rw [(congrArg o_a (UM42.1 298 (by decide))), show o_i (M42 294) 33 = o_i (ML262_0_1 294) 33 from by omega] at kg56
            refine PW.lvS (lk1 rfl (lk1 rfl lk0)) (ih_L262_0_1 _ ?_ M54  IM54 FM54 (gSm.of (gSn.join w55 (by omega) (by omega) (by rw [show (o_i (ML262_0_1 294) 35 - 1).toNat = x41.toInt.toNat from by omega, ← (congrArg o_a (UM42.1 305 (by decide))), fx50]) kg56 (by omega)) (by omega) (by omega) (by omega) (by omega) rfl ((congrArg o_a (Fr.at GM54 kd_305 rfl)).trans (congrArg o_a (UM42.1 305 (by decide))))) (by omega) (by omega) (by omega) (by omega) ⟨(TM54.1.trans ((UM42.i (c := 294) (k := 2) (Or.inr (by decide))).trans hbL262_0_15.1)), ((hbL262_0_15.2.pu UM42 (by decide)).tr TM54.2)⟩ rfl)
            omega
  exact PW.lvS (lk1 rfl (lk1 rfl lk0)) (L262_0_1 _ M  I F hp_0 hp_1 rfl rfl rfl ⟨rfl, gHq.refl⟩ rfl)
theorem c_X12_leafOf (V : pM → Prop) (hV : Stab V) (G : pG) (Kr : pK) (M : pM) (I : Iv V M)  (hK : ∀ (x : Int32) (M1 : pM), Iv V M1 → Fr [] M M1 → -1 ≤ x.toInt → x.toInt ≤ 7 → (x.toInt = -1 ∨ o_i (M1 294) 11 = 1) → ((gLq M1 M) ∧ gHq M1 M) → Kr.1 (some (.int x)) 311 M1) : PW G false 1 264 (p_mc 264) (p_msl 264) Kr 0 (lv_args 0 [.ref 294]) [] 311 M 0 0 := by
  have F : Fr [] M M := Fr.refl
  refine PW.aload_n q_264_0 rfl ?_
  refine PW.ldc2 q_264_1 t_lt_264_118 ?_
  refine PW.cV (as := [_]) (rest := []) q_264_4 t_mv_264_201 kd_294 I.1 (by decide) rfl (by decide) rfl rfl (Nat.le_of_ble_eq_true rfl) (Nat.le_of_ble_eq_true rfl) (by decide) (by decide) ?_
  refine PW.up (by decide) (c_X12_isWord_v (V) (hV) G _ M I _ fun x2 M1 IM1 GM1 hx2 kx2 PM1 TM1 => ?_)
  have FM1 := Fr.trans F GM1 (rfl)
  have tr3 : o_i (M1 294) 11 = o_i (M 294) 11 := by rw [Fr.at GM1 kd_294 (by decide)]
  refine PW.jz_eq q_264_7 rfl (fun h4 => ?_) (fun h4 => ?_)
  · skip
    clear PM1
    refine PW.aload_n q_264_14 rfl ?_
    refine PW.ldc2 q_264_15 t_lt_264_120 ?_
    refine PW.cV (as := [_]) (rest := []) q_264_18 t_mv_264_201 kd_294 IM1.1 (by decide) rfl (by decide) rfl rfl (Nat.le_of_ble_eq_true rfl) (Nat.le_of_ble_eq_true rfl) (by decide) (by decide) ?_
    refine PW.up (by decide) (c_X12_isWord_v (V) (hV) G _ M1 IM1 _ fun x6 M5 IM5 GM5 hx6 kx6 PM5 TM5 => ?_)
    have FM5 := Fr.trans FM1 GM5 (rfl)
    have tr7 : o_i (M5 294) 11 = o_i (M1 294) 11 := by rw [Fr.at GM5 kd_294 (by decide)]
    refine PW.jz_eq q_264_21 rfl (fun h8 => ?_) (fun h8 => ?_)
    · skip
      clear PM5
      refine PW.aload_n q_264_28 rfl ?_
      refine PW.ldc2 q_264_29 t_lt_264_122 ?_
      refine PW.cV (as := [_]) (rest := []) q_264_32 t_mv_264_201 kd_294 IM5.1 (by decide) rfl (by decide) rfl rfl (Nat.le_of_ble_eq_true rfl) (Nat.le_of_ble_eq_true rfl) (by decide) (by decide) ?_
      refine PW.up (by decide) (c_X12_isWord_v (V) (hV) G _ M5 IM5 _ fun x10 M9 IM9 GM9 hx10 kx10 PM9 TM9 => ?_)
      have FM9 := Fr.trans FM5 GM9 (rfl)
      have tr11 : o_i (M9 294) 11 = o_i (M5 294) 11 := by rw [Fr.at GM9 kd_294 (by decide)]
      refine PW.jz_eq q_264_35 rfl (fun h12 => ?_) (fun h12 => ?_)
      · skip
        clear PM9
        refine PW.aload_n q_264_42 rfl ?_
        refine PW.ldc2 q_264_43 t_lt_264_124 ?_
        refine PW.cV (as := [_]) (rest := []) q_264_46 t_mv_264_201 kd_294 IM9.1 (by decide) rfl (by decide) rfl rfl (Nat.le_of_ble_eq_true rfl) (Nat.le_of_ble_eq_true rfl) (by decide) (by decide) ?_
        refine PW.up (by decide) (c_X12_isWord_v (V) (hV) G _ M9 IM9 _ fun x14 M13 IM13 GM13 hx14 kx14 PM13 TM13 => ?_)
        have FM13 := Fr.trans FM9 GM13 (rfl)
        have tr15 : o_i (M13 294) 11 = o_i (M9 294) 11 := by rw [Fr.at GM13 kd_294 (by decide)]
        refine PW.jz_eq q_264_49 rfl (fun h16 => ?_) (fun h16 => ?_)
        · skip
          clear PM13
          refine PW.aload_n q_264_56 rfl ?_
          refine PW.ldc2 q_264_57 t_lt_264_126 ?_
          refine PW.cV (as := [_]) (rest := []) q_264_60 t_mv_264_201 kd_294 IM13.1 (by decide) rfl (by decide) rfl rfl (Nat.le_of_ble_eq_true rfl) (Nat.le_of_ble_eq_true rfl) (by decide) (by decide) ?_
          refine PW.up (by decide) (c_X12_isWord_v (V) (hV) G _ M13 IM13 _ fun x18 M17 IM17 GM17 hx18 kx18 PM17 TM17 => ?_)
          have FM17 := Fr.trans FM13 GM17 (rfl)
          have tr19 : o_i (M17 294) 11 = o_i (M13 294) 11 := by rw [Fr.at GM17 kd_294 (by decide)]
          refine PW.jz_eq q_264_63 rfl (fun h20 => ?_) (fun h20 => ?_)
          · skip
            clear PM17
            refine PW.aload_n q_264_70 rfl ?_
            refine PW.ldc2 q_264_71 t_lt_264_128 ?_
            refine PW.cV (as := [_]) (rest := []) q_264_74 t_mv_264_201 kd_294 IM17.1 (by decide) rfl (by decide) rfl rfl (Nat.le_of_ble_eq_true rfl) (Nat.le_of_ble_eq_true rfl) (by decide) (by decide) ?_
            refine PW.up (by decide) (c_X12_isWord_v (V) (hV) G _ M17 IM17 _ fun x22 M21 IM21 GM21 hx22 kx22 PM21 TM21 => ?_)
            have FM21 := Fr.trans FM17 GM21 (rfl)
            have tr23 : o_i (M21 294) 11 = o_i (M17 294) 11 := by rw [Fr.at GM21 kd_294 (by decide)]
            refine PW.jz_eq q_264_77 rfl (fun h24 => ?_) (fun h24 => ?_)
            · skip
              clear PM21
              refine PW.aload_n q_264_84 rfl ?_
              refine PW.ldc2 q_264_85 t_lt_264_130 ?_
              refine PW.cV (as := [_]) (rest := []) q_264_88 t_mv_264_201 kd_294 IM21.1 (by decide) rfl (by decide) rfl rfl (Nat.le_of_ble_eq_true rfl) (Nat.le_of_ble_eq_true rfl) (by decide) (by decide) ?_
              refine PW.up (by decide) (c_X12_isWord_v (V) (hV) G _ M21 IM21 _ fun x26 M25 IM25 GM25 hx26 kx26 PM25 TM25 => ?_)
              have FM25 := Fr.trans FM21 GM25 (rfl)
              have tr27 : o_i (M25 294) 11 = o_i (M21 294) 11 := by rw [Fr.at GM25 kd_294 (by decide)]
              refine PW.jz_eq q_264_91 rfl (fun h28 => ?_) (fun h28 => ?_)
              · skip
                clear PM25
                refine PW.aload_n q_264_99 rfl ?_
                refine PW.ldc2 q_264_100 t_lt_264_132 ?_
                refine PW.cV (as := [_]) (rest := []) q_264_103 t_mv_264_201 kd_294 IM25.1 (by decide) rfl (by decide) rfl rfl (Nat.le_of_ble_eq_true rfl) (Nat.le_of_ble_eq_true rfl) (by decide) (by decide) ?_
                refine PW.up (by decide) (c_X12_isWord_v (V) (hV) G _ M25 IM25 _ fun x30 M29 IM29 GM29 hx30 kx30 PM29 TM29 => ?_)
                have FM29 := Fr.trans FM25 GM29 (rfl)
                have tr31 : o_i (M29 294) 11 = o_i (M25 294) 11 := by rw [Fr.at GM29 kd_294 (by decide)]
                refine PW.jz_eq q_264_106 rfl (fun h32 => ?_) (fun h32 => ?_)
                · skip
                  clear PM29
                  refine PW.cI q_264_114 (by decide) fun c33 hc33 => ?_
                  refine PW.rI q_264_115 rfl (by decide) (by decide) ?_
                  exact hK c33 M29 IM29 FM29 (by omega) (by omega) (by omega) ⟨((congrArg (fun e => o_i e 2) (Fr.at GM29 kd_294 rfl)).trans ((congrArg (fun e => o_i e 2) (Fr.at GM25 kd_294 rfl)).trans ((congrArg (fun e => o_i e 2) (Fr.at GM21 kd_294 rfl)).trans ((congrArg (fun e => o_i e 2) (Fr.at GM17 kd_294 rfl)).trans ((congrArg (fun e => o_i e 2) (Fr.at GM13 kd_294 rfl)).trans ((congrArg (fun e => o_i e 2) (Fr.at GM9 kd_294 rfl)).trans ((congrArg (fun e => o_i e 2) (Fr.at GM5 kd_294 rfl)).trans (congrArg (fun e => o_i e 2) (Fr.at GM1 kd_294 rfl))))))))), ((((((((gHq.refl.cg (Fr.at GM1 kd_296 rfl) (Fr.at GM1 kd_294 rfl)).cg (Fr.at GM5 kd_296 rfl) (Fr.at GM5 kd_294 rfl)).cg (Fr.at GM9 kd_296 rfl) (Fr.at GM9 kd_294 rfl)).cg (Fr.at GM13 kd_296 rfl) (Fr.at GM13 kd_294 rfl)).cg (Fr.at GM17 kd_296 rfl) (Fr.at GM17 kd_294 rfl)).cg (Fr.at GM21 kd_296 rfl) (Fr.at GM21 kd_294 rfl)).cg (Fr.at GM25 kd_296 rfl) (Fr.at GM25 kd_294 rfl)).cg (Fr.at GM29 kd_296 rfl) (Fr.at GM29 kd_294 rfl))⟩
                · skip
                  refine PW.cB q_264_109 (by decide) fun c34 hc34 => ?_
                  refine PW.goto q_264_111 rfl ?_
                  refine PW.rI q_264_115 rfl (by decide) (by decide) ?_
                  exact hK c34 M29 IM29 FM29 (by omega) (by omega) (by omega) ⟨((congrArg (fun e => o_i e 2) (Fr.at GM29 kd_294 rfl)).trans ((congrArg (fun e => o_i e 2) (Fr.at GM25 kd_294 rfl)).trans ((congrArg (fun e => o_i e 2) (Fr.at GM21 kd_294 rfl)).trans ((congrArg (fun e => o_i e 2) (Fr.at GM17 kd_294 rfl)).trans ((congrArg (fun e => o_i e 2) (Fr.at GM13 kd_294 rfl)).trans ((congrArg (fun e => o_i e 2) (Fr.at GM9 kd_294 rfl)).trans ((congrArg (fun e => o_i e 2) (Fr.at GM5 kd_294 rfl)).trans (congrArg (fun e => o_i e 2) (Fr.at GM1 kd_294 rfl))))))))), ((((((((gHq.refl.cg (Fr.at GM1 kd_296 rfl) (Fr.at GM1 kd_294 rfl)).cg (Fr.at GM5 kd_296 rfl) (Fr.at GM5 kd_294 rfl)).cg (Fr.at GM9 kd_296 rfl) (Fr.at GM9 kd_294 rfl)).cg (Fr.at GM13 kd_296 rfl) (Fr.at GM13 kd_294 rfl)).cg (Fr.at GM17 kd_296 rfl) (Fr.at GM17 kd_294 rfl)).cg (Fr.at GM21 kd_296 rfl) (Fr.at GM21 kd_294 rfl)).cg (Fr.at GM25 kd_296 rfl) (Fr.at GM25 kd_294 rfl)).cg (Fr.at GM29 kd_296 rfl) (Fr.at GM29 kd_294 rfl))⟩
              · skip
                refine PW.cB q_264_94 (by decide) fun c35 hc35 => ?_
                refine PW.goto q_264_96 rfl ?_
                refine PW.rI q_264_115 rfl (by decide) (by decide) ?_
                exact hK c35 M25 IM25 FM25 (by omega) (by omega) (by omega) ⟨((congrArg (fun e => o_i e 2) (Fr.at GM25 kd_294 rfl)).trans ((congrArg (fun e => o_i e 2) (Fr.at GM21 kd_294 rfl)).trans ((congrArg (fun e => o_i e 2) (Fr.at GM17 kd_294 rfl)).trans ((congrArg (fun e => o_i e 2) (Fr.at GM13 kd_294 rfl)).trans ((congrArg (fun e => o_i e 2) (Fr.at GM9 kd_294 rfl)).trans ((congrArg (fun e => o_i e 2) (Fr.at GM5 kd_294 rfl)).trans (congrArg (fun e => o_i e 2) (Fr.at GM1 kd_294 rfl)))))))), (((((((gHq.refl.cg (Fr.at GM1 kd_296 rfl) (Fr.at GM1 kd_294 rfl)).cg (Fr.at GM5 kd_296 rfl) (Fr.at GM5 kd_294 rfl)).cg (Fr.at GM9 kd_296 rfl) (Fr.at GM9 kd_294 rfl)).cg (Fr.at GM13 kd_296 rfl) (Fr.at GM13 kd_294 rfl)).cg (Fr.at GM17 kd_296 rfl) (Fr.at GM17 kd_294 rfl)).cg (Fr.at GM21 kd_296 rfl) (Fr.at GM21 kd_294 rfl)).cg (Fr.at GM25 kd_296 rfl) (Fr.at GM25 kd_294 rfl))⟩
            · skip
              refine PW.cI q_264_80 (by decide) fun c36 hc36 => ?_
              refine PW.goto q_264_81 rfl ?_
              refine PW.rI q_264_115 rfl (by decide) (by decide) ?_
              exact hK c36 M21 IM21 FM21 (by omega) (by omega) (by omega) ⟨((congrArg (fun e => o_i e 2) (Fr.at GM21 kd_294 rfl)).trans ((congrArg (fun e => o_i e 2) (Fr.at GM17 kd_294 rfl)).trans ((congrArg (fun e => o_i e 2) (Fr.at GM13 kd_294 rfl)).trans ((congrArg (fun e => o_i e 2) (Fr.at GM9 kd_294 rfl)).trans ((congrArg (fun e => o_i e 2) (Fr.at GM5 kd_294 rfl)).trans (congrArg (fun e => o_i e 2) (Fr.at GM1 kd_294 rfl))))))), ((((((gHq.refl.cg (Fr.at GM1 kd_296 rfl) (Fr.at GM1 kd_294 rfl)).cg (Fr.at GM5 kd_296 rfl) (Fr.at GM5 kd_294 rfl)).cg (Fr.at GM9 kd_296 rfl) (Fr.at GM9 kd_294 rfl)).cg (Fr.at GM13 kd_296 rfl) (Fr.at GM13 kd_294 rfl)).cg (Fr.at GM17 kd_296 rfl) (Fr.at GM17 kd_294 rfl)).cg (Fr.at GM21 kd_296 rfl) (Fr.at GM21 kd_294 rfl))⟩
          · skip
            refine PW.cI q_264_66 (by decide) fun c37 hc37 => ?_
            refine PW.goto q_264_67 rfl ?_
            refine PW.rI q_264_115 rfl (by decide) (by decide) ?_
            exact hK c37 M17 IM17 FM17 (by omega) (by omega) (by omega) ⟨((congrArg (fun e => o_i e 2) (Fr.at GM17 kd_294 rfl)).trans ((congrArg (fun e => o_i e 2) (Fr.at GM13 kd_294 rfl)).trans ((congrArg (fun e => o_i e 2) (Fr.at GM9 kd_294 rfl)).trans ((congrArg (fun e => o_i e 2) (Fr.at GM5 kd_294 rfl)).trans (congrArg (fun e => o_i e 2) (Fr.at GM1 kd_294 rfl)))))), (((((gHq.refl.cg (Fr.at GM1 kd_296 rfl) (Fr.at GM1 kd_294 rfl)).cg (Fr.at GM5 kd_296 rfl) (Fr.at GM5 kd_294 rfl)).cg (Fr.at GM9 kd_296 rfl) (Fr.at GM9 kd_294 rfl)).cg (Fr.at GM13 kd_296 rfl) (Fr.at GM13 kd_294 rfl)).cg (Fr.at GM17 kd_296 rfl) (Fr.at GM17 kd_294 rfl))⟩
        · skip
          refine PW.cI q_264_52 (by decide) fun c38 hc38 => ?_
          refine PW.goto q_264_53 rfl ?_
          refine PW.rI q_264_115 rfl (by decide) (by decide) ?_
          exact hK c38 M13 IM13 FM13 (by omega) (by omega) (by omega) ⟨((congrArg (fun e => o_i e 2) (Fr.at GM13 kd_294 rfl)).trans ((congrArg (fun e => o_i e 2) (Fr.at GM9 kd_294 rfl)).trans ((congrArg (fun e => o_i e 2) (Fr.at GM5 kd_294 rfl)).trans (congrArg (fun e => o_i e 2) (Fr.at GM1 kd_294 rfl))))), ((((gHq.refl.cg (Fr.at GM1 kd_296 rfl) (Fr.at GM1 kd_294 rfl)).cg (Fr.at GM5 kd_296 rfl) (Fr.at GM5 kd_294 rfl)).cg (Fr.at GM9 kd_296 rfl) (Fr.at GM9 kd_294 rfl)).cg (Fr.at GM13 kd_296 rfl) (Fr.at GM13 kd_294 rfl))⟩
      · skip
        refine PW.cI q_264_38 (by decide) fun c39 hc39 => ?_
        refine PW.goto q_264_39 rfl ?_
        refine PW.rI q_264_115 rfl (by decide) (by decide) ?_
        exact hK c39 M9 IM9 FM9 (by omega) (by omega) (by omega) ⟨((congrArg (fun e => o_i e 2) (Fr.at GM9 kd_294 rfl)).trans ((congrArg (fun e => o_i e 2) (Fr.at GM5 kd_294 rfl)).trans (congrArg (fun e => o_i e 2) (Fr.at GM1 kd_294 rfl)))), (((gHq.refl.cg (Fr.at GM1 kd_296 rfl) (Fr.at GM1 kd_294 rfl)).cg (Fr.at GM5 kd_296 rfl) (Fr.at GM5 kd_294 rfl)).cg (Fr.at GM9 kd_296 rfl) (Fr.at GM9 kd_294 rfl))⟩
    · skip
      refine PW.cI q_264_24 (by decide) fun c40 hc40 => ?_
      refine PW.goto q_264_25 rfl ?_
      refine PW.rI q_264_115 rfl (by decide) (by decide) ?_
      exact hK c40 M5 IM5 FM5 (by omega) (by omega) (by omega) ⟨((congrArg (fun e => o_i e 2) (Fr.at GM5 kd_294 rfl)).trans (congrArg (fun e => o_i e 2) (Fr.at GM1 kd_294 rfl))), ((gHq.refl.cg (Fr.at GM1 kd_296 rfl) (Fr.at GM1 kd_294 rfl)).cg (Fr.at GM5 kd_296 rfl) (Fr.at GM5 kd_294 rfl))⟩
  · skip
    refine PW.cI q_264_10 (by decide) fun c41 hc41 => ?_
    refine PW.goto q_264_11 rfl ?_
    refine PW.rI q_264_115 rfl (by decide) (by decide) ?_
    exact hK c41 M1 IM1 FM1 (by omega) (by omega) (by omega) ⟨(congrArg (fun e => o_i e 2) (Fr.at GM1 kd_294 rfl)), (gHq.refl.cg (Fr.at GM1 kd_296 rfl) (Fr.at GM1 kd_294 rfl))⟩
theorem c_X12_operand (G : pG) (Kr : pK) (M : pM) (I : Iv gTT M) (hp_0 : gSm M) (hp_1 : o_i (M 294) 37 = 0) (hK : ∀ (x : Int32) (M1 : pM), Iv gTT M1 → Fr [40, 44, 51] M M1 → 0 ≤ x.toInt → x.toInt ≤ 1 → (x.toInt = 0 ∨ (gSm M1 ∧ o_i (M 294) 4 ≤ o_i (M1 294) 4 ∧ (o_i (M 294) 11 ≠ 0 ∧ o_i (M 294) 11 ≠ 4) ∧ (o_i (M1 294) 11 = 0 ∨ o_i (M1 294) 11 = 4 ∨ o_i (M 294) 4 + 1 ≤ o_i (M1 294) 4))) → (gLq M1 M) → Kr.1 (some (.int x)) 311 M1) : PW G false 2 265 (p_mc 265) (p_msl 265) Kr 0 (lv_args 0 [.ref 294]) [] 311 M 0 0 := by
  have F : Fr [40, 44, 51] M M := Fr.refl
  have hs1 : o_i (M 294) 33 + o_i (M 294) 35 + o_i (M 294) 37 ≤ 2 * o_i (M 294) 34 := hp_0.2.2
  have ho1 := g_on20 I.1
  have hc1 := g_co I.1
  have w2 : gSn (o_i (M 294) 33) (o_i (M 294) 35) 0 (o_i (M 294) 34) (o_a (M 298)) (o_a (M 305)) := by have q := hp_0; unfold gSm at q; rw [show o_i (M 294) 37 = 0 from by omega] at q; exact q
  refine PW.aload_n q_265_0 rfl ?_
  refine PW.ldc2 q_265_1 t_lt_265_116 ?_
  refine PW.cV (as := [_]) (rest := []) q_265_4 t_mv_265_201 kd_294 I.1 (by decide) rfl (by decide) rfl rfl (Nat.le_of_ble_eq_true rfl) (Nat.le_of_ble_eq_true rfl) (by decide) (by decide) ?_
  refine PW.up (by decide) (c_X12_isWord_v (gTT) (Stab0) G _ M I _ fun x4 M3 IM3 GM3 hx4 kx4 PM3 TM3 => ?_)
  have FM3 := Fr.trans F GM3 (rfl)
  have tr5 : o_i (M3 294) 33 = o_i (M 294) 33 := by rw [Fr.at GM3 kd_294 (by decide)]
  have tr6 : o_i (M3 294) 35 = o_i (M 294) 35 := by rw [Fr.at GM3 kd_294 (by decide)]
  have tr7 : o_i (M3 294) 37 = o_i (M 294) 37 := by rw [Fr.at GM3 kd_294 (by decide)]
  have tr8 : o_i (M3 294) 34 = o_i (M 294) 34 := by rw [Fr.at GM3 kd_294 (by decide)]
  have tr9 : o_i (M3 294) 4 = o_i (M 294) 4 := by rw [Fr.at GM3 kd_294 (by decide)]
  have tr10 : o_i (M3 294) 11 = o_i (M 294) 11 := by rw [Fr.at GM3 kd_294 (by decide)]
  have tr11 : o_i (M3 294) 18 = o_i (M 294) 18 := by rw [Fr.at GM3 kd_294 (by decide)]
  refine PW.istore_n q_265_7 (by decide) ?_
  refine PW.aload_n q_265_8 rfl ?_
  refine PW.cB q_265_9 (by decide) fun c12 hc12 => ?_
  refine PW.cV (as := [_]) (rest := []) q_265_11 t_mv_265_167 kd_294 IM3.1 (by decide) rfl (by decide) rfl rfl (Nat.le_of_ble_eq_true rfl) (Nat.le_of_ble_eq_true rfl) (by decide) (by decide) ?_
  refine PW.up (by decide) (c_X12_isSign (gTT) (Stab0) G _ M3 IM3 c12 fun x14 M13 IM13 GM13 hx14 kx14 PM13 TM13 => ?_)
  have FM13 := Fr.trans FM3 GM13 (rfl)
  have tr15 : o_i (M13 294) 33 = o_i (M3 294) 33 := by rw [Fr.at GM13 kd_294 (by decide)]
  have tr16 : o_i (M13 294) 35 = o_i (M3 294) 35 := by rw [Fr.at GM13 kd_294 (by decide)]
  have tr17 : o_i (M13 294) 37 = o_i (M3 294) 37 := by rw [Fr.at GM13 kd_294 (by decide)]
  have tr18 : o_i (M13 294) 34 = o_i (M3 294) 34 := by rw [Fr.at GM13 kd_294 (by decide)]
  have tr19 : o_i (M13 294) 4 = o_i (M3 294) 4 := by rw [Fr.at GM13 kd_294 (by decide)]
  have tr20 : o_i (M13 294) 11 = o_i (M3 294) 11 := by rw [Fr.at GM13 kd_294 (by decide)]
  have tr21 : o_i (M13 294) 18 = o_i (M3 294) 18 := by rw [Fr.at GM13 kd_294 (by decide)]
  refine PW.istore_n q_265_14 (by decide) ?_
  refine PW.aload_n q_265_15 rfl ?_
  refine PW.cV (as := []) (rest := []) q_265_16 t_mv_265_395 kd_294 IM13.1 (by decide) rfl (by decide) rfl rfl (Nat.le_of_ble_eq_true rfl) (Nat.le_of_ble_eq_true rfl) (by decide) (by decide) ?_
  refine PW.up (by decide) (c_X12_leafOf (gTT) (Stab0) G _ M13 IM13  fun x23 M22 IM22 GM22 hx23 kx23 PM22 TM22 => ?_)
  have FM22 := Fr.trans FM13 GM22 (rfl)
  have tr24 : o_i (M22 294) 33 = o_i (M13 294) 33 := by rw [Fr.at GM22 kd_294 (by decide)]
  have tr25 : o_i (M22 294) 35 = o_i (M13 294) 35 := by rw [Fr.at GM22 kd_294 (by decide)]
  have tr26 : o_i (M22 294) 37 = o_i (M13 294) 37 := by rw [Fr.at GM22 kd_294 (by decide)]
  have tr27 : o_i (M22 294) 34 = o_i (M13 294) 34 := by rw [Fr.at GM22 kd_294 (by decide)]
  have tr28 : o_i (M22 294) 4 = o_i (M13 294) 4 := by rw [Fr.at GM22 kd_294 (by decide)]
  have tr29 : o_i (M22 294) 11 = o_i (M13 294) 11 := by rw [Fr.at GM22 kd_294 (by decide)]
  have tr30 : o_i (M22 294) 18 = o_i (M13 294) 18 := by rw [Fr.at GM22 kd_294 (by decide)]
  refine PW.istore_n q_265_19 (by decide) ?_
  refine PW.iload_n q_265_20 rfl ?_
  refine PW.jz_ne q_265_21 rfl (fun h31 => ?_) (fun h31 => ?_)
  · skip
    refine PW.aload_n q_265_38 rfl ?_
    refine PW.gI q_265_39 (Or.inl t_ft_265_398) gF_40_34 kd_294 IM22.1 (by decide) fun x32 fx32 hx32 kx32 => ?_
    have trx32 := o_i_of fx32
    refine PW.cB q_265_42 (by decide) fun c33 hc33 => ?_
    refine PW.jc_eq q_265_44 rfl (fun h34 => ?_) (fun h34 => ?_)
    · skip
      refine PW.aload_n q_265_56 rfl ?_
      refine PW.cI q_265_57 (by decide) fun c35 hc35 => ?_
      refine PW.cV (as := [_]) (rest := []) q_265_58 t_mv_265_170 kd_294 IM22.1 (by decide) rfl (by decide) rfl rfl (Nat.le_of_ble_eq_true rfl) (Nat.le_of_ble_eq_true rfl) (by decide) (by decide) ?_
      have SM22 : Iv (gSv M22) M22 := gSv.of IM22
      refine PW.up (by decide) (c_X12_bad (gSv M22) (StabSv M22) G _ M22 SM22 c35 fun x37 M36 IM36 GM36 hx37 kx37 PM36 TM36 => ?_)
      have FM36 := Fr.trans FM22 GM36 (rfl)
      have QM36 : Iv gTT M36 := ⟨IM36.1, IM36.2.1⟩
      have tr38 : o_i (M36 294) 29 = o_i (M22 294) 29 := IM36.2.2.1
      have tr39 : o_i (M36 294) 33 = o_i (M22 294) 33 := IM36.2.2.2.1
      have tr40 : o_i (M36 294) 35 = o_i (M22 294) 35 := IM36.2.2.2.2.1
      have tr41 : o_i (M36 294) 37 = o_i (M22 294) 37 := IM36.2.2.2.2.2.1
      have srM36 : o_a (M36 298) = o_a (M22 298) := IM36.2.2.2.2.2.2.1
      have skM36 : o_a (M36 305) = o_a (M22 305) := IM36.2.2.2.2.2.2.2
      refine PW.rZ q_265_61 rfl (by omega) (by omega) (by decide) (by decide) ?_
      exact hK x37 M36 QM36 FM36 (by omega) (by omega) (Or.inl (by omega)) (TM36.trans ((congrArg (fun e => o_i e 2) (Fr.at GM22 kd_294 rfl)).trans ((congrArg (fun e => o_i e 2) (Fr.at GM13 kd_294 rfl)).trans (congrArg (fun e => o_i e 2) (Fr.at GM3 kd_294 rfl)))))
    · skip
      refine PW.aload_n q_265_47 rfl ?_
      refine PW.gI q_265_48 (Or.inl t_ft_265_392) gF_40_36 kd_294 IM22.1 (by decide) fun x42 fx42 hx42 kx42 => ?_
      clear hx42 kx42
      refine PW.cB q_265_51 (by decide) fun c43 hc43 => ?_
      refine PW.jc_le q_265_53 rfl (fun h44 => ?_) (fun h44 => ?_)
      · skip
        refine PW.aload_n q_265_62 rfl ?_
        refine PW.dup q_265_63 rfl ?_
        refine PW.gE q_265_64 (Or.inl t_ft_265_398) gF_40_34 kd_294 IM22.1 (by decide) fx32 ?_
        have tr45 := o_i_of fx32
        refine PW.cI q_265_67 (by decide) fun c46 hc46 => ?_
        refine PW.addN q_265_68 (by omega) (by omega) fun x47 hx47 => ?_
        refine PW.pI q_265_69 (Or.inl t_ft_265_398) gF_40_34 gP_40_34 kd_294 Stab0 IM22 (by decide) rfl (by omega) (by omega) fun M48 IM48 fM48 UM48 => ?_
        have FM48 := Fr.pu FM22 UM48.1 kd_294 (rfl : List.contains [40, 44, 51] 40 = true)
        have tr49 := UM48.i (c := 294) (k := 33) (Or.inr (by decide))
        have tr50 := UM48.i (c := 294) (k := 35) (Or.inr (by decide))
        have tr51 := UM48.i (c := 294) (k := 37) (Or.inr (by decide))
        have tr52 := o_i_of fM48
        have tr53 := UM48.i (c := 294) (k := 4) (Or.inr (by decide))
        have tr54 := UM48.i (c := 294) (k := 11) (Or.inr (by decide))
        have tr55 := UM48.i (c := 294) (k := 18) (Or.inr (by decide))
        refine PW.aload_n q_265_72 rfl ?_
        refine PW.cV (as := []) (rest := []) q_265_73 t_mv_265_173 kd_294 IM48.1 (by decide) rfl (by decide) rfl rfl (Nat.le_of_ble_eq_true rfl) (Nat.le_of_ble_eq_true rfl) (by decide) (by decide) ?_
        have SM48 : Iv (gSv M48) M48 := gSv.of IM48
        refine PW.up (by decide) (c_X12_go (gSv M48) (StabSv M48) G _ M48 SM48  fun M56 IM56 GM56 PM56 TM56 => ?_)
        have FM56 := Fr.trans FM48 GM56 (rfl)
        obtain ⟨PaM56, PdM56, PbM56, PeM56⟩ := PM56
        have QM56 : Iv gTT M56 := ⟨IM56.1, IM56.2.1⟩
        have tr57 : o_i (M56 294) 29 = o_i (M48 294) 29 := IM56.2.2.1
        have tr58 : o_i (M56 294) 33 = o_i (M48 294) 33 := IM56.2.2.2.1
        have tr59 : o_i (M56 294) 35 = o_i (M48 294) 35 := IM56.2.2.2.2.1
        have tr60 : o_i (M56 294) 37 = o_i (M48 294) 37 := IM56.2.2.2.2.2.1
        have srM56 : o_a (M56 298) = o_a (M48 298) := IM56.2.2.2.2.2.2.1
        have skM56 : o_a (M56 305) = o_a (M48 305) := IM56.2.2.2.2.2.2.2
        refine PW.iload_n q_265_76 rfl ?_
        refine PW.jz_ne q_265_77 rfl (fun h61 => ?_) (fun h61 => False.elim (by omega))
        refine PW.aload_n q_265_84 rfl ?_
        refine PW.gR 305 q_265_85 (Or.inl t_ft_265_62) gF_40_32 kd_294 QM56.1 (by decide) rfl ?_
        refine PW.aload_n q_265_88 rfl ?_
        refine PW.gI q_265_89 (Or.inl t_ft_265_385) gF_40_35 kd_294 QM56.1 (by decide) fun x62 fx62 hx62 kx62 => ?_
        have trx62 := o_i_of fx62
        refine PW.iload_n q_265_92 rfl ?_
        refine PW.jz_eq q_265_93 rfl (fun h63 => False.elim (by omega)) (fun h63 => ?_)
        refine PW.cB q_265_96 (by decide) fun c64 hc64 => ?_
        refine PW.goto q_265_98 rfl ?_
        refine PW.wT q_265_103 gA_51 kd_305 QM56 (by decide) rfl gC_51_0_40 (by decide) (by omega) (by omega) (n_lo _) (n_hi _) fun M65 IM65 fM65 UM65 => ?_
        have FM65 := Fr.pu FM56 UM65.1 kd_305 (rfl : List.contains [40, 44, 51] 51 = true)
        have tr66 : o_i (M65 294) 33 = o_i (M56 294) 33 := by rw [UM65.1 294 (g_ne kd_294 kd_305 (by decide))]
        have tr67 : o_i (M65 294) 35 = o_i (M56 294) 35 := by rw [UM65.1 294 (g_ne kd_294 kd_305 (by decide))]
        have tr68 : o_i (M65 294) 37 = o_i (M56 294) 37 := by rw [UM65.1 294 (g_ne kd_294 kd_305 (by decide))]
        have tr69 : o_i (M65 294) 34 = o_i (M56 294) 34 := by rw [UM65.1 294 (g_ne kd_294 kd_305 (by decide))]
        have tr70 : o_i (M65 294) 4 = o_i (M56 294) 4 := by rw [UM65.1 294 (g_ne kd_294 kd_305 (by decide))]
        have tr71 : o_i (M65 294) 11 = o_i (M56 294) 11 := by rw [UM65.1 294 (g_ne kd_294 kd_305 (by decide))]
        have tr72 : o_i (M65 294) 18 = o_i (M56 294) 18 := by rw [UM65.1 294 (g_ne kd_294 kd_305 (by decide))]
        refine PW.aload_n q_265_104 rfl ?_
        refine PW.dup q_265_105 rfl ?_
        refine PW.gE q_265_106 (Or.inl t_ft_265_385) gF_40_35 kd_294 IM65.1 (by decide) ((congrArg (fun e => o_f e 35) (UM65.1 _ (g_ne kd_294 kd_305 (by decide)))).trans fx62) ?_
        have tr73 := o_i_of ((congrArg (fun e => o_f e 35) (UM65.1 _ (g_ne kd_294 kd_305 (by decide)))).trans fx62)
        refine PW.cI q_265_109 (by decide) fun c74 hc74 => ?_
        refine PW.addN q_265_110 (by omega) (by omega) fun x75 hx75 => ?_
        refine PW.pT q_265_111 (Or.inl t_ft_265_385) gF_40_35 gP_40_35 kd_294 IM65 (by decide) rfl (by omega) (by omega) fun M76 IM76 fM76 UM76 => ?_
        have FM76 := Fr.pu FM65 UM76.1 kd_294 (rfl : List.contains [40, 44, 51] 40 = true)
        have tr77 := UM76.i (c := 294) (k := 33) (Or.inr (by decide))
        have tr78 := o_i_of fM76
        have tr79 := UM76.i (c := 294) (k := 37) (Or.inr (by decide))
        have tr80 := UM76.i (c := 294) (k := 34) (Or.inr (by decide))
        have tr81 := UM76.i (c := 294) (k := 4) (Or.inr (by decide))
        have tr82 := UM76.i (c := 294) (k := 11) (Or.inr (by decide))
        have tr83 := UM76.i (c := 294) (k := 18) (Or.inr (by decide))
        refine PW.aload_n q_265_114 rfl ?_
        refine PW.dup q_265_115 rfl ?_
        refine PW.gI q_265_116 (Or.inl t_ft_265_392) gF_40_36 kd_294 IM76.1 (by decide) fun x84 fx84 hx84 kx84 => ?_
        clear hx84 kx84
        refine PW.cI q_265_119 (by decide) fun c85 hc85 => ?_
        refine PW.addH q_265_120 fun x86 => ?_
        refine PW.pI q_265_121 (Or.inl t_ft_265_392) gF_40_36 gP_40_36 kd_294 Stab0 IM76 (by decide) rfl (n_lo _) (n_hi _) fun M87 IM87 fM87 UM87 => ?_
        have FM87 := Fr.pu FM76 UM87.1 kd_294 (rfl : List.contains [40, 44, 51] 40 = true)
        have tr88 := UM87.i (c := 294) (k := 33) (Or.inr (by decide))
        have tr89 := UM87.i (c := 294) (k := 35) (Or.inr (by decide))
        have tr90 := UM87.i (c := 294) (k := 37) (Or.inr (by decide))
        have tr91 := UM87.i (c := 294) (k := 34) (Or.inr (by decide))
        have tr92 := UM87.i (c := 294) (k := 4) (Or.inr (by decide))
        have tr93 := UM87.i (c := 294) (k := 11) (Or.inr (by decide))
        have tr94 := UM87.i (c := 294) (k := 18) (Or.inr (by decide))
        refine PW.cI q_265_124 (by decide) fun c95 hc95 => ?_
        refine PW.rZ q_265_125 rfl (by omega) (by omega) (by decide) (by decide) ?_
        exact hK c95 M87 IM87 FM87 (by omega) (by omega) (Or.inr ⟨gSm.of (gSn.push (k1 := o_a (M65 305)) w2 (by omega) (fun z hz => (UM65.2 z (by omega)).trans (congrFun ((congrArg o_a (Fr.at GM56 kd_305 rfl)).trans ((congrArg o_a (UM48.1 305 (by decide))).trans ((congrArg o_a (Fr.at GM22 kd_305 rfl)).trans ((congrArg o_a (Fr.at GM13 kd_305 rfl)).trans (congrArg o_a (Fr.at GM3 kd_305 rfl)))))) z)) (by rw [show (o_i (M 294) 35).toNat = x62.toInt.toNat from by omega, fM65]; omega) rfl) (by omega) (by omega) (by omega) (by omega) ((congrArg o_a (UM87.1 298 (by decide))).trans ((congrArg o_a (UM76.1 298 (by decide))).trans ((congrArg o_a (UM65.1 298 (by decide))).trans ((congrArg o_a (Fr.at GM56 kd_298 rfl)).trans ((congrArg o_a (UM48.1 298 (by decide))).trans ((congrArg o_a (Fr.at GM22 kd_298 rfl)).trans ((congrArg o_a (Fr.at GM13 kd_298 rfl)).trans (congrArg o_a (Fr.at GM3 kd_298 rfl))))))))) ((congrArg o_a (UM87.1 305 (by decide))).trans (congrArg o_a (UM76.1 305 (by decide)))), by omega, by omega, by omega⟩) ((UM87.i (c := 294) (k := 2) (Or.inr (by decide))).trans ((UM76.i (c := 294) (k := 2) (Or.inr (by decide))).trans ((congrArg (fun e => o_i e 2) (UM65.1 294 (by decide))).trans (TM56.1.trans ((UM48.i (c := 294) (k := 2) (Or.inr (by decide))).trans ((congrArg (fun e => o_i e 2) (Fr.at GM22 kd_294 rfl)).trans ((congrArg (fun e => o_i e 2) (Fr.at GM13 kd_294 rfl)).trans (congrArg (fun e => o_i e 2) (Fr.at GM3 kd_294 rfl)))))))))
      · skip
        refine PW.aload_n q_265_56 rfl ?_
        refine PW.cI q_265_57 (by decide) fun c96 hc96 => ?_
        refine PW.cV (as := [_]) (rest := []) q_265_58 t_mv_265_170 kd_294 IM22.1 (by decide) rfl (by decide) rfl rfl (Nat.le_of_ble_eq_true rfl) (Nat.le_of_ble_eq_true rfl) (by decide) (by decide) ?_
        have SM22 : Iv (gSv M22) M22 := gSv.of IM22
        refine PW.up (by decide) (c_X12_bad (gSv M22) (StabSv M22) G _ M22 SM22 c96 fun x98 M97 IM97 GM97 hx98 kx98 PM97 TM97 => ?_)
        have FM97 := Fr.trans FM22 GM97 (rfl)
        have QM97 : Iv gTT M97 := ⟨IM97.1, IM97.2.1⟩
        have tr99 : o_i (M97 294) 29 = o_i (M22 294) 29 := IM97.2.2.1
        have tr100 : o_i (M97 294) 33 = o_i (M22 294) 33 := IM97.2.2.2.1
        have tr101 : o_i (M97 294) 35 = o_i (M22 294) 35 := IM97.2.2.2.2.1
        have tr102 : o_i (M97 294) 37 = o_i (M22 294) 37 := IM97.2.2.2.2.2.1
        have srM97 : o_a (M97 298) = o_a (M22 298) := IM97.2.2.2.2.2.2.1
        have skM97 : o_a (M97 305) = o_a (M22 305) := IM97.2.2.2.2.2.2.2
        refine PW.rZ q_265_61 rfl (by omega) (by omega) (by decide) (by decide) ?_
        exact hK x98 M97 QM97 FM97 (by omega) (by omega) (Or.inl (by omega)) (TM97.trans ((congrArg (fun e => o_i e 2) (Fr.at GM22 kd_294 rfl)).trans ((congrArg (fun e => o_i e 2) (Fr.at GM13 kd_294 rfl)).trans (congrArg (fun e => o_i e 2) (Fr.at GM3 kd_294 rfl)))))
  · skip
    refine PW.iload_n q_265_24 rfl ?_
    refine PW.jz_ne q_265_25 rfl (fun h103 => ?_) (fun h103 => ?_)
    · skip
      refine PW.aload_n q_265_38 rfl ?_
      refine PW.gI q_265_39 (Or.inl t_ft_265_398) gF_40_34 kd_294 IM22.1 (by decide) fun x104 fx104 hx104 kx104 => ?_
      have trx104 := o_i_of fx104
      refine PW.cB q_265_42 (by decide) fun c105 hc105 => ?_
      refine PW.jc_eq q_265_44 rfl (fun h106 => ?_) (fun h106 => ?_)
      · skip
        refine PW.aload_n q_265_56 rfl ?_
        refine PW.cI q_265_57 (by decide) fun c107 hc107 => ?_
        refine PW.cV (as := [_]) (rest := []) q_265_58 t_mv_265_170 kd_294 IM22.1 (by decide) rfl (by decide) rfl rfl (Nat.le_of_ble_eq_true rfl) (Nat.le_of_ble_eq_true rfl) (by decide) (by decide) ?_
        have SM22 : Iv (gSv M22) M22 := gSv.of IM22
        refine PW.up (by decide) (c_X12_bad (gSv M22) (StabSv M22) G _ M22 SM22 c107 fun x109 M108 IM108 GM108 hx109 kx109 PM108 TM108 => ?_)
        have FM108 := Fr.trans FM22 GM108 (rfl)
        have QM108 : Iv gTT M108 := ⟨IM108.1, IM108.2.1⟩
        have tr110 : o_i (M108 294) 29 = o_i (M22 294) 29 := IM108.2.2.1
        have tr111 : o_i (M108 294) 33 = o_i (M22 294) 33 := IM108.2.2.2.1
        have tr112 : o_i (M108 294) 35 = o_i (M22 294) 35 := IM108.2.2.2.2.1
        have tr113 : o_i (M108 294) 37 = o_i (M22 294) 37 := IM108.2.2.2.2.2.1
        have srM108 : o_a (M108 298) = o_a (M22 298) := IM108.2.2.2.2.2.2.1
        have skM108 : o_a (M108 305) = o_a (M22 305) := IM108.2.2.2.2.2.2.2
        refine PW.rZ q_265_61 rfl (by omega) (by omega) (by decide) (by decide) ?_
        exact hK x109 M108 QM108 FM108 (by omega) (by omega) (Or.inl (by omega)) (TM108.trans ((congrArg (fun e => o_i e 2) (Fr.at GM22 kd_294 rfl)).trans ((congrArg (fun e => o_i e 2) (Fr.at GM13 kd_294 rfl)).trans (congrArg (fun e => o_i e 2) (Fr.at GM3 kd_294 rfl)))))
      · skip
        refine PW.aload_n q_265_47 rfl ?_
        refine PW.gI q_265_48 (Or.inl t_ft_265_392) gF_40_36 kd_294 IM22.1 (by decide) fun x114 fx114 hx114 kx114 => ?_
        clear hx114 kx114
        refine PW.cB q_265_51 (by decide) fun c115 hc115 => ?_
        refine PW.jc_le q_265_53 rfl (fun h116 => ?_) (fun h116 => ?_)
        · skip
          refine PW.aload_n q_265_62 rfl ?_
          refine PW.dup q_265_63 rfl ?_
          refine PW.gE q_265_64 (Or.inl t_ft_265_398) gF_40_34 kd_294 IM22.1 (by decide) fx104 ?_
          have tr117 := o_i_of fx104
          refine PW.cI q_265_67 (by decide) fun c118 hc118 => ?_
          refine PW.addN q_265_68 (by omega) (by omega) fun x119 hx119 => ?_
          refine PW.pI q_265_69 (Or.inl t_ft_265_398) gF_40_34 gP_40_34 kd_294 Stab0 IM22 (by decide) rfl (by omega) (by omega) fun M120 IM120 fM120 UM120 => ?_
          have FM120 := Fr.pu FM22 UM120.1 kd_294 (rfl : List.contains [40, 44, 51] 40 = true)
          have tr121 := UM120.i (c := 294) (k := 33) (Or.inr (by decide))
          have tr122 := UM120.i (c := 294) (k := 35) (Or.inr (by decide))
          have tr123 := UM120.i (c := 294) (k := 37) (Or.inr (by decide))
          have tr124 := o_i_of fM120
          have tr125 := UM120.i (c := 294) (k := 4) (Or.inr (by decide))
          have tr126 := UM120.i (c := 294) (k := 11) (Or.inr (by decide))
          have tr127 := UM120.i (c := 294) (k := 18) (Or.inr (by decide))
          refine PW.aload_n q_265_72 rfl ?_
          refine PW.cV (as := []) (rest := []) q_265_73 t_mv_265_173 kd_294 IM120.1 (by decide) rfl (by decide) rfl rfl (Nat.le_of_ble_eq_true rfl) (Nat.le_of_ble_eq_true rfl) (by decide) (by decide) ?_
          have SM120 : Iv (gSv M120) M120 := gSv.of IM120
          refine PW.up (by decide) (c_X12_go (gSv M120) (StabSv M120) G _ M120 SM120  fun M128 IM128 GM128 PM128 TM128 => ?_)
          have FM128 := Fr.trans FM120 GM128 (rfl)
          obtain ⟨PaM128, PdM128, PbM128, PeM128⟩ := PM128
          have QM128 : Iv gTT M128 := ⟨IM128.1, IM128.2.1⟩
          have tr129 : o_i (M128 294) 29 = o_i (M120 294) 29 := IM128.2.2.1
          have tr130 : o_i (M128 294) 33 = o_i (M120 294) 33 := IM128.2.2.2.1
          have tr131 : o_i (M128 294) 35 = o_i (M120 294) 35 := IM128.2.2.2.2.1
          have tr132 : o_i (M128 294) 37 = o_i (M120 294) 37 := IM128.2.2.2.2.2.1
          have srM128 : o_a (M128 298) = o_a (M120 298) := IM128.2.2.2.2.2.2.1
          have skM128 : o_a (M128 305) = o_a (M120 305) := IM128.2.2.2.2.2.2.2
          refine PW.iload_n q_265_76 rfl ?_
          refine PW.jz_ne q_265_77 rfl (fun h133 => False.elim (by omega)) (fun h133 => ?_)
          refine PW.iload_n q_265_80 rfl ?_
          refine PW.jz_eq q_265_81 rfl (fun h134 => False.elim (by omega)) (fun h134 => ?_)
          refine PW.aload_n q_265_84 rfl ?_
          refine PW.gR 305 q_265_85 (Or.inl t_ft_265_62) gF_40_32 kd_294 QM128.1 (by decide) rfl ?_
          refine PW.aload_n q_265_88 rfl ?_
          refine PW.gI q_265_89 (Or.inl t_ft_265_385) gF_40_35 kd_294 QM128.1 (by decide) fun x135 fx135 hx135 kx135 => ?_
          have trx135 := o_i_of fx135
          refine PW.iload_n q_265_92 rfl ?_
          refine PW.jz_eq q_265_93 rfl (fun h136 => ?_) (fun h136 => False.elim (by omega))
          refine PW.cB q_265_101 (by decide) fun c137 hc137 => ?_
          refine PW.wT q_265_103 gA_51 kd_305 QM128 (by decide) rfl gC_51_0_40 (by decide) (by omega) (by omega) (n_lo _) (n_hi _) fun M138 IM138 fM138 UM138 => ?_
          have FM138 := Fr.pu FM128 UM138.1 kd_305 (rfl : List.contains [40, 44, 51] 51 = true)
          have tr139 : o_i (M138 294) 33 = o_i (M128 294) 33 := by rw [UM138.1 294 (g_ne kd_294 kd_305 (by decide))]
          have tr140 : o_i (M138 294) 35 = o_i (M128 294) 35 := by rw [UM138.1 294 (g_ne kd_294 kd_305 (by decide))]
          have tr141 : o_i (M138 294) 37 = o_i (M128 294) 37 := by rw [UM138.1 294 (g_ne kd_294 kd_305 (by decide))]
          have tr142 : o_i (M138 294) 34 = o_i (M128 294) 34 := by rw [UM138.1 294 (g_ne kd_294 kd_305 (by decide))]
          have tr143 : o_i (M138 294) 4 = o_i (M128 294) 4 := by rw [UM138.1 294 (g_ne kd_294 kd_305 (by decide))]
          have tr144 : o_i (M138 294) 11 = o_i (M128 294) 11 := by rw [UM138.1 294 (g_ne kd_294 kd_305 (by decide))]
          have tr145 : o_i (M138 294) 18 = o_i (M128 294) 18 := by rw [UM138.1 294 (g_ne kd_294 kd_305 (by decide))]
          refine PW.aload_n q_265_104 rfl ?_
          refine PW.dup q_265_105 rfl ?_
          refine PW.gE q_265_106 (Or.inl t_ft_265_385) gF_40_35 kd_294 IM138.1 (by decide) ((congrArg (fun e => o_f e 35) (UM138.1 _ (g_ne kd_294 kd_305 (by decide)))).trans fx135) ?_
          have tr146 := o_i_of ((congrArg (fun e => o_f e 35) (UM138.1 _ (g_ne kd_294 kd_305 (by decide)))).trans fx135)
          refine PW.cI q_265_109 (by decide) fun c147 hc147 => ?_
          refine PW.addN q_265_110 (by omega) (by omega) fun x148 hx148 => ?_
          refine PW.pT q_265_111 (Or.inl t_ft_265_385) gF_40_35 gP_40_35 kd_294 IM138 (by decide) rfl (by omega) (by omega) fun M149 IM149 fM149 UM149 => ?_
          have FM149 := Fr.pu FM138 UM149.1 kd_294 (rfl : List.contains [40, 44, 51] 40 = true)
          have tr150 := UM149.i (c := 294) (k := 33) (Or.inr (by decide))
          have tr151 := o_i_of fM149
          have tr152 := UM149.i (c := 294) (k := 37) (Or.inr (by decide))
          have tr153 := UM149.i (c := 294) (k := 34) (Or.inr (by decide))
          have tr154 := UM149.i (c := 294) (k := 4) (Or.inr (by decide))
          have tr155 := UM149.i (c := 294) (k := 11) (Or.inr (by decide))
          have tr156 := UM149.i (c := 294) (k := 18) (Or.inr (by decide))
          refine PW.aload_n q_265_114 rfl ?_
          refine PW.dup q_265_115 rfl ?_
          refine PW.gI q_265_116 (Or.inl t_ft_265_392) gF_40_36 kd_294 IM149.1 (by decide) fun x157 fx157 hx157 kx157 => ?_
          clear hx157 kx157
          refine PW.cI q_265_119 (by decide) fun c158 hc158 => ?_
          refine PW.addH q_265_120 fun x159 => ?_
          refine PW.pI q_265_121 (Or.inl t_ft_265_392) gF_40_36 gP_40_36 kd_294 Stab0 IM149 (by decide) rfl (n_lo _) (n_hi _) fun M160 IM160 fM160 UM160 => ?_
          have FM160 := Fr.pu FM149 UM160.1 kd_294 (rfl : List.contains [40, 44, 51] 40 = true)
          have tr161 := UM160.i (c := 294) (k := 33) (Or.inr (by decide))
          have tr162 := UM160.i (c := 294) (k := 35) (Or.inr (by decide))
          have tr163 := UM160.i (c := 294) (k := 37) (Or.inr (by decide))
          have tr164 := UM160.i (c := 294) (k := 34) (Or.inr (by decide))
          have tr165 := UM160.i (c := 294) (k := 4) (Or.inr (by decide))
          have tr166 := UM160.i (c := 294) (k := 11) (Or.inr (by decide))
          have tr167 := UM160.i (c := 294) (k := 18) (Or.inr (by decide))
          refine PW.cI q_265_124 (by decide) fun c168 hc168 => ?_
          refine PW.rZ q_265_125 rfl (by omega) (by omega) (by decide) (by decide) ?_
          exact hK c168 M160 IM160 FM160 (by omega) (by omega) (Or.inr ⟨gSm.of (gSn.push (k1 := o_a (M138 305)) w2 (by omega) (fun z hz => (UM138.2 z (by omega)).trans (congrFun ((congrArg o_a (Fr.at GM128 kd_305 rfl)).trans ((congrArg o_a (UM120.1 305 (by decide))).trans ((congrArg o_a (Fr.at GM22 kd_305 rfl)).trans ((congrArg o_a (Fr.at GM13 kd_305 rfl)).trans (congrArg o_a (Fr.at GM3 kd_305 rfl)))))) z)) (by rw [show (o_i (M 294) 35).toNat = x135.toInt.toNat from by omega, fM138]; omega) rfl) (by omega) (by omega) (by omega) (by omega) ((congrArg o_a (UM160.1 298 (by decide))).trans ((congrArg o_a (UM149.1 298 (by decide))).trans ((congrArg o_a (UM138.1 298 (by decide))).trans ((congrArg o_a (Fr.at GM128 kd_298 rfl)).trans ((congrArg o_a (UM120.1 298 (by decide))).trans ((congrArg o_a (Fr.at GM22 kd_298 rfl)).trans ((congrArg o_a (Fr.at GM13 kd_298 rfl)).trans (congrArg o_a (Fr.at GM3 kd_298 rfl))))))))) ((congrArg o_a (UM160.1 305 (by decide))).trans (congrArg o_a (UM149.1 305 (by decide)))), by omega, by omega, by omega⟩) ((UM160.i (c := 294) (k := 2) (Or.inr (by decide))).trans ((UM149.i (c := 294) (k := 2) (Or.inr (by decide))).trans ((congrArg (fun e => o_i e 2) (UM138.1 294 (by decide))).trans (TM128.1.trans ((UM120.i (c := 294) (k := 2) (Or.inr (by decide))).trans ((congrArg (fun e => o_i e 2) (Fr.at GM22 kd_294 rfl)).trans ((congrArg (fun e => o_i e 2) (Fr.at GM13 kd_294 rfl)).trans (congrArg (fun e => o_i e 2) (Fr.at GM3 kd_294 rfl)))))))))
        · skip
          refine PW.aload_n q_265_56 rfl ?_
          refine PW.cI q_265_57 (by decide) fun c169 hc169 => ?_
          refine PW.cV (as := [_]) (rest := []) q_265_58 t_mv_265_170 kd_294 IM22.1 (by decide) rfl (by decide) rfl rfl (Nat.le_of_ble_eq_true rfl) (Nat.le_of_ble_eq_true rfl) (by decide) (by decide) ?_
          have SM22 : Iv (gSv M22) M22 := gSv.of IM22
          refine PW.up (by decide) (c_X12_bad (gSv M22) (StabSv M22) G _ M22 SM22 c169 fun x171 M170 IM170 GM170 hx171 kx171 PM170 TM170 => ?_)
          have FM170 := Fr.trans FM22 GM170 (rfl)
          have QM170 : Iv gTT M170 := ⟨IM170.1, IM170.2.1⟩
          have tr172 : o_i (M170 294) 29 = o_i (M22 294) 29 := IM170.2.2.1
          have tr173 : o_i (M170 294) 33 = o_i (M22 294) 33 := IM170.2.2.2.1
          have tr174 : o_i (M170 294) 35 = o_i (M22 294) 35 := IM170.2.2.2.2.1
          have tr175 : o_i (M170 294) 37 = o_i (M22 294) 37 := IM170.2.2.2.2.2.1
          have srM170 : o_a (M170 298) = o_a (M22 298) := IM170.2.2.2.2.2.2.1
          have skM170 : o_a (M170 305) = o_a (M22 305) := IM170.2.2.2.2.2.2.2
          refine PW.rZ q_265_61 rfl (by omega) (by omega) (by decide) (by decide) ?_
          exact hK x171 M170 QM170 FM170 (by omega) (by omega) (Or.inl (by omega)) (TM170.trans ((congrArg (fun e => o_i e 2) (Fr.at GM22 kd_294 rfl)).trans ((congrArg (fun e => o_i e 2) (Fr.at GM13 kd_294 rfl)).trans (congrArg (fun e => o_i e 2) (Fr.at GM3 kd_294 rfl)))))
    · skip
      refine PW.iload_n q_265_28 rfl ?_
      refine PW.jz_ge q_265_29 rfl (fun h176 => ?_) (fun h176 => ?_)
      · skip
        refine PW.aload_n q_265_38 rfl ?_
        refine PW.gI q_265_39 (Or.inl t_ft_265_398) gF_40_34 kd_294 IM22.1 (by decide) fun x177 fx177 hx177 kx177 => ?_
        have trx177 := o_i_of fx177
        refine PW.cB q_265_42 (by decide) fun c178 hc178 => ?_
        refine PW.jc_eq q_265_44 rfl (fun h179 => ?_) (fun h179 => ?_)
        · skip
          refine PW.aload_n q_265_56 rfl ?_
          refine PW.cI q_265_57 (by decide) fun c180 hc180 => ?_
          refine PW.cV (as := [_]) (rest := []) q_265_58 t_mv_265_170 kd_294 IM22.1 (by decide) rfl (by decide) rfl rfl (Nat.le_of_ble_eq_true rfl) (Nat.le_of_ble_eq_true rfl) (by decide) (by decide) ?_
          have SM22 : Iv (gSv M22) M22 := gSv.of IM22
          refine PW.up (by decide) (c_X12_bad (gSv M22) (StabSv M22) G _ M22 SM22 c180 fun x182 M181 IM181 GM181 hx182 kx182 PM181 TM181 => ?_)
          have FM181 := Fr.trans FM22 GM181 (rfl)
          have QM181 : Iv gTT M181 := ⟨IM181.1, IM181.2.1⟩
          have tr183 : o_i (M181 294) 29 = o_i (M22 294) 29 := IM181.2.2.1
          have tr184 : o_i (M181 294) 33 = o_i (M22 294) 33 := IM181.2.2.2.1
          have tr185 : o_i (M181 294) 35 = o_i (M22 294) 35 := IM181.2.2.2.2.1
          have tr186 : o_i (M181 294) 37 = o_i (M22 294) 37 := IM181.2.2.2.2.2.1
          have srM181 : o_a (M181 298) = o_a (M22 298) := IM181.2.2.2.2.2.2.1
          have skM181 : o_a (M181 305) = o_a (M22 305) := IM181.2.2.2.2.2.2.2
          refine PW.rZ q_265_61 rfl (by omega) (by omega) (by decide) (by decide) ?_
          exact hK x182 M181 QM181 FM181 (by omega) (by omega) (Or.inl (by omega)) (TM181.trans ((congrArg (fun e => o_i e 2) (Fr.at GM22 kd_294 rfl)).trans ((congrArg (fun e => o_i e 2) (Fr.at GM13 kd_294 rfl)).trans (congrArg (fun e => o_i e 2) (Fr.at GM3 kd_294 rfl)))))
        · skip
          refine PW.aload_n q_265_47 rfl ?_
          refine PW.gI q_265_48 (Or.inl t_ft_265_392) gF_40_36 kd_294 IM22.1 (by decide) fun x187 fx187 hx187 kx187 => ?_
          clear hx187 kx187
          refine PW.cB q_265_51 (by decide) fun c188 hc188 => ?_
          refine PW.jc_le q_265_53 rfl (fun h189 => ?_) (fun h189 => ?_)
          · skip
            refine PW.aload_n q_265_62 rfl ?_
            refine PW.dup q_265_63 rfl ?_
            refine PW.gE q_265_64 (Or.inl t_ft_265_398) gF_40_34 kd_294 IM22.1 (by decide) fx177 ?_
            have tr190 := o_i_of fx177
            refine PW.cI q_265_67 (by decide) fun c191 hc191 => ?_
            refine PW.addN q_265_68 (by omega) (by omega) fun x192 hx192 => ?_
            refine PW.pI q_265_69 (Or.inl t_ft_265_398) gF_40_34 gP_40_34 kd_294 Stab0 IM22 (by decide) rfl (by omega) (by omega) fun M193 IM193 fM193 UM193 => ?_
            have FM193 := Fr.pu FM22 UM193.1 kd_294 (rfl : List.contains [40, 44, 51] 40 = true)
            have tr194 := UM193.i (c := 294) (k := 33) (Or.inr (by decide))
            have tr195 := UM193.i (c := 294) (k := 35) (Or.inr (by decide))
            have tr196 := UM193.i (c := 294) (k := 37) (Or.inr (by decide))
            have tr197 := o_i_of fM193
            have tr198 := UM193.i (c := 294) (k := 4) (Or.inr (by decide))
            have tr199 := UM193.i (c := 294) (k := 11) (Or.inr (by decide))
            have tr200 := UM193.i (c := 294) (k := 18) (Or.inr (by decide))
            refine PW.aload_n q_265_72 rfl ?_
            refine PW.cV (as := []) (rest := []) q_265_73 t_mv_265_173 kd_294 IM193.1 (by decide) rfl (by decide) rfl rfl (Nat.le_of_ble_eq_true rfl) (Nat.le_of_ble_eq_true rfl) (by decide) (by decide) ?_
            have SM193 : Iv (gSv M193) M193 := gSv.of IM193
            refine PW.up (by decide) (c_X12_go (gSv M193) (StabSv M193) G _ M193 SM193  fun M201 IM201 GM201 PM201 TM201 => ?_)
            have FM201 := Fr.trans FM193 GM201 (rfl)
            obtain ⟨PaM201, PdM201, PbM201, PeM201⟩ := PM201
            have QM201 : Iv gTT M201 := ⟨IM201.1, IM201.2.1⟩
            have tr202 : o_i (M201 294) 29 = o_i (M193 294) 29 := IM201.2.2.1
            have tr203 : o_i (M201 294) 33 = o_i (M193 294) 33 := IM201.2.2.2.1
            have tr204 : o_i (M201 294) 35 = o_i (M193 294) 35 := IM201.2.2.2.2.1
            have tr205 : o_i (M201 294) 37 = o_i (M193 294) 37 := IM201.2.2.2.2.2.1
            have srM201 : o_a (M201 298) = o_a (M193 298) := IM201.2.2.2.2.2.2.1
            have skM201 : o_a (M201 305) = o_a (M193 305) := IM201.2.2.2.2.2.2.2
            refine PW.iload_n q_265_76 rfl ?_
            refine PW.jz_ne q_265_77 rfl (fun h206 => False.elim (by omega)) (fun h206 => ?_)
            refine PW.iload_n q_265_80 rfl ?_
            refine PW.jz_eq q_265_81 rfl (fun h207 => ?_) (fun h207 => False.elim (by omega))
            refine PW.aload_n q_265_126 rfl ?_
            refine PW.cI q_265_127 (by decide) fun c208 hc208 => ?_
            refine PW.pT q_265_128 (Or.inl t_ft_265_401) gF_40_37 gP_40_37 kd_294 QM201 (by decide) rfl (by omega) (by omega) fun M209 IM209 fM209 UM209 => ?_
            have FM209 := Fr.pu FM201 UM209.1 kd_294 (rfl : List.contains [40, 44, 51] 40 = true)
            have tr210 := UM209.i (c := 294) (k := 33) (Or.inr (by decide))
            have tr211 := UM209.i (c := 294) (k := 35) (Or.inr (by decide))
            have tr212 := o_i_of fM209
            have tr213 := UM209.i (c := 294) (k := 34) (Or.inr (by decide))
            have tr214 := UM209.i (c := 294) (k := 4) (Or.inr (by decide))
            have tr215 := UM209.i (c := 294) (k := 11) (Or.inr (by decide))
            have tr216 := UM209.i (c := 294) (k := 18) (Or.inr (by decide))
            refine PW.iload_n q_265_131 rfl ?_
            refine PW.cI q_265_132 (by decide) fun c217 hc217 => ?_
            refine PW.jc_ge q_265_133 rfl (fun h218 => ?_) (fun h218 => ?_)
            · skip
              refine PW.iload_n q_265_145 rfl ?_
              refine PW.cI q_265_146 (by decide) fun c219 hc219 => ?_
              refine PW.jc_ne q_265_147 rfl (fun h220 => ?_) (fun h220 => ?_)
              · skip
                refine PW.aload_n q_265_182 rfl ?_
                refine PW.gI q_265_183 (Or.inl t_ft_265_144) gF_40_11 kd_294 IM209.1 (by decide) fun x221 fx221 hx221 kx221 => ?_
                have trx221 := o_i_of fx221
                clear hx221 kx221
                refine PW.cI q_265_186 (by decide) fun c222 hc222 => ?_
                refine PW.jc_ne q_265_187 rfl (fun h223 => ?_) (fun h223 => ?_)
                · skip
                  refine PW.aload_n q_265_208 rfl ?_
                  refine PW.cI q_265_209 (by decide) fun c224 hc224 => ?_
                  refine PW.cV (as := [_]) (rest := []) q_265_210 t_mv_265_170 kd_294 IM209.1 (by decide) rfl (by decide) rfl rfl (Nat.le_of_ble_eq_true rfl) (Nat.le_of_ble_eq_true rfl) (by decide) (by decide) ?_
                  have SM209 : Iv (gSv M209) M209 := gSv.of IM209
                  refine PW.up (by decide) (c_X12_bad (gSv M209) (StabSv M209) G _ M209 SM209 c224 fun x226 M225 IM225 GM225 hx226 kx226 PM225 TM225 => ?_)
                  have FM225 := Fr.trans FM209 GM225 (rfl)
                  have QM225 : Iv gTT M225 := ⟨IM225.1, IM225.2.1⟩
                  have tr227 : o_i (M225 294) 29 = o_i (M209 294) 29 := IM225.2.2.1
                  have tr228 : o_i (M225 294) 33 = o_i (M209 294) 33 := IM225.2.2.2.1
                  have tr229 : o_i (M225 294) 35 = o_i (M209 294) 35 := IM225.2.2.2.2.1
                  have tr230 : o_i (M225 294) 37 = o_i (M209 294) 37 := IM225.2.2.2.2.2.1
                  have srM225 : o_a (M225 298) = o_a (M209 298) := IM225.2.2.2.2.2.2.1
                  have skM225 : o_a (M225 305) = o_a (M209 305) := IM225.2.2.2.2.2.2.2
                  refine PW.rZ q_265_213 rfl (by omega) (by omega) (by decide) (by decide) ?_
                  exact hK x226 M225 QM225 FM225 (by omega) (by omega) (Or.inl (by omega)) (TM225.trans ((UM209.i (c := 294) (k := 2) (Or.inr (by decide))).trans (TM201.1.trans ((UM193.i (c := 294) (k := 2) (Or.inr (by decide))).trans ((congrArg (fun e => o_i e 2) (Fr.at GM22 kd_294 rfl)).trans ((congrArg (fun e => o_i e 2) (Fr.at GM13 kd_294 rfl)).trans (congrArg (fun e => o_i e 2) (Fr.at GM3 kd_294 rfl))))))))
                · skip
                  refine PW.aload_n q_265_190 rfl ?_
                  refine PW.gI q_265_191 (Or.inl t_ft_265_154) gF_40_14 kd_294 IM209.1 (by decide) fun x231 fx231 hx231 kx231 => ?_
                  clear hx231 kx231
                  refine PW.cB q_265_194 (by decide) fun c232 hc232 => ?_
                  refine PW.jc_lt q_265_196 rfl (fun h233 => ?_) (fun h233 => ?_)
                  · skip
                    refine PW.aload_n q_265_208 rfl ?_
                    refine PW.cI q_265_209 (by decide) fun c234 hc234 => ?_
                    refine PW.cV (as := [_]) (rest := []) q_265_210 t_mv_265_170 kd_294 IM209.1 (by decide) rfl (by decide) rfl rfl (Nat.le_of_ble_eq_true rfl) (Nat.le_of_ble_eq_true rfl) (by decide) (by decide) ?_
                    have SM209 : Iv (gSv M209) M209 := gSv.of IM209
                    refine PW.up (by decide) (c_X12_bad (gSv M209) (StabSv M209) G _ M209 SM209 c234 fun x236 M235 IM235 GM235 hx236 kx236 PM235 TM235 => ?_)
                    have FM235 := Fr.trans FM209 GM235 (rfl)
                    have QM235 : Iv gTT M235 := ⟨IM235.1, IM235.2.1⟩
                    have tr237 : o_i (M235 294) 29 = o_i (M209 294) 29 := IM235.2.2.1
                    have tr238 : o_i (M235 294) 33 = o_i (M209 294) 33 := IM235.2.2.2.1
                    have tr239 : o_i (M235 294) 35 = o_i (M209 294) 35 := IM235.2.2.2.2.1
                    have tr240 : o_i (M235 294) 37 = o_i (M209 294) 37 := IM235.2.2.2.2.2.1
                    have srM235 : o_a (M235 298) = o_a (M209 298) := IM235.2.2.2.2.2.2.1
                    have skM235 : o_a (M235 305) = o_a (M209 305) := IM235.2.2.2.2.2.2.2
                    refine PW.rZ q_265_213 rfl (by omega) (by omega) (by decide) (by decide) ?_
                    exact hK x236 M235 QM235 FM235 (by omega) (by omega) (Or.inl (by omega)) (TM235.trans ((UM209.i (c := 294) (k := 2) (Or.inr (by decide))).trans (TM201.1.trans ((UM193.i (c := 294) (k := 2) (Or.inr (by decide))).trans ((congrArg (fun e => o_i e 2) (Fr.at GM22 kd_294 rfl)).trans ((congrArg (fun e => o_i e 2) (Fr.at GM13 kd_294 rfl)).trans (congrArg (fun e => o_i e 2) (Fr.at GM3 kd_294 rfl))))))))
                  · skip
                    refine PW.aload_n q_265_199 rfl ?_
                    refine PW.gE q_265_200 (Or.inl t_ft_265_154) gF_40_14 kd_294 IM209.1 (by decide) fx231 ?_
                    refine PW.cB q_265_203 (by decide) fun c241 hc241 => ?_
                    refine PW.jc_le q_265_205 rfl (fun h242 => ?_) (fun h242 => ?_)
                    · skip
                      refine PW.aload_n q_265_214 rfl ?_
                      refine PW.gE q_265_215 (Or.inl t_ft_265_154) gF_40_14 kd_294 IM209.1 (by decide) fx231 ?_
                      refine PW.istore q_265_218 (by decide) ?_
                      refine PW.aload_n q_265_220 rfl ?_
                      refine PW.cV (as := []) (rest := []) q_265_221 t_mv_265_173 kd_294 IM209.1 (by decide) rfl (by decide) rfl rfl (Nat.le_of_ble_eq_true rfl) (Nat.le_of_ble_eq_true rfl) (by decide) (by decide) ?_
                      have SM209 : Iv (gSv M209) M209 := gSv.of IM209
                      refine PW.up (by decide) (c_X12_go (gSv M209) (StabSv M209) G _ M209 SM209  fun M243 IM243 GM243 PM243 TM243 => ?_)
                      have FM243 := Fr.trans FM209 GM243 (rfl)
                      obtain ⟨PaM243, PdM243, PbM243, PeM243⟩ := PM243
                      clear PdM201
                      have QM243 : Iv gTT M243 := ⟨IM243.1, IM243.2.1⟩
                      have tr244 : o_i (M243 294) 29 = o_i (M209 294) 29 := IM243.2.2.1
                      have tr245 : o_i (M243 294) 33 = o_i (M209 294) 33 := IM243.2.2.2.1
                      have tr246 : o_i (M243 294) 35 = o_i (M209 294) 35 := IM243.2.2.2.2.1
                      have tr247 : o_i (M243 294) 37 = o_i (M209 294) 37 := IM243.2.2.2.2.2.1
                      have srM243 : o_a (M243 298) = o_a (M209 298) := IM243.2.2.2.2.2.2.1
                      have skM243 : o_a (M243 305) = o_a (M209 305) := IM243.2.2.2.2.2.2.2
                      refine PW.aload_n q_265_224 rfl ?_
                      refine PW.gI q_265_225 (Or.inl t_ft_265_144) gF_40_11 kd_294 QM243.1 (by decide) fun x248 fx248 hx248 kx248 => ?_
                      have trx248 := o_i_of fx248
                      clear hx248 kx248
                      refine PW.cI q_265_228 (by decide) fun c249 hc249 => ?_
                      refine PW.jc_eq q_265_229 rfl (fun h250 => ?_) (fun h250 => ?_)
                      · skip
                        refine PW.aload_n q_265_238 rfl ?_
                        refine PW.iload_n q_265_239 rfl ?_
                        refine PW.iload q_265_240 rfl ?_
                        refine PW.aload_n q_265_242 rfl ?_
                        refine PW.gI q_265_243 (Or.inl t_ft_265_154) gF_40_14 kd_294 QM243.1 (by decide) fun x251 fx251 hx251 kx251 => ?_
                        clear hx251 kx251
                        refine PW.cV (as := [_, _, _]) (rest := []) q_265_246 t_mv_265_388 kd_294 QM243.1 (by decide) rfl (by decide) rfl rfl (Nat.le_of_ble_eq_true rfl) (Nat.le_of_ble_eq_true rfl) (by decide) (by decide) ?_
                        refine PW.up (by decide) (c_X12_code G _ M243 QM243 x23 x231 x251 (by omega) fun M252 IM252 GM252 PM252 TM252 => ?_)
                        have FM252 := Fr.trans FM243 GM252 (rfl)
                        obtain ⟨KaM252, KbM252, KcM252, KeM252, KfM252, KhM252, KgM252⟩ := PM252
                        refine PW.aload_n q_265_249 rfl ?_
                        refine PW.cV (as := []) (rest := []) q_265_250 t_mv_265_173 kd_294 IM252.1 (by decide) rfl (by decide) rfl rfl (Nat.le_of_ble_eq_true rfl) (Nat.le_of_ble_eq_true rfl) (by decide) (by decide) ?_
                        have SM252 : Iv (gSv M252) M252 := gSv.of IM252
                        refine PW.up (by decide) (c_X12_go (gSv M252) (StabSv M252) G _ M252 SM252  fun M253 IM253 GM253 PM253 TM253 => ?_)
                        have FM253 := Fr.trans FM252 GM253 (rfl)
                        obtain ⟨PaM253, PdM253, PbM253, PeM253⟩ := PM253
                        clear PdM243
                        have QM253 : Iv gTT M253 := ⟨IM253.1, IM253.2.1⟩
                        have tr254 : o_i (M253 294) 29 = o_i (M252 294) 29 := IM253.2.2.1
                        have tr255 : o_i (M253 294) 33 = o_i (M252 294) 33 := IM253.2.2.2.1
                        have tr256 : o_i (M253 294) 35 = o_i (M252 294) 35 := IM253.2.2.2.2.1
                        have tr257 : o_i (M253 294) 37 = o_i (M252 294) 37 := IM253.2.2.2.2.2.1
                        have srM253 : o_a (M253 298) = o_a (M252 298) := IM253.2.2.2.2.2.2.1
                        have skM253 : o_a (M253 305) = o_a (M252 305) := IM253.2.2.2.2.2.2.2
                        refine PW.cI q_265_253 (by decide) fun c258 hc258 => ?_
                        refine PW.rZ q_265_254 rfl (by omega) (by omega) (by decide) (by decide) ?_
                        have kg259 := KgM252
                        rw [((congrArg o_a (Fr.at GM243 kd_298 rfl)).trans ((congrArg o_a (UM209.1 298 (by decide))).trans ((congrArg o_a (Fr.at GM201 kd_298 rfl)).trans ((congrArg o_a (UM193.1 298 (by decide))).trans ((congrArg o_a (Fr.at GM22 kd_298 rfl)).trans ((congrArg o_a (Fr.at GM13 kd_298 rfl)).trans (congrArg o_a (Fr.at GM3 kd_298 rfl)))))))), show o_i (M243 294) 33 = o_i (M 294) 33 from by omega] at kg259
                        exact hK c258 M253 QM253 FM253 (by omega) (by omega) (Or.inr ⟨gSm.of (gSn.leaf w2 (by omega) kg259 ⟨by omega, by omega⟩ (by omega) rfl) (by omega) (by omega) (by omega) (by omega) (congrArg o_a (Fr.at GM253 kd_298 rfl)) ((congrArg o_a (Fr.at GM253 kd_305 rfl)).trans ((congrArg o_a (Fr.at GM252 kd_305 rfl)).trans ((congrArg o_a (Fr.at GM243 kd_305 rfl)).trans ((congrArg o_a (UM209.1 305 (by decide))).trans ((congrArg o_a (Fr.at GM201 kd_305 rfl)).trans ((congrArg o_a (UM193.1 305 (by decide))).trans ((congrArg o_a (Fr.at GM22 kd_305 rfl)).trans ((congrArg o_a (Fr.at GM13 kd_305 rfl)).trans (congrArg o_a (Fr.at GM3 kd_305 rfl)))))))))), by omega, by omega, by omega⟩) (TM253.1.trans (TM252.1.trans (TM243.1.trans ((UM209.i (c := 294) (k := 2) (Or.inr (by decide))).trans (TM201.1.trans ((UM193.i (c := 294) (k := 2) (Or.inr (by decide))).trans ((congrArg (fun e => o_i e 2) (Fr.at GM22 kd_294 rfl)).trans ((congrArg (fun e => o_i e 2) (Fr.at GM13 kd_294 rfl)).trans (congrArg (fun e => o_i e 2) (Fr.at GM3 kd_294 rfl))))))))))
                      · skip
                        refine PW.aload_n q_265_232 rfl ?_
                        refine PW.cI q_265_233 (by decide) fun c260 hc260 => ?_
                        refine PW.cV (as := [_]) (rest := []) q_265_234 t_mv_265_170 kd_294 QM243.1 (by decide) rfl (by decide) rfl rfl (Nat.le_of_ble_eq_true rfl) (Nat.le_of_ble_eq_true rfl) (by decide) (by decide) ?_
                        have SM243 : Iv (gSv M243) M243 := gSv.of QM243
                        refine PW.up (by decide) (c_X12_bad (gSv M243) (StabSv M243) G _ M243 SM243 c260 fun x262 M261 IM261 GM261 hx262 kx262 PM261 TM261 => ?_)
                        have FM261 := Fr.trans FM243 GM261 (rfl)
                        have QM261 : Iv gTT M261 := ⟨IM261.1, IM261.2.1⟩
                        have tr263 : o_i (M261 294) 29 = o_i (M243 294) 29 := IM261.2.2.1
                        have tr264 : o_i (M261 294) 33 = o_i (M243 294) 33 := IM261.2.2.2.1
                        have tr265 : o_i (M261 294) 35 = o_i (M243 294) 35 := IM261.2.2.2.2.1
                        have tr266 : o_i (M261 294) 37 = o_i (M243 294) 37 := IM261.2.2.2.2.2.1
                        have srM261 : o_a (M261 298) = o_a (M243 298) := IM261.2.2.2.2.2.2.1
                        have skM261 : o_a (M261 305) = o_a (M243 305) := IM261.2.2.2.2.2.2.2
                        refine PW.rZ q_265_237 rfl (by omega) (by omega) (by decide) (by decide) ?_
                        exact hK x262 M261 QM261 FM261 (by omega) (by omega) (Or.inl (by omega)) (TM261.trans (TM243.1.trans ((UM209.i (c := 294) (k := 2) (Or.inr (by decide))).trans (TM201.1.trans ((UM193.i (c := 294) (k := 2) (Or.inr (by decide))).trans ((congrArg (fun e => o_i e 2) (Fr.at GM22 kd_294 rfl)).trans ((congrArg (fun e => o_i e 2) (Fr.at GM13 kd_294 rfl)).trans (congrArg (fun e => o_i e 2) (Fr.at GM3 kd_294 rfl)))))))))
                    · skip
                      refine PW.aload_n q_265_208 rfl ?_
                      refine PW.cI q_265_209 (by decide) fun c267 hc267 => ?_
                      refine PW.cV (as := [_]) (rest := []) q_265_210 t_mv_265_170 kd_294 IM209.1 (by decide) rfl (by decide) rfl rfl (Nat.le_of_ble_eq_true rfl) (Nat.le_of_ble_eq_true rfl) (by decide) (by decide) ?_
                      have SM209 : Iv (gSv M209) M209 := gSv.of IM209
                      refine PW.up (by decide) (c_X12_bad (gSv M209) (StabSv M209) G _ M209 SM209 c267 fun x269 M268 IM268 GM268 hx269 kx269 PM268 TM268 => ?_)
                      have FM268 := Fr.trans FM209 GM268 (rfl)
                      have QM268 : Iv gTT M268 := ⟨IM268.1, IM268.2.1⟩
                      have tr270 : o_i (M268 294) 29 = o_i (M209 294) 29 := IM268.2.2.1
                      have tr271 : o_i (M268 294) 33 = o_i (M209 294) 33 := IM268.2.2.2.1
                      have tr272 : o_i (M268 294) 35 = o_i (M209 294) 35 := IM268.2.2.2.2.1
                      have tr273 : o_i (M268 294) 37 = o_i (M209 294) 37 := IM268.2.2.2.2.2.1
                      have srM268 : o_a (M268 298) = o_a (M209 298) := IM268.2.2.2.2.2.2.1
                      have skM268 : o_a (M268 305) = o_a (M209 305) := IM268.2.2.2.2.2.2.2
                      refine PW.rZ q_265_213 rfl (by omega) (by omega) (by decide) (by decide) ?_
                      exact hK x269 M268 QM268 FM268 (by omega) (by omega) (Or.inl (by omega)) (TM268.trans ((UM209.i (c := 294) (k := 2) (Or.inr (by decide))).trans (TM201.1.trans ((UM193.i (c := 294) (k := 2) (Or.inr (by decide))).trans ((congrArg (fun e => o_i e 2) (Fr.at GM22 kd_294 rfl)).trans ((congrArg (fun e => o_i e 2) (Fr.at GM13 kd_294 rfl)).trans (congrArg (fun e => o_i e 2) (Fr.at GM3 kd_294 rfl))))))))
              · skip
                refine PW.aload_n q_265_150 rfl ?_
                refine PW.cI q_265_151 (by decide) fun c274 hc274 => ?_
                refine PW.aload_n q_265_152 rfl ?_
                refine PW.gR 296 q_265_153 (Or.inl t_ft_265_33) gF_40_6 kd_294 IM209.1 (by decide) rfl ?_
                refine PW.cI q_265_156 (by decide) fun c275 hc275 => ?_
                refine PW.aI q_265_157 gA_42 kd_296 IM209.1 (by decide) gB_42_0_0 (by decide) (by omega) (by omega) fun x276 fx276 hx276 kx276 => ?_
                refine PW.cV (as := [_, _]) (rest := []) q_265_158 t_mv_265_217 kd_294 IM209.1 (by decide) rfl (by decide) rfl rfl (Nat.le_of_ble_eq_true rfl) (Nat.le_of_ble_eq_true rfl) (by decide) (by decide) ?_
                have SM209 : Iv (gSv M209) M209 := gSv.of IM209
                refine PW.up (by decide) (c_X12_looksAt_s (gSv M209) (StabSv M209) G _ M209 SM209 c274 x276 (by omega) (by omega) (by omega) (by omega) fun x278 M277 IM277 GM277 hx278 kx278 PM277 TM277 => ?_)
                have FM277 := Fr.trans FM209 GM277 (rfl)
                have QM277 : Iv gTT M277 := ⟨IM277.1, IM277.2.1⟩
                have tr279 : o_i (M277 294) 29 = o_i (M209 294) 29 := IM277.2.2.1
                have tr280 : o_i (M277 294) 33 = o_i (M209 294) 33 := IM277.2.2.2.1
                have tr281 : o_i (M277 294) 35 = o_i (M209 294) 35 := IM277.2.2.2.2.1
                have tr282 : o_i (M277 294) 37 = o_i (M209 294) 37 := IM277.2.2.2.2.2.1
                have srM277 : o_a (M277 298) = o_a (M209 298) := IM277.2.2.2.2.2.2.1
                have skM277 : o_a (M277 305) = o_a (M209 305) := IM277.2.2.2.2.2.2.2
                refine PW.jz_ne q_265_161 rfl (fun h283 => ?_) (fun h283 => ?_)
                · skip
                  refine PW.aload_n q_265_166 rfl ?_
                  refine PW.iload_n q_265_167 rfl ?_
                  refine PW.cI q_265_168 (by decide) fun c284 hc284 => ?_
                  refine PW.aload_n q_265_169 rfl ?_
                  refine PW.gI q_265_170 (Or.inl t_ft_265_180) gF_40_18 kd_294 QM277.1 (by decide) fun x285 fx285 hx285 kx285 => ?_
                  have trx285 := o_i_of fx285
                  clear hx285 kx285
                  refine PW.cV (as := [_, _, _]) (rest := []) q_265_173 t_mv_265_388 kd_294 QM277.1 (by decide) rfl (by decide) rfl rfl (Nat.le_of_ble_eq_true rfl) (Nat.le_of_ble_eq_true rfl) (by decide) (by decide) ?_
                  refine PW.up (by decide) (c_X12_code G _ M277 QM277 x23 c284 x285 (by omega) fun M286 IM286 GM286 PM286 TM286 => ?_)
                  have FM286 := Fr.trans FM277 GM286 (rfl)
                  obtain ⟨KaM286, KbM286, KcM286, KeM286, KfM286, KhM286, KgM286⟩ := PM286
                  refine PW.aload_n q_265_176 rfl ?_
                  refine PW.cV (as := []) (rest := []) q_265_177 t_mv_265_173 kd_294 IM286.1 (by decide) rfl (by decide) rfl rfl (Nat.le_of_ble_eq_true rfl) (Nat.le_of_ble_eq_true rfl) (by decide) (by decide) ?_
                  have SM286 : Iv (gSv M286) M286 := gSv.of IM286
                  refine PW.up (by decide) (c_X12_go (gSv M286) (StabSv M286) G _ M286 SM286  fun M287 IM287 GM287 PM287 TM287 => ?_)
                  have FM287 := Fr.trans FM286 GM287 (rfl)
                  obtain ⟨PaM287, PdM287, PbM287, PeM287⟩ := PM287
                  clear PdM201
                  have QM287 : Iv gTT M287 := ⟨IM287.1, IM287.2.1⟩
                  have tr288 : o_i (M287 294) 29 = o_i (M286 294) 29 := IM287.2.2.1
                  have tr289 : o_i (M287 294) 33 = o_i (M286 294) 33 := IM287.2.2.2.1
                  have tr290 : o_i (M287 294) 35 = o_i (M286 294) 35 := IM287.2.2.2.2.1
                  have tr291 : o_i (M287 294) 37 = o_i (M286 294) 37 := IM287.2.2.2.2.2.1
                  have srM287 : o_a (M287 298) = o_a (M286 298) := IM287.2.2.2.2.2.2.1
                  have skM287 : o_a (M287 305) = o_a (M286 305) := IM287.2.2.2.2.2.2.2
                  refine PW.cI q_265_180 (by decide) fun c292 hc292 => ?_
                  refine PW.rZ q_265_181 rfl (by omega) (by omega) (by decide) (by decide) ?_
                  have kg293 := KgM286
                  rw [((congrArg o_a (Fr.at GM277 kd_298 rfl)).trans ((congrArg o_a (UM209.1 298 (by decide))).trans ((congrArg o_a (Fr.at GM201 kd_298 rfl)).trans ((congrArg o_a (UM193.1 298 (by decide))).trans ((congrArg o_a (Fr.at GM22 kd_298 rfl)).trans ((congrArg o_a (Fr.at GM13 kd_298 rfl)).trans (congrArg o_a (Fr.at GM3 kd_298 rfl)))))))), show o_i (M277 294) 33 = o_i (M 294) 33 from by omega] at kg293
                  exact hK c292 M287 QM287 FM287 (by omega) (by omega) (Or.inr ⟨gSm.of (gSn.leaf w2 (by omega) kg293 ⟨by omega, by omega⟩ (by omega) rfl) (by omega) (by omega) (by omega) (by omega) (congrArg o_a (Fr.at GM287 kd_298 rfl)) ((congrArg o_a (Fr.at GM287 kd_305 rfl)).trans ((congrArg o_a (Fr.at GM286 kd_305 rfl)).trans ((congrArg o_a (Fr.at GM277 kd_305 rfl)).trans ((congrArg o_a (UM209.1 305 (by decide))).trans ((congrArg o_a (Fr.at GM201 kd_305 rfl)).trans ((congrArg o_a (UM193.1 305 (by decide))).trans ((congrArg o_a (Fr.at GM22 kd_305 rfl)).trans ((congrArg o_a (Fr.at GM13 kd_305 rfl)).trans (congrArg o_a (Fr.at GM3 kd_305 rfl)))))))))), by omega, by omega, by omega⟩) (TM287.1.trans (TM286.1.trans (TM277.trans ((UM209.i (c := 294) (k := 2) (Or.inr (by decide))).trans (TM201.1.trans ((UM193.i (c := 294) (k := 2) (Or.inr (by decide))).trans ((congrArg (fun e => o_i e 2) (Fr.at GM22 kd_294 rfl)).trans ((congrArg (fun e => o_i e 2) (Fr.at GM13 kd_294 rfl)).trans (congrArg (fun e => o_i e 2) (Fr.at GM3 kd_294 rfl))))))))))
                · skip
                  refine PW.cI q_265_164 (by decide) fun c294 hc294 => ?_
                  refine PW.rZ q_265_165 rfl (by omega) (by omega) (by decide) (by decide) ?_
                  exact hK c294 M277 QM277 FM277 (by omega) (by omega) (Or.inl (by omega)) (TM277.trans ((UM209.i (c := 294) (k := 2) (Or.inr (by decide))).trans (TM201.1.trans ((UM193.i (c := 294) (k := 2) (Or.inr (by decide))).trans ((congrArg (fun e => o_i e 2) (Fr.at GM22 kd_294 rfl)).trans ((congrArg (fun e => o_i e 2) (Fr.at GM13 kd_294 rfl)).trans (congrArg (fun e => o_i e 2) (Fr.at GM3 kd_294 rfl))))))))
            · skip
              refine PW.aload_n q_265_136 rfl ?_
              refine PW.iload_n q_265_137 rfl ?_
              refine PW.cI q_265_138 (by decide) fun c295 hc295 => ?_
              refine PW.cI q_265_139 (by decide) fun c296 hc296 => ?_
              refine PW.cV (as := [_, _, _]) (rest := []) q_265_140 t_mv_265_388 kd_294 IM209.1 (by decide) rfl (by decide) rfl rfl (Nat.le_of_ble_eq_true rfl) (Nat.le_of_ble_eq_true rfl) (by decide) (by decide) ?_
              refine PW.up (by decide) (c_X12_code G _ M209 IM209 x23 c295 c296 (by omega) fun M297 IM297 GM297 PM297 TM297 => ?_)
              have FM297 := Fr.trans FM209 GM297 (rfl)
              obtain ⟨KaM297, KbM297, KcM297, KeM297, KfM297, KhM297, KgM297⟩ := PM297
              refine PW.cI q_265_143 (by decide) fun c298 hc298 => ?_
              refine PW.rZ q_265_144 rfl (by omega) (by omega) (by decide) (by decide) ?_
              have kg299 := KgM297
              rw [((congrArg o_a (UM209.1 298 (by decide))).trans ((congrArg o_a (Fr.at GM201 kd_298 rfl)).trans ((congrArg o_a (UM193.1 298 (by decide))).trans ((congrArg o_a (Fr.at GM22 kd_298 rfl)).trans ((congrArg o_a (Fr.at GM13 kd_298 rfl)).trans (congrArg o_a (Fr.at GM3 kd_298 rfl))))))), show o_i (M209 294) 33 = o_i (M 294) 33 from by omega] at kg299
              exact hK c298 M297 IM297 FM297 (by omega) (by omega) (Or.inr ⟨gSm.of (gSn.leaf w2 (by omega) kg299 ⟨by omega, by omega⟩ (by omega) rfl) (by omega) (by omega) (by omega) (by omega) rfl ((congrArg o_a (Fr.at GM297 kd_305 rfl)).trans ((congrArg o_a (UM209.1 305 (by decide))).trans ((congrArg o_a (Fr.at GM201 kd_305 rfl)).trans ((congrArg o_a (UM193.1 305 (by decide))).trans ((congrArg o_a (Fr.at GM22 kd_305 rfl)).trans ((congrArg o_a (Fr.at GM13 kd_305 rfl)).trans (congrArg o_a (Fr.at GM3 kd_305 rfl)))))))), by omega, by omega, by omega⟩) (TM297.1.trans ((UM209.i (c := 294) (k := 2) (Or.inr (by decide))).trans (TM201.1.trans ((UM193.i (c := 294) (k := 2) (Or.inr (by decide))).trans ((congrArg (fun e => o_i e 2) (Fr.at GM22 kd_294 rfl)).trans ((congrArg (fun e => o_i e 2) (Fr.at GM13 kd_294 rfl)).trans (congrArg (fun e => o_i e 2) (Fr.at GM3 kd_294 rfl))))))))
          · skip
            refine PW.aload_n q_265_56 rfl ?_
            refine PW.cI q_265_57 (by decide) fun c300 hc300 => ?_
            refine PW.cV (as := [_]) (rest := []) q_265_58 t_mv_265_170 kd_294 IM22.1 (by decide) rfl (by decide) rfl rfl (Nat.le_of_ble_eq_true rfl) (Nat.le_of_ble_eq_true rfl) (by decide) (by decide) ?_
            have SM22 : Iv (gSv M22) M22 := gSv.of IM22
            refine PW.up (by decide) (c_X12_bad (gSv M22) (StabSv M22) G _ M22 SM22 c300 fun x302 M301 IM301 GM301 hx302 kx302 PM301 TM301 => ?_)
            have FM301 := Fr.trans FM22 GM301 (rfl)
            have QM301 : Iv gTT M301 := ⟨IM301.1, IM301.2.1⟩
            have tr303 : o_i (M301 294) 29 = o_i (M22 294) 29 := IM301.2.2.1
            have tr304 : o_i (M301 294) 33 = o_i (M22 294) 33 := IM301.2.2.2.1
            have tr305 : o_i (M301 294) 35 = o_i (M22 294) 35 := IM301.2.2.2.2.1
            have tr306 : o_i (M301 294) 37 = o_i (M22 294) 37 := IM301.2.2.2.2.2.1
            have srM301 : o_a (M301 298) = o_a (M22 298) := IM301.2.2.2.2.2.2.1
            have skM301 : o_a (M301 305) = o_a (M22 305) := IM301.2.2.2.2.2.2.2
            refine PW.rZ q_265_61 rfl (by omega) (by omega) (by decide) (by decide) ?_
            exact hK x302 M301 QM301 FM301 (by omega) (by omega) (Or.inl (by omega)) (TM301.trans ((congrArg (fun e => o_i e 2) (Fr.at GM22 kd_294 rfl)).trans ((congrArg (fun e => o_i e 2) (Fr.at GM13 kd_294 rfl)).trans (congrArg (fun e => o_i e 2) (Fr.at GM3 kd_294 rfl)))))
      · skip
        refine PW.aload_n q_265_32 rfl ?_
        refine PW.cI q_265_33 (by decide) fun c307 hc307 => ?_
        refine PW.cV (as := [_]) (rest := []) q_265_34 t_mv_265_170 kd_294 IM22.1 (by decide) rfl (by decide) rfl rfl (Nat.le_of_ble_eq_true rfl) (Nat.le_of_ble_eq_true rfl) (by decide) (by decide) ?_
        have SM22 : Iv (gSv M22) M22 := gSv.of IM22
        refine PW.up (by decide) (c_X12_bad (gSv M22) (StabSv M22) G _ M22 SM22 c307 fun x309 M308 IM308 GM308 hx309 kx309 PM308 TM308 => ?_)
        have FM308 := Fr.trans FM22 GM308 (rfl)
        have QM308 : Iv gTT M308 := ⟨IM308.1, IM308.2.1⟩
        have tr310 : o_i (M308 294) 29 = o_i (M22 294) 29 := IM308.2.2.1
        have tr311 : o_i (M308 294) 33 = o_i (M22 294) 33 := IM308.2.2.2.1
        have tr312 : o_i (M308 294) 35 = o_i (M22 294) 35 := IM308.2.2.2.2.1
        have tr313 : o_i (M308 294) 37 = o_i (M22 294) 37 := IM308.2.2.2.2.2.1
        have srM308 : o_a (M308 298) = o_a (M22 298) := IM308.2.2.2.2.2.2.1
        have skM308 : o_a (M308 305) = o_a (M22 305) := IM308.2.2.2.2.2.2.2
        refine PW.rZ q_265_37 rfl (by omega) (by omega) (by decide) (by decide) ?_
        exact hK x309 M308 QM308 FM308 (by omega) (by omega) (Or.inl (by omega)) (TM308.trans ((congrArg (fun e => o_i e 2) (Fr.at GM22 kd_294 rfl)).trans ((congrArg (fun e => o_i e 2) (Fr.at GM13 kd_294 rfl)).trans (congrArg (fun e => o_i e 2) (Fr.at GM3 kd_294 rfl)))))
theorem c_X12_behind (G : pG) (Kr : pK) (M : pM) (I : Iv gTT M) (hp_0 : gSm M) (hp_1 : o_i (M 294) 37 = 1) (hK : ∀ (x : Int32) (M1 : pM), Iv gTT M1 → Fr [40, 44, 51] M M1 → 0 ≤ x.toInt → x.toInt ≤ 1 → (x.toInt = 0 ∨ (gSm M1 ∧ o_i (M 294) 4 ≤ o_i (M1 294) 4 ∧ (o_i (M 294) 11 ≠ 0 ∧ o_i (M 294) 11 ≠ 4) ∧ (o_i (M1 294) 11 = 0 ∨ o_i (M1 294) 11 = 4 ∨ o_i (M 294) 4 + 1 ≤ o_i (M1 294) 4))) → (gLq M1 M) → Kr.1 (some (.int x)) 311 M1) : PW G false 2 266 (p_mc 266) (p_msl 266) Kr 0 (lv_args 0 [.ref 294]) [] 311 M 0 0 := by
  have F : Fr [40, 44, 51] M M := Fr.refl
  refine PW.aload_n q_266_0 rfl ?_
  refine PW.cV (as := []) (rest := []) q_266_1 t_mv_266_404 kd_294 I.1 (by decide) rfl (by decide) rfl rfl (Nat.le_of_ble_eq_true rfl) (Nat.le_of_ble_eq_true rfl) (by decide) (by decide) ?_
  refine PW.up (by decide) (c_X12_nots G _ M I (gSm.of hp_0 (by omega) (by omega) (by omega) (by omega) rfl rfl) (by omega) fun M1 IM1 GM1 PM1 TM1 => ?_)
  have FM1 := Fr.trans F GM1 (rfl)
  obtain ⟨NaM1, NbM1, NcM1, NeM1, NfM1⟩ := PM1
  have hs2 : o_i (M1 294) 33 + o_i (M1 294) 35 + o_i (M1 294) 37 ≤ 2 * o_i (M1 294) 34 := NaM1.2.2
  have ho2 := g_on20 IM1.1
  have hc2 := g_co IM1.1
  refine PW.aload_n q_266_4 rfl ?_
  refine PW.ldc2 q_266_5 t_lt_266_114 ?_
  refine PW.cV (as := [_]) (rest := []) q_266_8 t_mv_266_201 kd_294 IM1.1 (by decide) rfl (by decide) rfl rfl (Nat.le_of_ble_eq_true rfl) (Nat.le_of_ble_eq_true rfl) (by decide) (by decide) ?_
  refine PW.up (by decide) (c_X12_isWord_v (gTT) (Stab0) G _ M1 IM1 _ fun x4 M3 IM3 GM3 hx4 kx4 PM3 TM3 => ?_)
  have FM3 := Fr.trans FM1 GM3 (rfl)
  have tr5 : o_i (M3 294) 33 = o_i (M1 294) 33 := by rw [Fr.at GM3 kd_294 (by decide)]
  have tr6 : o_i (M3 294) 35 = o_i (M1 294) 35 := by rw [Fr.at GM3 kd_294 (by decide)]
  have tr7 : o_i (M3 294) 37 = o_i (M1 294) 37 := by rw [Fr.at GM3 kd_294 (by decide)]
  have tr8 : o_i (M3 294) 34 = o_i (M1 294) 34 := by rw [Fr.at GM3 kd_294 (by decide)]
  have tr9 : o_i (M3 294) 4 = o_i (M1 294) 4 := by rw [Fr.at GM3 kd_294 (by decide)]
  have tr10 : o_i (M3 294) 11 = o_i (M1 294) 11 := by rw [Fr.at GM3 kd_294 (by decide)]
  refine PW.jz_ne q_266_11 rfl (fun h11 => ?_) (fun h11 => ?_)
  · skip
    refine PW.aload_n q_266_24 rfl ?_
    refine PW.aload_n q_266_25 rfl ?_
    refine PW.ldc2 q_266_26 t_lt_266_114 ?_
    refine PW.cV (as := [_]) (rest := [_]) q_266_29 t_mv_266_201 kd_294 IM3.1 (by decide) rfl (by decide) rfl rfl (Nat.le_of_ble_eq_true rfl) (Nat.le_of_ble_eq_true rfl) (by decide) (by decide) ?_
    refine PW.up (by decide) (c_X12_isWord_v (gTT) (Stab0) G _ M3 IM3 _ fun x13 M12 IM12 GM12 hx13 kx13 PM12 TM12 => ?_)
    have FM12 := Fr.trans FM3 GM12 (rfl)
    have tr14 : o_i (M12 294) 33 = o_i (M3 294) 33 := by rw [Fr.at GM12 kd_294 (by decide)]
    have tr15 : o_i (M12 294) 35 = o_i (M3 294) 35 := by rw [Fr.at GM12 kd_294 (by decide)]
    have tr16 : o_i (M12 294) 37 = o_i (M3 294) 37 := by rw [Fr.at GM12 kd_294 (by decide)]
    have tr17 : o_i (M12 294) 34 = o_i (M3 294) 34 := by rw [Fr.at GM12 kd_294 (by decide)]
    have tr18 : o_i (M12 294) 4 = o_i (M3 294) 4 := by rw [Fr.at GM12 kd_294 (by decide)]
    have tr19 : o_i (M12 294) 11 = o_i (M3 294) 11 := by rw [Fr.at GM12 kd_294 (by decide)]
    refine PW.jz_eq q_266_32 rfl (fun h20 => ?_) (fun h20 => ?_)
    · skip
      refine PW.cB q_266_40 (by decide) fun c21 hc21 => ?_
      refine PW.cV (as := [_]) (rest := []) q_266_42 t_mv_266_407 kd_294 IM12.1 (by decide) rfl (by decide) rfl rfl (Nat.le_of_ble_eq_true rfl) (Nat.le_of_ble_eq_true rfl) (by decide) (by decide) ?_
      refine PW.up (by decide) (c_X12_joins G _ M12 IM12 c21 (gSm.of (NaM1) (by omega) (by omega) (by omega) (by omega) ((congrArg o_a (Fr.at GM12 kd_298 rfl)).trans (congrArg o_a (Fr.at GM3 kd_298 rfl))) ((congrArg o_a (Fr.at GM12 kd_305 rfl)).trans (congrArg o_a (Fr.at GM3 kd_305 rfl)))) (by omega) fun M22 IM22 GM22 PM22 TM22 => ?_)
      have FM22 := Fr.trans FM12 GM22 (rfl)
      obtain ⟨NaM22, NbM22, NcM22, NeM22, NfM22, NgM22⟩ := PM22
      have hs23 : o_i (M22 294) 33 + o_i (M22 294) 35 + o_i (M22 294) 37 ≤ 2 * o_i (M22 294) 34 := NaM22.2.2
      have ho23 := g_on20 IM22.1
      have hc23 := g_co IM22.1
      have w24 : gSn (o_i (M22 294) 33) (o_i (M22 294) 35) 1 (o_i (M22 294) 34) (o_a (M22 298)) (o_a (M22 305)) := by have q := NaM22; unfold gSm at q; rw [show o_i (M22 294) 37 = 1 from by omega] at q; exact q
      refine PW.aload_n q_266_45 rfl ?_
      refine PW.gR 305 q_266_46 (Or.inl t_ft_266_62) gF_40_32 kd_294 IM22.1 (by decide) rfl ?_
      refine PW.aload_n q_266_49 rfl ?_
      refine PW.gI q_266_50 (Or.inl t_ft_266_385) gF_40_35 kd_294 IM22.1 (by decide) fun x25 fx25 hx25 kx25 => ?_
      have trx25 := o_i_of fx25
      refine PW.aload_n q_266_53 rfl ?_
      refine PW.ldc2 q_266_54 t_lt_266_114 ?_
      refine PW.cV (as := [_]) (rest := [_, _]) q_266_57 t_mv_266_201 kd_294 IM22.1 (by decide) rfl (by decide) rfl rfl (Nat.le_of_ble_eq_true rfl) (Nat.le_of_ble_eq_true rfl) (by decide) (by decide) ?_
      refine PW.up (by decide) (c_X12_isWord_v (gTT) (Stab0) G _ M22 IM22 _ fun x27 M26 IM26 GM26 hx27 kx27 PM26 TM26 => ?_)
      have FM26 := Fr.trans FM22 GM26 (rfl)
      have tr28 : o_i (M26 294) 33 = o_i (M22 294) 33 := by rw [Fr.at GM26 kd_294 (by decide)]
      have tr29 : o_i (M26 294) 35 = o_i (M22 294) 35 := by rw [Fr.at GM26 kd_294 (by decide)]
      have tr30 : o_i (M26 294) 37 = o_i (M22 294) 37 := by rw [Fr.at GM26 kd_294 (by decide)]
      have tr31 : o_i (M26 294) 34 = o_i (M22 294) 34 := by rw [Fr.at GM26 kd_294 (by decide)]
      have tr32 : o_i (M26 294) 4 = o_i (M22 294) 4 := by rw [Fr.at GM26 kd_294 (by decide)]
      have tr33 : o_i (M26 294) 11 = o_i (M22 294) 11 := by rw [Fr.at GM26 kd_294 (by decide)]
      refine PW.jz_eq q_266_60 rfl (fun h34 => ?_) (fun h34 => ?_)
      · skip
        refine PW.cB q_266_68 (by decide) fun c35 hc35 => ?_
        refine PW.wT q_266_70 gA_51 kd_305 IM26 (by decide) rfl gC_51_0_40 (by decide) (by omega) (by omega) (n_lo _) (n_hi _) fun M36 IM36 fM36 UM36 => ?_
        have FM36 := Fr.pu FM26 UM36.1 kd_305 (rfl : List.contains [40, 44, 51] 51 = true)
        have tr37 : o_i (M36 294) 33 = o_i (M26 294) 33 := by rw [UM36.1 294 (g_ne kd_294 kd_305 (by decide))]
        have tr38 : o_i (M36 294) 35 = o_i (M26 294) 35 := by rw [UM36.1 294 (g_ne kd_294 kd_305 (by decide))]
        have tr39 : o_i (M36 294) 37 = o_i (M26 294) 37 := by rw [UM36.1 294 (g_ne kd_294 kd_305 (by decide))]
        have tr40 : o_i (M36 294) 34 = o_i (M26 294) 34 := by rw [UM36.1 294 (g_ne kd_294 kd_305 (by decide))]
        have tr41 : o_i (M36 294) 4 = o_i (M26 294) 4 := by rw [UM36.1 294 (g_ne kd_294 kd_305 (by decide))]
        have tr42 : o_i (M36 294) 11 = o_i (M26 294) 11 := by rw [UM36.1 294 (g_ne kd_294 kd_305 (by decide))]
        refine PW.aload_n q_266_71 rfl ?_
        refine PW.dup q_266_72 rfl ?_
        refine PW.gE q_266_73 (Or.inl t_ft_266_385) gF_40_35 kd_294 IM36.1 (by decide) ((congrArg (fun e => o_f e 35) (UM36.1 _ (g_ne kd_294 kd_305 (by decide)))).trans ((congrArg (fun e => o_f e 35) (Fr.at GM26 kd_294 (by decide))).trans fx25)) ?_
        have tr43 := o_i_of ((congrArg (fun e => o_f e 35) (UM36.1 _ (g_ne kd_294 kd_305 (by decide)))).trans ((congrArg (fun e => o_f e 35) (Fr.at GM26 kd_294 (by decide))).trans fx25))
        refine PW.cI q_266_76 (by decide) fun c44 hc44 => ?_
        refine PW.addN q_266_77 (by omega) (by omega) fun x45 hx45 => ?_
        refine PW.pT q_266_78 (Or.inl t_ft_266_385) gF_40_35 gP_40_35 kd_294 IM36 (by decide) rfl (by omega) (by omega) fun M46 IM46 fM46 UM46 => ?_
        have FM46 := Fr.pu FM36 UM46.1 kd_294 (rfl : List.contains [40, 44, 51] 40 = true)
        have tr47 := UM46.i (c := 294) (k := 33) (Or.inr (by decide))
        have tr48 := o_i_of fM46
        have tr49 := UM46.i (c := 294) (k := 37) (Or.inr (by decide))
        have tr50 := UM46.i (c := 294) (k := 34) (Or.inr (by decide))
        have tr51 := UM46.i (c := 294) (k := 4) (Or.inr (by decide))
        have tr52 := UM46.i (c := 294) (k := 11) (Or.inr (by decide))
        refine PW.aload_n q_266_81 rfl ?_
        refine PW.cI q_266_82 (by decide) fun c53 hc53 => ?_
        refine PW.pT q_266_83 (Or.inl t_ft_266_401) gF_40_37 gP_40_37 kd_294 IM46 (by decide) rfl (by omega) (by omega) fun M54 IM54 fM54 UM54 => ?_
        have FM54 := Fr.pu FM46 UM54.1 kd_294 (rfl : List.contains [40, 44, 51] 40 = true)
        have tr55 := UM54.i (c := 294) (k := 33) (Or.inr (by decide))
        have tr56 := UM54.i (c := 294) (k := 35) (Or.inr (by decide))
        have tr57 := o_i_of fM54
        have tr58 := UM54.i (c := 294) (k := 34) (Or.inr (by decide))
        have tr59 := UM54.i (c := 294) (k := 4) (Or.inr (by decide))
        have tr60 := UM54.i (c := 294) (k := 11) (Or.inr (by decide))
        refine PW.aload_n q_266_86 rfl ?_
        refine PW.cV (as := []) (rest := []) q_266_87 t_mv_266_173 kd_294 IM54.1 (by decide) rfl (by decide) rfl rfl (Nat.le_of_ble_eq_true rfl) (Nat.le_of_ble_eq_true rfl) (by decide) (by decide) ?_
        have SM54 : Iv (gSv M54) M54 := gSv.of IM54
        refine PW.up (by decide) (c_X12_go (gSv M54) (StabSv M54) G _ M54 SM54  fun M61 IM61 GM61 PM61 TM61 => ?_)
        have FM61 := Fr.trans FM54 GM61 (rfl)
        obtain ⟨PaM61, PdM61, PbM61, PeM61⟩ := PM61
        have QM61 : Iv gTT M61 := ⟨IM61.1, IM61.2.1⟩
        have tr62 : o_i (M61 294) 29 = o_i (M54 294) 29 := IM61.2.2.1
        have tr63 : o_i (M61 294) 33 = o_i (M54 294) 33 := IM61.2.2.2.1
        have tr64 : o_i (M61 294) 35 = o_i (M54 294) 35 := IM61.2.2.2.2.1
        have tr65 : o_i (M61 294) 37 = o_i (M54 294) 37 := IM61.2.2.2.2.2.1
        have srM61 : o_a (M61 298) = o_a (M54 298) := IM61.2.2.2.2.2.2.1
        have skM61 : o_a (M61 305) = o_a (M54 305) := IM61.2.2.2.2.2.2.2
        refine PW.cI q_266_90 (by decide) fun c66 hc66 => ?_
        refine PW.rZ q_266_91 rfl (by omega) (by omega) (by decide) (by decide) ?_
        exact hK c66 M61 QM61 FM61 (by omega) (by omega) (Or.inr ⟨gSm.of (gSn.bin (k1 := o_a (M36 305)) w24 (by omega) (fun z hz => (UM36.2 z (by omega)).trans (congrFun (congrArg o_a (Fr.at GM26 kd_305 rfl)) z)) (by rw [show (o_i (M22 294) 35).toNat = x25.toInt.toNat from by omega, fM36]; omega)) (by omega) (by omega) (by omega) (by omega) ((congrArg o_a (Fr.at GM61 kd_298 rfl)).trans ((congrArg o_a (UM54.1 298 (by decide))).trans ((congrArg o_a (UM46.1 298 (by decide))).trans ((congrArg o_a (UM36.1 298 (by decide))).trans (congrArg o_a (Fr.at GM26 kd_298 rfl)))))) ((congrArg o_a (Fr.at GM61 kd_305 rfl)).trans ((congrArg o_a (UM54.1 305 (by decide))).trans (congrArg o_a (UM46.1 305 (by decide))))), by omega, by omega, by omega⟩) (TM61.1.trans ((UM54.i (c := 294) (k := 2) (Or.inr (by decide))).trans ((UM46.i (c := 294) (k := 2) (Or.inr (by decide))).trans ((congrArg (fun e => o_i e 2) (UM36.1 294 (by decide))).trans ((congrArg (fun e => o_i e 2) (Fr.at GM26 kd_294 rfl)).trans (TM22.1.trans ((congrArg (fun e => o_i e 2) (Fr.at GM12 kd_294 rfl)).trans ((congrArg (fun e => o_i e 2) (Fr.at GM3 kd_294 rfl)).trans TM1.1))))))))
      · skip
        refine PW.cB q_266_63 (by decide) fun c67 hc67 => ?_
        refine PW.goto q_266_65 rfl ?_
        refine PW.wT q_266_70 gA_51 kd_305 IM26 (by decide) rfl gC_51_0_40 (by decide) (by omega) (by omega) (n_lo _) (n_hi _) fun M68 IM68 fM68 UM68 => ?_
        have FM68 := Fr.pu FM26 UM68.1 kd_305 (rfl : List.contains [40, 44, 51] 51 = true)
        have tr69 : o_i (M68 294) 33 = o_i (M26 294) 33 := by rw [UM68.1 294 (g_ne kd_294 kd_305 (by decide))]
        have tr70 : o_i (M68 294) 35 = o_i (M26 294) 35 := by rw [UM68.1 294 (g_ne kd_294 kd_305 (by decide))]
        have tr71 : o_i (M68 294) 37 = o_i (M26 294) 37 := by rw [UM68.1 294 (g_ne kd_294 kd_305 (by decide))]
        have tr72 : o_i (M68 294) 34 = o_i (M26 294) 34 := by rw [UM68.1 294 (g_ne kd_294 kd_305 (by decide))]
        have tr73 : o_i (M68 294) 4 = o_i (M26 294) 4 := by rw [UM68.1 294 (g_ne kd_294 kd_305 (by decide))]
        have tr74 : o_i (M68 294) 11 = o_i (M26 294) 11 := by rw [UM68.1 294 (g_ne kd_294 kd_305 (by decide))]
        refine PW.aload_n q_266_71 rfl ?_
        refine PW.dup q_266_72 rfl ?_
        refine PW.gE q_266_73 (Or.inl t_ft_266_385) gF_40_35 kd_294 IM68.1 (by decide) ((congrArg (fun e => o_f e 35) (UM68.1 _ (g_ne kd_294 kd_305 (by decide)))).trans ((congrArg (fun e => o_f e 35) (Fr.at GM26 kd_294 (by decide))).trans fx25)) ?_
        have tr75 := o_i_of ((congrArg (fun e => o_f e 35) (UM68.1 _ (g_ne kd_294 kd_305 (by decide)))).trans ((congrArg (fun e => o_f e 35) (Fr.at GM26 kd_294 (by decide))).trans fx25))
        refine PW.cI q_266_76 (by decide) fun c76 hc76 => ?_
        refine PW.addN q_266_77 (by omega) (by omega) fun x77 hx77 => ?_
        refine PW.pT q_266_78 (Or.inl t_ft_266_385) gF_40_35 gP_40_35 kd_294 IM68 (by decide) rfl (by omega) (by omega) fun M78 IM78 fM78 UM78 => ?_
        have FM78 := Fr.pu FM68 UM78.1 kd_294 (rfl : List.contains [40, 44, 51] 40 = true)
        have tr79 := UM78.i (c := 294) (k := 33) (Or.inr (by decide))
        have tr80 := o_i_of fM78
        have tr81 := UM78.i (c := 294) (k := 37) (Or.inr (by decide))
        have tr82 := UM78.i (c := 294) (k := 34) (Or.inr (by decide))
        have tr83 := UM78.i (c := 294) (k := 4) (Or.inr (by decide))
        have tr84 := UM78.i (c := 294) (k := 11) (Or.inr (by decide))
        refine PW.aload_n q_266_81 rfl ?_
        refine PW.cI q_266_82 (by decide) fun c85 hc85 => ?_
        refine PW.pT q_266_83 (Or.inl t_ft_266_401) gF_40_37 gP_40_37 kd_294 IM78 (by decide) rfl (by omega) (by omega) fun M86 IM86 fM86 UM86 => ?_
        have FM86 := Fr.pu FM78 UM86.1 kd_294 (rfl : List.contains [40, 44, 51] 40 = true)
        have tr87 := UM86.i (c := 294) (k := 33) (Or.inr (by decide))
        have tr88 := UM86.i (c := 294) (k := 35) (Or.inr (by decide))
        have tr89 := o_i_of fM86
        have tr90 := UM86.i (c := 294) (k := 34) (Or.inr (by decide))
        have tr91 := UM86.i (c := 294) (k := 4) (Or.inr (by decide))
        have tr92 := UM86.i (c := 294) (k := 11) (Or.inr (by decide))
        refine PW.aload_n q_266_86 rfl ?_
        refine PW.cV (as := []) (rest := []) q_266_87 t_mv_266_173 kd_294 IM86.1 (by decide) rfl (by decide) rfl rfl (Nat.le_of_ble_eq_true rfl) (Nat.le_of_ble_eq_true rfl) (by decide) (by decide) ?_
        have SM86 : Iv (gSv M86) M86 := gSv.of IM86
        refine PW.up (by decide) (c_X12_go (gSv M86) (StabSv M86) G _ M86 SM86  fun M93 IM93 GM93 PM93 TM93 => ?_)
        have FM93 := Fr.trans FM86 GM93 (rfl)
        obtain ⟨PaM93, PdM93, PbM93, PeM93⟩ := PM93
        have QM93 : Iv gTT M93 := ⟨IM93.1, IM93.2.1⟩
        have tr94 : o_i (M93 294) 29 = o_i (M86 294) 29 := IM93.2.2.1
        have tr95 : o_i (M93 294) 33 = o_i (M86 294) 33 := IM93.2.2.2.1
        have tr96 : o_i (M93 294) 35 = o_i (M86 294) 35 := IM93.2.2.2.2.1
        have tr97 : o_i (M93 294) 37 = o_i (M86 294) 37 := IM93.2.2.2.2.2.1
        have srM93 : o_a (M93 298) = o_a (M86 298) := IM93.2.2.2.2.2.2.1
        have skM93 : o_a (M93 305) = o_a (M86 305) := IM93.2.2.2.2.2.2.2
        refine PW.cI q_266_90 (by decide) fun c98 hc98 => ?_
        refine PW.rZ q_266_91 rfl (by omega) (by omega) (by decide) (by decide) ?_
        exact hK c98 M93 QM93 FM93 (by omega) (by omega) (Or.inr ⟨gSm.of (gSn.bin (k1 := o_a (M68 305)) w24 (by omega) (fun z hz => (UM68.2 z (by omega)).trans (congrFun (congrArg o_a (Fr.at GM26 kd_305 rfl)) z)) (by rw [show (o_i (M22 294) 35).toNat = x25.toInt.toNat from by omega, fM68]; omega)) (by omega) (by omega) (by omega) (by omega) ((congrArg o_a (Fr.at GM93 kd_298 rfl)).trans ((congrArg o_a (UM86.1 298 (by decide))).trans ((congrArg o_a (UM78.1 298 (by decide))).trans ((congrArg o_a (UM68.1 298 (by decide))).trans (congrArg o_a (Fr.at GM26 kd_298 rfl)))))) ((congrArg o_a (Fr.at GM93 kd_305 rfl)).trans ((congrArg o_a (UM86.1 305 (by decide))).trans (congrArg o_a (UM78.1 305 (by decide))))), by omega, by omega, by omega⟩) (TM93.1.trans ((UM86.i (c := 294) (k := 2) (Or.inr (by decide))).trans ((UM78.i (c := 294) (k := 2) (Or.inr (by decide))).trans ((congrArg (fun e => o_i e 2) (UM68.1 294 (by decide))).trans ((congrArg (fun e => o_i e 2) (Fr.at GM26 kd_294 rfl)).trans (TM22.1.trans ((congrArg (fun e => o_i e 2) (Fr.at GM12 kd_294 rfl)).trans ((congrArg (fun e => o_i e 2) (Fr.at GM3 kd_294 rfl)).trans TM1.1))))))))
    · skip
      refine PW.cB q_266_35 (by decide) fun c99 hc99 => ?_
      refine PW.goto q_266_37 rfl ?_
      refine PW.cV (as := [_]) (rest := []) q_266_42 t_mv_266_407 kd_294 IM12.1 (by decide) rfl (by decide) rfl rfl (Nat.le_of_ble_eq_true rfl) (Nat.le_of_ble_eq_true rfl) (by decide) (by decide) ?_
      refine PW.up (by decide) (c_X12_joins G _ M12 IM12 c99 (gSm.of (NaM1) (by omega) (by omega) (by omega) (by omega) ((congrArg o_a (Fr.at GM12 kd_298 rfl)).trans (congrArg o_a (Fr.at GM3 kd_298 rfl))) ((congrArg o_a (Fr.at GM12 kd_305 rfl)).trans (congrArg o_a (Fr.at GM3 kd_305 rfl)))) (by omega) fun M100 IM100 GM100 PM100 TM100 => ?_)
      have FM100 := Fr.trans FM12 GM100 (rfl)
      obtain ⟨NaM100, NbM100, NcM100, NeM100, NfM100, NgM100⟩ := PM100
      have hs101 : o_i (M100 294) 33 + o_i (M100 294) 35 + o_i (M100 294) 37 ≤ 2 * o_i (M100 294) 34 := NaM100.2.2
      have ho101 := g_on20 IM100.1
      have hc101 := g_co IM100.1
      have w102 : gSn (o_i (M100 294) 33) (o_i (M100 294) 35) 1 (o_i (M100 294) 34) (o_a (M100 298)) (o_a (M100 305)) := by have q := NaM100; unfold gSm at q; rw [show o_i (M100 294) 37 = 1 from by omega] at q; exact q
      refine PW.aload_n q_266_45 rfl ?_
      refine PW.gR 305 q_266_46 (Or.inl t_ft_266_62) gF_40_32 kd_294 IM100.1 (by decide) rfl ?_
      refine PW.aload_n q_266_49 rfl ?_
      refine PW.gI q_266_50 (Or.inl t_ft_266_385) gF_40_35 kd_294 IM100.1 (by decide) fun x103 fx103 hx103 kx103 => ?_
      have trx103 := o_i_of fx103
      refine PW.aload_n q_266_53 rfl ?_
      refine PW.ldc2 q_266_54 t_lt_266_114 ?_
      refine PW.cV (as := [_]) (rest := [_, _]) q_266_57 t_mv_266_201 kd_294 IM100.1 (by decide) rfl (by decide) rfl rfl (Nat.le_of_ble_eq_true rfl) (Nat.le_of_ble_eq_true rfl) (by decide) (by decide) ?_
      refine PW.up (by decide) (c_X12_isWord_v (gTT) (Stab0) G _ M100 IM100 _ fun x105 M104 IM104 GM104 hx105 kx105 PM104 TM104 => ?_)
      have FM104 := Fr.trans FM100 GM104 (rfl)
      have tr106 : o_i (M104 294) 33 = o_i (M100 294) 33 := by rw [Fr.at GM104 kd_294 (by decide)]
      have tr107 : o_i (M104 294) 35 = o_i (M100 294) 35 := by rw [Fr.at GM104 kd_294 (by decide)]
      have tr108 : o_i (M104 294) 37 = o_i (M100 294) 37 := by rw [Fr.at GM104 kd_294 (by decide)]
      have tr109 : o_i (M104 294) 34 = o_i (M100 294) 34 := by rw [Fr.at GM104 kd_294 (by decide)]
      have tr110 : o_i (M104 294) 4 = o_i (M100 294) 4 := by rw [Fr.at GM104 kd_294 (by decide)]
      have tr111 : o_i (M104 294) 11 = o_i (M100 294) 11 := by rw [Fr.at GM104 kd_294 (by decide)]
      refine PW.jz_eq q_266_60 rfl (fun h112 => ?_) (fun h112 => ?_)
      · skip
        refine PW.cB q_266_68 (by decide) fun c113 hc113 => ?_
        refine PW.wT q_266_70 gA_51 kd_305 IM104 (by decide) rfl gC_51_0_40 (by decide) (by omega) (by omega) (n_lo _) (n_hi _) fun M114 IM114 fM114 UM114 => ?_
        have FM114 := Fr.pu FM104 UM114.1 kd_305 (rfl : List.contains [40, 44, 51] 51 = true)
        have tr115 : o_i (M114 294) 33 = o_i (M104 294) 33 := by rw [UM114.1 294 (g_ne kd_294 kd_305 (by decide))]
        have tr116 : o_i (M114 294) 35 = o_i (M104 294) 35 := by rw [UM114.1 294 (g_ne kd_294 kd_305 (by decide))]
        have tr117 : o_i (M114 294) 37 = o_i (M104 294) 37 := by rw [UM114.1 294 (g_ne kd_294 kd_305 (by decide))]
        have tr118 : o_i (M114 294) 34 = o_i (M104 294) 34 := by rw [UM114.1 294 (g_ne kd_294 kd_305 (by decide))]
        have tr119 : o_i (M114 294) 4 = o_i (M104 294) 4 := by rw [UM114.1 294 (g_ne kd_294 kd_305 (by decide))]
        have tr120 : o_i (M114 294) 11 = o_i (M104 294) 11 := by rw [UM114.1 294 (g_ne kd_294 kd_305 (by decide))]
        refine PW.aload_n q_266_71 rfl ?_
        refine PW.dup q_266_72 rfl ?_
        refine PW.gE q_266_73 (Or.inl t_ft_266_385) gF_40_35 kd_294 IM114.1 (by decide) ((congrArg (fun e => o_f e 35) (UM114.1 _ (g_ne kd_294 kd_305 (by decide)))).trans ((congrArg (fun e => o_f e 35) (Fr.at GM104 kd_294 (by decide))).trans fx103)) ?_
        have tr121 := o_i_of ((congrArg (fun e => o_f e 35) (UM114.1 _ (g_ne kd_294 kd_305 (by decide)))).trans ((congrArg (fun e => o_f e 35) (Fr.at GM104 kd_294 (by decide))).trans fx103))
        refine PW.cI q_266_76 (by decide) fun c122 hc122 => ?_
        refine PW.addN q_266_77 (by omega) (by omega) fun x123 hx123 => ?_
        refine PW.pT q_266_78 (Or.inl t_ft_266_385) gF_40_35 gP_40_35 kd_294 IM114 (by decide) rfl (by omega) (by omega) fun M124 IM124 fM124 UM124 => ?_
        have FM124 := Fr.pu FM114 UM124.1 kd_294 (rfl : List.contains [40, 44, 51] 40 = true)
        have tr125 := UM124.i (c := 294) (k := 33) (Or.inr (by decide))
        have tr126 := o_i_of fM124
        have tr127 := UM124.i (c := 294) (k := 37) (Or.inr (by decide))
        have tr128 := UM124.i (c := 294) (k := 34) (Or.inr (by decide))
        have tr129 := UM124.i (c := 294) (k := 4) (Or.inr (by decide))
        have tr130 := UM124.i (c := 294) (k := 11) (Or.inr (by decide))
        refine PW.aload_n q_266_81 rfl ?_
        refine PW.cI q_266_82 (by decide) fun c131 hc131 => ?_
        refine PW.pT q_266_83 (Or.inl t_ft_266_401) gF_40_37 gP_40_37 kd_294 IM124 (by decide) rfl (by omega) (by omega) fun M132 IM132 fM132 UM132 => ?_
        have FM132 := Fr.pu FM124 UM132.1 kd_294 (rfl : List.contains [40, 44, 51] 40 = true)
        have tr133 := UM132.i (c := 294) (k := 33) (Or.inr (by decide))
        have tr134 := UM132.i (c := 294) (k := 35) (Or.inr (by decide))
        have tr135 := o_i_of fM132
        have tr136 := UM132.i (c := 294) (k := 34) (Or.inr (by decide))
        have tr137 := UM132.i (c := 294) (k := 4) (Or.inr (by decide))
        have tr138 := UM132.i (c := 294) (k := 11) (Or.inr (by decide))
        refine PW.aload_n q_266_86 rfl ?_
        refine PW.cV (as := []) (rest := []) q_266_87 t_mv_266_173 kd_294 IM132.1 (by decide) rfl (by decide) rfl rfl (Nat.le_of_ble_eq_true rfl) (Nat.le_of_ble_eq_true rfl) (by decide) (by decide) ?_
        have SM132 : Iv (gSv M132) M132 := gSv.of IM132
        refine PW.up (by decide) (c_X12_go (gSv M132) (StabSv M132) G _ M132 SM132  fun M139 IM139 GM139 PM139 TM139 => ?_)
        have FM139 := Fr.trans FM132 GM139 (rfl)
        obtain ⟨PaM139, PdM139, PbM139, PeM139⟩ := PM139
        have QM139 : Iv gTT M139 := ⟨IM139.1, IM139.2.1⟩
        have tr140 : o_i (M139 294) 29 = o_i (M132 294) 29 := IM139.2.2.1
        have tr141 : o_i (M139 294) 33 = o_i (M132 294) 33 := IM139.2.2.2.1
        have tr142 : o_i (M139 294) 35 = o_i (M132 294) 35 := IM139.2.2.2.2.1
        have tr143 : o_i (M139 294) 37 = o_i (M132 294) 37 := IM139.2.2.2.2.2.1
        have srM139 : o_a (M139 298) = o_a (M132 298) := IM139.2.2.2.2.2.2.1
        have skM139 : o_a (M139 305) = o_a (M132 305) := IM139.2.2.2.2.2.2.2
        refine PW.cI q_266_90 (by decide) fun c144 hc144 => ?_
        refine PW.rZ q_266_91 rfl (by omega) (by omega) (by decide) (by decide) ?_
        exact hK c144 M139 QM139 FM139 (by omega) (by omega) (Or.inr ⟨gSm.of (gSn.bin (k1 := o_a (M114 305)) w102 (by omega) (fun z hz => (UM114.2 z (by omega)).trans (congrFun (congrArg o_a (Fr.at GM104 kd_305 rfl)) z)) (by rw [show (o_i (M100 294) 35).toNat = x103.toInt.toNat from by omega, fM114]; omega)) (by omega) (by omega) (by omega) (by omega) ((congrArg o_a (Fr.at GM139 kd_298 rfl)).trans ((congrArg o_a (UM132.1 298 (by decide))).trans ((congrArg o_a (UM124.1 298 (by decide))).trans ((congrArg o_a (UM114.1 298 (by decide))).trans (congrArg o_a (Fr.at GM104 kd_298 rfl)))))) ((congrArg o_a (Fr.at GM139 kd_305 rfl)).trans ((congrArg o_a (UM132.1 305 (by decide))).trans (congrArg o_a (UM124.1 305 (by decide))))), by omega, by omega, by omega⟩) (TM139.1.trans ((UM132.i (c := 294) (k := 2) (Or.inr (by decide))).trans ((UM124.i (c := 294) (k := 2) (Or.inr (by decide))).trans ((congrArg (fun e => o_i e 2) (UM114.1 294 (by decide))).trans ((congrArg (fun e => o_i e 2) (Fr.at GM104 kd_294 rfl)).trans (TM100.1.trans ((congrArg (fun e => o_i e 2) (Fr.at GM12 kd_294 rfl)).trans ((congrArg (fun e => o_i e 2) (Fr.at GM3 kd_294 rfl)).trans TM1.1))))))))
      · skip
        refine PW.cB q_266_63 (by decide) fun c145 hc145 => ?_
        refine PW.goto q_266_65 rfl ?_
        refine PW.wT q_266_70 gA_51 kd_305 IM104 (by decide) rfl gC_51_0_40 (by decide) (by omega) (by omega) (n_lo _) (n_hi _) fun M146 IM146 fM146 UM146 => ?_
        have FM146 := Fr.pu FM104 UM146.1 kd_305 (rfl : List.contains [40, 44, 51] 51 = true)
        have tr147 : o_i (M146 294) 33 = o_i (M104 294) 33 := by rw [UM146.1 294 (g_ne kd_294 kd_305 (by decide))]
        have tr148 : o_i (M146 294) 35 = o_i (M104 294) 35 := by rw [UM146.1 294 (g_ne kd_294 kd_305 (by decide))]
        have tr149 : o_i (M146 294) 37 = o_i (M104 294) 37 := by rw [UM146.1 294 (g_ne kd_294 kd_305 (by decide))]
        have tr150 : o_i (M146 294) 34 = o_i (M104 294) 34 := by rw [UM146.1 294 (g_ne kd_294 kd_305 (by decide))]
        have tr151 : o_i (M146 294) 4 = o_i (M104 294) 4 := by rw [UM146.1 294 (g_ne kd_294 kd_305 (by decide))]
        have tr152 : o_i (M146 294) 11 = o_i (M104 294) 11 := by rw [UM146.1 294 (g_ne kd_294 kd_305 (by decide))]
        refine PW.aload_n q_266_71 rfl ?_
        refine PW.dup q_266_72 rfl ?_
        refine PW.gE q_266_73 (Or.inl t_ft_266_385) gF_40_35 kd_294 IM146.1 (by decide) ((congrArg (fun e => o_f e 35) (UM146.1 _ (g_ne kd_294 kd_305 (by decide)))).trans ((congrArg (fun e => o_f e 35) (Fr.at GM104 kd_294 (by decide))).trans fx103)) ?_
        have tr153 := o_i_of ((congrArg (fun e => o_f e 35) (UM146.1 _ (g_ne kd_294 kd_305 (by decide)))).trans ((congrArg (fun e => o_f e 35) (Fr.at GM104 kd_294 (by decide))).trans fx103))
        refine PW.cI q_266_76 (by decide) fun c154 hc154 => ?_
        refine PW.addN q_266_77 (by omega) (by omega) fun x155 hx155 => ?_
        refine PW.pT q_266_78 (Or.inl t_ft_266_385) gF_40_35 gP_40_35 kd_294 IM146 (by decide) rfl (by omega) (by omega) fun M156 IM156 fM156 UM156 => ?_
        have FM156 := Fr.pu FM146 UM156.1 kd_294 (rfl : List.contains [40, 44, 51] 40 = true)
        have tr157 := UM156.i (c := 294) (k := 33) (Or.inr (by decide))
        have tr158 := o_i_of fM156
        have tr159 := UM156.i (c := 294) (k := 37) (Or.inr (by decide))
        have tr160 := UM156.i (c := 294) (k := 34) (Or.inr (by decide))
        have tr161 := UM156.i (c := 294) (k := 4) (Or.inr (by decide))
        have tr162 := UM156.i (c := 294) (k := 11) (Or.inr (by decide))
        refine PW.aload_n q_266_81 rfl ?_
        refine PW.cI q_266_82 (by decide) fun c163 hc163 => ?_
        refine PW.pT q_266_83 (Or.inl t_ft_266_401) gF_40_37 gP_40_37 kd_294 IM156 (by decide) rfl (by omega) (by omega) fun M164 IM164 fM164 UM164 => ?_
        have FM164 := Fr.pu FM156 UM164.1 kd_294 (rfl : List.contains [40, 44, 51] 40 = true)
        have tr165 := UM164.i (c := 294) (k := 33) (Or.inr (by decide))
        have tr166 := UM164.i (c := 294) (k := 35) (Or.inr (by decide))
        have tr167 := o_i_of fM164
        have tr168 := UM164.i (c := 294) (k := 34) (Or.inr (by decide))
        have tr169 := UM164.i (c := 294) (k := 4) (Or.inr (by decide))
        have tr170 := UM164.i (c := 294) (k := 11) (Or.inr (by decide))
        refine PW.aload_n q_266_86 rfl ?_
        refine PW.cV (as := []) (rest := []) q_266_87 t_mv_266_173 kd_294 IM164.1 (by decide) rfl (by decide) rfl rfl (Nat.le_of_ble_eq_true rfl) (Nat.le_of_ble_eq_true rfl) (by decide) (by decide) ?_
        have SM164 : Iv (gSv M164) M164 := gSv.of IM164
        refine PW.up (by decide) (c_X12_go (gSv M164) (StabSv M164) G _ M164 SM164  fun M171 IM171 GM171 PM171 TM171 => ?_)
        have FM171 := Fr.trans FM164 GM171 (rfl)
        obtain ⟨PaM171, PdM171, PbM171, PeM171⟩ := PM171
        have QM171 : Iv gTT M171 := ⟨IM171.1, IM171.2.1⟩
        have tr172 : o_i (M171 294) 29 = o_i (M164 294) 29 := IM171.2.2.1
        have tr173 : o_i (M171 294) 33 = o_i (M164 294) 33 := IM171.2.2.2.1
        have tr174 : o_i (M171 294) 35 = o_i (M164 294) 35 := IM171.2.2.2.2.1
        have tr175 : o_i (M171 294) 37 = o_i (M164 294) 37 := IM171.2.2.2.2.2.1
        have srM171 : o_a (M171 298) = o_a (M164 298) := IM171.2.2.2.2.2.2.1
        have skM171 : o_a (M171 305) = o_a (M164 305) := IM171.2.2.2.2.2.2.2
        refine PW.cI q_266_90 (by decide) fun c176 hc176 => ?_
        refine PW.rZ q_266_91 rfl (by omega) (by omega) (by decide) (by decide) ?_
        exact hK c176 M171 QM171 FM171 (by omega) (by omega) (Or.inr ⟨gSm.of (gSn.bin (k1 := o_a (M146 305)) w102 (by omega) (fun z hz => (UM146.2 z (by omega)).trans (congrFun (congrArg o_a (Fr.at GM104 kd_305 rfl)) z)) (by rw [show (o_i (M100 294) 35).toNat = x103.toInt.toNat from by omega, fM146]; omega)) (by omega) (by omega) (by omega) (by omega) ((congrArg o_a (Fr.at GM171 kd_298 rfl)).trans ((congrArg o_a (UM164.1 298 (by decide))).trans ((congrArg o_a (UM156.1 298 (by decide))).trans ((congrArg o_a (UM146.1 298 (by decide))).trans (congrArg o_a (Fr.at GM104 kd_298 rfl)))))) ((congrArg o_a (Fr.at GM171 kd_305 rfl)).trans ((congrArg o_a (UM164.1 305 (by decide))).trans (congrArg o_a (UM156.1 305 (by decide))))), by omega, by omega, by omega⟩) (TM171.1.trans ((UM164.i (c := 294) (k := 2) (Or.inr (by decide))).trans ((UM156.i (c := 294) (k := 2) (Or.inr (by decide))).trans ((congrArg (fun e => o_i e 2) (UM146.1 294 (by decide))).trans ((congrArg (fun e => o_i e 2) (Fr.at GM104 kd_294 rfl)).trans (TM100.1.trans ((congrArg (fun e => o_i e 2) (Fr.at GM12 kd_294 rfl)).trans ((congrArg (fun e => o_i e 2) (Fr.at GM3 kd_294 rfl)).trans TM1.1))))))))
  · skip
    refine PW.aload_n q_266_14 rfl ?_
    refine PW.ldc2 q_266_15 t_lt_266_112 ?_
    refine PW.cV (as := [_]) (rest := []) q_266_18 t_mv_266_201 kd_294 IM3.1 (by decide) rfl (by decide) rfl rfl (Nat.le_of_ble_eq_true rfl) (Nat.le_of_ble_eq_true rfl) (by decide) (by decide) ?_
    refine PW.up (by decide) (c_X12_isWord_v (gTT) (Stab0) G _ M3 IM3 _ fun x178 M177 IM177 GM177 hx178 kx178 PM177 TM177 => ?_)
    have FM177 := Fr.trans FM3 GM177 (rfl)
    have tr179 : o_i (M177 294) 33 = o_i (M3 294) 33 := by rw [Fr.at GM177 kd_294 (by decide)]
    have tr180 : o_i (M177 294) 35 = o_i (M3 294) 35 := by rw [Fr.at GM177 kd_294 (by decide)]
    have tr181 : o_i (M177 294) 37 = o_i (M3 294) 37 := by rw [Fr.at GM177 kd_294 (by decide)]
    have tr182 : o_i (M177 294) 34 = o_i (M3 294) 34 := by rw [Fr.at GM177 kd_294 (by decide)]
    have tr183 : o_i (M177 294) 4 = o_i (M3 294) 4 := by rw [Fr.at GM177 kd_294 (by decide)]
    have tr184 : o_i (M177 294) 11 = o_i (M3 294) 11 := by rw [Fr.at GM177 kd_294 (by decide)]
    refine PW.jz_eq q_266_21 rfl (fun h185 => ?_) (fun h185 => ?_)
    · skip
      refine PW.aload_n q_266_92 rfl ?_
      refine PW.cB q_266_93 (by decide) fun c186 hc186 => ?_
      refine PW.cV (as := [_]) (rest := []) q_266_95 t_mv_266_407 kd_294 IM177.1 (by decide) rfl (by decide) rfl rfl (Nat.le_of_ble_eq_true rfl) (Nat.le_of_ble_eq_true rfl) (by decide) (by decide) ?_
      refine PW.up (by decide) (c_X12_joins G _ M177 IM177 c186 (gSm.of (NaM1) (by omega) (by omega) (by omega) (by omega) ((congrArg o_a (Fr.at GM177 kd_298 rfl)).trans (congrArg o_a (Fr.at GM3 kd_298 rfl))) ((congrArg o_a (Fr.at GM177 kd_305 rfl)).trans (congrArg o_a (Fr.at GM3 kd_305 rfl)))) (by omega) fun M187 IM187 GM187 PM187 TM187 => ?_)
      have FM187 := Fr.trans FM177 GM187 (rfl)
      obtain ⟨NaM187, NbM187, NcM187, NeM187, NfM187, NgM187⟩ := PM187
      have hs188 : o_i (M187 294) 33 + o_i (M187 294) 35 + o_i (M187 294) 37 ≤ 2 * o_i (M187 294) 34 := NaM187.2.2
      have ho188 := g_on20 IM187.1
      have hc188 := g_co IM187.1
      have w189 : gSn (o_i (M187 294) 33) (o_i (M187 294) 35) 1 (o_i (M187 294) 34) (o_a (M187 298)) (o_a (M187 305)) := by have q := NaM187; unfold gSm at q; rw [show o_i (M187 294) 37 = 1 from by omega] at q; exact q
      refine PW.aload_n q_266_98 rfl ?_
      refine PW.cB q_266_99 (by decide) fun c190 hc190 => ?_
      refine PW.cV (as := [_]) (rest := []) q_266_101 t_mv_266_167 kd_294 IM187.1 (by decide) rfl (by decide) rfl rfl (Nat.le_of_ble_eq_true rfl) (Nat.le_of_ble_eq_true rfl) (by decide) (by decide) ?_
      refine PW.up (by decide) (c_X12_isSign (gTT) (Stab0) G _ M187 IM187 c190 fun x192 M191 IM191 GM191 hx192 kx192 PM191 TM191 => ?_)
      have FM191 := Fr.trans FM187 GM191 (rfl)
      have tr193 : o_i (M191 294) 33 = o_i (M187 294) 33 := by rw [Fr.at GM191 kd_294 (by decide)]
      have tr194 : o_i (M191 294) 35 = o_i (M187 294) 35 := by rw [Fr.at GM191 kd_294 (by decide)]
      have tr195 : o_i (M191 294) 37 = o_i (M187 294) 37 := by rw [Fr.at GM191 kd_294 (by decide)]
      have tr196 : o_i (M191 294) 34 = o_i (M187 294) 34 := by rw [Fr.at GM191 kd_294 (by decide)]
      have tr197 : o_i (M191 294) 4 = o_i (M187 294) 4 := by rw [Fr.at GM191 kd_294 (by decide)]
      have tr198 : o_i (M191 294) 11 = o_i (M187 294) 11 := by rw [Fr.at GM191 kd_294 (by decide)]
      refine PW.jz_eq q_266_104 rfl (fun h199 => ?_) (fun h199 => ?_)
      · skip
        refine PW.aload_n q_266_114 rfl ?_
        refine PW.cI q_266_115 (by decide) fun c200 hc200 => ?_
        refine PW.cV (as := [_]) (rest := []) q_266_116 t_mv_266_170 kd_294 IM191.1 (by decide) rfl (by decide) rfl rfl (Nat.le_of_ble_eq_true rfl) (Nat.le_of_ble_eq_true rfl) (by decide) (by decide) ?_
        have SM191 : Iv (gSv M191) M191 := gSv.of IM191
        refine PW.up (by decide) (c_X12_bad (gSv M191) (StabSv M191) G _ M191 SM191 c200 fun x202 M201 IM201 GM201 hx202 kx202 PM201 TM201 => ?_)
        have FM201 := Fr.trans FM191 GM201 (rfl)
        have QM201 : Iv gTT M201 := ⟨IM201.1, IM201.2.1⟩
        have tr203 : o_i (M201 294) 29 = o_i (M191 294) 29 := IM201.2.2.1
        have tr204 : o_i (M201 294) 33 = o_i (M191 294) 33 := IM201.2.2.2.1
        have tr205 : o_i (M201 294) 35 = o_i (M191 294) 35 := IM201.2.2.2.2.1
        have tr206 : o_i (M201 294) 37 = o_i (M191 294) 37 := IM201.2.2.2.2.2.1
        have srM201 : o_a (M201 298) = o_a (M191 298) := IM201.2.2.2.2.2.2.1
        have skM201 : o_a (M201 305) = o_a (M191 305) := IM201.2.2.2.2.2.2.2
        refine PW.rZ q_266_119 rfl (by omega) (by omega) (by decide) (by decide) ?_
        exact hK x202 M201 QM201 FM201 (by omega) (by omega) (Or.inl (by omega)) (TM201.trans ((congrArg (fun e => o_i e 2) (Fr.at GM191 kd_294 rfl)).trans (TM187.1.trans ((congrArg (fun e => o_i e 2) (Fr.at GM177 kd_294 rfl)).trans ((congrArg (fun e => o_i e 2) (Fr.at GM3 kd_294 rfl)).trans TM1.1)))))
      · skip
        refine PW.aload_n q_266_107 rfl ?_
        refine PW.gI q_266_108 (Or.inl t_ft_266_385) gF_40_35 kd_294 IM191.1 (by decide) fun x207 fx207 hx207 kx207 => ?_
        have trx207 := o_i_of fx207
        refine PW.jz_ne q_266_111 rfl (fun h208 => ?_) (fun h208 => ?_)
        · skip
          refine PW.aload_n q_266_120 rfl ?_
          refine PW.dup q_266_121 rfl ?_
          refine PW.gE q_266_122 (Or.inl t_ft_266_385) gF_40_35 kd_294 IM191.1 (by decide) fx207 ?_
          have tr209 := o_i_of fx207
          refine PW.cI q_266_125 (by decide) fun c210 hc210 => ?_
          refine PW.subN q_266_126 (by omega) (by omega) fun x211 hx211 => ?_
          refine PW.pT q_266_127 (Or.inl t_ft_266_385) gF_40_35 gP_40_35 kd_294 IM191 (by decide) rfl (by omega) (by omega) fun M212 IM212 fM212 UM212 => ?_
          have FM212 := Fr.pu FM191 UM212.1 kd_294 (rfl : List.contains [40, 44, 51] 40 = true)
          have tr213 := UM212.i (c := 294) (k := 33) (Or.inr (by decide))
          have tr214 := o_i_of fM212
          have tr215 := UM212.i (c := 294) (k := 37) (Or.inr (by decide))
          have tr216 := UM212.i (c := 294) (k := 34) (Or.inr (by decide))
          have tr217 := UM212.i (c := 294) (k := 4) (Or.inr (by decide))
          have tr218 := UM212.i (c := 294) (k := 11) (Or.inr (by decide))
          refine PW.aload_n q_266_130 rfl ?_
          refine PW.dup q_266_131 rfl ?_
          refine PW.gI q_266_132 (Or.inl t_ft_266_392) gF_40_36 kd_294 IM212.1 (by decide) fun x219 fx219 hx219 kx219 => ?_
          clear hx219 kx219
          refine PW.cI q_266_135 (by decide) fun c220 hc220 => ?_
          refine PW.subH q_266_136 fun x221 => ?_
          refine PW.pI q_266_137 (Or.inl t_ft_266_392) gF_40_36 gP_40_36 kd_294 Stab0 IM212 (by decide) rfl (n_lo _) (n_hi _) fun M222 IM222 fM222 UM222 => ?_
          have FM222 := Fr.pu FM212 UM222.1 kd_294 (rfl : List.contains [40, 44, 51] 40 = true)
          have tr223 := UM222.i (c := 294) (k := 33) (Or.inr (by decide))
          have tr224 := UM222.i (c := 294) (k := 35) (Or.inr (by decide))
          have tr225 := UM222.i (c := 294) (k := 37) (Or.inr (by decide))
          have tr226 := UM222.i (c := 294) (k := 34) (Or.inr (by decide))
          have tr227 := UM222.i (c := 294) (k := 4) (Or.inr (by decide))
          have tr228 := UM222.i (c := 294) (k := 11) (Or.inr (by decide))
          refine PW.aload_n q_266_140 rfl ?_
          refine PW.cV (as := []) (rest := []) q_266_141 t_mv_266_173 kd_294 IM222.1 (by decide) rfl (by decide) rfl rfl (Nat.le_of_ble_eq_true rfl) (Nat.le_of_ble_eq_true rfl) (by decide) (by decide) ?_
          have SM222 : Iv (gSv M222) M222 := gSv.of IM222
          refine PW.up (by decide) (c_X12_go (gSv M222) (StabSv M222) G _ M222 SM222  fun M229 IM229 GM229 PM229 TM229 => ?_)
          have FM229 := Fr.trans FM222 GM229 (rfl)
          obtain ⟨PaM229, PdM229, PbM229, PeM229⟩ := PM229
          have QM229 : Iv gTT M229 := ⟨IM229.1, IM229.2.1⟩
          have tr230 : o_i (M229 294) 29 = o_i (M222 294) 29 := IM229.2.2.1
          have tr231 : o_i (M229 294) 33 = o_i (M222 294) 33 := IM229.2.2.2.1
          have tr232 : o_i (M229 294) 35 = o_i (M222 294) 35 := IM229.2.2.2.2.1
          have tr233 : o_i (M229 294) 37 = o_i (M222 294) 37 := IM229.2.2.2.2.2.1
          have srM229 : o_a (M229 298) = o_a (M222 298) := IM229.2.2.2.2.2.2.1
          have skM229 : o_a (M229 305) = o_a (M222 305) := IM229.2.2.2.2.2.2.2
          refine PW.cI q_266_144 (by decide) fun c234 hc234 => ?_
          refine PW.rZ q_266_145 rfl (by omega) (by omega) (by decide) (by decide) ?_
          exact hK c234 M229 QM229 FM229 (by omega) (by omega) (Or.inr ⟨gSm.of (gSn.pop w189 (by omega) ⟨by omega, by omega⟩) (by omega) (by omega) (by omega) (by omega) ((congrArg o_a (Fr.at GM229 kd_298 rfl)).trans ((congrArg o_a (UM222.1 298 (by decide))).trans ((congrArg o_a (UM212.1 298 (by decide))).trans (congrArg o_a (Fr.at GM191 kd_298 rfl))))) ((congrArg o_a (Fr.at GM229 kd_305 rfl)).trans ((congrArg o_a (UM222.1 305 (by decide))).trans ((congrArg o_a (UM212.1 305 (by decide))).trans (congrArg o_a (Fr.at GM191 kd_305 rfl))))), by omega, by omega, by omega⟩) (TM229.1.trans ((UM222.i (c := 294) (k := 2) (Or.inr (by decide))).trans ((UM212.i (c := 294) (k := 2) (Or.inr (by decide))).trans ((congrArg (fun e => o_i e 2) (Fr.at GM191 kd_294 rfl)).trans (TM187.1.trans ((congrArg (fun e => o_i e 2) (Fr.at GM177 kd_294 rfl)).trans ((congrArg (fun e => o_i e 2) (Fr.at GM3 kd_294 rfl)).trans TM1.1)))))))
        · skip
          refine PW.aload_n q_266_114 rfl ?_
          refine PW.cI q_266_115 (by decide) fun c235 hc235 => ?_
          refine PW.cV (as := [_]) (rest := []) q_266_116 t_mv_266_170 kd_294 IM191.1 (by decide) rfl (by decide) rfl rfl (Nat.le_of_ble_eq_true rfl) (Nat.le_of_ble_eq_true rfl) (by decide) (by decide) ?_
          have SM191 : Iv (gSv M191) M191 := gSv.of IM191
          refine PW.up (by decide) (c_X12_bad (gSv M191) (StabSv M191) G _ M191 SM191 c235 fun x237 M236 IM236 GM236 hx237 kx237 PM236 TM236 => ?_)
          have FM236 := Fr.trans FM191 GM236 (rfl)
          have QM236 : Iv gTT M236 := ⟨IM236.1, IM236.2.1⟩
          have tr238 : o_i (M236 294) 29 = o_i (M191 294) 29 := IM236.2.2.1
          have tr239 : o_i (M236 294) 33 = o_i (M191 294) 33 := IM236.2.2.2.1
          have tr240 : o_i (M236 294) 35 = o_i (M191 294) 35 := IM236.2.2.2.2.1
          have tr241 : o_i (M236 294) 37 = o_i (M191 294) 37 := IM236.2.2.2.2.2.1
          have srM236 : o_a (M236 298) = o_a (M191 298) := IM236.2.2.2.2.2.2.1
          have skM236 : o_a (M236 305) = o_a (M191 305) := IM236.2.2.2.2.2.2.2
          refine PW.rZ q_266_119 rfl (by omega) (by omega) (by decide) (by decide) ?_
          exact hK x237 M236 QM236 FM236 (by omega) (by omega) (Or.inl (by omega)) (TM236.trans ((congrArg (fun e => o_i e 2) (Fr.at GM191 kd_294 rfl)).trans (TM187.1.trans ((congrArg (fun e => o_i e 2) (Fr.at GM177 kd_294 rfl)).trans ((congrArg (fun e => o_i e 2) (Fr.at GM3 kd_294 rfl)).trans TM1.1)))))
    · skip
      refine PW.aload_n q_266_24 rfl ?_
      refine PW.aload_n q_266_25 rfl ?_
      refine PW.ldc2 q_266_26 t_lt_266_114 ?_
      refine PW.cV (as := [_]) (rest := [_]) q_266_29 t_mv_266_201 kd_294 IM177.1 (by decide) rfl (by decide) rfl rfl (Nat.le_of_ble_eq_true rfl) (Nat.le_of_ble_eq_true rfl) (by decide) (by decide) ?_
      refine PW.up (by decide) (c_X12_isWord_v (gTT) (Stab0) G _ M177 IM177 _ fun x243 M242 IM242 GM242 hx243 kx243 PM242 TM242 => ?_)
      have FM242 := Fr.trans FM177 GM242 (rfl)
      have tr244 : o_i (M242 294) 33 = o_i (M177 294) 33 := by rw [Fr.at GM242 kd_294 (by decide)]
      have tr245 : o_i (M242 294) 35 = o_i (M177 294) 35 := by rw [Fr.at GM242 kd_294 (by decide)]
      have tr246 : o_i (M242 294) 37 = o_i (M177 294) 37 := by rw [Fr.at GM242 kd_294 (by decide)]
      have tr247 : o_i (M242 294) 34 = o_i (M177 294) 34 := by rw [Fr.at GM242 kd_294 (by decide)]
      have tr248 : o_i (M242 294) 4 = o_i (M177 294) 4 := by rw [Fr.at GM242 kd_294 (by decide)]
      have tr249 : o_i (M242 294) 11 = o_i (M177 294) 11 := by rw [Fr.at GM242 kd_294 (by decide)]
      refine PW.jz_eq q_266_32 rfl (fun h250 => ?_) (fun h250 => ?_)
      · skip
        refine PW.cB q_266_40 (by decide) fun c251 hc251 => ?_
        refine PW.cV (as := [_]) (rest := []) q_266_42 t_mv_266_407 kd_294 IM242.1 (by decide) rfl (by decide) rfl rfl (Nat.le_of_ble_eq_true rfl) (Nat.le_of_ble_eq_true rfl) (by decide) (by decide) ?_
        refine PW.up (by decide) (c_X12_joins G _ M242 IM242 c251 (gSm.of (NaM1) (by omega) (by omega) (by omega) (by omega) ((congrArg o_a (Fr.at GM242 kd_298 rfl)).trans ((congrArg o_a (Fr.at GM177 kd_298 rfl)).trans (congrArg o_a (Fr.at GM3 kd_298 rfl)))) ((congrArg o_a (Fr.at GM242 kd_305 rfl)).trans ((congrArg o_a (Fr.at GM177 kd_305 rfl)).trans (congrArg o_a (Fr.at GM3 kd_305 rfl))))) (by omega) fun M252 IM252 GM252 PM252 TM252 => ?_)
        have FM252 := Fr.trans FM242 GM252 (rfl)
        obtain ⟨NaM252, NbM252, NcM252, NeM252, NfM252, NgM252⟩ := PM252
        have hs253 : o_i (M252 294) 33 + o_i (M252 294) 35 + o_i (M252 294) 37 ≤ 2 * o_i (M252 294) 34 := NaM252.2.2
        have ho253 := g_on20 IM252.1
        have hc253 := g_co IM252.1
        have w254 : gSn (o_i (M252 294) 33) (o_i (M252 294) 35) 1 (o_i (M252 294) 34) (o_a (M252 298)) (o_a (M252 305)) := by have q := NaM252; unfold gSm at q; rw [show o_i (M252 294) 37 = 1 from by omega] at q; exact q
        refine PW.aload_n q_266_45 rfl ?_
        refine PW.gR 305 q_266_46 (Or.inl t_ft_266_62) gF_40_32 kd_294 IM252.1 (by decide) rfl ?_
        refine PW.aload_n q_266_49 rfl ?_
        refine PW.gI q_266_50 (Or.inl t_ft_266_385) gF_40_35 kd_294 IM252.1 (by decide) fun x255 fx255 hx255 kx255 => ?_
        have trx255 := o_i_of fx255
        refine PW.aload_n q_266_53 rfl ?_
        refine PW.ldc2 q_266_54 t_lt_266_114 ?_
        refine PW.cV (as := [_]) (rest := [_, _]) q_266_57 t_mv_266_201 kd_294 IM252.1 (by decide) rfl (by decide) rfl rfl (Nat.le_of_ble_eq_true rfl) (Nat.le_of_ble_eq_true rfl) (by decide) (by decide) ?_
        refine PW.up (by decide) (c_X12_isWord_v (gTT) (Stab0) G _ M252 IM252 _ fun x257 M256 IM256 GM256 hx257 kx257 PM256 TM256 => ?_)
        have FM256 := Fr.trans FM252 GM256 (rfl)
        have tr258 : o_i (M256 294) 33 = o_i (M252 294) 33 := by rw [Fr.at GM256 kd_294 (by decide)]
        have tr259 : o_i (M256 294) 35 = o_i (M252 294) 35 := by rw [Fr.at GM256 kd_294 (by decide)]
        have tr260 : o_i (M256 294) 37 = o_i (M252 294) 37 := by rw [Fr.at GM256 kd_294 (by decide)]
        have tr261 : o_i (M256 294) 34 = o_i (M252 294) 34 := by rw [Fr.at GM256 kd_294 (by decide)]
        have tr262 : o_i (M256 294) 4 = o_i (M252 294) 4 := by rw [Fr.at GM256 kd_294 (by decide)]
        have tr263 : o_i (M256 294) 11 = o_i (M252 294) 11 := by rw [Fr.at GM256 kd_294 (by decide)]
        refine PW.jz_eq q_266_60 rfl (fun h264 => ?_) (fun h264 => ?_)
        · skip
          refine PW.cB q_266_68 (by decide) fun c265 hc265 => ?_
          refine PW.wT q_266_70 gA_51 kd_305 IM256 (by decide) rfl gC_51_0_40 (by decide) (by omega) (by omega) (n_lo _) (n_hi _) fun M266 IM266 fM266 UM266 => ?_
          have FM266 := Fr.pu FM256 UM266.1 kd_305 (rfl : List.contains [40, 44, 51] 51 = true)
          have tr267 : o_i (M266 294) 33 = o_i (M256 294) 33 := by rw [UM266.1 294 (g_ne kd_294 kd_305 (by decide))]
          have tr268 : o_i (M266 294) 35 = o_i (M256 294) 35 := by rw [UM266.1 294 (g_ne kd_294 kd_305 (by decide))]
          have tr269 : o_i (M266 294) 37 = o_i (M256 294) 37 := by rw [UM266.1 294 (g_ne kd_294 kd_305 (by decide))]
          have tr270 : o_i (M266 294) 34 = o_i (M256 294) 34 := by rw [UM266.1 294 (g_ne kd_294 kd_305 (by decide))]
          have tr271 : o_i (M266 294) 4 = o_i (M256 294) 4 := by rw [UM266.1 294 (g_ne kd_294 kd_305 (by decide))]
          have tr272 : o_i (M266 294) 11 = o_i (M256 294) 11 := by rw [UM266.1 294 (g_ne kd_294 kd_305 (by decide))]
          refine PW.aload_n q_266_71 rfl ?_
          refine PW.dup q_266_72 rfl ?_
          refine PW.gE q_266_73 (Or.inl t_ft_266_385) gF_40_35 kd_294 IM266.1 (by decide) ((congrArg (fun e => o_f e 35) (UM266.1 _ (g_ne kd_294 kd_305 (by decide)))).trans ((congrArg (fun e => o_f e 35) (Fr.at GM256 kd_294 (by decide))).trans fx255)) ?_
          have tr273 := o_i_of ((congrArg (fun e => o_f e 35) (UM266.1 _ (g_ne kd_294 kd_305 (by decide)))).trans ((congrArg (fun e => o_f e 35) (Fr.at GM256 kd_294 (by decide))).trans fx255))
          refine PW.cI q_266_76 (by decide) fun c274 hc274 => ?_
          refine PW.addN q_266_77 (by omega) (by omega) fun x275 hx275 => ?_
          refine PW.pT q_266_78 (Or.inl t_ft_266_385) gF_40_35 gP_40_35 kd_294 IM266 (by decide) rfl (by omega) (by omega) fun M276 IM276 fM276 UM276 => ?_
          have FM276 := Fr.pu FM266 UM276.1 kd_294 (rfl : List.contains [40, 44, 51] 40 = true)
          have tr277 := UM276.i (c := 294) (k := 33) (Or.inr (by decide))
          have tr278 := o_i_of fM276
          have tr279 := UM276.i (c := 294) (k := 37) (Or.inr (by decide))
          have tr280 := UM276.i (c := 294) (k := 34) (Or.inr (by decide))
          have tr281 := UM276.i (c := 294) (k := 4) (Or.inr (by decide))
          have tr282 := UM276.i (c := 294) (k := 11) (Or.inr (by decide))
          refine PW.aload_n q_266_81 rfl ?_
          refine PW.cI q_266_82 (by decide) fun c283 hc283 => ?_
          refine PW.pT q_266_83 (Or.inl t_ft_266_401) gF_40_37 gP_40_37 kd_294 IM276 (by decide) rfl (by omega) (by omega) fun M284 IM284 fM284 UM284 => ?_
          have FM284 := Fr.pu FM276 UM284.1 kd_294 (rfl : List.contains [40, 44, 51] 40 = true)
          have tr285 := UM284.i (c := 294) (k := 33) (Or.inr (by decide))
          have tr286 := UM284.i (c := 294) (k := 35) (Or.inr (by decide))
          have tr287 := o_i_of fM284
          have tr288 := UM284.i (c := 294) (k := 34) (Or.inr (by decide))
          have tr289 := UM284.i (c := 294) (k := 4) (Or.inr (by decide))
          have tr290 := UM284.i (c := 294) (k := 11) (Or.inr (by decide))
          refine PW.aload_n q_266_86 rfl ?_
          refine PW.cV (as := []) (rest := []) q_266_87 t_mv_266_173 kd_294 IM284.1 (by decide) rfl (by decide) rfl rfl (Nat.le_of_ble_eq_true rfl) (Nat.le_of_ble_eq_true rfl) (by decide) (by decide) ?_
          have SM284 : Iv (gSv M284) M284 := gSv.of IM284
          refine PW.up (by decide) (c_X12_go (gSv M284) (StabSv M284) G _ M284 SM284  fun M291 IM291 GM291 PM291 TM291 => ?_)
          have FM291 := Fr.trans FM284 GM291 (rfl)
          obtain ⟨PaM291, PdM291, PbM291, PeM291⟩ := PM291
          have QM291 : Iv gTT M291 := ⟨IM291.1, IM291.2.1⟩
          have tr292 : o_i (M291 294) 29 = o_i (M284 294) 29 := IM291.2.2.1
          have tr293 : o_i (M291 294) 33 = o_i (M284 294) 33 := IM291.2.2.2.1
          have tr294 : o_i (M291 294) 35 = o_i (M284 294) 35 := IM291.2.2.2.2.1
          have tr295 : o_i (M291 294) 37 = o_i (M284 294) 37 := IM291.2.2.2.2.2.1
          have srM291 : o_a (M291 298) = o_a (M284 298) := IM291.2.2.2.2.2.2.1
          have skM291 : o_a (M291 305) = o_a (M284 305) := IM291.2.2.2.2.2.2.2
          refine PW.cI q_266_90 (by decide) fun c296 hc296 => ?_
          refine PW.rZ q_266_91 rfl (by omega) (by omega) (by decide) (by decide) ?_
          exact hK c296 M291 QM291 FM291 (by omega) (by omega) (Or.inr ⟨gSm.of (gSn.bin (k1 := o_a (M266 305)) w254 (by omega) (fun z hz => (UM266.2 z (by omega)).trans (congrFun (congrArg o_a (Fr.at GM256 kd_305 rfl)) z)) (by rw [show (o_i (M252 294) 35).toNat = x255.toInt.toNat from by omega, fM266]; omega)) (by omega) (by omega) (by omega) (by omega) ((congrArg o_a (Fr.at GM291 kd_298 rfl)).trans ((congrArg o_a (UM284.1 298 (by decide))).trans ((congrArg o_a (UM276.1 298 (by decide))).trans ((congrArg o_a (UM266.1 298 (by decide))).trans (congrArg o_a (Fr.at GM256 kd_298 rfl)))))) ((congrArg o_a (Fr.at GM291 kd_305 rfl)).trans ((congrArg o_a (UM284.1 305 (by decide))).trans (congrArg o_a (UM276.1 305 (by decide))))), by omega, by omega, by omega⟩) (TM291.1.trans ((UM284.i (c := 294) (k := 2) (Or.inr (by decide))).trans ((UM276.i (c := 294) (k := 2) (Or.inr (by decide))).trans ((congrArg (fun e => o_i e 2) (UM266.1 294 (by decide))).trans ((congrArg (fun e => o_i e 2) (Fr.at GM256 kd_294 rfl)).trans (TM252.1.trans ((congrArg (fun e => o_i e 2) (Fr.at GM242 kd_294 rfl)).trans ((congrArg (fun e => o_i e 2) (Fr.at GM177 kd_294 rfl)).trans ((congrArg (fun e => o_i e 2) (Fr.at GM3 kd_294 rfl)).trans TM1.1)))))))))
        · skip
          refine PW.cB q_266_63 (by decide) fun c297 hc297 => ?_
          refine PW.goto q_266_65 rfl ?_
          refine PW.wT q_266_70 gA_51 kd_305 IM256 (by decide) rfl gC_51_0_40 (by decide) (by omega) (by omega) (n_lo _) (n_hi _) fun M298 IM298 fM298 UM298 => ?_
          have FM298 := Fr.pu FM256 UM298.1 kd_305 (rfl : List.contains [40, 44, 51] 51 = true)
          have tr299 : o_i (M298 294) 33 = o_i (M256 294) 33 := by rw [UM298.1 294 (g_ne kd_294 kd_305 (by decide))]
          have tr300 : o_i (M298 294) 35 = o_i (M256 294) 35 := by rw [UM298.1 294 (g_ne kd_294 kd_305 (by decide))]
          have tr301 : o_i (M298 294) 37 = o_i (M256 294) 37 := by rw [UM298.1 294 (g_ne kd_294 kd_305 (by decide))]
          have tr302 : o_i (M298 294) 34 = o_i (M256 294) 34 := by rw [UM298.1 294 (g_ne kd_294 kd_305 (by decide))]
          have tr303 : o_i (M298 294) 4 = o_i (M256 294) 4 := by rw [UM298.1 294 (g_ne kd_294 kd_305 (by decide))]
          have tr304 : o_i (M298 294) 11 = o_i (M256 294) 11 := by rw [UM298.1 294 (g_ne kd_294 kd_305 (by decide))]
          refine PW.aload_n q_266_71 rfl ?_
          refine PW.dup q_266_72 rfl ?_
          refine PW.gE q_266_73 (Or.inl t_ft_266_385) gF_40_35 kd_294 IM298.1 (by decide) ((congrArg (fun e => o_f e 35) (UM298.1 _ (g_ne kd_294 kd_305 (by decide)))).trans ((congrArg (fun e => o_f e 35) (Fr.at GM256 kd_294 (by decide))).trans fx255)) ?_
          have tr305 := o_i_of ((congrArg (fun e => o_f e 35) (UM298.1 _ (g_ne kd_294 kd_305 (by decide)))).trans ((congrArg (fun e => o_f e 35) (Fr.at GM256 kd_294 (by decide))).trans fx255))
          refine PW.cI q_266_76 (by decide) fun c306 hc306 => ?_
          refine PW.addN q_266_77 (by omega) (by omega) fun x307 hx307 => ?_
          refine PW.pT q_266_78 (Or.inl t_ft_266_385) gF_40_35 gP_40_35 kd_294 IM298 (by decide) rfl (by omega) (by omega) fun M308 IM308 fM308 UM308 => ?_
          have FM308 := Fr.pu FM298 UM308.1 kd_294 (rfl : List.contains [40, 44, 51] 40 = true)
          have tr309 := UM308.i (c := 294) (k := 33) (Or.inr (by decide))
          have tr310 := o_i_of fM308
          have tr311 := UM308.i (c := 294) (k := 37) (Or.inr (by decide))
          have tr312 := UM308.i (c := 294) (k := 34) (Or.inr (by decide))
          have tr313 := UM308.i (c := 294) (k := 4) (Or.inr (by decide))
          have tr314 := UM308.i (c := 294) (k := 11) (Or.inr (by decide))
          refine PW.aload_n q_266_81 rfl ?_
          refine PW.cI q_266_82 (by decide) fun c315 hc315 => ?_
          refine PW.pT q_266_83 (Or.inl t_ft_266_401) gF_40_37 gP_40_37 kd_294 IM308 (by decide) rfl (by omega) (by omega) fun M316 IM316 fM316 UM316 => ?_
          have FM316 := Fr.pu FM308 UM316.1 kd_294 (rfl : List.contains [40, 44, 51] 40 = true)
          have tr317 := UM316.i (c := 294) (k := 33) (Or.inr (by decide))
          have tr318 := UM316.i (c := 294) (k := 35) (Or.inr (by decide))
          have tr319 := o_i_of fM316
          have tr320 := UM316.i (c := 294) (k := 34) (Or.inr (by decide))
          have tr321 := UM316.i (c := 294) (k := 4) (Or.inr (by decide))
          have tr322 := UM316.i (c := 294) (k := 11) (Or.inr (by decide))
          refine PW.aload_n q_266_86 rfl ?_
          refine PW.cV (as := []) (rest := []) q_266_87 t_mv_266_173 kd_294 IM316.1 (by decide) rfl (by decide) rfl rfl (Nat.le_of_ble_eq_true rfl) (Nat.le_of_ble_eq_true rfl) (by decide) (by decide) ?_
          have SM316 : Iv (gSv M316) M316 := gSv.of IM316
          refine PW.up (by decide) (c_X12_go (gSv M316) (StabSv M316) G _ M316 SM316  fun M323 IM323 GM323 PM323 TM323 => ?_)
          have FM323 := Fr.trans FM316 GM323 (rfl)
          obtain ⟨PaM323, PdM323, PbM323, PeM323⟩ := PM323
          have QM323 : Iv gTT M323 := ⟨IM323.1, IM323.2.1⟩
          have tr324 : o_i (M323 294) 29 = o_i (M316 294) 29 := IM323.2.2.1
          have tr325 : o_i (M323 294) 33 = o_i (M316 294) 33 := IM323.2.2.2.1
          have tr326 : o_i (M323 294) 35 = o_i (M316 294) 35 := IM323.2.2.2.2.1
          have tr327 : o_i (M323 294) 37 = o_i (M316 294) 37 := IM323.2.2.2.2.2.1
          have srM323 : o_a (M323 298) = o_a (M316 298) := IM323.2.2.2.2.2.2.1
          have skM323 : o_a (M323 305) = o_a (M316 305) := IM323.2.2.2.2.2.2.2
          refine PW.cI q_266_90 (by decide) fun c328 hc328 => ?_
          refine PW.rZ q_266_91 rfl (by omega) (by omega) (by decide) (by decide) ?_
          exact hK c328 M323 QM323 FM323 (by omega) (by omega) (Or.inr ⟨gSm.of (gSn.bin (k1 := o_a (M298 305)) w254 (by omega) (fun z hz => (UM298.2 z (by omega)).trans (congrFun (congrArg o_a (Fr.at GM256 kd_305 rfl)) z)) (by rw [show (o_i (M252 294) 35).toNat = x255.toInt.toNat from by omega, fM298]; omega)) (by omega) (by omega) (by omega) (by omega) ((congrArg o_a (Fr.at GM323 kd_298 rfl)).trans ((congrArg o_a (UM316.1 298 (by decide))).trans ((congrArg o_a (UM308.1 298 (by decide))).trans ((congrArg o_a (UM298.1 298 (by decide))).trans (congrArg o_a (Fr.at GM256 kd_298 rfl)))))) ((congrArg o_a (Fr.at GM323 kd_305 rfl)).trans ((congrArg o_a (UM316.1 305 (by decide))).trans (congrArg o_a (UM308.1 305 (by decide))))), by omega, by omega, by omega⟩) (TM323.1.trans ((UM316.i (c := 294) (k := 2) (Or.inr (by decide))).trans ((UM308.i (c := 294) (k := 2) (Or.inr (by decide))).trans ((congrArg (fun e => o_i e 2) (UM298.1 294 (by decide))).trans ((congrArg (fun e => o_i e 2) (Fr.at GM256 kd_294 rfl)).trans (TM252.1.trans ((congrArg (fun e => o_i e 2) (Fr.at GM242 kd_294 rfl)).trans ((congrArg (fun e => o_i e 2) (Fr.at GM177 kd_294 rfl)).trans ((congrArg (fun e => o_i e 2) (Fr.at GM3 kd_294 rfl)).trans TM1.1)))))))))
      · skip
        refine PW.cB q_266_35 (by decide) fun c329 hc329 => ?_
        refine PW.goto q_266_37 rfl ?_
        refine PW.cV (as := [_]) (rest := []) q_266_42 t_mv_266_407 kd_294 IM242.1 (by decide) rfl (by decide) rfl rfl (Nat.le_of_ble_eq_true rfl) (Nat.le_of_ble_eq_true rfl) (by decide) (by decide) ?_
        refine PW.up (by decide) (c_X12_joins G _ M242 IM242 c329 (gSm.of (NaM1) (by omega) (by omega) (by omega) (by omega) ((congrArg o_a (Fr.at GM242 kd_298 rfl)).trans ((congrArg o_a (Fr.at GM177 kd_298 rfl)).trans (congrArg o_a (Fr.at GM3 kd_298 rfl)))) ((congrArg o_a (Fr.at GM242 kd_305 rfl)).trans ((congrArg o_a (Fr.at GM177 kd_305 rfl)).trans (congrArg o_a (Fr.at GM3 kd_305 rfl))))) (by omega) fun M330 IM330 GM330 PM330 TM330 => ?_)
        have FM330 := Fr.trans FM242 GM330 (rfl)
        obtain ⟨NaM330, NbM330, NcM330, NeM330, NfM330, NgM330⟩ := PM330
        have hs331 : o_i (M330 294) 33 + o_i (M330 294) 35 + o_i (M330 294) 37 ≤ 2 * o_i (M330 294) 34 := NaM330.2.2
        have ho331 := g_on20 IM330.1
        have hc331 := g_co IM330.1
        have w332 : gSn (o_i (M330 294) 33) (o_i (M330 294) 35) 1 (o_i (M330 294) 34) (o_a (M330 298)) (o_a (M330 305)) := by have q := NaM330; unfold gSm at q; rw [show o_i (M330 294) 37 = 1 from by omega] at q; exact q
        refine PW.aload_n q_266_45 rfl ?_
        refine PW.gR 305 q_266_46 (Or.inl t_ft_266_62) gF_40_32 kd_294 IM330.1 (by decide) rfl ?_
        refine PW.aload_n q_266_49 rfl ?_
        refine PW.gI q_266_50 (Or.inl t_ft_266_385) gF_40_35 kd_294 IM330.1 (by decide) fun x333 fx333 hx333 kx333 => ?_
        have trx333 := o_i_of fx333
        refine PW.aload_n q_266_53 rfl ?_
        refine PW.ldc2 q_266_54 t_lt_266_114 ?_
        refine PW.cV (as := [_]) (rest := [_, _]) q_266_57 t_mv_266_201 kd_294 IM330.1 (by decide) rfl (by decide) rfl rfl (Nat.le_of_ble_eq_true rfl) (Nat.le_of_ble_eq_true rfl) (by decide) (by decide) ?_
        refine PW.up (by decide) (c_X12_isWord_v (gTT) (Stab0) G _ M330 IM330 _ fun x335 M334 IM334 GM334 hx335 kx335 PM334 TM334 => ?_)
        have FM334 := Fr.trans FM330 GM334 (rfl)
        have tr336 : o_i (M334 294) 33 = o_i (M330 294) 33 := by rw [Fr.at GM334 kd_294 (by decide)]
        have tr337 : o_i (M334 294) 35 = o_i (M330 294) 35 := by rw [Fr.at GM334 kd_294 (by decide)]
        have tr338 : o_i (M334 294) 37 = o_i (M330 294) 37 := by rw [Fr.at GM334 kd_294 (by decide)]
        have tr339 : o_i (M334 294) 34 = o_i (M330 294) 34 := by rw [Fr.at GM334 kd_294 (by decide)]
        have tr340 : o_i (M334 294) 4 = o_i (M330 294) 4 := by rw [Fr.at GM334 kd_294 (by decide)]
        have tr341 : o_i (M334 294) 11 = o_i (M330 294) 11 := by rw [Fr.at GM334 kd_294 (by decide)]
        refine PW.jz_eq q_266_60 rfl (fun h342 => ?_) (fun h342 => ?_)
        · skip
          refine PW.cB q_266_68 (by decide) fun c343 hc343 => ?_
          refine PW.wT q_266_70 gA_51 kd_305 IM334 (by decide) rfl gC_51_0_40 (by decide) (by omega) (by omega) (n_lo _) (n_hi _) fun M344 IM344 fM344 UM344 => ?_
          have FM344 := Fr.pu FM334 UM344.1 kd_305 (rfl : List.contains [40, 44, 51] 51 = true)
          have tr345 : o_i (M344 294) 33 = o_i (M334 294) 33 := by rw [UM344.1 294 (g_ne kd_294 kd_305 (by decide))]
          have tr346 : o_i (M344 294) 35 = o_i (M334 294) 35 := by rw [UM344.1 294 (g_ne kd_294 kd_305 (by decide))]
          have tr347 : o_i (M344 294) 37 = o_i (M334 294) 37 := by rw [UM344.1 294 (g_ne kd_294 kd_305 (by decide))]
          have tr348 : o_i (M344 294) 34 = o_i (M334 294) 34 := by rw [UM344.1 294 (g_ne kd_294 kd_305 (by decide))]
          have tr349 : o_i (M344 294) 4 = o_i (M334 294) 4 := by rw [UM344.1 294 (g_ne kd_294 kd_305 (by decide))]
          have tr350 : o_i (M344 294) 11 = o_i (M334 294) 11 := by rw [UM344.1 294 (g_ne kd_294 kd_305 (by decide))]
          refine PW.aload_n q_266_71 rfl ?_
          refine PW.dup q_266_72 rfl ?_
          refine PW.gE q_266_73 (Or.inl t_ft_266_385) gF_40_35 kd_294 IM344.1 (by decide) ((congrArg (fun e => o_f e 35) (UM344.1 _ (g_ne kd_294 kd_305 (by decide)))).trans ((congrArg (fun e => o_f e 35) (Fr.at GM334 kd_294 (by decide))).trans fx333)) ?_
          have tr351 := o_i_of ((congrArg (fun e => o_f e 35) (UM344.1 _ (g_ne kd_294 kd_305 (by decide)))).trans ((congrArg (fun e => o_f e 35) (Fr.at GM334 kd_294 (by decide))).trans fx333))
          refine PW.cI q_266_76 (by decide) fun c352 hc352 => ?_
          refine PW.addN q_266_77 (by omega) (by omega) fun x353 hx353 => ?_
          refine PW.pT q_266_78 (Or.inl t_ft_266_385) gF_40_35 gP_40_35 kd_294 IM344 (by decide) rfl (by omega) (by omega) fun M354 IM354 fM354 UM354 => ?_
          have FM354 := Fr.pu FM344 UM354.1 kd_294 (rfl : List.contains [40, 44, 51] 40 = true)
          have tr355 := UM354.i (c := 294) (k := 33) (Or.inr (by decide))
          have tr356 := o_i_of fM354
          have tr357 := UM354.i (c := 294) (k := 37) (Or.inr (by decide))
          have tr358 := UM354.i (c := 294) (k := 34) (Or.inr (by decide))
          have tr359 := UM354.i (c := 294) (k := 4) (Or.inr (by decide))
          have tr360 := UM354.i (c := 294) (k := 11) (Or.inr (by decide))
          refine PW.aload_n q_266_81 rfl ?_
          refine PW.cI q_266_82 (by decide) fun c361 hc361 => ?_
          refine PW.pT q_266_83 (Or.inl t_ft_266_401) gF_40_37 gP_40_37 kd_294 IM354 (by decide) rfl (by omega) (by omega) fun M362 IM362 fM362 UM362 => ?_
          have FM362 := Fr.pu FM354 UM362.1 kd_294 (rfl : List.contains [40, 44, 51] 40 = true)
          have tr363 := UM362.i (c := 294) (k := 33) (Or.inr (by decide))
          have tr364 := UM362.i (c := 294) (k := 35) (Or.inr (by decide))
          have tr365 := o_i_of fM362
          have tr366 := UM362.i (c := 294) (k := 34) (Or.inr (by decide))
          have tr367 := UM362.i (c := 294) (k := 4) (Or.inr (by decide))
          have tr368 := UM362.i (c := 294) (k := 11) (Or.inr (by decide))
          refine PW.aload_n q_266_86 rfl ?_
          refine PW.cV (as := []) (rest := []) q_266_87 t_mv_266_173 kd_294 IM362.1 (by decide) rfl (by decide) rfl rfl (Nat.le_of_ble_eq_true rfl) (Nat.le_of_ble_eq_true rfl) (by decide) (by decide) ?_
          have SM362 : Iv (gSv M362) M362 := gSv.of IM362
          refine PW.up (by decide) (c_X12_go (gSv M362) (StabSv M362) G _ M362 SM362  fun M369 IM369 GM369 PM369 TM369 => ?_)
          have FM369 := Fr.trans FM362 GM369 (rfl)
          obtain ⟨PaM369, PdM369, PbM369, PeM369⟩ := PM369
          have QM369 : Iv gTT M369 := ⟨IM369.1, IM369.2.1⟩
          have tr370 : o_i (M369 294) 29 = o_i (M362 294) 29 := IM369.2.2.1
          have tr371 : o_i (M369 294) 33 = o_i (M362 294) 33 := IM369.2.2.2.1
          have tr372 : o_i (M369 294) 35 = o_i (M362 294) 35 := IM369.2.2.2.2.1
          have tr373 : o_i (M369 294) 37 = o_i (M362 294) 37 := IM369.2.2.2.2.2.1
          have srM369 : o_a (M369 298) = o_a (M362 298) := IM369.2.2.2.2.2.2.1
          have skM369 : o_a (M369 305) = o_a (M362 305) := IM369.2.2.2.2.2.2.2
          refine PW.cI q_266_90 (by decide) fun c374 hc374 => ?_
          refine PW.rZ q_266_91 rfl (by omega) (by omega) (by decide) (by decide) ?_
          exact hK c374 M369 QM369 FM369 (by omega) (by omega) (Or.inr ⟨gSm.of (gSn.bin (k1 := o_a (M344 305)) w332 (by omega) (fun z hz => (UM344.2 z (by omega)).trans (congrFun (congrArg o_a (Fr.at GM334 kd_305 rfl)) z)) (by rw [show (o_i (M330 294) 35).toNat = x333.toInt.toNat from by omega, fM344]; omega)) (by omega) (by omega) (by omega) (by omega) ((congrArg o_a (Fr.at GM369 kd_298 rfl)).trans ((congrArg o_a (UM362.1 298 (by decide))).trans ((congrArg o_a (UM354.1 298 (by decide))).trans ((congrArg o_a (UM344.1 298 (by decide))).trans (congrArg o_a (Fr.at GM334 kd_298 rfl)))))) ((congrArg o_a (Fr.at GM369 kd_305 rfl)).trans ((congrArg o_a (UM362.1 305 (by decide))).trans (congrArg o_a (UM354.1 305 (by decide))))), by omega, by omega, by omega⟩) (TM369.1.trans ((UM362.i (c := 294) (k := 2) (Or.inr (by decide))).trans ((UM354.i (c := 294) (k := 2) (Or.inr (by decide))).trans ((congrArg (fun e => o_i e 2) (UM344.1 294 (by decide))).trans ((congrArg (fun e => o_i e 2) (Fr.at GM334 kd_294 rfl)).trans (TM330.1.trans ((congrArg (fun e => o_i e 2) (Fr.at GM242 kd_294 rfl)).trans ((congrArg (fun e => o_i e 2) (Fr.at GM177 kd_294 rfl)).trans ((congrArg (fun e => o_i e 2) (Fr.at GM3 kd_294 rfl)).trans TM1.1)))))))))
        · skip
          refine PW.cB q_266_63 (by decide) fun c375 hc375 => ?_
          refine PW.goto q_266_65 rfl ?_
          refine PW.wT q_266_70 gA_51 kd_305 IM334 (by decide) rfl gC_51_0_40 (by decide) (by omega) (by omega) (n_lo _) (n_hi _) fun M376 IM376 fM376 UM376 => ?_
          have FM376 := Fr.pu FM334 UM376.1 kd_305 (rfl : List.contains [40, 44, 51] 51 = true)
          have tr377 : o_i (M376 294) 33 = o_i (M334 294) 33 := by rw [UM376.1 294 (g_ne kd_294 kd_305 (by decide))]
          have tr378 : o_i (M376 294) 35 = o_i (M334 294) 35 := by rw [UM376.1 294 (g_ne kd_294 kd_305 (by decide))]
          have tr379 : o_i (M376 294) 37 = o_i (M334 294) 37 := by rw [UM376.1 294 (g_ne kd_294 kd_305 (by decide))]
          have tr380 : o_i (M376 294) 34 = o_i (M334 294) 34 := by rw [UM376.1 294 (g_ne kd_294 kd_305 (by decide))]
          have tr381 : o_i (M376 294) 4 = o_i (M334 294) 4 := by rw [UM376.1 294 (g_ne kd_294 kd_305 (by decide))]
          have tr382 : o_i (M376 294) 11 = o_i (M334 294) 11 := by rw [UM376.1 294 (g_ne kd_294 kd_305 (by decide))]
          refine PW.aload_n q_266_71 rfl ?_
          refine PW.dup q_266_72 rfl ?_
          refine PW.gE q_266_73 (Or.inl t_ft_266_385) gF_40_35 kd_294 IM376.1 (by decide) ((congrArg (fun e => o_f e 35) (UM376.1 _ (g_ne kd_294 kd_305 (by decide)))).trans ((congrArg (fun e => o_f e 35) (Fr.at GM334 kd_294 (by decide))).trans fx333)) ?_
          have tr383 := o_i_of ((congrArg (fun e => o_f e 35) (UM376.1 _ (g_ne kd_294 kd_305 (by decide)))).trans ((congrArg (fun e => o_f e 35) (Fr.at GM334 kd_294 (by decide))).trans fx333))
          refine PW.cI q_266_76 (by decide) fun c384 hc384 => ?_
          refine PW.addN q_266_77 (by omega) (by omega) fun x385 hx385 => ?_
          refine PW.pT q_266_78 (Or.inl t_ft_266_385) gF_40_35 gP_40_35 kd_294 IM376 (by decide) rfl (by omega) (by omega) fun M386 IM386 fM386 UM386 => ?_
          have FM386 := Fr.pu FM376 UM386.1 kd_294 (rfl : List.contains [40, 44, 51] 40 = true)
          have tr387 := UM386.i (c := 294) (k := 33) (Or.inr (by decide))
          have tr388 := o_i_of fM386
          have tr389 := UM386.i (c := 294) (k := 37) (Or.inr (by decide))
          have tr390 := UM386.i (c := 294) (k := 34) (Or.inr (by decide))
          have tr391 := UM386.i (c := 294) (k := 4) (Or.inr (by decide))
          have tr392 := UM386.i (c := 294) (k := 11) (Or.inr (by decide))
          refine PW.aload_n q_266_81 rfl ?_
          refine PW.cI q_266_82 (by decide) fun c393 hc393 => ?_
          refine PW.pT q_266_83 (Or.inl t_ft_266_401) gF_40_37 gP_40_37 kd_294 IM386 (by decide) rfl (by omega) (by omega) fun M394 IM394 fM394 UM394 => ?_
          have FM394 := Fr.pu FM386 UM394.1 kd_294 (rfl : List.contains [40, 44, 51] 40 = true)
          have tr395 := UM394.i (c := 294) (k := 33) (Or.inr (by decide))
          have tr396 := UM394.i (c := 294) (k := 35) (Or.inr (by decide))
          have tr397 := o_i_of fM394
          have tr398 := UM394.i (c := 294) (k := 34) (Or.inr (by decide))
          have tr399 := UM394.i (c := 294) (k := 4) (Or.inr (by decide))
          have tr400 := UM394.i (c := 294) (k := 11) (Or.inr (by decide))
          refine PW.aload_n q_266_86 rfl ?_
          refine PW.cV (as := []) (rest := []) q_266_87 t_mv_266_173 kd_294 IM394.1 (by decide) rfl (by decide) rfl rfl (Nat.le_of_ble_eq_true rfl) (Nat.le_of_ble_eq_true rfl) (by decide) (by decide) ?_
          have SM394 : Iv (gSv M394) M394 := gSv.of IM394
          refine PW.up (by decide) (c_X12_go (gSv M394) (StabSv M394) G _ M394 SM394  fun M401 IM401 GM401 PM401 TM401 => ?_)
          have FM401 := Fr.trans FM394 GM401 (rfl)
          obtain ⟨PaM401, PdM401, PbM401, PeM401⟩ := PM401
          have QM401 : Iv gTT M401 := ⟨IM401.1, IM401.2.1⟩
          have tr402 : o_i (M401 294) 29 = o_i (M394 294) 29 := IM401.2.2.1
          have tr403 : o_i (M401 294) 33 = o_i (M394 294) 33 := IM401.2.2.2.1
          have tr404 : o_i (M401 294) 35 = o_i (M394 294) 35 := IM401.2.2.2.2.1
          have tr405 : o_i (M401 294) 37 = o_i (M394 294) 37 := IM401.2.2.2.2.2.1
          have srM401 : o_a (M401 298) = o_a (M394 298) := IM401.2.2.2.2.2.2.1
          have skM401 : o_a (M401 305) = o_a (M394 305) := IM401.2.2.2.2.2.2.2
          refine PW.cI q_266_90 (by decide) fun c406 hc406 => ?_
          refine PW.rZ q_266_91 rfl (by omega) (by omega) (by decide) (by decide) ?_
          exact hK c406 M401 QM401 FM401 (by omega) (by omega) (Or.inr ⟨gSm.of (gSn.bin (k1 := o_a (M376 305)) w332 (by omega) (fun z hz => (UM376.2 z (by omega)).trans (congrFun (congrArg o_a (Fr.at GM334 kd_305 rfl)) z)) (by rw [show (o_i (M330 294) 35).toNat = x333.toInt.toNat from by omega, fM376]; omega)) (by omega) (by omega) (by omega) (by omega) ((congrArg o_a (Fr.at GM401 kd_298 rfl)).trans ((congrArg o_a (UM394.1 298 (by decide))).trans ((congrArg o_a (UM386.1 298 (by decide))).trans ((congrArg o_a (UM376.1 298 (by decide))).trans (congrArg o_a (Fr.at GM334 kd_298 rfl)))))) ((congrArg o_a (Fr.at GM401 kd_305 rfl)).trans ((congrArg o_a (UM394.1 305 (by decide))).trans (congrArg o_a (UM386.1 305 (by decide))))), by omega, by omega, by omega⟩) (TM401.1.trans ((UM394.i (c := 294) (k := 2) (Or.inr (by decide))).trans ((UM386.i (c := 294) (k := 2) (Or.inr (by decide))).trans ((congrArg (fun e => o_i e 2) (UM376.1 294 (by decide))).trans ((congrArg (fun e => o_i e 2) (Fr.at GM334 kd_294 rfl)).trans (TM330.1.trans ((congrArg (fun e => o_i e 2) (Fr.at GM242 kd_294 rfl)).trans ((congrArg (fun e => o_i e 2) (Fr.at GM177 kd_294 rfl)).trans ((congrArg (fun e => o_i e 2) (Fr.at GM3 kd_294 rfl)).trans TM1.1)))))))))
