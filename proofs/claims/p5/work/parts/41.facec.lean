theorem q_122_0 : p_tb 122 0 = some (.iload_n 1, 1) := by decide +kernel
theorem q_122_1 : p_tb 122 1 = some (.iconst 1, 1) := by decide +kernel
theorem q_122_2 : p_tb 122 2 = some (.if_icmp .lt 9, 3) := by decide +kernel
theorem q_122_5 : p_tb 122 5 = some (.iload_n 1, 1) := by decide +kernel
theorem q_122_6 : p_tb 122 6 = some (.bipush 60, 2) := by decide +kernel
theorem q_122_8 : p_tb 122 8 = some (.if_icmp .le 5, 3) := by decide +kernel
theorem q_122_11 : p_tb 122 11 = some (.iconst (-1), 1) := by decide +kernel
theorem q_122_12 : p_tb 122 12 = some (.ireturn, 1) := by decide +kernel
theorem q_122_13 : p_tb 122 13 = some (.iload_n 1, 1) := by decide +kernel
theorem q_122_14 : p_tb 122 14 = some (.sipush 600, 3) := by decide +kernel
theorem q_122_17 : p_tb 122 17 = some (.aload_n 0, 1) := by decide +kernel
theorem q_122_18 : p_tb 122 18 = some (.getfield 19, 3) := by decide +kernel
theorem q_122_21 : p_tb 122 21 = some (.getfield 101, 3) := by decide +kernel
theorem q_122_24 : p_tb 122 24 = some (.getfield 230, 3) := by decide +kernel
theorem q_122_27 : p_tb 122 27 = some (.isub, 1) := by decide +kernel
theorem q_122_28 : p_tb 122 28 = some (.invokestatic 295, 3) := by decide +kernel
theorem q_122_31 : p_tb 122 31 = some (.istore_n 2, 1) := by decide +kernel
theorem q_122_32 : p_tb 122 32 = some (.iload_n 2, 1) := by decide +kernel
theorem q_122_33 : p_tb 122 33 = some (.ifCond .le 35, 3) := by decide +kernel
theorem q_122_36 : p_tb 122 36 = some (.aload_n 0, 1) := by decide +kernel
theorem q_122_37 : p_tb 122 37 = some (.getfield 34, 3) := by decide +kernel
theorem q_122_40 : p_tb 122 40 = some (.aload_n 0, 1) := by decide +kernel
theorem q_122_41 : p_tb 122 41 = some (.getfield 19, 3) := by decide +kernel
theorem q_122_44 : p_tb 122 44 = some (.getfield 101, 3) := by decide +kernel
theorem q_122_47 : p_tb 122 47 = some (.invokevirtual 147, 3) := by decide +kernel
theorem q_122_50 : p_tb 122 50 = some (.aload_n 0, 1) := by decide +kernel
theorem q_122_51 : p_tb 122 51 = some (.getfield 19, 3) := by decide +kernel
theorem q_122_54 : p_tb 122 54 = some (.getfield 101, 3) := by decide +kernel
theorem q_122_57 : p_tb 122 57 = some (.aload_n 0, 1) := by decide +kernel
theorem q_122_58 : p_tb 122 58 = some (.getfield 19, 3) := by decide +kernel
theorem q_122_61 : p_tb 122 61 = some (.getfield 94, 3) := by decide +kernel
theorem q_122_64 : p_tb 122 64 = some (.iload_n 2, 1) := by decide +kernel
theorem q_122_65 : p_tb 122 65 = some (.invokevirtual 300, 3) := by decide +kernel
theorem q_122_68 : p_tb 122 68 = some (.iload_n 2, 1) := by decide +kernel
theorem q_122_69 : p_tb 122 69 = some (.ireturn, 1) := by decide +kernel
theorem t_fN_122_101 : p_f2 p_fN (p_mK 122) 101 = some (9, 1) := by decide +kernel
theorem t_fN_122_230 : p_f2 p_fN (p_mK 122) 230 = some (5, 0) := by decide +kernel
theorem t_fN_122_94 : p_f2 p_fN (p_mK 122) 94 = some (9, 0) := by decide +kernel
theorem t_ft_122_19 : p_f2 p_ft (p_mK 122) 19 = some (10, 1) := by decide +kernel
theorem t_ft_122_34 : p_f2 p_ft (p_mK 122) 34 = some (10, 4) := by decide +kernel
theorem t_mj_122_295 : p_f2 p_mj (p_mK 122) 295 = some 1 := by decide +kernel
theorem t_mv_122_147 : p_f2 p_mv (p_mK 122) 147 = some 13 := by decide +kernel
theorem t_mv_122_300 : p_f2 p_mv (p_mK 122) 300 = some 57 := by decide +kernel
theorem q_123_0 : p_tb 123 0 = some (.iload_n 1, 1) := by decide +kernel
theorem q_123_1 : p_tb 123 1 = some (.iconst 1, 1) := by decide +kernel
theorem q_123_2 : p_tb 123 2 = some (.if_icmp .lt 22, 3) := by decide +kernel
theorem q_123_5 : p_tb 123 5 = some (.iload_n 1, 1) := by decide +kernel
theorem q_123_6 : p_tb 123 6 = some (.bipush 60, 2) := by decide +kernel
theorem q_123_8 : p_tb 123 8 = some (.if_icmp .gt 16, 3) := by decide +kernel
theorem q_123_11 : p_tb 123 11 = some (.aload_n 0, 1) := by decide +kernel
theorem q_123_12 : p_tb 123 12 = some (.getfield 19, 3) := by decide +kernel
theorem q_123_15 : p_tb 123 15 = some (.getfield 94, 3) := by decide +kernel
theorem q_123_18 : p_tb 123 18 = some (.getfield 136, 3) := by decide +kernel
theorem q_123_21 : p_tb 123 21 = some (.ifCond .ne 5, 3) := by decide +kernel
theorem q_123_24 : p_tb 123 24 = some (.iconst (-1), 1) := by decide +kernel
theorem q_123_25 : p_tb 123 25 = some (.ireturn, 1) := by decide +kernel
theorem q_123_26 : p_tb 123 26 = some (.iload_n 1, 1) := by decide +kernel
theorem q_123_27 : p_tb 123 27 = some (.sipush 600, 3) := by decide +kernel
theorem q_123_30 : p_tb 123 30 = some (.aload_n 0, 1) := by decide +kernel
theorem q_123_31 : p_tb 123 31 = some (.getfield 19, 3) := by decide +kernel
theorem q_123_34 : p_tb 123 34 = some (.getfield 101, 3) := by decide +kernel
theorem q_123_37 : p_tb 123 37 = some (.getfield 230, 3) := by decide +kernel
theorem q_123_40 : p_tb 123 40 = some (.isub, 1) := by decide +kernel
theorem q_123_41 : p_tb 123 41 = some (.invokestatic 295, 3) := by decide +kernel
theorem q_123_44 : p_tb 123 44 = some (.istore_n 3, 1) := by decide +kernel
theorem q_123_45 : p_tb 123 45 = some (.iload_n 3, 1) := by decide +kernel
theorem q_123_46 : p_tb 123 46 = some (.ifCond .le 36, 3) := by decide +kernel
theorem q_123_49 : p_tb 123 49 = some (.aload_n 0, 1) := by decide +kernel
theorem q_123_50 : p_tb 123 50 = some (.getfield 34, 3) := by decide +kernel
theorem q_123_53 : p_tb 123 53 = some (.aload_n 0, 1) := by decide +kernel
theorem q_123_54 : p_tb 123 54 = some (.getfield 19, 3) := by decide +kernel
theorem q_123_57 : p_tb 123 57 = some (.getfield 101, 3) := by decide +kernel
theorem q_123_60 : p_tb 123 60 = some (.invokevirtual 147, 3) := by decide +kernel
theorem q_123_63 : p_tb 123 63 = some (.aload_n 0, 1) := by decide +kernel
theorem q_123_64 : p_tb 123 64 = some (.getfield 19, 3) := by decide +kernel
theorem q_123_67 : p_tb 123 67 = some (.getfield 101, 3) := by decide +kernel
theorem q_123_70 : p_tb 123 70 = some (.aload_n 0, 1) := by decide +kernel
theorem q_123_71 : p_tb 123 71 = some (.getfield 19, 3) := by decide +kernel
theorem q_123_74 : p_tb 123 74 = some (.getfield 94, 3) := by decide +kernel
theorem q_123_77 : p_tb 123 77 = some (.iload_n 3, 1) := by decide +kernel
theorem q_123_78 : p_tb 123 78 = some (.iload_n 2, 1) := by decide +kernel
theorem q_123_79 : p_tb 123 79 = some (.invokevirtual 304, 3) := by decide +kernel
theorem q_123_82 : p_tb 123 82 = some (.iload_n 3, 1) := by decide +kernel
theorem q_123_83 : p_tb 123 83 = some (.ireturn, 1) := by decide +kernel
theorem t_fN_123_101 : p_f2 p_fN (p_mK 123) 101 = some (9, 1) := by decide +kernel
theorem t_fN_123_136 : p_f2 p_fN (p_mK 123) 136 = some (3, 6) := by decide +kernel
theorem t_fN_123_230 : p_f2 p_fN (p_mK 123) 230 = some (5, 0) := by decide +kernel
theorem t_fN_123_94 : p_f2 p_fN (p_mK 123) 94 = some (9, 0) := by decide +kernel
theorem t_ft_123_19 : p_f2 p_ft (p_mK 123) 19 = some (10, 1) := by decide +kernel
theorem t_ft_123_34 : p_f2 p_ft (p_mK 123) 34 = some (10, 4) := by decide +kernel
theorem t_mj_123_295 : p_f2 p_mj (p_mK 123) 295 = some 1 := by decide +kernel
theorem t_mv_123_147 : p_f2 p_mv (p_mK 123) 147 = some 13 := by decide +kernel
theorem t_mv_123_304 : p_f2 p_mv (p_mK 123) 304 = some 58 := by decide +kernel
theorem q_124_0 : p_tb 124 0 = some (.aload_n 0, 1) := by decide +kernel
theorem q_124_1 : p_tb 124 1 = some (.getfield 34, 3) := by decide +kernel
theorem q_124_4 : p_tb 124 4 = some (.getfield 308, 3) := by decide +kernel
theorem q_124_7 : p_tb 124 7 = some (.ifCond .ne 5, 3) := by decide +kernel
theorem q_124_10 : p_tb 124 10 = some (.iconst (-1), 1) := by decide +kernel
theorem q_124_11 : p_tb 124 11 = some (.ireturn, 1) := by decide +kernel
theorem q_124_12 : p_tb 124 12 = some (.aload_n 0, 1) := by decide +kernel
theorem q_124_13 : p_tb 124 13 = some (.getfield 34, 3) := by decide +kernel
theorem q_124_16 : p_tb 124 16 = some (.aload_n 0, 1) := by decide +kernel
theorem q_124_17 : p_tb 124 17 = some (.getfield 19, 3) := by decide +kernel
theorem q_124_20 : p_tb 124 20 = some (.getfield 101, 3) := by decide +kernel
theorem q_124_23 : p_tb 124 23 = some (.invokevirtual 311, 3) := by decide +kernel
theorem q_124_26 : p_tb 124 26 = some (.aload_n 0, 1) := by decide +kernel
theorem q_124_27 : p_tb 124 27 = some (.getfield 34, 3) := by decide +kernel
theorem q_124_30 : p_tb 124 30 = some (.getfield 308, 3) := by decide +kernel
theorem q_124_33 : p_tb 124 33 = some (.ireturn, 1) := by decide +kernel
theorem t_fN_124_101 : p_f2 p_fN (p_mK 124) 101 = some (9, 1) := by decide +kernel
theorem t_fN_124_308 : p_f2 p_fN (p_mK 124) 308 = some (1, 2) := by decide +kernel
theorem t_ft_124_19 : p_f2 p_ft (p_mK 124) 19 = some (10, 1) := by decide +kernel
theorem t_ft_124_34 : p_f2 p_ft (p_mK 124) 34 = some (10, 4) := by decide +kernel
theorem t_mv_124_311 : p_f2 p_mv (p_mK 124) 311 = some 14 := by decide +kernel
theorem q_125_0 : p_tb 125 0 = some (.iload_n 1, 1) := by decide +kernel
theorem q_125_1 : p_tb 125 1 = some (.ifCond .lt 8, 3) := by decide +kernel
theorem q_125_4 : p_tb 125 4 = some (.iload_n 1, 1) := by decide +kernel
theorem q_125_5 : p_tb 125 5 = some (.iconst 2, 1) := by decide +kernel
theorem q_125_6 : p_tb 125 6 = some (.if_icmp .lt 5, 3) := by decide +kernel
theorem q_125_9 : p_tb 125 9 = some (.iconst 0, 1) := by decide +kernel
theorem q_125_10 : p_tb 125 10 = some (.ireturn, 1) := by decide +kernel
theorem q_125_11 : p_tb 125 11 = some (.aload_n 0, 1) := by decide +kernel
theorem q_125_12 : p_tb 125 12 = some (.getfield 23, 3) := by decide +kernel
theorem q_125_15 : p_tb 125 15 = some (.iload_n 1, 1) := by decide +kernel
theorem q_125_16 : p_tb 125 16 = some (.aaload, 1) := by decide +kernel
theorem q_125_17 : p_tb 125 17 = some (.aload_n 0, 1) := by decide +kernel
theorem q_125_18 : p_tb 125 18 = some (.getfield 19, 3) := by decide +kernel
theorem q_125_21 : p_tb 125 21 = some (.invokevirtual 314, 3) := by decide +kernel
theorem q_125_24 : p_tb 125 24 = some (.aload_n 0, 1) := by decide +kernel
theorem q_125_25 : p_tb 125 25 = some (.getfield 27, 3) := by decide +kernel
theorem q_125_28 : p_tb 125 28 = some (.iload_n 1, 1) := by decide +kernel
theorem q_125_29 : p_tb 125 29 = some (.iconst 1, 1) := by decide +kernel
theorem q_125_30 : p_tb 125 30 = some (.bastore, 1) := by decide +kernel
theorem q_125_31 : p_tb 125 31 = some (.iconst 1, 1) := by decide +kernel
theorem q_125_32 : p_tb 125 32 = some (.ireturn, 1) := by decide +kernel
theorem t_ft_125_19 : p_f2 p_ft (p_mK 125) 19 = some (10, 1) := by decide +kernel
theorem t_ft_125_23 : p_f2 p_ft (p_mK 125) 23 = some (10, 2) := by decide +kernel
theorem t_ft_125_27 : p_f2 p_ft (p_mK 125) 27 = some (10, 3) := by decide +kernel
theorem t_mv_125_314 : p_f2 p_mv (p_mK 125) 314 = some 98 := by decide +kernel
theorem gC_20_0_1 : gC 20 0 1 0 1 := gC.of (by decide +kernel)
theorem q_126_0 : p_tb 126 0 = some (.iload_n 1, 1) := by decide +kernel
theorem q_126_1 : p_tb 126 1 = some (.ifCond .lt 17, 3) := by decide +kernel
theorem q_126_4 : p_tb 126 4 = some (.iload_n 1, 1) := by decide +kernel
theorem q_126_5 : p_tb 126 5 = some (.iconst 2, 1) := by decide +kernel
theorem q_126_6 : p_tb 126 6 = some (.if_icmp .ge 12, 3) := by decide +kernel
theorem q_126_9 : p_tb 126 9 = some (.aload_n 0, 1) := by decide +kernel
theorem q_126_10 : p_tb 126 10 = some (.getfield 27, 3) := by decide +kernel
theorem q_126_13 : p_tb 126 13 = some (.iload_n 1, 1) := by decide +kernel
theorem q_126_14 : p_tb 126 14 = some (.baload, 1) := by decide +kernel
theorem q_126_15 : p_tb 126 15 = some (.ifCond .ne 5, 3) := by decide +kernel
theorem q_126_18 : p_tb 126 18 = some (.iconst 0, 1) := by decide +kernel
theorem q_126_19 : p_tb 126 19 = some (.ireturn, 1) := by decide +kernel
theorem q_126_20 : p_tb 126 20 = some (.aload_n 0, 1) := by decide +kernel
theorem q_126_21 : p_tb 126 21 = some (.getfield 19, 3) := by decide +kernel
theorem q_126_24 : p_tb 126 24 = some (.aload_n 0, 1) := by decide +kernel
theorem q_126_25 : p_tb 126 25 = some (.getfield 23, 3) := by decide +kernel
theorem q_126_28 : p_tb 126 28 = some (.iload_n 1, 1) := by decide +kernel
theorem q_126_29 : p_tb 126 29 = some (.aaload, 1) := by decide +kernel
theorem q_126_30 : p_tb 126 30 = some (.invokevirtual 314, 3) := by decide +kernel
theorem q_126_33 : p_tb 126 33 = some (.aload_n 0, 1) := by decide +kernel
theorem q_126_34 : p_tb 126 34 = some (.getfield 34, 3) := by decide +kernel
theorem q_126_37 : p_tb 126 37 = some (.invokevirtual 113, 3) := by decide +kernel
theorem q_126_40 : p_tb 126 40 = some (.iconst 1, 1) := by decide +kernel
theorem q_126_41 : p_tb 126 41 = some (.ireturn, 1) := by decide +kernel
theorem t_ft_126_19 : p_f2 p_ft (p_mK 126) 19 = some (10, 1) := by decide +kernel
theorem t_ft_126_23 : p_f2 p_ft (p_mK 126) 23 = some (10, 2) := by decide +kernel
theorem t_ft_126_27 : p_f2 p_ft (p_mK 126) 27 = some (10, 3) := by decide +kernel
theorem t_ft_126_34 : p_f2 p_ft (p_mK 126) 34 = some (10, 4) := by decide +kernel
theorem t_mv_126_113 : p_f2 p_mv (p_mK 126) 113 = some 12 := by decide +kernel
theorem t_mv_126_314 : p_f2 p_mv (p_mK 126) 314 = some 98 := by decide +kernel
theorem gB_20_0_1 : gB 20 0 1 0 1 := gB.of (by decide +kernel)
theorem q_127_0 : p_tb 127 0 = some (.aload_n 0, 1) := by decide +kernel
theorem q_127_1 : p_tb 127 1 = some (.iload_n 1, 1) := by decide +kernel
theorem q_127_2 : p_tb 127 2 = some (.invokevirtual 169, 3) := by decide +kernel
theorem q_127_5 : p_tb 127 5 = some (.ifCond .eq 16, 3) := by decide +kernel
theorem q_127_8 : p_tb 127 8 = some (.aload_n 0, 1) := by decide +kernel
theorem q_127_9 : p_tb 127 9 = some (.iload_n 2, 1) := by decide +kernel
theorem q_127_10 : p_tb 127 10 = some (.invokevirtual 169, 3) := by decide +kernel
theorem q_127_13 : p_tb 127 13 = some (.ifCond .eq 8, 3) := by decide +kernel
theorem q_127_16 : p_tb 127 16 = some (.iload_n 1, 1) := by decide +kernel
theorem q_127_17 : p_tb 127 17 = some (.iload_n 2, 1) := by decide +kernel
theorem q_127_18 : p_tb 127 18 = some (.if_icmp .ne 5, 3) := by decide +kernel
theorem q_127_21 : p_tb 127 21 = some (.iconst (-1), 1) := by decide +kernel
theorem q_127_22 : p_tb 127 22 = some (.ireturn, 1) := by decide +kernel
theorem q_127_23 : p_tb 127 23 = some (.aload_n 0, 1) := by decide +kernel
theorem q_127_24 : p_tb 127 24 = some (.invokevirtual 140, 3) := by decide +kernel
theorem q_127_27 : p_tb 127 27 = some (.astore_n 3, 1) := by decide +kernel
theorem q_127_28 : p_tb 127 28 = some (.iconst 0, 1) := by decide +kernel
theorem q_127_29 : p_tb 127 29 = some (.istore 4, 2) := by decide +kernel
theorem q_127_31 : p_tb 127 31 = some (.iload 4, 2) := by decide +kernel
theorem q_127_33 : p_tb 127 33 = some (.sipush 300, 3) := by decide +kernel
theorem q_127_36 : p_tb 127 36 = some (.if_icmp .gt 49, 3) := by decide +kernel
theorem q_127_39 : p_tb 127 39 = some (.aload_n 3, 1) := by decide +kernel
theorem q_127_40 : p_tb 127 40 = some (.iload_n 1, 1) := by decide +kernel
theorem q_127_41 : p_tb 127 41 = some (.iload_n 2, 1) := by decide +kernel
theorem q_127_42 : p_tb 127 42 = some (.invokevirtual 260, 3) := by decide +kernel
theorem q_127_45 : p_tb 127 45 = some (.aload_n 0, 1) := by decide +kernel
theorem q_127_46 : p_tb 127 46 = some (.getfield 19, 3) := by decide +kernel
theorem q_127_49 : p_tb 127 49 = some (.getfield 94, 3) := by decide +kernel
theorem q_127_52 : p_tb 127 52 = some (.getfield 254, 3) := by decide +kernel
theorem q_127_55 : p_tb 127 55 = some (.if_icmp .gt 8, 3) := by decide +kernel
theorem q_127_58 : p_tb 127 58 = some (.aload_n 3, 1) := by decide +kernel
theorem q_127_59 : p_tb 127 59 = some (.getfield 230, 3) := by decide +kernel
theorem q_127_62 : p_tb 127 62 = some (.ireturn, 1) := by decide +kernel
theorem q_127_63 : p_tb 127 63 = some (.aload_n 3, 1) := by decide +kernel
theorem q_127_64 : p_tb 127 64 = some (.aload_n 0, 1) := by decide +kernel
theorem q_127_65 : p_tb 127 65 = some (.getfield 19, 3) := by decide +kernel
theorem q_127_68 : p_tb 127 68 = some (.getfield 94, 3) := by decide +kernel
theorem q_127_71 : p_tb 127 71 = some (.invokevirtual 317, 3) := by decide +kernel
theorem q_127_74 : p_tb 127 74 = some (.ifCond .ne 5, 3) := by decide +kernel
theorem q_127_77 : p_tb 127 77 = some (.iconst (-1), 1) := by decide +kernel
theorem q_127_78 : p_tb 127 78 = some (.ireturn, 1) := by decide +kernel
theorem q_127_79 : p_tb 127 79 = some (.iinc 4 1, 3) := by decide +kernel
theorem q_127_82 : p_tb 127 82 = some (.goto (-51), 3) := by decide +kernel
theorem q_127_85 : p_tb 127 85 = some (.iconst (-1), 1) := by decide +kernel
theorem q_127_86 : p_tb 127 86 = some (.ireturn, 1) := by decide +kernel
theorem t_fN_127_230 : p_f2 p_fN (p_mK 127) 230 = some (5, 0) := by decide +kernel
theorem t_fN_127_254 : p_f2 p_fN (p_mK 127) 254 = some (3, 2) := by decide +kernel
theorem t_fN_127_94 : p_f2 p_fN (p_mK 127) 94 = some (9, 0) := by decide +kernel
theorem t_ft_127_19 : p_f2 p_ft (p_mK 127) 19 = some (10, 1) := by decide +kernel
theorem t_mv_127_140 : p_f2 p_mv (p_mK 127) 140 = some 146 := by decide +kernel
theorem t_mv_127_169 : p_f2 p_mv (p_mK 127) 169 = some 143 := by decide +kernel
theorem t_mv_127_260 : p_f2 p_mv (p_mK 127) 260 = some 49 := by decide +kernel
theorem t_mv_127_317 : p_f2 p_mv (p_mK 127) 317 = some 56 := by decide +kernel
theorem q_128_0 : p_tb 128 0 = some (.aload_n 0, 1) := by decide +kernel
theorem q_128_1 : p_tb 128 1 = some (.iload_n 1, 1) := by decide +kernel
theorem q_128_2 : p_tb 128 2 = some (.invokevirtual 203, 3) := by decide +kernel
theorem q_128_5 : p_tb 128 5 = some (.ifCond .eq 14, 3) := by decide +kernel
theorem q_128_8 : p_tb 128 8 = some (.iload_n 2, 1) := by decide +kernel
theorem q_128_9 : p_tb 128 9 = some (.iconst 1, 1) := by decide +kernel
theorem q_128_10 : p_tb 128 10 = some (.if_icmp .lt 9, 3) := by decide +kernel
theorem q_128_13 : p_tb 128 13 = some (.iload_n 2, 1) := by decide +kernel
theorem q_128_14 : p_tb 128 14 = some (.bipush 60, 2) := by decide +kernel
theorem q_128_16 : p_tb 128 16 = some (.if_icmp .le 5, 3) := by decide +kernel
theorem q_128_19 : p_tb 128 19 = some (.iconst (-1), 1) := by decide +kernel
theorem q_128_20 : p_tb 128 20 = some (.ireturn, 1) := by decide +kernel
theorem q_128_21 : p_tb 128 21 = some (.aload_n 0, 1) := by decide +kernel
theorem q_128_22 : p_tb 128 22 = some (.invokevirtual 140, 3) := by decide +kernel
theorem q_128_25 : p_tb 128 25 = some (.astore_n 3, 1) := by decide +kernel
theorem q_128_26 : p_tb 128 26 = some (.aload_n 3, 1) := by decide +kernel
theorem q_128_27 : p_tb 128 27 = some (.aload_n 0, 1) := by decide +kernel
theorem q_128_28 : p_tb 128 28 = some (.getfield 19, 3) := by decide +kernel
theorem q_128_31 : p_tb 128 31 = some (.getfield 94, 3) := by decide +kernel
theorem q_128_34 : p_tb 128 34 = some (.iload_n 2, 1) := by decide +kernel
theorem q_128_35 : p_tb 128 35 = some (.invokevirtual 300, 3) := by decide +kernel
theorem q_128_38 : p_tb 128 38 = some (.aload_n 3, 1) := by decide +kernel
theorem q_128_39 : p_tb 128 39 = some (.getfield 206, 3) := by decide +kernel
theorem q_128_42 : p_tb 128 42 = some (.iload_n 1, 1) := by decide +kernel
theorem q_128_43 : p_tb 128 43 = some (.aaload, 1) := by decide +kernel
theorem q_128_44 : p_tb 128 44 = some (.getfield 215, 3) := by decide +kernel
theorem q_128_47 : p_tb 128 47 = some (.aload_n 0, 1) := by decide +kernel
theorem q_128_48 : p_tb 128 48 = some (.getfield 19, 3) := by decide +kernel
theorem q_128_51 : p_tb 128 51 = some (.getfield 101, 3) := by decide +kernel
theorem q_128_54 : p_tb 128 54 = some (.getfield 206, 3) := by decide +kernel
theorem q_128_57 : p_tb 128 57 = some (.iload_n 1, 1) := by decide +kernel
theorem q_128_58 : p_tb 128 58 = some (.aaload, 1) := by decide +kernel
theorem q_128_59 : p_tb 128 59 = some (.getfield 215, 3) := by decide +kernel
theorem q_128_62 : p_tb 128 62 = some (.isub, 1) := by decide +kernel
theorem q_128_63 : p_tb 128 63 = some (.ireturn, 1) := by decide +kernel
theorem t_fN_128_101 : p_f2 p_fN (p_mK 128) 101 = some (9, 1) := by decide +kernel
theorem t_fN_128_206 : p_f2 p_fN (p_mK 128) 206 = some (5, 4) := by decide +kernel
theorem t_fN_128_215 : p_f2 p_fN (p_mK 128) 215 = some (0, 2) := by decide +kernel
theorem t_fN_128_94 : p_f2 p_fN (p_mK 128) 94 = some (9, 0) := by decide +kernel
theorem t_ft_128_19 : p_f2 p_ft (p_mK 128) 19 = some (10, 1) := by decide +kernel
theorem t_mv_128_140 : p_f2 p_mv (p_mK 128) 140 = some 146 := by decide +kernel
theorem t_mv_128_203 : p_f2 p_mv (p_mK 128) 203 = some 144 := by decide +kernel
theorem t_mv_128_300 : p_f2 p_mv (p_mK 128) 300 = some 57 := by decide +kernel
theorem q_129_0 : p_tb 129 0 = some (.aload_n 0, 1) := by decide +kernel
theorem q_129_1 : p_tb 129 1 = some (.iload_n 1, 1) := by decide +kernel
theorem q_129_2 : p_tb 129 2 = some (.invokevirtual 203, 3) := by decide +kernel
theorem q_129_5 : p_tb 129 5 = some (.ifCond .eq 14, 3) := by decide +kernel
theorem q_129_8 : p_tb 129 8 = some (.iload_n 2, 1) := by decide +kernel
theorem q_129_9 : p_tb 129 9 = some (.iconst 1, 1) := by decide +kernel
theorem q_129_10 : p_tb 129 10 = some (.if_icmp .lt 9, 3) := by decide +kernel
theorem q_129_13 : p_tb 129 13 = some (.iload_n 2, 1) := by decide +kernel
theorem q_129_14 : p_tb 129 14 = some (.bipush 60, 2) := by decide +kernel
theorem q_129_16 : p_tb 129 16 = some (.if_icmp .le 5, 3) := by decide +kernel
theorem q_129_19 : p_tb 129 19 = some (.iconst (-1), 1) := by decide +kernel
theorem q_129_20 : p_tb 129 20 = some (.ireturn, 1) := by decide +kernel
theorem q_129_21 : p_tb 129 21 = some (.aload_n 0, 1) := by decide +kernel
theorem q_129_22 : p_tb 129 22 = some (.invokevirtual 140, 3) := by decide +kernel
theorem q_129_25 : p_tb 129 25 = some (.astore_n 3, 1) := by decide +kernel
theorem q_129_26 : p_tb 129 26 = some (.aload_n 3, 1) := by decide +kernel
theorem q_129_27 : p_tb 129 27 = some (.aload_n 0, 1) := by decide +kernel
theorem q_129_28 : p_tb 129 28 = some (.getfield 19, 3) := by decide +kernel
theorem q_129_31 : p_tb 129 31 = some (.getfield 94, 3) := by decide +kernel
theorem q_129_34 : p_tb 129 34 = some (.iload_n 2, 1) := by decide +kernel
theorem q_129_35 : p_tb 129 35 = some (.invokevirtual 300, 3) := by decide +kernel
theorem q_129_38 : p_tb 129 38 = some (.aload_n 3, 1) := by decide +kernel
theorem q_129_39 : p_tb 129 39 = some (.getfield 206, 3) := by decide +kernel
theorem q_129_42 : p_tb 129 42 = some (.iload_n 1, 1) := by decide +kernel
theorem q_129_43 : p_tb 129 43 = some (.aaload, 1) := by decide +kernel
theorem q_129_44 : p_tb 129 44 = some (.getfield 218, 3) := by decide +kernel
theorem q_129_47 : p_tb 129 47 = some (.aload_n 0, 1) := by decide +kernel
theorem q_129_48 : p_tb 129 48 = some (.getfield 19, 3) := by decide +kernel
theorem q_129_51 : p_tb 129 51 = some (.getfield 101, 3) := by decide +kernel
theorem q_129_54 : p_tb 129 54 = some (.getfield 206, 3) := by decide +kernel
theorem q_129_57 : p_tb 129 57 = some (.iload_n 1, 1) := by decide +kernel
theorem q_129_58 : p_tb 129 58 = some (.aaload, 1) := by decide +kernel
theorem q_129_59 : p_tb 129 59 = some (.getfield 218, 3) := by decide +kernel
theorem q_129_62 : p_tb 129 62 = some (.isub, 1) := by decide +kernel
theorem q_129_63 : p_tb 129 63 = some (.ireturn, 1) := by decide +kernel
theorem t_fN_129_101 : p_f2 p_fN (p_mK 129) 101 = some (9, 1) := by decide +kernel
theorem t_fN_129_206 : p_f2 p_fN (p_mK 129) 206 = some (5, 4) := by decide +kernel
theorem t_fN_129_218 : p_f2 p_fN (p_mK 129) 218 = some (0, 3) := by decide +kernel
theorem t_fN_129_94 : p_f2 p_fN (p_mK 129) 94 = some (9, 0) := by decide +kernel
theorem t_ft_129_19 : p_f2 p_ft (p_mK 129) 19 = some (10, 1) := by decide +kernel
theorem t_mv_129_140 : p_f2 p_mv (p_mK 129) 140 = some 146 := by decide +kernel
theorem t_mv_129_203 : p_f2 p_mv (p_mK 129) 203 = some 144 := by decide +kernel
theorem t_mv_129_300 : p_f2 p_mv (p_mK 129) 300 = some 57 := by decide +kernel
theorem q_130_0 : p_tb 130 0 = some (.aload_n 0, 1) := by decide +kernel
theorem q_130_1 : p_tb 130 1 = some (.iload_n 1, 1) := by decide +kernel
theorem q_130_2 : p_tb 130 2 = some (.invokevirtual 203, 3) := by decide +kernel
theorem q_130_5 : p_tb 130 5 = some (.ifCond .ne 5, 3) := by decide +kernel
theorem q_130_8 : p_tb 130 8 = some (.iconst (-1), 1) := by decide +kernel
theorem q_130_9 : p_tb 130 9 = some (.ireturn, 1) := by decide +kernel
theorem q_130_10 : p_tb 130 10 = some (.aload_n 0, 1) := by decide +kernel
theorem q_130_11 : p_tb 130 11 = some (.getfield 19, 3) := by decide +kernel
theorem q_130_14 : p_tb 130 14 = some (.getfield 101, 3) := by decide +kernel
theorem q_130_17 : p_tb 130 17 = some (.aload_n 0, 1) := by decide +kernel
theorem q_130_18 : p_tb 130 18 = some (.getfield 19, 3) := by decide +kernel
theorem q_130_21 : p_tb 130 21 = some (.getfield 94, 3) := by decide +kernel
theorem q_130_24 : p_tb 130 24 = some (.getfield 136, 3) := by decide +kernel
theorem q_130_27 : p_tb 130 27 = some (.aload_n 0, 1) := by decide +kernel
theorem q_130_28 : p_tb 130 28 = some (.getfield 19, 3) := by decide +kernel
theorem q_130_31 : p_tb 130 31 = some (.getfield 101, 3) := by decide +kernel
theorem q_130_34 : p_tb 130 34 = some (.getfield 206, 3) := by decide +kernel
theorem q_130_37 : p_tb 130 37 = some (.iload_n 1, 1) := by decide +kernel
theorem q_130_38 : p_tb 130 38 = some (.aaload, 1) := by decide +kernel
theorem q_130_39 : p_tb 130 39 = some (.aload_n 0, 1) := by decide +kernel
theorem q_130_40 : p_tb 130 40 = some (.getfield 19, 3) := by decide +kernel
theorem q_130_43 : p_tb 130 43 = some (.getfield 94, 3) := by decide +kernel
theorem q_130_46 : p_tb 130 46 = some (.getfield 321, 3) := by decide +kernel
theorem q_130_49 : p_tb 130 49 = some (.iload_n 1, 1) := by decide +kernel
theorem q_130_50 : p_tb 130 50 = some (.iaload, 1) := by decide +kernel
theorem q_130_51 : p_tb 130 51 = some (.invokevirtual 324, 3) := by decide +kernel
theorem q_130_54 : p_tb 130 54 = some (.ireturn, 1) := by decide +kernel
theorem t_fN_130_101 : p_f2 p_fN (p_mK 130) 101 = some (9, 1) := by decide +kernel
theorem t_fN_130_136 : p_f2 p_fN (p_mK 130) 136 = some (3, 6) := by decide +kernel
theorem t_fN_130_206 : p_f2 p_fN (p_mK 130) 206 = some (5, 4) := by decide +kernel
theorem t_fN_130_321 : p_f2 p_fN (p_mK 130) 321 = some (3, 16) := by decide +kernel
theorem t_fN_130_94 : p_f2 p_fN (p_mK 130) 94 = some (9, 0) := by decide +kernel
theorem t_ft_130_19 : p_f2 p_ft (p_mK 130) 19 = some (10, 1) := by decide +kernel
theorem t_mv_130_203 : p_f2 p_mv (p_mK 130) 203 = some 144 := by decide +kernel
theorem t_mv_130_324 : p_f2 p_mv (p_mK 130) 324 = some 61 := by decide +kernel
theorem q_131_0 : p_tb 131 0 = some (.aload_n 0, 1) := by decide +kernel
theorem q_131_1 : p_tb 131 1 = some (.invokevirtual 140, 3) := by decide +kernel
theorem q_131_4 : p_tb 131 4 = some (.astore_n 1, 1) := by decide +kernel
theorem q_131_5 : p_tb 131 5 = some (.iconst 0, 1) := by decide +kernel
theorem q_131_6 : p_tb 131 6 = some (.istore_n 2, 1) := by decide +kernel
theorem q_131_7 : p_tb 131 7 = some (.iload_n 2, 1) := by decide +kernel
theorem q_131_8 : p_tb 131 8 = some (.sipush 200, 3) := by decide +kernel
theorem q_131_11 : p_tb 131 11 = some (.if_icmp .ge 39, 3) := by decide +kernel
theorem q_131_14 : p_tb 131 14 = some (.aload_n 1, 1) := by decide +kernel
theorem q_131_15 : p_tb 131 15 = some (.aload_n 0, 1) := by decide +kernel
theorem q_131_16 : p_tb 131 16 = some (.getfield 19, 3) := by decide +kernel
theorem q_131_19 : p_tb 131 19 = some (.getfield 94, 3) := by decide +kernel
theorem q_131_22 : p_tb 131 22 = some (.invokevirtual 317, 3) := by decide +kernel
theorem q_131_25 : p_tb 131 25 = some (.ifCond .ne 5, 3) := by decide +kernel
theorem q_131_28 : p_tb 131 28 = some (.iconst (-1), 1) := by decide +kernel
theorem q_131_29 : p_tb 131 29 = some (.ireturn, 1) := by decide +kernel
theorem q_131_30 : p_tb 131 30 = some (.aload_n 1, 1) := by decide +kernel
theorem q_131_31 : p_tb 131 31 = some (.invokevirtual 239, 3) := by decide +kernel
theorem q_131_34 : p_tb 131 34 = some (.ifCond .eq 10, 3) := by decide +kernel
theorem q_131_37 : p_tb 131 37 = some (.aload_n 1, 1) := by decide +kernel
theorem q_131_38 : p_tb 131 38 = some (.getfield 230, 3) := by decide +kernel
theorem q_131_41 : p_tb 131 41 = some (.iconst 1, 1) := by decide +kernel
theorem q_131_42 : p_tb 131 42 = some (.isub, 1) := by decide +kernel
theorem q_131_43 : p_tb 131 43 = some (.ireturn, 1) := by decide +kernel
theorem q_131_44 : p_tb 131 44 = some (.iinc 2 1, 3) := by decide +kernel
theorem q_131_47 : p_tb 131 47 = some (.goto (-40), 3) := by decide +kernel
theorem q_131_50 : p_tb 131 50 = some (.iconst (-1), 1) := by decide +kernel
theorem q_131_51 : p_tb 131 51 = some (.ireturn, 1) := by decide +kernel
theorem t_fN_131_230 : p_f2 p_fN (p_mK 131) 230 = some (5, 0) := by decide +kernel
theorem t_fN_131_94 : p_f2 p_fN (p_mK 131) 94 = some (9, 0) := by decide +kernel
theorem t_ft_131_19 : p_f2 p_ft (p_mK 131) 19 = some (10, 1) := by decide +kernel
theorem t_mv_131_140 : p_f2 p_mv (p_mK 131) 140 = some 146 := by decide +kernel
theorem t_mv_131_239 : p_f2 p_mv (p_mK 131) 239 = some 50 := by decide +kernel
theorem t_mv_131_317 : p_f2 p_mv (p_mK 131) 317 = some 56 := by decide +kernel
theorem c_X11_seconds (G : pG) (Kr : pK) (M : pM) (I : Iv gTT M) (a1 : Int32) (hK : ∀ (x : Int32) (M1 : pM), Iv gTT M1 → Fr [5, 7, 9, 10, 11, 12, 13, 21] M M1 → Kr.1 (some (.int x)) 311 M1) : PW G false 6 122 (p_mc 122) (p_msl 122) Kr 0 (lv_args 0 [.ref 0, .int a1]) [] 311 M 0 0 := by
  have F : Fr [5, 7, 9, 10, 11, 12, 13, 21] M M := Fr.refl
  refine PW.iload_n q_122_0 rfl ?_
  refine PW.cI q_122_1 (by decide) fun c1 hc1 => ?_
  refine PW.jc_lt q_122_2 rfl (fun h2 => ?_) (fun h2 => ?_)
  · skip
    refine PW.cI q_122_11 (by decide) fun c3 hc3 => ?_
    refine PW.rI q_122_12 rfl (by decide) (by decide) ?_
    exact hK c3 M I F
  · skip
    refine PW.iload_n q_122_5 rfl ?_
    refine PW.cB q_122_6 (by decide) fun c4 hc4 => ?_
    refine PW.jc_le q_122_8 rfl (fun h5 => ?_) (fun h5 => ?_)
    · skip
      refine PW.iload_n q_122_13 rfl ?_
      refine PW.cS q_122_14 (by decide) fun c6 hc6 => ?_
      refine PW.aload_n q_122_17 rfl ?_
      refine PW.gR 3 q_122_18 (Or.inl t_ft_122_19) gF_0_1 kd_0 I.1 (by decide) rfl ?_
      refine PW.gR 15 q_122_21 (Or.inr t_fN_122_101) gF_3_1 kd_3 I.1 (by decide) rfl ?_
      refine PW.gI q_122_24 (Or.inr t_fN_122_230) gF_5_0 kd_15 I.1 (by decide) fun x7 fx7 hx7 kx7 => ?_
      refine PW.subN q_122_27 (by omega) (by omega) fun x8 hx8 => ?_
      refine PW.minN q_122_28 t_mj_122_295 (by decide) (Nat.le_of_ble_eq_true rfl) (by decide) (by decide) fun x9 hx9 kx9 lx9 => ?_
      refine PW.istore_n q_122_31 (by decide) ?_
      refine PW.iload_n q_122_32 rfl ?_
      refine PW.jz_le q_122_33 rfl (fun h10 => ?_) (fun h10 => ?_)
      · skip
        refine PW.iload_n q_122_68 rfl ?_
        refine PW.rI q_122_69 rfl (by decide) (by decide) ?_
        exact hK x9 M I F
      · skip
        refine PW.aload_n q_122_36 rfl ?_
        refine PW.gR 110 q_122_37 (Or.inl t_ft_122_34) gF_0_4 kd_0 I.1 (by decide) rfl ?_
        refine PW.aload_n q_122_40 rfl ?_
        refine PW.gR 3 q_122_41 (Or.inl t_ft_122_19) gF_0_1 kd_0 I.1 (by decide) rfl ?_
        refine PW.gR 15 q_122_44 (Or.inr t_fN_122_101) gF_3_1 kd_3 I.1 (by decide) rfl ?_
        refine PW.cV (as := [_]) (rest := []) q_122_47 t_mv_122_147 kd_110 I.1 (by decide) rfl (by decide) rfl rfl (Nat.le_of_ble_eq_true rfl) (Nat.le_of_ble_eq_true rfl) (by decide) (by decide) ?_
        refine PW.up (by decide) (c_X1_keep G _ M I 15 kd_15 fun M11 IM11 GM11 => ?_)
        have FM11 := Fr.trans F GM11 (rfl)
        refine PW.aload_n q_122_50 rfl ?_
        refine PW.gR 3 q_122_51 (Or.inl t_ft_122_19) gF_0_1 kd_0 IM11.1 (by decide) rfl ?_
        refine PW.gR 15 q_122_54 (Or.inr t_fN_122_101) gF_3_1 kd_3 IM11.1 (by decide) rfl ?_
        refine PW.aload_n q_122_57 rfl ?_
        refine PW.gR 3 q_122_58 (Or.inl t_ft_122_19) gF_0_1 kd_0 IM11.1 (by decide) rfl ?_
        refine PW.gR 4 q_122_61 (Or.inr t_fN_122_94) gF_3_0 kd_3 IM11.1 (by decide) rfl ?_
        refine PW.iload_n q_122_64 rfl ?_
        refine PW.cV (as := [_, _]) (rest := []) q_122_65 t_mv_122_300 kd_15 IM11.1 (by decide) rfl (by decide) rfl rfl (Nat.le_of_ble_eq_true rfl) (Nat.le_of_ble_eq_true rfl) (by decide) (by decide) ?_
        refine PW.up (by decide) (c_X5_passMany G _ M11 IM11 15 kd_15 4 kd_4 x9 (by omega) fun M12 IM12 GM12 => ?_)
        have FM12 := Fr.trans FM11 GM12 (rfl)
        refine PW.iload_n q_122_68 rfl ?_
        refine PW.rI q_122_69 rfl (by decide) (by decide) ?_
        exact hK x9 M12 IM12 FM12
    · skip
      refine PW.cI q_122_11 (by decide) fun c13 hc13 => ?_
      refine PW.rI q_122_12 rfl (by decide) (by decide) ?_
      exact hK c13 M I F
theorem c_X11_drawn (G : pG) (Kr : pK) (M : pM) (I : Iv gTT M) (a1 : Int32) (a2 : Int32) (hK : ∀ (x : Int32) (M1 : pM), Iv gTT M1 → Fr [5, 7, 9, 10, 11, 12, 13, 21] M M1 → Kr.1 (some (.int x)) 311 M1) : PW G false 6 123 (p_mc 123) (p_msl 123) Kr 0 (lv_args 0 [.ref 0, .int a1, .int a2]) [] 311 M 0 0 := by
  have F : Fr [5, 7, 9, 10, 11, 12, 13, 21] M M := Fr.refl
  refine PW.iload_n q_123_0 rfl ?_
  refine PW.cI q_123_1 (by decide) fun c1 hc1 => ?_
  refine PW.jc_lt q_123_2 rfl (fun h2 => ?_) (fun h2 => ?_)
  · skip
    refine PW.cI q_123_24 (by decide) fun c3 hc3 => ?_
    refine PW.rI q_123_25 rfl (by decide) (by decide) ?_
    exact hK c3 M I F
  · skip
    refine PW.iload_n q_123_5 rfl ?_
    refine PW.cB q_123_6 (by decide) fun c4 hc4 => ?_
    refine PW.jc_gt q_123_8 rfl (fun h5 => ?_) (fun h5 => ?_)
    · skip
      refine PW.cI q_123_24 (by decide) fun c6 hc6 => ?_
      refine PW.rI q_123_25 rfl (by decide) (by decide) ?_
      exact hK c6 M I F
    · skip
      refine PW.aload_n q_123_11 rfl ?_
      refine PW.gR 3 q_123_12 (Or.inl t_ft_123_19) gF_0_1 kd_0 I.1 (by decide) rfl ?_
      refine PW.gR 4 q_123_15 (Or.inr t_fN_123_94) gF_3_0 kd_3 I.1 (by decide) rfl ?_
      refine PW.gI q_123_18 (Or.inr t_fN_123_136) gF_4_6 kd_4 I.1 (by decide) fun x7 fx7 hx7 kx7 => ?_
      refine PW.jz_ne q_123_21 rfl (fun h8 => ?_) (fun h8 => ?_)
      · skip
        refine PW.iload_n q_123_26 rfl ?_
        refine PW.cS q_123_27 (by decide) fun c9 hc9 => ?_
        refine PW.aload_n q_123_30 rfl ?_
        refine PW.gR 3 q_123_31 (Or.inl t_ft_123_19) gF_0_1 kd_0 I.1 (by decide) rfl ?_
        refine PW.gR 15 q_123_34 (Or.inr t_fN_123_101) gF_3_1 kd_3 I.1 (by decide) rfl ?_
        refine PW.gI q_123_37 (Or.inr t_fN_123_230) gF_5_0 kd_15 I.1 (by decide) fun x10 fx10 hx10 kx10 => ?_
        refine PW.subN q_123_40 (by omega) (by omega) fun x11 hx11 => ?_
        refine PW.minN q_123_41 t_mj_123_295 (by decide) (Nat.le_of_ble_eq_true rfl) (by decide) (by decide) fun x12 hx12 kx12 lx12 => ?_
        refine PW.istore_n q_123_44 (by decide) ?_
        refine PW.iload_n q_123_45 rfl ?_
        refine PW.jz_le q_123_46 rfl (fun h13 => ?_) (fun h13 => ?_)
        · skip
          refine PW.iload_n q_123_82 rfl ?_
          refine PW.rI q_123_83 rfl (by decide) (by decide) ?_
          exact hK x12 M I F
        · skip
          refine PW.aload_n q_123_49 rfl ?_
          refine PW.gR 110 q_123_50 (Or.inl t_ft_123_34) gF_0_4 kd_0 I.1 (by decide) rfl ?_
          refine PW.aload_n q_123_53 rfl ?_
          refine PW.gR 3 q_123_54 (Or.inl t_ft_123_19) gF_0_1 kd_0 I.1 (by decide) rfl ?_
          refine PW.gR 15 q_123_57 (Or.inr t_fN_123_101) gF_3_1 kd_3 I.1 (by decide) rfl ?_
          refine PW.cV (as := [_]) (rest := []) q_123_60 t_mv_123_147 kd_110 I.1 (by decide) rfl (by decide) rfl rfl (Nat.le_of_ble_eq_true rfl) (Nat.le_of_ble_eq_true rfl) (by decide) (by decide) ?_
          refine PW.up (by decide) (c_X1_keep G _ M I 15 kd_15 fun M14 IM14 GM14 => ?_)
          have FM14 := Fr.trans F GM14 (rfl)
          refine PW.aload_n q_123_63 rfl ?_
          refine PW.gR 3 q_123_64 (Or.inl t_ft_123_19) gF_0_1 kd_0 IM14.1 (by decide) rfl ?_
          refine PW.gR 15 q_123_67 (Or.inr t_fN_123_101) gF_3_1 kd_3 IM14.1 (by decide) rfl ?_
          refine PW.aload_n q_123_70 rfl ?_
          refine PW.gR 3 q_123_71 (Or.inl t_ft_123_19) gF_0_1 kd_0 IM14.1 (by decide) rfl ?_
          refine PW.gR 4 q_123_74 (Or.inr t_fN_123_94) gF_3_0 kd_3 IM14.1 (by decide) rfl ?_
          refine PW.iload_n q_123_77 rfl ?_
          refine PW.iload_n q_123_78 rfl ?_
          refine PW.cV (as := [_, _, _]) (rest := []) q_123_79 t_mv_123_304 kd_15 IM14.1 (by decide) rfl (by decide) rfl rfl (Nat.le_of_ble_eq_true rfl) (Nat.le_of_ble_eq_true rfl) (by decide) (by decide) ?_
          refine PW.up (by decide) (c_X5_passDrawn G _ M14 IM14 15 kd_15 4 kd_4 x12 a2 (by omega) fun M15 IM15 GM15 => ?_)
          have FM15 := Fr.trans FM14 GM15 (rfl)
          refine PW.iload_n q_123_82 rfl ?_
          refine PW.rI q_123_83 rfl (by decide) (by decide) ?_
          exact hK x12 M15 IM15 FM15
      · skip
        refine PW.cI q_123_24 (by decide) fun c16 hc16 => ?_
        refine PW.rI q_123_25 rfl (by decide) (by decide) ?_
        exact hK c16 M I F
theorem c_X11_undo (G : pG) (Kr : pK) (M : pM) (I : Iv gTT M)  (hK : ∀ (x : Int32) (M1 : pM), Iv gTT M1 → Fr [5, 7, 9, 10, 11, 12, 13, 21] M M1 → Kr.1 (some (.int x)) 311 M1) : PW G false 5 124 (p_mc 124) (p_msl 124) Kr 0 (lv_args 0 [.ref 0]) [] 311 M 0 0 := by
  have F : Fr [5, 7, 9, 10, 11, 12, 13, 21] M M := Fr.refl
  refine PW.aload_n q_124_0 rfl ?_
  refine PW.gR 110 q_124_1 (Or.inl t_ft_124_34) gF_0_4 kd_0 I.1 (by decide) rfl ?_
  refine PW.gI q_124_4 (Or.inr t_fN_124_308) gF_21_2 kd_110 I.1 (by decide) fun x1 fx1 hx1 kx1 => ?_
  refine PW.jz_ne q_124_7 rfl (fun h2 => ?_) (fun h2 => ?_)
  · skip
    refine PW.aload_n q_124_12 rfl ?_
    refine PW.gR 110 q_124_13 (Or.inl t_ft_124_34) gF_0_4 kd_0 I.1 (by decide) rfl ?_
    refine PW.aload_n q_124_16 rfl ?_
    refine PW.gR 3 q_124_17 (Or.inl t_ft_124_19) gF_0_1 kd_0 I.1 (by decide) rfl ?_
    refine PW.gR 15 q_124_20 (Or.inr t_fN_124_101) gF_3_1 kd_3 I.1 (by decide) rfl ?_
    refine PW.cV (as := [_]) (rest := []) q_124_23 t_mv_124_311 kd_110 I.1 (by decide) rfl (by decide) rfl rfl (Nat.le_of_ble_eq_true rfl) (Nat.le_of_ble_eq_true rfl) (by decide) (by decide) ?_
    refine PW.up (by decide) (c_X1_giveBack G _ M I 15 kd_15 fun M3 IM3 GM3 => ?_)
    have FM3 := Fr.trans F GM3 (rfl)
    refine PW.aload_n q_124_26 rfl ?_
    refine PW.gR 110 q_124_27 (Or.inl t_ft_124_34) gF_0_4 kd_0 IM3.1 (by decide) rfl ?_
    refine PW.gI q_124_30 (Or.inr t_fN_124_308) gF_21_2 kd_110 IM3.1 (by decide) fun x4 fx4 hx4 kx4 => ?_
    refine PW.rI q_124_33 rfl (by decide) (by decide) ?_
    exact hK x4 M3 IM3 FM3
  · skip
    refine PW.cI q_124_10 (by decide) fun c5 hc5 => ?_
    refine PW.rI q_124_11 rfl (by decide) (by decide) ?_
    exact hK c5 M I F
theorem c_X11_image (G : pG) (Kr : pK) (M : pM) (I : Iv gTT M) (a1 : Int32) (hK : ∀ (x : Int32) (M1 : pM), Iv gTT M1 → Fr [4, 5, 7, 9, 10, 11, 12, 13, 14, 15, 16, 17, 20, 27, 28, 29, 30, 31, 32, 33, 34, 35, 36] M M1 → 0 ≤ x.toInt → x.toInt ≤ 1 → Kr.1 (some (.int x)) 311 M1) : PW G false 5 125 (p_mc 125) (p_msl 125) Kr 0 (lv_args 0 [.ref 0, .int a1]) [] 311 M 0 0 := by
  have F : Fr [4, 5, 7, 9, 10, 11, 12, 13, 14, 15, 16, 17, 20, 27, 28, 29, 30, 31, 32, 33, 34, 35, 36] M M := Fr.refl
  refine PW.iload_n q_125_0 rfl ?_
  refine PW.jz_lt q_125_1 rfl (fun h1 => ?_) (fun h1 => ?_)
  · skip
    refine PW.cI q_125_9 (by decide) fun c2 hc2 => ?_
    refine PW.rZ q_125_10 rfl (by omega) (by omega) (by decide) (by decide) ?_
    exact hK c2 M I F (by omega) (by omega)
  · skip
    refine PW.iload_n q_125_4 rfl ?_
    refine PW.cI q_125_5 (by decide) fun c3 hc3 => ?_
    refine PW.jc_lt q_125_6 rfl (fun h4 => ?_) (fun h4 => ?_)
    · skip
      refine PW.aload_n q_125_11 rfl ?_
      refine PW.gR 38 q_125_12 (Or.inl t_ft_125_23) gF_0_2 kd_0 I.1 (by decide) rfl ?_
      refine PW.iload_n q_125_15 rfl ?_
      refine PW.aRk q_125_16 rfl (by decide) (by decide) kd_38 I.1 (by decide) (by omega) (by omega) fun b5 hk_b5 e_b5 => ?_
      refine PW.aload_n q_125_17 rfl ?_
      refine PW.gR 3 q_125_18 (Or.inl t_ft_125_19) gF_0_1 kd_0 I.1 (by decide) rfl ?_
      refine PW.cV (as := [_]) (rest := []) q_125_21 t_mv_125_314 hk_b5 I.1 (by decide) rfl (by decide) rfl rfl (Nat.le_of_ble_eq_true rfl) (Nat.le_of_ble_eq_true rfl) (by decide) (by decide) ?_
      refine PW.up (by decide) (c_X10_copyFrom G _ M I b5 hk_b5 3 kd_3 fun M6 IM6 GM6 => ?_)
      have FM6 := Fr.trans F GM6 (rfl)
      refine PW.aload_n q_125_24 rfl ?_
      refine PW.gR 109 q_125_25 (Or.inl t_ft_125_27) gF_0_3 kd_0 IM6.1 (by decide) rfl ?_
      refine PW.iload_n q_125_28 rfl ?_
      refine PW.cI q_125_29 (by decide) fun c7 hc7 => ?_
      refine PW.wZ q_125_30 gA_20 kd_109 Stab0 IM6 (by decide) rfl gC_20_0_1 (by omega) (by omega) (by omega) (by omega) fun M8 IM8 fM8 UM8 => ?_
      have FM8 := Fr.pu FM6 UM8.1 kd_109 (rfl : List.contains [4, 5, 7, 9, 10, 11, 12, 13, 14, 15, 16, 17, 20, 27, 28, 29, 30, 31, 32, 33, 34, 35, 36] 20 = true)
      refine PW.cI q_125_31 (by decide) fun c9 hc9 => ?_
      refine PW.rZ q_125_32 rfl (by omega) (by omega) (by decide) (by decide) ?_
      exact hK c9 M8 IM8 FM8 (by omega) (by omega)
    · skip
      refine PW.cI q_125_9 (by decide) fun c10 hc10 => ?_
      refine PW.rZ q_125_10 rfl (by omega) (by omega) (by decide) (by decide) ?_
      exact hK c10 M I F (by omega) (by omega)
theorem c_X11_restore (G : pG) (Kr : pK) (M : pM) (I : Iv gTT M) (a1 : Int32) (hK : ∀ (x : Int32) (M1 : pM), Iv gTT M1 → Fr [4, 5, 7, 9, 10, 11, 12, 13, 14, 15, 16, 17, 21, 27, 28, 29, 30, 31, 32, 33, 34, 35, 36] M M1 → 0 ≤ x.toInt → x.toInt ≤ 1 → Kr.1 (some (.int x)) 311 M1) : PW G false 5 126 (p_mc 126) (p_msl 126) Kr 0 (lv_args 0 [.ref 0, .int a1]) [] 311 M 0 0 := by
  have F : Fr [4, 5, 7, 9, 10, 11, 12, 13, 14, 15, 16, 17, 21, 27, 28, 29, 30, 31, 32, 33, 34, 35, 36] M M := Fr.refl
  refine PW.iload_n q_126_0 rfl ?_
  refine PW.jz_lt q_126_1 rfl (fun h1 => ?_) (fun h1 => ?_)
  · skip
    refine PW.cI q_126_18 (by decide) fun c2 hc2 => ?_
    refine PW.rZ q_126_19 rfl (by omega) (by omega) (by decide) (by decide) ?_
    exact hK c2 M I F (by omega) (by omega)
  · skip
    refine PW.iload_n q_126_4 rfl ?_
    refine PW.cI q_126_5 (by decide) fun c3 hc3 => ?_
    refine PW.jc_ge q_126_6 rfl (fun h4 => ?_) (fun h4 => ?_)
    · skip
      refine PW.cI q_126_18 (by decide) fun c5 hc5 => ?_
      refine PW.rZ q_126_19 rfl (by omega) (by omega) (by decide) (by decide) ?_
      exact hK c5 M I F (by omega) (by omega)
    · skip
      refine PW.aload_n q_126_9 rfl ?_
      refine PW.gR 109 q_126_10 (Or.inl t_ft_126_27) gF_0_3 kd_0 I.1 (by decide) rfl ?_
      refine PW.iload_n q_126_13 rfl ?_
      refine PW.aZ q_126_14 gA_20 kd_109 I.1 (by decide) gB_20_0_1 (by omega) (by omega) fun x6 fx6 hx6 kx6 => ?_
      refine PW.jz_ne q_126_15 rfl (fun h7 => ?_) (fun h7 => ?_)
      · skip
        refine PW.aload_n q_126_20 rfl ?_
        refine PW.gR 3 q_126_21 (Or.inl t_ft_126_19) gF_0_1 kd_0 I.1 (by decide) rfl ?_
        refine PW.aload_n q_126_24 rfl ?_
        refine PW.gR 38 q_126_25 (Or.inl t_ft_126_23) gF_0_2 kd_0 I.1 (by decide) rfl ?_
        refine PW.iload_n q_126_28 rfl ?_
        refine PW.aRk q_126_29 rfl (by decide) (by decide) kd_38 I.1 (by decide) (by omega) (by omega) fun b8 hk_b8 e_b8 => ?_
        refine PW.cV (as := [_]) (rest := []) q_126_30 t_mv_126_314 kd_3 I.1 (by decide) rfl (by decide) rfl rfl (Nat.le_of_ble_eq_true rfl) (Nat.le_of_ble_eq_true rfl) (by decide) (by decide) ?_
        refine PW.up (by decide) (c_X10_copyFrom G _ M I 3 kd_3 b8 hk_b8 fun M9 IM9 GM9 => ?_)
        have FM9 := Fr.trans F GM9 (rfl)
        refine PW.aload_n q_126_33 rfl ?_
        refine PW.gR 110 q_126_34 (Or.inl t_ft_126_34) gF_0_4 kd_0 IM9.1 (by decide) rfl ?_
        refine PW.cV (as := []) (rest := []) q_126_37 t_mv_126_113 kd_110 IM9.1 (by decide) rfl (by decide) rfl rfl (Nat.le_of_ble_eq_true rfl) (Nat.le_of_ble_eq_true rfl) (by decide) (by decide) ?_
        refine PW.up (by decide) (c_X1_forget (gTT) (Stab0) G _ M9 IM9  fun M10 IM10 GM10 => ?_)
        have FM10 := Fr.trans FM9 GM10 (rfl)
        refine PW.cI q_126_40 (by decide) fun c11 hc11 => ?_
        refine PW.rZ q_126_41 rfl (by omega) (by omega) (by decide) (by decide) ?_
        exact hK c11 M10 IM10 FM10 (by omega) (by omega)
      · skip
        refine PW.cI q_126_18 (by decide) fun c12 hc12 => ?_
        refine PW.rZ q_126_19 rfl (by omega) (by omega) (by decide) (by decide) ?_
        exact hK c12 M I F (by omega) (by omega)
theorem c_X11_meet (G : pG) (Kr : pK) (M : pM) (I : Iv gTT M) (a1 : Int32) (a2 : Int32) (hK : ∀ (x : Int32) (M1 : pM), Iv gTT M1 → Fr [5, 7, 9, 10, 11, 12, 13] M M1 → Kr.1 (some (.int x)) 311 M1) : PW G false 5 127 (p_mc 127) (p_msl 127) Kr 0 (lv_args 0 [.ref 0, .int a1, .int a2]) [] 311 M 0 0 := by
  have F : Fr [5, 7, 9, 10, 11, 12, 13] M M := Fr.refl
  refine PW.aload_n q_127_0 rfl ?_
  refine PW.iload_n q_127_1 rfl ?_
  refine PW.cV (as := [_]) (rest := []) q_127_2 t_mv_127_169 kd_0 I.1 (by decide) rfl (by decide) rfl rfl (Nat.le_of_ble_eq_true rfl) (Nat.le_of_ble_eq_true rfl) (by decide) (by decide) ?_
  refine PW.iload_n q_143_0 rfl ?_
  refine PW.jz_lt q_143_1 rfl (fun h1 => ?_) (fun h1 => ?_)
  · skip
    refine PW.cI q_143_22 (by decide) fun c2 hc2 => ?_
    refine PW.rZ q_143_23 rfl (by omega) (by omega) (by decide) (by decide) ?_
    refine PW.jz_eq q_127_5 rfl (fun h3 => ?_) (fun h3 => False.elim (by omega))
    refine PW.cI q_127_21 (by decide) fun c4 hc4 => ?_
    refine PW.rI q_127_22 rfl (by decide) (by decide) ?_
    exact hK c4 M I F
  · skip
    refine PW.iload_n q_143_4 rfl ?_
    refine PW.aload_n q_143_5 rfl ?_
    refine PW.gR 3 q_143_6 (Or.inl t_ft_143_19) gF_0_1 kd_0 I.1 (by decide) rfl ?_
    refine PW.gR 4 q_143_9 (Or.inr t_fN_143_94) gF_3_0 kd_3 I.1 (by decide) rfl ?_
    refine PW.gI q_143_12 (Or.inr t_fN_143_136) gF_4_6 kd_4 I.1 (by decide) fun x5 fx5 hx5 kx5 => ?_
    refine PW.jc_ge q_143_15 rfl (fun h6 => ?_) (fun h6 => ?_)
    · skip
      refine PW.cI q_143_22 (by decide) fun c7 hc7 => ?_
      refine PW.rZ q_143_23 rfl (by omega) (by omega) (by decide) (by decide) ?_
      refine PW.jz_eq q_127_5 rfl (fun h8 => ?_) (fun h8 => False.elim (by omega))
      refine PW.cI q_127_21 (by decide) fun c9 hc9 => ?_
      refine PW.rI q_127_22 rfl (by decide) (by decide) ?_
      exact hK c9 M I F
    · skip
      refine PW.cI q_143_18 (by decide) fun c10 hc10 => ?_
      refine PW.goto q_143_19 rfl ?_
      refine PW.rZ q_143_23 rfl (by omega) (by omega) (by decide) (by decide) ?_
      refine PW.jz_eq q_127_5 rfl (fun h11 => False.elim (by omega)) (fun h11 => ?_)
      refine PW.aload_n q_127_8 rfl ?_
      refine PW.iload_n q_127_9 rfl ?_
      refine PW.cV (as := [_]) (rest := []) q_127_10 t_mv_127_169 kd_0 I.1 (by decide) rfl (by decide) rfl rfl (Nat.le_of_ble_eq_true rfl) (Nat.le_of_ble_eq_true rfl) (by decide) (by decide) ?_
      refine PW.iload_n q_143_0 rfl ?_
      refine PW.jz_lt q_143_1 rfl (fun h12 => ?_) (fun h12 => ?_)
      · skip
        refine PW.cI q_143_22 (by decide) fun c13 hc13 => ?_
        refine PW.rZ q_143_23 rfl (by omega) (by omega) (by decide) (by decide) ?_
        refine PW.jz_eq q_127_13 rfl (fun h14 => ?_) (fun h14 => False.elim (by omega))
        refine PW.cI q_127_21 (by decide) fun c15 hc15 => ?_
        refine PW.rI q_127_22 rfl (by decide) (by decide) ?_
        exact hK c15 M I F
      · skip
        refine PW.iload_n q_143_4 rfl ?_
        refine PW.aload_n q_143_5 rfl ?_
        refine PW.gR 3 q_143_6 (Or.inl t_ft_143_19) gF_0_1 kd_0 I.1 (by decide) rfl ?_
        refine PW.gR 4 q_143_9 (Or.inr t_fN_143_94) gF_3_0 kd_3 I.1 (by decide) rfl ?_
        refine PW.gE q_143_12 (Or.inr t_fN_143_136) gF_4_6 kd_4 I.1 (by decide) fx5 ?_
        refine PW.jc_ge q_143_15 rfl (fun h16 => ?_) (fun h16 => ?_)
        · skip
          refine PW.cI q_143_22 (by decide) fun c17 hc17 => ?_
          refine PW.rZ q_143_23 rfl (by omega) (by omega) (by decide) (by decide) ?_
          refine PW.jz_eq q_127_13 rfl (fun h18 => ?_) (fun h18 => False.elim (by omega))
          refine PW.cI q_127_21 (by decide) fun c19 hc19 => ?_
          refine PW.rI q_127_22 rfl (by decide) (by decide) ?_
          exact hK c19 M I F
        · skip
          refine PW.cI q_143_18 (by decide) fun c20 hc20 => ?_
          refine PW.goto q_143_19 rfl ?_
          refine PW.rZ q_143_23 rfl (by omega) (by omega) (by decide) (by decide) ?_
          refine PW.jz_eq q_127_13 rfl (fun h21 => False.elim (by omega)) (fun h21 => ?_)
          refine PW.iload_n q_127_16 rfl ?_
          refine PW.iload_n q_127_17 rfl ?_
          refine PW.jc_ne q_127_18 rfl (fun h22 => ?_) (fun h22 => ?_)
          · skip
            refine PW.aload_n q_127_23 rfl ?_
            refine PW.cV (as := []) (rest := []) q_127_24 t_mv_127_140 kd_0 I.1 (by decide) rfl (by decide) rfl rfl (Nat.le_of_ble_eq_true rfl) (Nat.le_of_ble_eq_true rfl) (by decide) (by decide) ?_
            refine PW.up (by decide) (c_X11_foreseen G _ M I  fun M23 IM23 GM23 => ?_)
            have FM23 := Fr.trans F GM23 (rfl)
            refine PW.astore_n q_127_27 (by decide) ?_
            refine PW.cI q_127_28 (by decide) fun c24 hc24 => ?_
            refine PW.istore q_127_29 (by decide) ?_
            have L127_31_25 : ∀ (n : Nat) (ML127_31_25 : pM) (v26 : Int32), Iv (gTT) ML127_31_25 → Fr [5, 7, 9, 10, 11, 12, 13] M ML127_31_25 → 0 ≤ v26.toInt → v26.toInt ≤ 301 → (301 - v26.toInt).toNat = n → PW G false 5 127 (p_mc 127) (p_msl 127) Kr 31 [(0, .ref 0), (1, .int a1), (2, .int a2), (3, .ref 275), (4, .int v26)] [] 311 ML127_31_25 0 0 := by
              intro n
              induction n using Nat.strongRecOn with
              | ind n ih_L127_31_25 =>
              intro ML127_31_25 v26 IML127_31_25 FML127_31_25 hbL127_31_250 hbL127_31_251 hmL127_31_25
              refine PW.iload q_127_31 rfl ?_
              refine PW.cS q_127_33 (by decide) fun c27 hc27 => ?_
              refine PW.jc_gt q_127_36 rfl (fun h28 => ?_) (fun h28 => ?_)
              · skip
                refine PW.cI q_127_85 (by decide) fun c29 hc29 => ?_
                refine PW.rI q_127_86 rfl (by decide) (by decide) ?_
                exact hK c29 ML127_31_25 IML127_31_25 FML127_31_25
              · skip
                refine PW.aload_n q_127_39 rfl ?_
                refine PW.iload_n q_127_40 rfl ?_
                refine PW.iload_n q_127_41 rfl ?_
                refine PW.cV (as := [_, _]) (rest := []) q_127_42 t_mv_127_260 kd_275 IML127_31_25.1 (by decide) rfl (by decide) rfl rfl (Nat.le_of_ble_eq_true rfl) (Nat.le_of_ble_eq_true rfl) (by decide) (by decide) ?_
                refine PW.up (by decide) (c_X5_apart (gTT) (Stab0) G _ ML127_31_25 IML127_31_25 275 kd_275 a1 a2 (by omega) (by omega) (by omega) (by omega) fun x31 M30 IM30 GM30 => ?_)
                have FM30 := Fr.trans FML127_31_25 GM30 (rfl)
                refine PW.aload_n q_127_45 rfl ?_
                refine PW.gR 3 q_127_46 (Or.inl t_ft_127_19) gF_0_1 kd_0 IM30.1 (by decide) rfl ?_
                refine PW.gR 4 q_127_49 (Or.inr t_fN_127_94) gF_3_0 kd_3 IM30.1 (by decide) rfl ?_
                refine PW.gI q_127_52 (Or.inr t_fN_127_254) gF_4_2 kd_4 IM30.1 (by decide) fun x32 fx32 hx32 kx32 => ?_
                clear hx32 kx32
                refine PW.jc_gt q_127_55 rfl (fun h33 => ?_) (fun h33 => ?_)
                · skip
                  refine PW.aload_n q_127_63 rfl ?_
                  refine PW.aload_n q_127_64 rfl ?_
                  refine PW.gR 3 q_127_65 (Or.inl t_ft_127_19) gF_0_1 kd_0 IM30.1 (by decide) rfl ?_
                  refine PW.gR 4 q_127_68 (Or.inr t_fN_127_94) gF_3_0 kd_3 IM30.1 (by decide) rfl ?_
                  refine PW.cV (as := [_]) (rest := []) q_127_71 t_mv_127_317 kd_275 IM30.1 (by decide) rfl (by decide) rfl rfl (Nat.le_of_ble_eq_true rfl) (Nat.le_of_ble_eq_true rfl) (by decide) (by decide) ?_
                  refine PW.up (by decide) (c_X5_pass G _ M30 IM30 275 kd_275 4 kd_4 fun x35 M34 IM34 GM34 hx35 kx35 => ?_)
                  have FM34 := Fr.trans FM30 GM34 (rfl)
                  refine PW.jz_ne q_127_74 rfl (fun h36 => ?_) (fun h36 => ?_)
                  · skip
                    refine PW.incN q_127_79 rfl (by decide) (by decide) (by omega) (by omega) fun x37 hx37 => ?_
                    refine PW.goto q_127_82 rfl ?_
                    refine PW.lvS (lk1 rfl (lk1 rfl (lk1 rfl (lk1 rfl (lk1 rfl lk0))))) (ih_L127_31_25 _ ?_ M34 x37 IM34 FM34 (by omega) (by omega) rfl)
                    omega
                  · skip
                    refine PW.cI q_127_77 (by decide) fun c38 hc38 => ?_
                    refine PW.rI q_127_78 rfl (by decide) (by decide) ?_
                    exact hK c38 M34 IM34 FM34
                · skip
                  refine PW.aload_n q_127_58 rfl ?_
                  refine PW.gI q_127_59 (Or.inr t_fN_127_230) gF_5_0 kd_275 IM30.1 (by decide) fun x39 fx39 hx39 kx39 => ?_
                  refine PW.rI q_127_62 rfl (by decide) (by decide) ?_
                  exact hK x39 M30 IM30 FM30
            exact PW.lvS (lk1 rfl (lk1 rfl (lk1 rfl (lk1 rfl (lk1 rfl lk0))))) (L127_31_25 _ M23 c24 IM23 FM23 (by omega) (by omega) rfl)
          · skip
            refine PW.cI q_127_21 (by decide) fun c40 hc40 => ?_
            refine PW.rI q_127_22 rfl (by decide) (by decide) ?_
            exact hK c40 M I F
theorem c_X11_run (G : pG) (Kr : pK) (M : pM) (I : Iv gTT M) (a1 : Int32) (a2 : Int32) (hK : ∀ (x : Int32) (M1 : pM), Iv gTT M1 → Fr [5, 7, 9, 10, 11, 12, 13] M M1 → Kr.1 (some (.int x)) 311 M1) : PW G false 6 128 (p_mc 128) (p_msl 128) Kr 0 (lv_args 0 [.ref 0, .int a1, .int a2]) [] 311 M 0 0 := by
  have F : Fr [5, 7, 9, 10, 11, 12, 13] M M := Fr.refl
  refine PW.aload_n q_128_0 rfl ?_
  refine PW.iload_n q_128_1 rfl ?_
  refine PW.cV (as := [_]) (rest := []) q_128_2 t_mv_128_203 kd_0 I.1 (by decide) rfl (by decide) rfl rfl (Nat.le_of_ble_eq_true rfl) (Nat.le_of_ble_eq_true rfl) (by decide) (by decide) ?_
  refine PW.iload_n q_144_0 rfl ?_
  refine PW.jz_lt q_144_1 rfl (fun h1 => ?_) (fun h1 => ?_)
  · skip
    refine PW.cI q_144_22 (by decide) fun c2 hc2 => ?_
    refine PW.rZ q_144_23 rfl (by omega) (by omega) (by decide) (by decide) ?_
    refine PW.jz_eq q_128_5 rfl (fun h3 => ?_) (fun h3 => False.elim (by omega))
    refine PW.cI q_128_19 (by decide) fun c4 hc4 => ?_
    refine PW.rI q_128_20 rfl (by decide) (by decide) ?_
    exact hK c4 M I F
  · skip
    refine PW.iload_n q_144_4 rfl ?_
    refine PW.aload_n q_144_5 rfl ?_
    refine PW.gR 3 q_144_6 (Or.inl t_ft_144_19) gF_0_1 kd_0 I.1 (by decide) rfl ?_
    refine PW.gR 4 q_144_9 (Or.inr t_fN_144_94) gF_3_0 kd_3 I.1 (by decide) rfl ?_
    refine PW.gI q_144_12 (Or.inr t_fN_144_249) gF_4_7 kd_4 I.1 (by decide) fun x5 fx5 hx5 kx5 => ?_
    refine PW.jc_ge q_144_15 rfl (fun h6 => ?_) (fun h6 => ?_)
    · skip
      refine PW.cI q_144_22 (by decide) fun c7 hc7 => ?_
      refine PW.rZ q_144_23 rfl (by omega) (by omega) (by decide) (by decide) ?_
      refine PW.jz_eq q_128_5 rfl (fun h8 => ?_) (fun h8 => False.elim (by omega))
      refine PW.cI q_128_19 (by decide) fun c9 hc9 => ?_
      refine PW.rI q_128_20 rfl (by decide) (by decide) ?_
      exact hK c9 M I F
    · skip
      refine PW.cI q_144_18 (by decide) fun c10 hc10 => ?_
      refine PW.goto q_144_19 rfl ?_
      refine PW.rZ q_144_23 rfl (by omega) (by omega) (by decide) (by decide) ?_
      refine PW.jz_eq q_128_5 rfl (fun h11 => False.elim (by omega)) (fun h11 => ?_)
      refine PW.iload_n q_128_8 rfl ?_
      refine PW.cI q_128_9 (by decide) fun c12 hc12 => ?_
      refine PW.jc_lt q_128_10 rfl (fun h13 => ?_) (fun h13 => ?_)
      · skip
        refine PW.cI q_128_19 (by decide) fun c14 hc14 => ?_
        refine PW.rI q_128_20 rfl (by decide) (by decide) ?_
        exact hK c14 M I F
      · skip
        refine PW.iload_n q_128_13 rfl ?_
        refine PW.cB q_128_14 (by decide) fun c15 hc15 => ?_
        refine PW.jc_le q_128_16 rfl (fun h16 => ?_) (fun h16 => ?_)
        · skip
          refine PW.aload_n q_128_21 rfl ?_
          refine PW.cV (as := []) (rest := []) q_128_22 t_mv_128_140 kd_0 I.1 (by decide) rfl (by decide) rfl rfl (Nat.le_of_ble_eq_true rfl) (Nat.le_of_ble_eq_true rfl) (by decide) (by decide) ?_
          refine PW.up (by decide) (c_X11_foreseen G _ M I  fun M17 IM17 GM17 => ?_)
          have FM17 := Fr.trans F GM17 (rfl)
          refine PW.astore_n q_128_25 (by decide) ?_
          refine PW.aload_n q_128_26 rfl ?_
          refine PW.aload_n q_128_27 rfl ?_
          refine PW.gR 3 q_128_28 (Or.inl t_ft_128_19) gF_0_1 kd_0 IM17.1 (by decide) rfl ?_
          refine PW.gR 4 q_128_31 (Or.inr t_fN_128_94) gF_3_0 kd_3 IM17.1 (by decide) rfl ?_
          refine PW.iload_n q_128_34 rfl ?_
          refine PW.cV (as := [_, _]) (rest := []) q_128_35 t_mv_128_300 kd_275 IM17.1 (by decide) rfl (by decide) rfl rfl (Nat.le_of_ble_eq_true rfl) (Nat.le_of_ble_eq_true rfl) (by decide) (by decide) ?_
          refine PW.up (by decide) (c_X5_passMany G _ M17 IM17 275 kd_275 4 kd_4 a2 (by omega) fun M18 IM18 GM18 => ?_)
          have FM18 := Fr.trans FM17 GM18 (rfl)
          refine PW.aload_n q_128_38 rfl ?_
          refine PW.gR 283 q_128_39 (Or.inr t_fN_128_206) gF_5_4 kd_275 IM18.1 (by decide) rfl ?_
          refine PW.iload_n q_128_42 rfl ?_
          refine PW.aRk q_128_43 rfl (by decide) (by decide) kd_283 IM18.1 (by decide) (by omega) (by omega) fun b19 hk_b19 e_b19 => ?_
          refine PW.gI q_128_44 (Or.inr t_fN_128_215) gF_9_2 hk_b19 IM18.1 (by decide) fun x20 fx20 hx20 kx20 => ?_
          clear hx20 kx20
          refine PW.aload_n q_128_47 rfl ?_
          refine PW.gR 3 q_128_48 (Or.inl t_ft_128_19) gF_0_1 kd_0 IM18.1 (by decide) rfl ?_
          refine PW.gR 15 q_128_51 (Or.inr t_fN_128_101) gF_3_1 kd_3 IM18.1 (by decide) rfl ?_
          refine PW.gR 23 q_128_54 (Or.inr t_fN_128_206) gF_5_4 kd_15 IM18.1 (by decide) rfl ?_
          refine PW.iload_n q_128_57 rfl ?_
          refine PW.aRk q_128_58 rfl (by decide) (by decide) kd_23 IM18.1 (by decide) (by omega) (by omega) fun b21 hk_b21 e_b21 => ?_
          refine PW.gI q_128_59 (Or.inr t_fN_128_215) gF_9_2 hk_b21 IM18.1 (by decide) fun x22 fx22 hx22 kx22 => ?_
          clear hx22 kx22
          refine PW.subH q_128_62 fun x23 => ?_
          refine PW.rI q_128_63 rfl (by decide) (by decide) ?_
          exact hK x23 M18 IM18 FM18
        · skip
          refine PW.cI q_128_19 (by decide) fun c24 hc24 => ?_
          refine PW.rI q_128_20 rfl (by decide) (by decide) ?_
          exact hK c24 M I F
theorem c_X11_turns (G : pG) (Kr : pK) (M : pM) (I : Iv gTT M) (a1 : Int32) (a2 : Int32) (hK : ∀ (x : Int32) (M1 : pM), Iv gTT M1 → Fr [5, 7, 9, 10, 11, 12, 13] M M1 → Kr.1 (some (.int x)) 311 M1) : PW G false 6 129 (p_mc 129) (p_msl 129) Kr 0 (lv_args 0 [.ref 0, .int a1, .int a2]) [] 311 M 0 0 := by
  have F : Fr [5, 7, 9, 10, 11, 12, 13] M M := Fr.refl
  refine PW.aload_n q_129_0 rfl ?_
  refine PW.iload_n q_129_1 rfl ?_
  refine PW.cV (as := [_]) (rest := []) q_129_2 t_mv_129_203 kd_0 I.1 (by decide) rfl (by decide) rfl rfl (Nat.le_of_ble_eq_true rfl) (Nat.le_of_ble_eq_true rfl) (by decide) (by decide) ?_
  refine PW.iload_n q_144_0 rfl ?_
  refine PW.jz_lt q_144_1 rfl (fun h1 => ?_) (fun h1 => ?_)
  · skip
    refine PW.cI q_144_22 (by decide) fun c2 hc2 => ?_
    refine PW.rZ q_144_23 rfl (by omega) (by omega) (by decide) (by decide) ?_
    refine PW.jz_eq q_129_5 rfl (fun h3 => ?_) (fun h3 => False.elim (by omega))
    refine PW.cI q_129_19 (by decide) fun c4 hc4 => ?_
    refine PW.rI q_129_20 rfl (by decide) (by decide) ?_
    exact hK c4 M I F
  · skip
    refine PW.iload_n q_144_4 rfl ?_
    refine PW.aload_n q_144_5 rfl ?_
    refine PW.gR 3 q_144_6 (Or.inl t_ft_144_19) gF_0_1 kd_0 I.1 (by decide) rfl ?_
    refine PW.gR 4 q_144_9 (Or.inr t_fN_144_94) gF_3_0 kd_3 I.1 (by decide) rfl ?_
    refine PW.gI q_144_12 (Or.inr t_fN_144_249) gF_4_7 kd_4 I.1 (by decide) fun x5 fx5 hx5 kx5 => ?_
    refine PW.jc_ge q_144_15 rfl (fun h6 => ?_) (fun h6 => ?_)
    · skip
      refine PW.cI q_144_22 (by decide) fun c7 hc7 => ?_
      refine PW.rZ q_144_23 rfl (by omega) (by omega) (by decide) (by decide) ?_
      refine PW.jz_eq q_129_5 rfl (fun h8 => ?_) (fun h8 => False.elim (by omega))
      refine PW.cI q_129_19 (by decide) fun c9 hc9 => ?_
      refine PW.rI q_129_20 rfl (by decide) (by decide) ?_
      exact hK c9 M I F
    · skip
      refine PW.cI q_144_18 (by decide) fun c10 hc10 => ?_
      refine PW.goto q_144_19 rfl ?_
      refine PW.rZ q_144_23 rfl (by omega) (by omega) (by decide) (by decide) ?_
      refine PW.jz_eq q_129_5 rfl (fun h11 => False.elim (by omega)) (fun h11 => ?_)
      refine PW.iload_n q_129_8 rfl ?_
      refine PW.cI q_129_9 (by decide) fun c12 hc12 => ?_
      refine PW.jc_lt q_129_10 rfl (fun h13 => ?_) (fun h13 => ?_)
      · skip
        refine PW.cI q_129_19 (by decide) fun c14 hc14 => ?_
        refine PW.rI q_129_20 rfl (by decide) (by decide) ?_
        exact hK c14 M I F
      · skip
        refine PW.iload_n q_129_13 rfl ?_
        refine PW.cB q_129_14 (by decide) fun c15 hc15 => ?_
        refine PW.jc_le q_129_16 rfl (fun h16 => ?_) (fun h16 => ?_)
        · skip
          refine PW.aload_n q_129_21 rfl ?_
          refine PW.cV (as := []) (rest := []) q_129_22 t_mv_129_140 kd_0 I.1 (by decide) rfl (by decide) rfl rfl (Nat.le_of_ble_eq_true rfl) (Nat.le_of_ble_eq_true rfl) (by decide) (by decide) ?_
          refine PW.up (by decide) (c_X11_foreseen G _ M I  fun M17 IM17 GM17 => ?_)
          have FM17 := Fr.trans F GM17 (rfl)
          refine PW.astore_n q_129_25 (by decide) ?_
          refine PW.aload_n q_129_26 rfl ?_
          refine PW.aload_n q_129_27 rfl ?_
          refine PW.gR 3 q_129_28 (Or.inl t_ft_129_19) gF_0_1 kd_0 IM17.1 (by decide) rfl ?_
          refine PW.gR 4 q_129_31 (Or.inr t_fN_129_94) gF_3_0 kd_3 IM17.1 (by decide) rfl ?_
          refine PW.iload_n q_129_34 rfl ?_
          refine PW.cV (as := [_, _]) (rest := []) q_129_35 t_mv_129_300 kd_275 IM17.1 (by decide) rfl (by decide) rfl rfl (Nat.le_of_ble_eq_true rfl) (Nat.le_of_ble_eq_true rfl) (by decide) (by decide) ?_
          refine PW.up (by decide) (c_X5_passMany G _ M17 IM17 275 kd_275 4 kd_4 a2 (by omega) fun M18 IM18 GM18 => ?_)
          have FM18 := Fr.trans FM17 GM18 (rfl)
          refine PW.aload_n q_129_38 rfl ?_
          refine PW.gR 283 q_129_39 (Or.inr t_fN_129_206) gF_5_4 kd_275 IM18.1 (by decide) rfl ?_
          refine PW.iload_n q_129_42 rfl ?_
          refine PW.aRk q_129_43 rfl (by decide) (by decide) kd_283 IM18.1 (by decide) (by omega) (by omega) fun b19 hk_b19 e_b19 => ?_
          refine PW.gI q_129_44 (Or.inr t_fN_129_218) gF_9_3 hk_b19 IM18.1 (by decide) fun x20 fx20 hx20 kx20 => ?_
          refine PW.aload_n q_129_47 rfl ?_
          refine PW.gR 3 q_129_48 (Or.inl t_ft_129_19) gF_0_1 kd_0 IM18.1 (by decide) rfl ?_
          refine PW.gR 15 q_129_51 (Or.inr t_fN_129_101) gF_3_1 kd_3 IM18.1 (by decide) rfl ?_
          refine PW.gR 23 q_129_54 (Or.inr t_fN_129_206) gF_5_4 kd_15 IM18.1 (by decide) rfl ?_
          refine PW.iload_n q_129_57 rfl ?_
          refine PW.aRk q_129_58 rfl (by decide) (by decide) kd_23 IM18.1 (by decide) (by omega) (by omega) fun b21 hk_b21 e_b21 => ?_
          refine PW.gI q_129_59 (Or.inr t_fN_129_218) gF_9_3 hk_b21 IM18.1 (by decide) fun x22 fx22 hx22 kx22 => ?_
          refine PW.subN q_129_62 (by omega) (by omega) fun x23 hx23 => ?_
          refine PW.rI q_129_63 rfl (by decide) (by decide) ?_
          exact hK x23 M18 IM18 FM18
        · skip
          refine PW.cI q_129_19 (by decide) fun c24 hc24 => ?_
          refine PW.rI q_129_20 rfl (by decide) (by decide) ?_
          exact hK c24 M I F
theorem c_X11_next (G : pG) (Kr : pK) (M : pM) (I : Iv gTT M) (a1 : Int32) (hK : ∀ (x : Int32) (M1 : pM), Iv gTT M1 → Fr [] M M1 → Kr.1 (some (.int x)) 311 M1) : PW G false 3 130 (p_mc 130) (p_msl 130) Kr 0 (lv_args 0 [.ref 0, .int a1]) [] 311 M 0 0 := by
  have F : Fr [] M M := Fr.refl
  refine PW.aload_n q_130_0 rfl ?_
  refine PW.iload_n q_130_1 rfl ?_
  refine PW.cV (as := [_]) (rest := []) q_130_2 t_mv_130_203 kd_0 I.1 (by decide) rfl (by decide) rfl rfl (Nat.le_of_ble_eq_true rfl) (Nat.le_of_ble_eq_true rfl) (by decide) (by decide) ?_
  refine PW.iload_n q_144_0 rfl ?_
  refine PW.jz_lt q_144_1 rfl (fun h1 => ?_) (fun h1 => ?_)
  · skip
    refine PW.cI q_144_22 (by decide) fun c2 hc2 => ?_
    refine PW.rZ q_144_23 rfl (by omega) (by omega) (by decide) (by decide) ?_
    refine PW.jz_ne q_130_5 rfl (fun h3 => False.elim (by omega)) (fun h3 => ?_)
    refine PW.cI q_130_8 (by decide) fun c4 hc4 => ?_
    refine PW.rI q_130_9 rfl (by decide) (by decide) ?_
    exact hK c4 M I F
  · skip
    refine PW.iload_n q_144_4 rfl ?_
    refine PW.aload_n q_144_5 rfl ?_
    refine PW.gR 3 q_144_6 (Or.inl t_ft_144_19) gF_0_1 kd_0 I.1 (by decide) rfl ?_
    refine PW.gR 4 q_144_9 (Or.inr t_fN_144_94) gF_3_0 kd_3 I.1 (by decide) rfl ?_
    refine PW.gI q_144_12 (Or.inr t_fN_144_249) gF_4_7 kd_4 I.1 (by decide) fun x5 fx5 hx5 kx5 => ?_
    refine PW.jc_ge q_144_15 rfl (fun h6 => ?_) (fun h6 => ?_)
    · skip
      refine PW.cI q_144_22 (by decide) fun c7 hc7 => ?_
      refine PW.rZ q_144_23 rfl (by omega) (by omega) (by decide) (by decide) ?_
      refine PW.jz_ne q_130_5 rfl (fun h8 => False.elim (by omega)) (fun h8 => ?_)
      refine PW.cI q_130_8 (by decide) fun c9 hc9 => ?_
      refine PW.rI q_130_9 rfl (by decide) (by decide) ?_
      exact hK c9 M I F
    · skip
      refine PW.cI q_144_18 (by decide) fun c10 hc10 => ?_
      refine PW.goto q_144_19 rfl ?_
      refine PW.rZ q_144_23 rfl (by omega) (by omega) (by decide) (by decide) ?_
      refine PW.jz_ne q_130_5 rfl (fun h11 => ?_) (fun h11 => False.elim (by omega))
      refine PW.aload_n q_130_10 rfl ?_
      refine PW.gR 3 q_130_11 (Or.inl t_ft_130_19) gF_0_1 kd_0 I.1 (by decide) rfl ?_
      refine PW.gR 15 q_130_14 (Or.inr t_fN_130_101) gF_3_1 kd_3 I.1 (by decide) rfl ?_
      refine PW.aload_n q_130_17 rfl ?_
      refine PW.gR 3 q_130_18 (Or.inl t_ft_130_19) gF_0_1 kd_0 I.1 (by decide) rfl ?_
      refine PW.gR 4 q_130_21 (Or.inr t_fN_130_94) gF_3_0 kd_3 I.1 (by decide) rfl ?_
      refine PW.gI q_130_24 (Or.inr t_fN_130_136) gF_4_6 kd_4 I.1 (by decide) fun x12 fx12 hx12 kx12 => ?_
      refine PW.aload_n q_130_27 rfl ?_
      refine PW.gR 3 q_130_28 (Or.inl t_ft_130_19) gF_0_1 kd_0 I.1 (by decide) rfl ?_
      refine PW.gR 15 q_130_31 (Or.inr t_fN_130_101) gF_3_1 kd_3 I.1 (by decide) rfl ?_
      refine PW.gR 23 q_130_34 (Or.inr t_fN_130_206) gF_5_4 kd_15 I.1 (by decide) rfl ?_
      refine PW.iload_n q_130_37 rfl ?_
      refine PW.aRk q_130_38 rfl (by decide) (by decide) kd_23 I.1 (by decide) (by omega) (by omega) fun b13 hk_b13 e_b13 => ?_
      refine PW.aload_n q_130_39 rfl ?_
      refine PW.gR 3 q_130_40 (Or.inl t_ft_130_19) gF_0_1 kd_0 I.1 (by decide) rfl ?_
      refine PW.gR 4 q_130_43 (Or.inr t_fN_130_94) gF_3_0 kd_3 I.1 (by decide) rfl ?_
      refine PW.gR 13 q_130_46 (Or.inr t_fN_130_321) gF_4_16 kd_4 I.1 (by decide) rfl ?_
      refine PW.iload_n q_130_49 rfl ?_
      refine PW.aH q_130_50 gA_35 kd_13 I.1 (by decide) (by omega) (by omega) fun x14 fx14 => ?_
      refine PW.cV (as := [_, _, _]) (rest := []) q_130_51 t_mv_130_324 kd_15 I.1 (by decide) rfl (by decide) rfl rfl (Nat.le_of_ble_eq_true rfl) (Nat.le_of_ble_eq_true rfl) (by decide) (by decide) ?_
      refine PW.up (by decide) (c_X5_choice (gTT) (Stab0) G _ M I 15 kd_15 x12 b13 hk_b13 x14 (by omega) (by omega) fun x16 M15 IM15 GM15 => ?_)
      have FM15 := Fr.trans F GM15 (rfl)
      refine PW.rI q_130_54 rfl (by decide) (by decide) ?_
      exact hK x16 M15 IM15 FM15
theorem c_X11_strays (G : pG) (Kr : pK) (M : pM) (I : Iv gTT M)  (hK : ∀ (x : Int32) (M1 : pM), Iv gTT M1 → Fr [5, 7, 9, 10, 11, 12, 13] M M1 → Kr.1 (some (.int x)) 311 M1) : PW G false 5 131 (p_mc 131) (p_msl 131) Kr 0 (lv_args 0 [.ref 0]) [] 311 M 0 0 := by
  have F : Fr [5, 7, 9, 10, 11, 12, 13] M M := Fr.refl
  refine PW.aload_n q_131_0 rfl ?_
  refine PW.cV (as := []) (rest := []) q_131_1 t_mv_131_140 kd_0 I.1 (by decide) rfl (by decide) rfl rfl (Nat.le_of_ble_eq_true rfl) (Nat.le_of_ble_eq_true rfl) (by decide) (by decide) ?_
  refine PW.up (by decide) (c_X11_foreseen G _ M I  fun M1 IM1 GM1 => ?_)
  have FM1 := Fr.trans F GM1 (rfl)
  refine PW.astore_n q_131_4 (by decide) ?_
  refine PW.cI q_131_5 (by decide) fun c2 hc2 => ?_
  refine PW.istore_n q_131_6 (by decide) ?_
  have L131_7_3 : ∀ (n : Nat) (ML131_7_3 : pM) (v4 : Int32), Iv (gTT) ML131_7_3 → Fr [5, 7, 9, 10, 11, 12, 13] M ML131_7_3 → 0 ≤ v4.toInt → v4.toInt ≤ 200 → (200 - v4.toInt).toNat = n → PW G false 5 131 (p_mc 131) (p_msl 131) Kr 7 [(0, .ref 0), (1, .ref 275), (2, .int v4)] [] 311 ML131_7_3 0 0 := by
    intro n
    induction n using Nat.strongRecOn with
    | ind n ih_L131_7_3 =>
    intro ML131_7_3 v4 IML131_7_3 FML131_7_3 hbL131_7_30 hbL131_7_31 hmL131_7_3
    refine PW.iload_n q_131_7 rfl ?_
    refine PW.cS q_131_8 (by decide) fun c5 hc5 => ?_
    refine PW.jc_ge q_131_11 rfl (fun h6 => ?_) (fun h6 => ?_)
    · skip
      refine PW.cI q_131_50 (by decide) fun c7 hc7 => ?_
      refine PW.rI q_131_51 rfl (by decide) (by decide) ?_
      exact hK c7 ML131_7_3 IML131_7_3 FML131_7_3
    · skip
      refine PW.aload_n q_131_14 rfl ?_
      refine PW.aload_n q_131_15 rfl ?_
      refine PW.gR 3 q_131_16 (Or.inl t_ft_131_19) gF_0_1 kd_0 IML131_7_3.1 (by decide) rfl ?_
      refine PW.gR 4 q_131_19 (Or.inr t_fN_131_94) gF_3_0 kd_3 IML131_7_3.1 (by decide) rfl ?_
      refine PW.cV (as := [_]) (rest := []) q_131_22 t_mv_131_317 kd_275 IML131_7_3.1 (by decide) rfl (by decide) rfl rfl (Nat.le_of_ble_eq_true rfl) (Nat.le_of_ble_eq_true rfl) (by decide) (by decide) ?_
      refine PW.up (by decide) (c_X5_pass G _ ML131_7_3 IML131_7_3 275 kd_275 4 kd_4 fun x9 M8 IM8 GM8 hx9 kx9 => ?_)
      have FM8 := Fr.trans FML131_7_3 GM8 (rfl)
      refine PW.jz_ne q_131_25 rfl (fun h10 => ?_) (fun h10 => ?_)
      · skip
        refine PW.aload_n q_131_30 rfl ?_
        refine PW.cV (as := []) (rest := []) q_131_31 t_mv_131_239 kd_275 IM8.1 (by decide) rfl (by decide) rfl rfl (Nat.le_of_ble_eq_true rfl) (Nat.le_of_ble_eq_true rfl) (by decide) (by decide) ?_
        refine PW.up (by decide) (c_X5_hangingBits (gTT) (Stab0) G _ M8 IM8 275 kd_275 fun x12 M11 IM11 GM11 => ?_)
        have FM11 := Fr.trans FM8 GM11 (rfl)
        refine PW.jz_eq q_131_34 rfl (fun h13 => ?_) (fun h13 => ?_)
        · skip
          refine PW.incN q_131_44 rfl (by decide) (by decide) (by omega) (by omega) fun x14 hx14 => ?_
          refine PW.goto q_131_47 rfl ?_
          refine PW.lvS (lk1 rfl (lk1 rfl (lk1 rfl lk0))) (ih_L131_7_3 _ ?_ M11 x14 IM11 FM11 (by omega) (by omega) rfl)
          omega
        · skip
          refine PW.aload_n q_131_37 rfl ?_
          refine PW.gI q_131_38 (Or.inr t_fN_131_230) gF_5_0 kd_275 IM11.1 (by decide) fun x15 fx15 hx15 kx15 => ?_
          refine PW.cI q_131_41 (by decide) fun c16 hc16 => ?_
          refine PW.subN q_131_42 (by omega) (by omega) fun x17 hx17 => ?_
          refine PW.rI q_131_43 rfl (by decide) (by decide) ?_
          exact hK x17 M11 IM11 FM11
      · skip
        refine PW.cI q_131_28 (by decide) fun c18 hc18 => ?_
        refine PW.rI q_131_29 rfl (by decide) (by decide) ?_
        exact hK c18 M8 IM8 FM8
  exact PW.lvS (lk1 rfl (lk1 rfl (lk1 rfl lk0))) (L131_7_3 _ M1 c2 IM1 FM1 (by omega) (by omega) rfl)
