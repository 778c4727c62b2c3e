theorem q_151_0 : p_tb 151 0 = some (.aload_n 0, 1) := by decide +kernel
theorem q_151_1 : p_tb 151 1 = some (.getfield 10, 3) := by decide +kernel
theorem q_151_4 : p_tb 151 4 = some (.getfield 73, 3) := by decide +kernel
theorem q_151_7 : p_tb 151 7 = some (.iload_n 1, 1) := by decide +kernel
theorem q_151_8 : p_tb 151 8 = some (.if_icmp .lt 15, 3) := by decide +kernel
theorem q_151_11 : p_tb 151 11 = some (.aload_n 0, 1) := by decide +kernel
theorem q_151_12 : p_tb 151 12 = some (.getfield 10, 3) := by decide +kernel
theorem q_151_15 : p_tb 151 15 = some (.getfield 73, 3) := by decide +kernel
theorem q_151_18 : p_tb 151 18 = some (.bipush 40, 2) := by decide +kernel
theorem q_151_20 : p_tb 151 20 = some (.if_icmp .le 5, 3) := by decide +kernel
theorem q_151_23 : p_tb 151 23 = some (.iconst 0, 1) := by decide +kernel
theorem q_151_24 : p_tb 151 24 = some (.ireturn, 1) := by decide +kernel
theorem q_151_25 : p_tb 151 25 = some (.iconst 0, 1) := by decide +kernel
theorem q_151_26 : p_tb 151 26 = some (.istore_n 2, 1) := by decide +kernel
theorem q_151_27 : p_tb 151 27 = some (.iload_n 2, 1) := by decide +kernel
theorem q_151_28 : p_tb 151 28 = some (.aload_n 0, 1) := by decide +kernel
theorem q_151_29 : p_tb 151 29 = some (.getfield 10, 3) := by decide +kernel
theorem q_151_32 : p_tb 151 32 = some (.getfield 73, 3) := by decide +kernel
theorem q_151_35 : p_tb 151 35 = some (.if_icmp .ge 26, 3) := by decide +kernel
theorem q_151_38 : p_tb 151 38 = some (.aload_n 0, 1) := by decide +kernel
theorem q_151_39 : p_tb 151 39 = some (.aload_n 0, 1) := by decide +kernel
theorem q_151_40 : p_tb 151 40 = some (.getfield 10, 3) := by decide +kernel
theorem q_151_43 : p_tb 151 43 = some (.iload_n 2, 1) := by decide +kernel
theorem q_151_44 : p_tb 151 44 = some (.invokevirtual 383, 3) := by decide +kernel
theorem q_151_47 : p_tb 151 47 = some (.invokevirtual 169, 3) := by decide +kernel
theorem q_151_50 : p_tb 151 50 = some (.ifCond .ne 5, 3) := by decide +kernel
theorem q_151_53 : p_tb 151 53 = some (.iconst 0, 1) := by decide +kernel
theorem q_151_54 : p_tb 151 54 = some (.ireturn, 1) := by decide +kernel
theorem q_151_55 : p_tb 151 55 = some (.iinc 2 1, 3) := by decide +kernel
theorem q_151_58 : p_tb 151 58 = some (.goto (-31), 3) := by decide +kernel
theorem q_151_61 : p_tb 151 61 = some (.iconst 1, 1) := by decide +kernel
theorem q_151_62 : p_tb 151 62 = some (.ireturn, 1) := by decide +kernel
theorem t_fN_151_73 : p_f2 p_fN (p_mK 151) 73 = some (7, 1) := by decide +kernel
theorem t_ft_151_10 : p_f2 p_ft (p_mK 151) 10 = some (10, 0) := by decide +kernel
theorem t_mv_151_169 : p_f2 p_mv (p_mK 151) 169 = some 143 := by decide +kernel
theorem t_mv_151_383 : p_f2 p_mv (p_mK 151) 383 = some 75 := by decide +kernel
theorem q_152_0 : p_tb 152 0 = some (.aload_n 0, 1) := by decide +kernel
theorem q_152_1 : p_tb 152 1 = some (.iconst 1, 1) := by decide +kernel
theorem q_152_2 : p_tb 152 2 = some (.invokevirtual 393, 3) := by decide +kernel
theorem q_152_5 : p_tb 152 5 = some (.ifCond .ne 6, 3) := by decide +kernel
theorem q_152_8 : p_tb 152 8 = some (.bipush (-2), 2) := by decide +kernel
theorem q_152_10 : p_tb 152 10 = some (.ireturn, 1) := by decide +kernel
theorem q_152_11 : p_tb 152 11 = some (.aload_n 0, 1) := by decide +kernel
theorem q_152_12 : p_tb 152 12 = some (.invokevirtual 140, 3) := by decide +kernel
theorem q_152_15 : p_tb 152 15 = some (.astore_n 2, 1) := by decide +kernel
theorem q_152_16 : p_tb 152 16 = some (.aload_n 2, 1) := by decide +kernel
theorem q_152_17 : p_tb 152 17 = some (.getfield 206, 3) := by decide +kernel
theorem q_152_20 : p_tb 152 20 = some (.iload_n 1, 1) := by decide +kernel
theorem q_152_21 : p_tb 152 21 = some (.aaload, 1) := by decide +kernel
theorem q_152_22 : p_tb 152 22 = some (.astore_n 3, 1) := by decide +kernel
theorem q_152_23 : p_tb 152 23 = some (.aload_n 3, 1) := by decide +kernel
theorem q_152_24 : p_tb 152 24 = some (.getfield 218, 3) := by decide +kernel
theorem q_152_27 : p_tb 152 27 = some (.istore 4, 2) := by decide +kernel
theorem q_152_29 : p_tb 152 29 = some (.iconst 0, 1) := by decide +kernel
theorem q_152_30 : p_tb 152 30 = some (.istore 5, 2) := by decide +kernel
theorem q_152_32 : p_tb 152 32 = some (.iconst 0, 1) := by decide +kernel
theorem q_152_33 : p_tb 152 33 = some (.istore 6, 2) := by decide +kernel
theorem q_152_35 : p_tb 152 35 = some (.iload 6, 2) := by decide +kernel
theorem q_152_37 : p_tb 152 37 = some (.sipush 300, 3) := by decide +kernel
theorem q_152_40 : p_tb 152 40 = some (.if_icmp .ge 67, 3) := by decide +kernel
theorem q_152_43 : p_tb 152 43 = some (.iload 5, 2) := by decide +kernel
theorem q_152_45 : p_tb 152 45 = some (.aload_n 0, 1) := by decide +kernel
theorem q_152_46 : p_tb 152 46 = some (.getfield 10, 3) := by decide +kernel
theorem q_152_49 : p_tb 152 49 = some (.getfield 73, 3) := by decide +kernel
theorem q_152_52 : p_tb 152 52 = some (.if_icmp .ge 55, 3) := by decide +kernel
theorem q_152_55 : p_tb 152 55 = some (.aload_n 2, 1) := by decide +kernel
theorem q_152_56 : p_tb 152 56 = some (.aload_n 0, 1) := by decide +kernel
theorem q_152_57 : p_tb 152 57 = some (.getfield 19, 3) := by decide +kernel
theorem q_152_60 : p_tb 152 60 = some (.getfield 94, 3) := by decide +kernel
theorem q_152_63 : p_tb 152 63 = some (.invokevirtual 317, 3) := by decide +kernel
theorem q_152_66 : p_tb 152 66 = some (.pop, 1) := by decide +kernel
theorem q_152_67 : p_tb 152 67 = some (.aload_n 3, 1) := by decide +kernel
theorem q_152_68 : p_tb 152 68 = some (.getfield 218, 3) := by decide +kernel
theorem q_152_71 : p_tb 152 71 = some (.iload 4, 2) := by decide +kernel
theorem q_152_73 : p_tb 152 73 = some (.isub, 1) := by decide +kernel
theorem q_152_74 : p_tb 152 74 = some (.iload 5, 2) := by decide +kernel
theorem q_152_76 : p_tb 152 76 = some (.if_icmp .le 25, 3) := by decide +kernel
theorem q_152_79 : p_tb 152 79 = some (.aload_n 3, 1) := by decide +kernel
theorem q_152_80 : p_tb 152 80 = some (.getfield 227, 3) := by decide +kernel
theorem q_152_83 : p_tb 152 83 = some (.aload_n 0, 1) := by decide +kernel
theorem q_152_84 : p_tb 152 84 = some (.getfield 10, 3) := by decide +kernel
theorem q_152_87 : p_tb 152 87 = some (.iload 5, 2) := by decide +kernel
theorem q_152_89 : p_tb 152 89 = some (.invokevirtual 383, 3) := by decide +kernel
theorem q_152_92 : p_tb 152 92 = some (.if_icmp .eq 6, 3) := by decide +kernel
theorem q_152_95 : p_tb 152 95 = some (.iload 5, 2) := by decide +kernel
theorem q_152_97 : p_tb 152 97 = some (.ireturn, 1) := by decide +kernel
theorem q_152_98 : p_tb 152 98 = some (.iinc 5 1, 3) := by decide +kernel
theorem q_152_101 : p_tb 152 101 = some (.iinc 6 1, 3) := by decide +kernel
theorem q_152_104 : p_tb 152 104 = some (.goto (-69), 3) := by decide +kernel
theorem q_152_107 : p_tb 152 107 = some (.iload 5, 2) := by decide +kernel
theorem q_152_109 : p_tb 152 109 = some (.aload_n 0, 1) := by decide +kernel
theorem q_152_110 : p_tb 152 110 = some (.getfield 10, 3) := by decide +kernel
theorem q_152_113 : p_tb 152 113 = some (.getfield 73, 3) := by decide +kernel
theorem q_152_116 : p_tb 152 116 = some (.if_icmp .ge 8, 3) := by decide +kernel
theorem q_152_119 : p_tb 152 119 = some (.iload 5, 2) := by decide +kernel
theorem q_152_121 : p_tb 152 121 = some (.goto 4, 3) := by decide +kernel
theorem q_152_124 : p_tb 152 124 = some (.iconst (-1), 1) := by decide +kernel
theorem q_152_125 : p_tb 152 125 = some (.ireturn, 1) := by decide +kernel
theorem t_fN_152_206 : p_f2 p_fN (p_mK 152) 206 = some (5, 4) := by decide +kernel
theorem t_fN_152_218 : p_f2 p_fN (p_mK 152) 218 = some (0, 3) := by decide +kernel
theorem t_fN_152_227 : p_f2 p_fN (p_mK 152) 227 = some (0, 6) := by decide +kernel
theorem t_fN_152_73 : p_f2 p_fN (p_mK 152) 73 = some (7, 1) := by decide +kernel
theorem t_fN_152_94 : p_f2 p_fN (p_mK 152) 94 = some (9, 0) := by decide +kernel
theorem t_ft_152_10 : p_f2 p_ft (p_mK 152) 10 = some (10, 0) := by decide +kernel
theorem t_ft_152_19 : p_f2 p_ft (p_mK 152) 19 = some (10, 1) := by decide +kernel
theorem t_mv_152_140 : p_f2 p_mv (p_mK 152) 140 = some 146 := by decide +kernel
theorem t_mv_152_317 : p_f2 p_mv (p_mK 152) 317 = some 56 := by decide +kernel
theorem t_mv_152_383 : p_f2 p_mv (p_mK 152) 383 = some 75 := by decide +kernel
theorem t_mv_152_393 : p_f2 p_mv (p_mK 152) 393 = some 151 := by decide +kernel
theorem q_136_0 : p_tb 136 0 = some (.aload_n 0, 1) := by decide +kernel
theorem q_136_1 : p_tb 136 1 = some (.iload_n 1, 1) := by decide +kernel
theorem q_136_2 : p_tb 136 2 = some (.invokevirtual 203, 3) := by decide +kernel
theorem q_136_5 : p_tb 136 5 = some (.ifCond .eq 11, 3) := by decide +kernel
theorem q_136_8 : p_tb 136 8 = some (.aload_n 0, 1) := by decide +kernel
theorem q_136_9 : p_tb 136 9 = some (.iload_n 1, 1) := by decide +kernel
theorem q_136_10 : p_tb 136 10 = some (.invokevirtual 338, 3) := by decide +kernel
theorem q_136_13 : p_tb 136 13 = some (.goto 5, 3) := by decide +kernel
theorem q_136_16 : p_tb 136 16 = some (.bipush (-2), 2) := by decide +kernel
theorem q_136_18 : p_tb 136 18 = some (.istore_n 2, 1) := by decide +kernel
theorem q_136_19 : p_tb 136 19 = some (.aload_n 0, 1) := by decide +kernel
theorem q_136_20 : p_tb 136 20 = some (.getfield 10, 3) := by decide +kernel
theorem q_136_23 : p_tb 136 23 = some (.iconst 0, 1) := by decide +kernel
theorem q_136_24 : p_tb 136 24 = some (.putfield 73, 3) := by decide +kernel
theorem q_136_27 : p_tb 136 27 = some (.iload_n 2, 1) := by decide +kernel
theorem q_136_28 : p_tb 136 28 = some (.ireturn, 1) := by decide +kernel
theorem t_fN_136_73 : p_f2 p_fN (p_mK 136) 73 = some (7, 1) := by decide +kernel
theorem t_ft_136_10 : p_f2 p_ft (p_mK 136) 10 = some (10, 0) := by decide +kernel
theorem t_mv_136_203 : p_f2 p_mv (p_mK 136) 203 = some 144 := by decide +kernel
theorem t_mv_136_338 : p_f2 p_mv (p_mK 136) 338 = some 152 := by decide +kernel
theorem q_153_0 : p_tb 153 0 = some (.aload_n 0, 1) := by decide +kernel
theorem q_153_1 : p_tb 153 1 = some (.iconst 2, 1) := by decide +kernel
theorem q_153_2 : p_tb 153 2 = some (.invokevirtual 393, 3) := by decide +kernel
theorem q_153_5 : p_tb 153 5 = some (.ifCond .ne 5, 3) := by decide +kernel
theorem q_153_8 : p_tb 153 8 = some (.iconst 0, 1) := by decide +kernel
theorem q_153_9 : p_tb 153 9 = some (.ireturn, 1) := by decide +kernel
theorem q_153_10 : p_tb 153 10 = some (.iconst 1, 1) := by decide +kernel
theorem q_153_11 : p_tb 153 11 = some (.istore_n 1, 1) := by decide +kernel
theorem q_153_12 : p_tb 153 12 = some (.iload_n 1, 1) := by decide +kernel
theorem q_153_13 : p_tb 153 13 = some (.aload_n 0, 1) := by decide +kernel
theorem q_153_14 : p_tb 153 14 = some (.getfield 10, 3) := by decide +kernel
theorem q_153_17 : p_tb 153 17 = some (.getfield 73, 3) := by decide +kernel
theorem q_153_20 : p_tb 153 20 = some (.if_icmp .ge 32, 3) := by decide +kernel
theorem q_153_23 : p_tb 153 23 = some (.aload_n 0, 1) := by decide +kernel
theorem q_153_24 : p_tb 153 24 = some (.getfield 10, 3) := by decide +kernel
theorem q_153_27 : p_tb 153 27 = some (.iload_n 1, 1) := by decide +kernel
theorem q_153_28 : p_tb 153 28 = some (.invokevirtual 383, 3) := by decide +kernel
theorem q_153_31 : p_tb 153 31 = some (.aload_n 0, 1) := by decide +kernel
theorem q_153_32 : p_tb 153 32 = some (.getfield 10, 3) := by decide +kernel
theorem q_153_35 : p_tb 153 35 = some (.iload_n 1, 1) := by decide +kernel
theorem q_153_36 : p_tb 153 36 = some (.iconst 1, 1) := by decide +kernel
theorem q_153_37 : p_tb 153 37 = some (.isub, 1) := by decide +kernel
theorem q_153_38 : p_tb 153 38 = some (.invokevirtual 383, 3) := by decide +kernel
theorem q_153_41 : p_tb 153 41 = some (.if_icmp .ne 5, 3) := by decide +kernel
theorem q_153_44 : p_tb 153 44 = some (.iconst 0, 1) := by decide +kernel
theorem q_153_45 : p_tb 153 45 = some (.ireturn, 1) := by decide +kernel
theorem q_153_46 : p_tb 153 46 = some (.iinc 1 1, 3) := by decide +kernel
theorem q_153_49 : p_tb 153 49 = some (.goto (-37), 3) := by decide +kernel
theorem q_153_52 : p_tb 153 52 = some (.iconst 1, 1) := by decide +kernel
theorem q_153_53 : p_tb 153 53 = some (.ireturn, 1) := by decide +kernel
theorem t_fN_153_73 : p_f2 p_fN (p_mK 153) 73 = some (7, 1) := by decide +kernel
theorem t_ft_153_10 : p_f2 p_ft (p_mK 153) 10 = some (10, 0) := by decide +kernel
theorem t_mv_153_383 : p_f2 p_mv (p_mK 153) 383 = some 75 := by decide +kernel
theorem t_mv_153_393 : p_f2 p_mv (p_mK 153) 393 = some 151 := by decide +kernel
theorem q_155_0 : p_tb 155 0 = some (.aload_n 0, 1) := by decide +kernel
theorem q_155_1 : p_tb 155 1 = some (.invokevirtual 399, 3) := by decide +kernel
theorem q_155_4 : p_tb 155 4 = some (.astore_n 2, 1) := by decide +kernel
theorem q_155_5 : p_tb 155 5 = some (.aload_n 2, 1) := by decide +kernel
theorem q_155_6 : p_tb 155 6 = some (.getfield 206, 3) := by decide +kernel
theorem q_155_9 : p_tb 155 9 = some (.iconst 0, 1) := by decide +kernel
theorem q_155_10 : p_tb 155 10 = some (.aaload, 1) := by decide +kernel
theorem q_155_11 : p_tb 155 11 = some (.astore_n 3, 1) := by decide +kernel
theorem q_155_12 : p_tb 155 12 = some (.aload_n 3, 1) := by decide +kernel
theorem q_155_13 : p_tb 155 13 = some (.aload_n 0, 1) := by decide +kernel
theorem q_155_14 : p_tb 155 14 = some (.getfield 10, 3) := by decide +kernel
theorem q_155_17 : p_tb 155 17 = some (.iconst 0, 1) := by decide +kernel
theorem q_155_18 : p_tb 155 18 = some (.invokevirtual 383, 3) := by decide +kernel
theorem q_155_21 : p_tb 155 21 = some (.invokevirtual 402, 3) := by decide +kernel
theorem q_155_24 : p_tb 155 24 = some (.iconst 1, 1) := by decide +kernel
theorem q_155_25 : p_tb 155 25 = some (.istore 4, 2) := by decide +kernel
theorem q_155_27 : p_tb 155 27 = some (.iload 4, 2) := by decide +kernel
theorem q_155_29 : p_tb 155 29 = some (.aload_n 0, 1) := by decide +kernel
theorem q_155_30 : p_tb 155 30 = some (.getfield 10, 3) := by decide +kernel
theorem q_155_33 : p_tb 155 33 = some (.getfield 73, 3) := by decide +kernel
theorem q_155_36 : p_tb 155 36 = some (.if_icmp .ge 41, 3) := by decide +kernel
theorem q_155_39 : p_tb 155 39 = some (.aload_n 2, 1) := by decide +kernel
theorem q_155_40 : p_tb 155 40 = some (.aload_n 0, 1) := by decide +kernel
theorem q_155_41 : p_tb 155 41 = some (.getfield 19, 3) := by decide +kernel
theorem q_155_44 : p_tb 155 44 = some (.getfield 94, 3) := by decide +kernel
theorem q_155_47 : p_tb 155 47 = some (.getfield 136, 3) := by decide +kernel
theorem q_155_50 : p_tb 155 50 = some (.aload_n 3, 1) := by decide +kernel
theorem q_155_51 : p_tb 155 51 = some (.iload_n 1, 1) := by decide +kernel
theorem q_155_52 : p_tb 155 52 = some (.iload 4, 2) := by decide +kernel
theorem q_155_54 : p_tb 155 54 = some (.invokevirtual 405, 3) := by decide +kernel
theorem q_155_57 : p_tb 155 57 = some (.aload_n 0, 1) := by decide +kernel
theorem q_155_58 : p_tb 155 58 = some (.getfield 10, 3) := by decide +kernel
theorem q_155_61 : p_tb 155 61 = some (.iload 4, 2) := by decide +kernel
theorem q_155_63 : p_tb 155 63 = some (.invokevirtual 383, 3) := by decide +kernel
theorem q_155_66 : p_tb 155 66 = some (.if_icmp .eq 5, 3) := by decide +kernel
theorem q_155_69 : p_tb 155 69 = some (.iconst 0, 1) := by decide +kernel
theorem q_155_70 : p_tb 155 70 = some (.ireturn, 1) := by decide +kernel
theorem q_155_71 : p_tb 155 71 = some (.iinc 4 1, 3) := by decide +kernel
theorem q_155_74 : p_tb 155 74 = some (.goto (-47), 3) := by decide +kernel
theorem q_155_77 : p_tb 155 77 = some (.iconst 1, 1) := by decide +kernel
theorem q_155_78 : p_tb 155 78 = some (.ireturn, 1) := by decide +kernel
theorem t_fN_155_136 : p_f2 p_fN (p_mK 155) 136 = some (3, 6) := by decide +kernel
theorem t_fN_155_206 : p_f2 p_fN (p_mK 155) 206 = some (5, 4) := by decide +kernel
theorem t_fN_155_73 : p_f2 p_fN (p_mK 155) 73 = some (7, 1) := by decide +kernel
theorem t_fN_155_94 : p_f2 p_fN (p_mK 155) 94 = some (9, 0) := by decide +kernel
theorem t_ft_155_10 : p_f2 p_ft (p_mK 155) 10 = some (10, 0) := by decide +kernel
theorem t_ft_155_19 : p_f2 p_ft (p_mK 155) 19 = some (10, 1) := by decide +kernel
theorem t_mv_155_383 : p_f2 p_mv (p_mK 155) 383 = some 75 := by decide +kernel
theorem t_mv_155_399 : p_f2 p_mv (p_mK 155) 399 = some 156 := by decide +kernel
theorem t_mv_155_402 : p_f2 p_mv (p_mK 155) 402 = some 2 := by decide +kernel
theorem t_mv_155_405 : p_f2 p_mv (p_mK 155) 405 = some 64 := by decide +kernel
theorem q_154_0 : p_tb 154 0 = some (.iconst 0, 1) := by decide +kernel
theorem q_154_1 : p_tb 154 1 = some (.istore_n 1, 1) := by decide +kernel
theorem q_154_2 : p_tb 154 2 = some (.aload_n 0, 1) := by decide +kernel
theorem q_154_3 : p_tb 154 3 = some (.iconst 0, 1) := by decide +kernel
theorem q_154_4 : p_tb 154 4 = some (.invokevirtual 396, 3) := by decide +kernel
theorem q_154_7 : p_tb 154 7 = some (.ifCond .eq 7, 3) := by decide +kernel
theorem q_154_10 : p_tb 154 10 = some (.iload_n 1, 1) := by decide +kernel
theorem q_154_11 : p_tb 154 11 = some (.iconst 1, 1) := by decide +kernel
theorem q_154_12 : p_tb 154 12 = some (.ior, 1) := by decide +kernel
theorem q_154_13 : p_tb 154 13 = some (.istore_n 1, 1) := by decide +kernel
theorem q_154_14 : p_tb 154 14 = some (.aload_n 0, 1) := by decide +kernel
theorem q_154_15 : p_tb 154 15 = some (.iconst 1, 1) := by decide +kernel
theorem q_154_16 : p_tb 154 16 = some (.invokevirtual 396, 3) := by decide +kernel
theorem q_154_19 : p_tb 154 19 = some (.ifCond .eq 7, 3) := by decide +kernel
theorem q_154_22 : p_tb 154 22 = some (.iload_n 1, 1) := by decide +kernel
theorem q_154_23 : p_tb 154 23 = some (.iconst 2, 1) := by decide +kernel
theorem q_154_24 : p_tb 154 24 = some (.ior, 1) := by decide +kernel
theorem q_154_25 : p_tb 154 25 = some (.istore_n 1, 1) := by decide +kernel
theorem q_154_26 : p_tb 154 26 = some (.aload_n 0, 1) := by decide +kernel
theorem q_154_27 : p_tb 154 27 = some (.iconst 2, 1) := by decide +kernel
theorem q_154_28 : p_tb 154 28 = some (.invokevirtual 396, 3) := by decide +kernel
theorem q_154_31 : p_tb 154 31 = some (.ifCond .eq 7, 3) := by decide +kernel
theorem q_154_34 : p_tb 154 34 = some (.iload_n 1, 1) := by decide +kernel
theorem q_154_35 : p_tb 154 35 = some (.iconst 4, 1) := by decide +kernel
theorem q_154_36 : p_tb 154 36 = some (.ior, 1) := by decide +kernel
theorem q_154_37 : p_tb 154 37 = some (.istore_n 1, 1) := by decide +kernel
theorem q_154_38 : p_tb 154 38 = some (.iload_n 1, 1) := by decide +kernel
theorem q_154_39 : p_tb 154 39 = some (.ireturn, 1) := by decide +kernel
theorem t_mv_154_396 : p_f2 p_mv (p_mK 154) 396 = some 155 := by decide +kernel
theorem q_137_0 : p_tb 137 0 = some (.aload_n 0, 1) := by decide +kernel
theorem q_137_1 : p_tb 137 1 = some (.invokevirtual 341, 3) := by decide +kernel
theorem q_137_4 : p_tb 137 4 = some (.ifCond .eq 10, 3) := by decide +kernel
theorem q_137_7 : p_tb 137 7 = some (.aload_n 0, 1) := by decide +kernel
theorem q_137_8 : p_tb 137 8 = some (.invokevirtual 345, 3) := by decide +kernel
theorem q_137_11 : p_tb 137 11 = some (.goto 4, 3) := by decide +kernel
theorem q_137_14 : p_tb 137 14 = some (.iconst (-1), 1) := by decide +kernel
theorem q_137_15 : p_tb 137 15 = some (.istore_n 1, 1) := by decide +kernel
theorem q_137_16 : p_tb 137 16 = some (.aload_n 0, 1) := by decide +kernel
theorem q_137_17 : p_tb 137 17 = some (.getfield 10, 3) := by decide +kernel
theorem q_137_20 : p_tb 137 20 = some (.iconst 0, 1) := by decide +kernel
theorem q_137_21 : p_tb 137 21 = some (.putfield 73, 3) := by decide +kernel
theorem q_137_24 : p_tb 137 24 = some (.iload_n 1, 1) := by decide +kernel
theorem q_137_25 : p_tb 137 25 = some (.ireturn, 1) := by decide +kernel
theorem t_fN_137_73 : p_f2 p_fN (p_mK 137) 73 = some (7, 1) := by decide +kernel
theorem t_ft_137_10 : p_f2 p_ft (p_mK 137) 10 = some (10, 0) := by decide +kernel
theorem t_mv_137_341 : p_f2 p_mv (p_mK 137) 341 = some 153 := by decide +kernel
theorem t_mv_137_345 : p_f2 p_mv (p_mK 137) 345 = some 154 := by decide +kernel
theorem q_159_0 : p_tb 159 0 = some (.aload_n 0, 1) := by decide +kernel
theorem q_159_1 : p_tb 159 1 = some (.iload_n 1, 1) := by decide +kernel
theorem q_159_2 : p_tb 159 2 = some (.invokevirtual 169, 3) := by decide +kernel
theorem q_159_5 : p_tb 159 5 = some (.ifCond .eq 22, 3) := by decide +kernel
theorem q_159_8 : p_tb 159 8 = some (.aload_n 0, 1) := by decide +kernel
theorem q_159_9 : p_tb 159 9 = some (.iload_n 2, 1) := by decide +kernel
theorem q_159_10 : p_tb 159 10 = some (.invokevirtual 169, 3) := by decide +kernel
theorem q_159_13 : p_tb 159 13 = some (.ifCond .eq 14, 3) := by decide +kernel
theorem q_159_16 : p_tb 159 16 = some (.iload_n 3, 1) := by decide +kernel
theorem q_159_17 : p_tb 159 17 = some (.iconst 1, 1) := by decide +kernel
theorem q_159_18 : p_tb 159 18 = some (.if_icmp .lt 9, 3) := by decide +kernel
theorem q_159_21 : p_tb 159 21 = some (.iload_n 3, 1) := by decide +kernel
theorem q_159_22 : p_tb 159 22 = some (.bipush 99, 2) := by decide +kernel
theorem q_159_24 : p_tb 159 24 = some (.if_icmp .le 5, 3) := by decide +kernel
theorem q_159_27 : p_tb 159 27 = some (.iconst 0, 1) := by decide +kernel
theorem q_159_28 : p_tb 159 28 = some (.ireturn, 1) := by decide +kernel
theorem q_159_29 : p_tb 159 29 = some (.aload_n 0, 1) := by decide +kernel
theorem q_159_30 : p_tb 159 30 = some (.getfield 19, 3) := by decide +kernel
theorem q_159_33 : p_tb 159 33 = some (.getfield 94, 3) := by decide +kernel
theorem q_159_36 : p_tb 159 36 = some (.getfield 184, 3) := by decide +kernel
theorem q_159_39 : p_tb 159 39 = some (.iload_n 1, 1) := by decide +kernel
theorem q_159_40 : p_tb 159 40 = some (.iaload, 1) := by decide +kernel
theorem q_159_41 : p_tb 159 41 = some (.istore 4, 2) := by decide +kernel
theorem q_159_43 : p_tb 159 43 = some (.aload_n 0, 1) := by decide +kernel
theorem q_159_44 : p_tb 159 44 = some (.getfield 19, 3) := by decide +kernel
theorem q_159_47 : p_tb 159 47 = some (.getfield 94, 3) := by decide +kernel
theorem q_159_50 : p_tb 159 50 = some (.getfield 184, 3) := by decide +kernel
theorem q_159_53 : p_tb 159 53 = some (.iload_n 2, 1) := by decide +kernel
theorem q_159_54 : p_tb 159 54 = some (.iaload, 1) := by decide +kernel
theorem q_159_55 : p_tb 159 55 = some (.istore 5, 2) := by decide +kernel
theorem q_159_57 : p_tb 159 57 = some (.iload 4, 2) := by decide +kernel
theorem q_159_59 : p_tb 159 59 = some (.iload 5, 2) := by decide +kernel
theorem q_159_61 : p_tb 159 61 = some (.iadd, 1) := by decide +kernel
theorem q_159_62 : p_tb 159 62 = some (.ifCond .le 34, 3) := by decide +kernel
theorem q_159_65 : p_tb 159 65 = some (.iload_n 3, 1) := by decide +kernel
theorem q_159_66 : p_tb 159 66 = some (.iload 4, 2) := by decide +kernel
theorem q_159_68 : p_tb 159 68 = some (.if_icmp .le 28, 3) := by decide +kernel
theorem q_159_71 : p_tb 159 71 = some (.iload_n 3, 1) := by decide +kernel
theorem q_159_72 : p_tb 159 72 = some (.iload 5, 2) := by decide +kernel
theorem q_159_74 : p_tb 159 74 = some (.if_icmp .le 22, 3) := by decide +kernel
theorem q_159_77 : p_tb 159 77 = some (.aload_n 0, 1) := by decide +kernel
theorem q_159_78 : p_tb 159 78 = some (.getfield 19, 3) := by decide +kernel
theorem q_159_81 : p_tb 159 81 = some (.getfield 101, 3) := by decide +kernel
theorem q_159_84 : p_tb 159 84 = some (.iload_n 1, 1) := by decide +kernel
theorem q_159_85 : p_tb 159 85 = some (.iload_n 2, 1) := by decide +kernel
theorem q_159_86 : p_tb 159 86 = some (.invokevirtual 260, 3) := by decide +kernel
theorem q_159_89 : p_tb 159 89 = some (.ifCond .le 7, 3) := by decide +kernel
theorem q_159_92 : p_tb 159 92 = some (.iconst 1, 1) := by decide +kernel
theorem q_159_93 : p_tb 159 93 = some (.goto 4, 3) := by decide +kernel
theorem q_159_96 : p_tb 159 96 = some (.iconst 0, 1) := by decide +kernel
theorem q_159_97 : p_tb 159 97 = some (.ireturn, 1) := by decide +kernel
theorem t_fN_159_101 : p_f2 p_fN (p_mK 159) 101 = some (9, 1) := by decide +kernel
theorem t_fN_159_184 : p_f2 p_fN (p_mK 159) 184 = some (3, 10) := by decide +kernel
theorem t_fN_159_94 : p_f2 p_fN (p_mK 159) 94 = some (9, 0) := by decide +kernel
theorem t_ft_159_19 : p_f2 p_ft (p_mK 159) 19 = some (10, 1) := by decide +kernel
theorem t_mv_159_169 : p_f2 p_mv (p_mK 159) 169 = some 143 := by decide +kernel
theorem t_mv_159_260 : p_f2 p_mv (p_mK 159) 260 = some 49 := by decide +kernel
theorem q_160_0 : p_tb 160 0 = some (.iload 4, 2) := by decide +kernel
theorem q_160_2 : p_tb 160 2 = some (.iconst 2, 1) := by decide +kernel
theorem q_160_3 : p_tb 160 3 = some (.irem, 1) := by decide +kernel
theorem q_160_4 : p_tb 160 4 = some (.iconst 1, 1) := by decide +kernel
theorem q_160_5 : p_tb 160 5 = some (.if_icmp .ne 7, 3) := by decide +kernel
theorem q_160_8 : p_tb 160 8 = some (.iconst 1, 1) := by decide +kernel
theorem q_160_9 : p_tb 160 9 = some (.goto 4, 3) := by decide +kernel
theorem q_160_12 : p_tb 160 12 = some (.iconst 0, 1) := by decide +kernel
theorem q_160_13 : p_tb 160 13 = some (.istore 5, 2) := by decide +kernel
theorem q_160_15 : p_tb 160 15 = some (.aload_n 0, 1) := by decide +kernel
theorem q_160_16 : p_tb 160 16 = some (.getfield 19, 3) := by decide +kernel
theorem q_160_19 : p_tb 160 19 = some (.getfield 94, 3) := by decide +kernel
theorem q_160_22 : p_tb 160 22 = some (.getfield 184, 3) := by decide +kernel
theorem q_160_25 : p_tb 160 25 = some (.iload 5, 2) := by decide +kernel
theorem q_160_27 : p_tb 160 27 = some (.ifCond .eq 7, 3) := by decide +kernel
theorem q_160_30 : p_tb 160 30 = some (.iload_n 1, 1) := by decide +kernel
theorem q_160_31 : p_tb 160 31 = some (.goto 4, 3) := by decide +kernel
theorem q_160_34 : p_tb 160 34 = some (.iload_n 2, 1) := by decide +kernel
theorem q_160_35 : p_tb 160 35 = some (.iaload, 1) := by decide +kernel
theorem q_160_36 : p_tb 160 36 = some (.istore 6, 2) := by decide +kernel
theorem q_160_38 : p_tb 160 38 = some (.aload_n 0, 1) := by decide +kernel
theorem q_160_39 : p_tb 160 39 = some (.getfield 19, 3) := by decide +kernel
theorem q_160_42 : p_tb 160 42 = some (.getfield 94, 3) := by decide +kernel
theorem q_160_45 : p_tb 160 45 = some (.getfield 184, 3) := by decide +kernel
theorem q_160_48 : p_tb 160 48 = some (.iload 5, 2) := by decide +kernel
theorem q_160_50 : p_tb 160 50 = some (.ifCond .eq 7, 3) := by decide +kernel
theorem q_160_53 : p_tb 160 53 = some (.iload_n 2, 1) := by decide +kernel
theorem q_160_54 : p_tb 160 54 = some (.goto 4, 3) := by decide +kernel
theorem q_160_57 : p_tb 160 57 = some (.iload_n 1, 1) := by decide +kernel
theorem q_160_58 : p_tb 160 58 = some (.iaload, 1) := by decide +kernel
theorem q_160_59 : p_tb 160 59 = some (.istore 7, 2) := by decide +kernel
theorem q_160_61 : p_tb 160 61 = some (.aload_n 0, 1) := by decide +kernel
theorem q_160_62 : p_tb 160 62 = some (.getfield 69, 3) := by decide +kernel
theorem q_160_65 : p_tb 160 65 = some (.iload_n 3, 1) := by decide +kernel
theorem q_160_66 : p_tb 160 66 = some (.iload 6, 2) := by decide +kernel
theorem q_160_68 : p_tb 160 68 = some (.isub, 1) := by decide +kernel
theorem q_160_69 : p_tb 160 69 = some (.i2l, 1) := by decide +kernel
theorem q_160_70 : p_tb 160 70 = some (.iload_n 3, 1) := by decide +kernel
theorem q_160_71 : p_tb 160 71 = some (.iload 7, 2) := by decide +kernel
theorem q_160_73 : p_tb 160 73 = some (.iadd, 1) := by decide +kernel
theorem q_160_74 : p_tb 160 74 = some (.i2l, 1) := by decide +kernel
theorem q_160_75 : p_tb 160 75 = some (.invokevirtual 355, 3) := by decide +kernel
theorem q_160_78 : p_tb 160 78 = some (.return_, 1) := by decide +kernel
theorem t_fN_160_184 : p_f2 p_fN (p_mK 160) 184 = some (3, 10) := by decide +kernel
theorem t_fN_160_94 : p_f2 p_fN (p_mK 160) 94 = some (9, 0) := by decide +kernel
theorem t_ft_160_19 : p_f2 p_ft (p_mK 160) 19 = some (10, 1) := by decide +kernel
theorem t_ft_160_69 : p_f2 p_ft (p_mK 160) 69 = some (10, 9) := by decide +kernel
theorem t_mv_160_355 : p_f2 p_mv (p_mK 160) 355 = some 17 := by decide +kernel
/-- the byte that the tape has at a place, or -1 -/
def gta (M : pM) (i : Int) : Int := if 0 ≤ i ∧ i < o_i (M 1) 1 then (o_a (M 2) i.toNat &&& 255).toInt else -1
theorem gta_F {l : List Nat} {M M1 : pM} (F : Fr l M M1) (h1 : l.contains 1 = false) (h2 : l.contains 2 = false) (i : Int) : gta M1 i = gta M i := by
  unfold gta
  rw [F.at kd_1 h1, F.at kd_2 h2]
theorem n_255 {c : Int32} (h : c.toInt = 255) : c = 255 := n_eq.mpr (by rw [h]; rfl)
section ANDE
variable {G : pG} {al : Bool} {d j mc ms : Nat} {Kr : pK} {pc : Nat} {lv : List (Nat × Value)} {st : List Value} {N : Nat} {M : pM} {ce sl : Nat}
theorem PW.andE {x y : Int32} (h : p_tb j pc = some (.iand, 1)) (hy : 0 ≤ y.toInt) (k : ∀ z : Int32, z = x &&& y → 0 ≤ z.toInt → z.toInt ≤ y.toInt → PW G al d j mc ms Kr (pc + 1) lv (.int z :: st) N M ce sl) : PW G al d j mc ms Kr pc lv (.int y :: .int x :: st) N M ce sl := PW.iand h (k _ rfl (n_and hy).1 (n_and hy).2)
end ANDE
theorem c_X7_at_v (V : pM → Prop) (hV : Stab V) (G : pG) (Kr : pK) (M : pM) (I : Iv V M) (a1 : Int32) (hK : ∀ (x : Int32) (M1 : pM), Iv V M1 → Fr [] M M1 → -1 ≤ x.toInt → x.toInt ≤ 255 → (x.toInt = gta M1 a1.toInt) → Kr.1 (some (.int x)) 311 M1) : PW G false 0 75 (p_mc 75) (p_msl 75) Kr 0 (lv_args 0 [.ref 1, .int a1]) [] 311 M 0 0 := by
  have F : Fr [] M M := Fr.refl
  refine PW.iload_n q_75_0 rfl ?_
  refine PW.jz_lt q_75_1 rfl (fun h1 => ?_) (fun h1 => ?_)
  · skip
    refine PW.cI q_75_25 (by decide) fun c2 hc2 => ?_
    refine PW.rI q_75_26 rfl (by decide) (by decide) ?_
    exact hK c2 M I F (by omega) (by omega) (by unfold gta; rw [if_neg (by omega)]; omega)
  · skip
    refine PW.iload_n q_75_4 rfl ?_
    refine PW.aload_n q_75_5 rfl ?_
    refine PW.gI q_75_6 (Or.inl t_ft_75_26) gF_1_1 kd_1 I.1 (by decide) fun x3 fx3 hx3 kx3 => ?_
    refine PW.jc_ge q_75_9 rfl (fun h4 => ?_) (fun h4 => ?_)
    · skip
      refine PW.cI q_75_25 (by decide) fun c5 hc5 => ?_
      refine PW.rI q_75_26 rfl (by decide) (by decide) ?_
      exact hK c5 M I F (by omega) (by omega) (by unfold gta; have q := o_i_of fx3; rw [if_neg (by omega)]; omega)
    · skip
      refine PW.aload_n q_75_12 rfl ?_
      refine PW.gR 2 q_75_13 (Or.inl t_ft_75_9) gF_1_0 kd_1 I.1 (by decide) rfl ?_
      refine PW.iload_n q_75_16 rfl ?_
      refine PW.aY q_75_17 gA_2 kd_2 I.1 (by decide) (by omega) (by omega) fun x6 fx6 => ?_
      refine PW.cS q_75_18 (by decide) fun c7 hc7 => ?_
      refine PW.andE q_75_21 (by omega) fun x8 zx8 hx8 kx8 => ?_
      refine PW.goto q_75_22 rfl ?_
      refine PW.rI q_75_26 rfl (by decide) (by decide) ?_
      exact hK x8 M I F (by omega) (by omega) (by unfold gta; rw [o_i_of fx3, if_pos ⟨by omega, by omega⟩, fx6, zx8, n_255 hc7])
theorem c_X11_areWalkers (G : pG) (Kr : pK) (M : pM) (I : Iv gTT M) (a1 : Int32) (hl_a1 : 1 ≤ a1.toInt) (hh_a1 : a1.toInt ≤ 2) (hK : ∀ (x : Int32) (M1 : pM), Iv gTT M1 → Fr [] M M1 → 0 ≤ x.toInt → x.toInt ≤ 1 → (x.toInt = 0 ∨ (0 ≤ gta M 0 ∧ gta M 0 ≤ 5)) → Kr.1 (some (.int x)) 311 M1) : PW G false 1 151 (p_mc 151) (p_msl 151) Kr 0 (lv_args 0 [.ref 0, .int a1]) [] 311 M 0 0 := by
  have F : Fr [] M M := Fr.refl
  refine PW.aload_n q_151_0 rfl ?_
  refine PW.gR 1 q_151_1 (Or.inl t_ft_151_10) gF_0_0 kd_0 I.1 (by decide) rfl ?_
  refine PW.gI q_151_4 (Or.inr t_fN_151_73) gF_1_1 kd_1 I.1 (by decide) fun x1 fx1 hx1 kx1 => ?_
  have tl2 : o_i (M 1) 1 = x1.toInt := by rw [← Fr.at F kd_1 rfl]; exact o_i_of fx1
  refine PW.iload_n q_151_7 rfl ?_
  refine PW.jc_lt q_151_8 rfl (fun h3 => ?_) (fun h3 => ?_)
  · skip
    refine PW.cI q_151_23 (by decide) fun c4 hc4 => ?_
    refine PW.rZ q_151_24 rfl (by omega) (by omega) (by decide) (by decide) ?_
    exact hK c4 M I F (by omega) (by omega) (by omega)
  · skip
    refine PW.aload_n q_151_11 rfl ?_
    refine PW.gR 1 q_151_12 (Or.inl t_ft_151_10) gF_0_0 kd_0 I.1 (by decide) rfl ?_
    refine PW.gE q_151_15 (Or.inr t_fN_151_73) gF_1_1 kd_1 I.1 (by decide) fx1 ?_
    have tl5 : o_i (M 1) 1 = x1.toInt := by rw [← Fr.at F kd_1 rfl]; exact o_i_of fx1
    refine PW.cB q_151_18 (by decide) fun c6 hc6 => ?_
    refine PW.jc_le q_151_20 rfl (fun h7 => ?_) (fun h7 => ?_)
    · skip
      refine PW.cI q_151_25 (by decide) fun c8 hc8 => ?_
      refine PW.istore_n q_151_26 (by decide) ?_
      have L151_27_9 : ∀ (n : Nat) (ML151_27_9 : pM) (v10 : Int32), Iv (gTT) ML151_27_9 → Fr [] M ML151_27_9 → 0 ≤ v10.toInt → v10.toInt ≤ 940 → v10.toInt = 0 ∨ (0 ≤ gta M 0 ∧ gta M 0 ≤ 5) → (940 - v10.toInt).toNat = n → PW G false 1 151 (p_mc 151) (p_msl 151) Kr 27 [(0, .ref 0), (1, .int a1), (2, .int v10)] [] 311 ML151_27_9 0 0 := by
        intro n
        induction n using Nat.strongRecOn with
        | ind n ih_L151_27_9 =>
        intro ML151_27_9 v10 IML151_27_9 FML151_27_9 hbL151_27_90 hbL151_27_91 hbL151_27_92 hmL151_27_9
        refine PW.iload_n q_151_27 rfl ?_
        refine PW.aload_n q_151_28 rfl ?_
        refine PW.gR 1 q_151_29 (Or.inl t_ft_151_10) gF_0_0 kd_0 IML151_27_9.1 (by decide) rfl ?_
        refine PW.gI q_151_32 (Or.inr t_fN_151_73) gF_1_1 kd_1 IML151_27_9.1 (by decide) fun x11 fx11 hx11 kx11 => ?_
        have tl12 : o_i (M 1) 1 = x11.toInt := by rw [← Fr.at FML151_27_9 kd_1 rfl]; exact o_i_of fx11
        refine PW.jc_ge q_151_35 rfl (fun h13 => ?_) (fun h13 => ?_)
        · skip
          refine PW.cI q_151_61 (by decide) fun c14 hc14 => ?_
          refine PW.rZ q_151_62 rfl (by omega) (by omega) (by decide) (by decide) ?_
          exact hK c14 ML151_27_9 IML151_27_9 FML151_27_9 (by omega) (by omega) (by omega)
        · skip
          refine PW.aload_n q_151_38 rfl ?_
          refine PW.aload_n q_151_39 rfl ?_
          refine PW.gR 1 q_151_40 (Or.inl t_ft_151_10) gF_0_0 kd_0 IML151_27_9.1 (by decide) rfl ?_
          refine PW.iload_n q_151_43 rfl ?_
          refine PW.cV (as := [_]) (rest := [_]) q_151_44 t_mv_151_383 kd_1 IML151_27_9.1 (by decide) rfl (by decide) rfl rfl (Nat.le_of_ble_eq_true rfl) (Nat.le_of_ble_eq_true rfl) (by decide) (by decide) ?_
          refine PW.up (by decide) (c_X7_at_v (gTT) (Stab0) G _ ML151_27_9 IML151_27_9 v10 fun x16 M15 IM15 GM15 hx16 kx16 PM15 => ?_)
          have FM15 := Fr.trans FML151_27_9 GM15 (rfl)
          have tq17 : v10.toInt = 0 → x16.toInt = gta M 0 := fun e => by rw [PM15, gta_F FM15 rfl rfl, e]
          refine PW.cV (as := [_]) (rest := []) q_151_47 t_mv_151_169 kd_0 IM15.1 (by decide) rfl (by decide) rfl rfl (Nat.le_of_ble_eq_true rfl) (Nat.le_of_ble_eq_true rfl) (by decide) (by decide) ?_
          refine PW.iload_n q_143_0 rfl ?_
          refine PW.jz_lt q_143_1 rfl (fun h18 => ?_) (fun h18 => ?_)
          · skip
            refine PW.cI q_143_22 (by decide) fun c19 hc19 => ?_
            refine PW.rZ q_143_23 rfl (by omega) (by omega) (by decide) (by decide) ?_
            refine PW.jz_ne q_151_50 rfl (fun h20 => False.elim (by omega)) (fun h20 => ?_)
            refine PW.cI q_151_53 (by decide) fun c21 hc21 => ?_
            refine PW.rZ q_151_54 rfl (by omega) (by omega) (by decide) (by decide) ?_
            exact hK c21 M15 IM15 FM15 (by omega) (by omega) (by omega)
          · skip
            refine PW.iload_n q_143_4 rfl ?_
            refine PW.aload_n q_143_5 rfl ?_
            refine PW.gR 3 q_143_6 (Or.inl t_ft_143_19) gF_0_1 kd_0 IM15.1 (by decide) rfl ?_
            refine PW.gR 4 q_143_9 (Or.inr t_fN_143_94) gF_3_0 kd_3 IM15.1 (by decide) rfl ?_
            refine PW.gI q_143_12 (Or.inr t_fN_143_136) gF_4_6 kd_4 IM15.1 (by decide) fun x22 fx22 hx22 kx22 => ?_
            refine PW.jc_ge q_143_15 rfl (fun h23 => ?_) (fun h23 => ?_)
            · skip
              refine PW.cI q_143_22 (by decide) fun c24 hc24 => ?_
              refine PW.rZ q_143_23 rfl (by omega) (by omega) (by decide) (by decide) ?_
              refine PW.jz_ne q_151_50 rfl (fun h25 => False.elim (by omega)) (fun h25 => ?_)
              refine PW.cI q_151_53 (by decide) fun c26 hc26 => ?_
              refine PW.rZ q_151_54 rfl (by omega) (by omega) (by decide) (by decide) ?_
              exact hK c26 M15 IM15 FM15 (by omega) (by omega) (by omega)
            · skip
              refine PW.cI q_143_18 (by decide) fun c27 hc27 => ?_
              refine PW.goto q_143_19 rfl ?_
              refine PW.rZ q_143_23 rfl (by omega) (by omega) (by decide) (by decide) ?_
              refine PW.jz_ne q_151_50 rfl (fun h28 => ?_) (fun h28 => False.elim (by omega))
              refine PW.incN q_151_55 rfl (by decide) (by decide) (by omega) (by omega) fun x29 hx29 => ?_
              refine PW.goto q_151_58 rfl ?_
              refine PW.lvS (lk1 rfl (lk1 rfl (lk1 rfl lk0))) (ih_L151_27_9 _ ?_ M15 x29 IM15 FM15 (by omega) (by omega) (by omega) rfl)
              omega
      exact PW.lvS (lk1 rfl (lk1 rfl (lk1 rfl lk0))) (L151_27_9 _ M c8 I F (by omega) (by omega) (by omega) rfl)
    · skip
      refine PW.cI q_151_23 (by decide) fun c30 hc30 => ?_
      refine PW.rZ q_151_24 rfl (by omega) (by omega) (by decide) (by decide) ?_
      exact hK c30 M I F (by omega) (by omega) (by omega)
theorem c_X11_firstFalseTurn (G : pG) (Kr : pK) (M : pM) (I : Iv gTT M) (a1 : Int32) (hl_a1 : 0 ≤ a1.toInt) (hh_a1 : a1.toInt ≤ 1) (hK : ∀ (x : Int32) (M1 : pM), Iv gTT M1 → Fr [5, 7, 9, 10, 11, 12, 13] M M1 → Kr.1 (some (.int x)) 311 M1) : PW G false 5 152 (p_mc 152) (p_msl 152) Kr 0 (lv_args 0 [.ref 0, .int a1]) [] 311 M 0 0 := by
  have F : Fr [5, 7, 9, 10, 11, 12, 13] M M := Fr.refl
  refine PW.aload_n q_152_0 rfl ?_
  refine PW.cI q_152_1 (by decide) fun c1 hc1 => ?_
  refine PW.cV (as := [_]) (rest := []) q_152_2 t_mv_152_393 kd_0 I.1 (by decide) rfl (by decide) rfl rfl (Nat.le_of_ble_eq_true rfl) (Nat.le_of_ble_eq_true rfl) (by decide) (by decide) ?_
  refine PW.up (by decide) (c_X11_areWalkers G _ M I c1 (by omega) (by omega) fun x3 M2 IM2 GM2 hx3 kx3 PM2 => ?_)
  have FM2 := Fr.trans F GM2 (rfl)
  refine PW.jz_ne q_152_5 rfl (fun h4 => ?_) (fun h4 => ?_)
  · skip
    refine PW.aload_n q_152_11 rfl ?_
    refine PW.cV (as := []) (rest := []) q_152_12 t_mv_152_140 kd_0 IM2.1 (by decide) rfl (by decide) rfl rfl (Nat.le_of_ble_eq_true rfl) (Nat.le_of_ble_eq_true rfl) (by decide) (by decide) ?_
    refine PW.up (by decide) (c_X11_foreseen G _ M2 IM2  fun M5 IM5 GM5 => ?_)
    have FM5 := Fr.trans FM2 GM5 (rfl)
    refine PW.astore_n q_152_15 (by decide) ?_
    refine PW.aload_n q_152_16 rfl ?_
    refine PW.gR 283 q_152_17 (Or.inr t_fN_152_206) gF_5_4 kd_275 IM5.1 (by decide) rfl ?_
    refine PW.iload_n q_152_20 rfl ?_
    refine PW.aRk q_152_21 rfl (by decide) (by decide) kd_283 IM5.1 (by decide) (by omega) (by omega) fun b6 hk_b6 e_b6 => ?_
    refine PW.astore_n q_152_22 (by decide) ?_
    refine PW.aload_n q_152_23 rfl ?_
    refine PW.gI q_152_24 (Or.inr t_fN_152_218) gF_9_3 hk_b6 IM5.1 (by decide) fun x7 fx7 hx7 kx7 => ?_
    refine PW.istore q_152_27 (by decide) ?_
    refine PW.cI q_152_29 (by decide) fun c8 hc8 => ?_
    refine PW.istore q_152_30 (by decide) ?_
    refine PW.cI q_152_32 (by decide) fun c9 hc9 => ?_
    refine PW.istore q_152_33 (by decide) ?_
    have L152_35_10 : ∀ (n : Nat) (ML152_35_10 : pM) (v11 v12 : Int32), Iv (gTT) ML152_35_10 → Fr [5, 7, 9, 10, 11, 12, 13] M ML152_35_10 → 0 ≤ v11.toInt → v11.toInt ≤ 600 → 0 ≤ v12.toInt → v12.toInt ≤ 300 → (300 - v12.toInt).toNat = n → PW G false 5 152 (p_mc 152) (p_msl 152) Kr 35 [(0, .ref 0), (1, .int a1), (2, .ref 275), (3, .ref b6), (4, .int x7), (5, .int v11), (6, .int v12)] [] 311 ML152_35_10 0 0 := by
      intro n
      induction n using Nat.strongRecOn with
      | ind n ih_L152_35_10 =>
      intro ML152_35_10 v11 v12 IML152_35_10 FML152_35_10 hbL152_35_100 hbL152_35_101 hbL152_35_102 hbL152_35_103 hmL152_35_10
      refine PW.iload q_152_35 rfl ?_
      refine PW.cS q_152_37 (by decide) fun c13 hc13 => ?_
      have J107_15 : ∀ (MJ107_15 : pM), Iv (gTT) MJ107_15 → Fr [5, 7, 9, 10, 11, 12, 13] M MJ107_15 → PW G false 5 152 (p_mc 152) (p_msl 152) Kr 107 [(0, .ref 0), (1, .int a1), (2, .ref 275), (3, .ref b6), (4, .int x7), (5, .int v11), (6, .int v12)] [] 311 MJ107_15 0 0 := by
        intro MJ107_15  IMJ107_15 FMJ107_15 
        refine PW.iload q_152_107 rfl ?_
        refine PW.aload_n q_152_109 rfl ?_
        refine PW.gR 1 q_152_110 (Or.inl t_ft_152_10) gF_0_0 kd_0 IMJ107_15.1 (by decide) rfl ?_
        refine PW.gI q_152_113 (Or.inr t_fN_152_73) gF_1_1 kd_1 IMJ107_15.1 (by decide) fun x16 fx16 hx16 kx16 => ?_
        refine PW.jc_ge q_152_116 rfl (fun h17 => ?_) (fun h17 => ?_)
        · skip
          refine PW.cI q_152_124 (by decide) fun c18 hc18 => ?_
          refine PW.rI q_152_125 rfl (by decide) (by decide) ?_
          exact hK c18 MJ107_15 IMJ107_15 FMJ107_15
        · skip
          refine PW.iload q_152_119 rfl ?_
          refine PW.goto q_152_121 rfl ?_
          refine PW.rI q_152_125 rfl (by decide) (by decide) ?_
          exact hK v11 MJ107_15 IMJ107_15 FMJ107_15
      refine PW.jc_ge q_152_40 rfl (fun h14 => ?_) (fun h14 => ?_)
      · skip
        exact PW.lvS (lk1 rfl (lk1 rfl (lk1 rfl (lk1 rfl (lk1 rfl (lk1 rfl (lk1 rfl lk0))))))) (J107_15 ML152_35_10  IML152_35_10 FML152_35_10 )
      · skip
        refine PW.iload q_152_43 rfl ?_
        refine PW.aload_n q_152_45 rfl ?_
        refine PW.gR 1 q_152_46 (Or.inl t_ft_152_10) gF_0_0 kd_0 IML152_35_10.1 (by decide) rfl ?_
        refine PW.gI q_152_49 (Or.inr t_fN_152_73) gF_1_1 kd_1 IML152_35_10.1 (by decide) fun x19 fx19 hx19 kx19 => ?_
        refine PW.jc_ge q_152_52 rfl (fun h20 => ?_) (fun h20 => ?_)
        · skip
          exact PW.lvS (lk1 rfl (lk1 rfl (lk1 rfl (lk1 rfl (lk1 rfl (lk1 rfl (lk1 rfl lk0))))))) (J107_15 ML152_35_10  IML152_35_10 FML152_35_10 )
        · skip
          refine PW.aload_n q_152_55 rfl ?_
          refine PW.aload_n q_152_56 rfl ?_
          refine PW.gR 3 q_152_57 (Or.inl t_ft_152_19) gF_0_1 kd_0 IML152_35_10.1 (by decide) rfl ?_
          refine PW.gR 4 q_152_60 (Or.inr t_fN_152_94) gF_3_0 kd_3 IML152_35_10.1 (by decide) rfl ?_
          refine PW.cV (as := [_]) (rest := []) q_152_63 t_mv_152_317 kd_275 IML152_35_10.1 (by decide) rfl (by decide) rfl rfl (Nat.le_of_ble_eq_true rfl) (Nat.le_of_ble_eq_true rfl) (by decide) (by decide) ?_
          refine PW.up (by decide) (c_X5_pass G _ ML152_35_10 IML152_35_10 275 kd_275 4 kd_4 fun x22 M21 IM21 GM21 hx22 kx22 => ?_)
          have FM21 := Fr.trans FML152_35_10 GM21 (rfl)
          refine PW.pop q_152_66 rfl ?_
          refine PW.aload_n q_152_67 rfl ?_
          refine PW.gI q_152_68 (Or.inr t_fN_152_218) gF_9_3 hk_b6 IM21.1 (by decide) fun x23 fx23 hx23 kx23 => ?_
          refine PW.iload q_152_71 rfl ?_
          refine PW.subN q_152_73 (by omega) (by omega) fun x24 hx24 => ?_
          refine PW.iload q_152_74 rfl ?_
          have J101_26 : ∀ (MJ101_26 : pM) (v27 : Int32), Iv (gTT) MJ101_26 → Fr [5, 7, 9, 10, 11, 12, 13] M MJ101_26 → 0 ≤ v27.toInt → v27.toInt ≤ 600 → o_f (MJ101_26 1) 1 = .int x19 → o_f (MJ101_26 b6) 3 = .int x23 → PW G false 5 152 (p_mc 152) (p_msl 152) Kr 101 [(0, .ref 0), (1, .int a1), (2, .ref 275), (3, .ref b6), (4, .int x7), (5, .int v27), (6, .int v12)] [] 311 MJ101_26 0 0 := by
            intro MJ101_26 v27 IMJ101_26 FMJ101_26 hbJ101_260 hbJ101_261 hbJ101_262 hbJ101_263
            refine PW.incN q_152_101 rfl (by decide) (by decide) (by omega) (by omega) fun x28 hx28 => ?_
            refine PW.goto q_152_104 rfl ?_
            refine PW.lvS (lk1 rfl (lk1 rfl (lk1 rfl (lk1 rfl (lk1 rfl (lk1 rfl (lk1 rfl lk0))))))) (ih_L152_35_10 _ ?_ MJ101_26 v27 x28 IMJ101_26 FMJ101_26 (by omega) (by omega) (by omega) (by omega) rfl)
            omega
          refine PW.jc_le q_152_76 rfl (fun h25 => ?_) (fun h25 => ?_)
          · skip
            exact PW.lvS (lk1 rfl (lk1 rfl (lk1 rfl (lk1 rfl (lk1 rfl (lk1 rfl (lk1 rfl lk0))))))) (J101_26 M21 v11 IM21 FM21 (by omega) (by omega) ((congrArg (fun e => o_f e 1) (Fr.at GM21 kd_1 (by decide))).trans fx19) fx23)
          · skip
            refine PW.aload_n q_152_79 rfl ?_
            refine PW.gI q_152_80 (Or.inr t_fN_152_227) gF_9_6 hk_b6 IM21.1 (by decide) fun x29 fx29 hx29 kx29 => ?_
            refine PW.aload_n q_152_83 rfl ?_
            refine PW.gR 1 q_152_84 (Or.inl t_ft_152_10) gF_0_0 kd_0 IM21.1 (by decide) rfl ?_
            refine PW.iload q_152_87 rfl ?_
            refine PW.cV (as := [_]) (rest := [_]) q_152_89 t_mv_152_383 kd_1 IM21.1 (by decide) rfl (by decide) rfl rfl (Nat.le_of_ble_eq_true rfl) (Nat.le_of_ble_eq_true rfl) (by decide) (by decide) ?_
            refine PW.up (by decide) (c_X7_at (gTT) (Stab0) G _ M21 IM21 v11 fun x31 M30 IM30 GM30 hx31 kx31 => ?_)
            have FM30 := Fr.trans FM21 GM30 (rfl)
            refine PW.jc_eq q_152_92 rfl (fun h32 => ?_) (fun h32 => ?_)
            · skip
              refine PW.incN q_152_98 rfl (by decide) (by decide) (by omega) (by omega) fun x33 hx33 => ?_
              exact PW.lvS (lk1 rfl (lk1 rfl (lk1 rfl (lk1 rfl (lk1 rfl (lk1 rfl (lk1 rfl lk0))))))) (J101_26 M30 x33 IM30 FM30 (by omega) (by omega) ((congrArg (fun e => o_f e 1) (Fr.at GM30 kd_1 (by decide))).trans ((congrArg (fun e => o_f e 1) (Fr.at GM21 kd_1 (by decide))).trans fx19)) ((congrArg (fun e => o_f e 3) (Fr.at GM30 hk_b6 (by decide))).trans fx23))
            · skip
              refine PW.iload q_152_95 rfl ?_
              refine PW.rI q_152_97 rfl (by decide) (by decide) ?_
              exact hK v11 M30 IM30 FM30
    exact PW.lvS (lk1 rfl (lk1 rfl (lk1 rfl (lk1 rfl (lk1 rfl (lk1 rfl (lk1 rfl lk0))))))) (L152_35_10 _ M5 c8 c9 IM5 FM5 (by omega) (by omega) (by omega) (by omega) rfl)
  · skip
    refine PW.cB q_152_8 (by decide) fun c34 hc34 => ?_
    refine PW.rI q_152_10 rfl (by decide) (by decide) ?_
    exact hK c34 M2 IM2 FM2
theorem c_X11_judge (G : pG) (Kr : pK) (M : pM) (I : Iv gTT M) (a1 : Int32) (hK : ∀ (x : Int32) (M1 : pM), Iv gTT M1 → Fr [1, 5, 7, 9, 10, 11, 12, 13] M M1 → Kr.1 (some (.int x)) 311 M1) : PW G false 6 136 (p_mc 136) (p_msl 136) Kr 0 (lv_args 0 [.ref 0, .int a1]) [] 311 M 0 0 := by
  have F : Fr [1, 5, 7, 9, 10, 11, 12, 13] M M := Fr.refl
  refine PW.aload_n q_136_0 rfl ?_
  refine PW.iload_n q_136_1 rfl ?_
  refine PW.cV (as := [_]) (rest := []) q_136_2 t_mv_136_203 kd_0 I.1 (by decide) rfl (by decide) rfl rfl (Nat.le_of_ble_eq_true rfl) (Nat.le_of_ble_eq_true rfl) (by decide) (by decide) ?_
  refine PW.iload_n q_144_0 rfl ?_
  refine PW.jz_lt q_144_1 rfl (fun h1 => ?_) (fun h1 => ?_)
  · skip
    refine PW.cI q_144_22 (by decide) fun c2 hc2 => ?_
    refine PW.rZ q_144_23 rfl (by omega) (by omega) (by decide) (by decide) ?_
    refine PW.jz_eq q_136_5 rfl (fun h3 => ?_) (fun h3 => False.elim (by omega))
    refine PW.cB q_136_16 (by decide) fun c4 hc4 => ?_
    refine PW.istore_n q_136_18 (by decide) ?_
    refine PW.aload_n q_136_19 rfl ?_
    refine PW.gR 1 q_136_20 (Or.inl t_ft_136_10) gF_0_0 kd_0 I.1 (by decide) rfl ?_
    refine PW.cI q_136_23 (by decide) fun c5 hc5 => ?_
    refine PW.pI q_136_24 (Or.inr t_fN_136_73) gF_1_1 gP_1_1 kd_1 Stab0 I (by decide) rfl (by omega) (by omega) fun M6 IM6 fM6 UM6 => ?_
    have FM6 := Fr.pu F UM6.1 kd_1 (rfl : List.contains [1, 5, 7, 9, 10, 11, 12, 13] 1 = true)
    refine PW.iload_n q_136_27 rfl ?_
    refine PW.rI q_136_28 rfl (by decide) (by decide) ?_
    exact hK c4 M6 IM6 FM6
  · skip
    refine PW.iload_n q_144_4 rfl ?_
    refine PW.aload_n q_144_5 rfl ?_
    refine PW.gR 3 q_144_6 (Or.inl t_ft_144_19) gF_0_1 kd_0 I.1 (by decide) rfl ?_
    refine PW.gR 4 q_144_9 (Or.inr t_fN_144_94) gF_3_0 kd_3 I.1 (by decide) rfl ?_
    refine PW.gI q_144_12 (Or.inr t_fN_144_249) gF_4_7 kd_4 I.1 (by decide) fun x7 fx7 hx7 kx7 => ?_
    refine PW.jc_ge q_144_15 rfl (fun h8 => ?_) (fun h8 => ?_)
    · skip
      refine PW.cI q_144_22 (by decide) fun c9 hc9 => ?_
      refine PW.rZ q_144_23 rfl (by omega) (by omega) (by decide) (by decide) ?_
      refine PW.jz_eq q_136_5 rfl (fun h10 => ?_) (fun h10 => False.elim (by omega))
      refine PW.cB q_136_16 (by decide) fun c11 hc11 => ?_
      refine PW.istore_n q_136_18 (by decide) ?_
      refine PW.aload_n q_136_19 rfl ?_
      refine PW.gR 1 q_136_20 (Or.inl t_ft_136_10) gF_0_0 kd_0 I.1 (by decide) rfl ?_
      refine PW.cI q_136_23 (by decide) fun c12 hc12 => ?_
      refine PW.pI q_136_24 (Or.inr t_fN_136_73) gF_1_1 gP_1_1 kd_1 Stab0 I (by decide) rfl (by omega) (by omega) fun M13 IM13 fM13 UM13 => ?_
      have FM13 := Fr.pu F UM13.1 kd_1 (rfl : List.contains [1, 5, 7, 9, 10, 11, 12, 13] 1 = true)
      refine PW.iload_n q_136_27 rfl ?_
      refine PW.rI q_136_28 rfl (by decide) (by decide) ?_
      exact hK c11 M13 IM13 FM13
    · skip
      refine PW.cI q_144_18 (by decide) fun c14 hc14 => ?_
      refine PW.goto q_144_19 rfl ?_
      refine PW.rZ q_144_23 rfl (by omega) (by omega) (by decide) (by decide) ?_
      refine PW.jz_eq q_136_5 rfl (fun h15 => False.elim (by omega)) (fun h15 => ?_)
      refine PW.aload_n q_136_8 rfl ?_
      refine PW.iload_n q_136_9 rfl ?_
      refine PW.cV (as := [_]) (rest := []) q_136_10 t_mv_136_338 kd_0 I.1 (by decide) rfl (by decide) rfl rfl (Nat.le_of_ble_eq_true rfl) (Nat.le_of_ble_eq_true rfl) (by decide) (by decide) ?_
      refine PW.up (by decide) (c_X11_firstFalseTurn G _ M I a1 (by omega) (by omega) fun x17 M16 IM16 GM16 => ?_)
      have FM16 := Fr.trans F GM16 (rfl)
      refine PW.goto q_136_13 rfl ?_
      refine PW.istore_n q_136_18 (by decide) ?_
      refine PW.aload_n q_136_19 rfl ?_
      refine PW.gR 1 q_136_20 (Or.inl t_ft_136_10) gF_0_0 kd_0 IM16.1 (by decide) rfl ?_
      refine PW.cI q_136_23 (by decide) fun c18 hc18 => ?_
      refine PW.pI q_136_24 (Or.inr t_fN_136_73) gF_1_1 gP_1_1 kd_1 Stab0 IM16 (by decide) rfl (by omega) (by omega) fun M19 IM19 fM19 UM19 => ?_
      have FM19 := Fr.pu FM16 UM19.1 kd_1 (rfl : List.contains [1, 5, 7, 9, 10, 11, 12, 13] 1 = true)
      refine PW.iload_n q_136_27 rfl ?_
      refine PW.rI q_136_28 rfl (by decide) (by decide) ?_
      exact hK x17 M19 IM19 FM19
theorem c_X11_areTurns (G : pG) (Kr : pK) (M : pM) (I : Iv gTT M)  (hK : ∀ (x : Int32) (M1 : pM), Iv gTT M1 → Fr [] M M1 → 0 ≤ x.toInt → x.toInt ≤ 1 → (x.toInt = 0 ∨ (0 ≤ gta M 0 ∧ gta M 0 ≤ 5)) → Kr.1 (some (.int x)) 311 M1) : PW G false 2 153 (p_mc 153) (p_msl 153) Kr 0 (lv_args 0 [.ref 0]) [] 311 M 0 0 := by
  have F : Fr [] M M := Fr.refl
  refine PW.aload_n q_153_0 rfl ?_
  refine PW.cI q_153_1 (by decide) fun c1 hc1 => ?_
  refine PW.cV (as := [_]) (rest := []) q_153_2 t_mv_153_393 kd_0 I.1 (by decide) rfl (by decide) rfl rfl (Nat.le_of_ble_eq_true rfl) (Nat.le_of_ble_eq_true rfl) (by decide) (by decide) ?_
  refine PW.up (by decide) (c_X11_areWalkers G _ M I c1 (by omega) (by omega) fun x3 M2 IM2 GM2 hx3 kx3 PM2 => ?_)
  have FM2 := Fr.trans F GM2 (rfl)
  refine PW.jz_ne q_153_5 rfl (fun h4 => ?_) (fun h4 => ?_)
  · skip
    refine PW.cI q_153_10 (by decide) fun c5 hc5 => ?_
    refine PW.istore_n q_153_11 (by decide) ?_
    have L153_12_6 : ∀ (n : Nat) (ML153_12_6 : pM) (v7 : Int32), Iv (gTT) ML153_12_6 → Fr [] M ML153_12_6 → 1 ≤ v7.toInt → v7.toInt ≤ 940 → (940 - v7.toInt).toNat = n → PW G false 2 153 (p_mc 153) (p_msl 153) Kr 12 [(0, .ref 0), (1, .int v7)] [] 311 ML153_12_6 0 0 := by
      intro n
      induction n using Nat.strongRecOn with
      | ind n ih_L153_12_6 =>
      intro ML153_12_6 v7 IML153_12_6 FML153_12_6 hbL153_12_60 hbL153_12_61 hmL153_12_6
      refine PW.iload_n q_153_12 rfl ?_
      refine PW.aload_n q_153_13 rfl ?_
      refine PW.gR 1 q_153_14 (Or.inl t_ft_153_10) gF_0_0 kd_0 IML153_12_6.1 (by decide) rfl ?_
      refine PW.gI q_153_17 (Or.inr t_fN_153_73) gF_1_1 kd_1 IML153_12_6.1 (by decide) fun x8 fx8 hx8 kx8 => ?_
      refine PW.jc_ge q_153_20 rfl (fun h9 => ?_) (fun h9 => ?_)
      · skip
        refine PW.cI q_153_52 (by decide) fun c10 hc10 => ?_
        refine PW.rZ q_153_53 rfl (by omega) (by omega) (by decide) (by decide) ?_
        exact hK c10 ML153_12_6 IML153_12_6 FML153_12_6 (by omega) (by omega) (by omega)
      · skip
        refine PW.aload_n q_153_23 rfl ?_
        refine PW.gR 1 q_153_24 (Or.inl t_ft_153_10) gF_0_0 kd_0 IML153_12_6.1 (by decide) rfl ?_
        refine PW.iload_n q_153_27 rfl ?_
        refine PW.cV (as := [_]) (rest := []) q_153_28 t_mv_153_383 kd_1 IML153_12_6.1 (by decide) rfl (by decide) rfl rfl (Nat.le_of_ble_eq_true rfl) (Nat.le_of_ble_eq_true rfl) (by decide) (by decide) ?_
        refine PW.up (by decide) (c_X7_at (gTT) (Stab0) G _ ML153_12_6 IML153_12_6 v7 fun x12 M11 IM11 GM11 hx12 kx12 => ?_)
        have FM11 := Fr.trans FML153_12_6 GM11 (rfl)
        refine PW.aload_n q_153_31 rfl ?_
        refine PW.gR 1 q_153_32 (Or.inl t_ft_153_10) gF_0_0 kd_0 IM11.1 (by decide) rfl ?_
        refine PW.iload_n q_153_35 rfl ?_
        refine PW.cI q_153_36 (by decide) fun c13 hc13 => ?_
        refine PW.subN q_153_37 (by omega) (by omega) fun x14 hx14 => ?_
        refine PW.cV (as := [_]) (rest := [_]) q_153_38 t_mv_153_383 kd_1 IM11.1 (by decide) rfl (by decide) rfl rfl (Nat.le_of_ble_eq_true rfl) (Nat.le_of_ble_eq_true rfl) (by decide) (by decide) ?_
        refine PW.up (by decide) (c_X7_at (gTT) (Stab0) G _ M11 IM11 x14 fun x16 M15 IM15 GM15 hx16 kx16 => ?_)
        have FM15 := Fr.trans FM11 GM15 (rfl)
        refine PW.jc_ne q_153_41 rfl (fun h17 => ?_) (fun h17 => ?_)
        · skip
          refine PW.incN q_153_46 rfl (by decide) (by decide) (by omega) (by omega) fun x18 hx18 => ?_
          refine PW.goto q_153_49 rfl ?_
          refine PW.lvS (lk1 rfl (lk1 rfl lk0)) (ih_L153_12_6 _ ?_ M15 x18 IM15 FM15 (by omega) (by omega) rfl)
          omega
        · skip
          refine PW.cI q_153_44 (by decide) fun c19 hc19 => ?_
          refine PW.rZ q_153_45 rfl (by omega) (by omega) (by decide) (by decide) ?_
          exact hK c19 M15 IM15 FM15 (by omega) (by omega) (by omega)
    exact PW.lvS (lk1 rfl (lk1 rfl lk0)) (L153_12_6 _ M2 c5 IM2 FM2 (by omega) (by omega) rfl)
  · skip
    refine PW.cI q_153_8 (by decide) fun c20 hc20 => ?_
    refine PW.rZ q_153_9 rfl (by omega) (by omega) (by decide) (by decide) ?_
    exact hK c20 M2 IM2 FM2 (by omega) (by omega) (by omega)
theorem c_X11_fits (G : pG) (Kr : pK) (M : pM) (I : Iv gTT M) (a1 : Int32) (hl_a1 : 0 ≤ a1.toInt) (hh_a1 : a1.toInt ≤ 2) (hp_0 : 0 ≤ gta M 0) (hp_1 : gta M 0 ≤ 5) (hK : ∀ (x : Int32) (M1 : pM), Iv gTT M1 → Fr [5, 7, 9, 10, 11, 12, 13] M M1 → 0 ≤ x.toInt → x.toInt ≤ 1 → Kr.1 (some (.int x)) 311 M1) : PW G false 6 155 (p_mc 155) (p_msl 155) Kr 0 (lv_args 0 [.ref 0, .int a1]) [] 311 M 0 0 := by
  have F : Fr [5, 7, 9, 10, 11, 12, 13] M M := Fr.refl
  refine PW.aload_n q_155_0 rfl ?_
  refine PW.cV (as := []) (rest := []) q_155_1 t_mv_155_399 kd_0 I.1 (by decide) rfl (by decide) rfl rfl (Nat.le_of_ble_eq_true rfl) (Nat.le_of_ble_eq_true rfl) (by decide) (by decide) ?_
  refine PW.up (by decide) (c_X11_foreseenQuiet G _ M I  fun M1 IM1 GM1 => ?_)
  have FM1 := Fr.trans F GM1 (rfl)
  have tg2 : gta M1 0 = gta M 0 := gta_F GM1 rfl rfl 0
  refine PW.astore_n q_155_4 (by decide) ?_
  refine PW.aload_n q_155_5 rfl ?_
  refine PW.gR 283 q_155_6 (Or.inr t_fN_155_206) gF_5_4 kd_275 IM1.1 (by decide) rfl ?_
  refine PW.cI q_155_9 (by decide) fun c3 hc3 => ?_
  refine PW.aRk q_155_10 rfl (by decide) (by decide) kd_283 IM1.1 (by decide) (by omega) (by omega) fun b4 hk_b4 e_b4 => ?_
  refine PW.astore_n q_155_11 (by decide) ?_
  refine PW.aload_n q_155_12 rfl ?_
  refine PW.aload_n q_155_13 rfl ?_
  refine PW.gR 1 q_155_14 (Or.inl t_ft_155_10) gF_0_0 kd_0 IM1.1 (by decide) rfl ?_
  refine PW.cI q_155_17 (by decide) fun c5 hc5 => ?_
  refine PW.cV (as := [_]) (rest := [_]) q_155_18 t_mv_155_383 kd_1 IM1.1 (by decide) rfl (by decide) rfl rfl (Nat.le_of_ble_eq_true rfl) (Nat.le_of_ble_eq_true rfl) (by decide) (by decide) ?_
  refine PW.up (by decide) (c_X7_at_v (gTT) (Stab0) G _ M1 IM1 c5 fun x7 M6 IM6 GM6 hx7 kx7 PM6 => ?_)
  have FM6 := Fr.trans FM1 GM6 (rfl)
  have tg8 : gta M6 0 = gta M1 0 := gta_F GM6 rfl rfl 0
  have tq9 : x7.toInt = gta M 0 := by rw [PM6, gta_F FM6 rfl rfl]; congr 1
  refine PW.cV (as := [_]) (rest := []) q_155_21 t_mv_155_402 hk_b4 IM6.1 (by decide) rfl (by decide) rfl rfl (Nat.le_of_ble_eq_true rfl) (Nat.le_of_ble_eq_true rfl) (by decide) (by decide) ?_
  refine PW.up (by decide) (c_X0_sitBy (gTT) (Stab0) G _ M6 IM6 b4 hk_b4 x7 (by omega) (by omega) fun M10 IM10 GM10 => ?_)
  have FM10 := Fr.trans FM6 GM10 (rfl)
  have tg11 : gta M10 0 = gta M6 0 := gta_F GM10 rfl rfl 0
  refine PW.cI q_155_24 (by decide) fun c12 hc12 => ?_
  refine PW.istore q_155_25 (by decide) ?_
  have L155_27_13 : ∀ (n : Nat) (ML155_27_13 : pM) (v14 : Int32), Iv (gTT) ML155_27_13 → Fr [5, 7, 9, 10, 11, 12, 13] M ML155_27_13 → 1 ≤ v14.toInt → v14.toInt ≤ 940 → (940 - v14.toInt).toNat = n → PW G false 6 155 (p_mc 155) (p_msl 155) Kr 27 [(0, .ref 0), (1, .int a1), (2, .ref 275), (3, .ref b4), (4, .int v14)] [] 311 ML155_27_13 0 0 := by
    intro n
    induction n using Nat.strongRecOn with
    | ind n ih_L155_27_13 =>
    intro ML155_27_13 v14 IML155_27_13 FML155_27_13 hbL155_27_130 hbL155_27_131 hmL155_27_13
    have tg15 : gta ML155_27_13 0 = gta M 0 := gta_F FML155_27_13 rfl rfl 0
    refine PW.iload q_155_27 rfl ?_
    refine PW.aload_n q_155_29 rfl ?_
    refine PW.gR 1 q_155_30 (Or.inl t_ft_155_10) gF_0_0 kd_0 IML155_27_13.1 (by decide) rfl ?_
    refine PW.gI q_155_33 (Or.inr t_fN_155_73) gF_1_1 kd_1 IML155_27_13.1 (by decide) fun x16 fx16 hx16 kx16 => ?_
    refine PW.jc_ge q_155_36 rfl (fun h17 => ?_) (fun h17 => ?_)
    · skip
      refine PW.cI q_155_77 (by decide) fun c18 hc18 => ?_
      refine PW.rZ q_155_78 rfl (by omega) (by omega) (by decide) (by decide) ?_
      exact hK c18 ML155_27_13 IML155_27_13 FML155_27_13 (by omega) (by omega)
    · skip
      refine PW.aload_n q_155_39 rfl ?_
      refine PW.aload_n q_155_40 rfl ?_
      refine PW.gR 3 q_155_41 (Or.inl t_ft_155_19) gF_0_1 kd_0 IML155_27_13.1 (by decide) rfl ?_
      refine PW.gR 4 q_155_44 (Or.inr t_fN_155_94) gF_3_0 kd_3 IML155_27_13.1 (by decide) rfl ?_
      refine PW.gI q_155_47 (Or.inr t_fN_155_136) gF_4_6 kd_4 IML155_27_13.1 (by decide) fun x19 fx19 hx19 kx19 => ?_
      refine PW.aload_n q_155_50 rfl ?_
      refine PW.iload_n q_155_51 rfl ?_
      refine PW.iload q_155_52 rfl ?_
      refine PW.cV (as := [_, _, _, _]) (rest := []) q_155_54 t_mv_155_405 kd_275 IML155_27_13.1 (by decide) rfl (by decide) rfl rfl (Nat.le_of_ble_eq_true rfl) (Nat.le_of_ble_eq_true rfl) (by decide) (by decide) ?_
      refine PW.up (by decide) (c_X5_leap (gTT) (Stab0) G _ ML155_27_13 IML155_27_13 275 kd_275 x19 b4 hk_b4 a1 v14 (by omega) (by omega) fun x21 M20 IM20 GM20 => ?_)
      have FM20 := Fr.trans FML155_27_13 GM20 (rfl)
      have tg22 : gta M20 0 = gta ML155_27_13 0 := gta_F GM20 rfl rfl 0
      refine PW.aload_n q_155_57 rfl ?_
      refine PW.gR 1 q_155_58 (Or.inl t_ft_155_10) gF_0_0 kd_0 IM20.1 (by decide) rfl ?_
      refine PW.iload q_155_61 rfl ?_
      refine PW.cV (as := [_]) (rest := [_]) q_155_63 t_mv_155_383 kd_1 IM20.1 (by decide) rfl (by decide) rfl rfl (Nat.le_of_ble_eq_true rfl) (Nat.le_of_ble_eq_true rfl) (by decide) (by decide) ?_
      refine PW.up (by decide) (c_X7_at_v (gTT) (Stab0) G _ M20 IM20 v14 fun x24 M23 IM23 GM23 hx24 kx24 PM23 => ?_)
      have FM23 := Fr.trans FM20 GM23 (rfl)
      have tg25 : gta M23 0 = gta M20 0 := gta_F GM23 rfl rfl 0
      refine PW.jc_eq q_155_66 rfl (fun h26 => ?_) (fun h26 => ?_)
      · skip
        refine PW.incN q_155_71 rfl (by decide) (by decide) (by omega) (by omega) fun x27 hx27 => ?_
        refine PW.goto q_155_74 rfl ?_
        refine PW.lvS (lk1 rfl (lk1 rfl (lk1 rfl (lk1 rfl (lk1 rfl lk0))))) (ih_L155_27_13 _ ?_ M23 x27 IM23 FM23 (by omega) (by omega) rfl)
        omega
      · skip
        refine PW.cI q_155_69 (by decide) fun c28 hc28 => ?_
        refine PW.rZ q_155_70 rfl (by omega) (by omega) (by decide) (by decide) ?_
        exact hK c28 M23 IM23 FM23 (by omega) (by omega)
  exact PW.lvS (lk1 rfl (lk1 rfl (lk1 rfl (lk1 rfl (lk1 rfl lk0))))) (L155_27_13 _ M10 c12 IM10 FM10 (by omega) (by omega) rfl)
theorem c_X11_fittingLaws (G : pG) (Kr : pK) (M : pM) (I : Iv gTT M) (hp_0 : 0 ≤ gta M 0) (hp_1 : gta M 0 ≤ 5) (hK : ∀ (x : Int32) (M1 : pM), Iv gTT M1 → Fr [5, 7, 9, 10, 11, 12, 13] M M1 → Kr.1 (some (.int x)) 311 M1) : PW G false 7 154 (p_mc 154) (p_msl 154) Kr 0 (lv_args 0 [.ref 0]) [] 311 M 0 0 := by
  have F : Fr [5, 7, 9, 10, 11, 12, 13] M M := Fr.refl
  refine PW.cI q_154_0 (by decide) fun c1 hc1 => ?_
  refine PW.istore_n q_154_1 (by decide) ?_
  refine PW.aload_n q_154_2 rfl ?_
  refine PW.cI q_154_3 (by decide) fun c2 hc2 => ?_
  refine PW.cV (as := [_]) (rest := []) q_154_4 t_mv_154_396 kd_0 I.1 (by decide) rfl (by decide) rfl rfl (Nat.le_of_ble_eq_true rfl) (Nat.le_of_ble_eq_true rfl) (by decide) (by decide) ?_
  refine PW.up (by decide) (c_X11_fits G _ M I c2 (by omega) (by omega) (by omega) (by omega) fun x4 M3 IM3 GM3 hx4 kx4 => ?_)
  have FM3 := Fr.trans F GM3 (rfl)
  have tg5 : gta M3 0 = gta M 0 := gta_F GM3 rfl rfl 0
  have J14_7 : ∀ (MJ14_7 : pM) (v8 : Int32), Iv (gTT) MJ14_7 → Fr [5, 7, 9, 10, 11, 12, 13] M MJ14_7 → PW G false 7 154 (p_mc 154) (p_msl 154) Kr 14 [(0, .ref 0), (1, .int v8)] [] 311 MJ14_7 0 0 := by
    intro MJ14_7 v8 IMJ14_7 FMJ14_7 
    have tg9 : gta MJ14_7 0 = gta M 0 := gta_F FMJ14_7 rfl rfl 0
    refine PW.aload_n q_154_14 rfl ?_
    refine PW.cI q_154_15 (by decide) fun c10 hc10 => ?_
    refine PW.cV (as := [_]) (rest := []) q_154_16 t_mv_154_396 kd_0 IMJ14_7.1 (by decide) rfl (by decide) rfl rfl (Nat.le_of_ble_eq_true rfl) (Nat.le_of_ble_eq_true rfl) (by decide) (by decide) ?_
    refine PW.up (by decide) (c_X11_fits G _ MJ14_7 IMJ14_7 c10 (by omega) (by omega) (by omega) (by omega) fun x12 M11 IM11 GM11 hx12 kx12 => ?_)
    have FM11 := Fr.trans FMJ14_7 GM11 (rfl)
    have tg13 : gta M11 0 = gta MJ14_7 0 := gta_F GM11 rfl rfl 0
    have J26_15 : ∀ (MJ26_15 : pM) (v16 : Int32), Iv (gTT) MJ26_15 → Fr [5, 7, 9, 10, 11, 12, 13] M MJ26_15 → PW G false 7 154 (p_mc 154) (p_msl 154) Kr 26 [(0, .ref 0), (1, .int v16)] [] 311 MJ26_15 0 0 := by
      intro MJ26_15 v16 IMJ26_15 FMJ26_15 
      have tg17 : gta MJ26_15 0 = gta M 0 := gta_F FMJ26_15 rfl rfl 0
      refine PW.aload_n q_154_26 rfl ?_
      refine PW.cI q_154_27 (by decide) fun c18 hc18 => ?_
      refine PW.cV (as := [_]) (rest := []) q_154_28 t_mv_154_396 kd_0 IMJ26_15.1 (by decide) rfl (by decide) rfl rfl (Nat.le_of_ble_eq_true rfl) (Nat.le_of_ble_eq_true rfl) (by decide) (by decide) ?_
      refine PW.up (by decide) (c_X11_fits G _ MJ26_15 IMJ26_15 c18 (by omega) (by omega) (by omega) (by omega) fun x20 M19 IM19 GM19 hx20 kx20 => ?_)
      have FM19 := Fr.trans FMJ26_15 GM19 (rfl)
      have tg21 : gta M19 0 = gta MJ26_15 0 := gta_F GM19 rfl rfl 0
      refine PW.jz_eq q_154_31 rfl (fun h22 => ?_) (fun h22 => ?_)
      · skip
        refine PW.iload_n q_154_38 rfl ?_
        refine PW.rI q_154_39 rfl (by decide) (by decide) ?_
        exact hK v16 M19 IM19 FM19
      · skip
        refine PW.iload_n q_154_34 rfl ?_
        refine PW.cI q_154_35 (by decide) fun c23 hc23 => ?_
        refine PW.orH q_154_36 fun x24 => ?_
        refine PW.istore_n q_154_37 (by decide) ?_
        refine PW.iload_n q_154_38 rfl ?_
        refine PW.rI q_154_39 rfl (by decide) (by decide) ?_
        exact hK x24 M19 IM19 FM19
    refine PW.jz_eq q_154_19 rfl (fun h14 => ?_) (fun h14 => ?_)
    · skip
      exact PW.lvS (lk1 rfl (lk1 rfl lk0)) (J26_15 M11 v8 IM11 FM11 )
    · skip
      refine PW.iload_n q_154_22 rfl ?_
      refine PW.cI q_154_23 (by decide) fun c25 hc25 => ?_
      refine PW.orH q_154_24 fun x26 => ?_
      refine PW.istore_n q_154_25 (by decide) ?_
      exact PW.lvS (lk1 rfl (lk1 rfl lk0)) (J26_15 M11 x26 IM11 FM11 )
  refine PW.jz_eq q_154_7 rfl (fun h6 => ?_) (fun h6 => ?_)
  · skip
    exact PW.lvS (lk1 rfl (lk1 rfl lk0)) (J14_7 M3 c1 IM3 FM3 )
  · skip
    refine PW.iload_n q_154_10 rfl ?_
    refine PW.cI q_154_11 (by decide) fun c27 hc27 => ?_
    refine PW.orH q_154_12 fun x28 => ?_
    refine PW.istore_n q_154_13 (by decide) ?_
    exact PW.lvS (lk1 rfl (lk1 rfl lk0)) (J14_7 M3 x28 IM3 FM3 )
theorem c_X11_laws (G : pG) (Kr : pK) (M : pM) (I : Iv gTT M)  (hK : ∀ (x : Int32) (M1 : pM), Iv gTT M1 → Fr [1, 5, 7, 9, 10, 11, 12, 13] M M1 → Kr.1 (some (.int x)) 311 M1) : PW G false 8 137 (p_mc 137) (p_msl 137) Kr 0 (lv_args 0 [.ref 0]) [] 311 M 0 0 := by
  have F : Fr [1, 5, 7, 9, 10, 11, 12, 13] M M := Fr.refl
  refine PW.aload_n q_137_0 rfl ?_
  refine PW.cV (as := []) (rest := []) q_137_1 t_mv_137_341 kd_0 I.1 (by decide) rfl (by decide) rfl rfl (Nat.le_of_ble_eq_true rfl) (Nat.le_of_ble_eq_true rfl) (by decide) (by decide) ?_
  refine PW.up (by decide) (c_X11_areTurns G _ M I  fun x2 M1 IM1 GM1 hx2 kx2 PM1 => ?_)
  have FM1 := Fr.trans F GM1 (rfl)
  have tg3 : gta M1 0 = gta M 0 := gta_F GM1 rfl rfl 0
  have J15_5 : ∀ (MJ15_5 : pM) (s6 : Int32), Iv (gTT) MJ15_5 → Fr [1, 5, 7, 9, 10, 11, 12, 13] M MJ15_5 → PW G false 8 137 (p_mc 137) (p_msl 137) Kr 15 [(0, .ref 0)] [.int s6] 311 MJ15_5 0 0 := by
    intro MJ15_5 s6 IMJ15_5 FMJ15_5 
    refine PW.istore_n q_137_15 (by decide) ?_
    refine PW.aload_n q_137_16 rfl ?_
    refine PW.gR 1 q_137_17 (Or.inl t_ft_137_10) gF_0_0 kd_0 IMJ15_5.1 (by decide) rfl ?_
    refine PW.cI q_137_20 (by decide) fun c7 hc7 => ?_
    refine PW.pI q_137_21 (Or.inr t_fN_137_73) gF_1_1 gP_1_1 kd_1 Stab0 IMJ15_5 (by decide) rfl (by omega) (by omega) fun M8 IM8 fM8 UM8 => ?_
    have FM8 := Fr.pu FMJ15_5 UM8.1 kd_1 (rfl : List.contains [1, 5, 7, 9, 10, 11, 12, 13] 1 = true)
    refine PW.iload_n q_137_24 rfl ?_
    refine PW.rI q_137_25 rfl (by decide) (by decide) ?_
    exact hK s6 M8 IM8 FM8
  refine PW.jz_eq q_137_4 rfl (fun h4 => ?_) (fun h4 => ?_)
  · skip
    refine PW.cI q_137_14 (by decide) fun c9 hc9 => ?_
    exact PW.lvS (lk1 rfl lk0) (J15_5 M1 c9 IM1 FM1 )
  · skip
    refine PW.aload_n q_137_7 rfl ?_
    refine PW.cV (as := []) (rest := []) q_137_8 t_mv_137_345 kd_0 IM1.1 (by decide) rfl (by decide) rfl rfl (Nat.le_of_ble_eq_true rfl) (Nat.le_of_ble_eq_true rfl) (by decide) (by decide) ?_
    refine PW.up (by decide) (c_X11_fittingLaws G _ M1 IM1 (by omega) (by omega) fun x11 M10 IM10 GM10 => ?_)
    have FM10 := Fr.trans FM1 GM10 (rfl)
    have tg12 : gta M10 0 = gta M1 0 := gta_F GM10 rfl rfl 0
    refine PW.goto q_137_11 rfl ?_
    exact PW.lvS (lk1 rfl lk0) (J15_5 M10 x11 IM10 FM10 )
theorem c_X11_areTwo (G : pG) (Kr : pK) (M : pM) (I : Iv gTT M) (a1 : Int32) (a2 : Int32) (a3 : Int32) (hK : ∀ (x : Int32) (M1 : pM), Iv gTT M1 → Fr [] M M1 → 0 ≤ x.toInt → x.toInt ≤ 1 → (x.toInt = 0 ∨ (0 ≤ a1.toInt ∧ a1.toInt ≤ 5 ∧ 0 ≤ a2.toInt ∧ a2.toInt ≤ 5)) → Kr.1 (some (.int x)) 311 M1) : PW G false 2 159 (p_mc 159) (p_msl 159) Kr 0 (lv_args 0 [.ref 0, .int a1, .int a2, .int a3]) [] 311 M 0 0 := by
  have F : Fr [] M M := Fr.refl
  refine PW.aload_n q_159_0 rfl ?_
  refine PW.iload_n q_159_1 rfl ?_
  refine PW.cV (as := [_]) (rest := []) q_159_2 t_mv_159_169 kd_0 I.1 (by decide) rfl (by decide) rfl rfl (Nat.le_of_ble_eq_true rfl) (Nat.le_of_ble_eq_true rfl) (by decide) (by decide) ?_
  refine PW.iload_n q_143_0 rfl ?_
  refine PW.jz_lt q_143_1 rfl (fun h1 => ?_) (fun h1 => ?_)
  · skip
    refine PW.cI q_143_22 (by decide) fun c2 hc2 => ?_
    refine PW.rZ q_143_23 rfl (by omega) (by omega) (by decide) (by decide) ?_
    refine PW.jz_eq q_159_5 rfl (fun h3 => ?_) (fun h3 => False.elim (by omega))
    refine PW.cI q_159_27 (by decide) fun c4 hc4 => ?_
    refine PW.rZ q_159_28 rfl (by omega) (by omega) (by decide) (by decide) ?_
    exact hK c4 M I F (by omega) (by omega) (by omega)
  · skip
    refine PW.iload_n q_143_4 rfl ?_
    refine PW.aload_n q_143_5 rfl ?_
    refine PW.gR 3 q_143_6 (Or.inl t_ft_143_19) gF_0_1 kd_0 I.1 (by decide) rfl ?_
    refine PW.gR 4 q_143_9 (Or.inr t_fN_143_94) gF_3_0 kd_3 I.1 (by decide) rfl ?_
    refine PW.gI q_143_12 (Or.inr t_fN_143_136) gF_4_6 kd_4 I.1 (by decide) fun x5 fx5 hx5 kx5 => ?_
    refine PW.jc_ge q_143_15 rfl (fun h6 => ?_) (fun h6 => ?_)
    · skip
      refine PW.cI q_143_22 (by decide) fun c7 hc7 => ?_
      refine PW.rZ q_143_23 rfl (by omega) (by omega) (by decide) (by decide) ?_
      refine PW.jz_eq q_159_5 rfl (fun h8 => ?_) (fun h8 => False.elim (by omega))
      refine PW.cI q_159_27 (by decide) fun c9 hc9 => ?_
      refine PW.rZ q_159_28 rfl (by omega) (by omega) (by decide) (by decide) ?_
      exact hK c9 M I F (by omega) (by omega) (by omega)
    · skip
      refine PW.cI q_143_18 (by decide) fun c10 hc10 => ?_
      refine PW.goto q_143_19 rfl ?_
      refine PW.rZ q_143_23 rfl (by omega) (by omega) (by decide) (by decide) ?_
      refine PW.jz_eq q_159_5 rfl (fun h11 => False.elim (by omega)) (fun h11 => ?_)
      refine PW.aload_n q_159_8 rfl ?_
      refine PW.iload_n q_159_9 rfl ?_
      refine PW.cV (as := [_]) (rest := []) q_159_10 t_mv_159_169 kd_0 I.1 (by decide) rfl (by decide) rfl rfl (Nat.le_of_ble_eq_true rfl) (Nat.le_of_ble_eq_true rfl) (by decide) (by decide) ?_
      refine PW.iload_n q_143_0 rfl ?_
      refine PW.jz_lt q_143_1 rfl (fun h12 => ?_) (fun h12 => ?_)
      · skip
        refine PW.cI q_143_22 (by decide) fun c13 hc13 => ?_
        refine PW.rZ q_143_23 rfl (by omega) (by omega) (by decide) (by decide) ?_
        refine PW.jz_eq q_159_13 rfl (fun h14 => ?_) (fun h14 => False.elim (by omega))
        refine PW.cI q_159_27 (by decide) fun c15 hc15 => ?_
        refine PW.rZ q_159_28 rfl (by omega) (by omega) (by decide) (by decide) ?_
        exact hK c15 M I F (by omega) (by omega) (by omega)
      · skip
        refine PW.iload_n q_143_4 rfl ?_
        refine PW.aload_n q_143_5 rfl ?_
        refine PW.gR 3 q_143_6 (Or.inl t_ft_143_19) gF_0_1 kd_0 I.1 (by decide) rfl ?_
        refine PW.gR 4 q_143_9 (Or.inr t_fN_143_94) gF_3_0 kd_3 I.1 (by decide) rfl ?_
        refine PW.gE q_143_12 (Or.inr t_fN_143_136) gF_4_6 kd_4 I.1 (by decide) fx5 ?_
        refine PW.jc_ge q_143_15 rfl (fun h16 => ?_) (fun h16 => ?_)
        · skip
          refine PW.cI q_143_22 (by decide) fun c17 hc17 => ?_
          refine PW.rZ q_143_23 rfl (by omega) (by omega) (by decide) (by decide) ?_
          refine PW.jz_eq q_159_13 rfl (fun h18 => ?_) (fun h18 => False.elim (by omega))
          refine PW.cI q_159_27 (by decide) fun c19 hc19 => ?_
          refine PW.rZ q_159_28 rfl (by omega) (by omega) (by decide) (by decide) ?_
          exact hK c19 M I F (by omega) (by omega) (by omega)
        · skip
          refine PW.cI q_143_18 (by decide) fun c20 hc20 => ?_
          refine PW.goto q_143_19 rfl ?_
          refine PW.rZ q_143_23 rfl (by omega) (by omega) (by decide) (by decide) ?_
          refine PW.jz_eq q_159_13 rfl (fun h21 => False.elim (by omega)) (fun h21 => ?_)
          refine PW.iload_n q_159_16 rfl ?_
          refine PW.cI q_159_17 (by decide) fun c22 hc22 => ?_
          refine PW.jc_lt q_159_18 rfl (fun h23 => ?_) (fun h23 => ?_)
          · skip
            refine PW.cI q_159_27 (by decide) fun c24 hc24 => ?_
            refine PW.rZ q_159_28 rfl (by omega) (by omega) (by decide) (by decide) ?_
            exact hK c24 M I F (by omega) (by omega) (by omega)
          · skip
            refine PW.iload_n q_159_21 rfl ?_
            refine PW.cB q_159_22 (by decide) fun c25 hc25 => ?_
            refine PW.jc_le q_159_24 rfl (fun h26 => ?_) (fun h26 => ?_)
            · skip
              refine PW.aload_n q_159_29 rfl ?_
              refine PW.gR 3 q_159_30 (Or.inl t_ft_159_19) gF_0_1 kd_0 I.1 (by decide) rfl ?_
              refine PW.gR 4 q_159_33 (Or.inr t_fN_159_94) gF_3_0 kd_3 I.1 (by decide) rfl ?_
              refine PW.gR 7 q_159_36 (Or.inr t_fN_159_184) gF_4_10 kd_4 I.1 (by decide) rfl ?_
              refine PW.iload_n q_159_39 rfl ?_
              refine PW.aH q_159_40 gA_29 kd_7 I.1 (by decide) (by omega) (by omega) fun x27 fx27 => ?_
              refine PW.istore q_159_41 (by decide) ?_
              refine PW.aload_n q_159_43 rfl ?_
              refine PW.gR 3 q_159_44 (Or.inl t_ft_159_19) gF_0_1 kd_0 I.1 (by decide) rfl ?_
              refine PW.gR 4 q_159_47 (Or.inr t_fN_159_94) gF_3_0 kd_3 I.1 (by decide) rfl ?_
              refine PW.gR 7 q_159_50 (Or.inr t_fN_159_184) gF_4_10 kd_4 I.1 (by decide) rfl ?_
              refine PW.iload_n q_159_53 rfl ?_
              refine PW.aH q_159_54 gA_29 kd_7 I.1 (by decide) (by omega) (by omega) fun x28 fx28 => ?_
              refine PW.istore q_159_55 (by decide) ?_
              refine PW.iload q_159_57 rfl ?_
              refine PW.iload q_159_59 rfl ?_
              refine PW.addH q_159_61 fun x29 => ?_
              refine PW.jz_le q_159_62 rfl (fun h30 => ?_) (fun h30 => ?_)
              · skip
                refine PW.cI q_159_96 (by decide) fun c31 hc31 => ?_
                refine PW.rZ q_159_97 rfl (by omega) (by omega) (by decide) (by decide) ?_
                exact hK c31 M I F (by omega) (by omega) (by omega)
              · skip
                refine PW.iload_n q_159_65 rfl ?_
                refine PW.iload q_159_66 rfl ?_
                refine PW.jc_le q_159_68 rfl (fun h32 => ?_) (fun h32 => ?_)
                · skip
                  refine PW.cI q_159_96 (by decide) fun c33 hc33 => ?_
                  refine PW.rZ q_159_97 rfl (by omega) (by omega) (by decide) (by decide) ?_
                  exact hK c33 M I F (by omega) (by omega) (by omega)
                · skip
                  refine PW.iload_n q_159_71 rfl ?_
                  refine PW.iload q_159_72 rfl ?_
                  refine PW.jc_le q_159_74 rfl (fun h34 => ?_) (fun h34 => ?_)
                  · skip
                    refine PW.cI q_159_96 (by decide) fun c35 hc35 => ?_
                    refine PW.rZ q_159_97 rfl (by omega) (by omega) (by decide) (by decide) ?_
                    exact hK c35 M I F (by omega) (by omega) (by omega)
                  · skip
                    refine PW.aload_n q_159_77 rfl ?_
                    refine PW.gR 3 q_159_78 (Or.inl t_ft_159_19) gF_0_1 kd_0 I.1 (by decide) rfl ?_
                    refine PW.gR 15 q_159_81 (Or.inr t_fN_159_101) gF_3_1 kd_3 I.1 (by decide) rfl ?_
                    refine PW.iload_n q_159_84 rfl ?_
                    refine PW.iload_n q_159_85 rfl ?_
                    refine PW.cV (as := [_, _]) (rest := []) q_159_86 t_mv_159_260 kd_15 I.1 (by decide) rfl (by decide) rfl rfl (Nat.le_of_ble_eq_true rfl) (Nat.le_of_ble_eq_true rfl) (by decide) (by decide) ?_
                    refine PW.up (by decide) (c_X5_apart (gTT) (Stab0) G _ M I 15 kd_15 a1 a2 (by omega) (by omega) (by omega) (by omega) fun x37 M36 IM36 GM36 => ?_)
                    have FM36 := Fr.trans F GM36 (rfl)
                    refine PW.jz_le q_159_89 rfl (fun h38 => ?_) (fun h38 => ?_)
                    · skip
                      refine PW.cI q_159_96 (by decide) fun c39 hc39 => ?_
                      refine PW.rZ q_159_97 rfl (by omega) (by omega) (by decide) (by decide) ?_
                      exact hK c39 M36 IM36 FM36 (by omega) (by omega) (by omega)
                    · skip
                      refine PW.cI q_159_92 (by decide) fun c40 hc40 => ?_
                      refine PW.goto q_159_93 rfl ?_
                      refine PW.rZ q_159_97 rfl (by omega) (by omega) (by decide) (by decide) ?_
                      exact hK c40 M36 IM36 FM36 (by omega) (by omega) (by omega)
            · skip
              refine PW.cI q_159_27 (by decide) fun c41 hc41 => ?_
              refine PW.rZ q_159_28 rfl (by omega) (by omega) (by decide) (by decide) ?_
              exact hK c41 M I F (by omega) (by omega) (by omega)
theorem c_X11_shrink (G : pG) (Kr : pK) (M : pM) (I : Iv gTT M) (a1 : Int32) (a2 : Int32) (a3 : Int32) (a4 : Int32) (hl_a1 : 0 ≤ a1.toInt) (hh_a1 : a1.toInt ≤ 5) (hl_a2 : 0 ≤ a2.toInt) (hh_a2 : a2.toInt ≤ 5) (hK : ∀ (M1 : pM), Iv gTT M1 → Fr [26] M M1 → Kr.1 none 311 M1) : PW G false 2 160 (p_mc 160) (p_msl 160) Kr 0 (lv_args 0 [.ref 0, .int a1, .int a2, .int a3, .int a4]) [] 311 M 0 0 := by
  have F : Fr [26] M M := Fr.refl
  refine PW.iload q_160_0 rfl ?_
  refine PW.cI q_160_2 (by decide) fun c1 hc1 => ?_
  refine PW.remH q_160_3 (by omega) fun x2 => ?_
  refine PW.cI q_160_4 (by decide) fun c3 hc3 => ?_
  have J13_5 : ∀ (MJ13_5 : pM) (s6 : Int32), Iv (gTT) MJ13_5 → Fr [26] M MJ13_5 → 0 ≤ s6.toInt → s6.toInt ≤ 1 → PW G false 2 160 (p_mc 160) (p_msl 160) Kr 13 [(0, .ref 0), (1, .int a1), (2, .int a2), (3, .int a3), (4, .int a4)] [.int s6] 311 MJ13_5 0 0 := by
    intro MJ13_5 s6 IMJ13_5 FMJ13_5 hbJ13_50 hbJ13_51
    refine PW.istore q_160_13 (by decide) ?_
    refine PW.aload_n q_160_15 rfl ?_
    refine PW.gR 3 q_160_16 (Or.inl t_ft_160_19) gF_0_1 kd_0 IMJ13_5.1 (by decide) rfl ?_
    refine PW.gR 4 q_160_19 (Or.inr t_fN_160_94) gF_3_0 kd_3 IMJ13_5.1 (by decide) rfl ?_
    refine PW.gR 7 q_160_22 (Or.inr t_fN_160_184) gF_4_10 kd_4 IMJ13_5.1 (by decide) rfl ?_
    refine PW.iload q_160_25 rfl ?_
    have J35_8 : ∀ (MJ35_8 : pM) (s9 : Int32), Iv (gTT) MJ35_8 → Fr [26] M MJ35_8 → 0 ≤ s9.toInt → s9.toInt ≤ 5 → PW G false 2 160 (p_mc 160) (p_msl 160) Kr 35 [(0, .ref 0), (1, .int a1), (2, .int a2), (3, .int a3), (4, .int a4), (5, .int s6)] [.int s9, .ref 7] 311 MJ35_8 0 0 := by
      intro MJ35_8 s9 IMJ35_8 FMJ35_8 hbJ35_80 hbJ35_81
      refine PW.aH q_160_35 gA_29 kd_7 IMJ35_8.1 (by decide) (by omega) (by omega) fun x10 fx10 => ?_
      refine PW.istore q_160_36 (by decide) ?_
      refine PW.aload_n q_160_38 rfl ?_
      refine PW.gR 3 q_160_39 (Or.inl t_ft_160_19) gF_0_1 kd_0 IMJ35_8.1 (by decide) rfl ?_
      refine PW.gR 4 q_160_42 (Or.inr t_fN_160_94) gF_3_0 kd_3 IMJ35_8.1 (by decide) rfl ?_
      refine PW.gR 7 q_160_45 (Or.inr t_fN_160_184) gF_4_10 kd_4 IMJ35_8.1 (by decide) rfl ?_
      refine PW.iload q_160_48 rfl ?_
      have J58_12 : ∀ (MJ58_12 : pM) (s13 : Int32), Iv (gTT) MJ58_12 → Fr [26] M MJ58_12 → 0 ≤ s13.toInt → s13.toInt ≤ 5 → PW G false 2 160 (p_mc 160) (p_msl 160) Kr 58 [(0, .ref 0), (1, .int a1), (2, .int a2), (3, .int a3), (4, .int a4), (5, .int s6), (6, .int x10)] [.int s13, .ref 7] 311 MJ58_12 0 0 := by
        intro MJ58_12 s13 IMJ58_12 FMJ58_12 hbJ58_120 hbJ58_121
        refine PW.aH q_160_58 gA_29 kd_7 IMJ58_12.1 (by decide) (by omega) (by omega) fun x14 fx14 => ?_
        refine PW.istore q_160_59 (by decide) ?_
        refine PW.aload_n q_160_61 rfl ?_
        refine PW.gR 293 q_160_62 (Or.inl t_ft_160_69) gF_0_9 kd_0 IMJ58_12.1 (by decide) rfl ?_
        refine PW.iload_n q_160_65 rfl ?_
        refine PW.iload q_160_66 rfl ?_
        refine PW.subH q_160_68 fun x15 => ?_
        refine PW.i2l q_160_69 ?_
        refine PW.iload_n q_160_70 rfl ?_
        refine PW.iload q_160_71 rfl ?_
        refine PW.addH q_160_73 fun x16 => ?_
        refine PW.i2l q_160_74 ?_
        refine PW.cV (as := [_, _]) (rest := []) q_160_75 t_mv_160_355 kd_293 IMJ58_12.1 (by decide) rfl (by decide) rfl rfl (Nat.le_of_ble_eq_true rfl) (Nat.le_of_ble_eq_true rfl) (by decide) (by decide) ?_
        refine PW.up (by decide) (c_X2_times (gTT) (Stab0) G _ MJ58_12 IMJ58_12 _ _ fun M17 IM17 GM17 => ?_)
        have FM17 := Fr.trans FMJ58_12 GM17 (rfl)
        refine PW.vret q_160_78 rfl (by decide) (by decide) ?_
        exact hK M17 IM17 FM17
      refine PW.jz_eq q_160_50 rfl (fun h11 => ?_) (fun h11 => ?_)
      · skip
        refine PW.iload_n q_160_57 rfl ?_
        exact PW.lvS (lk1 rfl (lk1 rfl (lk1 rfl (lk1 rfl (lk1 rfl (lk1 rfl (lk1 rfl lk0))))))) (J58_12 MJ35_8 a1 IMJ35_8 FMJ35_8 (by omega) (by omega))
      · skip
        refine PW.iload_n q_160_53 rfl ?_
        refine PW.goto q_160_54 rfl ?_
        exact PW.lvS (lk1 rfl (lk1 rfl (lk1 rfl (lk1 rfl (lk1 rfl (lk1 rfl (lk1 rfl lk0))))))) (J58_12 MJ35_8 a2 IMJ35_8 FMJ35_8 (by omega) (by omega))
    refine PW.jz_eq q_160_27 rfl (fun h7 => ?_) (fun h7 => ?_)
    · skip
      refine PW.iload_n q_160_34 rfl ?_
      exact PW.lvS (lk1 rfl (lk1 rfl (lk1 rfl (lk1 rfl (lk1 rfl (lk1 rfl lk0)))))) (J35_8 MJ13_5 a2 IMJ13_5 FMJ13_5 (by omega) (by omega))
    · skip
      refine PW.iload_n q_160_30 rfl ?_
      refine PW.goto q_160_31 rfl ?_
      exact PW.lvS (lk1 rfl (lk1 rfl (lk1 rfl (lk1 rfl (lk1 rfl (lk1 rfl lk0)))))) (J35_8 MJ13_5 a1 IMJ13_5 FMJ13_5 (by omega) (by omega))
  refine PW.jc_ne q_160_5 rfl (fun h4 => ?_) (fun h4 => ?_)
  · skip
    refine PW.cI q_160_12 (by decide) fun c18 hc18 => ?_
    exact PW.lvS (lk1 rfl (lk1 rfl (lk1 rfl (lk1 rfl (lk1 rfl lk0))))) (J13_5 M c18 I F (by omega) (by omega))
  · skip
    refine PW.cI q_160_8 (by decide) fun c19 hc19 => ?_
    refine PW.goto q_160_9 rfl ?_
    exact PW.lvS (lk1 rfl (lk1 rfl (lk1 rfl (lk1 rfl (lk1 rfl lk0))))) (J13_5 M c19 I F (by omega) (by omega))
