theorem q_110_0 : p_tb 110 0 = some (.iload_n 1, 1) := by decide +kernel
theorem q_110_1 : p_tb 110 1 = some (.tableswitch 115 0 5 #[39, 50, 61, 72, 83, 104], 39) := by decide +kernel
theorem q_110_40 : p_tb 110 40 = some (.aload_n 0, 1) := by decide +kernel
theorem q_110_41 : p_tb 110 41 = some (.getfield 19, 3) := by decide +kernel
theorem q_110_44 : p_tb 110 44 = some (.getfield 101, 3) := by decide +kernel
theorem q_110_47 : p_tb 110 47 = some (.getfield 230, 3) := by decide +kernel
theorem q_110_50 : p_tb 110 50 = some (.ireturn, 1) := by decide +kernel
theorem q_110_51 : p_tb 110 51 = some (.aload_n 0, 1) := by decide +kernel
theorem q_110_52 : p_tb 110 52 = some (.getfield 19, 3) := by decide +kernel
theorem q_110_55 : p_tb 110 55 = some (.getfield 101, 3) := by decide +kernel
theorem q_110_58 : p_tb 110 58 = some (.getfield 233, 3) := by decide +kernel
theorem q_110_61 : p_tb 110 61 = some (.ireturn, 1) := by decide +kernel
theorem q_110_62 : p_tb 110 62 = some (.aload_n 0, 1) := by decide +kernel
theorem q_110_63 : p_tb 110 63 = some (.getfield 19, 3) := by decide +kernel
theorem q_110_66 : p_tb 110 66 = some (.getfield 101, 3) := by decide +kernel
theorem q_110_69 : p_tb 110 69 = some (.getfield 236, 3) := by decide +kernel
theorem q_110_72 : p_tb 110 72 = some (.ireturn, 1) := by decide +kernel
theorem q_110_73 : p_tb 110 73 = some (.aload_n 0, 1) := by decide +kernel
theorem q_110_74 : p_tb 110 74 = some (.getfield 19, 3) := by decide +kernel
theorem q_110_77 : p_tb 110 77 = some (.getfield 101, 3) := by decide +kernel
theorem q_110_80 : p_tb 110 80 = some (.invokevirtual 239, 3) := by decide +kernel
theorem q_110_83 : p_tb 110 83 = some (.ireturn, 1) := by decide +kernel
theorem q_110_84 : p_tb 110 84 = some (.aload_n 0, 1) := by decide +kernel
theorem q_110_85 : p_tb 110 85 = some (.getfield 19, 3) := by decide +kernel
theorem q_110_88 : p_tb 110 88 = some (.getfield 101, 3) := by decide +kernel
theorem q_110_91 : p_tb 110 91 = some (.aload_n 0, 1) := by decide +kernel
theorem q_110_92 : p_tb 110 92 = some (.getfield 19, 3) := by decide +kernel
theorem q_110_95 : p_tb 110 95 = some (.getfield 94, 3) := by decide +kernel
theorem q_110_98 : p_tb 110 98 = some (.getfield 136, 3) := by decide +kernel
theorem q_110_101 : p_tb 110 101 = some (.invokevirtual 243, 3) := by decide +kernel
theorem q_110_104 : p_tb 110 104 = some (.ireturn, 1) := by decide +kernel
theorem q_110_105 : p_tb 110 105 = some (.aload_n 0, 1) := by decide +kernel
theorem q_110_106 : p_tb 110 106 = some (.getfield 19, 3) := by decide +kernel
theorem q_110_109 : p_tb 110 109 = some (.getfield 101, 3) := by decide +kernel
theorem q_110_112 : p_tb 110 112 = some (.invokevirtual 246, 3) := by decide +kernel
theorem q_110_115 : p_tb 110 115 = some (.ireturn, 1) := by decide +kernel
theorem q_110_116 : p_tb 110 116 = some (.iconst (-1), 1) := by decide +kernel
theorem q_110_117 : p_tb 110 117 = some (.ireturn, 1) := by decide +kernel
theorem t_fN_110_101 : p_f2 p_fN (p_mK 110) 101 = some (9, 1) := by decide +kernel
theorem t_fN_110_136 : p_f2 p_fN (p_mK 110) 136 = some (3, 6) := by decide +kernel
theorem t_fN_110_230 : p_f2 p_fN (p_mK 110) 230 = some (5, 0) := by decide +kernel
theorem t_fN_110_233 : p_f2 p_fN (p_mK 110) 233 = some (5, 1) := by decide +kernel
theorem t_fN_110_236 : p_f2 p_fN (p_mK 110) 236 = some (5, 2) := by decide +kernel
theorem t_fN_110_94 : p_f2 p_fN (p_mK 110) 94 = some (9, 0) := by decide +kernel
theorem t_ft_110_19 : p_f2 p_ft (p_mK 110) 19 = some (10, 1) := by decide +kernel
theorem t_mv_110_239 : p_f2 p_mv (p_mK 110) 239 = some 50 := by decide +kernel
theorem t_mv_110_243 : p_f2 p_mv (p_mK 110) 243 = some 51 := by decide +kernel
theorem t_mv_110_246 : p_f2 p_mv (p_mK 110) 246 = some 52 := by decide +kernel
theorem q_111_0 : p_tb 111 0 = some (.iload_n 1, 1) := by decide +kernel
theorem q_111_1 : p_tb 111 1 = some (.tableswitch 102 0 5 #[39, 50, 61, 72, 83, 94], 39) := by decide +kernel
theorem q_111_40 : p_tb 111 40 = some (.aload_n 0, 1) := by decide +kernel
theorem q_111_41 : p_tb 111 41 = some (.getfield 19, 3) := by decide +kernel
theorem q_111_44 : p_tb 111 44 = some (.getfield 94, 3) := by decide +kernel
theorem q_111_47 : p_tb 111 47 = some (.getfield 136, 3) := by decide +kernel
theorem q_111_50 : p_tb 111 50 = some (.ireturn, 1) := by decide +kernel
theorem q_111_51 : p_tb 111 51 = some (.aload_n 0, 1) := by decide +kernel
theorem q_111_52 : p_tb 111 52 = some (.getfield 19, 3) := by decide +kernel
theorem q_111_55 : p_tb 111 55 = some (.getfield 94, 3) := by decide +kernel
theorem q_111_58 : p_tb 111 58 = some (.getfield 249, 3) := by decide +kernel
theorem q_111_61 : p_tb 111 61 = some (.ireturn, 1) := by decide +kernel
theorem q_111_62 : p_tb 111 62 = some (.aload_n 0, 1) := by decide +kernel
theorem q_111_63 : p_tb 111 63 = some (.getfield 19, 3) := by decide +kernel
theorem q_111_66 : p_tb 111 66 = some (.getfield 94, 3) := by decide +kernel
theorem q_111_69 : p_tb 111 69 = some (.getfield 251, 3) := by decide +kernel
theorem q_111_72 : p_tb 111 72 = some (.ireturn, 1) := by decide +kernel
theorem q_111_73 : p_tb 111 73 = some (.aload_n 0, 1) := by decide +kernel
theorem q_111_74 : p_tb 111 74 = some (.getfield 19, 3) := by decide +kernel
theorem q_111_77 : p_tb 111 77 = some (.getfield 94, 3) := by decide +kernel
theorem q_111_80 : p_tb 111 80 = some (.getfield 254, 3) := by decide +kernel
theorem q_111_83 : p_tb 111 83 = some (.ireturn, 1) := by decide +kernel
theorem q_111_84 : p_tb 111 84 = some (.aload_n 0, 1) := by decide +kernel
theorem q_111_85 : p_tb 111 85 = some (.getfield 19, 3) := by decide +kernel
theorem q_111_88 : p_tb 111 88 = some (.getfield 94, 3) := by decide +kernel
theorem q_111_91 : p_tb 111 91 = some (.getfield 257, 3) := by decide +kernel
theorem q_111_94 : p_tb 111 94 = some (.ireturn, 1) := by decide +kernel
theorem q_111_95 : p_tb 111 95 = some (.aload_n 0, 1) := by decide +kernel
theorem q_111_96 : p_tb 111 96 = some (.getfield 10, 3) := by decide +kernel
theorem q_111_99 : p_tb 111 99 = some (.getfield 73, 3) := by decide +kernel
theorem q_111_102 : p_tb 111 102 = some (.ireturn, 1) := by decide +kernel
theorem q_111_103 : p_tb 111 103 = some (.iconst (-1), 1) := by decide +kernel
theorem q_111_104 : p_tb 111 104 = some (.ireturn, 1) := by decide +kernel
theorem t_fN_111_136 : p_f2 p_fN (p_mK 111) 136 = some (3, 6) := by decide +kernel
theorem t_fN_111_249 : p_f2 p_fN (p_mK 111) 249 = some (3, 7) := by decide +kernel
theorem t_fN_111_251 : p_f2 p_fN (p_mK 111) 251 = some (3, 1) := by decide +kernel
theorem t_fN_111_254 : p_f2 p_fN (p_mK 111) 254 = some (3, 2) := by decide +kernel
theorem t_fN_111_257 : p_f2 p_fN (p_mK 111) 257 = some (3, 3) := by decide +kernel
theorem t_fN_111_73 : p_f2 p_fN (p_mK 111) 73 = some (7, 1) := by decide +kernel
theorem t_fN_111_94 : p_f2 p_fN (p_mK 111) 94 = some (9, 0) := by decide +kernel
theorem t_ft_111_10 : p_f2 p_ft (p_mK 111) 10 = some (10, 0) := by decide +kernel
theorem t_ft_111_19 : p_f2 p_ft (p_mK 111) 19 = some (10, 1) := by decide +kernel
theorem q_112_0 : p_tb 112 0 = some (.aload_n 0, 1) := by decide +kernel
theorem q_112_1 : p_tb 112 1 = some (.iload_n 1, 1) := by decide +kernel
theorem q_112_2 : p_tb 112 2 = some (.invokevirtual 169, 3) := by decide +kernel
theorem q_112_5 : p_tb 112 5 = some (.ifCond .eq 11, 3) := by decide +kernel
theorem q_112_8 : p_tb 112 8 = some (.aload_n 0, 1) := by decide +kernel
theorem q_112_9 : p_tb 112 9 = some (.iload_n 2, 1) := by decide +kernel
theorem q_112_10 : p_tb 112 10 = some (.invokevirtual 169, 3) := by decide +kernel
theorem q_112_13 : p_tb 112 13 = some (.ifCond .ne 5, 3) := by decide +kernel
theorem q_112_16 : p_tb 112 16 = some (.iconst (-1), 1) := by decide +kernel
theorem q_112_17 : p_tb 112 17 = some (.ireturn, 1) := by decide +kernel
theorem q_112_18 : p_tb 112 18 = some (.aload_n 0, 1) := by decide +kernel
theorem q_112_19 : p_tb 112 19 = some (.getfield 19, 3) := by decide +kernel
theorem q_112_22 : p_tb 112 22 = some (.getfield 101, 3) := by decide +kernel
theorem q_112_25 : p_tb 112 25 = some (.iload_n 1, 1) := by decide +kernel
theorem q_112_26 : p_tb 112 26 = some (.iload_n 2, 1) := by decide +kernel
theorem q_112_27 : p_tb 112 27 = some (.invokevirtual 260, 3) := by decide +kernel
theorem q_112_30 : p_tb 112 30 = some (.ireturn, 1) := by decide +kernel
theorem q_143_0 : p_tb 143 0 = some (.iload_n 1, 1) := by decide +kernel
theorem q_143_1 : p_tb 143 1 = some (.ifCond .lt 21, 3) := by decide +kernel
theorem q_143_4 : p_tb 143 4 = some (.iload_n 1, 1) := by decide +kernel
theorem q_143_5 : p_tb 143 5 = some (.aload_n 0, 1) := by decide +kernel
theorem q_143_6 : p_tb 143 6 = some (.getfield 19, 3) := by decide +kernel
theorem q_143_9 : p_tb 143 9 = some (.getfield 94, 3) := by decide +kernel
theorem q_143_12 : p_tb 143 12 = some (.getfield 136, 3) := by decide +kernel
theorem q_143_15 : p_tb 143 15 = some (.if_icmp .ge 7, 3) := by decide +kernel
theorem q_143_18 : p_tb 143 18 = some (.iconst 1, 1) := by decide +kernel
theorem q_143_19 : p_tb 143 19 = some (.goto 4, 3) := by decide +kernel
theorem q_143_22 : p_tb 143 22 = some (.iconst 0, 1) := by decide +kernel
theorem q_143_23 : p_tb 143 23 = some (.ireturn, 1) := by decide +kernel
theorem t_fN_112_101 : p_f2 p_fN (p_mK 112) 101 = some (9, 1) := by decide +kernel
theorem t_fN_143_136 : p_f2 p_fN (p_mK 143) 136 = some (3, 6) := by decide +kernel
theorem t_fN_143_94 : p_f2 p_fN (p_mK 143) 94 = some (9, 0) := by decide +kernel
theorem t_ft_112_19 : p_f2 p_ft (p_mK 112) 19 = some (10, 1) := by decide +kernel
theorem t_ft_143_19 : p_f2 p_ft (p_mK 143) 19 = some (10, 1) := by decide +kernel
theorem t_mv_112_169 : p_f2 p_mv (p_mK 112) 169 = some 143 := by decide +kernel
theorem t_mv_112_260 : p_f2 p_mv (p_mK 112) 260 = some 49 := by decide +kernel
theorem q_113_0 : p_tb 113 0 = some (.aload_n 0, 1) := by decide +kernel
theorem q_113_1 : p_tb 113 1 = some (.iload_n 1, 1) := by decide +kernel
theorem q_113_2 : p_tb 113 2 = some (.invokevirtual 169, 3) := by decide +kernel
theorem q_113_5 : p_tb 113 5 = some (.ifCond .eq 11, 3) := by decide +kernel
theorem q_113_8 : p_tb 113 8 = some (.aload_n 0, 1) := by decide +kernel
theorem q_113_9 : p_tb 113 9 = some (.iload_n 2, 1) := by decide +kernel
theorem q_113_10 : p_tb 113 10 = some (.invokevirtual 169, 3) := by decide +kernel
theorem q_113_13 : p_tb 113 13 = some (.ifCond .ne 5, 3) := by decide +kernel
theorem q_113_16 : p_tb 113 16 = some (.iconst (-1), 1) := by decide +kernel
theorem q_113_17 : p_tb 113 17 = some (.ireturn, 1) := by decide +kernel
theorem q_113_18 : p_tb 113 18 = some (.aload_n 0, 1) := by decide +kernel
theorem q_113_19 : p_tb 113 19 = some (.getfield 19, 3) := by decide +kernel
theorem q_113_22 : p_tb 113 22 = some (.getfield 101, 3) := by decide +kernel
theorem q_113_25 : p_tb 113 25 = some (.getfield 264, 3) := by decide +kernel
theorem q_113_28 : p_tb 113 28 = some (.iload_n 1, 1) := by decide +kernel
theorem q_113_29 : p_tb 113 29 = some (.bipush 6, 2) := by decide +kernel
theorem q_113_31 : p_tb 113 31 = some (.imul, 1) := by decide +kernel
theorem q_113_32 : p_tb 113 32 = some (.iload_n 2, 1) := by decide +kernel
theorem q_113_33 : p_tb 113 33 = some (.iadd, 1) := by decide +kernel
theorem q_113_34 : p_tb 113 34 = some (.iaload, 1) := by decide +kernel
theorem q_113_35 : p_tb 113 35 = some (.ireturn, 1) := by decide +kernel
theorem t_fN_113_101 : p_f2 p_fN (p_mK 113) 101 = some (9, 1) := by decide +kernel
theorem t_fN_113_264 : p_f2 p_fN (p_mK 113) 264 = some (5, 5) := by decide +kernel
theorem t_ft_113_19 : p_f2 p_ft (p_mK 113) 19 = some (10, 1) := by decide +kernel
theorem t_mv_113_169 : p_f2 p_mv (p_mK 113) 169 = some 143 := by decide +kernel
theorem q_114_0 : p_tb 114 0 = some (.aload_n 0, 1) := by decide +kernel
theorem q_114_1 : p_tb 114 1 = some (.getfield 19, 3) := by decide +kernel
theorem q_114_4 : p_tb 114 4 = some (.getfield 101, 3) := by decide +kernel
theorem q_114_7 : p_tb 114 7 = some (.getfield 264, 3) := by decide +kernel
theorem q_114_10 : p_tb 114 10 = some (.astore_n 1, 1) := by decide +kernel
theorem q_114_11 : p_tb 114 11 = some (.iconst 0, 1) := by decide +kernel
theorem q_114_12 : p_tb 114 12 = some (.istore_n 2, 1) := by decide +kernel
theorem q_114_13 : p_tb 114 13 = some (.iconst (-1), 1) := by decide +kernel
theorem q_114_14 : p_tb 114 14 = some (.istore_n 3, 1) := by decide +kernel
theorem q_114_15 : p_tb 114 15 = some (.iconst 0, 1) := by decide +kernel
theorem q_114_16 : p_tb 114 16 = some (.istore 4, 2) := by decide +kernel
theorem q_114_18 : p_tb 114 18 = some (.iload 4, 2) := by decide +kernel
theorem q_114_20 : p_tb 114 20 = some (.aload_n 0, 1) := by decide +kernel
theorem q_114_21 : p_tb 114 21 = some (.getfield 19, 3) := by decide +kernel
theorem q_114_24 : p_tb 114 24 = some (.getfield 94, 3) := by decide +kernel
theorem q_114_27 : p_tb 114 27 = some (.getfield 136, 3) := by decide +kernel
theorem q_114_30 : p_tb 114 30 = some (.if_icmp .ge 77, 3) := by decide +kernel
theorem q_114_33 : p_tb 114 33 = some (.iload 4, 2) := by decide +kernel
theorem q_114_35 : p_tb 114 35 = some (.iconst 1, 1) := by decide +kernel
theorem q_114_36 : p_tb 114 36 = some (.iadd, 1) := by decide +kernel
theorem q_114_37 : p_tb 114 37 = some (.istore 5, 2) := by decide +kernel
theorem q_114_39 : p_tb 114 39 = some (.iload 5, 2) := by decide +kernel
theorem q_114_41 : p_tb 114 41 = some (.aload_n 0, 1) := by decide +kernel
theorem q_114_42 : p_tb 114 42 = some (.getfield 19, 3) := by decide +kernel
theorem q_114_45 : p_tb 114 45 = some (.getfield 94, 3) := by decide +kernel
theorem q_114_48 : p_tb 114 48 = some (.getfield 136, 3) := by decide +kernel
theorem q_114_51 : p_tb 114 51 = some (.if_icmp .ge 50, 3) := by decide +kernel
theorem q_114_54 : p_tb 114 54 = some (.aload_n 1, 1) := by decide +kernel
theorem q_114_55 : p_tb 114 55 = some (.iload 4, 2) := by decide +kernel
theorem q_114_57 : p_tb 114 57 = some (.bipush 6, 2) := by decide +kernel
theorem q_114_59 : p_tb 114 59 = some (.imul, 1) := by decide +kernel
theorem q_114_60 : p_tb 114 60 = some (.iload 5, 2) := by decide +kernel
theorem q_114_62 : p_tb 114 62 = some (.iadd, 1) := by decide +kernel
theorem q_114_63 : p_tb 114 63 = some (.iaload, 1) := by decide +kernel
theorem q_114_64 : p_tb 114 64 = some (.aload_n 1, 1) := by decide +kernel
theorem q_114_65 : p_tb 114 65 = some (.iload 5, 2) := by decide +kernel
theorem q_114_67 : p_tb 114 67 = some (.bipush 6, 2) := by decide +kernel
theorem q_114_69 : p_tb 114 69 = some (.imul, 1) := by decide +kernel
theorem q_114_70 : p_tb 114 70 = some (.iload 4, 2) := by decide +kernel
theorem q_114_72 : p_tb 114 72 = some (.iadd, 1) := by decide +kernel
theorem q_114_73 : p_tb 114 73 = some (.iaload, 1) := by decide +kernel
theorem q_114_74 : p_tb 114 74 = some (.iadd, 1) := by decide +kernel
theorem q_114_75 : p_tb 114 75 = some (.istore 6, 2) := by decide +kernel
theorem q_114_77 : p_tb 114 77 = some (.iload 6, 2) := by decide +kernel
theorem q_114_79 : p_tb 114 79 = some (.iload_n 2, 1) := by decide +kernel
theorem q_114_80 : p_tb 114 80 = some (.if_icmp .le 15, 3) := by decide +kernel
theorem q_114_83 : p_tb 114 83 = some (.iload 6, 2) := by decide +kernel
theorem q_114_85 : p_tb 114 85 = some (.istore_n 2, 1) := by decide +kernel
theorem q_114_86 : p_tb 114 86 = some (.bipush 10, 2) := by decide +kernel
theorem q_114_88 : p_tb 114 88 = some (.iload 4, 2) := by decide +kernel
theorem q_114_90 : p_tb 114 90 = some (.imul, 1) := by decide +kernel
theorem q_114_91 : p_tb 114 91 = some (.iload 5, 2) := by decide +kernel
theorem q_114_93 : p_tb 114 93 = some (.iadd, 1) := by decide +kernel
theorem q_114_94 : p_tb 114 94 = some (.istore_n 3, 1) := by decide +kernel
theorem q_114_95 : p_tb 114 95 = some (.iinc 5 1, 3) := by decide +kernel
theorem q_114_98 : p_tb 114 98 = some (.goto (-59), 3) := by decide +kernel
theorem q_114_101 : p_tb 114 101 = some (.iinc 4 1, 3) := by decide +kernel
theorem q_114_104 : p_tb 114 104 = some (.goto (-86), 3) := by decide +kernel
theorem q_114_107 : p_tb 114 107 = some (.iload_n 3, 1) := by decide +kernel
theorem q_114_108 : p_tb 114 108 = some (.ireturn, 1) := by decide +kernel
theorem t_fN_114_101 : p_f2 p_fN (p_mK 114) 101 = some (9, 1) := by decide +kernel
theorem t_fN_114_136 : p_f2 p_fN (p_mK 114) 136 = some (3, 6) := by decide +kernel
theorem t_fN_114_264 : p_f2 p_fN (p_mK 114) 264 = some (5, 5) := by decide +kernel
theorem t_fN_114_94 : p_f2 p_fN (p_mK 114) 94 = some (9, 0) := by decide +kernel
theorem t_ft_114_19 : p_f2 p_ft (p_mK 114) 19 = some (10, 1) := by decide +kernel
theorem q_115_0 : p_tb 115 0 = some (.aload_n 0, 1) := by decide +kernel
theorem q_115_1 : p_tb 115 1 = some (.iload_n 1, 1) := by decide +kernel
theorem q_115_2 : p_tb 115 2 = some (.invokevirtual 203, 3) := by decide +kernel
theorem q_115_5 : p_tb 115 5 = some (.ifCond .eq 22, 3) := by decide +kernel
theorem q_115_8 : p_tb 115 8 = some (.aload_n 0, 1) := by decide +kernel
theorem q_115_9 : p_tb 115 9 = some (.getfield 19, 3) := by decide +kernel
theorem q_115_12 : p_tb 115 12 = some (.getfield 101, 3) := by decide +kernel
theorem q_115_15 : p_tb 115 15 = some (.getfield 206, 3) := by decide +kernel
theorem q_115_18 : p_tb 115 18 = some (.iload_n 1, 1) := by decide +kernel
theorem q_115_19 : p_tb 115 19 = some (.aaload, 1) := by decide +kernel
theorem q_115_20 : p_tb 115 20 = some (.iload_n 2, 1) := by decide +kernel
theorem q_115_21 : p_tb 115 21 = some (.invokevirtual 267, 3) := by decide +kernel
theorem q_115_24 : p_tb 115 24 = some (.goto 4, 3) := by decide +kernel
theorem q_115_27 : p_tb 115 27 = some (.iconst (-1), 1) := by decide +kernel
theorem q_115_28 : p_tb 115 28 = some (.ireturn, 1) := by decide +kernel
theorem q_144_0 : p_tb 144 0 = some (.iload_n 1, 1) := by decide +kernel
theorem q_144_1 : p_tb 144 1 = some (.ifCond .lt 21, 3) := by decide +kernel
theorem q_144_4 : p_tb 144 4 = some (.iload_n 1, 1) := by decide +kernel
theorem q_144_5 : p_tb 144 5 = some (.aload_n 0, 1) := by decide +kernel
theorem q_144_6 : p_tb 144 6 = some (.getfield 19, 3) := by decide +kernel
theorem q_144_9 : p_tb 144 9 = some (.getfield 94, 3) := by decide +kernel
theorem q_144_12 : p_tb 144 12 = some (.getfield 249, 3) := by decide +kernel
theorem q_144_15 : p_tb 144 15 = some (.if_icmp .ge 7, 3) := by decide +kernel
theorem q_144_18 : p_tb 144 18 = some (.iconst 1, 1) := by decide +kernel
theorem q_144_19 : p_tb 144 19 = some (.goto 4, 3) := by decide +kernel
theorem q_144_22 : p_tb 144 22 = some (.iconst 0, 1) := by decide +kernel
theorem q_144_23 : p_tb 144 23 = some (.ireturn, 1) := by decide +kernel
theorem t_fN_115_101 : p_f2 p_fN (p_mK 115) 101 = some (9, 1) := by decide +kernel
theorem t_fN_115_206 : p_f2 p_fN (p_mK 115) 206 = some (5, 4) := by decide +kernel
theorem t_fN_144_249 : p_f2 p_fN (p_mK 144) 249 = some (3, 7) := by decide +kernel
theorem t_fN_144_94 : p_f2 p_fN (p_mK 144) 94 = some (9, 0) := by decide +kernel
theorem t_ft_115_19 : p_f2 p_ft (p_mK 115) 19 = some (10, 1) := by decide +kernel
theorem t_ft_144_19 : p_f2 p_ft (p_mK 144) 19 = some (10, 1) := by decide +kernel
theorem t_mv_115_203 : p_f2 p_mv (p_mK 115) 203 = some 144 := by decide +kernel
theorem t_mv_115_267 : p_f2 p_mv (p_mK 115) 267 = some 8 := by decide +kernel
theorem q_116_0 : p_tb 116 0 = some (.aload_n 0, 1) := by decide +kernel
theorem q_116_1 : p_tb 116 1 = some (.iload_n 1, 1) := by decide +kernel
theorem q_116_2 : p_tb 116 2 = some (.invokevirtual 203, 3) := by decide +kernel
theorem q_116_5 : p_tb 116 5 = some (.ifCond .eq 22, 3) := by decide +kernel
theorem q_116_8 : p_tb 116 8 = some (.aload_n 0, 1) := by decide +kernel
theorem q_116_9 : p_tb 116 9 = some (.getfield 19, 3) := by decide +kernel
theorem q_116_12 : p_tb 116 12 = some (.getfield 101, 3) := by decide +kernel
theorem q_116_15 : p_tb 116 15 = some (.getfield 206, 3) := by decide +kernel
theorem q_116_18 : p_tb 116 18 = some (.iload_n 1, 1) := by decide +kernel
theorem q_116_19 : p_tb 116 19 = some (.aaload, 1) := by decide +kernel
theorem q_116_20 : p_tb 116 20 = some (.iload_n 2, 1) := by decide +kernel
theorem q_116_21 : p_tb 116 21 = some (.invokevirtual 270, 3) := by decide +kernel
theorem q_116_24 : p_tb 116 24 = some (.goto 4, 3) := by decide +kernel
theorem q_116_27 : p_tb 116 27 = some (.iconst (-1), 1) := by decide +kernel
theorem q_116_28 : p_tb 116 28 = some (.ireturn, 1) := by decide +kernel
theorem t_fN_116_101 : p_f2 p_fN (p_mK 116) 101 = some (9, 1) := by decide +kernel
theorem t_fN_116_206 : p_f2 p_fN (p_mK 116) 206 = some (5, 4) := by decide +kernel
theorem t_ft_116_19 : p_f2 p_ft (p_mK 116) 19 = some (10, 1) := by decide +kernel
theorem t_mv_116_203 : p_f2 p_mv (p_mK 116) 203 = some 144 := by decide +kernel
theorem t_mv_116_270 : p_f2 p_mv (p_mK 116) 270 = some 9 := by decide +kernel
theorem q_145_0 : p_tb 145 0 = some (.aload_n 0, 1) := by decide +kernel
theorem q_145_1 : p_tb 145 1 = some (.iload_n 2, 1) := by decide +kernel
theorem q_145_2 : p_tb 145 2 = some (.invokevirtual 169, 3) := by decide +kernel
theorem q_145_5 : p_tb 145 5 = some (.ifCond .ne 5, 3) := by decide +kernel
theorem q_145_8 : p_tb 145 8 = some (.iconst (-1), 1) := by decide +kernel
theorem q_145_9 : p_tb 145 9 = some (.ireturn, 1) := by decide +kernel
theorem q_145_10 : p_tb 145 10 = some (.aload_n 0, 1) := by decide +kernel
theorem q_145_11 : p_tb 145 11 = some (.getfield 19, 3) := by decide +kernel
theorem q_145_14 : p_tb 145 14 = some (.getfield 101, 3) := by decide +kernel
theorem q_145_17 : p_tb 145 17 = some (.aload_n 1, 1) := by decide +kernel
theorem q_145_18 : p_tb 145 18 = some (.iload_n 2, 1) := by decide +kernel
theorem q_145_19 : p_tb 145 19 = some (.invokevirtual 376, 3) := by decide +kernel
theorem q_145_22 : p_tb 145 22 = some (.istore_n 3, 1) := by decide +kernel
theorem q_145_23 : p_tb 145 23 = some (.iload_n 3, 1) := by decide +kernel
theorem q_145_24 : p_tb 145 24 = some (.ifCond .ne 29, 3) := by decide +kernel
theorem q_145_27 : p_tb 145 27 = some (.aload_n 0, 1) := by decide +kernel
theorem q_145_28 : p_tb 145 28 = some (.getfield 34, 3) := by decide +kernel
theorem q_145_31 : p_tb 145 31 = some (.aload_n 0, 1) := by decide +kernel
theorem q_145_32 : p_tb 145 32 = some (.getfield 19, 3) := by decide +kernel
theorem q_145_35 : p_tb 145 35 = some (.getfield 101, 3) := by decide +kernel
theorem q_145_38 : p_tb 145 38 = some (.invokevirtual 147, 3) := by decide +kernel
theorem q_145_41 : p_tb 145 41 = some (.aload_n 0, 1) := by decide +kernel
theorem q_145_42 : p_tb 145 42 = some (.getfield 19, 3) := by decide +kernel
theorem q_145_45 : p_tb 145 45 = some (.getfield 101, 3) := by decide +kernel
theorem q_145_48 : p_tb 145 48 = some (.aload_n 1, 1) := by decide +kernel
theorem q_145_49 : p_tb 145 49 = some (.iload_n 2, 1) := by decide +kernel
theorem q_145_50 : p_tb 145 50 = some (.invokevirtual 379, 3) := by decide +kernel
theorem q_145_53 : p_tb 145 53 = some (.iload_n 3, 1) := by decide +kernel
theorem q_145_54 : p_tb 145 54 = some (.ireturn, 1) := by decide +kernel
theorem t_fN_145_101 : p_f2 p_fN (p_mK 145) 101 = some (9, 1) := by decide +kernel
theorem t_ft_145_19 : p_f2 p_ft (p_mK 145) 19 = some (10, 1) := by decide +kernel
theorem t_ft_145_34 : p_f2 p_ft (p_mK 145) 34 = some (10, 4) := by decide +kernel
theorem t_mv_145_147 : p_f2 p_mv (p_mK 145) 147 = some 13 := by decide +kernel
theorem t_mv_145_169 : p_f2 p_mv (p_mK 145) 169 = some 143 := by decide +kernel
theorem t_mv_145_376 : p_f2 p_mv (p_mK 145) 376 = some 54 := by decide +kernel
theorem t_mv_145_379 : p_f2 p_mv (p_mK 145) 379 = some 55 := by decide +kernel
theorem q_117_0 : p_tb 117 0 = some (.aload_n 0, 1) := by decide +kernel
theorem q_117_1 : p_tb 117 1 = some (.getstatic 273, 3) := by decide +kernel
theorem q_117_4 : p_tb 117 4 = some (.iload_n 1, 1) := by decide +kernel
theorem q_117_5 : p_tb 117 5 = some (.invokevirtual 279, 3) := by decide +kernel
theorem q_117_8 : p_tb 117 8 = some (.ireturn, 1) := by decide +kernel
theorem t_mv_117_279 : p_f2 p_mv (p_mK 117) 279 = some 145 := by decide +kernel
theorem t_st_117_273 : p_f2 p_st (p_mK 117) 273 = some 11 := by decide +kernel
theorem q_118_0 : p_tb 118 0 = some (.aload_n 0, 1) := by decide +kernel
theorem q_118_1 : p_tb 118 1 = some (.getstatic 283, 3) := by decide +kernel
theorem q_118_4 : p_tb 118 4 = some (.iload_n 1, 1) := by decide +kernel
theorem q_118_5 : p_tb 118 5 = some (.invokevirtual 279, 3) := by decide +kernel
theorem q_118_8 : p_tb 118 8 = some (.ireturn, 1) := by decide +kernel
theorem t_mv_118_279 : p_f2 p_mv (p_mK 118) 279 = some 145 := by decide +kernel
theorem t_st_118_283 : p_f2 p_st (p_mK 118) 283 = some 12 := by decide +kernel
theorem q_119_0 : p_tb 119 0 = some (.aload_n 0, 1) := by decide +kernel
theorem q_119_1 : p_tb 119 1 = some (.getstatic 286, 3) := by decide +kernel
theorem q_119_4 : p_tb 119 4 = some (.iload_n 1, 1) := by decide +kernel
theorem q_119_5 : p_tb 119 5 = some (.invokevirtual 279, 3) := by decide +kernel
theorem q_119_8 : p_tb 119 8 = some (.ireturn, 1) := by decide +kernel
theorem t_mv_119_279 : p_f2 p_mv (p_mK 119) 279 = some 145 := by decide +kernel
theorem t_st_119_286 : p_f2 p_st (p_mK 119) 286 = some 13 := by decide +kernel
theorem q_120_0 : p_tb 120 0 = some (.aload_n 0, 1) := by decide +kernel
theorem q_120_1 : p_tb 120 1 = some (.getstatic 289, 3) := by decide +kernel
theorem q_120_4 : p_tb 120 4 = some (.iload_n 1, 1) := by decide +kernel
theorem q_120_5 : p_tb 120 5 = some (.invokevirtual 279, 3) := by decide +kernel
theorem q_120_8 : p_tb 120 8 = some (.ireturn, 1) := by decide +kernel
theorem t_mv_120_279 : p_f2 p_mv (p_mK 120) 279 = some 145 := by decide +kernel
theorem t_st_120_289 : p_f2 p_st (p_mK 120) 289 = some 14 := by decide +kernel
theorem q_121_0 : p_tb 121 0 = some (.aload_n 0, 1) := by decide +kernel
theorem q_121_1 : p_tb 121 1 = some (.getstatic 292, 3) := by decide +kernel
theorem q_121_4 : p_tb 121 4 = some (.iload_n 1, 1) := by decide +kernel
theorem q_121_5 : p_tb 121 5 = some (.invokevirtual 279, 3) := by decide +kernel
theorem q_121_8 : p_tb 121 8 = some (.ireturn, 1) := by decide +kernel
theorem t_mv_121_279 : p_f2 p_mv (p_mK 121) 279 = some 145 := by decide +kernel
theorem t_st_121_292 : p_f2 p_st (p_mK 121) 292 = some 15 := by decide +kernel
theorem c_X11_now (G : pG) (Kr : pK) (M : pM) (I : Iv gTT M) (a1 : Int32) (hK : ∀ (x : Int32) (M1 : pM), Iv gTT M1 → Fr [] M M1 → Kr.1 (some (.int x)) 311 M1) : PW G false 1 110 (p_mc 110) (p_msl 110) Kr 0 (lv_args 0 [.ref 0, .int a1]) [] 311 M 0 0 := by
  have F : Fr [] M M := Fr.refl
  refine PW.iload_n q_110_0 rfl ?_
  have h1 : a1.toInt = 0 ∨ a1.toInt = 1 ∨ a1.toInt = 2 ∨ a1.toInt = 3 ∨ a1.toInt = 4 ∨ a1.toInt = 5 ∨ (a1.toInt < 0 ∨ 5 < a1.toInt) := by omega
  rcases h1 with h1 | h1 | h1 | h1 | h1 | h1 | h1
  · skip
    refine PW.sw1 (0) h1 q_110_1 (by decide) (by decide) rfl rfl ?_
    refine PW.aload_n q_110_40 rfl ?_
    refine PW.gR 3 q_110_41 (Or.inl t_ft_110_19) gF_0_1 kd_0 I.1 (by decide) rfl ?_
    refine PW.gR 15 q_110_44 (Or.inr t_fN_110_101) gF_3_1 kd_3 I.1 (by decide) rfl ?_
    refine PW.gI q_110_47 (Or.inr t_fN_110_230) gF_5_0 kd_15 I.1 (by decide) fun x2 fx2 hx2 kx2 => ?_
    refine PW.rI q_110_50 rfl (by decide) (by decide) ?_
    exact hK x2 M I F
  · skip
    refine PW.sw1 (1) h1 q_110_1 (by decide) (by decide) rfl rfl ?_
    refine PW.aload_n q_110_51 rfl ?_
    refine PW.gR 3 q_110_52 (Or.inl t_ft_110_19) gF_0_1 kd_0 I.1 (by decide) rfl ?_
    refine PW.gR 15 q_110_55 (Or.inr t_fN_110_101) gF_3_1 kd_3 I.1 (by decide) rfl ?_
    refine PW.gI q_110_58 (Or.inr t_fN_110_233) gF_5_1 kd_15 I.1 (by decide) fun x3 fx3 hx3 kx3 => ?_
    clear hx3 kx3
    refine PW.rI q_110_61 rfl (by decide) (by decide) ?_
    exact hK x3 M I F
  · skip
    refine PW.sw1 (2) h1 q_110_1 (by decide) (by decide) rfl rfl ?_
    refine PW.aload_n q_110_62 rfl ?_
    refine PW.gR 3 q_110_63 (Or.inl t_ft_110_19) gF_0_1 kd_0 I.1 (by decide) rfl ?_
    refine PW.gR 15 q_110_66 (Or.inr t_fN_110_101) gF_3_1 kd_3 I.1 (by decide) rfl ?_
    refine PW.gI q_110_69 (Or.inr t_fN_110_236) gF_5_2 kd_15 I.1 (by decide) fun x4 fx4 hx4 kx4 => ?_
    clear hx4 kx4
    refine PW.rI q_110_72 rfl (by decide) (by decide) ?_
    exact hK x4 M I F
  · skip
    refine PW.sw1 (3) h1 q_110_1 (by decide) (by decide) rfl rfl ?_
    refine PW.aload_n q_110_73 rfl ?_
    refine PW.gR 3 q_110_74 (Or.inl t_ft_110_19) gF_0_1 kd_0 I.1 (by decide) rfl ?_
    refine PW.gR 15 q_110_77 (Or.inr t_fN_110_101) gF_3_1 kd_3 I.1 (by decide) rfl ?_
    refine PW.cV (as := []) (rest := []) q_110_80 t_mv_110_239 kd_15 I.1 (by decide) rfl (by decide) rfl rfl (Nat.le_of_ble_eq_true rfl) (Nat.le_of_ble_eq_true rfl) (by decide) (by decide) ?_
    refine PW.up (by decide) (c_X5_hangingBits (gTT) (Stab0) G _ M I 15 kd_15 fun x6 M5 IM5 GM5 => ?_)
    have FM5 := Fr.trans F GM5 (rfl)
    refine PW.rI q_110_83 rfl (by decide) (by decide) ?_
    exact hK x6 M5 IM5 FM5
  · skip
    refine PW.sw1 (4) h1 q_110_1 (by decide) (by decide) rfl rfl ?_
    refine PW.aload_n q_110_84 rfl ?_
    refine PW.gR 3 q_110_85 (Or.inl t_ft_110_19) gF_0_1 kd_0 I.1 (by decide) rfl ?_
    refine PW.gR 15 q_110_88 (Or.inr t_fN_110_101) gF_3_1 kd_3 I.1 (by decide) rfl ?_
    refine PW.aload_n q_110_91 rfl ?_
    refine PW.gR 3 q_110_92 (Or.inl t_ft_110_19) gF_0_1 kd_0 I.1 (by decide) rfl ?_
    refine PW.gR 4 q_110_95 (Or.inr t_fN_110_94) gF_3_0 kd_3 I.1 (by decide) rfl ?_
    refine PW.gI q_110_98 (Or.inr t_fN_110_136) gF_4_6 kd_4 I.1 (by decide) fun x7 fx7 hx7 kx7 => ?_
    refine PW.cV (as := [_]) (rest := []) q_110_101 t_mv_110_243 kd_15 I.1 (by decide) rfl (by decide) rfl rfl (Nat.le_of_ble_eq_true rfl) (Nat.le_of_ble_eq_true rfl) (by decide) (by decide) ?_
    refine PW.up (by decide) (c_X5_walkingBits (gTT) (Stab0) G _ M I 15 kd_15 x7 (by omega) (by omega) fun x9 M8 IM8 GM8 => ?_)
    have FM8 := Fr.trans F GM8 (rfl)
    refine PW.rI q_110_104 rfl (by decide) (by decide) ?_
    exact hK x9 M8 IM8 FM8
  · skip
    refine PW.sw1 (5) h1 q_110_1 (by decide) (by decide) rfl rfl ?_
    refine PW.aload_n q_110_105 rfl ?_
    refine PW.gR 3 q_110_106 (Or.inl t_ft_110_19) gF_0_1 kd_0 I.1 (by decide) rfl ?_
    refine PW.gR 15 q_110_109 (Or.inr t_fN_110_101) gF_3_1 kd_3 I.1 (by decide) rfl ?_
    refine PW.cV (as := []) (rest := []) q_110_112 t_mv_110_246 kd_15 I.1 (by decide) rfl (by decide) rfl rfl (Nat.le_of_ble_eq_true rfl) (Nat.le_of_ble_eq_true rfl) (by decide) (by decide) ?_
    refine PW.up (by decide) (c_X5_allTurns (gTT) (Stab0) G _ M I 15 kd_15 fun x11 M10 IM10 GM10 => ?_)
    have FM10 := Fr.trans F GM10 (rfl)
    refine PW.rI q_110_115 rfl (by decide) (by decide) ?_
    exact hK x11 M10 IM10 FM10
  · skip
    refine PW.tswO q_110_1 h1 rfl ?_
    refine PW.cI q_110_116 (by decide) fun c12 hc12 => ?_
    refine PW.rI q_110_117 rfl (by decide) (by decide) ?_
    exact hK c12 M I F
theorem c_X11_count (G : pG) (Kr : pK) (M : pM) (I : Iv gTT M) (a1 : Int32) (hK : ∀ (x : Int32) (M1 : pM), Iv gTT M1 → Fr [] M M1 → Kr.1 (some (.int x)) 311 M1) : PW G false 0 111 (p_mc 111) (p_msl 111) Kr 0 (lv_args 0 [.ref 0, .int a1]) [] 311 M 0 0 := by
  have F : Fr [] M M := Fr.refl
  refine PW.iload_n q_111_0 rfl ?_
  have h1 : a1.toInt = 0 ∨ a1.toInt = 1 ∨ a1.toInt = 2 ∨ a1.toInt = 3 ∨ a1.toInt = 4 ∨ a1.toInt = 5 ∨ (a1.toInt < 0 ∨ 5 < a1.toInt) := by omega
  rcases h1 with h1 | h1 | h1 | h1 | h1 | h1 | h1
  · skip
    refine PW.sw1 (0) h1 q_111_1 (by decide) (by decide) rfl rfl ?_
    refine PW.aload_n q_111_40 rfl ?_
    refine PW.gR 3 q_111_41 (Or.inl t_ft_111_19) gF_0_1 kd_0 I.1 (by decide) rfl ?_
    refine PW.gR 4 q_111_44 (Or.inr t_fN_111_94) gF_3_0 kd_3 I.1 (by decide) rfl ?_
    refine PW.gI q_111_47 (Or.inr t_fN_111_136) gF_4_6 kd_4 I.1 (by decide) fun x2 fx2 hx2 kx2 => ?_
    refine PW.rI q_111_50 rfl (by decide) (by decide) ?_
    exact hK x2 M I F
  · skip
    refine PW.sw1 (1) h1 q_111_1 (by decide) (by decide) rfl rfl ?_
    refine PW.aload_n q_111_51 rfl ?_
    refine PW.gR 3 q_111_52 (Or.inl t_ft_111_19) gF_0_1 kd_0 I.1 (by decide) rfl ?_
    refine PW.gR 4 q_111_55 (Or.inr t_fN_111_94) gF_3_0 kd_3 I.1 (by decide) rfl ?_
    refine PW.gI q_111_58 (Or.inr t_fN_111_249) gF_4_7 kd_4 I.1 (by decide) fun x3 fx3 hx3 kx3 => ?_
    refine PW.rI q_111_61 rfl (by decide) (by decide) ?_
    exact hK x3 M I F
  · skip
    refine PW.sw1 (2) h1 q_111_1 (by decide) (by decide) rfl rfl ?_
    refine PW.aload_n q_111_62 rfl ?_
    refine PW.gR 3 q_111_63 (Or.inl t_ft_111_19) gF_0_1 kd_0 I.1 (by decide) rfl ?_
    refine PW.gR 4 q_111_66 (Or.inr t_fN_111_94) gF_3_0 kd_3 I.1 (by decide) rfl ?_
    refine PW.gI q_111_69 (Or.inr t_fN_111_251) gF_4_1 kd_4 I.1 (by decide) fun x4 fx4 hx4 kx4 => ?_
    clear hx4 kx4
    refine PW.rI q_111_72 rfl (by decide) (by decide) ?_
    exact hK x4 M I F
  · skip
    refine PW.sw1 (3) h1 q_111_1 (by decide) (by decide) rfl rfl ?_
    refine PW.aload_n q_111_73 rfl ?_
    refine PW.gR 3 q_111_74 (Or.inl t_ft_111_19) gF_0_1 kd_0 I.1 (by decide) rfl ?_
    refine PW.gR 4 q_111_77 (Or.inr t_fN_111_94) gF_3_0 kd_3 I.1 (by decide) rfl ?_
    refine PW.gI q_111_80 (Or.inr t_fN_111_254) gF_4_2 kd_4 I.1 (by decide) fun x5 fx5 hx5 kx5 => ?_
    clear hx5 kx5
    refine PW.rI q_111_83 rfl (by decide) (by decide) ?_
    exact hK x5 M I F
  · skip
    refine PW.sw1 (4) h1 q_111_1 (by decide) (by decide) rfl rfl ?_
    refine PW.aload_n q_111_84 rfl ?_
    refine PW.gR 3 q_111_85 (Or.inl t_ft_111_19) gF_0_1 kd_0 I.1 (by decide) rfl ?_
    refine PW.gR 4 q_111_88 (Or.inr t_fN_111_94) gF_3_0 kd_3 I.1 (by decide) rfl ?_
    refine PW.gI q_111_91 (Or.inr t_fN_111_257) gF_4_3 kd_4 I.1 (by decide) fun x6 fx6 hx6 kx6 => ?_
    clear hx6 kx6
    refine PW.rI q_111_94 rfl (by decide) (by decide) ?_
    exact hK x6 M I F
  · skip
    refine PW.sw1 (5) h1 q_111_1 (by decide) (by decide) rfl rfl ?_
    refine PW.aload_n q_111_95 rfl ?_
    refine PW.gR 1 q_111_96 (Or.inl t_ft_111_10) gF_0_0 kd_0 I.1 (by decide) rfl ?_
    refine PW.gI q_111_99 (Or.inr t_fN_111_73) gF_1_1 kd_1 I.1 (by decide) fun x7 fx7 hx7 kx7 => ?_
    refine PW.rI q_111_102 rfl (by decide) (by decide) ?_
    exact hK x7 M I F
  · skip
    refine PW.tswO q_111_1 h1 rfl ?_
    refine PW.cI q_111_103 (by decide) fun c8 hc8 => ?_
    refine PW.rI q_111_104 rfl (by decide) (by decide) ?_
    exact hK c8 M I F
theorem c_X11_gap (G : pG) (Kr : pK) (M : pM) (I : Iv gTT M) (a1 : Int32) (a2 : Int32) (hK : ∀ (x : Int32) (M1 : pM), Iv gTT M1 → Fr [] M M1 → Kr.1 (some (.int x)) 311 M1) : PW G false 2 112 (p_mc 112) (p_msl 112) Kr 0 (lv_args 0 [.ref 0, .int a1, .int a2]) [] 311 M 0 0 := by
  have F : Fr [] M M := Fr.refl
  refine PW.aload_n q_112_0 rfl ?_
  refine PW.iload_n q_112_1 rfl ?_
  refine PW.cV (as := [_]) (rest := []) q_112_2 t_mv_112_169 kd_0 I.1 (by decide) rfl (by decide) rfl rfl (Nat.le_of_ble_eq_true rfl) (Nat.le_of_ble_eq_true rfl) (by decide) (by decide) ?_
  refine PW.iload_n q_143_0 rfl ?_
  refine PW.jz_lt q_143_1 rfl (fun h1 => ?_) (fun h1 => ?_)
  · skip
    refine PW.cI q_143_22 (by decide) fun c2 hc2 => ?_
    refine PW.rZ q_143_23 rfl (by omega) (by omega) (by decide) (by decide) ?_
    refine PW.jz_eq q_112_5 rfl (fun h3 => ?_) (fun h3 => False.elim (by omega))
    refine PW.cI q_112_16 (by decide) fun c4 hc4 => ?_
    refine PW.rI q_112_17 rfl (by decide) (by decide) ?_
    exact hK c4 M I F
  · skip
    refine PW.iload_n q_143_4 rfl ?_
    refine PW.aload_n q_143_5 rfl ?_
    refine PW.gR 3 q_143_6 (Or.inl t_ft_143_19) gF_0_1 kd_0 I.1 (by decide) rfl ?_
    refine PW.gR 4 q_143_9 (Or.inr t_fN_143_94) gF_3_0 kd_3 I.1 (by decide) rfl ?_
    refine PW.gI q_143_12 (Or.inr t_fN_143_136) gF_4_6 kd_4 I.1 (by decide) fun x5 fx5 hx5 kx5 => ?_
    refine PW.jc_ge q_143_15 rfl (fun h6 => ?_) (fun h6 => ?_)
    · skip
      refine PW.cI q_143_22 (by decide) fun c7 hc7 => ?_
      refine PW.rZ q_143_23 rfl (by omega) (by omega) (by decide) (by decide) ?_
      refine PW.jz_eq q_112_5 rfl (fun h8 => ?_) (fun h8 => False.elim (by omega))
      refine PW.cI q_112_16 (by decide) fun c9 hc9 => ?_
      refine PW.rI q_112_17 rfl (by decide) (by decide) ?_
      exact hK c9 M I F
    · skip
      refine PW.cI q_143_18 (by decide) fun c10 hc10 => ?_
      refine PW.goto q_143_19 rfl ?_
      refine PW.rZ q_143_23 rfl (by omega) (by omega) (by decide) (by decide) ?_
      refine PW.jz_eq q_112_5 rfl (fun h11 => False.elim (by omega)) (fun h11 => ?_)
      refine PW.aload_n q_112_8 rfl ?_
      refine PW.iload_n q_112_9 rfl ?_
      refine PW.cV (as := [_]) (rest := []) q_112_10 t_mv_112_169 kd_0 I.1 (by decide) rfl (by decide) rfl rfl (Nat.le_of_ble_eq_true rfl) (Nat.le_of_ble_eq_true rfl) (by decide) (by decide) ?_
      refine PW.iload_n q_143_0 rfl ?_
      refine PW.jz_lt q_143_1 rfl (fun h12 => ?_) (fun h12 => ?_)
      · skip
        refine PW.cI q_143_22 (by decide) fun c13 hc13 => ?_
        refine PW.rZ q_143_23 rfl (by omega) (by omega) (by decide) (by decide) ?_
        refine PW.jz_ne q_112_13 rfl (fun h14 => False.elim (by omega)) (fun h14 => ?_)
        refine PW.cI q_112_16 (by decide) fun c15 hc15 => ?_
        refine PW.rI q_112_17 rfl (by decide) (by decide) ?_
        exact hK c15 M I F
      · skip
        refine PW.iload_n q_143_4 rfl ?_
        refine PW.aload_n q_143_5 rfl ?_
        refine PW.gR 3 q_143_6 (Or.inl t_ft_143_19) gF_0_1 kd_0 I.1 (by decide) rfl ?_
        refine PW.gR 4 q_143_9 (Or.inr t_fN_143_94) gF_3_0 kd_3 I.1 (by decide) rfl ?_
        refine PW.gE q_143_12 (Or.inr t_fN_143_136) gF_4_6 kd_4 I.1 (by decide) fx5 ?_
        refine PW.jc_ge q_143_15 rfl (fun h16 => ?_) (fun h16 => ?_)
        · skip
          refine PW.cI q_143_22 (by decide) fun c17 hc17 => ?_
          refine PW.rZ q_143_23 rfl (by omega) (by omega) (by decide) (by decide) ?_
          refine PW.jz_ne q_112_13 rfl (fun h18 => False.elim (by omega)) (fun h18 => ?_)
          refine PW.cI q_112_16 (by decide) fun c19 hc19 => ?_
          refine PW.rI q_112_17 rfl (by decide) (by decide) ?_
          exact hK c19 M I F
        · skip
          refine PW.cI q_143_18 (by decide) fun c20 hc20 => ?_
          refine PW.goto q_143_19 rfl ?_
          refine PW.rZ q_143_23 rfl (by omega) (by omega) (by decide) (by decide) ?_
          refine PW.jz_ne q_112_13 rfl (fun h21 => ?_) (fun h21 => False.elim (by omega))
          refine PW.aload_n q_112_18 rfl ?_
          refine PW.gR 3 q_112_19 (Or.inl t_ft_112_19) gF_0_1 kd_0 I.1 (by decide) rfl ?_
          refine PW.gR 15 q_112_22 (Or.inr t_fN_112_101) gF_3_1 kd_3 I.1 (by decide) rfl ?_
          refine PW.iload_n q_112_25 rfl ?_
          refine PW.iload_n q_112_26 rfl ?_
          refine PW.cV (as := [_, _]) (rest := []) q_112_27 t_mv_112_260 kd_15 I.1 (by decide) rfl (by decide) rfl rfl (Nat.le_of_ble_eq_true rfl) (Nat.le_of_ble_eq_true rfl) (by decide) (by decide) ?_
          refine PW.up (by decide) (c_X5_apart (gTT) (Stab0) G _ M I 15 kd_15 a1 a2 (by omega) (by omega) (by omega) (by omega) fun x23 M22 IM22 GM22 => ?_)
          have FM22 := Fr.trans F GM22 (rfl)
          refine PW.rI q_112_30 rfl (by decide) (by decide) ?_
          exact hK x23 M22 IM22 FM22
theorem c_X11_said (G : pG) (Kr : pK) (M : pM) (I : Iv gTT M) (a1 : Int32) (a2 : Int32) (hK : ∀ (x : Int32) (M1 : pM), Iv gTT M1 → Fr [] M M1 → Kr.1 (some (.int x)) 311 M1) : PW G false 1 113 (p_mc 113) (p_msl 113) Kr 0 (lv_args 0 [.ref 0, .int a1, .int a2]) [] 311 M 0 0 := by
  have F : Fr [] M M := Fr.refl
  refine PW.aload_n q_113_0 rfl ?_
  refine PW.iload_n q_113_1 rfl ?_
  refine PW.cV (as := [_]) (rest := []) q_113_2 t_mv_113_169 kd_0 I.1 (by decide) rfl (by decide) rfl rfl (Nat.le_of_ble_eq_true rfl) (Nat.le_of_ble_eq_true rfl) (by decide) (by decide) ?_
  refine PW.iload_n q_143_0 rfl ?_
  refine PW.jz_lt q_143_1 rfl (fun h1 => ?_) (fun h1 => ?_)
  · skip
    refine PW.cI q_143_22 (by decide) fun c2 hc2 => ?_
    refine PW.rZ q_143_23 rfl (by omega) (by omega) (by decide) (by decide) ?_
    refine PW.jz_eq q_113_5 rfl (fun h3 => ?_) (fun h3 => False.elim (by omega))
    refine PW.cI q_113_16 (by decide) fun c4 hc4 => ?_
    refine PW.rI q_113_17 rfl (by decide) (by decide) ?_
    exact hK c4 M I F
  · skip
    refine PW.iload_n q_143_4 rfl ?_
    refine PW.aload_n q_143_5 rfl ?_
    refine PW.gR 3 q_143_6 (Or.inl t_ft_143_19) gF_0_1 kd_0 I.1 (by decide) rfl ?_
    refine PW.gR 4 q_143_9 (Or.inr t_fN_143_94) gF_3_0 kd_3 I.1 (by decide) rfl ?_
    refine PW.gI q_143_12 (Or.inr t_fN_143_136) gF_4_6 kd_4 I.1 (by decide) fun x5 fx5 hx5 kx5 => ?_
    refine PW.jc_ge q_143_15 rfl (fun h6 => ?_) (fun h6 => ?_)
    · skip
      refine PW.cI q_143_22 (by decide) fun c7 hc7 => ?_
      refine PW.rZ q_143_23 rfl (by omega) (by omega) (by decide) (by decide) ?_
      refine PW.jz_eq q_113_5 rfl (fun h8 => ?_) (fun h8 => False.elim (by omega))
      refine PW.cI q_113_16 (by decide) fun c9 hc9 => ?_
      refine PW.rI q_113_17 rfl (by decide) (by decide) ?_
      exact hK c9 M I F
    · skip
      refine PW.cI q_143_18 (by decide) fun c10 hc10 => ?_
      refine PW.goto q_143_19 rfl ?_
      refine PW.rZ q_143_23 rfl (by omega) (by omega) (by decide) (by decide) ?_
      refine PW.jz_eq q_113_5 rfl (fun h11 => False.elim (by omega)) (fun h11 => ?_)
      refine PW.aload_n q_113_8 rfl ?_
      refine PW.iload_n q_113_9 rfl ?_
      refine PW.cV (as := [_]) (rest := []) q_113_10 t_mv_113_169 kd_0 I.1 (by decide) rfl (by decide) rfl rfl (Nat.le_of_ble_eq_true rfl) (Nat.le_of_ble_eq_true rfl) (by decide) (by decide) ?_
      refine PW.iload_n q_143_0 rfl ?_
      refine PW.jz_lt q_143_1 rfl (fun h12 => ?_) (fun h12 => ?_)
      · skip
        refine PW.cI q_143_22 (by decide) fun c13 hc13 => ?_
        refine PW.rZ q_143_23 rfl (by omega) (by omega) (by decide) (by decide) ?_
        refine PW.jz_ne q_113_13 rfl (fun h14 => False.elim (by omega)) (fun h14 => ?_)
        refine PW.cI q_113_16 (by decide) fun c15 hc15 => ?_
        refine PW.rI q_113_17 rfl (by decide) (by decide) ?_
        exact hK c15 M I F
      · skip
        refine PW.iload_n q_143_4 rfl ?_
        refine PW.aload_n q_143_5 rfl ?_
        refine PW.gR 3 q_143_6 (Or.inl t_ft_143_19) gF_0_1 kd_0 I.1 (by decide) rfl ?_
        refine PW.gR 4 q_143_9 (Or.inr t_fN_143_94) gF_3_0 kd_3 I.1 (by decide) rfl ?_
        refine PW.gE q_143_12 (Or.inr t_fN_143_136) gF_4_6 kd_4 I.1 (by decide) fx5 ?_
        refine PW.jc_ge q_143_15 rfl (fun h16 => ?_) (fun h16 => ?_)
        · skip
          refine PW.cI q_143_22 (by decide) fun c17 hc17 => ?_
          refine PW.rZ q_143_23 rfl (by omega) (by omega) (by decide) (by decide) ?_
          refine PW.jz_ne q_113_13 rfl (fun h18 => False.elim (by omega)) (fun h18 => ?_)
          refine PW.cI q_113_16 (by decide) fun c19 hc19 => ?_
          refine PW.rI q_113_17 rfl (by decide) (by decide) ?_
          exact hK c19 M I F
        · skip
          refine PW.cI q_143_18 (by decide) fun c20 hc20 => ?_
          refine PW.goto q_143_19 rfl ?_
          refine PW.rZ q_143_23 rfl (by omega) (by omega) (by decide) (by decide) ?_
          refine PW.jz_ne q_113_13 rfl (fun h21 => ?_) (fun h21 => False.elim (by omega))
          refine PW.aload_n q_113_18 rfl ?_
          refine PW.gR 3 q_113_19 (Or.inl t_ft_113_19) gF_0_1 kd_0 I.1 (by decide) rfl ?_
          refine PW.gR 15 q_113_22 (Or.inr t_fN_113_101) gF_3_1 kd_3 I.1 (by decide) rfl ?_
          refine PW.gR 32 q_113_25 (Or.inr t_fN_113_264) gF_5_5 kd_15 I.1 (by decide) rfl ?_
          refine PW.iload_n q_113_28 rfl ?_
          refine PW.cB q_113_29 (by decide) fun c22 hc22 => ?_
          refine PW.mulN q_113_31 (6) (by omega) a1 (fun h => n_eq.mpr (by omega)) (fun h => n_eq.mpr (by omega)) (by omega) (by omega) fun x23 hx23 => ?_
          refine PW.iload_n q_113_32 rfl ?_
          refine PW.addN q_113_33 (by have := n_lo a2; have := n_hi a2; omega) (by have := n_lo a2; have := n_hi a2; omega) fun x24 hx24 => ?_
          refine PW.aH q_113_34 gA_13 kd_32 I.1 (by decide) (by omega) (by omega) fun x25 fx25 => ?_
          refine PW.rI q_113_35 rfl (by decide) (by decide) ?_
          exact hK x25 M I F
theorem c_X11_dearest (G : pG) (Kr : pK) (M : pM) (I : Iv gTT M)  (hK : ∀ (x : Int32) (M1 : pM), Iv gTT M1 → Fr [] M M1 → Kr.1 (some (.int x)) 311 M1) : PW G false 0 114 (p_mc 114) (p_msl 114) Kr 0 (lv_args 0 [.ref 0]) [] 311 M 0 0 := by
  have F : Fr [] M M := Fr.refl
  refine PW.aload_n q_114_0 rfl ?_
  refine PW.gR 3 q_114_1 (Or.inl t_ft_114_19) gF_0_1 kd_0 I.1 (by decide) rfl ?_
  refine PW.gR 15 q_114_4 (Or.inr t_fN_114_101) gF_3_1 kd_3 I.1 (by decide) rfl ?_
  refine PW.gR 32 q_114_7 (Or.inr t_fN_114_264) gF_5_5 kd_15 I.1 (by decide) rfl ?_
  refine PW.astore_n q_114_10 (by decide) ?_
  refine PW.cI q_114_11 (by decide) fun c1 hc1 => ?_
  refine PW.istore_n q_114_12 (by decide) ?_
  refine PW.cI q_114_13 (by decide) fun c2 hc2 => ?_
  refine PW.istore_n q_114_14 (by decide) ?_
  refine PW.cI q_114_15 (by decide) fun c3 hc3 => ?_
  refine PW.istore q_114_16 (by decide) ?_
  have L114_18_4 : ∀ (n : Nat) (ML114_18_4 : pM) (v5 v6 v7 : Int32), Iv (gTT) ML114_18_4 → Fr [] M ML114_18_4 → 0 ≤ v5.toInt → -1 ≤ v6.toInt → v6.toInt ≤ 60 → 0 ≤ v7.toInt → v7.toInt ≤ 6 → (6 - v7.toInt).toNat = n → PW G false 0 114 (p_mc 114) (p_msl 114) Kr 18 [(0, .ref 0), (1, .ref 32), (2, .int v5), (3, .int v6), (4, .int v7)] [] 311 ML114_18_4 0 0 := by
    intro n
    induction n using Nat.strongRecOn with
    | ind n ih_L114_18_4 =>
    intro ML114_18_4 v5 v6 v7 IML114_18_4 FML114_18_4 hbL114_18_40 hbL114_18_41 hbL114_18_42 hbL114_18_43 hbL114_18_44 hmL114_18_4
    refine PW.iload q_114_18 rfl ?_
    refine PW.aload_n q_114_20 rfl ?_
    refine PW.gR 3 q_114_21 (Or.inl t_ft_114_19) gF_0_1 kd_0 IML114_18_4.1 (by decide) rfl ?_
    refine PW.gR 4 q_114_24 (Or.inr t_fN_114_94) gF_3_0 kd_3 IML114_18_4.1 (by decide) rfl ?_
    refine PW.gI q_114_27 (Or.inr t_fN_114_136) gF_4_6 kd_4 IML114_18_4.1 (by decide) fun x8 fx8 hx8 kx8 => ?_
    refine PW.jc_ge q_114_30 rfl (fun h9 => ?_) (fun h9 => ?_)
    · skip
      refine PW.iload_n q_114_107 rfl ?_
      refine PW.rI q_114_108 rfl (by decide) (by decide) ?_
      exact hK v6 ML114_18_4 IML114_18_4 FML114_18_4
    · skip
      refine PW.iload q_114_33 rfl ?_
      refine PW.cI q_114_35 (by decide) fun c10 hc10 => ?_
      refine PW.addN q_114_36 (by omega) (by omega) fun x11 hx11 => ?_
      refine PW.istore q_114_37 (by decide) ?_
      have L114_39_12 : ∀ (n : Nat) (ML114_39_12 : pM) (v13 v14 v15 : Int32), Iv (gTT) ML114_39_12 → Fr [] M ML114_39_12 → 0 ≤ v13.toInt → -1 ≤ v14.toInt → v14.toInt ≤ 60 → 1 ≤ v15.toInt → v15.toInt ≤ 6 → (6 - v15.toInt).toNat = n → PW G false 0 114 (p_mc 114) (p_msl 114) Kr 39 [(0, .ref 0), (1, .ref 32), (2, .int v13), (3, .int v14), (4, .int v7), (5, .int v15)] [] 311 ML114_39_12 0 0 := by
        intro n
        induction n using Nat.strongRecOn with
        | ind n ih_L114_39_12 =>
        intro ML114_39_12 v13 v14 v15 IML114_39_12 FML114_39_12 hbL114_39_120 hbL114_39_121 hbL114_39_122 hbL114_39_123 hbL114_39_124 hmL114_39_12
        refine PW.iload q_114_39 rfl ?_
        refine PW.aload_n q_114_41 rfl ?_
        refine PW.gR 3 q_114_42 (Or.inl t_ft_114_19) gF_0_1 kd_0 IML114_39_12.1 (by decide) rfl ?_
        refine PW.gR 4 q_114_45 (Or.inr t_fN_114_94) gF_3_0 kd_3 IML114_39_12.1 (by decide) rfl ?_
        refine PW.gI q_114_48 (Or.inr t_fN_114_136) gF_4_6 kd_4 IML114_39_12.1 (by decide) fun x16 fx16 hx16 kx16 => ?_
        refine PW.jc_ge q_114_51 rfl (fun h17 => ?_) (fun h17 => ?_)
        · skip
          refine PW.incN q_114_101 rfl (by decide) (by decide) (by omega) (by omega) fun x18 hx18 => ?_
          refine PW.goto q_114_104 rfl ?_
          refine PW.lvS (lk1 rfl (lk1 rfl (lk1 rfl (lk1 rfl (lk1 rfl lk0))))) (ih_L114_18_4 _ ?_ ML114_39_12 v13 v14 x18 IML114_39_12 FML114_39_12 (by omega) (by omega) (by omega) (by omega) (by omega) rfl)
          omega
        · skip
          refine PW.aload_n q_114_54 rfl ?_
          refine PW.iload q_114_55 rfl ?_
          refine PW.cB q_114_57 (by decide) fun c19 hc19 => ?_
          refine PW.mulN q_114_59 (6) (by omega) v7 (fun h => n_eq.mpr (by omega)) (fun h => n_eq.mpr (by omega)) (by omega) (by omega) fun x20 hx20 => ?_
          refine PW.iload q_114_60 rfl ?_
          refine PW.addN q_114_62 (by have := n_lo x20; have := n_hi x20; omega) (by have := n_lo x20; have := n_hi x20; omega) fun x21 hx21 => ?_
          refine PW.aH q_114_63 gA_13 kd_32 IML114_39_12.1 (by decide) (by omega) (by omega) fun x22 fx22 => ?_
          refine PW.aload_n q_114_64 rfl ?_
          refine PW.iload q_114_65 rfl ?_
          refine PW.cB q_114_67 (by decide) fun c23 hc23 => ?_
          refine PW.mulN q_114_69 (6) (by omega) v15 (fun h => n_eq.mpr (by omega)) (fun h => n_eq.mpr (by omega)) (by omega) (by omega) fun x24 hx24 => ?_
          refine PW.iload q_114_70 rfl ?_
          refine PW.addN q_114_72 (by have := n_lo x24; have := n_hi x24; omega) (by have := n_lo x24; have := n_hi x24; omega) fun x25 hx25 => ?_
          refine PW.aH q_114_73 gA_13 kd_32 IML114_39_12.1 (by decide) (by omega) (by omega) fun x26 fx26 => ?_
          refine PW.addH q_114_74 fun x27 => ?_
          refine PW.istore q_114_75 (by decide) ?_
          refine PW.iload q_114_77 rfl ?_
          refine PW.iload_n q_114_79 rfl ?_
          have J95_29 : ∀ (MJ95_29 : pM) (v30 v31 : Int32), Iv (gTT) MJ95_29 → Fr [] M MJ95_29 → 0 ≤ v30.toInt → -1 ≤ v31.toInt → v31.toInt ≤ 60 → o_f (MJ95_29 4) 6 = .int x16 → PW G false 0 114 (p_mc 114) (p_msl 114) Kr 95 [(0, .ref 0), (1, .ref 32), (2, .int v30), (3, .int v31), (4, .int v7), (5, .int v15), (6, .int x27)] [] 311 MJ95_29 0 0 := by
            intro MJ95_29 v30 v31 IMJ95_29 FMJ95_29 hbJ95_290 hbJ95_291 hbJ95_292 hbJ95_293
            refine PW.incN q_114_95 rfl (by decide) (by decide) (by omega) (by omega) fun x32 hx32 => ?_
            refine PW.goto q_114_98 rfl ?_
            refine PW.lvS (lk1 rfl (lk1 rfl (lk1 rfl (lk1 rfl (lk1 rfl (lk1 rfl lk0)))))) (ih_L114_39_12 _ ?_ MJ95_29 v30 v31 x32 IMJ95_29 FMJ95_29 (by omega) (by omega) (by omega) (by omega) (by omega) rfl)
            omega
          refine PW.jc_le q_114_80 rfl (fun h28 => ?_) (fun h28 => ?_)
          · skip
            exact PW.lvS (lk1 rfl (lk1 rfl (lk1 rfl (lk1 rfl (lk1 rfl (lk1 rfl (lk1 rfl lk0))))))) (J95_29 ML114_39_12 v13 v14 IML114_39_12 FML114_39_12 (by omega) (by omega) (by omega) fx16)
          · skip
            refine PW.iload q_114_83 rfl ?_
            refine PW.istore_n q_114_85 (by decide) ?_
            refine PW.cB q_114_86 (by decide) fun c33 hc33 => ?_
            refine PW.iload q_114_88 rfl ?_
            refine PW.mulN q_114_90 (10) (by omega) v7 (fun h => n_eq.mpr (by omega)) (fun h => n_eq.mpr (by omega)) (by omega) (by omega) fun x34 hx34 => ?_
            refine PW.iload q_114_91 rfl ?_
            refine PW.addN q_114_93 (by omega) (by omega) fun x35 hx35 => ?_
            refine PW.istore_n q_114_94 (by decide) ?_
            exact PW.lvS (lk1 rfl (lk1 rfl (lk1 rfl (lk1 rfl (lk1 rfl (lk1 rfl (lk1 rfl lk0))))))) (J95_29 ML114_39_12 x27 x35 IML114_39_12 FML114_39_12 (by omega) (by omega) (by omega) fx16)
      exact PW.lvS (lk1 rfl (lk1 rfl (lk1 rfl (lk1 rfl (lk1 rfl (lk1 rfl lk0)))))) (L114_39_12 _ ML114_18_4 v5 v6 x11 IML114_18_4 FML114_18_4 (by omega) (by omega) (by omega) (by omega) (by omega) rfl)
  exact PW.lvS (lk1 rfl (lk1 rfl (lk1 rfl (lk1 rfl (lk1 rfl lk0))))) (L114_18_4 _ M c1 c2 c3 I F (by omega) (by omega) (by omega) (by omega) (by omega) rfl)
theorem c_X11_turned (G : pG) (Kr : pK) (M : pM) (I : Iv gTT M) (a1 : Int32) (a2 : Int32) (hK : ∀ (x : Int32) (M1 : pM), Iv gTT M1 → Fr [] M M1 → Kr.1 (some (.int x)) 311 M1) : PW G false 2 115 (p_mc 115) (p_msl 115) Kr 0 (lv_args 0 [.ref 0, .int a1, .int a2]) [] 311 M 0 0 := by
  have F : Fr [] M M := Fr.refl
  refine PW.aload_n q_115_0 rfl ?_
  refine PW.iload_n q_115_1 rfl ?_
  refine PW.cV (as := [_]) (rest := []) q_115_2 t_mv_115_203 kd_0 I.1 (by decide) rfl (by decide) rfl rfl (Nat.le_of_ble_eq_true rfl) (Nat.le_of_ble_eq_true rfl) (by decide) (by decide) ?_
  refine PW.iload_n q_144_0 rfl ?_
  refine PW.jz_lt q_144_1 rfl (fun h1 => ?_) (fun h1 => ?_)
  · skip
    refine PW.cI q_144_22 (by decide) fun c2 hc2 => ?_
    refine PW.rZ q_144_23 rfl (by omega) (by omega) (by decide) (by decide) ?_
    refine PW.jz_eq q_115_5 rfl (fun h3 => ?_) (fun h3 => False.elim (by omega))
    refine PW.cI q_115_27 (by decide) fun c4 hc4 => ?_
    refine PW.rI q_115_28 rfl (by decide) (by decide) ?_
    exact hK c4 M I F
  · skip
    refine PW.iload_n q_144_4 rfl ?_
    refine PW.aload_n q_144_5 rfl ?_
    refine PW.gR 3 q_144_6 (Or.inl t_ft_144_19) gF_0_1 kd_0 I.1 (by decide) rfl ?_
    refine PW.gR 4 q_144_9 (Or.inr t_fN_144_94) gF_3_0 kd_3 I.1 (by decide) rfl ?_
    refine PW.gI q_144_12 (Or.inr t_fN_144_249) gF_4_7 kd_4 I.1 (by decide) fun x5 fx5 hx5 kx5 => ?_
    refine PW.jc_ge q_144_15 rfl (fun h6 => ?_) (fun h6 => ?_)
    · skip
      refine PW.cI q_144_22 (by decide) fun c7 hc7 => ?_
      refine PW.rZ q_144_23 rfl (by omega) (by omega) (by decide) (by decide) ?_
      refine PW.jz_eq q_115_5 rfl (fun h8 => ?_) (fun h8 => False.elim (by omega))
      refine PW.cI q_115_27 (by decide) fun c9 hc9 => ?_
      refine PW.rI q_115_28 rfl (by decide) (by decide) ?_
      exact hK c9 M I F
    · skip
      refine PW.cI q_144_18 (by decide) fun c10 hc10 => ?_
      refine PW.goto q_144_19 rfl ?_
      refine PW.rZ q_144_23 rfl (by omega) (by omega) (by decide) (by decide) ?_
      refine PW.jz_eq q_115_5 rfl (fun h11 => False.elim (by omega)) (fun h11 => ?_)
      refine PW.aload_n q_115_8 rfl ?_
      refine PW.gR 3 q_115_9 (Or.inl t_ft_115_19) gF_0_1 kd_0 I.1 (by decide) rfl ?_
      refine PW.gR 15 q_115_12 (Or.inr t_fN_115_101) gF_3_1 kd_3 I.1 (by decide) rfl ?_
      refine PW.gR 23 q_115_15 (Or.inr t_fN_115_206) gF_5_4 kd_15 I.1 (by decide) rfl ?_
      refine PW.iload_n q_115_18 rfl ?_
      refine PW.aRk q_115_19 rfl (by decide) (by decide) kd_23 I.1 (by decide) (by omega) (by omega) fun b12 hk_b12 e_b12 => ?_
      refine PW.iload_n q_115_20 rfl ?_
      refine PW.cV (as := [_]) (rest := []) q_115_21 t_mv_115_267 hk_b12 I.1 (by decide) rfl (by decide) rfl rfl (Nat.le_of_ble_eq_true rfl) (Nat.le_of_ble_eq_true rfl) (by decide) (by decide) ?_
      refine PW.up (by decide) (c_X0_seenBefore (gTT) (Stab0) G _ M I b12 hk_b12 a2 fun x14 M13 IM13 GM13 => ?_)
      have FM13 := Fr.trans F GM13 (rfl)
      refine PW.goto q_115_24 rfl ?_
      refine PW.rI q_115_28 rfl (by decide) (by decide) ?_
      exact hK x14 M13 IM13 FM13
theorem c_X11_turnedAt (G : pG) (Kr : pK) (M : pM) (I : Iv gTT M) (a1 : Int32) (a2 : Int32) (hK : ∀ (x : Int32) (M1 : pM), Iv gTT M1 → Fr [] M M1 → Kr.1 (some (.int x)) 311 M1) : PW G false 2 116 (p_mc 116) (p_msl 116) Kr 0 (lv_args 0 [.ref 0, .int a1, .int a2]) [] 311 M 0 0 := by
  have F : Fr [] M M := Fr.refl
  refine PW.aload_n q_116_0 rfl ?_
  refine PW.iload_n q_116_1 rfl ?_
  refine PW.cV (as := [_]) (rest := []) q_116_2 t_mv_116_203 kd_0 I.1 (by decide) rfl (by decide) rfl rfl (Nat.le_of_ble_eq_true rfl) (Nat.le_of_ble_eq_true rfl) (by decide) (by decide) ?_
  refine PW.iload_n q_144_0 rfl ?_
  refine PW.jz_lt q_144_1 rfl (fun h1 => ?_) (fun h1 => ?_)
  · skip
    refine PW.cI q_144_22 (by decide) fun c2 hc2 => ?_
    refine PW.rZ q_144_23 rfl (by omega) (by omega) (by decide) (by decide) ?_
    refine PW.jz_eq q_116_5 rfl (fun h3 => ?_) (fun h3 => False.elim (by omega))
    refine PW.cI q_116_27 (by decide) fun c4 hc4 => ?_
    refine PW.rI q_116_28 rfl (by decide) (by decide) ?_
    exact hK c4 M I F
  · skip
    refine PW.iload_n q_144_4 rfl ?_
    refine PW.aload_n q_144_5 rfl ?_
    refine PW.gR 3 q_144_6 (Or.inl t_ft_144_19) gF_0_1 kd_0 I.1 (by decide) rfl ?_
    refine PW.gR 4 q_144_9 (Or.inr t_fN_144_94) gF_3_0 kd_3 I.1 (by decide) rfl ?_
    refine PW.gI q_144_12 (Or.inr t_fN_144_249) gF_4_7 kd_4 I.1 (by decide) fun x5 fx5 hx5 kx5 => ?_
    refine PW.jc_ge q_144_15 rfl (fun h6 => ?_) (fun h6 => ?_)
    · skip
      refine PW.cI q_144_22 (by decide) fun c7 hc7 => ?_
      refine PW.rZ q_144_23 rfl (by omega) (by omega) (by decide) (by decide) ?_
      refine PW.jz_eq q_116_5 rfl (fun h8 => ?_) (fun h8 => False.elim (by omega))
      refine PW.cI q_116_27 (by decide) fun c9 hc9 => ?_
      refine PW.rI q_116_28 rfl (by decide) (by decide) ?_
      exact hK c9 M I F
    · skip
      refine PW.cI q_144_18 (by decide) fun c10 hc10 => ?_
      refine PW.goto q_144_19 rfl ?_
      refine PW.rZ q_144_23 rfl (by omega) (by omega) (by decide) (by decide) ?_
      refine PW.jz_eq q_116_5 rfl (fun h11 => False.elim (by omega)) (fun h11 => ?_)
      refine PW.aload_n q_116_8 rfl ?_
      refine PW.gR 3 q_116_9 (Or.inl t_ft_116_19) gF_0_1 kd_0 I.1 (by decide) rfl ?_
      refine PW.gR 15 q_116_12 (Or.inr t_fN_116_101) gF_3_1 kd_3 I.1 (by decide) rfl ?_
      refine PW.gR 23 q_116_15 (Or.inr t_fN_116_206) gF_5_4 kd_15 I.1 (by decide) rfl ?_
      refine PW.iload_n q_116_18 rfl ?_
      refine PW.aRk q_116_19 rfl (by decide) (by decide) kd_23 I.1 (by decide) (by omega) (by omega) fun b12 hk_b12 e_b12 => ?_
      refine PW.iload_n q_116_20 rfl ?_
      refine PW.cV (as := [_]) (rest := []) q_116_21 t_mv_116_270 hk_b12 I.1 (by decide) rfl (by decide) rfl rfl (Nat.le_of_ble_eq_true rfl) (Nat.le_of_ble_eq_true rfl) (by decide) (by decide) ?_
      refine PW.up (by decide) (c_X0_placeBefore (gTT) (Stab0) G _ M I b12 hk_b12 a2 fun x14 M13 IM13 GM13 => ?_)
      have FM13 := Fr.trans F GM13 (rfl)
      refine PW.goto q_116_24 rfl ?_
      refine PW.rI q_116_28 rfl (by decide) (by decide) ?_
      exact hK x14 M13 IM13 FM13
theorem c_X11_act (G : pG) (Kr : pK) (M : pM) (I : Iv gTT M) (r1 : Nat) (hr1 : r1 < 28) (a2 : Int32) (hK : ∀ (x : Int32) (M1 : pM), Iv gTT M1 → Fr [5, 7, 9, 10, 11, 12, 13, 21] M M1 → Kr.1 (some (.int x)) 311 M1) : PW G false 5 145 (p_mc 145) (p_msl 145) Kr 0 (lv_args 0 [.ref 0, .ref (65536 + r1), .int a2]) [] 311 M 0 0 := by
  have F : Fr [5, 7, 9, 10, 11, 12, 13, 21] M M := Fr.refl
  refine PW.aload_n q_145_0 rfl ?_
  refine PW.iload_n q_145_1 rfl ?_
  refine PW.cV (as := [_]) (rest := []) q_145_2 t_mv_145_169 kd_0 I.1 (by decide) rfl (by decide) rfl rfl (Nat.le_of_ble_eq_true rfl) (Nat.le_of_ble_eq_true rfl) (by decide) (by decide) ?_
  refine PW.iload_n q_143_0 rfl ?_
  refine PW.jz_lt q_143_1 rfl (fun h1 => ?_) (fun h1 => ?_)
  · skip
    refine PW.cI q_143_22 (by decide) fun c2 hc2 => ?_
    refine PW.rZ q_143_23 rfl (by omega) (by omega) (by decide) (by decide) ?_
    refine PW.jz_ne q_145_5 rfl (fun h3 => False.elim (by omega)) (fun h3 => ?_)
    refine PW.cI q_145_8 (by decide) fun c4 hc4 => ?_
    refine PW.rI q_145_9 rfl (by decide) (by decide) ?_
    exact hK c4 M I F
  · skip
    refine PW.iload_n q_143_4 rfl ?_
    refine PW.aload_n q_143_5 rfl ?_
    refine PW.gR 3 q_143_6 (Or.inl t_ft_143_19) gF_0_1 kd_0 I.1 (by decide) rfl ?_
    refine PW.gR 4 q_143_9 (Or.inr t_fN_143_94) gF_3_0 kd_3 I.1 (by decide) rfl ?_
    refine PW.gI q_143_12 (Or.inr t_fN_143_136) gF_4_6 kd_4 I.1 (by decide) fun x5 fx5 hx5 kx5 => ?_
    refine PW.jc_ge q_143_15 rfl (fun h6 => ?_) (fun h6 => ?_)
    · skip
      refine PW.cI q_143_22 (by decide) fun c7 hc7 => ?_
      refine PW.rZ q_143_23 rfl (by omega) (by omega) (by decide) (by decide) ?_
      refine PW.jz_ne q_145_5 rfl (fun h8 => False.elim (by omega)) (fun h8 => ?_)
      refine PW.cI q_145_8 (by decide) fun c9 hc9 => ?_
      refine PW.rI q_145_9 rfl (by decide) (by decide) ?_
      exact hK c9 M I F
    · skip
      refine PW.cI q_143_18 (by decide) fun c10 hc10 => ?_
      refine PW.goto q_143_19 rfl ?_
      refine PW.rZ q_143_23 rfl (by omega) (by omega) (by decide) (by decide) ?_
      refine PW.jz_ne q_145_5 rfl (fun h11 => ?_) (fun h11 => False.elim (by omega))
      refine PW.aload_n q_145_10 rfl ?_
      refine PW.gR 3 q_145_11 (Or.inl t_ft_145_19) gF_0_1 kd_0 I.1 (by decide) rfl ?_
      refine PW.gR 15 q_145_14 (Or.inr t_fN_145_101) gF_3_1 kd_3 I.1 (by decide) rfl ?_
      refine PW.aload_n q_145_17 rfl ?_
      refine PW.iload_n q_145_18 rfl ?_
      refine PW.cV (as := [_, _]) (rest := []) q_145_19 t_mv_145_376 kd_15 I.1 (by decide) rfl (by decide) rfl rfl (Nat.le_of_ble_eq_true rfl) (Nat.le_of_ble_eq_true rfl) (by decide) (by decide) ?_
      refine PW.up (by decide) (c_X5_whyNot (gTT) (Stab0) G _ M I 15 kd_15 r1 hr1 a2 (by omega) (by omega) fun x13 M12 IM12 GM12 hx13 kx13 => ?_)
      have FM12 := Fr.trans F GM12 (rfl)
      refine PW.istore_n q_145_22 (by decide) ?_
      refine PW.iload_n q_145_23 rfl ?_
      refine PW.jz_ne q_145_24 rfl (fun h14 => ?_) (fun h14 => ?_)
      · skip
        refine PW.iload_n q_145_53 rfl ?_
        refine PW.rI q_145_54 rfl (by decide) (by decide) ?_
        exact hK x13 M12 IM12 FM12
      · skip
        refine PW.aload_n q_145_27 rfl ?_
        refine PW.gR 110 q_145_28 (Or.inl t_ft_145_34) gF_0_4 kd_0 IM12.1 (by decide) rfl ?_
        refine PW.aload_n q_145_31 rfl ?_
        refine PW.gR 3 q_145_32 (Or.inl t_ft_145_19) gF_0_1 kd_0 IM12.1 (by decide) rfl ?_
        refine PW.gR 15 q_145_35 (Or.inr t_fN_145_101) gF_3_1 kd_3 IM12.1 (by decide) rfl ?_
        refine PW.cV (as := [_]) (rest := []) q_145_38 t_mv_145_147 kd_110 IM12.1 (by decide) rfl (by decide) rfl rfl (Nat.le_of_ble_eq_true rfl) (Nat.le_of_ble_eq_true rfl) (by decide) (by decide) ?_
        refine PW.up (by decide) (c_X1_keep G _ M12 IM12 15 kd_15 fun M15 IM15 GM15 => ?_)
        have FM15 := Fr.trans FM12 GM15 (rfl)
        refine PW.aload_n q_145_41 rfl ?_
        refine PW.gR 3 q_145_42 (Or.inl t_ft_145_19) gF_0_1 kd_0 IM15.1 (by decide) rfl ?_
        refine PW.gR 15 q_145_45 (Or.inr t_fN_145_101) gF_3_1 kd_3 IM15.1 (by decide) rfl ?_
        refine PW.aload_n q_145_48 rfl ?_
        refine PW.iload_n q_145_49 rfl ?_
        refine PW.cV (as := [_, _]) (rest := []) q_145_50 t_mv_145_379 kd_15 IM15.1 (by decide) rfl (by decide) rfl rfl (Nat.le_of_ble_eq_true rfl) (Nat.le_of_ble_eq_true rfl) (by decide) (by decide) ?_
        refine PW.up (by decide) (c_X5_perform (gTT) (Stab0) G _ M15 IM15 15 kd_15 r1 hr1 a2 (by omega) (by omega) fun M16 IM16 GM16 => ?_)
        have FM16 := Fr.trans FM15 GM16 (rfl)
        refine PW.iload_n q_145_53 rfl ?_
        refine PW.rI q_145_54 rfl (by decide) (by decide) ?_
        exact hK x13 M16 IM16 FM16
theorem c_X11_stop (G : pG) (Kr : pK) (M : pM) (I : Iv gTT M) (a1 : Int32) (hK : ∀ (x : Int32) (M1 : pM), Iv gTT M1 → Fr [5, 7, 9, 10, 11, 12, 13, 21] M M1 → Kr.1 (some (.int x)) 311 M1) : PW G false 6 117 (p_mc 117) (p_msl 117) Kr 0 (lv_args 0 [.ref 0, .int a1]) [] 311 M 0 0 := by
  have F : Fr [5, 7, 9, 10, 11, 12, 13, 21] M M := Fr.refl
  refine PW.aload_n q_117_0 rfl ?_
  refine PW.gets q_117_1 t_st_117_273 ?_
  refine PW.iload_n q_117_4 rfl ?_
  refine PW.cV (as := [_, _]) (rest := []) q_117_5 t_mv_117_279 kd_0 I.1 (by decide) rfl (by decide) rfl rfl (Nat.le_of_ble_eq_true rfl) (Nat.le_of_ble_eq_true rfl) (by decide) (by decide) ?_
  refine PW.up (by decide) (c_X11_act G _ M I 11 (by decide) a1 fun x2 M1 IM1 GM1 => ?_)
  have FM1 := Fr.trans F GM1 (rfl)
  refine PW.rI q_117_8 rfl (by decide) (by decide) ?_
  exact hK x2 M1 IM1 FM1
theorem c_X11_walk (G : pG) (Kr : pK) (M : pM) (I : Iv gTT M) (a1 : Int32) (hK : ∀ (x : Int32) (M1 : pM), Iv gTT M1 → Fr [5, 7, 9, 10, 11, 12, 13, 21] M M1 → Kr.1 (some (.int x)) 311 M1) : PW G false 6 118 (p_mc 118) (p_msl 118) Kr 0 (lv_args 0 [.ref 0, .int a1]) [] 311 M 0 0 := by
  have F : Fr [5, 7, 9, 10, 11, 12, 13, 21] M M := Fr.refl
  refine PW.aload_n q_118_0 rfl ?_
  refine PW.gets q_118_1 t_st_118_283 ?_
  refine PW.iload_n q_118_4 rfl ?_
  refine PW.cV (as := [_, _]) (rest := []) q_118_5 t_mv_118_279 kd_0 I.1 (by decide) rfl (by decide) rfl rfl (Nat.le_of_ble_eq_true rfl) (Nat.le_of_ble_eq_true rfl) (by decide) (by decide) ?_
  refine PW.up (by decide) (c_X11_act G _ M I 12 (by decide) a1 fun x2 M1 IM1 GM1 => ?_)
  have FM1 := Fr.trans F GM1 (rfl)
  refine PW.rI q_118_8 rfl (by decide) (by decide) ?_
  exact hK x2 M1 IM1 FM1
theorem c_X11_turn (G : pG) (Kr : pK) (M : pM) (I : Iv gTT M) (a1 : Int32) (hK : ∀ (x : Int32) (M1 : pM), Iv gTT M1 → Fr [5, 7, 9, 10, 11, 12, 13, 21] M M1 → Kr.1 (some (.int x)) 311 M1) : PW G false 6 119 (p_mc 119) (p_msl 119) Kr 0 (lv_args 0 [.ref 0, .int a1]) [] 311 M 0 0 := by
  have F : Fr [5, 7, 9, 10, 11, 12, 13, 21] M M := Fr.refl
  refine PW.aload_n q_119_0 rfl ?_
  refine PW.gets q_119_1 t_st_119_286 ?_
  refine PW.iload_n q_119_4 rfl ?_
  refine PW.cV (as := [_, _]) (rest := []) q_119_5 t_mv_119_279 kd_0 I.1 (by decide) rfl (by decide) rfl rfl (Nat.le_of_ble_eq_true rfl) (Nat.le_of_ble_eq_true rfl) (by decide) (by decide) ?_
  refine PW.up (by decide) (c_X11_act G _ M I 13 (by decide) a1 fun x2 M1 IM1 GM1 => ?_)
  have FM1 := Fr.trans F GM1 (rfl)
  refine PW.rI q_119_8 rfl (by decide) (by decide) ?_
  exact hK x2 M1 IM1 FM1
theorem c_X11_call (G : pG) (Kr : pK) (M : pM) (I : Iv gTT M) (a1 : Int32) (hK : ∀ (x : Int32) (M1 : pM), Iv gTT M1 → Fr [5, 7, 9, 10, 11, 12, 13, 21] M M1 → Kr.1 (some (.int x)) 311 M1) : PW G false 6 120 (p_mc 120) (p_msl 120) Kr 0 (lv_args 0 [.ref 0, .int a1]) [] 311 M 0 0 := by
  have F : Fr [5, 7, 9, 10, 11, 12, 13, 21] M M := Fr.refl
  refine PW.aload_n q_120_0 rfl ?_
  refine PW.gets q_120_1 t_st_120_289 ?_
  refine PW.iload_n q_120_4 rfl ?_
  refine PW.cV (as := [_, _]) (rest := []) q_120_5 t_mv_120_279 kd_0 I.1 (by decide) rfl (by decide) rfl rfl (Nat.le_of_ble_eq_true rfl) (Nat.le_of_ble_eq_true rfl) (by decide) (by decide) ?_
  refine PW.up (by decide) (c_X11_act G _ M I 14 (by decide) a1 fun x2 M1 IM1 GM1 => ?_)
  have FM1 := Fr.trans F GM1 (rfl)
  refine PW.rI q_120_8 rfl (by decide) (by decide) ?_
  exact hK x2 M1 IM1 FM1
theorem c_X11_throwStick (G : pG) (Kr : pK) (M : pM) (I : Iv gTT M) (a1 : Int32) (hK : ∀ (x : Int32) (M1 : pM), Iv gTT M1 → Fr [5, 7, 9, 10, 11, 12, 13, 21] M M1 → Kr.1 (some (.int x)) 311 M1) : PW G false 6 121 (p_mc 121) (p_msl 121) Kr 0 (lv_args 0 [.ref 0, .int a1]) [] 311 M 0 0 := by
  have F : Fr [5, 7, 9, 10, 11, 12, 13, 21] M M := Fr.refl
  refine PW.aload_n q_121_0 rfl ?_
  refine PW.gets q_121_1 t_st_121_292 ?_
  refine PW.iload_n q_121_4 rfl ?_
  refine PW.cV (as := [_, _]) (rest := []) q_121_5 t_mv_121_279 kd_0 I.1 (by decide) rfl (by decide) rfl rfl (Nat.le_of_ble_eq_true rfl) (Nat.le_of_ble_eq_true rfl) (by decide) (by decide) ?_
  refine PW.up (by decide) (c_X11_act G _ M I 15 (by decide) a1 fun x2 M1 IM1 GM1 => ?_)
  have FM1 := Fr.trans F GM1 (rfl)
  refine PW.rI q_121_8 rfl (by decide) (by decide) ?_
  exact hK x2 M1 IM1 FM1
