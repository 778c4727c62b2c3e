theorem q_148_0 : p_tb 148 0 = some (.aload_n 0, 1) := by decide +kernel
theorem q_148_1 : p_tb 148 1 = some (.invokevirtual 140, 3) := by decide +kernel
theorem q_148_4 : p_tb 148 4 = some (.astore 4, 2) := by decide +kernel
theorem q_148_6 : p_tb 148 6 = some (.iconst 0, 1) := by decide +kernel
theorem q_148_7 : p_tb 148 7 = some (.istore 5, 2) := by decide +kernel
theorem q_148_9 : p_tb 148 9 = some (.iload 5, 2) := by decide +kernel
theorem q_148_11 : p_tb 148 11 = some (.bipush 40, 2) := by decide +kernel
theorem q_148_13 : p_tb 148 13 = some (.if_icmp .ge 39, 3) := by decide +kernel
theorem q_148_16 : p_tb 148 16 = some (.iload 5, 2) := by decide +kernel
theorem q_148_18 : p_tb 148 18 = some (.iload_n 3, 1) := by decide +kernel
theorem q_148_19 : p_tb 148 19 = some (.if_icmp .ne 14, 3) := by decide +kernel
theorem q_148_22 : p_tb 148 22 = some (.aload 4, 2) := by decide +kernel
theorem q_148_24 : p_tb 148 24 = some (.getfield 176, 3) := by decide +kernel
theorem q_148_27 : p_tb 148 27 = some (.iload_n 1, 1) := by decide +kernel
theorem q_148_28 : p_tb 148 28 = some (.aaload, 1) := by decide +kernel
theorem q_148_29 : p_tb 148 29 = some (.iconst 0, 1) := by decide +kernel
theorem q_148_30 : p_tb 148 30 = some (.putfield 191, 3) := by decide +kernel
theorem q_148_33 : p_tb 148 33 = some (.aload 4, 2) := by decide +kernel
theorem q_148_35 : p_tb 148 35 = some (.aload_n 0, 1) := by decide +kernel
theorem q_148_36 : p_tb 148 36 = some (.getfield 19, 3) := by decide +kernel
theorem q_148_39 : p_tb 148 39 = some (.getfield 94, 3) := by decide +kernel
theorem q_148_42 : p_tb 148 42 = some (.invokevirtual 317, 3) := by decide +kernel
theorem q_148_45 : p_tb 148 45 = some (.pop, 1) := by decide +kernel
theorem q_148_46 : p_tb 148 46 = some (.iinc 5 1, 3) := by decide +kernel
theorem q_148_49 : p_tb 148 49 = some (.goto (-40), 3) := by decide +kernel
theorem q_148_52 : p_tb 148 52 = some (.aload 4, 2) := by decide +kernel
theorem q_148_54 : p_tb 148 54 = some (.getfield 206, 3) := by decide +kernel
theorem q_148_57 : p_tb 148 57 = some (.iload_n 2, 1) := by decide +kernel
theorem q_148_58 : p_tb 148 58 = some (.aaload, 1) := by decide +kernel
theorem q_148_59 : p_tb 148 59 = some (.getfield 215, 3) := by decide +kernel
theorem q_148_62 : p_tb 148 62 = some (.aload_n 0, 1) := by decide +kernel
theorem q_148_63 : p_tb 148 63 = some (.getfield 19, 3) := by decide +kernel
theorem q_148_66 : p_tb 148 66 = some (.getfield 101, 3) := by decide +kernel
theorem q_148_69 : p_tb 148 69 = some (.getfield 206, 3) := by decide +kernel
theorem q_148_72 : p_tb 148 72 = some (.iload_n 2, 1) := by decide +kernel
theorem q_148_73 : p_tb 148 73 = some (.aaload, 1) := by decide +kernel
theorem q_148_74 : p_tb 148 74 = some (.getfield 215, 3) := by decide +kernel
theorem q_148_77 : p_tb 148 77 = some (.isub, 1) := by decide +kernel
theorem q_148_78 : p_tb 148 78 = some (.ireturn, 1) := by decide +kernel
theorem t_fN_148_101 : p_f2 p_fN (p_mK 148) 101 = some (9, 1) := by decide +kernel
theorem t_fN_148_176 : p_f2 p_fN (p_mK 148) 176 = some (5, 3) := by decide +kernel
theorem t_fN_148_191 : p_f2 p_fN (p_mK 148) 191 = some (8, 2) := by decide +kernel
theorem t_fN_148_206 : p_f2 p_fN (p_mK 148) 206 = some (5, 4) := by decide +kernel
theorem t_fN_148_215 : p_f2 p_fN (p_mK 148) 215 = some (0, 2) := by decide +kernel
theorem t_fN_148_94 : p_f2 p_fN (p_mK 148) 94 = some (9, 0) := by decide +kernel
theorem t_ft_148_19 : p_f2 p_ft (p_mK 148) 19 = some (10, 1) := by decide +kernel
theorem t_mv_148_140 : p_f2 p_mv (p_mK 148) 140 = some 146 := by decide +kernel
theorem t_mv_148_317 : p_f2 p_mv (p_mK 148) 317 = some 56 := by decide +kernel
theorem q_147_0 : p_tb 147 0 = some (.iconst 0, 1) := by decide +kernel
theorem q_147_1 : p_tb 147 1 = some (.istore_n 3, 1) := by decide +kernel
theorem q_147_2 : p_tb 147 2 = some (.aload_n 0, 1) := by decide +kernel
theorem q_147_3 : p_tb 147 3 = some (.iload_n 1, 1) := by decide +kernel
theorem q_147_4 : p_tb 147 4 = some (.iload_n 2, 1) := by decide +kernel
theorem q_147_5 : p_tb 147 5 = some (.iconst 0, 1) := by decide +kernel
theorem q_147_6 : p_tb 147 6 = some (.invokevirtual 331, 3) := by decide +kernel
theorem q_147_9 : p_tb 147 9 = some (.istore 4, 2) := by decide +kernel
theorem q_147_11 : p_tb 147 11 = some (.iconst 1, 1) := by decide +kernel
theorem q_147_12 : p_tb 147 12 = some (.istore 5, 2) := by decide +kernel
theorem q_147_14 : p_tb 147 14 = some (.iload 5, 2) := by decide +kernel
theorem q_147_16 : p_tb 147 16 = some (.bipush 30, 2) := by decide +kernel
theorem q_147_18 : p_tb 147 18 = some (.if_icmp .gt 33, 3) := by decide +kernel
theorem q_147_21 : p_tb 147 21 = some (.aload_n 0, 1) := by decide +kernel
theorem q_147_22 : p_tb 147 22 = some (.iload_n 1, 1) := by decide +kernel
theorem q_147_23 : p_tb 147 23 = some (.iload_n 2, 1) := by decide +kernel
theorem q_147_24 : p_tb 147 24 = some (.iload 5, 2) := by decide +kernel
theorem q_147_26 : p_tb 147 26 = some (.invokevirtual 331, 3) := by decide +kernel
theorem q_147_29 : p_tb 147 29 = some (.istore 6, 2) := by decide +kernel
theorem q_147_31 : p_tb 147 31 = some (.iload 6, 2) := by decide +kernel
theorem q_147_33 : p_tb 147 33 = some (.iload 4, 2) := by decide +kernel
theorem q_147_35 : p_tb 147 35 = some (.if_icmp .ge 10, 3) := by decide +kernel
theorem q_147_38 : p_tb 147 38 = some (.iload 5, 2) := by decide +kernel
theorem q_147_40 : p_tb 147 40 = some (.istore_n 3, 1) := by decide +kernel
theorem q_147_41 : p_tb 147 41 = some (.iload 6, 2) := by decide +kernel
theorem q_147_43 : p_tb 147 43 = some (.istore 4, 2) := by decide +kernel
theorem q_147_45 : p_tb 147 45 = some (.iinc 5 1, 3) := by decide +kernel
theorem q_147_48 : p_tb 147 48 = some (.goto (-34), 3) := by decide +kernel
theorem q_147_51 : p_tb 147 51 = some (.iload_n 3, 1) := by decide +kernel
theorem q_147_52 : p_tb 147 52 = some (.ireturn, 1) := by decide +kernel
theorem t_mv_147_331 : p_f2 p_mv (p_mK 147) 331 = some 148 := by decide +kernel
theorem q_132_0 : p_tb 132 0 = some (.aload_n 0, 1) := by decide +kernel
theorem q_132_1 : p_tb 132 1 = some (.iload_n 1, 1) := by decide +kernel
theorem q_132_2 : p_tb 132 2 = some (.invokevirtual 169, 3) := by decide +kernel
theorem q_132_5 : p_tb 132 5 = some (.ifCond .eq 11, 3) := by decide +kernel
theorem q_132_8 : p_tb 132 8 = some (.aload_n 0, 1) := by decide +kernel
theorem q_132_9 : p_tb 132 9 = some (.iload_n 2, 1) := by decide +kernel
theorem q_132_10 : p_tb 132 10 = some (.invokevirtual 203, 3) := by decide +kernel
theorem q_132_13 : p_tb 132 13 = some (.ifCond .ne 5, 3) := by decide +kernel
theorem q_132_16 : p_tb 132 16 = some (.iconst (-1), 1) := by decide +kernel
theorem q_132_17 : p_tb 132 17 = some (.ireturn, 1) := by decide +kernel
theorem q_132_18 : p_tb 132 18 = some (.aload_n 0, 1) := by decide +kernel
theorem q_132_19 : p_tb 132 19 = some (.iload_n 1, 1) := by decide +kernel
theorem q_132_20 : p_tb 132 20 = some (.iload_n 2, 1) := by decide +kernel
theorem q_132_21 : p_tb 132 21 = some (.invokevirtual 328, 3) := by decide +kernel
theorem q_132_24 : p_tb 132 24 = some (.ireturn, 1) := by decide +kernel
theorem t_mv_132_169 : p_f2 p_mv (p_mK 132) 169 = some 143 := by decide +kernel
theorem t_mv_132_203 : p_f2 p_mv (p_mK 132) 203 = some 144 := by decide +kernel
theorem t_mv_132_328 : p_f2 p_mv (p_mK 132) 328 = some 147 := by decide +kernel
theorem q_133_0 : p_tb 133 0 = some (.aload_n 0, 1) := by decide +kernel
theorem q_133_1 : p_tb 133 1 = some (.iload_n 1, 1) := by decide +kernel
theorem q_133_2 : p_tb 133 2 = some (.invokevirtual 169, 3) := by decide +kernel
theorem q_133_5 : p_tb 133 5 = some (.ifCond .eq 11, 3) := by decide +kernel
theorem q_133_8 : p_tb 133 8 = some (.aload_n 0, 1) := by decide +kernel
theorem q_133_9 : p_tb 133 9 = some (.iload_n 2, 1) := by decide +kernel
theorem q_133_10 : p_tb 133 10 = some (.invokevirtual 203, 3) := by decide +kernel
theorem q_133_13 : p_tb 133 13 = some (.ifCond .ne 5, 3) := by decide +kernel
theorem q_133_16 : p_tb 133 16 = some (.iconst (-1), 1) := by decide +kernel
theorem q_133_17 : p_tb 133 17 = some (.ireturn, 1) := by decide +kernel
theorem q_133_18 : p_tb 133 18 = some (.aload_n 0, 1) := by decide +kernel
theorem q_133_19 : p_tb 133 19 = some (.iload_n 1, 1) := by decide +kernel
theorem q_133_20 : p_tb 133 20 = some (.iload_n 2, 1) := by decide +kernel
theorem q_133_21 : p_tb 133 21 = some (.aload_n 0, 1) := by decide +kernel
theorem q_133_22 : p_tb 133 22 = some (.iload_n 1, 1) := by decide +kernel
theorem q_133_23 : p_tb 133 23 = some (.iload_n 2, 1) := by decide +kernel
theorem q_133_24 : p_tb 133 24 = some (.invokevirtual 328, 3) := by decide +kernel
theorem q_133_27 : p_tb 133 27 = some (.invokevirtual 331, 3) := by decide +kernel
theorem q_133_30 : p_tb 133 30 = some (.ireturn, 1) := by decide +kernel
theorem t_mv_133_169 : p_f2 p_mv (p_mK 133) 169 = some 143 := by decide +kernel
theorem t_mv_133_203 : p_f2 p_mv (p_mK 133) 203 = some 144 := by decide +kernel
theorem t_mv_133_328 : p_f2 p_mv (p_mK 133) 328 = some 147 := by decide +kernel
theorem t_mv_133_331 : p_f2 p_mv (p_mK 133) 331 = some 148 := by decide +kernel
theorem q_134_0 : p_tb 134 0 = some (.aload_n 0, 1) := by decide +kernel
theorem q_134_1 : p_tb 134 1 = some (.iload_n 1, 1) := by decide +kernel
theorem q_134_2 : p_tb 134 2 = some (.invokevirtual 169, 3) := by decide +kernel
theorem q_134_5 : p_tb 134 5 = some (.ifCond .eq 14, 3) := by decide +kernel
theorem q_134_8 : p_tb 134 8 = some (.iload_n 2, 1) := by decide +kernel
theorem q_134_9 : p_tb 134 9 = some (.iconst 1, 1) := by decide +kernel
theorem q_134_10 : p_tb 134 10 = some (.if_icmp .lt 9, 3) := by decide +kernel
theorem q_134_13 : p_tb 134 13 = some (.iload_n 2, 1) := by decide +kernel
theorem q_134_14 : p_tb 134 14 = some (.bipush 30, 2) := by decide +kernel
theorem q_134_16 : p_tb 134 16 = some (.if_icmp .le 5, 3) := by decide +kernel
theorem q_134_19 : p_tb 134 19 = some (.iconst (-1), 1) := by decide +kernel
theorem q_134_20 : p_tb 134 20 = some (.ireturn, 1) := by decide +kernel
theorem q_134_21 : p_tb 134 21 = some (.iconst 0, 1) := by decide +kernel
theorem q_134_22 : p_tb 134 22 = some (.istore 4, 2) := by decide +kernel
theorem q_134_24 : p_tb 134 24 = some (.iconst 0, 1) := by decide +kernel
theorem q_134_25 : p_tb 134 25 = some (.istore 5, 2) := by decide +kernel
theorem q_134_27 : p_tb 134 27 = some (.iload 5, 2) := by decide +kernel
theorem q_134_29 : p_tb 134 29 = some (.iload_n 2, 1) := by decide +kernel
theorem q_134_30 : p_tb 134 30 = some (.if_icmp .ge 64, 3) := by decide +kernel
theorem q_134_33 : p_tb 134 33 = some (.aload_n 0, 1) := by decide +kernel
theorem q_134_34 : p_tb 134 34 = some (.invokevirtual 140, 3) := by decide +kernel
theorem q_134_37 : p_tb 134 37 = some (.astore 6, 2) := by decide +kernel
theorem q_134_39 : p_tb 134 39 = some (.aload 6, 2) := by decide +kernel
theorem q_134_41 : p_tb 134 41 = some (.aload_n 0, 1) := by decide +kernel
theorem q_134_42 : p_tb 134 42 = some (.getfield 19, 3) := by decide +kernel
theorem q_134_45 : p_tb 134 45 = some (.getfield 94, 3) := by decide +kernel
theorem q_134_48 : p_tb 134 48 = some (.bipush 30, 2) := by decide +kernel
theorem q_134_50 : p_tb 134 50 = some (.iload_n 3, 1) := by decide +kernel
theorem q_134_51 : p_tb 134 51 = some (.iload 5, 2) := by decide +kernel
theorem q_134_53 : p_tb 134 53 = some (.iadd, 1) := by decide +kernel
theorem q_134_54 : p_tb 134 54 = some (.invokevirtual 304, 3) := by decide +kernel
theorem q_134_57 : p_tb 134 57 = some (.aload 6, 2) := by decide +kernel
theorem q_134_59 : p_tb 134 59 = some (.getfield 176, 3) := by decide +kernel
theorem q_134_62 : p_tb 134 62 = some (.iload_n 1, 1) := by decide +kernel
theorem q_134_63 : p_tb 134 63 = some (.aaload, 1) := by decide +kernel
theorem q_134_64 : p_tb 134 64 = some (.getfield 197, 3) := by decide +kernel
theorem q_134_67 : p_tb 134 67 = some (.aload_n 0, 1) := by decide +kernel
theorem q_134_68 : p_tb 134 68 = some (.getfield 19, 3) := by decide +kernel
theorem q_134_71 : p_tb 134 71 = some (.getfield 101, 3) := by decide +kernel
theorem q_134_74 : p_tb 134 74 = some (.getfield 176, 3) := by decide +kernel
theorem q_134_77 : p_tb 134 77 = some (.iload_n 1, 1) := by decide +kernel
theorem q_134_78 : p_tb 134 78 = some (.aaload, 1) := by decide +kernel
theorem q_134_79 : p_tb 134 79 = some (.getfield 197, 3) := by decide +kernel
theorem q_134_82 : p_tb 134 82 = some (.if_icmp .le 6, 3) := by decide +kernel
theorem q_134_85 : p_tb 134 85 = some (.iinc 4 1, 3) := by decide +kernel
theorem q_134_88 : p_tb 134 88 = some (.iinc 5 1, 3) := by decide +kernel
theorem q_134_91 : p_tb 134 91 = some (.goto (-64), 3) := by decide +kernel
theorem q_134_94 : p_tb 134 94 = some (.iload 4, 2) := by decide +kernel
theorem q_134_96 : p_tb 134 96 = some (.ireturn, 1) := by decide +kernel
theorem t_fN_134_101 : p_f2 p_fN (p_mK 134) 101 = some (9, 1) := by decide +kernel
theorem t_fN_134_176 : p_f2 p_fN (p_mK 134) 176 = some (5, 3) := by decide +kernel
theorem t_fN_134_197 : p_f2 p_fN (p_mK 134) 197 = some (8, 5) := by decide +kernel
theorem t_fN_134_94 : p_f2 p_fN (p_mK 134) 94 = some (9, 0) := by decide +kernel
theorem t_ft_134_19 : p_f2 p_ft (p_mK 134) 19 = some (10, 1) := by decide +kernel
theorem t_mv_134_140 : p_f2 p_mv (p_mK 134) 140 = some 146 := by decide +kernel
theorem t_mv_134_169 : p_f2 p_mv (p_mK 134) 169 = some 143 := by decide +kernel
theorem t_mv_134_304 : p_f2 p_mv (p_mK 134) 304 = some 58 := by decide +kernel
theorem q_150_0 : p_tb 150 0 = some (.aload_n 0, 1) := by decide +kernel
theorem q_150_1 : p_tb 150 1 = some (.getfield 19, 3) := by decide +kernel
theorem q_150_4 : p_tb 150 4 = some (.getfield 101, 3) := by decide +kernel
theorem q_150_7 : p_tb 150 7 = some (.getfield 230, 3) := by decide +kernel
theorem q_150_10 : p_tb 150 10 = some (.iload_n 3, 1) := by decide +kernel
theorem q_150_11 : p_tb 150 11 = some (.iadd, 1) := by decide +kernel
theorem q_150_12 : p_tb 150 12 = some (.sipush 600, 3) := by decide +kernel
theorem q_150_15 : p_tb 150 15 = some (.if_icmp .le 5, 3) := by decide +kernel
theorem q_150_18 : p_tb 150 18 = some (.iconst 0, 1) := by decide +kernel
theorem q_150_19 : p_tb 150 19 = some (.ireturn, 1) := by decide +kernel
theorem q_150_20 : p_tb 150 20 = some (.iconst 0, 1) := by decide +kernel
theorem q_150_21 : p_tb 150 21 = some (.istore 4, 2) := by decide +kernel
theorem q_150_23 : p_tb 150 23 = some (.iconst 0, 1) := by decide +kernel
theorem q_150_24 : p_tb 150 24 = some (.istore 5, 2) := by decide +kernel
theorem q_150_26 : p_tb 150 26 = some (.iload 5, 2) := by decide +kernel
theorem q_150_28 : p_tb 150 28 = some (.aload_n 0, 1) := by decide +kernel
theorem q_150_29 : p_tb 150 29 = some (.getfield 19, 3) := by decide +kernel
theorem q_150_32 : p_tb 150 32 = some (.getfield 94, 3) := by decide +kernel
theorem q_150_35 : p_tb 150 35 = some (.getfield 136, 3) := by decide +kernel
theorem q_150_38 : p_tb 150 38 = some (.if_icmp .ge 34, 3) := by decide +kernel
theorem q_150_41 : p_tb 150 41 = some (.aload_n 1, 1) := by decide +kernel
theorem q_150_42 : p_tb 150 42 = some (.getfield 176, 3) := by decide +kernel
theorem q_150_45 : p_tb 150 45 = some (.iload 5, 2) := by decide +kernel
theorem q_150_47 : p_tb 150 47 = some (.aaload, 1) := by decide +kernel
theorem q_150_48 : p_tb 150 48 = some (.getfield 179, 3) := by decide +kernel
theorem q_150_51 : p_tb 150 51 = some (.iconst 4, 1) := by decide +kernel
theorem q_150_52 : p_tb 150 52 = some (.idiv, 1) := by decide +kernel
theorem q_150_53 : p_tb 150 53 = some (.iload_n 2, 1) := by decide +kernel
theorem q_150_54 : p_tb 150 54 = some (.if_icmp .ne 12, 3) := by decide +kernel
theorem q_150_57 : p_tb 150 57 = some (.iload 4, 2) := by decide +kernel
theorem q_150_59 : p_tb 150 59 = some (.iconst 1, 1) := by decide +kernel
theorem q_150_60 : p_tb 150 60 = some (.iload 5, 2) := by decide +kernel
theorem q_150_62 : p_tb 150 62 = some (.ishl, 1) := by decide +kernel
theorem q_150_63 : p_tb 150 63 = some (.ior, 1) := by decide +kernel
theorem q_150_64 : p_tb 150 64 = some (.istore 4, 2) := by decide +kernel
theorem q_150_66 : p_tb 150 66 = some (.iinc 5 1, 3) := by decide +kernel
theorem q_150_69 : p_tb 150 69 = some (.goto (-43), 3) := by decide +kernel
theorem q_150_72 : p_tb 150 72 = some (.iload 4, 2) := by decide +kernel
theorem q_150_74 : p_tb 150 74 = some (.ireturn, 1) := by decide +kernel
theorem t_fN_150_101 : p_f2 p_fN (p_mK 150) 101 = some (9, 1) := by decide +kernel
theorem t_fN_150_136 : p_f2 p_fN (p_mK 150) 136 = some (3, 6) := by decide +kernel
theorem t_fN_150_176 : p_f2 p_fN (p_mK 150) 176 = some (5, 3) := by decide +kernel
theorem t_fN_150_179 : p_f2 p_fN (p_mK 150) 179 = some (8, 0) := by decide +kernel
theorem t_fN_150_230 : p_f2 p_fN (p_mK 150) 230 = some (5, 0) := by decide +kernel
theorem t_fN_150_94 : p_f2 p_fN (p_mK 150) 94 = some (9, 0) := by decide +kernel
theorem t_ft_150_19 : p_f2 p_ft (p_mK 150) 19 = some (10, 1) := by decide +kernel
theorem q_149_0 : p_tb 149 0 = some (.aload_n 0, 1) := by decide +kernel
theorem q_149_1 : p_tb 149 1 = some (.getfield 10, 3) := by decide +kernel
theorem q_149_4 : p_tb 149 4 = some (.getfield 73, 3) := by decide +kernel
theorem q_149_7 : p_tb 149 7 = some (.iconst 2, 1) := by decide +kernel
theorem q_149_8 : p_tb 149 8 = some (.idiv, 1) := by decide +kernel
theorem q_149_9 : p_tb 149 9 = some (.istore_n 1, 1) := by decide +kernel
theorem q_149_10 : p_tb 149 10 = some (.aload_n 0, 1) := by decide +kernel
theorem q_149_11 : p_tb 149 11 = some (.getfield 10, 3) := by decide +kernel
theorem q_149_14 : p_tb 149 14 = some (.getfield 73, 3) := by decide +kernel
theorem q_149_17 : p_tb 149 17 = some (.iconst 2, 1) := by decide +kernel
theorem q_149_18 : p_tb 149 18 = some (.irem, 1) := by decide +kernel
theorem q_149_19 : p_tb 149 19 = some (.ifCond .ne 14, 3) := by decide +kernel
theorem q_149_22 : p_tb 149 22 = some (.iload_n 1, 1) := by decide +kernel
theorem q_149_23 : p_tb 149 23 = some (.iconst 1, 1) := by decide +kernel
theorem q_149_24 : p_tb 149 24 = some (.if_icmp .lt 9, 3) := by decide +kernel
theorem q_149_27 : p_tb 149 27 = some (.iload_n 1, 1) := by decide +kernel
theorem q_149_28 : p_tb 149 28 = some (.bipush 10, 2) := by decide +kernel
theorem q_149_30 : p_tb 149 30 = some (.if_icmp .le 5, 3) := by decide +kernel
theorem q_149_33 : p_tb 149 33 = some (.iconst (-1), 1) := by decide +kernel
theorem q_149_34 : p_tb 149 34 = some (.ireturn, 1) := by decide +kernel
theorem q_149_35 : p_tb 149 35 = some (.iconst 0, 1) := by decide +kernel
theorem q_149_36 : p_tb 149 36 = some (.istore_n 2, 1) := by decide +kernel
theorem q_149_37 : p_tb 149 37 = some (.iconst 0, 1) := by decide +kernel
theorem q_149_38 : p_tb 149 38 = some (.istore_n 3, 1) := by decide +kernel
theorem q_149_39 : p_tb 149 39 = some (.iload_n 3, 1) := by decide +kernel
theorem q_149_40 : p_tb 149 40 = some (.iload_n 1, 1) := by decide +kernel
theorem q_149_41 : p_tb 149 41 = some (.if_icmp .ge 24, 3) := by decide +kernel
theorem q_149_44 : p_tb 149 44 = some (.iload_n 2, 1) := by decide +kernel
theorem q_149_45 : p_tb 149 45 = some (.aload_n 0, 1) := by decide +kernel
theorem q_149_46 : p_tb 149 46 = some (.getfield 10, 3) := by decide +kernel
theorem q_149_49 : p_tb 149 49 = some (.iconst 2, 1) := by decide +kernel
theorem q_149_50 : p_tb 149 50 = some (.iload_n 3, 1) := by decide +kernel
theorem q_149_51 : p_tb 149 51 = some (.imul, 1) := by decide +kernel
theorem q_149_52 : p_tb 149 52 = some (.invokevirtual 383, 3) := by decide +kernel
theorem q_149_55 : p_tb 149 55 = some (.invokestatic 386, 3) := by decide +kernel
theorem q_149_58 : p_tb 149 58 = some (.istore_n 2, 1) := by decide +kernel
theorem q_149_59 : p_tb 149 59 = some (.iinc 3 1, 3) := by decide +kernel
theorem q_149_62 : p_tb 149 62 = some (.goto (-23), 3) := by decide +kernel
theorem q_149_65 : p_tb 149 65 = some (.iconst 1, 1) := by decide +kernel
theorem q_149_66 : p_tb 149 66 = some (.aload_n 0, 1) := by decide +kernel
theorem q_149_67 : p_tb 149 67 = some (.getfield 19, 3) := by decide +kernel
theorem q_149_70 : p_tb 149 70 = some (.getfield 94, 3) := by decide +kernel
theorem q_149_73 : p_tb 149 73 = some (.getfield 136, 3) := by decide +kernel
theorem q_149_76 : p_tb 149 76 = some (.ishl, 1) := by decide +kernel
theorem q_149_77 : p_tb 149 77 = some (.iconst 1, 1) := by decide +kernel
theorem q_149_78 : p_tb 149 78 = some (.isub, 1) := by decide +kernel
theorem q_149_79 : p_tb 149 79 = some (.istore_n 3, 1) := by decide +kernel
theorem q_149_80 : p_tb 149 80 = some (.aload_n 0, 1) := by decide +kernel
theorem q_149_81 : p_tb 149 81 = some (.invokevirtual 140, 3) := by decide +kernel
theorem q_149_84 : p_tb 149 84 = some (.astore 4, 2) := by decide +kernel
theorem q_149_86 : p_tb 149 86 = some (.iconst 0, 1) := by decide +kernel
theorem q_149_87 : p_tb 149 87 = some (.istore 5, 2) := by decide +kernel
theorem q_149_89 : p_tb 149 89 = some (.iload 5, 2) := by decide +kernel
theorem q_149_91 : p_tb 149 91 = some (.iload_n 2, 1) := by decide +kernel
theorem q_149_92 : p_tb 149 92 = some (.if_icmp .gt 77, 3) := by decide +kernel
theorem q_149_95 : p_tb 149 95 = some (.iconst 0, 1) := by decide +kernel
theorem q_149_96 : p_tb 149 96 = some (.istore 6, 2) := by decide +kernel
theorem q_149_98 : p_tb 149 98 = some (.iload 6, 2) := by decide +kernel
theorem q_149_100 : p_tb 149 100 = some (.iload_n 1, 1) := by decide +kernel
theorem q_149_101 : p_tb 149 101 = some (.if_icmp .ge 49, 3) := by decide +kernel
theorem q_149_104 : p_tb 149 104 = some (.aload_n 0, 1) := by decide +kernel
theorem q_149_105 : p_tb 149 105 = some (.getfield 10, 3) := by decide +kernel
theorem q_149_108 : p_tb 149 108 = some (.iconst 2, 1) := by decide +kernel
theorem q_149_109 : p_tb 149 109 = some (.iload 6, 2) := by decide +kernel
theorem q_149_111 : p_tb 149 111 = some (.imul, 1) := by decide +kernel
theorem q_149_112 : p_tb 149 112 = some (.invokevirtual 383, 3) := by decide +kernel
theorem q_149_115 : p_tb 149 115 = some (.iload 5, 2) := by decide +kernel
theorem q_149_117 : p_tb 149 117 = some (.if_icmp .ne 27, 3) := by decide +kernel
theorem q_149_120 : p_tb 149 120 = some (.iload_n 3, 1) := by decide +kernel
theorem q_149_121 : p_tb 149 121 = some (.aload_n 0, 1) := by decide +kernel
theorem q_149_122 : p_tb 149 122 = some (.aload 4, 2) := by decide +kernel
theorem q_149_124 : p_tb 149 124 = some (.aload_n 0, 1) := by decide +kernel
theorem q_149_125 : p_tb 149 125 = some (.getfield 10, 3) := by decide +kernel
theorem q_149_128 : p_tb 149 128 = some (.iconst 2, 1) := by decide +kernel
theorem q_149_129 : p_tb 149 129 = some (.iload 6, 2) := by decide +kernel
theorem q_149_131 : p_tb 149 131 = some (.imul, 1) := by decide +kernel
theorem q_149_132 : p_tb 149 132 = some (.iconst 1, 1) := by decide +kernel
theorem q_149_133 : p_tb 149 133 = some (.iadd, 1) := by decide +kernel
theorem q_149_134 : p_tb 149 134 = some (.invokevirtual 383, 3) := by decide +kernel
theorem q_149_137 : p_tb 149 137 = some (.iload 5, 2) := by decide +kernel
theorem q_149_139 : p_tb 149 139 = some (.invokevirtual 389, 3) := by decide +kernel
theorem q_149_142 : p_tb 149 142 = some (.iand, 1) := by decide +kernel
theorem q_149_143 : p_tb 149 143 = some (.istore_n 3, 1) := by decide +kernel
theorem q_149_144 : p_tb 149 144 = some (.iinc 6 1, 3) := by decide +kernel
theorem q_149_147 : p_tb 149 147 = some (.goto (-49), 3) := by decide +kernel
theorem q_149_150 : p_tb 149 150 = some (.aload 4, 2) := by decide +kernel
theorem q_149_152 : p_tb 149 152 = some (.aload_n 0, 1) := by decide +kernel
theorem q_149_153 : p_tb 149 153 = some (.getfield 19, 3) := by decide +kernel
theorem q_149_156 : p_tb 149 156 = some (.getfield 94, 3) := by decide +kernel
theorem q_149_159 : p_tb 149 159 = some (.invokevirtual 317, 3) := by decide +kernel
theorem q_149_162 : p_tb 149 162 = some (.pop, 1) := by decide +kernel
theorem q_149_163 : p_tb 149 163 = some (.iinc 5 1, 3) := by decide +kernel
theorem q_149_166 : p_tb 149 166 = some (.goto (-77), 3) := by decide +kernel
theorem q_149_169 : p_tb 149 169 = some (.iload_n 3, 1) := by decide +kernel
theorem q_149_170 : p_tb 149 170 = some (.ireturn, 1) := by decide +kernel
theorem t_fN_149_136 : p_f2 p_fN (p_mK 149) 136 = some (3, 6) := by decide +kernel
theorem t_fN_149_73 : p_f2 p_fN (p_mK 149) 73 = some (7, 1) := by decide +kernel
theorem t_fN_149_94 : p_f2 p_fN (p_mK 149) 94 = some (9, 0) := by decide +kernel
theorem t_ft_149_10 : p_f2 p_ft (p_mK 149) 10 = some (10, 0) := by decide +kernel
theorem t_ft_149_19 : p_f2 p_ft (p_mK 149) 19 = some (10, 1) := by decide +kernel
theorem t_mj_149_386 : p_f2 p_mj (p_mK 149) 386 = some 2 := by decide +kernel
theorem t_mv_149_140 : p_f2 p_mv (p_mK 149) 140 = some 146 := by decide +kernel
theorem t_mv_149_317 : p_f2 p_mv (p_mK 149) 317 = some 56 := by decide +kernel
theorem t_mv_149_383 : p_f2 p_mv (p_mK 149) 383 = some 75 := by decide +kernel
theorem t_mv_149_389 : p_f2 p_mv (p_mK 149) 389 = some 150 := by decide +kernel
theorem q_135_0 : p_tb 135 0 = some (.aload_n 0, 1) := by decide +kernel
theorem q_135_1 : p_tb 135 1 = some (.invokevirtual 335, 3) := by decide +kernel
theorem q_135_4 : p_tb 135 4 = some (.istore_n 1, 1) := by decide +kernel
theorem q_135_5 : p_tb 135 5 = some (.aload_n 0, 1) := by decide +kernel
theorem q_135_6 : p_tb 135 6 = some (.getfield 10, 3) := by decide +kernel
theorem q_135_9 : p_tb 135 9 = some (.iconst 0, 1) := by decide +kernel
theorem q_135_10 : p_tb 135 10 = some (.putfield 73, 3) := by decide +kernel
theorem q_135_13 : p_tb 135 13 = some (.iload_n 1, 1) := by decide +kernel
theorem q_135_14 : p_tb 135 14 = some (.ireturn, 1) := by decide +kernel
theorem t_fN_135_73 : p_f2 p_fN (p_mK 135) 73 = some (7, 1) := by decide +kernel
theorem t_ft_135_10 : p_f2 p_ft (p_mK 135) 10 = some (10, 0) := by decide +kernel
theorem t_mv_135_335 : p_f2 p_mv (p_mK 135) 335 = some 149 := by decide +kernel
theorem q_156_0 : p_tb 156 0 = some (.aload_n 0, 1) := by decide +kernel
theorem q_156_1 : p_tb 156 1 = some (.invokevirtual 140, 3) := by decide +kernel
theorem q_156_4 : p_tb 156 4 = some (.astore_n 1, 1) := by decide +kernel
theorem q_156_5 : p_tb 156 5 = some (.aload_n 1, 1) := by decide +kernel
theorem q_156_6 : p_tb 156 6 = some (.iconst (-1), 1) := by decide +kernel
theorem q_156_7 : p_tb 156 7 = some (.putfield 233, 3) := by decide +kernel
theorem q_156_10 : p_tb 156 10 = some (.aload_n 1, 1) := by decide +kernel
theorem q_156_11 : p_tb 156 11 = some (.iconst (-1), 1) := by decide +kernel
theorem q_156_12 : p_tb 156 12 = some (.putfield 236, 3) := by decide +kernel
theorem q_156_15 : p_tb 156 15 = some (.aload_n 1, 1) := by decide +kernel
theorem q_156_16 : p_tb 156 16 = some (.areturn, 1) := by decide +kernel
theorem t_fN_156_233 : p_f2 p_fN (p_mK 156) 233 = some (5, 1) := by decide +kernel
theorem t_fN_156_236 : p_f2 p_fN (p_mK 156) 236 = some (5, 2) := by decide +kernel
theorem t_mv_156_140 : p_f2 p_mv (p_mK 156) 140 = some 146 := by decide +kernel
theorem q_158_0 : p_tb 158 0 = some (.aload_n 0, 1) := by decide +kernel
theorem q_158_1 : p_tb 158 1 = some (.invokevirtual 399, 3) := by decide +kernel
theorem q_158_4 : p_tb 158 4 = some (.astore_n 2, 1) := by decide +kernel
theorem q_158_5 : p_tb 158 5 = some (.aload_n 2, 1) := by decide +kernel
theorem q_158_6 : p_tb 158 6 = some (.getfield 206, 3) := by decide +kernel
theorem q_158_9 : p_tb 158 9 = some (.iload_n 1, 1) := by decide +kernel
theorem q_158_10 : p_tb 158 10 = some (.aaload, 1) := by decide +kernel
theorem q_158_11 : p_tb 158 11 = some (.astore_n 3, 1) := by decide +kernel
theorem q_158_12 : p_tb 158 12 = some (.iconst 0, 1) := by decide +kernel
theorem q_158_13 : p_tb 158 13 = some (.istore 4, 2) := by decide +kernel
theorem q_158_15 : p_tb 158 15 = some (.iconst 0, 1) := by decide +kernel
theorem q_158_16 : p_tb 158 16 = some (.istore 5, 2) := by decide +kernel
theorem q_158_18 : p_tb 158 18 = some (.iload 5, 2) := by decide +kernel
theorem q_158_20 : p_tb 158 20 = some (.bipush 18, 2) := by decide +kernel
theorem q_158_22 : p_tb 158 22 = some (.if_icmp .ge 66, 3) := by decide +kernel
theorem q_158_25 : p_tb 158 25 = some (.aload_n 2, 1) := by decide +kernel
theorem q_158_26 : p_tb 158 26 = some (.aload_n 0, 1) := by decide +kernel
theorem q_158_27 : p_tb 158 27 = some (.getfield 19, 3) := by decide +kernel
theorem q_158_30 : p_tb 158 30 = some (.getfield 94, 3) := by decide +kernel
theorem q_158_33 : p_tb 158 33 = some (.getfield 136, 3) := by decide +kernel
theorem q_158_36 : p_tb 158 36 = some (.aload_n 3, 1) := by decide +kernel
theorem q_158_37 : p_tb 158 37 = some (.aload_n 0, 1) := by decide +kernel
theorem q_158_38 : p_tb 158 38 = some (.getfield 19, 3) := by decide +kernel
theorem q_158_41 : p_tb 158 41 = some (.getfield 94, 3) := by decide +kernel
theorem q_158_44 : p_tb 158 44 = some (.getfield 321, 3) := by decide +kernel
theorem q_158_47 : p_tb 158 47 = some (.iload_n 1, 1) := by decide +kernel
theorem q_158_48 : p_tb 158 48 = some (.iaload, 1) := by decide +kernel
theorem q_158_49 : p_tb 158 49 = some (.sipush 600, 3) := by decide +kernel
theorem q_158_52 : p_tb 158 52 = some (.iload 5, 2) := by decide +kernel
theorem q_158_54 : p_tb 158 54 = some (.iadd, 1) := by decide +kernel
theorem q_158_55 : p_tb 158 55 = some (.invokevirtual 405, 3) := by decide +kernel
theorem q_158_58 : p_tb 158 58 = some (.istore 6, 2) := by decide +kernel
theorem q_158_60 : p_tb 158 60 = some (.iload 5, 2) := by decide +kernel
theorem q_158_62 : p_tb 158 62 = some (.bipush 12, 2) := by decide +kernel
theorem q_158_64 : p_tb 158 64 = some (.if_icmp .lt 18, 3) := by decide +kernel
theorem q_158_67 : p_tb 158 67 = some (.iload 6, 2) := by decide +kernel
theorem q_158_69 : p_tb 158 69 = some (.iconst (-1), 1) := by decide +kernel
theorem q_158_70 : p_tb 158 70 = some (.if_icmp .eq 12, 3) := by decide +kernel
theorem q_158_73 : p_tb 158 73 = some (.iload 4, 2) := by decide +kernel
theorem q_158_75 : p_tb 158 75 = some (.iconst 1, 1) := by decide +kernel
theorem q_158_76 : p_tb 158 76 = some (.iload 6, 2) := by decide +kernel
theorem q_158_78 : p_tb 158 78 = some (.ishl, 1) := by decide +kernel
theorem q_158_79 : p_tb 158 79 = some (.ior, 1) := by decide +kernel
theorem q_158_80 : p_tb 158 80 = some (.istore 4, 2) := by decide +kernel
theorem q_158_82 : p_tb 158 82 = some (.iinc 5 1, 3) := by decide +kernel
theorem q_158_85 : p_tb 158 85 = some (.goto (-67), 3) := by decide +kernel
theorem q_158_88 : p_tb 158 88 = some (.iload 4, 2) := by decide +kernel
theorem q_158_90 : p_tb 158 90 = some (.ireturn, 1) := by decide +kernel
theorem t_fN_158_136 : p_f2 p_fN (p_mK 158) 136 = some (3, 6) := by decide +kernel
theorem t_fN_158_206 : p_f2 p_fN (p_mK 158) 206 = some (5, 4) := by decide +kernel
theorem t_fN_158_321 : p_f2 p_fN (p_mK 158) 321 = some (3, 16) := by decide +kernel
theorem t_fN_158_94 : p_f2 p_fN (p_mK 158) 94 = some (9, 0) := by decide +kernel
theorem t_ft_158_19 : p_f2 p_ft (p_mK 158) 19 = some (10, 1) := by decide +kernel
theorem t_mv_158_399 : p_f2 p_mv (p_mK 158) 399 = some 156 := by decide +kernel
theorem t_mv_158_405 : p_f2 p_mv (p_mK 158) 405 = some 64 := by decide +kernel
theorem q_141_0 : p_tb 141 0 = some (.aload_n 0, 1) := by decide +kernel
theorem q_141_1 : p_tb 141 1 = some (.iload_n 1, 1) := by decide +kernel
theorem q_141_2 : p_tb 141 2 = some (.invokevirtual 370, 3) := by decide +kernel
theorem q_141_5 : p_tb 141 5 = some (.ifCond .eq 14, 3) := by decide +kernel
theorem q_141_8 : p_tb 141 8 = some (.aload_n 0, 1) := by decide +kernel
theorem q_141_9 : p_tb 141 9 = some (.iload_n 1, 1) := by decide +kernel
theorem q_141_10 : p_tb 141 10 = some (.invokevirtual 373, 3) := by decide +kernel
theorem q_141_13 : p_tb 141 13 = some (.invokestatic 130, 3) := by decide +kernel
theorem q_141_16 : p_tb 141 16 = some (.goto 4, 3) := by decide +kernel
theorem q_141_19 : p_tb 141 19 = some (.iconst (-1), 1) := by decide +kernel
theorem q_141_20 : p_tb 141 20 = some (.ireturn, 1) := by decide +kernel
theorem q_157_0 : p_tb 157 0 = some (.aload_n 0, 1) := by decide +kernel
theorem q_157_1 : p_tb 157 1 = some (.iload_n 1, 1) := by decide +kernel
theorem q_157_2 : p_tb 157 2 = some (.invokevirtual 203, 3) := by decide +kernel
theorem q_157_5 : p_tb 157 5 = some (.ifCond .eq 21, 3) := by decide +kernel
theorem q_157_8 : p_tb 157 8 = some (.aload_n 0, 1) := by decide +kernel
theorem q_157_9 : p_tb 157 9 = some (.getfield 19, 3) := by decide +kernel
theorem q_157_12 : p_tb 157 12 = some (.getfield 94, 3) := by decide +kernel
theorem q_157_15 : p_tb 157 15 = some (.getfield 136, 3) := by decide +kernel
theorem q_157_18 : p_tb 157 18 = some (.iconst 1, 1) := by decide +kernel
theorem q_157_19 : p_tb 157 19 = some (.if_icmp .le 7, 3) := by decide +kernel
theorem q_157_22 : p_tb 157 22 = some (.iconst 1, 1) := by decide +kernel
theorem q_157_23 : p_tb 157 23 = some (.goto 4, 3) := by decide +kernel
theorem q_157_26 : p_tb 157 26 = some (.iconst 0, 1) := by decide +kernel
theorem q_157_27 : p_tb 157 27 = some (.ireturn, 1) := by decide +kernel
theorem t_fN_157_136 : p_f2 p_fN (p_mK 157) 136 = some (3, 6) := by decide +kernel
theorem t_fN_157_94 : p_f2 p_fN (p_mK 157) 94 = some (9, 0) := by decide +kernel
theorem t_ft_157_19 : p_f2 p_ft (p_mK 157) 19 = some (10, 1) := by decide +kernel
theorem t_ms_141_130 : p_f2 p_ms (p_mK 141) 130 = some 275 := by decide +kernel
theorem t_mv_141_370 : p_f2 p_mv (p_mK 141) 370 = some 157 := by decide +kernel
theorem t_mv_141_373 : p_f2 p_mv (p_mK 141) 373 = some 158 := by decide +kernel
theorem t_mv_157_203 : p_f2 p_mv (p_mK 157) 203 = some 144 := by decide +kernel
theorem q_142_0 : p_tb 142 0 = some (.aload_n 0, 1) := by decide +kernel
theorem q_142_1 : p_tb 142 1 = some (.iload_n 1, 1) := by decide +kernel
theorem q_142_2 : p_tb 142 2 = some (.invokevirtual 370, 3) := by decide +kernel
theorem q_142_5 : p_tb 142 5 = some (.ifCond .eq 11, 3) := by decide +kernel
theorem q_142_8 : p_tb 142 8 = some (.aload_n 0, 1) := by decide +kernel
theorem q_142_9 : p_tb 142 9 = some (.iload_n 1, 1) := by decide +kernel
theorem q_142_10 : p_tb 142 10 = some (.invokevirtual 373, 3) := by decide +kernel
theorem q_142_13 : p_tb 142 13 = some (.goto 4, 3) := by decide +kernel
theorem q_142_16 : p_tb 142 16 = some (.iconst (-1), 1) := by decide +kernel
theorem q_142_17 : p_tb 142 17 = some (.ireturn, 1) := by decide +kernel
theorem t_mv_142_370 : p_f2 p_mv (p_mK 142) 370 = some 157 := by decide +kernel
theorem t_mv_142_373 : p_f2 p_mv (p_mK 142) 373 = some 158 := by decide +kernel
theorem c_X11_ranIfStopped (G : pG) (Kr : pK) (M : pM) (I : Iv gTT M) (a1 : Int32) (a2 : Int32) (a3 : Int32) (hl_a1 : 0 ≤ a1.toInt) (hh_a1 : a1.toInt ≤ 5) (hl_a2 : 0 ≤ a2.toInt) (hh_a2 : a2.toInt ≤ 1) (hK : ∀ (x : Int32) (M1 : pM), Iv gTT M1 → Fr [5, 7, 9, 10, 11, 12, 13] M M1 → Kr.1 (some (.int x)) 311 M1) : PW G false 5 148 (p_mc 148) (p_msl 148) Kr 0 (lv_args 0 [.ref 0, .int a1, .int a2, .int a3]) [] 311 M 0 0 := by
  have F : Fr [5, 7, 9, 10, 11, 12, 13] M M := Fr.refl
  refine PW.aload_n q_148_0 rfl ?_
  refine PW.cV (as := []) (rest := []) q_148_1 t_mv_148_140 kd_0 I.1 (by decide) rfl (by decide) rfl rfl (Nat.le_of_ble_eq_true rfl) (Nat.le_of_ble_eq_true rfl) (by decide) (by decide) ?_
  refine PW.up (by decide) (c_X11_foreseen G _ M I  fun M1 IM1 GM1 => ?_)
  have FM1 := Fr.trans F GM1 (rfl)
  refine PW.astore q_148_4 (by decide) ?_
  refine PW.cI q_148_6 (by decide) fun c2 hc2 => ?_
  refine PW.istore q_148_7 (by decide) ?_
  have L148_9_3 : ∀ (n : Nat) (ML148_9_3 : pM) (v4 : Int32), Iv (gTT) ML148_9_3 → Fr [5, 7, 9, 10, 11, 12, 13] M ML148_9_3 → 0 ≤ v4.toInt → v4.toInt ≤ 40 → (40 - v4.toInt).toNat = n → PW G false 5 148 (p_mc 148) (p_msl 148) Kr 9 [(0, .ref 0), (1, .int a1), (2, .int a2), (3, .int a3), (4, .ref 275), (5, .int v4)] [] 311 ML148_9_3 0 0 := by
    intro n
    induction n using Nat.strongRecOn with
    | ind n ih_L148_9_3 =>
    intro ML148_9_3 v4 IML148_9_3 FML148_9_3 hbL148_9_30 hbL148_9_31 hmL148_9_3
    refine PW.iload q_148_9 rfl ?_
    refine PW.cB q_148_11 (by decide) fun c5 hc5 => ?_
    refine PW.jc_ge q_148_13 rfl (fun h6 => ?_) (fun h6 => ?_)
    · skip
      refine PW.aload q_148_52 rfl ?_
      refine PW.gR 283 q_148_54 (Or.inr t_fN_148_206) gF_5_4 kd_275 IML148_9_3.1 (by decide) rfl ?_
      refine PW.iload_n q_148_57 rfl ?_
      refine PW.aRk q_148_58 rfl (by decide) (by decide) kd_283 IML148_9_3.1 (by decide) (by omega) (by omega) fun b7 hk_b7 e_b7 => ?_
      refine PW.gI q_148_59 (Or.inr t_fN_148_215) gF_9_2 hk_b7 IML148_9_3.1 (by decide) fun x8 fx8 hx8 kx8 => ?_
      clear hx8 kx8
      refine PW.aload_n q_148_62 rfl ?_
      refine PW.gR 3 q_148_63 (Or.inl t_ft_148_19) gF_0_1 kd_0 IML148_9_3.1 (by decide) rfl ?_
      refine PW.gR 15 q_148_66 (Or.inr t_fN_148_101) gF_3_1 kd_3 IML148_9_3.1 (by decide) rfl ?_
      refine PW.gR 23 q_148_69 (Or.inr t_fN_148_206) gF_5_4 kd_15 IML148_9_3.1 (by decide) rfl ?_
      refine PW.iload_n q_148_72 rfl ?_
      refine PW.aRk q_148_73 rfl (by decide) (by decide) kd_23 IML148_9_3.1 (by decide) (by omega) (by omega) fun b9 hk_b9 e_b9 => ?_
      refine PW.gI q_148_74 (Or.inr t_fN_148_215) gF_9_2 hk_b9 IML148_9_3.1 (by decide) fun x10 fx10 hx10 kx10 => ?_
      clear hx10 kx10
      refine PW.subH q_148_77 fun x11 => ?_
      refine PW.rI q_148_78 rfl (by decide) (by decide) ?_
      exact hK x11 ML148_9_3 IML148_9_3 FML148_9_3
    · skip
      refine PW.iload q_148_16 rfl ?_
      refine PW.iload_n q_148_18 rfl ?_
      have J33_13 : ∀ (MJ33_13 : pM), Iv (gTT) MJ33_13 → Fr [5, 7, 9, 10, 11, 12, 13] M MJ33_13 → PW G false 5 148 (p_mc 148) (p_msl 148) Kr 33 [(0, .ref 0), (1, .int a1), (2, .int a2), (3, .int a3), (4, .ref 275), (5, .int v4)] [] 311 MJ33_13 0 0 := by
        intro MJ33_13  IMJ33_13 FMJ33_13 
        refine PW.aload q_148_33 rfl ?_
        refine PW.aload_n q_148_35 rfl ?_
        refine PW.gR 3 q_148_36 (Or.inl t_ft_148_19) gF_0_1 kd_0 IMJ33_13.1 (by decide) rfl ?_
        refine PW.gR 4 q_148_39 (Or.inr t_fN_148_94) gF_3_0 kd_3 IMJ33_13.1 (by decide) rfl ?_
        refine PW.cV (as := [_]) (rest := []) q_148_42 t_mv_148_317 kd_275 IMJ33_13.1 (by decide) rfl (by decide) rfl rfl (Nat.le_of_ble_eq_true rfl) (Nat.le_of_ble_eq_true rfl) (by decide) (by decide) ?_
        refine PW.up (by decide) (c_X5_pass G _ MJ33_13 IMJ33_13 275 kd_275 4 kd_4 fun x15 M14 IM14 GM14 hx15 kx15 => ?_)
        have FM14 := Fr.trans FMJ33_13 GM14 (rfl)
        refine PW.pop q_148_45 rfl ?_
        refine PW.incN q_148_46 rfl (by decide) (by decide) (by omega) (by omega) fun x16 hx16 => ?_
        refine PW.goto q_148_49 rfl ?_
        refine PW.lvS (lk1 rfl (lk1 rfl (lk1 rfl (lk1 rfl (lk1 rfl (lk1 rfl lk0)))))) (ih_L148_9_3 _ ?_ M14 x16 IM14 FM14 (by omega) (by omega) rfl)
        omega
      refine PW.jc_ne q_148_19 rfl (fun h12 => ?_) (fun h12 => ?_)
      · skip
        exact PW.lvS (lk1 rfl (lk1 rfl (lk1 rfl (lk1 rfl (lk1 rfl (lk1 rfl lk0)))))) (J33_13 ML148_9_3  IML148_9_3 FML148_9_3 )
      · skip
        refine PW.aload q_148_22 rfl ?_
        refine PW.gR 276 q_148_24 (Or.inr t_fN_148_176) gF_5_3 kd_275 IML148_9_3.1 (by decide) rfl ?_
        refine PW.iload_n q_148_27 rfl ?_
        refine PW.aRk q_148_28 rfl (by decide) (by decide) kd_276 IML148_9_3.1 (by decide) (by omega) (by omega) fun b17 hk_b17 e_b17 => ?_
        refine PW.cI q_148_29 (by decide) fun c18 hc18 => ?_
        refine PW.pI q_148_30 (Or.inr t_fN_148_191) gF_7_2 gP_7_2 hk_b17 Stab0 IML148_9_3 (by decide) rfl (by omega) (by omega) fun M19 IM19 fM19 UM19 => ?_
        have FM19 := Fr.pu FML148_9_3 UM19.1 hk_b17 (rfl : List.contains [5, 7, 9, 10, 11, 12, 13] 7 = true)
        exact PW.lvS (lk1 rfl (lk1 rfl (lk1 rfl (lk1 rfl (lk1 rfl (lk1 rfl lk0)))))) (J33_13 M19  IM19 FM19 )
  exact PW.lvS (lk1 rfl (lk1 rfl (lk1 rfl (lk1 rfl (lk1 rfl (lk1 rfl lk0)))))) (L148_9_3 _ M1 c2 IM1 FM1 (by omega) (by omega) rfl)
theorem c_X11_leastStop (G : pG) (Kr : pK) (M : pM) (I : Iv gTT M) (a1 : Int32) (a2 : Int32) (hl_a1 : 0 ≤ a1.toInt) (hh_a1 : a1.toInt ≤ 5) (hl_a2 : 0 ≤ a2.toInt) (hh_a2 : a2.toInt ≤ 1) (hK : ∀ (x : Int32) (M1 : pM), Iv gTT M1 → Fr [5, 7, 9, 10, 11, 12, 13] M M1 → Kr.1 (some (.int x)) 311 M1) : PW G false 6 147 (p_mc 147) (p_msl 147) Kr 0 (lv_args 0 [.ref 0, .int a1, .int a2]) [] 311 M 0 0 := by
  have F : Fr [5, 7, 9, 10, 11, 12, 13] M M := Fr.refl
  refine PW.cI q_147_0 (by decide) fun c1 hc1 => ?_
  refine PW.istore_n q_147_1 (by decide) ?_
  refine PW.aload_n q_147_2 rfl ?_
  refine PW.iload_n q_147_3 rfl ?_
  refine PW.iload_n q_147_4 rfl ?_
  refine PW.cI q_147_5 (by decide) fun c2 hc2 => ?_
  refine PW.cV (as := [_, _, _]) (rest := []) q_147_6 t_mv_147_331 kd_0 I.1 (by decide) rfl (by decide) rfl rfl (Nat.le_of_ble_eq_true rfl) (Nat.le_of_ble_eq_true rfl) (by decide) (by decide) ?_
  refine PW.up (by decide) (c_X11_ranIfStopped G _ M I a1 a2 c2 (by omega) (by omega) (by omega) (by omega) fun x4 M3 IM3 GM3 => ?_)
  have FM3 := Fr.trans F GM3 (rfl)
  refine PW.istore q_147_9 (by decide) ?_
  refine PW.cI q_147_11 (by decide) fun c5 hc5 => ?_
  refine PW.istore q_147_12 (by decide) ?_
  have L147_14_6 : ∀ (n : Nat) (ML147_14_6 : pM) (v7 v8 v9 : Int32), Iv (gTT) ML147_14_6 → Fr [5, 7, 9, 10, 11, 12, 13] M ML147_14_6 → 0 ≤ v7.toInt → v7.toInt ≤ 40 → 1 ≤ v9.toInt → v9.toInt ≤ 31 → (31 - v9.toInt).toNat = n → PW G false 6 147 (p_mc 147) (p_msl 147) Kr 14 [(0, .ref 0), (1, .int a1), (2, .int a2), (3, .int v7), (4, .int v8), (5, .int v9)] [] 311 ML147_14_6 0 0 := by
    intro n
    induction n using Nat.strongRecOn with
    | ind n ih_L147_14_6 =>
    intro ML147_14_6 v7 v8 v9 IML147_14_6 FML147_14_6 hbL147_14_60 hbL147_14_61 hbL147_14_62 hbL147_14_63 hmL147_14_6
    refine PW.iload q_147_14 rfl ?_
    refine PW.cB q_147_16 (by decide) fun c10 hc10 => ?_
    refine PW.jc_gt q_147_18 rfl (fun h11 => ?_) (fun h11 => ?_)
    · skip
      refine PW.iload_n q_147_51 rfl ?_
      refine PW.rI q_147_52 rfl (by decide) (by decide) ?_
      exact hK v7 ML147_14_6 IML147_14_6 FML147_14_6
    · skip
      refine PW.aload_n q_147_21 rfl ?_
      refine PW.iload_n q_147_22 rfl ?_
      refine PW.iload_n q_147_23 rfl ?_
      refine PW.iload q_147_24 rfl ?_
      refine PW.cV (as := [_, _, _]) (rest := []) q_147_26 t_mv_147_331 kd_0 IML147_14_6.1 (by decide) rfl (by decide) rfl rfl (Nat.le_of_ble_eq_true rfl) (Nat.le_of_ble_eq_true rfl) (by decide) (by decide) ?_
      refine PW.up (by decide) (c_X11_ranIfStopped G _ ML147_14_6 IML147_14_6 a1 a2 v9 (by omega) (by omega) (by omega) (by omega) fun x13 M12 IM12 GM12 => ?_)
      have FM12 := Fr.trans FML147_14_6 GM12 (rfl)
      refine PW.istore q_147_29 (by decide) ?_
      refine PW.iload q_147_31 rfl ?_
      refine PW.iload q_147_33 rfl ?_
      have J45_15 : ∀ (MJ45_15 : pM) (v16 v17 : Int32), Iv (gTT) MJ45_15 → Fr [5, 7, 9, 10, 11, 12, 13] M MJ45_15 → 0 ≤ v16.toInt → v16.toInt ≤ 40 → PW G false 6 147 (p_mc 147) (p_msl 147) Kr 45 [(0, .ref 0), (1, .int a1), (2, .int a2), (3, .int v16), (4, .int v17), (5, .int v9), (6, .int x13)] [] 311 MJ45_15 0 0 := by
        intro MJ45_15 v16 v17 IMJ45_15 FMJ45_15 hbJ45_150 hbJ45_151
        refine PW.incN q_147_45 rfl (by decide) (by decide) (by omega) (by omega) fun x18 hx18 => ?_
        refine PW.goto q_147_48 rfl ?_
        refine PW.lvS (lk1 rfl (lk1 rfl (lk1 rfl (lk1 rfl (lk1 rfl (lk1 rfl lk0)))))) (ih_L147_14_6 _ ?_ MJ45_15 v16 v17 x18 IMJ45_15 FMJ45_15 (by omega) (by omega) (by omega) (by omega) rfl)
        omega
      refine PW.jc_ge q_147_35 rfl (fun h14 => ?_) (fun h14 => ?_)
      · skip
        exact PW.lvS (lk1 rfl (lk1 rfl (lk1 rfl (lk1 rfl (lk1 rfl (lk1 rfl (lk1 rfl lk0))))))) (J45_15 M12 v7 v8 IM12 FM12 (by omega) (by omega))
      · skip
        refine PW.iload q_147_38 rfl ?_
        refine PW.istore_n q_147_40 (by decide) ?_
        refine PW.iload q_147_41 rfl ?_
        refine PW.istore q_147_43 (by decide) ?_
        exact PW.lvS (lk1 rfl (lk1 rfl (lk1 rfl (lk1 rfl (lk1 rfl (lk1 rfl (lk1 rfl lk0))))))) (J45_15 M12 v9 x13 IM12 FM12 (by omega) (by omega))
  exact PW.lvS (lk1 rfl (lk1 rfl (lk1 rfl (lk1 rfl (lk1 rfl (lk1 rfl lk0)))))) (L147_14_6 _ M3 c1 x4 c5 IM3 FM3 (by omega) (by omega) (by omega) (by omega) rfl)
theorem c_X11_least (G : pG) (Kr : pK) (M : pM) (I : Iv gTT M) (a1 : Int32) (a2 : Int32) (hK : ∀ (x : Int32) (M1 : pM), Iv gTT M1 → Fr [5, 7, 9, 10, 11, 12, 13] M M1 → Kr.1 (some (.int x)) 311 M1) : PW G false 7 132 (p_mc 132) (p_msl 132) Kr 0 (lv_args 0 [.ref 0, .int a1, .int a2]) [] 311 M 0 0 := by
  have F : Fr [5, 7, 9, 10, 11, 12, 13] M M := Fr.refl
  refine PW.aload_n q_132_0 rfl ?_
  refine PW.iload_n q_132_1 rfl ?_
  refine PW.cV (as := [_]) (rest := []) q_132_2 t_mv_132_169 kd_0 I.1 (by decide) rfl (by decide) rfl rfl (Nat.le_of_ble_eq_true rfl) (Nat.le_of_ble_eq_true rfl) (by decide) (by decide) ?_
  refine PW.iload_n q_143_0 rfl ?_
  refine PW.jz_lt q_143_1 rfl (fun h1 => ?_) (fun h1 => ?_)
  · skip
    refine PW.cI q_143_22 (by decide) fun c2 hc2 => ?_
    refine PW.rZ q_143_23 rfl (by omega) (by omega) (by decide) (by decide) ?_
    refine PW.jz_eq q_132_5 rfl (fun h3 => ?_) (fun h3 => False.elim (by omega))
    refine PW.cI q_132_16 (by decide) fun c4 hc4 => ?_
    refine PW.rI q_132_17 rfl (by decide) (by decide) ?_
    exact hK c4 M I F
  · skip
    refine PW.iload_n q_143_4 rfl ?_
    refine PW.aload_n q_143_5 rfl ?_
    refine PW.gR 3 q_143_6 (Or.inl t_ft_143_19) gF_0_1 kd_0 I.1 (by decide) rfl ?_
    refine PW.gR 4 q_143_9 (Or.inr t_fN_143_94) gF_3_0 kd_3 I.1 (by decide) rfl ?_
    refine PW.gI q_143_12 (Or.inr t_fN_143_136) gF_4_6 kd_4 I.1 (by decide) fun x5 fx5 hx5 kx5 => ?_
    refine PW.jc_ge q_143_15 rfl (fun h6 => ?_) (fun h6 => ?_)
    · skip
      refine PW.cI q_143_22 (by decide) fun c7 hc7 => ?_
      refine PW.rZ q_143_23 rfl (by omega) (by omega) (by decide) (by decide) ?_
      refine PW.jz_eq q_132_5 rfl (fun h8 => ?_) (fun h8 => False.elim (by omega))
      refine PW.cI q_132_16 (by decide) fun c9 hc9 => ?_
      refine PW.rI q_132_17 rfl (by decide) (by decide) ?_
      exact hK c9 M I F
    · skip
      refine PW.cI q_143_18 (by decide) fun c10 hc10 => ?_
      refine PW.goto q_143_19 rfl ?_
      refine PW.rZ q_143_23 rfl (by omega) (by omega) (by decide) (by decide) ?_
      refine PW.jz_eq q_132_5 rfl (fun h11 => False.elim (by omega)) (fun h11 => ?_)
      refine PW.aload_n q_132_8 rfl ?_
      refine PW.iload_n q_132_9 rfl ?_
      refine PW.cV (as := [_]) (rest := []) q_132_10 t_mv_132_203 kd_0 I.1 (by decide) rfl (by decide) rfl rfl (Nat.le_of_ble_eq_true rfl) (Nat.le_of_ble_eq_true rfl) (by decide) (by decide) ?_
      refine PW.iload_n q_144_0 rfl ?_
      refine PW.jz_lt q_144_1 rfl (fun h12 => ?_) (fun h12 => ?_)
      · skip
        refine PW.cI q_144_22 (by decide) fun c13 hc13 => ?_
        refine PW.rZ q_144_23 rfl (by omega) (by omega) (by decide) (by decide) ?_
        refine PW.jz_ne q_132_13 rfl (fun h14 => False.elim (by omega)) (fun h14 => ?_)
        refine PW.cI q_132_16 (by decide) fun c15 hc15 => ?_
        refine PW.rI q_132_17 rfl (by decide) (by decide) ?_
        exact hK c15 M I F
      · skip
        refine PW.iload_n q_144_4 rfl ?_
        refine PW.aload_n q_144_5 rfl ?_
        refine PW.gR 3 q_144_6 (Or.inl t_ft_144_19) gF_0_1 kd_0 I.1 (by decide) rfl ?_
        refine PW.gR 4 q_144_9 (Or.inr t_fN_144_94) gF_3_0 kd_3 I.1 (by decide) rfl ?_
        refine PW.gI q_144_12 (Or.inr t_fN_144_249) gF_4_7 kd_4 I.1 (by decide) fun x16 fx16 hx16 kx16 => ?_
        refine PW.jc_ge q_144_15 rfl (fun h17 => ?_) (fun h17 => ?_)
        · skip
          refine PW.cI q_144_22 (by decide) fun c18 hc18 => ?_
          refine PW.rZ q_144_23 rfl (by omega) (by omega) (by decide) (by decide) ?_
          refine PW.jz_ne q_132_13 rfl (fun h19 => False.elim (by omega)) (fun h19 => ?_)
          refine PW.cI q_132_16 (by decide) fun c20 hc20 => ?_
          refine PW.rI q_132_17 rfl (by decide) (by decide) ?_
          exact hK c20 M I F
        · skip
          refine PW.cI q_144_18 (by decide) fun c21 hc21 => ?_
          refine PW.goto q_144_19 rfl ?_
          refine PW.rZ q_144_23 rfl (by omega) (by omega) (by decide) (by decide) ?_
          refine PW.jz_ne q_132_13 rfl (fun h22 => ?_) (fun h22 => False.elim (by omega))
          refine PW.aload_n q_132_18 rfl ?_
          refine PW.iload_n q_132_19 rfl ?_
          refine PW.iload_n q_132_20 rfl ?_
          refine PW.cV (as := [_, _]) (rest := []) q_132_21 t_mv_132_328 kd_0 I.1 (by decide) rfl (by decide) rfl rfl (Nat.le_of_ble_eq_true rfl) (Nat.le_of_ble_eq_true rfl) (by decide) (by decide) ?_
          refine PW.up (by decide) (c_X11_leastStop G _ M I a1 a2 (by omega) (by omega) (by omega) (by omega) fun x24 M23 IM23 GM23 => ?_)
          have FM23 := Fr.trans F GM23 (rfl)
          refine PW.rI q_132_24 rfl (by decide) (by decide) ?_
          exact hK x24 M23 IM23 FM23
theorem c_X11_runs (G : pG) (Kr : pK) (M : pM) (I : Iv gTT M) (a1 : Int32) (a2 : Int32) (hK : ∀ (x : Int32) (M1 : pM), Iv gTT M1 → Fr [5, 7, 9, 10, 11, 12, 13] M M1 → Kr.1 (some (.int x)) 311 M1) : PW G false 7 133 (p_mc 133) (p_msl 133) Kr 0 (lv_args 0 [.ref 0, .int a1, .int a2]) [] 311 M 0 0 := by
  have F : Fr [5, 7, 9, 10, 11, 12, 13] M M := Fr.refl
  refine PW.aload_n q_133_0 rfl ?_
  refine PW.iload_n q_133_1 rfl ?_
  refine PW.cV (as := [_]) (rest := []) q_133_2 t_mv_133_169 kd_0 I.1 (by decide) rfl (by decide) rfl rfl (Nat.le_of_ble_eq_true rfl) (Nat.le_of_ble_eq_true rfl) (by decide) (by decide) ?_
  refine PW.iload_n q_143_0 rfl ?_
  refine PW.jz_lt q_143_1 rfl (fun h1 => ?_) (fun h1 => ?_)
  · skip
    refine PW.cI q_143_22 (by decide) fun c2 hc2 => ?_
    refine PW.rZ q_143_23 rfl (by omega) (by omega) (by decide) (by decide) ?_
    refine PW.jz_eq q_133_5 rfl (fun h3 => ?_) (fun h3 => False.elim (by omega))
    refine PW.cI q_133_16 (by decide) fun c4 hc4 => ?_
    refine PW.rI q_133_17 rfl (by decide) (by decide) ?_
    exact hK c4 M I F
  · skip
    refine PW.iload_n q_143_4 rfl ?_
    refine PW.aload_n q_143_5 rfl ?_
    refine PW.gR 3 q_143_6 (Or.inl t_ft_143_19) gF_0_1 kd_0 I.1 (by decide) rfl ?_
    refine PW.gR 4 q_143_9 (Or.inr t_fN_143_94) gF_3_0 kd_3 I.1 (by decide) rfl ?_
    refine PW.gI q_143_12 (Or.inr t_fN_143_136) gF_4_6 kd_4 I.1 (by decide) fun x5 fx5 hx5 kx5 => ?_
    refine PW.jc_ge q_143_15 rfl (fun h6 => ?_) (fun h6 => ?_)
    · skip
      refine PW.cI q_143_22 (by decide) fun c7 hc7 => ?_
      refine PW.rZ q_143_23 rfl (by omega) (by omega) (by decide) (by decide) ?_
      refine PW.jz_eq q_133_5 rfl (fun h8 => ?_) (fun h8 => False.elim (by omega))
      refine PW.cI q_133_16 (by decide) fun c9 hc9 => ?_
      refine PW.rI q_133_17 rfl (by decide) (by decide) ?_
      exact hK c9 M I F
    · skip
      refine PW.cI q_143_18 (by decide) fun c10 hc10 => ?_
      refine PW.goto q_143_19 rfl ?_
      refine PW.rZ q_143_23 rfl (by omega) (by omega) (by decide) (by decide) ?_
      refine PW.jz_eq q_133_5 rfl (fun h11 => False.elim (by omega)) (fun h11 => ?_)
      refine PW.aload_n q_133_8 rfl ?_
      refine PW.iload_n q_133_9 rfl ?_
      refine PW.cV (as := [_]) (rest := []) q_133_10 t_mv_133_203 kd_0 I.1 (by decide) rfl (by decide) rfl rfl (Nat.le_of_ble_eq_true rfl) (Nat.le_of_ble_eq_true rfl) (by decide) (by decide) ?_
      refine PW.iload_n q_144_0 rfl ?_
      refine PW.jz_lt q_144_1 rfl (fun h12 => ?_) (fun h12 => ?_)
      · skip
        refine PW.cI q_144_22 (by decide) fun c13 hc13 => ?_
        refine PW.rZ q_144_23 rfl (by omega) (by omega) (by decide) (by decide) ?_
        refine PW.jz_ne q_133_13 rfl (fun h14 => False.elim (by omega)) (fun h14 => ?_)
        refine PW.cI q_133_16 (by decide) fun c15 hc15 => ?_
        refine PW.rI q_133_17 rfl (by decide) (by decide) ?_
        exact hK c15 M I F
      · skip
        refine PW.iload_n q_144_4 rfl ?_
        refine PW.aload_n q_144_5 rfl ?_
        refine PW.gR 3 q_144_6 (Or.inl t_ft_144_19) gF_0_1 kd_0 I.1 (by decide) rfl ?_
        refine PW.gR 4 q_144_9 (Or.inr t_fN_144_94) gF_3_0 kd_3 I.1 (by decide) rfl ?_
        refine PW.gI q_144_12 (Or.inr t_fN_144_249) gF_4_7 kd_4 I.1 (by decide) fun x16 fx16 hx16 kx16 => ?_
        refine PW.jc_ge q_144_15 rfl (fun h17 => ?_) (fun h17 => ?_)
        · skip
          refine PW.cI q_144_22 (by decide) fun c18 hc18 => ?_
          refine PW.rZ q_144_23 rfl (by omega) (by omega) (by decide) (by decide) ?_
          refine PW.jz_ne q_133_13 rfl (fun h19 => False.elim (by omega)) (fun h19 => ?_)
          refine PW.cI q_133_16 (by decide) fun c20 hc20 => ?_
          refine PW.rI q_133_17 rfl (by decide) (by decide) ?_
          exact hK c20 M I F
        · skip
          refine PW.cI q_144_18 (by decide) fun c21 hc21 => ?_
          refine PW.goto q_144_19 rfl ?_
          refine PW.rZ q_144_23 rfl (by omega) (by omega) (by decide) (by decide) ?_
          refine PW.jz_ne q_133_13 rfl (fun h22 => ?_) (fun h22 => False.elim (by omega))
          refine PW.aload_n q_133_18 rfl ?_
          refine PW.iload_n q_133_19 rfl ?_
          refine PW.iload_n q_133_20 rfl ?_
          refine PW.aload_n q_133_21 rfl ?_
          refine PW.iload_n q_133_22 rfl ?_
          refine PW.iload_n q_133_23 rfl ?_
          refine PW.cV (as := [_, _]) (rest := [_, _, _]) q_133_24 t_mv_133_328 kd_0 I.1 (by decide) rfl (by decide) rfl rfl (Nat.le_of_ble_eq_true rfl) (Nat.le_of_ble_eq_true rfl) (by decide) (by decide) ?_
          refine PW.up (by decide) (c_X11_leastStop G _ M I a1 a2 (by omega) (by omega) (by omega) (by omega) fun x24 M23 IM23 GM23 => ?_)
          have FM23 := Fr.trans F GM23 (rfl)
          refine PW.cV (as := [_, _, _]) (rest := []) q_133_27 t_mv_133_331 kd_0 IM23.1 (by decide) rfl (by decide) rfl rfl (Nat.le_of_ble_eq_true rfl) (Nat.le_of_ble_eq_true rfl) (by decide) (by decide) ?_
          refine PW.up (by decide) (c_X11_ranIfStopped G _ M23 IM23 a1 a2 x24 (by omega) (by omega) (by omega) (by omega) fun x26 M25 IM25 GM25 => ?_)
          have FM25 := Fr.trans FM23 GM25 (rfl)
          refine PW.rI q_133_30 rfl (by decide) (by decide) ?_
          exact hK x26 M25 IM25 FM25
theorem c_X11_odds (G : pG) (Kr : pK) (M : pM) (I : Iv gTT M) (a1 : Int32) (a2 : Int32) (a3 : Int32) (hK : ∀ (x : Int32) (M1 : pM), Iv gTT M1 → Fr [5, 7, 9, 10, 11, 12, 13] M M1 → Kr.1 (some (.int x)) 311 M1) : PW G false 6 134 (p_mc 134) (p_msl 134) Kr 0 (lv_args 0 [.ref 0, .int a1, .int a2, .int a3]) [] 311 M 0 0 := by
  have F : Fr [5, 7, 9, 10, 11, 12, 13] M M := Fr.refl
  refine PW.aload_n q_134_0 rfl ?_
  refine PW.iload_n q_134_1 rfl ?_
  refine PW.cV (as := [_]) (rest := []) q_134_2 t_mv_134_169 kd_0 I.1 (by decide) rfl (by decide) rfl rfl (Nat.le_of_ble_eq_true rfl) (Nat.le_of_ble_eq_true rfl) (by decide) (by decide) ?_
  refine PW.iload_n q_143_0 rfl ?_
  refine PW.jz_lt q_143_1 rfl (fun h1 => ?_) (fun h1 => ?_)
  · skip
    refine PW.cI q_143_22 (by decide) fun c2 hc2 => ?_
    refine PW.rZ q_143_23 rfl (by omega) (by omega) (by decide) (by decide) ?_
    refine PW.jz_eq q_134_5 rfl (fun h3 => ?_) (fun h3 => False.elim (by omega))
    refine PW.cI q_134_19 (by decide) fun c4 hc4 => ?_
    refine PW.rI q_134_20 rfl (by decide) (by decide) ?_
    exact hK c4 M I F
  · skip
    refine PW.iload_n q_143_4 rfl ?_
    refine PW.aload_n q_143_5 rfl ?_
    refine PW.gR 3 q_143_6 (Or.inl t_ft_143_19) gF_0_1 kd_0 I.1 (by decide) rfl ?_
    refine PW.gR 4 q_143_9 (Or.inr t_fN_143_94) gF_3_0 kd_3 I.1 (by decide) rfl ?_
    refine PW.gI q_143_12 (Or.inr t_fN_143_136) gF_4_6 kd_4 I.1 (by decide) fun x5 fx5 hx5 kx5 => ?_
    refine PW.jc_ge q_143_15 rfl (fun h6 => ?_) (fun h6 => ?_)
    · skip
      refine PW.cI q_143_22 (by decide) fun c7 hc7 => ?_
      refine PW.rZ q_143_23 rfl (by omega) (by omega) (by decide) (by decide) ?_
      refine PW.jz_eq q_134_5 rfl (fun h8 => ?_) (fun h8 => False.elim (by omega))
      refine PW.cI q_134_19 (by decide) fun c9 hc9 => ?_
      refine PW.rI q_134_20 rfl (by decide) (by decide) ?_
      exact hK c9 M I F
    · skip
      refine PW.cI q_143_18 (by decide) fun c10 hc10 => ?_
      refine PW.goto q_143_19 rfl ?_
      refine PW.rZ q_143_23 rfl (by omega) (by omega) (by decide) (by decide) ?_
      refine PW.jz_eq q_134_5 rfl (fun h11 => False.elim (by omega)) (fun h11 => ?_)
      refine PW.iload_n q_134_8 rfl ?_
      refine PW.cI q_134_9 (by decide) fun c12 hc12 => ?_
      refine PW.jc_lt q_134_10 rfl (fun h13 => ?_) (fun h13 => ?_)
      · skip
        refine PW.cI q_134_19 (by decide) fun c14 hc14 => ?_
        refine PW.rI q_134_20 rfl (by decide) (by decide) ?_
        exact hK c14 M I F
      · skip
        refine PW.iload_n q_134_13 rfl ?_
        refine PW.cB q_134_14 (by decide) fun c15 hc15 => ?_
        refine PW.jc_le q_134_16 rfl (fun h16 => ?_) (fun h16 => ?_)
        · skip
          refine PW.cI q_134_21 (by decide) fun c17 hc17 => ?_
          refine PW.istore q_134_22 (by decide) ?_
          refine PW.cI q_134_24 (by decide) fun c18 hc18 => ?_
          refine PW.istore q_134_25 (by decide) ?_
          have L134_27_19 : ∀ (n : Nat) (ML134_27_19 : pM) (v20 v21 : Int32), Iv (gTT) ML134_27_19 → Fr [5, 7, 9, 10, 11, 12, 13] M ML134_27_19 → 0 ≤ v21.toInt → v21.toInt ≤ 30 → (30 - v21.toInt).toNat = n → PW G false 6 134 (p_mc 134) (p_msl 134) Kr 27 [(0, .ref 0), (1, .int a1), (2, .int a2), (3, .int a3), (4, .int v20), (5, .int v21)] [] 311 ML134_27_19 0 0 := by
            intro n
            induction n using Nat.strongRecOn with
            | ind n ih_L134_27_19 =>
            intro ML134_27_19 v20 v21 IML134_27_19 FML134_27_19 hbL134_27_190 hbL134_27_191 hmL134_27_19
            refine PW.iload q_134_27 rfl ?_
            refine PW.iload_n q_134_29 rfl ?_
            refine PW.jc_ge q_134_30 rfl (fun h22 => ?_) (fun h22 => ?_)
            · skip
              refine PW.iload q_134_94 rfl ?_
              refine PW.rI q_134_96 rfl (by decide) (by decide) ?_
              exact hK v20 ML134_27_19 IML134_27_19 FML134_27_19
            · skip
              refine PW.aload_n q_134_33 rfl ?_
              refine PW.cV (as := []) (rest := []) q_134_34 t_mv_134_140 kd_0 IML134_27_19.1 (by decide) rfl (by decide) rfl rfl (Nat.le_of_ble_eq_true rfl) (Nat.le_of_ble_eq_true rfl) (by decide) (by decide) ?_
              refine PW.up (by decide) (c_X11_foreseen G _ ML134_27_19 IML134_27_19  fun M23 IM23 GM23 => ?_)
              have FM23 := Fr.trans FML134_27_19 GM23 (rfl)
              refine PW.astore q_134_37 (by decide) ?_
              refine PW.aload q_134_39 rfl ?_
              refine PW.aload_n q_134_41 rfl ?_
              refine PW.gR 3 q_134_42 (Or.inl t_ft_134_19) gF_0_1 kd_0 IM23.1 (by decide) rfl ?_
              refine PW.gR 4 q_134_45 (Or.inr t_fN_134_94) gF_3_0 kd_3 IM23.1 (by decide) rfl ?_
              refine PW.cB q_134_48 (by decide) fun c24 hc24 => ?_
              refine PW.iload_n q_134_50 rfl ?_
              refine PW.iload q_134_51 rfl ?_
              refine PW.addH q_134_53 fun x25 => ?_
              refine PW.cV (as := [_, _, _]) (rest := []) q_134_54 t_mv_134_304 kd_275 IM23.1 (by decide) rfl (by decide) rfl rfl (Nat.le_of_ble_eq_true rfl) (Nat.le_of_ble_eq_true rfl) (by decide) (by decide) ?_
              refine PW.up (by decide) (c_X5_passDrawn G _ M23 IM23 275 kd_275 4 kd_4 c24 x25 (by omega) fun M26 IM26 GM26 => ?_)
              have FM26 := Fr.trans FM23 GM26 (rfl)
              refine PW.aload q_134_57 rfl ?_
              refine PW.gR 276 q_134_59 (Or.inr t_fN_134_176) gF_5_3 kd_275 IM26.1 (by decide) rfl ?_
              refine PW.iload_n q_134_62 rfl ?_
              refine PW.aRk q_134_63 rfl (by decide) (by decide) kd_276 IM26.1 (by decide) (by omega) (by omega) fun b27 hk_b27 e_b27 => ?_
              refine PW.gI q_134_64 (Or.inr t_fN_134_197) gF_7_5 hk_b27 IM26.1 (by decide) fun x28 fx28 hx28 kx28 => ?_
              clear hx28 kx28
              refine PW.aload_n q_134_67 rfl ?_
              refine PW.gR 3 q_134_68 (Or.inl t_ft_134_19) gF_0_1 kd_0 IM26.1 (by decide) rfl ?_
              refine PW.gR 15 q_134_71 (Or.inr t_fN_134_101) gF_3_1 kd_3 IM26.1 (by decide) rfl ?_
              refine PW.gR 16 q_134_74 (Or.inr t_fN_134_176) gF_5_3 kd_15 IM26.1 (by decide) rfl ?_
              refine PW.iload_n q_134_77 rfl ?_
              refine PW.aRk q_134_78 rfl (by decide) (by decide) kd_16 IM26.1 (by decide) (by omega) (by omega) fun b29 hk_b29 e_b29 => ?_
              refine PW.gI q_134_79 (Or.inr t_fN_134_197) gF_7_5 hk_b29 IM26.1 (by decide) fun x30 fx30 hx30 kx30 => ?_
              clear hx30 kx30
              have J88_32 : ∀ (MJ88_32 : pM) (v33 : Int32), Iv (gTT) MJ88_32 → Fr [5, 7, 9, 10, 11, 12, 13] M MJ88_32 → o_f (MJ88_32 b27) 5 = .int x28 → o_f (MJ88_32 b29) 5 = .int x30 → PW G false 6 134 (p_mc 134) (p_msl 134) Kr 88 [(0, .ref 0), (1, .int a1), (2, .int a2), (3, .int a3), (4, .int v33), (5, .int v21), (6, .ref 275)] [] 311 MJ88_32 0 0 := by
                intro MJ88_32 v33 IMJ88_32 FMJ88_32 hbJ88_320 hbJ88_321
                refine PW.incN q_134_88 rfl (by decide) (by decide) (by omega) (by omega) fun x34 hx34 => ?_
                refine PW.goto q_134_91 rfl ?_
                refine PW.lvS (lk1 rfl (lk1 rfl (lk1 rfl (lk1 rfl (lk1 rfl (lk1 rfl lk0)))))) (ih_L134_27_19 _ ?_ MJ88_32 v33 x34 IMJ88_32 FMJ88_32 (by omega) (by omega) rfl)
                omega
              refine PW.jc_le q_134_82 rfl (fun h31 => ?_) (fun h31 => ?_)
              · skip
                exact PW.lvS (lk1 rfl (lk1 rfl (lk1 rfl (lk1 rfl (lk1 rfl (lk1 rfl (lk1 rfl lk0))))))) (J88_32 M26 v20 IM26 FM26 fx28 fx30)
              · skip
                refine PW.incH q_134_85 rfl (by decide) fun x35 => ?_
                exact PW.lvS (lk1 rfl (lk1 rfl (lk1 rfl (lk1 rfl (lk1 rfl (lk1 rfl (lk1 rfl lk0))))))) (J88_32 M26 x35 IM26 FM26 fx28 fx30)
          exact PW.lvS (lk1 rfl (lk1 rfl (lk1 rfl (lk1 rfl (lk1 rfl (lk1 rfl lk0)))))) (L134_27_19 _ M c17 c18 I F (by omega) (by omega) rfl)
        · skip
          refine PW.cI q_134_19 (by decide) fun c36 hc36 => ?_
          refine PW.rI q_134_20 rfl (by decide) (by decide) ?_
          exact hK c36 M I F
theorem c_X11_standingBy (G : pG) (Kr : pK) (M : pM) (I : Iv gTT M) (k1 : Nat) (hk_k1 : g_kd k1 = 5) (a2 : Int32) (a3 : Int32) (hK : ∀ (x : Int32) (M1 : pM), Iv gTT M1 → Fr [] M M1 → Kr.1 (some (.int x)) 311 M1) : PW G false 0 150 (p_mc 150) (p_msl 150) Kr 0 (lv_args 0 [.ref 0, .ref k1, .int a2, .int a3]) [] 311 M 0 0 := by
  have F : Fr [] M M := Fr.refl
  refine PW.aload_n q_150_0 rfl ?_
  refine PW.gR 3 q_150_1 (Or.inl t_ft_150_19) gF_0_1 kd_0 I.1 (by decide) rfl ?_
  refine PW.gR 15 q_150_4 (Or.inr t_fN_150_101) gF_3_1 kd_3 I.1 (by decide) rfl ?_
  refine PW.gI q_150_7 (Or.inr t_fN_150_230) gF_5_0 kd_15 I.1 (by decide) fun x1 fx1 hx1 kx1 => ?_
  refine PW.iload_n q_150_10 rfl ?_
  refine PW.addH q_150_11 fun x2 => ?_
  refine PW.cS q_150_12 (by decide) fun c3 hc3 => ?_
  refine PW.jc_le q_150_15 rfl (fun h4 => ?_) (fun h4 => ?_)
  · skip
    refine PW.cI q_150_20 (by decide) fun c5 hc5 => ?_
    refine PW.istore q_150_21 (by decide) ?_
    refine PW.cI q_150_23 (by decide) fun c6 hc6 => ?_
    refine PW.istore q_150_24 (by decide) ?_
    have L150_26_7 : ∀ (n : Nat) (ML150_26_7 : pM) (v8 v9 : Int32), Iv (gTT) ML150_26_7 → Fr [] M ML150_26_7 → 0 ≤ v9.toInt → v9.toInt ≤ 6 → (6 - v9.toInt).toNat = n → PW G false 0 150 (p_mc 150) (p_msl 150) Kr 26 [(0, .ref 0), (1, .ref k1), (2, .int a2), (3, .int a3), (4, .int v8), (5, .int v9)] [] 311 ML150_26_7 0 0 := by
      intro n
      induction n using Nat.strongRecOn with
      | ind n ih_L150_26_7 =>
      intro ML150_26_7 v8 v9 IML150_26_7 FML150_26_7 hbL150_26_70 hbL150_26_71 hmL150_26_7
      refine PW.iload q_150_26 rfl ?_
      refine PW.aload_n q_150_28 rfl ?_
      refine PW.gR 3 q_150_29 (Or.inl t_ft_150_19) gF_0_1 kd_0 IML150_26_7.1 (by decide) rfl ?_
      refine PW.gR 4 q_150_32 (Or.inr t_fN_150_94) gF_3_0 kd_3 IML150_26_7.1 (by decide) rfl ?_
      refine PW.gI q_150_35 (Or.inr t_fN_150_136) gF_4_6 kd_4 IML150_26_7.1 (by decide) fun x10 fx10 hx10 kx10 => ?_
      refine PW.jc_ge q_150_38 rfl (fun h11 => ?_) (fun h11 => ?_)
      · skip
        refine PW.iload q_150_72 rfl ?_
        refine PW.rI q_150_74 rfl (by decide) (by decide) ?_
        exact hK v8 ML150_26_7 IML150_26_7 FML150_26_7
      · skip
        refine PW.aload_n q_150_41 rfl ?_
        refine PW.gRk q_150_42 (Or.inr t_fN_150_176) gF_5_3 hk_k1 IML150_26_7.1 (by decide) fun b12 hk_b12 e_b12 => ?_
        refine PW.iload q_150_45 rfl ?_
        refine PW.aRk q_150_47 rfl (by decide) (by decide) hk_b12 IML150_26_7.1 (by decide) (by omega) (by omega) fun b13 hk_b13 e_b13 => ?_
        refine PW.gI q_150_48 (Or.inr t_fN_150_179) gF_7_0 hk_b13 IML150_26_7.1 (by decide) fun x14 fx14 hx14 kx14 => ?_
        clear hx14 kx14
        refine PW.cI q_150_51 (by decide) fun c15 hc15 => ?_
        refine PW.divH q_150_52 (by omega) fun x16 => ?_
        refine PW.iload_n q_150_53 rfl ?_
        have J66_18 : ∀ (MJ66_18 : pM) (v19 : Int32), Iv (gTT) MJ66_18 → Fr [] M MJ66_18 → o_f (MJ66_18 4) 6 = .int x10 → o_f (MJ66_18 b13) 0 = .int x14 → PW G false 0 150 (p_mc 150) (p_msl 150) Kr 66 [(0, .ref 0), (1, .ref k1), (2, .int a2), (3, .int a3), (4, .int v19), (5, .int v9)] [] 311 MJ66_18 0 0 := by
          intro MJ66_18 v19 IMJ66_18 FMJ66_18 hbJ66_180 hbJ66_181
          refine PW.incN q_150_66 rfl (by decide) (by decide) (by omega) (by omega) fun x20 hx20 => ?_
          refine PW.goto q_150_69 rfl ?_
          refine PW.lvS (lk1 rfl (lk1 rfl (lk1 rfl (lk1 rfl (lk1 rfl (lk1 rfl lk0)))))) (ih_L150_26_7 _ ?_ MJ66_18 v19 x20 IMJ66_18 FMJ66_18 (by omega) (by omega) rfl)
          omega
        refine PW.jc_ne q_150_54 rfl (fun h17 => ?_) (fun h17 => ?_)
        · skip
          exact PW.lvS (lk1 rfl (lk1 rfl (lk1 rfl (lk1 rfl (lk1 rfl (lk1 rfl lk0)))))) (J66_18 ML150_26_7 v8 IML150_26_7 FML150_26_7 fx10 fx14)
        · skip
          refine PW.iload q_150_57 rfl ?_
          refine PW.cI q_150_59 (by decide) fun c21 hc21 => ?_
          refine PW.iload q_150_60 rfl ?_
          refine PW.shlH q_150_62 fun x22 => ?_
          refine PW.orH q_150_63 fun x23 => ?_
          refine PW.istore q_150_64 (by decide) ?_
          exact PW.lvS (lk1 rfl (lk1 rfl (lk1 rfl (lk1 rfl (lk1 rfl (lk1 rfl lk0)))))) (J66_18 ML150_26_7 x23 IML150_26_7 FML150_26_7 fx10 fx14)
    exact PW.lvS (lk1 rfl (lk1 rfl (lk1 rfl (lk1 rfl (lk1 rfl (lk1 rfl lk0)))))) (L150_26_7 _ M c5 c6 I F (by omega) (by omega) rfl)
  · skip
    refine PW.cI q_150_18 (by decide) fun c24 hc24 => ?_
    refine PW.rI q_150_19 rfl (by decide) (by decide) ?_
    exact hK c24 M I F
theorem c_X11_leftPrints (G : pG) (Kr : pK) (M : pM) (I : Iv gTT M)  (hK : ∀ (x : Int32) (M1 : pM), Iv gTT M1 → Fr [5, 7, 9, 10, 11, 12, 13] M M1 → Kr.1 (some (.int x)) 311 M1) : PW G false 5 149 (p_mc 149) (p_msl 149) Kr 0 (lv_args 0 [.ref 0]) [] 311 M 0 0 := by
  have F : Fr [5, 7, 9, 10, 11, 12, 13] M M := Fr.refl
  refine PW.aload_n q_149_0 rfl ?_
  refine PW.gR 1 q_149_1 (Or.inl t_ft_149_10) gF_0_0 kd_0 I.1 (by decide) rfl ?_
  refine PW.gI q_149_4 (Or.inr t_fN_149_73) gF_1_1 kd_1 I.1 (by decide) fun x1 fx1 hx1 kx1 => ?_
  refine PW.cI q_149_7 (by decide) fun c2 hc2 => ?_
  refine PW.divH q_149_8 (by omega) fun x3 => ?_
  refine PW.istore_n q_149_9 (by decide) ?_
  refine PW.aload_n q_149_10 rfl ?_
  refine PW.gR 1 q_149_11 (Or.inl t_ft_149_10) gF_0_0 kd_0 I.1 (by decide) rfl ?_
  refine PW.gE q_149_14 (Or.inr t_fN_149_73) gF_1_1 kd_1 I.1 (by decide) fx1 ?_
  refine PW.cI q_149_17 (by decide) fun c4 hc4 => ?_
  refine PW.remP q_149_18 (by omega) (by omega) fun x5 hx5 kx5 ex5 => ?_
  clear ex5
  refine PW.jz_ne q_149_19 rfl (fun h6 => ?_) (fun h6 => ?_)
  · skip
    refine PW.cI q_149_33 (by decide) fun c7 hc7 => ?_
    refine PW.rI q_149_34 rfl (by decide) (by decide) ?_
    exact hK c7 M I F
  · skip
    refine PW.iload_n q_149_22 rfl ?_
    refine PW.cI q_149_23 (by decide) fun c8 hc8 => ?_
    refine PW.jc_lt q_149_24 rfl (fun h9 => ?_) (fun h9 => ?_)
    · skip
      refine PW.cI q_149_33 (by decide) fun c10 hc10 => ?_
      refine PW.rI q_149_34 rfl (by decide) (by decide) ?_
      exact hK c10 M I F
    · skip
      refine PW.iload_n q_149_27 rfl ?_
      refine PW.cB q_149_28 (by decide) fun c11 hc11 => ?_
      refine PW.jc_le q_149_30 rfl (fun h12 => ?_) (fun h12 => ?_)
      · skip
        refine PW.cI q_149_35 (by decide) fun c13 hc13 => ?_
        refine PW.istore_n q_149_36 (by decide) ?_
        refine PW.cI q_149_37 (by decide) fun c14 hc14 => ?_
        refine PW.istore_n q_149_38 (by decide) ?_
        have L149_39_15 : ∀ (n : Nat) (ML149_39_15 : pM) (v16 v17 : Int32), Iv (gTT) ML149_39_15 → Fr [5, 7, 9, 10, 11, 12, 13] M ML149_39_15 → 0 ≤ v16.toInt → v16.toInt ≤ 255 → 0 ≤ v17.toInt → v17.toInt ≤ 10 → (10 - v17.toInt).toNat = n → PW G false 5 149 (p_mc 149) (p_msl 149) Kr 39 [(0, .ref 0), (1, .int x3), (2, .int v16), (3, .int v17)] [] 311 ML149_39_15 0 0 := by
          intro n
          induction n using Nat.strongRecOn with
          | ind n ih_L149_39_15 =>
          intro ML149_39_15 v16 v17 IML149_39_15 FML149_39_15 hbL149_39_150 hbL149_39_151 hbL149_39_152 hbL149_39_153 hmL149_39_15
          refine PW.iload_n q_149_39 rfl ?_
          refine PW.iload_n q_149_40 rfl ?_
          refine PW.jc_ge q_149_41 rfl (fun h18 => ?_) (fun h18 => ?_)
          · skip
            refine PW.cI q_149_65 (by decide) fun c19 hc19 => ?_
            refine PW.aload_n q_149_66 rfl ?_
            refine PW.gR 3 q_149_67 (Or.inl t_ft_149_19) gF_0_1 kd_0 IML149_39_15.1 (by decide) rfl ?_
            refine PW.gR 4 q_149_70 (Or.inr t_fN_149_94) gF_3_0 kd_3 IML149_39_15.1 (by decide) rfl ?_
            refine PW.gI q_149_73 (Or.inr t_fN_149_136) gF_4_6 kd_4 IML149_39_15.1 (by decide) fun x20 fx20 hx20 kx20 => ?_
            refine PW.shlH q_149_76 fun x21 => ?_
            refine PW.cI q_149_77 (by decide) fun c22 hc22 => ?_
            refine PW.subH q_149_78 fun x23 => ?_
            refine PW.istore_n q_149_79 (by decide) ?_
            refine PW.aload_n q_149_80 rfl ?_
            refine PW.cV (as := []) (rest := []) q_149_81 t_mv_149_140 kd_0 IML149_39_15.1 (by decide) rfl (by decide) rfl rfl (Nat.le_of_ble_eq_true rfl) (Nat.le_of_ble_eq_true rfl) (by decide) (by decide) ?_
            refine PW.up (by decide) (c_X11_foreseen G _ ML149_39_15 IML149_39_15  fun M24 IM24 GM24 => ?_)
            have FM24 := Fr.trans FML149_39_15 GM24 (rfl)
            refine PW.astore q_149_84 (by decide) ?_
            refine PW.cI q_149_86 (by decide) fun c25 hc25 => ?_
            refine PW.istore q_149_87 (by decide) ?_
            have L149_89_26 : ∀ (n : Nat) (ML149_89_26 : pM) (v27 v28 : Int32), Iv (gTT) ML149_89_26 → Fr [5, 7, 9, 10, 11, 12, 13] M ML149_89_26 → 0 ≤ v28.toInt → v28.toInt ≤ 256 → (256 - v28.toInt).toNat = n → PW G false 5 149 (p_mc 149) (p_msl 149) Kr 89 [(0, .ref 0), (1, .int x3), (2, .int v16), (3, .int v27), (4, .ref 275), (5, .int v28)] [] 311 ML149_89_26 0 0 := by
              intro n
              induction n using Nat.strongRecOn with
              | ind n ih_L149_89_26 =>
              intro ML149_89_26 v27 v28 IML149_89_26 FML149_89_26 hbL149_89_260 hbL149_89_261 hmL149_89_26
              refine PW.iload q_149_89 rfl ?_
              refine PW.iload_n q_149_91 rfl ?_
              refine PW.jc_gt q_149_92 rfl (fun h29 => ?_) (fun h29 => ?_)
              · skip
                refine PW.iload_n q_149_169 rfl ?_
                refine PW.rI q_149_170 rfl (by decide) (by decide) ?_
                exact hK v27 ML149_89_26 IML149_89_26 FML149_89_26
              · skip
                refine PW.cI q_149_95 (by decide) fun c30 hc30 => ?_
                refine PW.istore q_149_96 (by decide) ?_
                have L149_98_31 : ∀ (n : Nat) (ML149_98_31 : pM) (v32 v33 : Int32), Iv (gTT) ML149_98_31 → Fr [5, 7, 9, 10, 11, 12, 13] M ML149_98_31 → 0 ≤ v33.toInt → v33.toInt ≤ 10 → (10 - v33.toInt).toNat = n → PW G false 5 149 (p_mc 149) (p_msl 149) Kr 98 [(0, .ref 0), (1, .int x3), (2, .int v16), (3, .int v32), (4, .ref 275), (5, .int v28), (6, .int v33)] [] 311 ML149_98_31 0 0 := by
                  intro n
                  induction n using Nat.strongRecOn with
                  | ind n ih_L149_98_31 =>
                  intro ML149_98_31 v32 v33 IML149_98_31 FML149_98_31 hbL149_98_310 hbL149_98_311 hmL149_98_31
                  refine PW.iload q_149_98 rfl ?_
                  refine PW.iload_n q_149_100 rfl ?_
                  refine PW.jc_ge q_149_101 rfl (fun h34 => ?_) (fun h34 => ?_)
                  · skip
                    refine PW.aload q_149_150 rfl ?_
                    refine PW.aload_n q_149_152 rfl ?_
                    refine PW.gR 3 q_149_153 (Or.inl t_ft_149_19) gF_0_1 kd_0 IML149_98_31.1 (by decide) rfl ?_
                    refine PW.gR 4 q_149_156 (Or.inr t_fN_149_94) gF_3_0 kd_3 IML149_98_31.1 (by decide) rfl ?_
                    refine PW.cV (as := [_]) (rest := []) q_149_159 t_mv_149_317 kd_275 IML149_98_31.1 (by decide) rfl (by decide) rfl rfl (Nat.le_of_ble_eq_true rfl) (Nat.le_of_ble_eq_true rfl) (by decide) (by decide) ?_
                    refine PW.up (by decide) (c_X5_pass G _ ML149_98_31 IML149_98_31 275 kd_275 4 kd_4 fun x36 M35 IM35 GM35 hx36 kx36 => ?_)
                    have FM35 := Fr.trans FML149_98_31 GM35 (rfl)
                    refine PW.pop q_149_162 rfl ?_
                    refine PW.incN q_149_163 rfl (by decide) (by decide) (by omega) (by omega) fun x37 hx37 => ?_
                    refine PW.goto q_149_166 rfl ?_
                    refine PW.lvS (lk1 rfl (lk1 rfl (lk1 rfl (lk1 rfl (lk1 rfl (lk1 rfl lk0)))))) (ih_L149_89_26 _ ?_ M35 v32 x37 IM35 FM35 (by omega) (by omega) rfl)
                    omega
                  · skip
                    refine PW.aload_n q_149_104 rfl ?_
                    refine PW.gR 1 q_149_105 (Or.inl t_ft_149_10) gF_0_0 kd_0 IML149_98_31.1 (by decide) rfl ?_
                    refine PW.cI q_149_108 (by decide) fun c38 hc38 => ?_
                    refine PW.iload q_149_109 rfl ?_
                    refine PW.mulN q_149_111 (2) (by omega) v33 (fun h => n_eq.mpr (by omega)) (fun h => n_eq.mpr (by omega)) (by omega) (by omega) fun x39 hx39 => ?_
                    refine PW.cV (as := [_]) (rest := []) q_149_112 t_mv_149_383 kd_1 IML149_98_31.1 (by decide) rfl (by decide) rfl rfl (Nat.le_of_ble_eq_true rfl) (Nat.le_of_ble_eq_true rfl) (by decide) (by decide) ?_
                    refine PW.up (by decide) (c_X7_at (gTT) (Stab0) G _ ML149_98_31 IML149_98_31 x39 fun x41 M40 IM40 GM40 hx41 kx41 => ?_)
                    have FM40 := Fr.trans FML149_98_31 GM40 (rfl)
                    refine PW.iload q_149_115 rfl ?_
                    have J144_43 : ∀ (MJ144_43 : pM) (v44 : Int32), Iv (gTT) MJ144_43 → Fr [5, 7, 9, 10, 11, 12, 13] M MJ144_43 → PW G false 5 149 (p_mc 149) (p_msl 149) Kr 144 [(0, .ref 0), (1, .int x3), (2, .int v16), (3, .int v44), (4, .ref 275), (5, .int v28), (6, .int v33)] [] 311 MJ144_43 0 0 := by
                      intro MJ144_43 v44 IMJ144_43 FMJ144_43 
                      refine PW.incN q_149_144 rfl (by decide) (by decide) (by omega) (by omega) fun x45 hx45 => ?_
                      refine PW.goto q_149_147 rfl ?_
                      refine PW.lvS (lk1 rfl (lk1 rfl (lk1 rfl (lk1 rfl (lk1 rfl (lk1 rfl (lk1 rfl lk0))))))) (ih_L149_98_31 _ ?_ MJ144_43 v44 x45 IMJ144_43 FMJ144_43 (by omega) (by omega) rfl)
                      omega
                    refine PW.jc_ne q_149_117 rfl (fun h42 => ?_) (fun h42 => ?_)
                    · skip
                      exact PW.lvS (lk1 rfl (lk1 rfl (lk1 rfl (lk1 rfl (lk1 rfl (lk1 rfl (lk1 rfl lk0))))))) (J144_43 M40 v32 IM40 FM40 )
                    · skip
                      refine PW.iload_n q_149_120 rfl ?_
                      refine PW.aload_n q_149_121 rfl ?_
                      refine PW.aload q_149_122 rfl ?_
                      refine PW.aload_n q_149_124 rfl ?_
                      refine PW.gR 1 q_149_125 (Or.inl t_ft_149_10) gF_0_0 kd_0 IM40.1 (by decide) rfl ?_
                      refine PW.cI q_149_128 (by decide) fun c46 hc46 => ?_
                      refine PW.iload q_149_129 rfl ?_
                      refine PW.mulN q_149_131 (2) (by omega) v33 (fun h => n_eq.mpr (by omega)) (fun h => n_eq.mpr (by omega)) (by omega) (by omega) fun x47 hx47 => ?_
                      refine PW.cI q_149_132 (by decide) fun c48 hc48 => ?_
                      refine PW.addN q_149_133 (by have := n_lo x47; have := n_hi x47; omega) (by have := n_lo x47; have := n_hi x47; omega) fun x49 hx49 => ?_
                      refine PW.cV (as := [_]) (rest := [_, _, _]) q_149_134 t_mv_149_383 kd_1 IM40.1 (by decide) rfl (by decide) rfl rfl (Nat.le_of_ble_eq_true rfl) (Nat.le_of_ble_eq_true rfl) (by decide) (by decide) ?_
                      refine PW.up (by decide) (c_X7_at (gTT) (Stab0) G _ M40 IM40 x49 fun x51 M50 IM50 GM50 hx51 kx51 => ?_)
                      have FM50 := Fr.trans FM40 GM50 (rfl)
                      refine PW.iload q_149_137 rfl ?_
                      refine PW.cV (as := [_, _, _]) (rest := [_]) q_149_139 t_mv_149_389 kd_0 IM50.1 (by decide) rfl (by decide) rfl rfl (Nat.le_of_ble_eq_true rfl) (Nat.le_of_ble_eq_true rfl) (by decide) (by decide) ?_
                      refine PW.up (by decide) (c_X11_standingBy G _ M50 IM50 275 kd_275 x51 v28 fun x53 M52 IM52 GM52 => ?_)
                      have FM52 := Fr.trans FM50 GM52 (rfl)
                      refine PW.andH q_149_142 fun x54 => ?_
                      refine PW.istore_n q_149_143 (by decide) ?_
                      exact PW.lvS (lk1 rfl (lk1 rfl (lk1 rfl (lk1 rfl (lk1 rfl (lk1 rfl (lk1 rfl lk0))))))) (J144_43 M52 x54 IM52 FM52 )
                exact PW.lvS (lk1 rfl (lk1 rfl (lk1 rfl (lk1 rfl (lk1 rfl (lk1 rfl (lk1 rfl lk0))))))) (L149_98_31 _ ML149_89_26 v27 c30 IML149_89_26 FML149_89_26 (by omega) (by omega) rfl)
            exact PW.lvS (lk1 rfl (lk1 rfl (lk1 rfl (lk1 rfl (lk1 rfl (lk1 rfl lk0)))))) (L149_89_26 _ M24 x23 c25 IM24 FM24 (by omega) (by omega) rfl)
          · skip
            refine PW.iload_n q_149_44 rfl ?_
            refine PW.aload_n q_149_45 rfl ?_
            refine PW.gR 1 q_149_46 (Or.inl t_ft_149_10) gF_0_0 kd_0 IML149_39_15.1 (by decide) rfl ?_
            refine PW.cI q_149_49 (by decide) fun c55 hc55 => ?_
            refine PW.iload_n q_149_50 rfl ?_
            refine PW.mulN q_149_51 (2) (by omega) v17 (fun h => n_eq.mpr (by omega)) (fun h => n_eq.mpr (by omega)) (by omega) (by omega) fun x56 hx56 => ?_
            refine PW.cV (as := [_]) (rest := [_]) q_149_52 t_mv_149_383 kd_1 IML149_39_15.1 (by decide) rfl (by decide) rfl rfl (Nat.le_of_ble_eq_true rfl) (Nat.le_of_ble_eq_true rfl) (by decide) (by decide) ?_
            refine PW.up (by decide) (c_X7_at (gTT) (Stab0) G _ ML149_39_15 IML149_39_15 x56 fun x58 M57 IM57 GM57 hx58 kx58 => ?_)
            have FM57 := Fr.trans FML149_39_15 GM57 (rfl)
            refine PW.maxN q_149_55 t_mj_149_386 (by decide) (Nat.le_of_ble_eq_true rfl) (by decide) (by decide) fun x59 hx59 kx59 lx59 => ?_
            refine PW.istore_n q_149_58 (by decide) ?_
            refine PW.incN q_149_59 rfl (by decide) (by decide) (by omega) (by omega) fun x60 hx60 => ?_
            refine PW.goto q_149_62 rfl ?_
            refine PW.lvS (lk1 rfl (lk1 rfl (lk1 rfl (lk1 rfl lk0)))) (ih_L149_39_15 _ ?_ M57 x59 x60 IM57 FM57 (by omega) (by omega) (by omega) (by omega) rfl)
            omega
        exact PW.lvS (lk1 rfl (lk1 rfl (lk1 rfl (lk1 rfl lk0)))) (L149_39_15 _ M c13 c14 I F (by omega) (by omega) (by omega) (by omega) rfl)
      · skip
        refine PW.cI q_149_33 (by decide) fun c61 hc61 => ?_
        refine PW.rI q_149_34 rfl (by decide) (by decide) ?_
        exact hK c61 M I F
theorem c_X11_prints (G : pG) (Kr : pK) (M : pM) (I : Iv gTT M)  (hK : ∀ (x : Int32) (M1 : pM), Iv gTT M1 → Fr [1, 5, 7, 9, 10, 11, 12, 13] M M1 → Kr.1 (some (.int x)) 311 M1) : PW G false 6 135 (p_mc 135) (p_msl 135) Kr 0 (lv_args 0 [.ref 0]) [] 311 M 0 0 := by
  have F : Fr [1, 5, 7, 9, 10, 11, 12, 13] M M := Fr.refl
  refine PW.aload_n q_135_0 rfl ?_
  refine PW.cV (as := []) (rest := []) q_135_1 t_mv_135_335 kd_0 I.1 (by decide) rfl (by decide) rfl rfl (Nat.le_of_ble_eq_true rfl) (Nat.le_of_ble_eq_true rfl) (by decide) (by decide) ?_
  refine PW.up (by decide) (c_X11_leftPrints G _ M I  fun x2 M1 IM1 GM1 => ?_)
  have FM1 := Fr.trans F GM1 (rfl)
  refine PW.istore_n q_135_4 (by decide) ?_
  refine PW.aload_n q_135_5 rfl ?_
  refine PW.gR 1 q_135_6 (Or.inl t_ft_135_10) gF_0_0 kd_0 IM1.1 (by decide) rfl ?_
  refine PW.cI q_135_9 (by decide) fun c3 hc3 => ?_
  refine PW.pI q_135_10 (Or.inr t_fN_135_73) gF_1_1 gP_1_1 kd_1 Stab0 IM1 (by decide) rfl (by omega) (by omega) fun M4 IM4 fM4 UM4 => ?_
  have FM4 := Fr.pu FM1 UM4.1 kd_1 (rfl : List.contains [1, 5, 7, 9, 10, 11, 12, 13] 1 = true)
  refine PW.iload_n q_135_13 rfl ?_
  refine PW.rI q_135_14 rfl (by decide) (by decide) ?_
  exact hK x2 M4 IM4 FM4
theorem c_X11_foreseenQuiet (G : pG) (Kr : pK) (M : pM) (I : Iv gTT M)  (hK : ∀ (M1 : pM), Iv gTT M1 → Fr [5, 7, 9, 10, 11, 12, 13] M M1 → Kr.1 (some (.ref 275)) 311 M1) : PW G false 5 156 (p_mc 156) (p_msl 156) Kr 0 (lv_args 0 [.ref 0]) [] 311 M 0 0 := by
  have F : Fr [5, 7, 9, 10, 11, 12, 13] M M := Fr.refl
  refine PW.aload_n q_156_0 rfl ?_
  refine PW.cV (as := []) (rest := []) q_156_1 t_mv_156_140 kd_0 I.1 (by decide) rfl (by decide) rfl rfl (Nat.le_of_ble_eq_true rfl) (Nat.le_of_ble_eq_true rfl) (by decide) (by decide) ?_
  refine PW.up (by decide) (c_X11_foreseen G _ M I  fun M1 IM1 GM1 => ?_)
  have FM1 := Fr.trans F GM1 (rfl)
  refine PW.astore_n q_156_4 (by decide) ?_
  refine PW.aload_n q_156_5 rfl ?_
  refine PW.cI q_156_6 (by decide) fun c2 hc2 => ?_
  refine PW.pI q_156_7 (Or.inr t_fN_156_233) gF_5_1 gP_5_1 kd_275 Stab0 IM1 (by decide) rfl (n_lo _) (n_hi _) fun M3 IM3 fM3 UM3 => ?_
  have FM3 := Fr.pu FM1 UM3.1 kd_275 (rfl : List.contains [5, 7, 9, 10, 11, 12, 13] 5 = true)
  refine PW.aload_n q_156_10 rfl ?_
  refine PW.cI q_156_11 (by decide) fun c4 hc4 => ?_
  refine PW.pI q_156_12 (Or.inr t_fN_156_236) gF_5_2 gP_5_2 kd_275 Stab0 IM3 (by decide) rfl (n_lo _) (n_hi _) fun M5 IM5 fM5 UM5 => ?_
  have FM5 := Fr.pu FM3 UM5.1 kd_275 (rfl : List.contains [5, 7, 9, 10, 11, 12, 13] 5 = true)
  refine PW.aload_n q_156_15 rfl ?_
  refine PW.aret q_156_16 rfl (by decide) (by decide) ?_
  exact hK M5 IM5 FM5
theorem c_X11_roundBits (G : pG) (Kr : pK) (M : pM) (I : Iv gTT M) (a1 : Int32) (hl_a1 : 0 ≤ a1.toInt) (hh_a1 : a1.toInt ≤ 1) (hK : ∀ (x : Int32) (M1 : pM), Iv gTT M1 → Fr [5, 7, 9, 10, 11, 12, 13] M M1 → Kr.1 (some (.int x)) 311 M1) : PW G false 6 158 (p_mc 158) (p_msl 158) Kr 0 (lv_args 0 [.ref 0, .int a1]) [] 311 M 0 0 := by
  have F : Fr [5, 7, 9, 10, 11, 12, 13] M M := Fr.refl
  refine PW.aload_n q_158_0 rfl ?_
  refine PW.cV (as := []) (rest := []) q_158_1 t_mv_158_399 kd_0 I.1 (by decide) rfl (by decide) rfl rfl (Nat.le_of_ble_eq_true rfl) (Nat.le_of_ble_eq_true rfl) (by decide) (by decide) ?_
  refine PW.up (by decide) (c_X11_foreseenQuiet G _ M I  fun M1 IM1 GM1 => ?_)
  have FM1 := Fr.trans F GM1 (rfl)
  refine PW.astore_n q_158_4 (by decide) ?_
  refine PW.aload_n q_158_5 rfl ?_
  refine PW.gR 283 q_158_6 (Or.inr t_fN_158_206) gF_5_4 kd_275 IM1.1 (by decide) rfl ?_
  refine PW.iload_n q_158_9 rfl ?_
  refine PW.aRk q_158_10 rfl (by decide) (by decide) kd_283 IM1.1 (by decide) (by omega) (by omega) fun b2 hk_b2 e_b2 => ?_
  refine PW.astore_n q_158_11 (by decide) ?_
  refine PW.cI q_158_12 (by decide) fun c3 hc3 => ?_
  refine PW.istore q_158_13 (by decide) ?_
  refine PW.cI q_158_15 (by decide) fun c4 hc4 => ?_
  refine PW.istore q_158_16 (by decide) ?_
  have L158_18_5 : ∀ (n : Nat) (ML158_18_5 : pM) (v6 v7 : Int32), Iv (gTT) ML158_18_5 → Fr [5, 7, 9, 10, 11, 12, 13] M ML158_18_5 → 0 ≤ v7.toInt → v7.toInt ≤ 18 → (18 - v7.toInt).toNat = n → PW G false 6 158 (p_mc 158) (p_msl 158) Kr 18 [(0, .ref 0), (1, .int a1), (2, .ref 275), (3, .ref b2), (4, .int v6), (5, .int v7)] [] 311 ML158_18_5 0 0 := by
    intro n
    induction n using Nat.strongRecOn with
    | ind n ih_L158_18_5 =>
    intro ML158_18_5 v6 v7 IML158_18_5 FML158_18_5 hbL158_18_50 hbL158_18_51 hmL158_18_5
    refine PW.iload q_158_18 rfl ?_
    refine PW.cB q_158_20 (by decide) fun c8 hc8 => ?_
    refine PW.jc_ge q_158_22 rfl (fun h9 => ?_) (fun h9 => ?_)
    · skip
      refine PW.iload q_158_88 rfl ?_
      refine PW.rI q_158_90 rfl (by decide) (by decide) ?_
      exact hK v6 ML158_18_5 IML158_18_5 FML158_18_5
    · skip
      refine PW.aload_n q_158_25 rfl ?_
      refine PW.aload_n q_158_26 rfl ?_
      refine PW.gR 3 q_158_27 (Or.inl t_ft_158_19) gF_0_1 kd_0 IML158_18_5.1 (by decide) rfl ?_
      refine PW.gR 4 q_158_30 (Or.inr t_fN_158_94) gF_3_0 kd_3 IML158_18_5.1 (by decide) rfl ?_
      refine PW.gI q_158_33 (Or.inr t_fN_158_136) gF_4_6 kd_4 IML158_18_5.1 (by decide) fun x10 fx10 hx10 kx10 => ?_
      refine PW.aload_n q_158_36 rfl ?_
      refine PW.aload_n q_158_37 rfl ?_
      refine PW.gR 3 q_158_38 (Or.inl t_ft_158_19) gF_0_1 kd_0 IML158_18_5.1 (by decide) rfl ?_
      refine PW.gR 4 q_158_41 (Or.inr t_fN_158_94) gF_3_0 kd_3 IML158_18_5.1 (by decide) rfl ?_
      refine PW.gR 13 q_158_44 (Or.inr t_fN_158_321) gF_4_16 kd_4 IML158_18_5.1 (by decide) rfl ?_
      refine PW.iload_n q_158_47 rfl ?_
      refine PW.aH q_158_48 gA_35 kd_13 IML158_18_5.1 (by decide) (by omega) (by omega) fun x11 fx11 => ?_
      refine PW.cS q_158_49 (by decide) fun c12 hc12 => ?_
      refine PW.iload q_158_52 rfl ?_
      refine PW.addN q_158_54 (by omega) (by omega) fun x13 hx13 => ?_
      refine PW.cV (as := [_, _, _, _]) (rest := []) q_158_55 t_mv_158_405 kd_275 IML158_18_5.1 (by decide) rfl (by decide) rfl rfl (Nat.le_of_ble_eq_true rfl) (Nat.le_of_ble_eq_true rfl) (by decide) (by decide) ?_
      refine PW.up (by decide) (c_X5_leap (gTT) (Stab0) G _ ML158_18_5 IML158_18_5 275 kd_275 x10 b2 hk_b2 x11 x13 (by omega) (by omega) fun x15 M14 IM14 GM14 => ?_)
      have FM14 := Fr.trans FML158_18_5 GM14 (rfl)
      refine PW.istore q_158_58 (by decide) ?_
      refine PW.iload q_158_60 rfl ?_
      refine PW.cB q_158_62 (by decide) fun c16 hc16 => ?_
      have J82_18 : ∀ (MJ82_18 : pM) (v19 : Int32), Iv (gTT) MJ82_18 → Fr [5, 7, 9, 10, 11, 12, 13] M MJ82_18 → o_f (MJ82_18 4) 6 = .int x10 → PW G false 6 158 (p_mc 158) (p_msl 158) Kr 82 [(0, .ref 0), (1, .int a1), (2, .ref 275), (3, .ref b2), (4, .int v19), (5, .int v7), (6, .int x15)] [] 311 MJ82_18 0 0 := by
        intro MJ82_18 v19 IMJ82_18 FMJ82_18 hbJ82_180
        refine PW.incN q_158_82 rfl (by decide) (by decide) (by omega) (by omega) fun x20 hx20 => ?_
        refine PW.goto q_158_85 rfl ?_
        refine PW.lvS (lk1 rfl (lk1 rfl (lk1 rfl (lk1 rfl (lk1 rfl (lk1 rfl lk0)))))) (ih_L158_18_5 _ ?_ MJ82_18 v19 x20 IMJ82_18 FMJ82_18 (by omega) (by omega) rfl)
        omega
      refine PW.jc_lt q_158_64 rfl (fun h17 => ?_) (fun h17 => ?_)
      · skip
        exact PW.lvS (lk1 rfl (lk1 rfl (lk1 rfl (lk1 rfl (lk1 rfl (lk1 rfl (lk1 rfl lk0))))))) (J82_18 M14 v6 IM14 FM14 ((congrArg (fun e => o_f e 6) (Fr.at GM14 kd_4 (by decide))).trans fx10))
      · skip
        refine PW.iload q_158_67 rfl ?_
        refine PW.cI q_158_69 (by decide) fun c21 hc21 => ?_
        refine PW.jc_eq q_158_70 rfl (fun h22 => ?_) (fun h22 => ?_)
        · skip
          exact PW.lvS (lk1 rfl (lk1 rfl (lk1 rfl (lk1 rfl (lk1 rfl (lk1 rfl (lk1 rfl lk0))))))) (J82_18 M14 v6 IM14 FM14 ((congrArg (fun e => o_f e 6) (Fr.at GM14 kd_4 (by decide))).trans fx10))
        · skip
          refine PW.iload q_158_73 rfl ?_
          refine PW.cI q_158_75 (by decide) fun c23 hc23 => ?_
          refine PW.iload q_158_76 rfl ?_
          refine PW.shlH q_158_78 fun x24 => ?_
          refine PW.orH q_158_79 fun x25 => ?_
          refine PW.istore q_158_80 (by decide) ?_
          exact PW.lvS (lk1 rfl (lk1 rfl (lk1 rfl (lk1 rfl (lk1 rfl (lk1 rfl (lk1 rfl lk0))))))) (J82_18 M14 x25 IM14 FM14 ((congrArg (fun e => o_f e 6) (Fr.at GM14 kd_4 (by decide))).trans fx10))
  exact PW.lvS (lk1 rfl (lk1 rfl (lk1 rfl (lk1 rfl (lk1 rfl (lk1 rfl lk0)))))) (L158_18_5 _ M1 c3 c4 IM1 FM1 (by omega) (by omega) rfl)
theorem c_X11_round (G : pG) (Kr : pK) (M : pM) (I : Iv gTT M) (a1 : Int32) (hK : ∀ (x : Int32) (M1 : pM), Iv gTT M1 → Fr [5, 7, 9, 10, 11, 12, 13] M M1 → Kr.1 (some (.int x)) 311 M1) : PW G false 7 141 (p_mc 141) (p_msl 141) Kr 0 (lv_args 0 [.ref 0, .int a1]) [] 311 M 0 0 := by
  have F : Fr [5, 7, 9, 10, 11, 12, 13] M M := Fr.refl
  refine PW.aload_n q_141_0 rfl ?_
  refine PW.iload_n q_141_1 rfl ?_
  refine PW.cV (as := [_]) (rest := []) q_141_2 t_mv_141_370 kd_0 I.1 (by decide) rfl (by decide) rfl rfl (Nat.le_of_ble_eq_true rfl) (Nat.le_of_ble_eq_true rfl) (by decide) (by decide) ?_
  refine PW.aload_n q_157_0 rfl ?_
  refine PW.iload_n q_157_1 rfl ?_
  refine PW.cV (as := [_]) (rest := []) q_157_2 t_mv_157_203 kd_0 I.1 (by decide) rfl (by decide) rfl rfl (Nat.le_of_ble_eq_true rfl) (Nat.le_of_ble_eq_true rfl) (by decide) (by decide) ?_
  refine PW.iload_n q_144_0 rfl ?_
  refine PW.jz_lt q_144_1 rfl (fun h1 => ?_) (fun h1 => ?_)
  · skip
    refine PW.cI q_144_22 (by decide) fun c2 hc2 => ?_
    refine PW.rZ q_144_23 rfl (by omega) (by omega) (by decide) (by decide) ?_
    refine PW.jz_eq q_157_5 rfl (fun h3 => ?_) (fun h3 => False.elim (by omega))
    refine PW.cI q_157_26 (by decide) fun c4 hc4 => ?_
    refine PW.rZ q_157_27 rfl (by omega) (by omega) (by decide) (by decide) ?_
    refine PW.jz_eq q_141_5 rfl (fun h5 => ?_) (fun h5 => False.elim (by omega))
    refine PW.cI q_141_19 (by decide) fun c6 hc6 => ?_
    refine PW.rI q_141_20 rfl (by decide) (by decide) ?_
    exact hK c6 M I F
  · skip
    refine PW.iload_n q_144_4 rfl ?_
    refine PW.aload_n q_144_5 rfl ?_
    refine PW.gR 3 q_144_6 (Or.inl t_ft_144_19) gF_0_1 kd_0 I.1 (by decide) rfl ?_
    refine PW.gR 4 q_144_9 (Or.inr t_fN_144_94) gF_3_0 kd_3 I.1 (by decide) rfl ?_
    refine PW.gI q_144_12 (Or.inr t_fN_144_249) gF_4_7 kd_4 I.1 (by decide) fun x7 fx7 hx7 kx7 => ?_
    refine PW.jc_ge q_144_15 rfl (fun h8 => ?_) (fun h8 => ?_)
    · skip
      refine PW.cI q_144_22 (by decide) fun c9 hc9 => ?_
      refine PW.rZ q_144_23 rfl (by omega) (by omega) (by decide) (by decide) ?_
      refine PW.jz_eq q_157_5 rfl (fun h10 => ?_) (fun h10 => False.elim (by omega))
      refine PW.cI q_157_26 (by decide) fun c11 hc11 => ?_
      refine PW.rZ q_157_27 rfl (by omega) (by omega) (by decide) (by decide) ?_
      refine PW.jz_eq q_141_5 rfl (fun h12 => ?_) (fun h12 => False.elim (by omega))
      refine PW.cI q_141_19 (by decide) fun c13 hc13 => ?_
      refine PW.rI q_141_20 rfl (by decide) (by decide) ?_
      exact hK c13 M I F
    · skip
      refine PW.cI q_144_18 (by decide) fun c14 hc14 => ?_
      refine PW.goto q_144_19 rfl ?_
      refine PW.rZ q_144_23 rfl (by omega) (by omega) (by decide) (by decide) ?_
      refine PW.jz_eq q_157_5 rfl (fun h15 => False.elim (by omega)) (fun h15 => ?_)
      refine PW.aload_n q_157_8 rfl ?_
      refine PW.gR 3 q_157_9 (Or.inl t_ft_157_19) gF_0_1 kd_0 I.1 (by decide) rfl ?_
      refine PW.gR 4 q_157_12 (Or.inr t_fN_157_94) gF_3_0 kd_3 I.1 (by decide) rfl ?_
      refine PW.gI q_157_15 (Or.inr t_fN_157_136) gF_4_6 kd_4 I.1 (by decide) fun x16 fx16 hx16 kx16 => ?_
      refine PW.cI q_157_18 (by decide) fun c17 hc17 => ?_
      refine PW.jc_le q_157_19 rfl (fun h18 => ?_) (fun h18 => ?_)
      · skip
        refine PW.cI q_157_26 (by decide) fun c19 hc19 => ?_
        refine PW.rZ q_157_27 rfl (by omega) (by omega) (by decide) (by decide) ?_
        refine PW.jz_eq q_141_5 rfl (fun h20 => ?_) (fun h20 => False.elim (by omega))
        refine PW.cI q_141_19 (by decide) fun c21 hc21 => ?_
        refine PW.rI q_141_20 rfl (by decide) (by decide) ?_
        exact hK c21 M I F
      · skip
        refine PW.cI q_157_22 (by decide) fun c22 hc22 => ?_
        refine PW.goto q_157_23 rfl ?_
        refine PW.rZ q_157_27 rfl (by omega) (by omega) (by decide) (by decide) ?_
        refine PW.jz_eq q_141_5 rfl (fun h23 => False.elim (by omega)) (fun h23 => ?_)
        refine PW.aload_n q_141_8 rfl ?_
        refine PW.iload_n q_141_9 rfl ?_
        refine PW.cV (as := [_]) (rest := []) q_141_10 t_mv_141_373 kd_0 I.1 (by decide) rfl (by decide) rfl rfl (Nat.le_of_ble_eq_true rfl) (Nat.le_of_ble_eq_true rfl) (by decide) (by decide) ?_
        refine PW.up (by decide) (c_X11_roundBits G _ M I a1 (by omega) (by omega) fun x25 M24 IM24 GM24 => ?_)
        have FM24 := Fr.trans F GM24 (rfl)
        refine PW.callS (as := [_]) (rest := []) q_141_13 t_ms_141_130 (by decide) rfl (Nat.le_of_ble_eq_true rfl) (Nat.le_of_ble_eq_true rfl) (by decide) (by decide) ?_
        refine PW.up (by decide) (c_J6_bitCount_0f7a4 (gTT) (Stab0) G _ M24 IM24 x25 fun x27 M26 IM26 GM26 => ?_)
        have FM26 := Fr.trans FM24 GM26 (rfl)
        refine PW.goto q_141_16 rfl ?_
        refine PW.rI q_141_20 rfl (by decide) (by decide) ?_
        exact hK x27 M26 IM26 FM26
theorem c_X11_circle (G : pG) (Kr : pK) (M : pM) (I : Iv gTT M) (a1 : Int32) (hK : ∀ (x : Int32) (M1 : pM), Iv gTT M1 → Fr [5, 7, 9, 10, 11, 12, 13] M M1 → Kr.1 (some (.int x)) 311 M1) : PW G false 7 142 (p_mc 142) (p_msl 142) Kr 0 (lv_args 0 [.ref 0, .int a1]) [] 311 M 0 0 := by
  have F : Fr [5, 7, 9, 10, 11, 12, 13] M M := Fr.refl
  refine PW.aload_n q_142_0 rfl ?_
  refine PW.iload_n q_142_1 rfl ?_
  refine PW.cV (as := [_]) (rest := []) q_142_2 t_mv_142_370 kd_0 I.1 (by decide) rfl (by decide) rfl rfl (Nat.le_of_ble_eq_true rfl) (Nat.le_of_ble_eq_true rfl) (by decide) (by decide) ?_
  refine PW.aload_n q_157_0 rfl ?_
  refine PW.iload_n q_157_1 rfl ?_
  refine PW.cV (as := [_]) (rest := []) q_157_2 t_mv_157_203 kd_0 I.1 (by decide) rfl (by decide) rfl rfl (Nat.le_of_ble_eq_true rfl) (Nat.le_of_ble_eq_true rfl) (by decide) (by decide) ?_
  refine PW.iload_n q_144_0 rfl ?_
  refine PW.jz_lt q_144_1 rfl (fun h1 => ?_) (fun h1 => ?_)
  · skip
    refine PW.cI q_144_22 (by decide) fun c2 hc2 => ?_
    refine PW.rZ q_144_23 rfl (by omega) (by omega) (by decide) (by decide) ?_
    refine PW.jz_eq q_157_5 rfl (fun h3 => ?_) (fun h3 => False.elim (by omega))
    refine PW.cI q_157_26 (by decide) fun c4 hc4 => ?_
    refine PW.rZ q_157_27 rfl (by omega) (by omega) (by decide) (by decide) ?_
    refine PW.jz_eq q_142_5 rfl (fun h5 => ?_) (fun h5 => False.elim (by omega))
    refine PW.cI q_142_16 (by decide) fun c6 hc6 => ?_
    refine PW.rI q_142_17 rfl (by decide) (by decide) ?_
    exact hK c6 M I F
  · skip
    refine PW.iload_n q_144_4 rfl ?_
    refine PW.aload_n q_144_5 rfl ?_
    refine PW.gR 3 q_144_6 (Or.inl t_ft_144_19) gF_0_1 kd_0 I.1 (by decide) rfl ?_
    refine PW.gR 4 q_144_9 (Or.inr t_fN_144_94) gF_3_0 kd_3 I.1 (by decide) rfl ?_
    refine PW.gI q_144_12 (Or.inr t_fN_144_249) gF_4_7 kd_4 I.1 (by decide) fun x7 fx7 hx7 kx7 => ?_
    refine PW.jc_ge q_144_15 rfl (fun h8 => ?_) (fun h8 => ?_)
    · skip
      refine PW.cI q_144_22 (by decide) fun c9 hc9 => ?_
      refine PW.rZ q_144_23 rfl (by omega) (by omega) (by decide) (by decide) ?_
      refine PW.jz_eq q_157_5 rfl (fun h10 => ?_) (fun h10 => False.elim (by omega))
      refine PW.cI q_157_26 (by decide) fun c11 hc11 => ?_
      refine PW.rZ q_157_27 rfl (by omega) (by omega) (by decide) (by decide) ?_
      refine PW.jz_eq q_142_5 rfl (fun h12 => ?_) (fun h12 => False.elim (by omega))
      refine PW.cI q_142_16 (by decide) fun c13 hc13 => ?_
      refine PW.rI q_142_17 rfl (by decide) (by decide) ?_
      exact hK c13 M I F
    · skip
      refine PW.cI q_144_18 (by decide) fun c14 hc14 => ?_
      refine PW.goto q_144_19 rfl ?_
      refine PW.rZ q_144_23 rfl (by omega) (by omega) (by decide) (by decide) ?_
      refine PW.jz_eq q_157_5 rfl (fun h15 => False.elim (by omega)) (fun h15 => ?_)
      refine PW.aload_n q_157_8 rfl ?_
      refine PW.gR 3 q_157_9 (Or.inl t_ft_157_19) gF_0_1 kd_0 I.1 (by decide) rfl ?_
      refine PW.gR 4 q_157_12 (Or.inr t_fN_157_94) gF_3_0 kd_3 I.1 (by decide) rfl ?_
      refine PW.gI q_157_15 (Or.inr t_fN_157_136) gF_4_6 kd_4 I.1 (by decide) fun x16 fx16 hx16 kx16 => ?_
      refine PW.cI q_157_18 (by decide) fun c17 hc17 => ?_
      refine PW.jc_le q_157_19 rfl (fun h18 => ?_) (fun h18 => ?_)
      · skip
        refine PW.cI q_157_26 (by decide) fun c19 hc19 => ?_
        refine PW.rZ q_157_27 rfl (by omega) (by omega) (by decide) (by decide) ?_
        refine PW.jz_eq q_142_5 rfl (fun h20 => ?_) (fun h20 => False.elim (by omega))
        refine PW.cI q_142_16 (by decide) fun c21 hc21 => ?_
        refine PW.rI q_142_17 rfl (by decide) (by decide) ?_
        exact hK c21 M I F
      · skip
        refine PW.cI q_157_22 (by decide) fun c22 hc22 => ?_
        refine PW.goto q_157_23 rfl ?_
        refine PW.rZ q_157_27 rfl (by omega) (by omega) (by decide) (by decide) ?_
        refine PW.jz_eq q_142_5 rfl (fun h23 => False.elim (by omega)) (fun h23 => ?_)
        refine PW.aload_n q_142_8 rfl ?_
        refine PW.iload_n q_142_9 rfl ?_
        refine PW.cV (as := [_]) (rest := []) q_142_10 t_mv_142_373 kd_0 I.1 (by decide) rfl (by decide) rfl rfl (Nat.le_of_ble_eq_true rfl) (Nat.le_of_ble_eq_true rfl) (by decide) (by decide) ?_
        refine PW.up (by decide) (c_X11_roundBits G _ M I a1 (by omega) (by omega) fun x25 M24 IM24 GM24 => ?_)
        have FM24 := Fr.trans F GM24 (rfl)
        refine PW.goto q_142_13 rfl ?_
        refine PW.rI q_142_17 rfl (by decide) (by decide) ?_
        exact hK x25 M24 IM24 FM24
