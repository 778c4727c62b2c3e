theorem q_33_0 : p_tb 33 0 = some (.aload_n 0, 1) := by decide +kernel
theorem q_33_1 : p_tb 33 1 = some (.iconst 0, 1) := by decide +kernel
theorem q_33_2 : p_tb 33 2 = some (.putfield 27, 3) := by decide +kernel
theorem q_33_5 : p_tb 33 5 = some (.aload_n 0, 1) := by decide +kernel
theorem q_33_6 : p_tb 33 6 = some (.iconst 0, 1) := by decide +kernel
theorem q_33_7 : p_tb 33 7 = some (.putfield 31, 3) := by decide +kernel
theorem q_33_10 : p_tb 33 10 = some (.return_, 1) := by decide +kernel
theorem t_ft_33_27 : p_f2 p_ft (p_mK 33) 27 = some (4, 0) := by decide +kernel
theorem t_ft_33_31 : p_f2 p_ft (p_mK 33) 31 = some (4, 1) := by decide +kernel
theorem q_41_0 : p_tb 41 0 = some (.aload_n 0, 1) := by decide +kernel
theorem q_41_1 : p_tb 41 1 = some (.getfield 31, 3) := by decide +kernel
theorem q_41_4 : p_tb 41 4 = some (.bipush 40, 2) := by decide +kernel
theorem q_41_6 : p_tb 41 6 = some (.if_icmp .ge 43, 3) := by decide +kernel
theorem q_41_9 : p_tb 41 9 = some (.aload_n 0, 1) := by decide +kernel
theorem q_41_10 : p_tb 41 10 = some (.getfield 13, 3) := by decide +kernel
theorem q_41_13 : p_tb 41 13 = some (.aload_n 0, 1) := by decide +kernel
theorem q_41_14 : p_tb 41 14 = some (.getfield 31, 3) := by decide +kernel
theorem q_41_17 : p_tb 41 17 = some (.aload_n 1, 1) := by decide +kernel
theorem q_41_18 : p_tb 41 18 = some (.aastore, 1) := by decide +kernel
theorem q_41_19 : p_tb 41 19 = some (.aload_n 0, 1) := by decide +kernel
theorem q_41_20 : p_tb 41 20 = some (.getfield 17, 3) := by decide +kernel
theorem q_41_23 : p_tb 41 23 = some (.aload_n 0, 1) := by decide +kernel
theorem q_41_24 : p_tb 41 24 = some (.getfield 31, 3) := by decide +kernel
theorem q_41_27 : p_tb 41 27 = some (.iload_n 2, 1) := by decide +kernel
theorem q_41_28 : p_tb 41 28 = some (.iastore, 1) := by decide +kernel
theorem q_41_29 : p_tb 41 29 = some (.aload_n 0, 1) := by decide +kernel
theorem q_41_30 : p_tb 41 30 = some (.getfield 21, 3) := by decide +kernel
theorem q_41_33 : p_tb 41 33 = some (.aload_n 0, 1) := by decide +kernel
theorem q_41_34 : p_tb 41 34 = some (.getfield 31, 3) := by decide +kernel
theorem q_41_37 : p_tb 41 37 = some (.iload_n 3, 1) := by decide +kernel
theorem q_41_38 : p_tb 41 38 = some (.iastore, 1) := by decide +kernel
theorem q_41_39 : p_tb 41 39 = some (.aload_n 0, 1) := by decide +kernel
theorem q_41_40 : p_tb 41 40 = some (.dup, 1) := by decide +kernel
theorem q_41_41 : p_tb 41 41 = some (.getfield 31, 3) := by decide +kernel
theorem q_41_44 : p_tb 41 44 = some (.iconst 1, 1) := by decide +kernel
theorem q_41_45 : p_tb 41 45 = some (.iadd, 1) := by decide +kernel
theorem q_41_46 : p_tb 41 46 = some (.putfield 31, 3) := by decide +kernel
theorem q_41_49 : p_tb 41 49 = some (.iconst 1, 1) := by decide +kernel
theorem q_41_50 : p_tb 41 50 = some (.ireturn, 1) := by decide +kernel
theorem t_ft_41_13 : p_f2 p_ft (p_mK 41) 13 = some (4, 2) := by decide +kernel
theorem t_ft_41_17 : p_f2 p_ft (p_mK 41) 17 = some (4, 3) := by decide +kernel
theorem t_ft_41_21 : p_f2 p_ft (p_mK 41) 21 = some (4, 4) := by decide +kernel
theorem t_ft_41_31 : p_f2 p_ft (p_mK 41) 31 = some (4, 1) := by decide +kernel
theorem gC_16_0_39 : gC 16 0 39 (-2147483648) 2147483647 := gC.of (by decide +kernel)
theorem gC_17_0_39 : gC 17 0 39 0 999 := gC.of (by decide +kernel)
theorem q_39_0 : p_tb 39 0 = some (.aload_n 0, 1) := by decide +kernel
theorem q_39_1 : p_tb 39 1 = some (.bipush 40, 2) := by decide +kernel
theorem q_39_3 : p_tb 39 3 = some (.invokevirtual 83, 3) := by decide +kernel
theorem q_39_6 : p_tb 39 6 = some (.ifCond .ne 93, 3) := by decide +kernel
theorem q_39_9 : p_tb 39 9 = some (.aload_n 0, 1) := by decide +kernel
theorem q_39_10 : p_tb 39 10 = some (.getstatic 80, 3) := by decide +kernel
theorem q_39_13 : p_tb 39 13 = some (.invokevirtual 96, 3) := by decide +kernel
theorem q_39_16 : p_tb 39 16 = some (.ifCond .ne 83, 3) := by decide +kernel
theorem q_39_19 : p_tb 39 19 = some (.aload_n 0, 1) := by decide +kernel
theorem q_39_20 : p_tb 39 20 = some (.getstatic 99, 3) := by decide +kernel
theorem q_39_23 : p_tb 39 23 = some (.invokevirtual 96, 3) := by decide +kernel
theorem q_39_26 : p_tb 39 26 = some (.ifCond .ne 73, 3) := by decide +kernel
theorem q_39_29 : p_tb 39 29 = some (.aload_n 0, 1) := by decide +kernel
theorem q_39_30 : p_tb 39 30 = some (.getstatic 102, 3) := by decide +kernel
theorem q_39_33 : p_tb 39 33 = some (.invokevirtual 96, 3) := by decide +kernel
theorem q_39_36 : p_tb 39 36 = some (.ifCond .ne 63, 3) := by decide +kernel
theorem q_39_39 : p_tb 39 39 = some (.aload_n 0, 1) := by decide +kernel
theorem q_39_40 : p_tb 39 40 = some (.getstatic 105, 3) := by decide +kernel
theorem q_39_43 : p_tb 39 43 = some (.invokevirtual 96, 3) := by decide +kernel
theorem q_39_46 : p_tb 39 46 = some (.ifCond .ne 53, 3) := by decide +kernel
theorem q_39_49 : p_tb 39 49 = some (.aload_n 0, 1) := by decide +kernel
theorem q_39_50 : p_tb 39 50 = some (.getstatic 108, 3) := by decide +kernel
theorem q_39_53 : p_tb 39 53 = some (.invokevirtual 96, 3) := by decide +kernel
theorem q_39_56 : p_tb 39 56 = some (.ifCond .ne 43, 3) := by decide +kernel
theorem q_39_59 : p_tb 39 59 = some (.aload_n 0, 1) := by decide +kernel
theorem q_39_60 : p_tb 39 60 = some (.getstatic 111, 3) := by decide +kernel
theorem q_39_63 : p_tb 39 63 = some (.invokevirtual 96, 3) := by decide +kernel
theorem q_39_66 : p_tb 39 66 = some (.ifCond .ne 33, 3) := by decide +kernel
theorem q_39_69 : p_tb 39 69 = some (.aload_n 0, 1) := by decide +kernel
theorem q_39_70 : p_tb 39 70 = some (.getstatic 114, 3) := by decide +kernel
theorem q_39_73 : p_tb 39 73 = some (.invokevirtual 96, 3) := by decide +kernel
theorem q_39_76 : p_tb 39 76 = some (.ifCond .ne 23, 3) := by decide +kernel
theorem q_39_79 : p_tb 39 79 = some (.aload_n 0, 1) := by decide +kernel
theorem q_39_80 : p_tb 39 80 = some (.getstatic 117, 3) := by decide +kernel
theorem q_39_83 : p_tb 39 83 = some (.invokevirtual 96, 3) := by decide +kernel
theorem q_39_86 : p_tb 39 86 = some (.ifCond .ne 13, 3) := by decide +kernel
theorem q_39_89 : p_tb 39 89 = some (.aload_n 0, 1) := by decide +kernel
theorem q_39_90 : p_tb 39 90 = some (.getstatic 120, 3) := by decide +kernel
theorem q_39_93 : p_tb 39 93 = some (.invokevirtual 96, 3) := by decide +kernel
theorem q_39_96 : p_tb 39 96 = some (.ifCond .eq 7, 3) := by decide +kernel
theorem q_39_99 : p_tb 39 99 = some (.iconst 1, 1) := by decide +kernel
theorem q_39_100 : p_tb 39 100 = some (.goto 4, 3) := by decide +kernel
theorem q_39_103 : p_tb 39 103 = some (.iconst 0, 1) := by decide +kernel
theorem q_39_104 : p_tb 39 104 = some (.ireturn, 1) := by decide +kernel
theorem t_mv_39_83 : p_f2 p_mv (p_mK 39) 83 = some 87 := by decide +kernel
theorem t_mv_39_96 : p_f2 p_mv (p_mK 39) 96 = some 86 := by decide +kernel
theorem t_st_39_102 : p_f2 p_st (p_mK 39) 102 = some 20 := by decide +kernel
theorem t_st_39_105 : p_f2 p_st (p_mK 39) 105 = some 21 := by decide +kernel
theorem t_st_39_108 : p_f2 p_st (p_mK 39) 108 = some 22 := by decide +kernel
theorem t_st_39_111 : p_f2 p_st (p_mK 39) 111 = some 24 := by decide +kernel
theorem t_st_39_114 : p_f2 p_st (p_mK 39) 114 = some 25 := by decide +kernel
theorem t_st_39_117 : p_f2 p_st (p_mK 39) 117 = some 26 := by decide +kernel
theorem t_st_39_120 : p_f2 p_st (p_mK 39) 120 = some 27 := by decide +kernel
theorem t_st_39_80 : p_f2 p_st (p_mK 39) 80 = some 19 := by decide +kernel
theorem t_st_39_99 : p_f2 p_st (p_mK 39) 99 = some 23 := by decide +kernel
theorem q_40_0 : p_tb 40 0 = some (.aload_n 1, 1) := by decide +kernel
theorem q_40_1 : p_tb 40 1 = some (.getfield 123, 3) := by decide +kernel
theorem q_40_4 : p_tb 40 4 = some (.astore_n 3, 1) := by decide +kernel
theorem q_40_5 : p_tb 40 5 = some (.aload_n 1, 1) := by decide +kernel
theorem q_40_6 : p_tb 40 6 = some (.invokevirtual 86, 3) := by decide +kernel
theorem q_40_9 : p_tb 40 9 = some (.aload_n 3, 1) := by decide +kernel
theorem q_40_10 : p_tb 40 10 = some (.getstatic 102, 3) := by decide +kernel
theorem q_40_13 : p_tb 40 13 = some (.if_acmp .eq 17, 3) := by decide +kernel
theorem q_40_16 : p_tb 40 16 = some (.aload_n 3, 1) := by decide +kernel
theorem q_40_17 : p_tb 40 17 = some (.getstatic 105, 3) := by decide +kernel
theorem q_40_20 : p_tb 40 20 = some (.if_acmp .eq 10, 3) := by decide +kernel
theorem q_40_23 : p_tb 40 23 = some (.aload_n 3, 1) := by decide +kernel
theorem q_40_24 : p_tb 40 24 = some (.getstatic 108, 3) := by decide +kernel
theorem q_40_27 : p_tb 40 27 = some (.if_acmp .ne 11, 3) := by decide +kernel
theorem q_40_30 : p_tb 40 30 = some (.aload_n 0, 1) := by decide +kernel
theorem q_40_31 : p_tb 40 31 = some (.aload_n 3, 1) := by decide +kernel
theorem q_40_32 : p_tb 40 32 = some (.iconst 0, 1) := by decide +kernel
theorem q_40_33 : p_tb 40 33 = some (.iconst 0, 1) := by decide +kernel
theorem q_40_34 : p_tb 40 34 = some (.invokevirtual 62, 3) := by decide +kernel
theorem q_40_37 : p_tb 40 37 = some (.ireturn, 1) := by decide +kernel
theorem q_40_38 : p_tb 40 38 = some (.aload_n 3, 1) := by decide +kernel
theorem q_40_39 : p_tb 40 39 = some (.getstatic 99, 3) := by decide +kernel
theorem q_40_42 : p_tb 40 42 = some (.if_acmp .ne 38, 3) := by decide +kernel
theorem q_40_45 : p_tb 40 45 = some (.aload_n 1, 1) := by decide +kernel
theorem q_40_46 : p_tb 40 46 = some (.aload_n 2, 1) := by decide +kernel
theorem q_40_47 : p_tb 40 47 = some (.getfield 126, 3) := by decide +kernel
theorem q_40_50 : p_tb 40 50 = some (.aload_n 2, 1) := by decide +kernel
theorem q_40_51 : p_tb 40 51 = some (.getfield 132, 3) := by decide +kernel
theorem q_40_54 : p_tb 40 54 = some (.invokevirtual 135, 3) := by decide +kernel
theorem q_40_57 : p_tb 40 57 = some (.istore 4, 2) := by decide +kernel
theorem q_40_59 : p_tb 40 59 = some (.iload 4, 2) := by decide +kernel
theorem q_40_61 : p_tb 40 61 = some (.iconst (-1), 1) := by decide +kernel
theorem q_40_62 : p_tb 40 62 = some (.if_icmp .ne 5, 3) := by decide +kernel
theorem q_40_65 : p_tb 40 65 = some (.iconst 0, 1) := by decide +kernel
theorem q_40_66 : p_tb 40 66 = some (.ireturn, 1) := by decide +kernel
theorem q_40_67 : p_tb 40 67 = some (.aload_n 1, 1) := by decide +kernel
theorem q_40_68 : p_tb 40 68 = some (.invokevirtual 86, 3) := by decide +kernel
theorem q_40_71 : p_tb 40 71 = some (.aload_n 0, 1) := by decide +kernel
theorem q_40_72 : p_tb 40 72 = some (.aload_n 3, 1) := by decide +kernel
theorem q_40_73 : p_tb 40 73 = some (.iconst 0, 1) := by decide +kernel
theorem q_40_74 : p_tb 40 74 = some (.iload 4, 2) := by decide +kernel
theorem q_40_76 : p_tb 40 76 = some (.invokevirtual 62, 3) := by decide +kernel
theorem q_40_79 : p_tb 40 79 = some (.ireturn, 1) := by decide +kernel
theorem q_40_80 : p_tb 40 80 = some (.aload_n 1, 1) := by decide +kernel
theorem q_40_81 : p_tb 40 81 = some (.bipush 60, 2) := by decide +kernel
theorem q_40_83 : p_tb 40 83 = some (.invokevirtual 83, 3) := by decide +kernel
theorem q_40_86 : p_tb 40 86 = some (.ifCond .ne 27, 3) := by decide +kernel
theorem q_40_89 : p_tb 40 89 = some (.aload_n 1, 1) := by decide +kernel
theorem q_40_90 : p_tb 40 90 = some (.bipush 61, 2) := by decide +kernel
theorem q_40_92 : p_tb 40 92 = some (.invokevirtual 83, 3) := by decide +kernel
theorem q_40_95 : p_tb 40 95 = some (.ifCond .ne 18, 3) := by decide +kernel
theorem q_40_98 : p_tb 40 98 = some (.aload_n 1, 1) := by decide +kernel
theorem q_40_99 : p_tb 40 99 = some (.bipush 62, 2) := by decide +kernel
theorem q_40_101 : p_tb 40 101 = some (.invokevirtual 83, 3) := by decide +kernel
theorem q_40_104 : p_tb 40 104 = some (.ifCond .ne 9, 3) := by decide +kernel
theorem q_40_107 : p_tb 40 107 = some (.aload_n 1, 1) := by decide +kernel
theorem q_40_108 : p_tb 40 108 = some (.iconst 1, 1) := by decide +kernel
theorem q_40_109 : p_tb 40 109 = some (.invokevirtual 76, 3) := by decide +kernel
theorem q_40_112 : p_tb 40 112 = some (.ireturn, 1) := by decide +kernel
theorem q_40_113 : p_tb 40 113 = some (.aload_n 1, 1) := by decide +kernel
theorem q_40_114 : p_tb 40 114 = some (.getfield 139, 3) := by decide +kernel
theorem q_40_117 : p_tb 40 117 = some (.istore 4, 2) := by decide +kernel
theorem q_40_119 : p_tb 40 119 = some (.aload_n 1, 1) := by decide +kernel
theorem q_40_120 : p_tb 40 120 = some (.invokevirtual 86, 3) := by decide +kernel
theorem q_40_123 : p_tb 40 123 = some (.aload_n 1, 1) := by decide +kernel
theorem q_40_124 : p_tb 40 124 = some (.iconst 0, 1) := by decide +kernel
theorem q_40_125 : p_tb 40 125 = some (.sipush 999, 3) := by decide +kernel
theorem q_40_128 : p_tb 40 128 = some (.invokevirtual 141, 3) := by decide +kernel
theorem q_40_131 : p_tb 40 131 = some (.istore 5, 2) := by decide +kernel
theorem q_40_133 : p_tb 40 133 = some (.iload 5, 2) := by decide +kernel
theorem q_40_135 : p_tb 40 135 = some (.iconst (-1), 1) := by decide +kernel
theorem q_40_136 : p_tb 40 136 = some (.if_icmp .eq 19, 3) := by decide +kernel
theorem q_40_139 : p_tb 40 139 = some (.aload_n 0, 1) := by decide +kernel
theorem q_40_140 : p_tb 40 140 = some (.aload_n 3, 1) := by decide +kernel
theorem q_40_141 : p_tb 40 141 = some (.iload 4, 2) := by decide +kernel
theorem q_40_143 : p_tb 40 143 = some (.iload 5, 2) := by decide +kernel
theorem q_40_145 : p_tb 40 145 = some (.invokevirtual 62, 3) := by decide +kernel
theorem q_40_148 : p_tb 40 148 = some (.ifCond .eq 7, 3) := by decide +kernel
theorem q_40_151 : p_tb 40 151 = some (.iconst 1, 1) := by decide +kernel
theorem q_40_152 : p_tb 40 152 = some (.goto 4, 3) := by decide +kernel
theorem q_40_155 : p_tb 40 155 = some (.iconst 0, 1) := by decide +kernel
theorem q_40_156 : p_tb 40 156 = some (.ireturn, 1) := by decide +kernel
theorem t_fN_40_123 : p_f2 p_fN (p_mK 40) 123 = some (7, 6) := by decide +kernel
theorem t_fN_40_126 : p_f2 p_fN (p_mK 40) 126 = some (3, 8) := by decide +kernel
theorem t_fN_40_132 : p_f2 p_fN (p_mK 40) 132 = some (3, 6) := by decide +kernel
theorem t_fN_40_139 : p_f2 p_fN (p_mK 40) 139 = some (7, 9) := by decide +kernel
theorem t_mv_40_135 : p_f2 p_mv (p_mK 40) 135 = some 91 := by decide +kernel
theorem t_mv_40_141 : p_f2 p_mv (p_mK 40) 141 = some 90 := by decide +kernel
theorem t_mv_40_62 : p_f2 p_mv (p_mK 40) 62 = some 41 := by decide +kernel
theorem t_mv_40_76 : p_f2 p_mv (p_mK 40) 76 = some 83 := by decide +kernel
theorem t_mv_40_83 : p_f2 p_mv (p_mK 40) 83 = some 87 := by decide +kernel
theorem t_mv_40_86 : p_f2 p_mv (p_mK 40) 86 = some 77 := by decide +kernel
theorem t_st_40_102 : p_f2 p_st (p_mK 40) 102 = some 20 := by decide +kernel
theorem t_st_40_105 : p_f2 p_st (p_mK 40) 105 = some 21 := by decide +kernel
theorem t_st_40_108 : p_f2 p_st (p_mK 40) 108 = some 22 := by decide +kernel
theorem t_st_40_99 : p_f2 p_st (p_mK 40) 99 = some 23 := by decide +kernel
theorem q_38_0 : p_tb 38 0 = some (.aload_n 1, 1) := by decide +kernel
theorem q_38_1 : p_tb 38 1 = some (.invokestatic 72, 3) := by decide +kernel
theorem q_38_4 : p_tb 38 4 = some (.ifCond .ne 9, 3) := by decide +kernel
theorem q_38_7 : p_tb 38 7 = some (.aload_n 1, 1) := by decide +kernel
theorem q_38_8 : p_tb 38 8 = some (.iconst 1, 1) := by decide +kernel
theorem q_38_9 : p_tb 38 9 = some (.invokevirtual 76, 3) := by decide +kernel
theorem q_38_12 : p_tb 38 12 = some (.ireturn, 1) := by decide +kernel
theorem q_38_13 : p_tb 38 13 = some (.aload_n 0, 1) := by decide +kernel
theorem q_38_14 : p_tb 38 14 = some (.getfield 27, 3) := by decide +kernel
theorem q_38_17 : p_tb 38 17 = some (.bipush 20, 2) := by decide +kernel
theorem q_38_19 : p_tb 38 19 = some (.if_icmp .ge 9, 3) := by decide +kernel
theorem q_38_22 : p_tb 38 22 = some (.iload_n 3, 1) := by decide +kernel
theorem q_38_23 : p_tb 38 23 = some (.bipush 8, 2) := by decide +kernel
theorem q_38_25 : p_tb 38 25 = some (.if_icmp .le 9, 3) := by decide +kernel
theorem q_38_28 : p_tb 38 28 = some (.aload_n 1, 1) := by decide +kernel
theorem q_38_29 : p_tb 38 29 = some (.iconst 4, 1) := by decide +kernel
theorem q_38_30 : p_tb 38 30 = some (.invokevirtual 76, 3) := by decide +kernel
theorem q_38_33 : p_tb 38 33 = some (.ireturn, 1) := by decide +kernel
theorem t_ft_38_27 : p_f2 p_ft (p_mK 38) 27 = some (4, 0) := by decide +kernel
theorem t_ms_38_72 : p_f2 p_ms (p_mK 38) 72 = some 39 := by decide +kernel
theorem t_mv_38_76 : p_f2 p_mv (p_mK 38) 76 = some 83 := by decide +kernel
theorem q_37_0 : p_tb 37 0 = some (.aload_n 0, 1) := by decide +kernel
theorem q_37_1 : p_tb 37 1 = some (.aload_n 1, 1) := by decide +kernel
theorem q_37_2 : p_tb 37 2 = some (.aload_n 2, 1) := by decide +kernel
theorem q_37_3 : p_tb 37 3 = some (.iload_n 3, 1) := by decide +kernel
theorem q_37_4 : p_tb 37 4 = some (.invokevirtual 66, 3) := by decide +kernel
theorem q_37_7 : p_tb 37 7 = some (.istore 4, 2) := by decide +kernel
theorem q_37_9 : p_tb 37 9 = some (.iconst 0, 1) := by decide +kernel
theorem q_37_10 : p_tb 37 10 = some (.istore 5, 2) := by decide +kernel
theorem q_37_12 : p_tb 37 12 = some (.iload 5, 2) := by decide +kernel
theorem q_37_14 : p_tb 37 14 = some (.bipush 20, 2) := by decide +kernel
theorem q_37_16 : p_tb 37 16 = some (.if_icmp .ge 53, 3) := by decide +kernel
theorem q_37_19 : p_tb 37 19 = some (.iload 4, 2) := by decide +kernel
theorem q_37_21 : p_tb 37 21 = some (.ifCond .eq 48, 3) := by decide +kernel
theorem q_37_24 : p_tb 37 24 = some (.aload_n 1, 1) := by decide +kernel
theorem q_37_25 : p_tb 37 25 = some (.getstatic 69, 3) := by decide +kernel
theorem q_37_28 : p_tb 37 28 = some (.invokevirtual 58, 3) := by decide +kernel
theorem q_37_31 : p_tb 37 31 = some (.ifCond .eq 38, 3) := by decide +kernel
theorem q_37_34 : p_tb 37 34 = some (.aload_n 0, 1) := by decide +kernel
theorem q_37_35 : p_tb 37 35 = some (.aload_n 1, 1) := by decide +kernel
theorem q_37_36 : p_tb 37 36 = some (.aload_n 2, 1) := by decide +kernel
theorem q_37_37 : p_tb 37 37 = some (.iload_n 3, 1) := by decide +kernel
theorem q_37_38 : p_tb 37 38 = some (.invokevirtual 66, 3) := by decide +kernel
theorem q_37_41 : p_tb 37 41 = some (.ifCond .eq 19, 3) := by decide +kernel
theorem q_37_44 : p_tb 37 44 = some (.aload_n 0, 1) := by decide +kernel
theorem q_37_45 : p_tb 37 45 = some (.getstatic 69, 3) := by decide +kernel
theorem q_37_48 : p_tb 37 48 = some (.iconst 0, 1) := by decide +kernel
theorem q_37_49 : p_tb 37 49 = some (.iconst 0, 1) := by decide +kernel
theorem q_37_50 : p_tb 37 50 = some (.invokevirtual 62, 3) := by decide +kernel
theorem q_37_53 : p_tb 37 53 = some (.ifCond .eq 7, 3) := by decide +kernel
theorem q_37_56 : p_tb 37 56 = some (.iconst 1, 1) := by decide +kernel
theorem q_37_57 : p_tb 37 57 = some (.goto 4, 3) := by decide +kernel
theorem q_37_60 : p_tb 37 60 = some (.iconst 0, 1) := by decide +kernel
theorem q_37_61 : p_tb 37 61 = some (.istore 4, 2) := by decide +kernel
theorem q_37_63 : p_tb 37 63 = some (.iinc 5 1, 3) := by decide +kernel
theorem q_37_66 : p_tb 37 66 = some (.goto (-54), 3) := by decide +kernel
theorem q_37_69 : p_tb 37 69 = some (.iload 4, 2) := by decide +kernel
theorem q_37_71 : p_tb 37 71 = some (.ireturn, 1) := by decide +kernel
theorem t_mv_37_58 : p_f2 p_mv (p_mK 37) 58 = some 88 := by decide +kernel
theorem t_mv_37_62 : p_f2 p_mv (p_mK 37) 62 = some 41 := by decide +kernel
theorem t_mv_37_66 : p_f2 p_mv (p_mK 37) 66 = some 38 := by decide +kernel
theorem t_st_37_69 : p_f2 p_st (p_mK 37) 69 = some 18 := by decide +kernel
theorem q_36_0 : p_tb 36 0 = some (.aload_n 0, 1) := by decide +kernel
theorem q_36_1 : p_tb 36 1 = some (.aload_n 1, 1) := by decide +kernel
theorem q_36_2 : p_tb 36 2 = some (.aload_n 2, 1) := by decide +kernel
theorem q_36_3 : p_tb 36 3 = some (.iload_n 3, 1) := by decide +kernel
theorem q_36_4 : p_tb 36 4 = some (.invokevirtual 51, 3) := by decide +kernel
theorem q_36_7 : p_tb 36 7 = some (.istore 4, 2) := by decide +kernel
theorem q_36_9 : p_tb 36 9 = some (.iconst 0, 1) := by decide +kernel
theorem q_36_10 : p_tb 36 10 = some (.istore 5, 2) := by decide +kernel
theorem q_36_12 : p_tb 36 12 = some (.iload 5, 2) := by decide +kernel
theorem q_36_14 : p_tb 36 14 = some (.bipush 20, 2) := by decide +kernel
theorem q_36_16 : p_tb 36 16 = some (.if_icmp .ge 53, 3) := by decide +kernel
theorem q_36_19 : p_tb 36 19 = some (.iload 4, 2) := by decide +kernel
theorem q_36_21 : p_tb 36 21 = some (.ifCond .eq 48, 3) := by decide +kernel
theorem q_36_24 : p_tb 36 24 = some (.aload_n 1, 1) := by decide +kernel
theorem q_36_25 : p_tb 36 25 = some (.getstatic 54, 3) := by decide +kernel
theorem q_36_28 : p_tb 36 28 = some (.invokevirtual 58, 3) := by decide +kernel
theorem q_36_31 : p_tb 36 31 = some (.ifCond .eq 38, 3) := by decide +kernel
theorem q_36_34 : p_tb 36 34 = some (.aload_n 0, 1) := by decide +kernel
theorem q_36_35 : p_tb 36 35 = some (.aload_n 1, 1) := by decide +kernel
theorem q_36_36 : p_tb 36 36 = some (.aload_n 2, 1) := by decide +kernel
theorem q_36_37 : p_tb 36 37 = some (.iload_n 3, 1) := by decide +kernel
theorem q_36_38 : p_tb 36 38 = some (.invokevirtual 51, 3) := by decide +kernel
theorem q_36_41 : p_tb 36 41 = some (.ifCond .eq 19, 3) := by decide +kernel
theorem q_36_44 : p_tb 36 44 = some (.aload_n 0, 1) := by decide +kernel
theorem q_36_45 : p_tb 36 45 = some (.getstatic 54, 3) := by decide +kernel
theorem q_36_48 : p_tb 36 48 = some (.iconst 0, 1) := by decide +kernel
theorem q_36_49 : p_tb 36 49 = some (.iconst 0, 1) := by decide +kernel
theorem q_36_50 : p_tb 36 50 = some (.invokevirtual 62, 3) := by decide +kernel
theorem q_36_53 : p_tb 36 53 = some (.ifCond .eq 7, 3) := by decide +kernel
theorem q_36_56 : p_tb 36 56 = some (.iconst 1, 1) := by decide +kernel
theorem q_36_57 : p_tb 36 57 = some (.goto 4, 3) := by decide +kernel
theorem q_36_60 : p_tb 36 60 = some (.iconst 0, 1) := by decide +kernel
theorem q_36_61 : p_tb 36 61 = some (.istore 4, 2) := by decide +kernel
theorem q_36_63 : p_tb 36 63 = some (.iinc 5 1, 3) := by decide +kernel
theorem q_36_66 : p_tb 36 66 = some (.goto (-54), 3) := by decide +kernel
theorem q_36_69 : p_tb 36 69 = some (.iload 4, 2) := by decide +kernel
theorem q_36_71 : p_tb 36 71 = some (.ireturn, 1) := by decide +kernel
theorem t_mv_36_51 : p_f2 p_mv (p_mK 36) 51 = some 37 := by decide +kernel
theorem t_mv_36_58 : p_f2 p_mv (p_mK 36) 58 = some 88 := by decide +kernel
theorem t_mv_36_62 : p_f2 p_mv (p_mK 36) 62 = some 41 := by decide +kernel
theorem t_st_36_54 : p_f2 p_st (p_mK 36) 54 = some 17 := by decide +kernel
theorem q_38_34 : p_tb 38 34 = some (.aload_n 0, 1) := by decide +kernel
theorem q_38_35 : p_tb 38 35 = some (.dup, 1) := by decide +kernel
theorem q_38_36 : p_tb 38 36 = some (.getfield 27, 3) := by decide +kernel
theorem q_38_39 : p_tb 38 39 = some (.iconst 1, 1) := by decide +kernel
theorem q_38_40 : p_tb 38 40 = some (.iadd, 1) := by decide +kernel
theorem q_38_41 : p_tb 38 41 = some (.putfield 27, 3) := by decide +kernel
theorem q_38_44 : p_tb 38 44 = some (.aload_n 1, 1) := by decide +kernel
theorem q_38_45 : p_tb 38 45 = some (.getstatic 80, 3) := by decide +kernel
theorem q_38_48 : p_tb 38 48 = some (.invokevirtual 58, 3) := by decide +kernel
theorem q_38_51 : p_tb 38 51 = some (.ifCond .eq 33, 3) := by decide +kernel
theorem q_38_54 : p_tb 38 54 = some (.aload_n 0, 1) := by decide +kernel
theorem q_38_55 : p_tb 38 55 = some (.aload_n 1, 1) := by decide +kernel
theorem q_38_56 : p_tb 38 56 = some (.aload_n 2, 1) := by decide +kernel
theorem q_38_57 : p_tb 38 57 = some (.iload_n 3, 1) := by decide +kernel
theorem q_38_58 : p_tb 38 58 = some (.iconst 1, 1) := by decide +kernel
theorem q_38_59 : p_tb 38 59 = some (.iadd, 1) := by decide +kernel
theorem q_38_60 : p_tb 38 60 = some (.invokevirtual 66, 3) := by decide +kernel
theorem q_38_63 : p_tb 38 63 = some (.ifCond .eq 19, 3) := by decide +kernel
theorem q_38_66 : p_tb 38 66 = some (.aload_n 0, 1) := by decide +kernel
theorem q_38_67 : p_tb 38 67 = some (.getstatic 80, 3) := by decide +kernel
theorem q_38_70 : p_tb 38 70 = some (.iconst 0, 1) := by decide +kernel
theorem q_38_71 : p_tb 38 71 = some (.iconst 0, 1) := by decide +kernel
theorem q_38_72 : p_tb 38 72 = some (.invokevirtual 62, 3) := by decide +kernel
theorem q_38_75 : p_tb 38 75 = some (.ifCond .eq 7, 3) := by decide +kernel
theorem q_38_78 : p_tb 38 78 = some (.iconst 1, 1) := by decide +kernel
theorem q_38_79 : p_tb 38 79 = some (.goto 4, 3) := by decide +kernel
theorem q_38_82 : p_tb 38 82 = some (.iconst 0, 1) := by decide +kernel
theorem q_38_83 : p_tb 38 83 = some (.ireturn, 1) := by decide +kernel
theorem q_38_84 : p_tb 38 84 = some (.aload_n 1, 1) := by decide +kernel
theorem q_38_85 : p_tb 38 85 = some (.bipush 40, 2) := by decide +kernel
theorem q_38_87 : p_tb 38 87 = some (.invokevirtual 83, 3) := by decide +kernel
theorem q_38_90 : p_tb 38 90 = some (.ifCond .eq 34, 3) := by decide +kernel
theorem q_38_93 : p_tb 38 93 = some (.aload_n 1, 1) := by decide +kernel
theorem q_38_94 : p_tb 38 94 = some (.invokevirtual 86, 3) := by decide +kernel
theorem q_38_97 : p_tb 38 97 = some (.aload_n 0, 1) := by decide +kernel
theorem q_38_98 : p_tb 38 98 = some (.aload_n 1, 1) := by decide +kernel
theorem q_38_99 : p_tb 38 99 = some (.aload_n 2, 1) := by decide +kernel
theorem q_38_100 : p_tb 38 100 = some (.iload_n 3, 1) := by decide +kernel
theorem q_38_101 : p_tb 38 101 = some (.iconst 1, 1) := by decide +kernel
theorem q_38_102 : p_tb 38 102 = some (.iadd, 1) := by decide +kernel
theorem q_38_103 : p_tb 38 103 = some (.invokevirtual 43, 3) := by decide +kernel
theorem q_38_106 : p_tb 38 106 = some (.ifCond .eq 16, 3) := by decide +kernel
theorem q_38_109 : p_tb 38 109 = some (.aload_n 1, 1) := by decide +kernel
theorem q_38_110 : p_tb 38 110 = some (.bipush 41, 2) := by decide +kernel
theorem q_38_112 : p_tb 38 112 = some (.invokevirtual 89, 3) := by decide +kernel
theorem q_38_115 : p_tb 38 115 = some (.ifCond .eq 7, 3) := by decide +kernel
theorem q_38_118 : p_tb 38 118 = some (.iconst 1, 1) := by decide +kernel
theorem q_38_119 : p_tb 38 119 = some (.goto 4, 3) := by decide +kernel
theorem q_38_122 : p_tb 38 122 = some (.iconst 0, 1) := by decide +kernel
theorem q_38_123 : p_tb 38 123 = some (.ireturn, 1) := by decide +kernel
theorem q_38_124 : p_tb 38 124 = some (.aload_n 0, 1) := by decide +kernel
theorem q_38_125 : p_tb 38 125 = some (.aload_n 1, 1) := by decide +kernel
theorem q_38_126 : p_tb 38 126 = some (.aload_n 2, 1) := by decide +kernel
theorem q_38_127 : p_tb 38 127 = some (.invokevirtual 92, 3) := by decide +kernel
theorem q_38_130 : p_tb 38 130 = some (.ireturn, 1) := by decide +kernel
theorem t_mv_38_43 : p_f2 p_mv (p_mK 38) 43 = some 36 := by decide +kernel
theorem t_mv_38_58 : p_f2 p_mv (p_mK 38) 58 = some 88 := by decide +kernel
theorem t_mv_38_62 : p_f2 p_mv (p_mK 38) 62 = some 41 := by decide +kernel
theorem t_mv_38_66 : p_f2 p_mv (p_mK 38) 66 = some 38 := by decide +kernel
theorem t_mv_38_83 : p_f2 p_mv (p_mK 38) 83 = some 87 := by decide +kernel
theorem t_mv_38_86 : p_f2 p_mv (p_mK 38) 86 = some 77 := by decide +kernel
theorem t_mv_38_89 : p_f2 p_mv (p_mK 38) 89 = some 89 := by decide +kernel
theorem t_mv_38_92 : p_f2 p_mv (p_mK 38) 92 = some 40 := by decide +kernel
theorem t_st_38_80 : p_f2 p_st (p_mK 38) 80 = some 19 := by decide +kernel
theorem q_35_0 : p_tb 35 0 = some (.aload_n 0, 1) := by decide +kernel
theorem q_35_1 : p_tb 35 1 = some (.invokevirtual 34, 3) := by decide +kernel
theorem q_35_4 : p_tb 35 4 = some (.aload_n 1, 1) := by decide +kernel
theorem q_35_5 : p_tb 35 5 = some (.sipush 200, 3) := by decide +kernel
theorem q_35_8 : p_tb 35 8 = some (.invokevirtual 37, 3) := by decide +kernel
theorem q_35_11 : p_tb 35 11 = some (.aload_n 0, 1) := by decide +kernel
theorem q_35_12 : p_tb 35 12 = some (.aload_n 1, 1) := by decide +kernel
theorem q_35_13 : p_tb 35 13 = some (.aload_n 2, 1) := by decide +kernel
theorem q_35_14 : p_tb 35 14 = some (.iconst 1, 1) := by decide +kernel
theorem q_35_15 : p_tb 35 15 = some (.invokevirtual 43, 3) := by decide +kernel
theorem q_35_18 : p_tb 35 18 = some (.ifCond .eq 14, 3) := by decide +kernel
theorem q_35_21 : p_tb 35 21 = some (.aload_n 1, 1) := by decide +kernel
theorem q_35_22 : p_tb 35 22 = some (.invokevirtual 47, 3) := by decide +kernel
theorem q_35_25 : p_tb 35 25 = some (.ifCond .eq 7, 3) := by decide +kernel
theorem q_35_28 : p_tb 35 28 = some (.iconst 1, 1) := by decide +kernel
theorem q_35_29 : p_tb 35 29 = some (.goto 4, 3) := by decide +kernel
theorem q_35_32 : p_tb 35 32 = some (.iconst 0, 1) := by decide +kernel
theorem q_35_33 : p_tb 35 33 = some (.ireturn, 1) := by decide +kernel
theorem t_mv_35_34 : p_f2 p_mv (p_mK 35) 34 = some 33 := by decide +kernel
theorem t_mv_35_37 : p_f2 p_mv (p_mK 35) 37 = some 76 := by decide +kernel
theorem t_mv_35_43 : p_f2 p_mv (p_mK 35) 43 = some 36 := by decide +kernel
theorem t_mv_35_47 : p_f2 p_mv (p_mK 35) 47 = some 85 := by decide +kernel
theorem q_34_0 : p_tb 34 0 = some (.aload_n 0, 1) := by decide +kernel
theorem q_34_1 : p_tb 34 1 = some (.aload_n 1, 1) := by decide +kernel
theorem q_34_2 : p_tb 34 2 = some (.getfield 27, 3) := by decide +kernel
theorem q_34_5 : p_tb 34 5 = some (.putfield 27, 3) := by decide +kernel
theorem q_34_8 : p_tb 34 8 = some (.aload_n 0, 1) := by decide +kernel
theorem q_34_9 : p_tb 34 9 = some (.aload_n 1, 1) := by decide +kernel
theorem q_34_10 : p_tb 34 10 = some (.getfield 31, 3) := by decide +kernel
theorem q_34_13 : p_tb 34 13 = some (.putfield 31, 3) := by decide +kernel
theorem q_34_16 : p_tb 34 16 = some (.iconst 0, 1) := by decide +kernel
theorem q_34_17 : p_tb 34 17 = some (.istore_n 2, 1) := by decide +kernel
theorem q_34_18 : p_tb 34 18 = some (.iload_n 2, 1) := by decide +kernel
theorem q_34_19 : p_tb 34 19 = some (.bipush 40, 2) := by decide +kernel
theorem q_34_21 : p_tb 34 21 = some (.if_icmp .ge 45, 3) := by decide +kernel
theorem q_34_24 : p_tb 34 24 = some (.aload_n 0, 1) := by decide +kernel
theorem q_34_25 : p_tb 34 25 = some (.getfield 13, 3) := by decide +kernel
theorem q_34_28 : p_tb 34 28 = some (.iload_n 2, 1) := by decide +kernel
theorem q_34_29 : p_tb 34 29 = some (.aload_n 1, 1) := by decide +kernel
theorem q_34_30 : p_tb 34 30 = some (.getfield 13, 3) := by decide +kernel
theorem q_34_33 : p_tb 34 33 = some (.iload_n 2, 1) := by decide +kernel
theorem q_34_34 : p_tb 34 34 = some (.aaload, 1) := by decide +kernel
theorem q_34_35 : p_tb 34 35 = some (.aastore, 1) := by decide +kernel
theorem q_34_36 : p_tb 34 36 = some (.aload_n 0, 1) := by decide +kernel
theorem q_34_37 : p_tb 34 37 = some (.getfield 17, 3) := by decide +kernel
theorem q_34_40 : p_tb 34 40 = some (.iload_n 2, 1) := by decide +kernel
theorem q_34_41 : p_tb 34 41 = some (.aload_n 1, 1) := by decide +kernel
theorem q_34_42 : p_tb 34 42 = some (.getfield 17, 3) := by decide +kernel
theorem q_34_45 : p_tb 34 45 = some (.iload_n 2, 1) := by decide +kernel
theorem q_34_46 : p_tb 34 46 = some (.iaload, 1) := by decide +kernel
theorem q_34_47 : p_tb 34 47 = some (.iastore, 1) := by decide +kernel
theorem q_34_48 : p_tb 34 48 = some (.aload_n 0, 1) := by decide +kernel
theorem q_34_49 : p_tb 34 49 = some (.getfield 21, 3) := by decide +kernel
theorem q_34_52 : p_tb 34 52 = some (.iload_n 2, 1) := by decide +kernel
theorem q_34_53 : p_tb 34 53 = some (.aload_n 1, 1) := by decide +kernel
theorem q_34_54 : p_tb 34 54 = some (.getfield 21, 3) := by decide +kernel
theorem q_34_57 : p_tb 34 57 = some (.iload_n 2, 1) := by decide +kernel
theorem q_34_58 : p_tb 34 58 = some (.iaload, 1) := by decide +kernel
theorem q_34_59 : p_tb 34 59 = some (.iastore, 1) := by decide +kernel
theorem q_34_60 : p_tb 34 60 = some (.iinc 2 1, 3) := by decide +kernel
theorem q_34_63 : p_tb 34 63 = some (.goto (-45), 3) := by decide +kernel
theorem q_34_66 : p_tb 34 66 = some (.return_, 1) := by decide +kernel
theorem t_ft_34_13 : p_f2 p_ft (p_mK 34) 13 = some (4, 2) := by decide +kernel
theorem t_ft_34_17 : p_f2 p_ft (p_mK 34) 17 = some (4, 3) := by decide +kernel
theorem t_ft_34_21 : p_f2 p_ft (p_mK 34) 21 = some (4, 4) := by decide +kernel
theorem t_ft_34_27 : p_f2 p_ft (p_mK 34) 27 = some (4, 0) := by decide +kernel
theorem t_ft_34_31 : p_f2 p_ft (p_mK 34) 31 = some (4, 1) := by decide +kernel
theorem gB_17_0_39 : gB 17 0 39 0 999 := gB.of (by decide +kernel)
theorem q_104_0 : p_tb 104 0 = some (.aload_n 0, 1) := by decide +kernel
theorem q_104_1 : p_tb 104 1 = some (.getfield 48, 3) := by decide +kernel
theorem q_104_4 : p_tb 104 4 = some (.aload_n 0, 1) := by decide +kernel
theorem q_104_5 : p_tb 104 5 = some (.getfield 10, 3) := by decide +kernel
theorem q_104_8 : p_tb 104 8 = some (.aload_n 0, 1) := by decide +kernel
theorem q_104_9 : p_tb 104 9 = some (.getfield 19, 3) := by decide +kernel
theorem q_104_12 : p_tb 104 12 = some (.getfield 94, 3) := by decide +kernel
theorem q_104_15 : p_tb 104 15 = some (.invokevirtual 117, 3) := by decide +kernel
theorem q_104_18 : p_tb 104 18 = some (.istore_n 1, 1) := by decide +kernel
theorem q_104_19 : p_tb 104 19 = some (.aload_n 0, 1) := by decide +kernel
theorem q_104_20 : p_tb 104 20 = some (.getfield 10, 3) := by decide +kernel
theorem q_104_23 : p_tb 104 23 = some (.iconst 0, 1) := by decide +kernel
theorem q_104_24 : p_tb 104 24 = some (.putfield 73, 3) := by decide +kernel
theorem q_104_27 : p_tb 104 27 = some (.aload_n 0, 1) := by decide +kernel
theorem q_104_28 : p_tb 104 28 = some (.aload_n 0, 1) := by decide +kernel
theorem q_104_29 : p_tb 104 29 = some (.getfield 10, 3) := by decide +kernel
theorem q_104_32 : p_tb 104 32 = some (.getfield 85, 3) := by decide +kernel
theorem q_104_35 : p_tb 104 35 = some (.putfield 88, 3) := by decide +kernel
theorem q_104_38 : p_tb 104 38 = some (.iload_n 1, 1) := by decide +kernel
theorem q_104_39 : p_tb 104 39 = some (.ifCond .ne 13, 3) := by decide +kernel
theorem q_104_42 : p_tb 104 42 = some (.iconst (-1), 1) := by decide +kernel
theorem q_104_43 : p_tb 104 43 = some (.aload_n 0, 1) := by decide +kernel
theorem q_104_44 : p_tb 104 44 = some (.getfield 10, 3) := by decide +kernel
theorem q_104_47 : p_tb 104 47 = some (.getfield 91, 3) := by decide +kernel
theorem q_104_50 : p_tb 104 50 = some (.isub, 1) := by decide +kernel
theorem q_104_51 : p_tb 104 51 = some (.ireturn, 1) := by decide +kernel
theorem q_104_52 : p_tb 104 52 = some (.aload_n 0, 1) := by decide +kernel
theorem q_104_53 : p_tb 104 53 = some (.getfield 19, 3) := by decide +kernel
theorem q_104_56 : p_tb 104 56 = some (.getfield 107, 3) := by decide +kernel
theorem q_104_59 : p_tb 104 59 = some (.aload_n 0, 1) := by decide +kernel
theorem q_104_60 : p_tb 104 60 = some (.getfield 48, 3) := by decide +kernel
theorem q_104_63 : p_tb 104 63 = some (.invokevirtual 120, 3) := by decide +kernel
theorem q_104_66 : p_tb 104 66 = some (.aload_n 0, 1) := by decide +kernel
theorem q_104_67 : p_tb 104 67 = some (.getfield 48, 3) := by decide +kernel
theorem q_104_70 : p_tb 104 70 = some (.getfield 123, 3) := by decide +kernel
theorem q_104_73 : p_tb 104 73 = some (.ireturn, 1) := by decide +kernel
theorem t_fN_104_107 : p_f2 p_fN (p_mK 104) 107 = some (9, 2) := by decide +kernel
theorem t_fN_104_123 : p_f2 p_fN (p_mK 104) 123 = some (4, 0) := by decide +kernel
theorem t_fN_104_73 : p_f2 p_fN (p_mK 104) 73 = some (7, 1) := by decide +kernel
theorem t_fN_104_85 : p_f2 p_fN (p_mK 104) 85 = some (7, 10) := by decide +kernel
theorem t_fN_104_91 : p_f2 p_fN (p_mK 104) 91 = some (7, 11) := by decide +kernel
theorem t_fN_104_94 : p_f2 p_fN (p_mK 104) 94 = some (9, 0) := by decide +kernel
theorem t_ft_104_10 : p_f2 p_ft (p_mK 104) 10 = some (10, 0) := by decide +kernel
theorem t_ft_104_19 : p_f2 p_ft (p_mK 104) 19 = some (10, 1) := by decide +kernel
theorem t_ft_104_48 : p_f2 p_ft (p_mK 104) 48 = some (10, 6) := by decide +kernel
theorem t_ft_104_88 : p_f2 p_ft (p_mK 104) 88 = some (10, 10) := by decide +kernel
theorem t_mv_104_117 : p_f2 p_mv (p_mK 104) 117 = some 35 := by decide +kernel
theorem t_mv_104_120 : p_f2 p_mv (p_mK 104) 120 = some 34 := by decide +kernel
theorem PW.jw_eq {G : pG} {al : Bool} {d j mc ms : Nat} {Kr : pK} {pc : Nat} {lv : List (Nat × Value)} {st : List Value} {N : Nat} {M : pM} {ce sl : Nat} {r s : Nat} {off : Int} {tgt : Nat} (h : p_tb j pc = some (.if_acmp .eq off, 3)) (ht : (pc : Int) + off = (tgt : Int)) (hr : r < 28) (hs : s < 28) (kt : r = s → PW G al d j mc ms Kr tgt lv st N M ce sl) (kf : r ≠ s → PW G al d j mc ms Kr (pc + 3) lv st N M ce sl) : PW G al d j mc ms Kr pc lv (.ref (65536 + s) :: .ref (65536 + r) :: st) N M ce sl := by
  intro p l e R s0 m args below meth c H locs ls Q hC hret hR hS hl
  have hE := hC.2.2.2.2.2.2.1.2.2.2.2.2.2.2.2
  have inj : p_r G (65536 + r) = p_r G (65536 + s) → r = s := fun q => by
    rw [p_wr, p_wr] at q
    obtain ⟨cf, k, i, f, cell, z1, z2, z3, z4, z5, z6⟩ := hE r hr
    obtain ⟨cf', k', i', f', cell', y1, y2, y3, y4, y5, y6⟩ := hE s hs
    rw [z1] at y1
    have e1 := Option.some.inj y1
    simp only [Prod.mk.injEq] at e1
    obtain ⟨-, -, -, rfl⟩ := e1
    rw [q, y3] at z3
    obtain rfl := Option.some.inj z3
    rw [z5] at y5
    have e2 := Option.some.inj y5
    have e3 : p_wc r = p_wc s := Value.long.inj e2
    exact p_wc_inj hr hs (by rw [e3])
  exact PW.ja_eq (rx := some (65536 + r)) (ry := some (65536 + s)) h ht (fun q => kt (inj (Option.some.inj q))) (fun q => kf (fun e => q (by rw [e]))) p l e R s0 m args below meth c H locs ls Q hC hret hR hS hl
/-- the word that the class sees -/
theorem s_wd {x : k_X} {M : pM} {i z r : Nat} (h : k_at x M i) (hk : kK x i = 2) (hr : s_wn x i = r) (hr2 : r < 28) (hz : o_f (M 1) 6 = .ref (65536 + z)) : z = r := by
  have e : kV x i = (p_wc r).toInt := (s_wn_iff hr2).mpr hr
  unfold kK at hk
  unfold kV at e
  rcases h.2.2 with ⟨q, -⟩ | ⟨q, -⟩ | ⟨q, -, -, q5⟩ | ⟨q, -⟩ | ⟨q, -⟩
  · omega
  · omega
  · rcases q5 with ⟨-, r', a1, a2, a3⟩ | ⟨-, a⟩
    · rw [hz] at a2
      have e2 : 65536 + z = 65536 + r' := Value.ref.inj a2
      have e3 := p_wc_inj a1 hr2 (a3.trans e)
      omega
    · exact absurd e.symm (a r hr2)
  · omega
  · omega
theorem c_X4_forget_vk (V : pM → Prop) (hV : Stab V) (G : pG) (Kr : pK) (M : pM) (I : Iv V M)  (hK : ∀ (M1 : pM), Iv V M1 → Fr [14] M M1 → (o_i (M1 267) 0 = 0) → Kr.1 none 311 M1) : PW G false 0 33 (p_mc 33) (p_msl 33) Kr 0 (lv_args 0 [.ref 267]) [] 311 M 0 0 := by
  have F : Fr [14] M M := Fr.refl
  refine PW.aload_n q_33_0 rfl ?_
  refine PW.cI q_33_1 (by decide) fun c1 hc1 => ?_
  refine PW.pI q_33_2 (Or.inl t_ft_33_27) gF_14_0 gP_14_0 kd_267 hV I (by decide) rfl (n_lo _) (n_hi _) fun M2 IM2 fM2 UM2 => ?_
  have FM2 := Fr.pu F UM2.1 kd_267 (rfl : List.contains [14] 14 = true)
  refine PW.aload_n q_33_5 rfl ?_
  refine PW.cI q_33_6 (by decide) fun c3 hc3 => ?_
  refine PW.pI q_33_7 (Or.inl t_ft_33_31) gF_14_1 gP_14_1 kd_267 hV IM2 (by decide) rfl (by omega) (by omega) fun M4 IM4 fM4 UM4 => ?_
  have FM4 := Fr.pu FM2 UM4.1 kd_267 (rfl : List.contains [14] 14 = true)
  refine PW.vret q_33_10 rfl (by decide) (by decide) ?_
  exact hK M4 IM4 FM4 (by have w := (o_i_of ((UM4.f (Or.inr (by decide))).trans fM2)); omega)
theorem c_X4_add_vk (V : pM → Prop) (hV : Stab V) (G : pG) (Kr : pK) (M : pM) (I : Iv V M) (r1 : Nat) (hr1 : r1 < 28) (a2 : Int32) (a3 : Int32) (hl_a3 : 0 ≤ a3.toInt) (hh_a3 : a3.toInt ≤ 999) (hK : ∀ (x : Int32) (M1 : pM), Iv V M1 → Fr [14, 15, 16, 17] M M1 → 1 ≤ x.toInt → x.toInt ≤ 1 → (o_i (M1 267) 0 = o_i (M 267) 0) → Kr.1 (some (.int x)) 311 M1) : PW G false 0 41 (p_mc 41) (p_msl 41) Kr 0 (lv_args 0 [.ref 267, .ref (65536 + r1), .int a2, .int a3]) [] 311 M 0 0 := by
  have F : Fr [14, 15, 16, 17] M M := Fr.refl
  refine PW.aload_n q_41_0 rfl ?_
  refine PW.gI q_41_1 (Or.inl t_ft_41_31) gF_14_1 kd_267 I.1 (by decide) fun x1 fx1 hx1 kx1 => ?_
  have ix1 := o_i_of fx1
  refine PW.cB q_41_4 (by decide) fun c2 hc2 => ?_
  refine PW.jc_ge q_41_6 rfl (fun h3 => ?_) (fun h3 => ?_)
  · skip
    refine PW.cI q_41_49 (by decide) fun c4 hc4 => ?_
    refine PW.rZ q_41_50 rfl (by omega) (by omega) (by decide) (by decide) ?_
    exact hK c4 M I F (by omega) (by omega) rfl
  · skip
    refine PW.aload_n q_41_9 rfl ?_
    refine PW.gR 268 q_41_10 (Or.inl t_ft_41_13) gF_14_2 kd_267 I.1 (by decide) rfl ?_
    refine PW.aload_n q_41_13 rfl ?_
    refine PW.gE q_41_14 (Or.inl t_ft_41_31) gF_14_1 kd_267 I.1 (by decide) fx1 ?_
    refine PW.aload_n q_41_17 rfl ?_
    refine PW.wWw q_41_18 rfl kd_268 hV I (by decide) (by omega) (by omega) hr1 fun M5 IM5 UM5 => ?_
    have FM5 := Fr.pu F UM5 kd_268 (rfl : List.contains [14, 15, 16, 17] 15 = true)
    refine PW.aload_n q_41_19 rfl ?_
    refine PW.gR 269 q_41_20 (Or.inl t_ft_41_17) gF_14_3 kd_267 IM5.1 (by decide) rfl ?_
    refine PW.aload_n q_41_23 rfl ?_
    refine PW.gE q_41_24 (Or.inl t_ft_41_31) gF_14_1 kd_267 IM5.1 (by decide) ((congrArg (fun e => o_f e 1) (UM5 _ (g_ne kd_267 kd_268 (by decide)))).trans fx1) ?_
    refine PW.iload_n q_41_27 rfl ?_
    refine PW.wI q_41_28 gA_16 kd_269 hV IM5 (by decide) rfl gC_16_0_39 (by decide) (by omega) (by omega) (n_lo _) (n_hi _) fun M6 IM6 fM6 UM6 => ?_
    have FM6 := Fr.pu FM5 UM6.1 kd_269 (rfl : List.contains [14, 15, 16, 17] 16 = true)
    refine PW.aload_n q_41_29 rfl ?_
    refine PW.gR 270 q_41_30 (Or.inl t_ft_41_21) gF_14_4 kd_267 IM6.1 (by decide) rfl ?_
    refine PW.aload_n q_41_33 rfl ?_
    refine PW.gE q_41_34 (Or.inl t_ft_41_31) gF_14_1 kd_267 IM6.1 (by decide) ((congrArg (fun e => o_f e 1) (UM6.1 _ (g_ne kd_267 kd_269 (by decide)))).trans ((congrArg (fun e => o_f e 1) (UM5 _ (g_ne kd_267 kd_268 (by decide)))).trans fx1)) ?_
    refine PW.iload_n q_41_37 rfl ?_
    refine PW.wI q_41_38 gA_17 kd_270 hV IM6 (by decide) rfl gC_17_0_39 (by decide) (by omega) (by omega) (by omega) (by omega) fun M7 IM7 fM7 UM7 => ?_
    have FM7 := Fr.pu FM6 UM7.1 kd_270 (rfl : List.contains [14, 15, 16, 17] 17 = true)
    refine PW.aload_n q_41_39 rfl ?_
    refine PW.dup q_41_40 rfl ?_
    refine PW.gE q_41_41 (Or.inl t_ft_41_31) gF_14_1 kd_267 IM7.1 (by decide) ((congrArg (fun e => o_f e 1) (UM7.1 _ (g_ne kd_267 kd_270 (by decide)))).trans ((congrArg (fun e => o_f e 1) (UM6.1 _ (g_ne kd_267 kd_269 (by decide)))).trans ((congrArg (fun e => o_f e 1) (UM5 _ (g_ne kd_267 kd_268 (by decide)))).trans fx1))) ?_
    refine PW.cI q_41_44 (by decide) fun c8 hc8 => ?_
    refine PW.addN q_41_45 (by omega) (by omega) fun x9 hx9 => ?_
    refine PW.pI q_41_46 (Or.inl t_ft_41_31) gF_14_1 gP_14_1 kd_267 hV IM7 (by decide) rfl (by omega) (by omega) fun M10 IM10 fM10 UM10 => ?_
    have FM10 := Fr.pu FM7 UM10.1 kd_267 (rfl : List.contains [14, 15, 16, 17] 14 = true)
    refine PW.cI q_41_49 (by decide) fun c11 hc11 => ?_
    refine PW.rZ q_41_50 rfl (by omega) (by omega) (by decide) (by decide) ?_
    exact hK c11 M10 IM10 FM10 (by omega) (by omega) ((UM10.i (c := 267) (k := 0) (Or.inr (by decide))).trans ((congrArg (fun e => o_i e 0) (UM7.1 267 (by decide))).trans ((congrArg (fun e => o_i e 0) (UM6.1 267 (by decide))).trans (congrArg (fun e => o_i e 0) (UM5 267 (by decide))))))
theorem c_X4_beginsOne_vk (V : pM → Prop) (hV : Stab V) (G : pG) (Kr : pK) (M : pM) (I : Iv V M) (y : k_X) (i : Nat) (hp_0 : k_at y M i) (hK : ∀ (x : Int32), 0 ≤ x.toInt → x.toInt ≤ 1 → ((x.toInt = 1 ∧ s_one y i) ∨ (x.toInt = 0 ∧ ¬ s_one y i)) → Kr.1 (some (.int x)) 311 M) : PW G false 1 39 (p_mc 39) (p_msl 39) Kr 0 (lv_args 0 [.ref 1]) [] 311 M 0 0 := by
  have F : Fr [] M M := Fr.refl
  refine PW.aload_n q_39_0 rfl ?_
  refine PW.cB q_39_1 (by decide) fun c1 hc1 => ?_
  refine PW.cV (as := [_]) (rest := []) q_39_3 t_mv_39_83 kd_1 I.1 (by decide) rfl (by decide) rfl rfl (Nat.le_of_ble_eq_true rfl) (Nat.le_of_ble_eq_true rfl) (by decide) (by decide) ?_
  refine PW.up (by decide) (c_X7_seesSign_vk (V) (hV) G _ M I c1 _ _ hp_0 fun x3  hx3 kx3 PM2 => ?_)
  rcases PM2 with ⟨PaM2, PbM2, PcM2⟩ | ⟨PaM2, PnM2⟩
  · skip
    refine PW.jz_ne q_39_6 rfl (fun h4 => ?_) (fun h4 => False.elim (by omega))
    refine PW.cI q_39_99 (by decide) fun c5 hc5 => ?_
    refine PW.goto q_39_100 rfl ?_
    refine PW.rZ q_39_104 rfl (by omega) (by omega) (by decide) (by decide) ?_
    exact hK c5 (by omega) (by omega) (Or.inl ⟨by omega, Or.inl ⟨PbM2, by omega⟩⟩)
  · skip
    refine PW.jz_ne q_39_6 rfl (fun h6 => False.elim (by omega)) (fun h6 => ?_)
    refine PW.aload_n q_39_9 rfl ?_
    refine PW.gets q_39_10 t_st_39_80 ?_
    refine PW.cV (as := [_]) (rest := []) q_39_13 t_mv_39_96 kd_1 I.1 (by decide) rfl (by decide) rfl rfl (Nat.le_of_ble_eq_true rfl) (Nat.le_of_ble_eq_true rfl) (by decide) (by decide) ?_
    refine PW.up (by decide) (c_X7_sees_vk (V) (hV) G _ M I 19 (by decide) _ _ hp_0 fun x8  hx8 kx8 PM7 => ?_)
    rcases PM7 with ⟨PaM7, PbM7, PcM7⟩ | ⟨PaM7, PnM7⟩
    · skip
      have swM7 := (s_wn_iff (x := y) (i := i) (show 19 < 28 by decide)).mp PcM7
      refine PW.jz_ne q_39_16 rfl (fun h9 => ?_) (fun h9 => False.elim (by omega))
      refine PW.cI q_39_99 (by decide) fun c10 hc10 => ?_
      refine PW.goto q_39_100 rfl ?_
      refine PW.rZ q_39_104 rfl (by omega) (by omega) (by decide) (by decide) ?_
      exact hK c10 (by omega) (by omega) (Or.inl ⟨by omega, Or.inr ⟨PbM7, by omega, by omega⟩⟩)
    · skip
      have snM7 : kK y (i) = 2 → s_wn y (i) ≠ 19 := fun h q => PnM7 ⟨h, (s_wn_iff (show 19 < 28 by decide)).mpr q⟩
      refine PW.jz_ne q_39_16 rfl (fun h11 => False.elim (by omega)) (fun h11 => ?_)
      refine PW.aload_n q_39_19 rfl ?_
      refine PW.gets q_39_20 t_st_39_99 ?_
      refine PW.cV (as := [_]) (rest := []) q_39_23 t_mv_39_96 kd_1 I.1 (by decide) rfl (by decide) rfl rfl (Nat.le_of_ble_eq_true rfl) (Nat.le_of_ble_eq_true rfl) (by decide) (by decide) ?_
      refine PW.up (by decide) (c_X7_sees_vk (V) (hV) G _ M I 23 (by decide) _ _ hp_0 fun x13  hx13 kx13 PM12 => ?_)
      rcases PM12 with ⟨PaM12, PbM12, PcM12⟩ | ⟨PaM12, PnM12⟩
      · skip
        have swM12 := (s_wn_iff (x := y) (i := i) (show 23 < 28 by decide)).mp PcM12
        refine PW.jz_ne q_39_26 rfl (fun h14 => ?_) (fun h14 => False.elim (by omega))
        refine PW.cI q_39_99 (by decide) fun c15 hc15 => ?_
        refine PW.goto q_39_100 rfl ?_
        refine PW.rZ q_39_104 rfl (by omega) (by omega) (by decide) (by decide) ?_
        exact hK c15 (by omega) (by omega) (Or.inl ⟨by omega, Or.inr ⟨PbM12, by omega, by omega⟩⟩)
      · skip
        have snM12 : kK y (i) = 2 → s_wn y (i) ≠ 23 := fun h q => PnM12 ⟨h, (s_wn_iff (show 23 < 28 by decide)).mpr q⟩
        refine PW.jz_ne q_39_26 rfl (fun h16 => False.elim (by omega)) (fun h16 => ?_)
        refine PW.aload_n q_39_29 rfl ?_
        refine PW.gets q_39_30 t_st_39_102 ?_
        refine PW.cV (as := [_]) (rest := []) q_39_33 t_mv_39_96 kd_1 I.1 (by decide) rfl (by decide) rfl rfl (Nat.le_of_ble_eq_true rfl) (Nat.le_of_ble_eq_true rfl) (by decide) (by decide) ?_
        refine PW.up (by decide) (c_X7_sees_vk (V) (hV) G _ M I 20 (by decide) _ _ hp_0 fun x18  hx18 kx18 PM17 => ?_)
        rcases PM17 with ⟨PaM17, PbM17, PcM17⟩ | ⟨PaM17, PnM17⟩
        · skip
          have swM17 := (s_wn_iff (x := y) (i := i) (show 20 < 28 by decide)).mp PcM17
          refine PW.jz_ne q_39_36 rfl (fun h19 => ?_) (fun h19 => False.elim (by omega))
          refine PW.cI q_39_99 (by decide) fun c20 hc20 => ?_
          refine PW.goto q_39_100 rfl ?_
          refine PW.rZ q_39_104 rfl (by omega) (by omega) (by decide) (by decide) ?_
          exact hK c20 (by omega) (by omega) (Or.inl ⟨by omega, Or.inr ⟨PbM17, by omega, by omega⟩⟩)
        · skip
          have snM17 : kK y (i) = 2 → s_wn y (i) ≠ 20 := fun h q => PnM17 ⟨h, (s_wn_iff (show 20 < 28 by decide)).mpr q⟩
          refine PW.jz_ne q_39_36 rfl (fun h21 => False.elim (by omega)) (fun h21 => ?_)
          refine PW.aload_n q_39_39 rfl ?_
          refine PW.gets q_39_40 t_st_39_105 ?_
          refine PW.cV (as := [_]) (rest := []) q_39_43 t_mv_39_96 kd_1 I.1 (by decide) rfl (by decide) rfl rfl (Nat.le_of_ble_eq_true rfl) (Nat.le_of_ble_eq_true rfl) (by decide) (by decide) ?_
          refine PW.up (by decide) (c_X7_sees_vk (V) (hV) G _ M I 21 (by decide) _ _ hp_0 fun x23  hx23 kx23 PM22 => ?_)
          rcases PM22 with ⟨PaM22, PbM22, PcM22⟩ | ⟨PaM22, PnM22⟩
          · skip
            have swM22 := (s_wn_iff (x := y) (i := i) (show 21 < 28 by decide)).mp PcM22
            refine PW.jz_ne q_39_46 rfl (fun h24 => ?_) (fun h24 => False.elim (by omega))
            refine PW.cI q_39_99 (by decide) fun c25 hc25 => ?_
            refine PW.goto q_39_100 rfl ?_
            refine PW.rZ q_39_104 rfl (by omega) (by omega) (by decide) (by decide) ?_
            exact hK c25 (by omega) (by omega) (Or.inl ⟨by omega, Or.inr ⟨PbM22, by omega, by omega⟩⟩)
          · skip
            have snM22 : kK y (i) = 2 → s_wn y (i) ≠ 21 := fun h q => PnM22 ⟨h, (s_wn_iff (show 21 < 28 by decide)).mpr q⟩
            refine PW.jz_ne q_39_46 rfl (fun h26 => False.elim (by omega)) (fun h26 => ?_)
            refine PW.aload_n q_39_49 rfl ?_
            refine PW.gets q_39_50 t_st_39_108 ?_
            refine PW.cV (as := [_]) (rest := []) q_39_53 t_mv_39_96 kd_1 I.1 (by decide) rfl (by decide) rfl rfl (Nat.le_of_ble_eq_true rfl) (Nat.le_of_ble_eq_true rfl) (by decide) (by decide) ?_
            refine PW.up (by decide) (c_X7_sees_vk (V) (hV) G _ M I 22 (by decide) _ _ hp_0 fun x28  hx28 kx28 PM27 => ?_)
            rcases PM27 with ⟨PaM27, PbM27, PcM27⟩ | ⟨PaM27, PnM27⟩
            · skip
              have swM27 := (s_wn_iff (x := y) (i := i) (show 22 < 28 by decide)).mp PcM27
              refine PW.jz_ne q_39_56 rfl (fun h29 => ?_) (fun h29 => False.elim (by omega))
              refine PW.cI q_39_99 (by decide) fun c30 hc30 => ?_
              refine PW.goto q_39_100 rfl ?_
              refine PW.rZ q_39_104 rfl (by omega) (by omega) (by decide) (by decide) ?_
              exact hK c30 (by omega) (by omega) (Or.inl ⟨by omega, Or.inr ⟨PbM27, by omega, by omega⟩⟩)
            · skip
              have snM27 : kK y (i) = 2 → s_wn y (i) ≠ 22 := fun h q => PnM27 ⟨h, (s_wn_iff (show 22 < 28 by decide)).mpr q⟩
              refine PW.jz_ne q_39_56 rfl (fun h31 => False.elim (by omega)) (fun h31 => ?_)
              refine PW.aload_n q_39_59 rfl ?_
              refine PW.gets q_39_60 t_st_39_111 ?_
              refine PW.cV (as := [_]) (rest := []) q_39_63 t_mv_39_96 kd_1 I.1 (by decide) rfl (by decide) rfl rfl (Nat.le_of_ble_eq_true rfl) (Nat.le_of_ble_eq_true rfl) (by decide) (by decide) ?_
              refine PW.up (by decide) (c_X7_sees_vk (V) (hV) G _ M I 24 (by decide) _ _ hp_0 fun x33  hx33 kx33 PM32 => ?_)
              rcases PM32 with ⟨PaM32, PbM32, PcM32⟩ | ⟨PaM32, PnM32⟩
              · skip
                have swM32 := (s_wn_iff (x := y) (i := i) (show 24 < 28 by decide)).mp PcM32
                refine PW.jz_ne q_39_66 rfl (fun h34 => ?_) (fun h34 => False.elim (by omega))
                refine PW.cI q_39_99 (by decide) fun c35 hc35 => ?_
                refine PW.goto q_39_100 rfl ?_
                refine PW.rZ q_39_104 rfl (by omega) (by omega) (by decide) (by decide) ?_
                exact hK c35 (by omega) (by omega) (Or.inl ⟨by omega, Or.inr ⟨PbM32, by omega, by omega⟩⟩)
              · skip
                have snM32 : kK y (i) = 2 → s_wn y (i) ≠ 24 := fun h q => PnM32 ⟨h, (s_wn_iff (show 24 < 28 by decide)).mpr q⟩
                refine PW.jz_ne q_39_66 rfl (fun h36 => False.elim (by omega)) (fun h36 => ?_)
                refine PW.aload_n q_39_69 rfl ?_
                refine PW.gets q_39_70 t_st_39_114 ?_
                refine PW.cV (as := [_]) (rest := []) q_39_73 t_mv_39_96 kd_1 I.1 (by decide) rfl (by decide) rfl rfl (Nat.le_of_ble_eq_true rfl) (Nat.le_of_ble_eq_true rfl) (by decide) (by decide) ?_
                refine PW.up (by decide) (c_X7_sees_vk (V) (hV) G _ M I 25 (by decide) _ _ hp_0 fun x38  hx38 kx38 PM37 => ?_)
                rcases PM37 with ⟨PaM37, PbM37, PcM37⟩ | ⟨PaM37, PnM37⟩
                · skip
                  have swM37 := (s_wn_iff (x := y) (i := i) (show 25 < 28 by decide)).mp PcM37
                  refine PW.jz_ne q_39_76 rfl (fun h39 => ?_) (fun h39 => False.elim (by omega))
                  refine PW.cI q_39_99 (by decide) fun c40 hc40 => ?_
                  refine PW.goto q_39_100 rfl ?_
                  refine PW.rZ q_39_104 rfl (by omega) (by omega) (by decide) (by decide) ?_
                  exact hK c40 (by omega) (by omega) (Or.inl ⟨by omega, Or.inr ⟨PbM37, by omega, by omega⟩⟩)
                · skip
                  have snM37 : kK y (i) = 2 → s_wn y (i) ≠ 25 := fun h q => PnM37 ⟨h, (s_wn_iff (show 25 < 28 by decide)).mpr q⟩
                  refine PW.jz_ne q_39_76 rfl (fun h41 => False.elim (by omega)) (fun h41 => ?_)
                  refine PW.aload_n q_39_79 rfl ?_
                  refine PW.gets q_39_80 t_st_39_117 ?_
                  refine PW.cV (as := [_]) (rest := []) q_39_83 t_mv_39_96 kd_1 I.1 (by decide) rfl (by decide) rfl rfl (Nat.le_of_ble_eq_true rfl) (Nat.le_of_ble_eq_true rfl) (by decide) (by decide) ?_
                  refine PW.up (by decide) (c_X7_sees_vk (V) (hV) G _ M I 26 (by decide) _ _ hp_0 fun x43  hx43 kx43 PM42 => ?_)
                  rcases PM42 with ⟨PaM42, PbM42, PcM42⟩ | ⟨PaM42, PnM42⟩
                  · skip
                    have swM42 := (s_wn_iff (x := y) (i := i) (show 26 < 28 by decide)).mp PcM42
                    refine PW.jz_ne q_39_86 rfl (fun h44 => ?_) (fun h44 => False.elim (by omega))
                    refine PW.cI q_39_99 (by decide) fun c45 hc45 => ?_
                    refine PW.goto q_39_100 rfl ?_
                    refine PW.rZ q_39_104 rfl (by omega) (by omega) (by decide) (by decide) ?_
                    exact hK c45 (by omega) (by omega) (Or.inl ⟨by omega, Or.inr ⟨PbM42, by omega, by omega⟩⟩)
                  · skip
                    have snM42 : kK y (i) = 2 → s_wn y (i) ≠ 26 := fun h q => PnM42 ⟨h, (s_wn_iff (show 26 < 28 by decide)).mpr q⟩
                    refine PW.jz_ne q_39_86 rfl (fun h46 => False.elim (by omega)) (fun h46 => ?_)
                    refine PW.aload_n q_39_89 rfl ?_
                    refine PW.gets q_39_90 t_st_39_120 ?_
                    refine PW.cV (as := [_]) (rest := []) q_39_93 t_mv_39_96 kd_1 I.1 (by decide) rfl (by decide) rfl rfl (Nat.le_of_ble_eq_true rfl) (Nat.le_of_ble_eq_true rfl) (by decide) (by decide) ?_
                    refine PW.up (by decide) (c_X7_sees_vk (V) (hV) G _ M I 27 (by decide) _ _ hp_0 fun x48  hx48 kx48 PM47 => ?_)
                    rcases PM47 with ⟨PaM47, PbM47, PcM47⟩ | ⟨PaM47, PnM47⟩
                    · skip
                      have swM47 := (s_wn_iff (x := y) (i := i) (show 27 < 28 by decide)).mp PcM47
                      refine PW.jz_eq q_39_96 rfl (fun h49 => False.elim (by omega)) (fun h49 => ?_)
                      refine PW.cI q_39_99 (by decide) fun c50 hc50 => ?_
                      refine PW.goto q_39_100 rfl ?_
                      refine PW.rZ q_39_104 rfl (by omega) (by omega) (by decide) (by decide) ?_
                      exact hK c50 (by omega) (by omega) (Or.inl ⟨by omega, Or.inr ⟨PbM47, by omega, by omega⟩⟩)
                    · skip
                      have snM47 : kK y (i) = 2 → s_wn y (i) ≠ 27 := fun h q => PnM47 ⟨h, (s_wn_iff (show 27 < 28 by decide)).mpr q⟩
                      refine PW.jz_eq q_39_96 rfl (fun h51 => ?_) (fun h51 => False.elim (by omega))
                      refine PW.cI q_39_103 (by decide) fun c52 hc52 => ?_
                      refine PW.rZ q_39_104 rfl (by omega) (by omega) (by decide) (by decide) ?_
                      exact hK c52 (by omega) (by omega) (Or.inr ⟨by omega, fun h => by rcases h with h | h; (· exact PnM2 ⟨h.1, h.2.trans (by omega)⟩); (· have hk := h.1; have uM7 := snM7 hk; have uM12 := snM12 hk; have uM17 := snM17 hk; have uM22 := snM22 hk; have uM27 := snM27 hk; have uM32 := snM32 hk; have uM37 := snM37 hk; have uM42 := snM42 hk; have uM47 := snM47 hk; omega)⟩)
theorem s_ni_K {x : k_X} {i : Nat} (h : k_ni x i = 1) : kK x i = 2 := by
  by_cases q : kK x i = 2
  · exact q
  · exfalso
    have hn : ¬ (kK x i = 2 ∧ ∀ r, r < 28 → (p_wc r).toInt ≠ kV x i) := fun w => q w.1
    unfold k_ni at h; rw [if_neg hn] at h; exact absurd h (by decide)
theorem s_nr_K {x : k_X} {i : Nat} {lo hi : Int} (h : ¬ k_nr x i lo hi ≠ 0) : kK x i = 4 := by
  by_cases q : kK x i = 4
  · exact q
  · exfalso; apply h; unfold k_nr; rw [if_pos q]; decide
theorem s_nr9 {x : k_X} {i : Nat} (h : k_nr x i 0 999 ≠ 0) (b : kK x i = 4 → 0 ≤ kV x i ∧ kV x i ≤ 999) : k_nr x i 0 999 = 1 ∧ kK x i ≠ 4 := by
  unfold k_nr at h ⊢
  by_cases q : kK x i ≠ 4
  · rw [if_pos q]; exact ⟨rfl, q⟩
  · exfalso
    have e : kK x i = 4 := by omega
    have w := b e
    rw [if_neg q, if_neg (by omega)] at h
    exact h rfl
/-- a NUMBER is of three digits at most -/
theorem k_nu_b (x : k_X) (q : Nat) : ∀ k : Nat, k ≤ 3 → k_lt x q k = 0 → (∀ z, z < k → (97 ≤ x.1 (q + z) ∧ x.1 (q + z) ≤ 122) ∨ (48 ≤ x.1 (q + z) ∧ x.1 (q + z) ≤ 57)) → k_nb k (k_nu x q k) := by
  intro k
  induction k with
  | zero => intro _ _ _; exact ⟨by show (0 : Int) ≤ 0; omega, fun _ => by show (0 : Int) ≤ 0; omega, fun _ => by show (0 : Int) ≤ 9; omega, fun _ => by show (0 : Int) ≤ 99; omega, fun _ => by show (0 : Int) ≤ 999; omega⟩
  | succ k ih =>
    intro hk hl hd
    have eb := k_lt_b x q k
    by_cases h : 97 ≤ x.1 (q + k) ∧ x.1 (q + k) ≤ 122
    · rw [k_lt_l h.1 h.2] at hl; omega
    · rw [k_lt_d h] at hl
      have d := hd k (by omega)
      show k_nb (k + 1) (10 * k_nu x q k + (x.1 (q + k) - 48))
      exact (ih (by omega) hl fun z hz => hd z (by omega)).on (by omega) (by omega)
theorem k_rnF_ld (x : k_X) : ∀ k p z, p + z < k_rnF x k p → (97 ≤ x.1 (p + z) ∧ x.1 (p + z) ≤ 122) ∨ (48 ≤ x.1 (p + z) ∧ x.1 (p + z) ≤ 57) := by
  intro k
  induction k with
  | zero => intro p z h; exact absurd (show p + z < p from h) (by omega)
  | succ k ih =>
    intro p z h
    have e : k_rnF x (k + 1) p = (if p < x.2.1 ∧ ((97 ≤ x.1 p ∧ x.1 p ≤ 122) ∨ (48 ≤ x.1 p ∧ x.1 p ≤ 57)) then k_rnF x k (p + 1) else p) := rfl
    rw [e] at h
    by_cases q : p < x.2.1 ∧ ((97 ≤ x.1 p ∧ x.1 p ≤ 122) ∨ (48 ≤ x.1 p ∧ x.1 p ≤ 57))
    · rw [if_pos q] at h
      cases z with
      | zero => exact q.2
      | succ z =>
        have w := ih (p + 1) z (by omega)
        rw [show p + 1 + z = p + (z + 1) from by omega] at w
        exact w
    · rw [if_neg q] at h; omega
theorem k_num_b {x : k_X} {i : Nat} (h : kK x i = 4) : 0 ≤ kV x i ∧ kV x i ≤ 999 := by
  unfold kK at h
  unfold kV
  generalize k_ps x i = p at h ⊢
  unfold k_tk at h ⊢
  by_cases q1 : x.2.1 ≤ x.2.2 ∧ x.2.1 ≤ k_sk x p
  · rw [if_pos q1] at h; exact absurd (show (0 : Int) = 4 from h) (by decide)
  rw [if_neg q1] at h ⊢
  by_cases q2 : x.2.2 < x.2.1 ∧ x.2.2 ≤ k_sk x p
  · rw [if_pos q2] at h; exact absurd (show (1 : Int) = 4 from h) (by decide)
  rw [if_neg q2] at h ⊢
  by_cases q3 : (97 ≤ x.1 (k_sk x p) ∧ x.1 (k_sk x p) ≤ 122) ∨ (48 ≤ x.1 (k_sk x p) ∧ x.1 (k_sk x p) ≤ 57)
  · rw [if_pos q3] at h ⊢
    unfold k_ru at h ⊢
    by_cases q4 : k_lt x (k_sk x p) (k_rn x (k_sk x p) - k_sk x p) = (k_rn x (k_sk x p) - k_sk x p : Nat) ∧ k_rn x (k_sk x p) - k_sk x p ≤ 7
    · rw [if_pos q4] at h; exact absurd (show (2 : Int) = 4 from h) (by decide)
    rw [if_neg q4] at h ⊢
    by_cases q5 : k_lt x (k_sk x p) (k_rn x (k_sk x p) - k_sk x p) = 0 ∧ k_rn x (k_sk x p) - k_sk x p ≤ 3
    · rw [if_pos q5]
      have b := k_nu_b x (k_sk x p) _ q5.2 q5.1 (fun z hz => k_rnF_ld x (x.2.1 - k_sk x p) (k_sk x p) z (by unfold k_rn at hz; omega))
      exact ⟨b.1, b.2.2.2.2 q5.2⟩
    · rw [if_neg q5] at h; exact absurd (show (1 : Int) = 4 from h) (by decide)
  · rw [if_neg q3] at h
    by_cases q6 : x.1 (k_sk x p) = 59 ∨ x.1 (k_sk x p) = 40 ∨ x.1 (k_sk x p) = 41 ∨ (60 ≤ x.1 (k_sk x p) ∧ x.1 (k_sk x p) ≤ 62)
    · rw [if_pos q6] at h; exact absurd (show (5 : Int) = 4 from h) (by decide)
    · rw [if_neg q6] at h; exact absurd (show (1 : Int) = 4 from h) (by decide)
theorem c_X4_readPlain_vk (V : pM → Prop) (hV : Stab V) (G : pG) (Kr : pK) (M : pM) (I : Iv V M) (y : k_X) (i : Nat) (f : Nat → Int) (m : Int) (hp_0 : k_at y M i) (hp_1 : s_nm M f m) (hp_2 : kK y i = 2) (hp_3 : 20 ≤ s_wn y i) (hp_4 : s_wn y i ≤ 27) (hK : ∀ (x : Int32) (M1 : pM), Iv V M1 → Fr [1, 14, 15, 16, 17] M M1 → 0 ≤ x.toInt → x.toInt ≤ 1 → ((x.toInt = 1 ∧ (s_pn y f m i).1 = 0 ∧ k_at y M1 (s_pn y f m i).2.2 ∧ o_i (M1 267) 0 = o_i (M 267) 0) ∨ (x.toInt = 0 ∧ (s_pn y f m i).1 ≠ 0 ∧ o_i (M1 1) 10 = (s_pn y f m i).1 ∧ o_i (M1 1) 11 = (s_pn y f m i).2.1)) → Kr.1 (some (.int x)) 311 M1) : PW G false 4 40 (p_mc 40) (p_msl 40) Kr 0 (lv_args 0 [.ref 267, .ref 1, .ref 4]) [] 311 M 0 0 := by
  have F : Fr [1, 14, 15, 16, 17] M M := Fr.refl
  refine PW.aload_n q_40_0 rfl ?_
  refine PW.gW q_40_1 (Or.inr t_fN_40_123) gF_1_6 kd_1 I.1 (by decide) fun r1 hr1 fr1 => ?_
  have zw : r1 = s_wn y i := s_wd hp_0 hp_2 rfl (by omega) fr1
  refine PW.astore_n q_40_4 (by decide) ?_
  refine PW.aload_n q_40_5 rfl ?_
  refine PW.cV (as := []) (rest := []) q_40_6 t_mv_40_86 kd_1 I.1 (by decide) rfl (by decide) rfl rfl (Nat.le_of_ble_eq_true rfl) (Nat.le_of_ble_eq_true rfl) (by decide) (by decide) ?_
  refine PW.up (by decide) (c_X7_advance_vk (V) (hV) G _ M I y (i + 1) (k_at.nx hp_0 (by omega)) fun M2 IM2 GM2 PM2 => ?_)
  have FM2 := Fr.trans F GM2 (rfl)
  have PtM2 := PM2
  refine PW.aload_n q_40_9 rfl ?_
  refine PW.gets q_40_10 t_st_40_102 ?_
  refine PW.jw_eq q_40_13 rfl hr1 (by decide) (fun h3 => ?_) (fun h3 => ?_)
  · skip
    refine PW.aload_n q_40_30 rfl ?_
    refine PW.aload_n q_40_31 rfl ?_
    refine PW.cI q_40_32 (by decide) fun c4 hc4 => ?_
    refine PW.cI q_40_33 (by decide) fun c5 hc5 => ?_
    refine PW.cV (as := [_, _, _]) (rest := []) q_40_34 t_mv_40_62 kd_267 IM2.1 (by decide) rfl (by decide) rfl rfl (Nat.le_of_ble_eq_true rfl) (Nat.le_of_ble_eq_true rfl) (by decide) (by decide) ?_
    refine PW.up (by decide) (c_X4_add_vk (V) (hV) G _ M2 IM2 r1 hr1 c4 c5 (by omega) (by omega) fun x7 M6 IM6 GM6 hx7 kx7 PM6 => ?_)
    have FM6 := Fr.trans FM2 GM6 (rfl)
    have PoM6 := PM6
    refine PW.rZ q_40_37 rfl (by omega) (by omega) (by decide) (by decide) ?_
    have e : s_pn y f m i = (0, 0, i + 1) := by unfold s_pn; rw [if_pos (by omega)]
    exact hK x7 M6 IM6 FM6 (by omega) (by omega) (by rw [e]; exact Or.inl ⟨by omega, rfl, (PtM2.cg (Fr.at GM6 kd_1 (by decide)) (Fr.at GM6 kd_2 (by decide))), (PoM6.trans (congrArg (fun e => o_i e 0) (Fr.at GM2 kd_267 (by decide))))⟩)
  · skip
    refine PW.aload_n q_40_16 rfl ?_
    refine PW.gets q_40_17 t_st_40_105 ?_
    refine PW.jw_eq q_40_20 rfl hr1 (by decide) (fun h8 => ?_) (fun h8 => ?_)
    · skip
      refine PW.aload_n q_40_30 rfl ?_
      refine PW.aload_n q_40_31 rfl ?_
      refine PW.cI q_40_32 (by decide) fun c9 hc9 => ?_
      refine PW.cI q_40_33 (by decide) fun c10 hc10 => ?_
      refine PW.cV (as := [_, _, _]) (rest := []) q_40_34 t_mv_40_62 kd_267 IM2.1 (by decide) rfl (by decide) rfl rfl (Nat.le_of_ble_eq_true rfl) (Nat.le_of_ble_eq_true rfl) (by decide) (by decide) ?_
      refine PW.up (by decide) (c_X4_add_vk (V) (hV) G _ M2 IM2 r1 hr1 c9 c10 (by omega) (by omega) fun x12 M11 IM11 GM11 hx12 kx12 PM11 => ?_)
      have FM11 := Fr.trans FM2 GM11 (rfl)
      have PoM11 := PM11
      refine PW.rZ q_40_37 rfl (by omega) (by omega) (by decide) (by decide) ?_
      have e : s_pn y f m i = (0, 0, i + 1) := by unfold s_pn; rw [if_pos (by omega)]
      exact hK x12 M11 IM11 FM11 (by omega) (by omega) (by rw [e]; exact Or.inl ⟨by omega, rfl, (PtM2.cg (Fr.at GM11 kd_1 (by decide)) (Fr.at GM11 kd_2 (by decide))), (PoM11.trans (congrArg (fun e => o_i e 0) (Fr.at GM2 kd_267 (by decide))))⟩)
    · skip
      refine PW.aload_n q_40_23 rfl ?_
      refine PW.gets q_40_24 t_st_40_108 ?_
      refine PW.jw_ne q_40_27 rfl hr1 (by decide) (fun h13 => ?_) (fun h13 => ?_)
      · skip
        refine PW.aload_n q_40_38 rfl ?_
        refine PW.gets q_40_39 t_st_40_99 ?_
        refine PW.jw_ne q_40_42 rfl hr1 (by decide) (fun h14 => ?_) (fun h14 => ?_)
        · skip
          refine PW.aload_n q_40_80 rfl ?_
          refine PW.cB q_40_81 (by decide) fun c15 hc15 => ?_
          refine PW.cV (as := [_]) (rest := []) q_40_83 t_mv_40_83 kd_1 IM2.1 (by decide) rfl (by decide) rfl rfl (Nat.le_of_ble_eq_true rfl) (Nat.le_of_ble_eq_true rfl) (by decide) (by decide) ?_
          refine PW.up (by decide) (c_X7_seesSign_vk (V) (hV) G _ M2 IM2 c15 y (i + 1) PtM2 fun x17  hx17 kx17 PM16 => ?_)
          rcases PM16 with ⟨PaM16, PbM16, PcM16⟩ | ⟨PaM16, PnM16⟩
          · skip
            refine PW.jz_ne q_40_86 rfl (fun h18 => ?_) (fun h18 => False.elim (by omega))
            refine PW.aload_n q_40_113 rfl ?_
            refine PW.gI q_40_114 (Or.inr t_fN_40_139) gF_1_9 kd_1 IM2.1 (by decide) fun x19 fx19 hx19 kx19 => ?_
            have ix19 := o_i_of fx19
            clear hx19 kx19
            refine PW.istore q_40_117 (by decide) ?_
            refine PW.aload_n q_40_119 rfl ?_
            refine PW.cV (as := []) (rest := []) q_40_120 t_mv_40_86 kd_1 IM2.1 (by decide) rfl (by decide) rfl rfl (Nat.le_of_ble_eq_true rfl) (Nat.le_of_ble_eq_true rfl) (by decide) (by decide) ?_
            refine PW.up (by decide) (c_X7_advance_vk (V) (hV) G _ M2 IM2 y (i + 1 + 1) (k_at.nx PtM2 (by omega)) fun M20 IM20 GM20 PM20 => ?_)
            have FM20 := Fr.trans FM2 GM20 (rfl)
            have PtM20 := PM20
            refine PW.aload_n q_40_123 rfl ?_
            refine PW.cI q_40_124 (by decide) fun c21 hc21 => ?_
            refine PW.cS q_40_125 (by decide) fun c22 hc22 => ?_
            refine PW.cV (as := [_, _]) (rest := []) q_40_128 t_mv_40_141 kd_1 IM20.1 (by decide) rfl (by decide) rfl rfl (Nat.le_of_ble_eq_true rfl) (Nat.le_of_ble_eq_true rfl) (by decide) (by decide) ?_
            refine PW.up (by decide) (c_X7_needsNumber_vk (V) (hV) G _ M20 IM20 c21 c22 y (i + 2) 0 999 PtM20 (by omega) (by omega) fun x24 M23 IM23 GM23 PM23 => ?_)
            have FM23 := Fr.trans FM20 GM23 (rfl)
            rcases PM23 with ⟨PzM23, PvM23, PlM23, PhM23, PtM23⟩ | ⟨PzM23, PvM23, PfM23, PgM23⟩
            · skip
              refine PW.istore q_40_131 (by decide) ?_
              refine PW.iload q_40_133 rfl ?_
              refine PW.cI q_40_135 (by decide) fun c25 hc25 => ?_
              refine PW.jc_eq q_40_136 rfl (fun h26 => False.elim (by omega)) (fun h26 => ?_)
              refine PW.aload_n q_40_139 rfl ?_
              refine PW.aload_n q_40_140 rfl ?_
              refine PW.iload q_40_141 rfl ?_
              refine PW.iload q_40_143 rfl ?_
              refine PW.cV (as := [_, _, _]) (rest := []) q_40_145 t_mv_40_62 kd_267 IM23.1 (by decide) rfl (by decide) rfl rfl (Nat.le_of_ble_eq_true rfl) (Nat.le_of_ble_eq_true rfl) (by decide) (by decide) ?_
              refine PW.up (by decide) (c_X4_add_vk (V) (hV) G _ M23 IM23 r1 hr1 x19 x24 (by omega) (by omega) fun x28 M27 IM27 GM27 hx28 kx28 PM27 => ?_)
              have FM27 := Fr.trans FM23 GM27 (rfl)
              have PoM27 := PM27
              refine PW.jz_eq q_40_148 rfl (fun h29 => False.elim (by omega)) (fun h29 => ?_)
              refine PW.cI q_40_151 (by decide) fun c30 hc30 => ?_
              refine PW.goto q_40_152 rfl ?_
              refine PW.rZ q_40_156 rfl (by omega) (by omega) (by decide) (by decide) ?_
              have e : s_pn y f m i = (0, 0, i + 3) := by unfold s_pn; rw [if_neg (by omega), if_neg (by omega), if_neg (by omega), if_neg (by have w := s_nr_K (fun h => h PzM23); omega)]
              exact hK c30 M27 IM27 FM27 (by omega) (by omega) (by rw [e]; exact Or.inl ⟨by omega, rfl, (PtM23.cg (Fr.at GM27 kd_1 (by decide)) (Fr.at GM27 kd_2 (by decide))), (PoM27.trans ((congrArg (fun e => o_i e 0) (Fr.at GM23 kd_267 (by decide))).trans ((congrArg (fun e => o_i e 0) (Fr.at GM20 kd_267 (by decide))).trans (congrArg (fun e => o_i e 0) (Fr.at GM2 kd_267 (by decide))))))⟩)
            · skip
              refine PW.istore q_40_131 (by decide) ?_
              refine PW.iload q_40_133 rfl ?_
              refine PW.cI q_40_135 (by decide) fun c31 hc31 => ?_
              refine PW.jc_eq q_40_136 rfl (fun h32 => ?_) (fun h32 => False.elim (by omega))
              refine PW.cI q_40_155 (by decide) fun c33 hc33 => ?_
              refine PW.rZ q_40_156 rfl (by omega) (by omega) (by decide) (by decide) ?_
              have nr : k_nr y (i + 2) 0 999 = 1 ∧ kK y (i + 2) ≠ 4 := s_nr9 PzM23 k_num_b
              have e : s_pn y f m i = (1, kP y (i + 2), 0) := by unfold s_pn; rw [if_neg (by omega), if_neg (by omega), if_neg (by omega), if_pos nr.2]
              exact hK c33 M23 IM23 FM23 (by omega) (by omega) (by rw [e]; exact Or.inr ⟨by omega, (by omega : (1 : Int) ≠ 0), (by omega : o_i (M23 1) 10 = 1), (by omega : o_i (M23 1) 11 = kP y (i + 2))⟩)
          · skip
            refine PW.jz_ne q_40_86 rfl (fun h34 => False.elim (by omega)) (fun h34 => ?_)
            refine PW.aload_n q_40_89 rfl ?_
            refine PW.cB q_40_90 (by decide) fun c35 hc35 => ?_
            refine PW.cV (as := [_]) (rest := []) q_40_92 t_mv_40_83 kd_1 IM2.1 (by decide) rfl (by decide) rfl rfl (Nat.le_of_ble_eq_true rfl) (Nat.le_of_ble_eq_true rfl) (by decide) (by decide) ?_
            refine PW.up (by decide) (c_X7_seesSign_vk (V) (hV) G _ M2 IM2 c35 y (i + 1) PtM2 fun x37  hx37 kx37 PM36 => ?_)
            rcases PM36 with ⟨PaM36, PbM36, PcM36⟩ | ⟨PaM36, PnM36⟩
            · skip
              refine PW.jz_ne q_40_95 rfl (fun h38 => ?_) (fun h38 => False.elim (by omega))
              refine PW.aload_n q_40_113 rfl ?_
              refine PW.gI q_40_114 (Or.inr t_fN_40_139) gF_1_9 kd_1 IM2.1 (by decide) fun x39 fx39 hx39 kx39 => ?_
              have ix39 := o_i_of fx39
              clear hx39 kx39
              refine PW.istore q_40_117 (by decide) ?_
              refine PW.aload_n q_40_119 rfl ?_
              refine PW.cV (as := []) (rest := []) q_40_120 t_mv_40_86 kd_1 IM2.1 (by decide) rfl (by decide) rfl rfl (Nat.le_of_ble_eq_true rfl) (Nat.le_of_ble_eq_true rfl) (by decide) (by decide) ?_
              refine PW.up (by decide) (c_X7_advance_vk (V) (hV) G _ M2 IM2 y (i + 1 + 1) (k_at.nx PtM2 (by omega)) fun M40 IM40 GM40 PM40 => ?_)
              have FM40 := Fr.trans FM2 GM40 (rfl)
              have PtM40 := PM40
              refine PW.aload_n q_40_123 rfl ?_
              refine PW.cI q_40_124 (by decide) fun c41 hc41 => ?_
              refine PW.cS q_40_125 (by decide) fun c42 hc42 => ?_
              refine PW.cV (as := [_, _]) (rest := []) q_40_128 t_mv_40_141 kd_1 IM40.1 (by decide) rfl (by decide) rfl rfl (Nat.le_of_ble_eq_true rfl) (Nat.le_of_ble_eq_true rfl) (by decide) (by decide) ?_
              refine PW.up (by decide) (c_X7_needsNumber_vk (V) (hV) G _ M40 IM40 c41 c42 y (i + 2) 0 999 PtM40 (by omega) (by omega) fun x44 M43 IM43 GM43 PM43 => ?_)
              have FM43 := Fr.trans FM40 GM43 (rfl)
              rcases PM43 with ⟨PzM43, PvM43, PlM43, PhM43, PtM43⟩ | ⟨PzM43, PvM43, PfM43, PgM43⟩
              · skip
                refine PW.istore q_40_131 (by decide) ?_
                refine PW.iload q_40_133 rfl ?_
                refine PW.cI q_40_135 (by decide) fun c45 hc45 => ?_
                refine PW.jc_eq q_40_136 rfl (fun h46 => False.elim (by omega)) (fun h46 => ?_)
                refine PW.aload_n q_40_139 rfl ?_
                refine PW.aload_n q_40_140 rfl ?_
                refine PW.iload q_40_141 rfl ?_
                refine PW.iload q_40_143 rfl ?_
                refine PW.cV (as := [_, _, _]) (rest := []) q_40_145 t_mv_40_62 kd_267 IM43.1 (by decide) rfl (by decide) rfl rfl (Nat.le_of_ble_eq_true rfl) (Nat.le_of_ble_eq_true rfl) (by decide) (by decide) ?_
                refine PW.up (by decide) (c_X4_add_vk (V) (hV) G _ M43 IM43 r1 hr1 x39 x44 (by omega) (by omega) fun x48 M47 IM47 GM47 hx48 kx48 PM47 => ?_)
                have FM47 := Fr.trans FM43 GM47 (rfl)
                have PoM47 := PM47
                refine PW.jz_eq q_40_148 rfl (fun h49 => False.elim (by omega)) (fun h49 => ?_)
                refine PW.cI q_40_151 (by decide) fun c50 hc50 => ?_
                refine PW.goto q_40_152 rfl ?_
                refine PW.rZ q_40_156 rfl (by omega) (by omega) (by decide) (by decide) ?_
                have e : s_pn y f m i = (0, 0, i + 3) := by unfold s_pn; rw [if_neg (by omega), if_neg (by omega), if_neg (by omega), if_neg (by have w := s_nr_K (fun h => h PzM43); omega)]
                exact hK c50 M47 IM47 FM47 (by omega) (by omega) (by rw [e]; exact Or.inl ⟨by omega, rfl, (PtM43.cg (Fr.at GM47 kd_1 (by decide)) (Fr.at GM47 kd_2 (by decide))), (PoM47.trans ((congrArg (fun e => o_i e 0) (Fr.at GM43 kd_267 (by decide))).trans ((congrArg (fun e => o_i e 0) (Fr.at GM40 kd_267 (by decide))).trans (congrArg (fun e => o_i e 0) (Fr.at GM2 kd_267 (by decide))))))⟩)
              · skip
                refine PW.istore q_40_131 (by decide) ?_
                refine PW.iload q_40_133 rfl ?_
                refine PW.cI q_40_135 (by decide) fun c51 hc51 => ?_
                refine PW.jc_eq q_40_136 rfl (fun h52 => ?_) (fun h52 => False.elim (by omega))
                refine PW.cI q_40_155 (by decide) fun c53 hc53 => ?_
                refine PW.rZ q_40_156 rfl (by omega) (by omega) (by decide) (by decide) ?_
                have nr : k_nr y (i + 2) 0 999 = 1 ∧ kK y (i + 2) ≠ 4 := s_nr9 PzM43 k_num_b
                have e : s_pn y f m i = (1, kP y (i + 2), 0) := by unfold s_pn; rw [if_neg (by omega), if_neg (by omega), if_neg (by omega), if_pos nr.2]
                exact hK c53 M43 IM43 FM43 (by omega) (by omega) (by rw [e]; exact Or.inr ⟨by omega, (by omega : (1 : Int) ≠ 0), (by omega : o_i (M43 1) 10 = 1), (by omega : o_i (M43 1) 11 = kP y (i + 2))⟩)
            · skip
              refine PW.jz_ne q_40_95 rfl (fun h54 => False.elim (by omega)) (fun h54 => ?_)
              refine PW.aload_n q_40_98 rfl ?_
              refine PW.cB q_40_99 (by decide) fun c55 hc55 => ?_
              refine PW.cV (as := [_]) (rest := []) q_40_101 t_mv_40_83 kd_1 IM2.1 (by decide) rfl (by decide) rfl rfl (Nat.le_of_ble_eq_true rfl) (Nat.le_of_ble_eq_true rfl) (by decide) (by decide) ?_
              refine PW.up (by decide) (c_X7_seesSign_vk (V) (hV) G _ M2 IM2 c55 y (i + 1) PtM2 fun x57  hx57 kx57 PM56 => ?_)
              rcases PM56 with ⟨PaM56, PbM56, PcM56⟩ | ⟨PaM56, PnM56⟩
              · skip
                refine PW.jz_ne q_40_104 rfl (fun h58 => ?_) (fun h58 => False.elim (by omega))
                refine PW.aload_n q_40_113 rfl ?_
                refine PW.gI q_40_114 (Or.inr t_fN_40_139) gF_1_9 kd_1 IM2.1 (by decide) fun x59 fx59 hx59 kx59 => ?_
                have ix59 := o_i_of fx59
                clear hx59 kx59
                refine PW.istore q_40_117 (by decide) ?_
                refine PW.aload_n q_40_119 rfl ?_
                refine PW.cV (as := []) (rest := []) q_40_120 t_mv_40_86 kd_1 IM2.1 (by decide) rfl (by decide) rfl rfl (Nat.le_of_ble_eq_true rfl) (Nat.le_of_ble_eq_true rfl) (by decide) (by decide) ?_
                refine PW.up (by decide) (c_X7_advance_vk (V) (hV) G _ M2 IM2 y (i + 1 + 1) (k_at.nx PtM2 (by omega)) fun M60 IM60 GM60 PM60 => ?_)
                have FM60 := Fr.trans FM2 GM60 (rfl)
                have PtM60 := PM60
                refine PW.aload_n q_40_123 rfl ?_
                refine PW.cI q_40_124 (by decide) fun c61 hc61 => ?_
                refine PW.cS q_40_125 (by decide) fun c62 hc62 => ?_
                refine PW.cV (as := [_, _]) (rest := []) q_40_128 t_mv_40_141 kd_1 IM60.1 (by decide) rfl (by decide) rfl rfl (Nat.le_of_ble_eq_true rfl) (Nat.le_of_ble_eq_true rfl) (by decide) (by decide) ?_
                refine PW.up (by decide) (c_X7_needsNumber_vk (V) (hV) G _ M60 IM60 c61 c62 y (i + 2) 0 999 PtM60 (by omega) (by omega) fun x64 M63 IM63 GM63 PM63 => ?_)
                have FM63 := Fr.trans FM60 GM63 (rfl)
                rcases PM63 with ⟨PzM63, PvM63, PlM63, PhM63, PtM63⟩ | ⟨PzM63, PvM63, PfM63, PgM63⟩
                · skip
                  refine PW.istore q_40_131 (by decide) ?_
                  refine PW.iload q_40_133 rfl ?_
                  refine PW.cI q_40_135 (by decide) fun c65 hc65 => ?_
                  refine PW.jc_eq q_40_136 rfl (fun h66 => False.elim (by omega)) (fun h66 => ?_)
                  refine PW.aload_n q_40_139 rfl ?_
                  refine PW.aload_n q_40_140 rfl ?_
                  refine PW.iload q_40_141 rfl ?_
                  refine PW.iload q_40_143 rfl ?_
                  refine PW.cV (as := [_, _, _]) (rest := []) q_40_145 t_mv_40_62 kd_267 IM63.1 (by decide) rfl (by decide) rfl rfl (Nat.le_of_ble_eq_true rfl) (Nat.le_of_ble_eq_true rfl) (by decide) (by decide) ?_
                  refine PW.up (by decide) (c_X4_add_vk (V) (hV) G _ M63 IM63 r1 hr1 x59 x64 (by omega) (by omega) fun x68 M67 IM67 GM67 hx68 kx68 PM67 => ?_)
                  have FM67 := Fr.trans FM63 GM67 (rfl)
                  have PoM67 := PM67
                  refine PW.jz_eq q_40_148 rfl (fun h69 => False.elim (by omega)) (fun h69 => ?_)
                  refine PW.cI q_40_151 (by decide) fun c70 hc70 => ?_
                  refine PW.goto q_40_152 rfl ?_
                  refine PW.rZ q_40_156 rfl (by omega) (by omega) (by decide) (by decide) ?_
                  have e : s_pn y f m i = (0, 0, i + 3) := by unfold s_pn; rw [if_neg (by omega), if_neg (by omega), if_neg (by omega), if_neg (by have w := s_nr_K (fun h => h PzM63); omega)]
                  exact hK c70 M67 IM67 FM67 (by omega) (by omega) (by rw [e]; exact Or.inl ⟨by omega, rfl, (PtM63.cg (Fr.at GM67 kd_1 (by decide)) (Fr.at GM67 kd_2 (by decide))), (PoM67.trans ((congrArg (fun e => o_i e 0) (Fr.at GM63 kd_267 (by decide))).trans ((congrArg (fun e => o_i e 0) (Fr.at GM60 kd_267 (by decide))).trans (congrArg (fun e => o_i e 0) (Fr.at GM2 kd_267 (by decide))))))⟩)
                · skip
                  refine PW.istore q_40_131 (by decide) ?_
                  refine PW.iload q_40_133 rfl ?_
                  refine PW.cI q_40_135 (by decide) fun c71 hc71 => ?_
                  refine PW.jc_eq q_40_136 rfl (fun h72 => ?_) (fun h72 => False.elim (by omega))
                  refine PW.cI q_40_155 (by decide) fun c73 hc73 => ?_
                  refine PW.rZ q_40_156 rfl (by omega) (by omega) (by decide) (by decide) ?_
                  have nr : k_nr y (i + 2) 0 999 = 1 ∧ kK y (i + 2) ≠ 4 := s_nr9 PzM63 k_num_b
                  have e : s_pn y f m i = (1, kP y (i + 2), 0) := by unfold s_pn; rw [if_neg (by omega), if_neg (by omega), if_neg (by omega), if_pos nr.2]
                  exact hK c73 M63 IM63 FM63 (by omega) (by omega) (by rw [e]; exact Or.inr ⟨by omega, (by omega : (1 : Int) ≠ 0), (by omega : o_i (M63 1) 10 = 1), (by omega : o_i (M63 1) 11 = kP y (i + 2))⟩)
              · skip
                refine PW.jz_ne q_40_104 rfl (fun h74 => False.elim (by omega)) (fun h74 => ?_)
                refine PW.aload_n q_40_107 rfl ?_
                refine PW.cI q_40_108 (by decide) fun c75 hc75 => ?_
                refine PW.cV (as := [_]) (rest := []) q_40_109 t_mv_40_76 kd_1 IM2.1 (by decide) rfl (by decide) rfl rfl (Nat.le_of_ble_eq_true rfl) (Nat.le_of_ble_eq_true rfl) (by decide) (by decide) ?_
                refine PW.up (by decide) (c_X7_fail_vk (V) (hV) G _ M2 IM2 c75 y (i + 1) PtM2 fun x77 M76 IM76 GM76 hx77 kx77 PM76 => ?_)
                have FM76 := Fr.trans FM2 GM76 (rfl)
                rcases PM76 with ⟨PfM76, PgM76⟩
                refine PW.rZ q_40_112 rfl (by omega) (by omega) (by decide) (by decide) ?_
                have e : s_pn y f m i = (1, kP y (i + 1), 0) := by unfold s_pn; rw [if_neg (by omega), if_neg (by omega), if_pos (fun h => by rcases h.2 with q | q | q; (· exact PnM16 ⟨h.1, q.trans (by omega)⟩); (· exact PnM36 ⟨h.1, q.trans (by omega)⟩); (· exact PnM56 ⟨h.1, q.trans (by omega)⟩))]
                exact hK x77 M76 IM76 FM76 (by omega) (by omega) (by rw [e]; exact Or.inr ⟨by omega, (by omega : (1 : Int) ≠ 0), (by omega : o_i (M76 1) 10 = 1), (by omega : o_i (M76 1) 11 = kP y (i + 1))⟩)
        · skip
          refine PW.aload_n q_40_45 rfl ?_
          refine PW.aload_n q_40_46 rfl ?_
          refine PW.gR 5 q_40_47 (Or.inr t_fN_40_126) gF_4_8 kd_4 IM2.1 (by decide) rfl ?_
          refine PW.aload_n q_40_50 rfl ?_
          refine PW.gI q_40_51 (Or.inr t_fN_40_132) gF_4_6 kd_4 IM2.1 (by decide) fun x78 fx78 hx78 kx78 => ?_
          have ix78 := o_i_of fx78
          refine PW.cV (as := [_, _]) (rest := []) q_40_54 t_mv_40_135 kd_1 IM2.1 (by decide) rfl (by decide) rfl rfl (Nat.le_of_ble_eq_true rfl) (Nat.le_of_ble_eq_true rfl) (by decide) (by decide) ?_
          refine PW.up (by decide) (c_X7_needsKnown_vk (V) (hV) G _ M2 IM2 5 kd_5 x78 (by omega) (by omega) y (i + 1) f m PtM2 (hp_1.cg (Fr.at GM2 kd_4 (by decide)) (Fr.at GM2 kd_5 (by decide))).2 (by have w := (hp_1.cg (Fr.at GM2 kd_4 (by decide)) (Fr.at GM2 kd_5 (by decide))).1; omega) fun x80 M79 IM79 GM79 hx80 kx80 PM79 => ?_)
          have FM79 := Fr.trans FM2 GM79 (rfl)
          rcases PM79 with ⟨PaM79, PbM79, PfM79, PgM79⟩ | ⟨PaM79, PbM79, PcM79, PfM79, PgM79⟩ | ⟨PaM79, PbM79, PcM79, PtM79⟩
          · skip
            refine PW.istore q_40_57 (by decide) ?_
            refine PW.iload q_40_59 rfl ?_
            refine PW.cI q_40_61 (by decide) fun c81 hc81 => ?_
            refine PW.jc_ne q_40_62 rfl (fun h82 => False.elim (by omega)) (fun h82 => ?_)
            refine PW.cI q_40_65 (by decide) fun c83 hc83 => ?_
            refine PW.rZ q_40_66 rfl (by omega) (by omega) (by decide) (by decide) ?_
            have e : s_pn y f m i = (1, kP y (i + 1), 0) := by unfold s_pn; rw [if_neg (by omega), if_pos (by omega), if_pos (by omega)]
            exact hK c83 M79 IM79 FM79 (by omega) (by omega) (by rw [e]; exact Or.inr ⟨by omega, (by omega : (1 : Int) ≠ 0), (by omega : o_i (M79 1) 10 = 1), (by omega : o_i (M79 1) 11 = kP y (i + 1))⟩)
          · skip
            refine PW.istore q_40_57 (by decide) ?_
            refine PW.iload q_40_59 rfl ?_
            refine PW.cI q_40_61 (by decide) fun c84 hc84 => ?_
            refine PW.jc_ne q_40_62 rfl (fun h85 => False.elim (by omega)) (fun h85 => ?_)
            refine PW.cI q_40_65 (by decide) fun c86 hc86 => ?_
            refine PW.rZ q_40_66 rfl (by omega) (by omega) (by decide) (by decide) ?_
            have e : s_pn y f m i = (3, kP y (i + 1), 0) := by unfold s_pn; rw [if_neg (by omega), if_pos (by omega), if_neg (by omega), if_pos (by omega)]
            exact hK c86 M79 IM79 FM79 (by omega) (by omega) (by rw [e]; exact Or.inr ⟨by omega, (by omega : (3 : Int) ≠ 0), (by omega : o_i (M79 1) 10 = 3), (by omega : o_i (M79 1) 11 = kP y (i + 1))⟩)
          · skip
            have knM79 := s_ni_K PaM79
            refine PW.istore q_40_57 (by decide) ?_
            refine PW.iload q_40_59 rfl ?_
            refine PW.cI q_40_61 (by decide) fun c87 hc87 => ?_
            refine PW.jc_ne q_40_62 rfl (fun h88 => ?_) (fun h88 => False.elim (by omega))
            refine PW.aload_n q_40_67 rfl ?_
            refine PW.cV (as := []) (rest := []) q_40_68 t_mv_40_86 kd_1 IM79.1 (by decide) rfl (by decide) rfl rfl (Nat.le_of_ble_eq_true rfl) (Nat.le_of_ble_eq_true rfl) (by decide) (by decide) ?_
            refine PW.up (by decide) (c_X7_advance_vk (V) (hV) G _ M79 IM79 y (i + 1 + 1) (k_at.nx PtM79 (by omega)) fun M89 IM89 GM89 PM89 => ?_)
            have FM89 := Fr.trans FM79 GM89 (rfl)
            have PtM89 := PM89
            refine PW.aload_n q_40_71 rfl ?_
            refine PW.aload_n q_40_72 rfl ?_
            refine PW.cI q_40_73 (by decide) fun c90 hc90 => ?_
            refine PW.iload q_40_74 rfl ?_
            refine PW.cV (as := [_, _, _]) (rest := []) q_40_76 t_mv_40_62 kd_267 IM89.1 (by decide) rfl (by decide) rfl rfl (Nat.le_of_ble_eq_true rfl) (Nat.le_of_ble_eq_true rfl) (by decide) (by decide) ?_
            refine PW.up (by decide) (c_X4_add_vk (V) (hV) G _ M89 IM89 r1 hr1 c90 x80 (by omega) (by omega) fun x92 M91 IM91 GM91 hx92 kx92 PM91 => ?_)
            have FM91 := Fr.trans FM89 GM91 (rfl)
            have PoM91 := PM91
            refine PW.rZ q_40_79 rfl (by omega) (by omega) (by decide) (by decide) ?_
            have e : s_pn y f m i = (0, 0, i + 2) := by unfold s_pn; rw [if_neg (by omega), if_pos (by omega), if_neg (by omega), if_neg (by omega)]
            exact hK x92 M91 IM91 FM91 (by omega) (by omega) (by rw [e]; exact Or.inl ⟨by omega, rfl, (PtM89.cg (Fr.at GM91 kd_1 (by decide)) (Fr.at GM91 kd_2 (by decide))), (PoM91.trans ((congrArg (fun e => o_i e 0) (Fr.at GM89 kd_267 (by decide))).trans ((congrArg (fun e => o_i e 0) (Fr.at GM79 kd_267 (by decide))).trans (congrArg (fun e => o_i e 0) (Fr.at GM2 kd_267 (by decide))))))⟩)
      · skip
        refine PW.aload_n q_40_30 rfl ?_
        refine PW.aload_n q_40_31 rfl ?_
        refine PW.cI q_40_32 (by decide) fun c93 hc93 => ?_
        refine PW.cI q_40_33 (by decide) fun c94 hc94 => ?_
        refine PW.cV (as := [_, _, _]) (rest := []) q_40_34 t_mv_40_62 kd_267 IM2.1 (by decide) rfl (by decide) rfl rfl (Nat.le_of_ble_eq_true rfl) (Nat.le_of_ble_eq_true rfl) (by decide) (by decide) ?_
        refine PW.up (by decide) (c_X4_add_vk (V) (hV) G _ M2 IM2 r1 hr1 c93 c94 (by omega) (by omega) fun x96 M95 IM95 GM95 hx96 kx96 PM95 => ?_)
        have FM95 := Fr.trans FM2 GM95 (rfl)
        have PoM95 := PM95
        refine PW.rZ q_40_37 rfl (by omega) (by omega) (by decide) (by decide) ?_
        have e : s_pn y f m i = (0, 0, i + 1) := by unfold s_pn; rw [if_pos (by omega)]
        exact hK x96 M95 IM95 FM95 (by omega) (by omega) (by rw [e]; exact Or.inl ⟨by omega, rfl, (PtM2.cg (Fr.at GM95 kd_1 (by decide)) (Fr.at GM95 kd_2 (by decide))), (PoM95.trans (congrArg (fun e => o_i e 0) (Fr.at GM2 kd_267 (by decide))))⟩)
theorem s_li.no {x : k_X} {f : Nat → Int} {m : Int} {i : Nat} {st : List Bool} {on : Int} {w : Nat} {M1 : pM} {g c : Int} (h : s_li x f m i st on w M1 g c) (hg : g = 0) : s_bad x f m (i, false, st, on) M1 := by
  rcases h with ⟨q, -⟩ | ⟨-, q⟩
  · omega
  · exact q
theorem s_li.full {x : k_X} {f : Nat → Int} {m : Int} {i : Nat} {st : List Bool} {on : Int} {w : Nat} {M1 : pM} {g c : Int} (h : s_li x f m i st on w M1 g c) (hc : 20 ≤ c) (ho : 0 ≤ on) : g = 0 ∧ s_bad x f m (i, false, st, on) M1 := by
  rcases h with ⟨-, j, o, q, -⟩ | ⟨q1, q⟩
  · exfalso
    have a := q.2.1
    have b := q.2.2.1
    omega
  · exact ⟨q1, q⟩
theorem s_fin.of {x : k_X} {f : Nat → Int} {m : Int} {s d : s_S} {k p : Int} (e : s_st x f m s = (k, p, d)) (h : k ≠ 0) : s_fin x f m s (k, p) := by
  have w := s_fin.here (x := x) (f := f) (m := m) (s := s) (by rw [e]; exact h)
  rw [e] at w
  exact w
theorem c_X4_readOne_vk9 (V : pM → Prop) (hV : Stab V) (G : pG) (Kr : pK) (M : pM) (I : Iv V M) (a3 : Int32) (hl_a3 : 9 ≤ a3.toInt) (hh_a3 : a3.toInt ≤ 9) (y : k_X) (i : Nat) (f : Nat → Int) (m : Int) (st : List Bool) (on : Int) (hp_0 : k_at y M i) (hp_1 : s_nm M f m) (hp_2 : o_i (M 267) 0 = on) (hp_3 : st.length + 1 = 9) (hp_4 : 0 ≤ on) (hK : ∀ (x : Int32) (M1 : pM), Iv V M1 → Fr [1] M M1 → 0 ≤ x.toInt → x.toInt ≤ 1 → (s_oq y f m i st on x M1) → Kr.1 (some (.int x)) 311 M1) : PW G false 2 38 (p_mc 38) (p_msl 38) Kr 0 (lv_args 0 [.ref 267, .ref 1, .ref 4, .int a3]) [] 311 M 0 0 := by
  have F : Fr [1] M M := Fr.refl
  obtain ⟨w267_0, fw267_0, hw267_0, kw267_0⟩ := gF_14_0.int kd_267 I.1 (by decide)
  have iw267_0 := o_i_of fw267_0
  have jw267_0 : w267_0.toInt = on := by have w := hp_2; omega
  refine PW.aload_n q_38_0 rfl ?_
  refine PW.callS (as := [_]) (rest := []) q_38_1 t_ms_38_72 (by decide) rfl (Nat.le_of_ble_eq_true rfl) (Nat.le_of_ble_eq_true rfl) (by decide) (by decide) ?_
  refine PW.up (by decide) (c_X4_beginsOne_vk (V) (hV) G _ M I y (i) hp_0 fun x2  hx2 kx2 PM1 => ?_)
  rcases PM1 with ⟨PaM1, PbM1⟩ | ⟨PaM1, PnM1⟩
  · skip
    refine PW.jz_ne q_38_4 rfl (fun h3 => ?_) (fun h3 => False.elim (by omega))
    refine PW.aload_n q_38_13 rfl ?_
    refine PW.gE q_38_14 (Or.inl t_ft_38_27) gF_14_0 kd_267 I.1 (by decide) fw267_0 ?_
    refine PW.cB q_38_17 (by decide) fun c4 hc4 => ?_
    refine PW.jc_ge q_38_19 rfl (fun h5 => ?_) (fun h5 => ?_)
    · skip
      refine PW.aload_n q_38_28 rfl ?_
      refine PW.cI q_38_29 (by decide) fun c6 hc6 => ?_
      refine PW.cV (as := [_]) (rest := []) q_38_30 t_mv_38_76 kd_1 I.1 (by decide) rfl (by decide) rfl rfl (Nat.le_of_ble_eq_true rfl) (Nat.le_of_ble_eq_true rfl) (by decide) (by decide) ?_
      refine PW.up (by decide) (c_X7_fail_vk (V) (hV) G _ M I c6 y (i) hp_0 fun x8 M7 IM7 GM7 hx8 kx8 PM7 => ?_)
      have FM7 := Fr.trans F GM7 (rfl)
      rcases PM7 with ⟨PfM7, PgM7⟩
      refine PW.rZ q_38_33 rfl (by omega) (by omega) (by decide) (by decide) ?_
      have e : s_st y f m (i, false, st, on) = (4, kP y i, (0, false, [], 0)) := by show s_op y f m i st on = _; unfold s_op; rw [if_neg (not_not_intro PbM1), if_pos (by omega)]
      exact hK x8 M7 IM7 FM7 (by omega) (by omega) (Or.inr ⟨by omega, s_bad.of e (by omega) (by omega) (by omega) (by omega)⟩)
    · skip
      refine PW.iload_n q_38_22 rfl ?_
      refine PW.cB q_38_23 (by decide) fun c9 hc9 => ?_
      refine PW.jc_le q_38_25 rfl (fun h10 => False.elim (by omega)) (fun h10 => ?_)
      refine PW.aload_n q_38_28 rfl ?_
      refine PW.cI q_38_29 (by decide) fun c11 hc11 => ?_
      refine PW.cV (as := [_]) (rest := []) q_38_30 t_mv_38_76 kd_1 I.1 (by decide) rfl (by decide) rfl rfl (Nat.le_of_ble_eq_true rfl) (Nat.le_of_ble_eq_true rfl) (by decide) (by decide) ?_
      refine PW.up (by decide) (c_X7_fail_vk (V) (hV) G _ M I c11 y (i) hp_0 fun x13 M12 IM12 GM12 hx13 kx13 PM12 => ?_)
      have FM12 := Fr.trans F GM12 (rfl)
      rcases PM12 with ⟨PfM12, PgM12⟩
      refine PW.rZ q_38_33 rfl (by omega) (by omega) (by decide) (by decide) ?_
      have e : s_st y f m (i, false, st, on) = (4, kP y i, (0, false, [], 0)) := by show s_op y f m i st on = _; unfold s_op; rw [if_neg (not_not_intro PbM1), if_pos (by omega)]
      exact hK x13 M12 IM12 FM12 (by omega) (by omega) (Or.inr ⟨by omega, s_bad.of e (by omega) (by omega) (by omega) (by omega)⟩)
  · skip
    refine PW.jz_ne q_38_4 rfl (fun h14 => False.elim (by omega)) (fun h14 => ?_)
    refine PW.aload_n q_38_7 rfl ?_
    refine PW.cI q_38_8 (by decide) fun c15 hc15 => ?_
    refine PW.cV (as := [_]) (rest := []) q_38_9 t_mv_38_76 kd_1 I.1 (by decide) rfl (by decide) rfl rfl (Nat.le_of_ble_eq_true rfl) (Nat.le_of_ble_eq_true rfl) (by decide) (by decide) ?_
    refine PW.up (by decide) (c_X7_fail_vk (V) (hV) G _ M I c15 y (i) hp_0 fun x17 M16 IM16 GM16 hx17 kx17 PM16 => ?_)
    have FM16 := Fr.trans F GM16 (rfl)
    rcases PM16 with ⟨PfM16, PgM16⟩
    refine PW.rZ q_38_12 rfl (by omega) (by omega) (by decide) (by decide) ?_
    have e : s_st y f m (i, false, st, on) = (1, kP y i, (0, false, [], 0)) := by show s_op y f m i st on = _; unfold s_op; rw [if_pos PnM1]
    exact hK x17 M16 IM16 FM16 (by omega) (by omega) (Or.inr ⟨by omega, s_bad.of e (by omega) (by omega) (by omega) (by omega)⟩)
theorem c_X4_readAll_vk9 (V : pM → Prop) (hV : Stab V) (G : pG) (Kr : pK) (M : pM) (I : Iv V M) (a3 : Int32) (hl_a3 : 9 ≤ a3.toInt) (hh_a3 : a3.toInt ≤ 9) (y : k_X) (i : Nat) (f : Nat → Int) (m : Int) (st : List Bool) (on : Int) (hp_0 : k_at y M i) (hp_1 : s_nm M f m) (hp_2 : o_i (M 267) 0 = on) (hp_3 : st.length + 1 = 9) (hp_4 : 0 ≤ on) (hp_5 : s_dn st = st) (hK : ∀ (x : Int32) (M1 : pM), Iv V M1 → Fr [1, 14, 15, 16, 17] M M1 → 0 ≤ x.toInt → x.toInt ≤ 1 → (s_lq y f m i st on x M1) → Kr.1 (some (.int x)) 311 M1) : PW G false 4 37 (p_mc 37) (p_msl 37) Kr 0 (lv_args 0 [.ref 267, .ref 1, .ref 4, .int a3]) [] 311 M 0 0 := by
  have F : Fr [1, 14, 15, 16, 17] M M := Fr.refl
  obtain ⟨w267_0, fw267_0, hw267_0, kw267_0⟩ := gF_14_0.int kd_267 I.1 (by decide)
  have iw267_0 := o_i_of fw267_0
  have jw267_0 : w267_0.toInt = on := by have w := hp_2; omega
  refine PW.aload_n q_37_0 rfl ?_
  refine PW.aload_n q_37_1 rfl ?_
  refine PW.aload_n q_37_2 rfl ?_
  refine PW.iload_n q_37_3 rfl ?_
  refine PW.cV (as := [_, _, _]) (rest := []) q_37_4 t_mv_37_66 kd_267 I.1 (by decide) rfl (by decide) rfl rfl (Nat.le_of_ble_eq_true rfl) (Nat.le_of_ble_eq_true rfl) (by decide) (by decide) ?_
  refine PW.up (by decide) (c_X4_readOne_vk9 (V) (hV) G _ M I a3 (by omega) (by omega) y (i) f m st on hp_0 hp_1 hp_2 hp_3 (by omega) fun x2 M1 IM1 GM1 hx2 kx2 PM1 => ?_)
  have FM1 := Fr.trans F GM1 (rfl)
  rcases PM1 with ⟨PaM1, jM1, oM1, PkM1⟩ | ⟨PaM1, PkM1⟩
  · skip
    have koM1 := PkM1.2
    refine PW.istore q_37_7 (by decide) ?_
    refine PW.cI q_37_9 (by decide) fun c3 hc3 => ?_
    refine PW.istore q_37_10 (by decide) ?_
    have L37_12_4 : ∀ (n : Nat) (ML37_12_4 : pM) (v5 v6 : Int32), Iv (V) ML37_12_4 → Fr [1, 14, 15, 16, 17] M ML37_12_4 → 0 ≤ v5.toInt → v5.toInt ≤ 1 → 0 ≤ v6.toInt → v6.toInt ≤ 20 → s_li y f m i st on 18 ML37_12_4 v5.toInt v6.toInt → ML37_12_4 4 = M 4 → ML37_12_4 5 = M 5 → (20 - v6.toInt).toNat = n → PW G false 4 37 (p_mc 37) (p_msl 37) Kr 12 [(0, .ref 267), (1, .ref 1), (2, .ref 4), (3, .int a3), (4, .int v5), (5, .int v6)] [] 311 ML37_12_4 0 0 := by
      intro n
      induction n using Nat.strongRecOn with
      | ind n ih_L37_12_4 =>
      intro ML37_12_4 v5 v6 IML37_12_4 FML37_12_4 hbL37_12_40 hbL37_12_41 hbL37_12_42 hbL37_12_43 hbL37_12_44 hbL37_12_45 hbL37_12_46 hmL37_12_4
      refine PW.iload q_37_12 rfl ?_
      refine PW.cB q_37_14 (by decide) fun c7 hc7 => ?_
      refine PW.jc_ge q_37_16 rfl (fun h8 => ?_) (fun h8 => ?_)
      · skip
        refine PW.iload q_37_69 rfl ?_
        refine PW.rZ q_37_71 rfl (by omega) (by omega) (by decide) (by decide) ?_
        exact hK v5 ML37_12_4 IML37_12_4 FML37_12_4 (by omega) (by omega) (Or.inr ⟨(s_li.full hbL37_12_44 (by omega) hp_4).1, (s_li.full hbL37_12_44 (by omega) hp_4).2⟩)
      · skip
        refine PW.iload q_37_19 rfl ?_
        refine PW.jz_eq q_37_21 rfl (fun h9 => ?_) (fun h9 => ?_)
        · skip
          refine PW.iload q_37_69 rfl ?_
          refine PW.rZ q_37_71 rfl (by omega) (by omega) (by decide) (by decide) ?_
          exact hK v5 ML37_12_4 IML37_12_4 FML37_12_4 (by omega) (by omega) (Or.inr ⟨by omega, (s_li.no hbL37_12_44 (by omega))⟩)
        · skip
          obtain ⟨j0, o0, K0, N0⟩ : ∃ (j0 : Nat) (o0 : Int), s_ok y f m (i, false, st, on) st (on + v6.toInt) ML37_12_4 j0 o0 ∧ (18 = 17 → ¬ (kK y j0 = 2 ∧ s_wn y j0 = 18)) := by rcases hbL37_12_44 with q | q; (· exact q.2); (· omega)
          have T0 := K0.1
          have B0 := K0.2.1
          have B1 := K0.2.2.1
          refine PW.aload_n q_37_24 rfl ?_
          refine PW.gets q_37_25 t_st_37_69 ?_
          refine PW.cV (as := [_]) (rest := []) q_37_28 t_mv_37_58 kd_1 IML37_12_4.1 (by decide) rfl (by decide) rfl rfl (Nat.le_of_ble_eq_true rfl) (Nat.le_of_ble_eq_true rfl) (by decide) (by decide) ?_
          refine PW.up (by decide) (c_X7_takes_vk (V) (hV) G _ ML37_12_4 IML37_12_4 18 (by decide) y (j0) K0.2.2.2.1 fun x11 M10 IM10 GM10 hx11 kx11 PM10 => ?_)
          have FM10 := Fr.trans FML37_12_4 GM10 (rfl)
          rcases PM10 with ⟨PaM10, PbM10, PcM10, PtM10⟩ | ⟨PaM10, PnM10, PtM10⟩
          · skip
            have swM10 := (s_wn_iff (x := y) (i := j0) (show 18 < 28 by decide)).mp PcM10
            refine PW.jz_eq q_37_31 rfl (fun h12 => False.elim (by omega)) (fun h12 => ?_)
            have e0 : s_st y f m (j0, true, st, o0) = (0, 0, (j0 + 1, false, st, o0)) := by show s_bh y j0 st o0 = _; unfold s_bh; rw [if_pos ⟨PbM10, by omega⟩]
            refine PW.aload_n q_37_34 rfl ?_
            refine PW.aload_n q_37_35 rfl ?_
            refine PW.aload_n q_37_36 rfl ?_
            refine PW.iload_n q_37_37 rfl ?_
            refine PW.cV (as := [_, _, _]) (rest := []) q_37_38 t_mv_37_66 kd_267 IM10.1 (by decide) rfl (by decide) rfl rfl (Nat.le_of_ble_eq_true rfl) (Nat.le_of_ble_eq_true rfl) (by decide) (by decide) ?_
            refine PW.up (by decide) (c_X4_readOne_vk9 (V) (hV) G _ M10 IM10 a3 (by omega) (by omega) y (j0 + 1) f m st o0 PtM10 ((hp_1.cg hbL37_12_45 hbL37_12_46).cg (Fr.at GM10 kd_4 (by decide)) (Fr.at GM10 kd_5 (by decide))) ((congrArg (fun e => o_i e 0) (Fr.at GM10 kd_267 (by decide))).trans K0.2.2.2.2) hp_3 (by omega) fun x14 M13 IM13 GM13 hx14 kx14 PM13 => ?_)
            have FM13 := Fr.trans FM10 GM13 (rfl)
            rcases PM13 with ⟨PaM13, jM13, oM13, PkM13⟩ | ⟨PaM13, PkM13⟩
            · skip
              have koM13 := PkM13.2
              refine PW.jz_eq q_37_41 rfl (fun h15 => False.elim (by omega)) (fun h15 => ?_)
              refine PW.aload_n q_37_44 rfl ?_
              refine PW.gets q_37_45 t_st_37_69 ?_
              refine PW.cI q_37_48 (by decide) fun c16 hc16 => ?_
              refine PW.cI q_37_49 (by decide) fun c17 hc17 => ?_
              refine PW.cV (as := [_, _, _]) (rest := []) q_37_50 t_mv_37_62 kd_267 IM13.1 (by decide) rfl (by decide) rfl rfl (Nat.le_of_ble_eq_true rfl) (Nat.le_of_ble_eq_true rfl) (by decide) (by decide) ?_
              refine PW.up (by decide) (c_X4_add_vk (V) (hV) G _ M13 IM13 18 (by decide) c16 c17 (by omega) (by omega) fun x19 M18 IM18 GM18 hx19 kx19 PM18 => ?_)
              have FM18 := Fr.trans FM13 GM18 (rfl)
              have PoM18 := PM18
              refine PW.jz_eq q_37_53 rfl (fun h20 => False.elim (by omega)) (fun h20 => ?_)
              refine PW.cI q_37_56 (by decide) fun c21 hc21 => ?_
              refine PW.goto q_37_57 rfl ?_
              refine PW.istore q_37_61 (by decide) ?_
              refine PW.incN q_37_63 rfl (by decide) (by decide) (by omega) (by omega) fun x22 hx22 => ?_
              refine PW.goto q_37_66 rfl ?_
              refine PW.lvS (lk1 rfl (lk1 rfl (lk1 rfl (lk1 rfl (lk1 rfl (lk1 rfl lk0)))))) (ih_L37_12_4 _ ?_ M18 c21 x22 IM18 FM18 (by omega) (by omega) (by omega) (by omega) (Or.inl ⟨by omega, jM13, oM13, ((s_ok.next (c := x22.toInt) (by rw [hp_5] at PkM13; exact PkM13) (T0.trans (s_to.of e0)) (by have := K0.2.1; omega)).cg (Fr.at GM18 kd_1 (by decide)) (Fr.at GM18 kd_2 (by decide)) PoM18), (fun h => absurd h (by decide))⟩) (((Fr.at GM18 kd_4 (by decide)).trans ((Fr.at GM13 kd_4 (by decide)).trans (Fr.at GM10 kd_4 (by decide)))).trans hbL37_12_45) (((Fr.at GM18 kd_5 (by decide)).trans ((Fr.at GM13 kd_5 (by decide)).trans (Fr.at GM10 kd_5 (by decide)))).trans hbL37_12_46) rfl)
              omega
            · skip
              refine PW.jz_eq q_37_41 rfl (fun h23 => ?_) (fun h23 => False.elim (by omega))
              refine PW.cI q_37_60 (by decide) fun c24 hc24 => ?_
              refine PW.istore q_37_61 (by decide) ?_
              refine PW.incN q_37_63 rfl (by decide) (by decide) (by omega) (by omega) fun x25 hx25 => ?_
              refine PW.goto q_37_66 rfl ?_
              refine PW.lvS (lk1 rfl (lk1 rfl (lk1 rfl (lk1 rfl (lk1 rfl (lk1 rfl lk0)))))) (ih_L37_12_4 _ ?_ M13 c24 x25 IM13 FM13 (by omega) (by omega) (by omega) (by omega) (Or.inr ⟨by omega, ((s_bad.to PkM13 (T0.trans (s_to.of e0))).cg rfl)⟩) (((Fr.at GM13 kd_4 (by decide)).trans (Fr.at GM10 kd_4 (by decide))).trans hbL37_12_45) (((Fr.at GM13 kd_5 (by decide)).trans (Fr.at GM10 kd_5 (by decide))).trans hbL37_12_46) rfl)
              omega
          · skip
            have snM10 : kK y (j0) = 2 → s_wn y (j0) ≠ 18 := fun h q => PnM10 ⟨h, (s_wn_iff (show 18 < 28 by decide)).mpr q⟩
            refine PW.jz_eq q_37_31 rfl (fun h26 => ?_) (fun h26 => False.elim (by omega))
            refine PW.iload q_37_69 rfl ?_
            refine PW.rZ q_37_71 rfl (by omega) (by omega) (by decide) (by decide) ?_
            exact hK v5 M10 IM10 FM10 (by omega) (by omega) (Or.inl ⟨by omega, j0, o0, ⟨T0, by omega, B1, PtM10, ((congrArg (fun e => o_i e 0) (Fr.at GM10 kd_267 (by decide))).trans K0.2.2.2.2)⟩, (fun h => snM10 h.1 h.2)⟩)
    exact PW.lvS (lk1 rfl (lk1 rfl (lk1 rfl (lk1 rfl (lk1 rfl (lk1 rfl lk0)))))) (L37_12_4 _ M1 x2 c3 IM1 FM1 (by omega) (by omega) (by omega) (by omega) (Or.inl ⟨by omega, jM1, oM1, (s_ok.mono (by rw [hp_5] at PkM1; exact PkM1) (by omega)), (fun h => absurd h (by decide))⟩) (Fr.at GM1 kd_4 (by decide)) (Fr.at GM1 kd_5 (by decide)) rfl)
  · skip
    refine PW.istore q_37_7 (by decide) ?_
    refine PW.cI q_37_9 (by decide) fun c27 hc27 => ?_
    refine PW.istore q_37_10 (by decide) ?_
    have L37_12_28 : ∀ (n : Nat) (ML37_12_28 : pM) (v29 v30 : Int32), Iv (V) ML37_12_28 → Fr [1, 14, 15, 16, 17] M ML37_12_28 → 0 ≤ v29.toInt → v29.toInt ≤ 1 → 0 ≤ v30.toInt → v30.toInt ≤ 20 → s_li y f m i st on 18 ML37_12_28 v29.toInt v30.toInt → ML37_12_28 4 = M 4 → ML37_12_28 5 = M 5 → (20 - v30.toInt).toNat = n → PW G false 4 37 (p_mc 37) (p_msl 37) Kr 12 [(0, .ref 267), (1, .ref 1), (2, .ref 4), (3, .int a3), (4, .int v29), (5, .int v30)] [] 311 ML37_12_28 0 0 := by
      intro n
      induction n using Nat.strongRecOn with
      | ind n ih_L37_12_28 =>
      intro ML37_12_28 v29 v30 IML37_12_28 FML37_12_28 hbL37_12_280 hbL37_12_281 hbL37_12_282 hbL37_12_283 hbL37_12_284 hbL37_12_285 hbL37_12_286 hmL37_12_28
      refine PW.iload q_37_12 rfl ?_
      refine PW.cB q_37_14 (by decide) fun c31 hc31 => ?_
      refine PW.jc_ge q_37_16 rfl (fun h32 => ?_) (fun h32 => ?_)
      · skip
        refine PW.iload q_37_69 rfl ?_
        refine PW.rZ q_37_71 rfl (by omega) (by omega) (by decide) (by decide) ?_
        exact hK v29 ML37_12_28 IML37_12_28 FML37_12_28 (by omega) (by omega) (Or.inr ⟨(s_li.full hbL37_12_284 (by omega) hp_4).1, (s_li.full hbL37_12_284 (by omega) hp_4).2⟩)
      · skip
        refine PW.iload q_37_19 rfl ?_
        refine PW.jz_eq q_37_21 rfl (fun h33 => ?_) (fun h33 => ?_)
        · skip
          refine PW.iload q_37_69 rfl ?_
          refine PW.rZ q_37_71 rfl (by omega) (by omega) (by decide) (by decide) ?_
          exact hK v29 ML37_12_28 IML37_12_28 FML37_12_28 (by omega) (by omega) (Or.inr ⟨by omega, (s_li.no hbL37_12_284 (by omega))⟩)
        · skip
          obtain ⟨j0, o0, K0, N0⟩ : ∃ (j0 : Nat) (o0 : Int), s_ok y f m (i, false, st, on) st (on + v30.toInt) ML37_12_28 j0 o0 ∧ (18 = 17 → ¬ (kK y j0 = 2 ∧ s_wn y j0 = 18)) := by rcases hbL37_12_284 with q | q; (· exact q.2); (· omega)
          have T0 := K0.1
          have B0 := K0.2.1
          have B1 := K0.2.2.1
          refine PW.aload_n q_37_24 rfl ?_
          refine PW.gets q_37_25 t_st_37_69 ?_
          refine PW.cV (as := [_]) (rest := []) q_37_28 t_mv_37_58 kd_1 IML37_12_28.1 (by decide) rfl (by decide) rfl rfl (Nat.le_of_ble_eq_true rfl) (Nat.le_of_ble_eq_true rfl) (by decide) (by decide) ?_
          refine PW.up (by decide) (c_X7_takes_vk (V) (hV) G _ ML37_12_28 IML37_12_28 18 (by decide) y (j0) K0.2.2.2.1 fun x35 M34 IM34 GM34 hx35 kx35 PM34 => ?_)
          have FM34 := Fr.trans FML37_12_28 GM34 (rfl)
          rcases PM34 with ⟨PaM34, PbM34, PcM34, PtM34⟩ | ⟨PaM34, PnM34, PtM34⟩
          · skip
            have swM34 := (s_wn_iff (x := y) (i := j0) (show 18 < 28 by decide)).mp PcM34
            refine PW.jz_eq q_37_31 rfl (fun h36 => False.elim (by omega)) (fun h36 => ?_)
            have e0 : s_st y f m (j0, true, st, o0) = (0, 0, (j0 + 1, false, st, o0)) := by show s_bh y j0 st o0 = _; unfold s_bh; rw [if_pos ⟨PbM34, by omega⟩]
            refine PW.aload_n q_37_34 rfl ?_
            refine PW.aload_n q_37_35 rfl ?_
            refine PW.aload_n q_37_36 rfl ?_
            refine PW.iload_n q_37_37 rfl ?_
            refine PW.cV (as := [_, _, _]) (rest := []) q_37_38 t_mv_37_66 kd_267 IM34.1 (by decide) rfl (by decide) rfl rfl (Nat.le_of_ble_eq_true rfl) (Nat.le_of_ble_eq_true rfl) (by decide) (by decide) ?_
            refine PW.up (by decide) (c_X4_readOne_vk9 (V) (hV) G _ M34 IM34 a3 (by omega) (by omega) y (j0 + 1) f m st o0 PtM34 ((hp_1.cg hbL37_12_285 hbL37_12_286).cg (Fr.at GM34 kd_4 (by decide)) (Fr.at GM34 kd_5 (by decide))) ((congrArg (fun e => o_i e 0) (Fr.at GM34 kd_267 (by decide))).trans K0.2.2.2.2) hp_3 (by omega) fun x38 M37 IM37 GM37 hx38 kx38 PM37 => ?_)
            have FM37 := Fr.trans FM34 GM37 (rfl)
            rcases PM37 with ⟨PaM37, jM37, oM37, PkM37⟩ | ⟨PaM37, PkM37⟩
            · skip
              have koM37 := PkM37.2
              refine PW.jz_eq q_37_41 rfl (fun h39 => False.elim (by omega)) (fun h39 => ?_)
              refine PW.aload_n q_37_44 rfl ?_
              refine PW.gets q_37_45 t_st_37_69 ?_
              refine PW.cI q_37_48 (by decide) fun c40 hc40 => ?_
              refine PW.cI q_37_49 (by decide) fun c41 hc41 => ?_
              refine PW.cV (as := [_, _, _]) (rest := []) q_37_50 t_mv_37_62 kd_267 IM37.1 (by decide) rfl (by decide) rfl rfl (Nat.le_of_ble_eq_true rfl) (Nat.le_of_ble_eq_true rfl) (by decide) (by decide) ?_
              refine PW.up (by decide) (c_X4_add_vk (V) (hV) G _ M37 IM37 18 (by decide) c40 c41 (by omega) (by omega) fun x43 M42 IM42 GM42 hx43 kx43 PM42 => ?_)
              have FM42 := Fr.trans FM37 GM42 (rfl)
              have PoM42 := PM42
              refine PW.jz_eq q_37_53 rfl (fun h44 => False.elim (by omega)) (fun h44 => ?_)
              refine PW.cI q_37_56 (by decide) fun c45 hc45 => ?_
              refine PW.goto q_37_57 rfl ?_
              refine PW.istore q_37_61 (by decide) ?_
              refine PW.incN q_37_63 rfl (by decide) (by decide) (by omega) (by omega) fun x46 hx46 => ?_
              refine PW.goto q_37_66 rfl ?_
              refine PW.lvS (lk1 rfl (lk1 rfl (lk1 rfl (lk1 rfl (lk1 rfl (lk1 rfl lk0)))))) (ih_L37_12_28 _ ?_ M42 c45 x46 IM42 FM42 (by omega) (by omega) (by omega) (by omega) (Or.inl ⟨by omega, jM37, oM37, ((s_ok.next (c := x46.toInt) (by rw [hp_5] at PkM37; exact PkM37) (T0.trans (s_to.of e0)) (by have := K0.2.1; omega)).cg (Fr.at GM42 kd_1 (by decide)) (Fr.at GM42 kd_2 (by decide)) PoM42), (fun h => absurd h (by decide))⟩) (((Fr.at GM42 kd_4 (by decide)).trans ((Fr.at GM37 kd_4 (by decide)).trans (Fr.at GM34 kd_4 (by decide)))).trans hbL37_12_285) (((Fr.at GM42 kd_5 (by decide)).trans ((Fr.at GM37 kd_5 (by decide)).trans (Fr.at GM34 kd_5 (by decide)))).trans hbL37_12_286) rfl)
              omega
            · skip
              refine PW.jz_eq q_37_41 rfl (fun h47 => ?_) (fun h47 => False.elim (by omega))
              refine PW.cI q_37_60 (by decide) fun c48 hc48 => ?_
              refine PW.istore q_37_61 (by decide) ?_
              refine PW.incN q_37_63 rfl (by decide) (by decide) (by omega) (by omega) fun x49 hx49 => ?_
              refine PW.goto q_37_66 rfl ?_
              refine PW.lvS (lk1 rfl (lk1 rfl (lk1 rfl (lk1 rfl (lk1 rfl (lk1 rfl lk0)))))) (ih_L37_12_28 _ ?_ M37 c48 x49 IM37 FM37 (by omega) (by omega) (by omega) (by omega) (Or.inr ⟨by omega, ((s_bad.to PkM37 (T0.trans (s_to.of e0))).cg rfl)⟩) (((Fr.at GM37 kd_4 (by decide)).trans (Fr.at GM34 kd_4 (by decide))).trans hbL37_12_285) (((Fr.at GM37 kd_5 (by decide)).trans (Fr.at GM34 kd_5 (by decide))).trans hbL37_12_286) rfl)
              omega
          · skip
            have snM34 : kK y (j0) = 2 → s_wn y (j0) ≠ 18 := fun h q => PnM34 ⟨h, (s_wn_iff (show 18 < 28 by decide)).mpr q⟩
            refine PW.jz_eq q_37_31 rfl (fun h50 => ?_) (fun h50 => False.elim (by omega))
            refine PW.iload q_37_69 rfl ?_
            refine PW.rZ q_37_71 rfl (by omega) (by omega) (by decide) (by decide) ?_
            exact hK v29 M34 IM34 FM34 (by omega) (by omega) (Or.inl ⟨by omega, j0, o0, ⟨T0, by omega, B1, PtM34, ((congrArg (fun e => o_i e 0) (Fr.at GM34 kd_267 (by decide))).trans K0.2.2.2.2)⟩, (fun h => snM34 h.1 h.2)⟩)
    exact PW.lvS (lk1 rfl (lk1 rfl (lk1 rfl (lk1 rfl (lk1 rfl (lk1 rfl lk0)))))) (L37_12_28 _ M1 x2 c27 IM1 FM1 (by omega) (by omega) (by omega) (by omega) (Or.inr ⟨by omega, PkM1⟩) (Fr.at GM1 kd_4 (by decide)) (Fr.at GM1 kd_5 (by decide)) rfl)
theorem c_X4_readAny_vk9 (V : pM → Prop) (hV : Stab V) (G : pG) (Kr : pK) (M : pM) (I : Iv V M) (a3 : Int32) (hl_a3 : 9 ≤ a3.toInt) (hh_a3 : a3.toInt ≤ 9) (y : k_X) (i : Nat) (f : Nat → Int) (m : Int) (st : List Bool) (on : Int) (hp_0 : k_at y M i) (hp_1 : s_nm M f m) (hp_2 : o_i (M 267) 0 = on) (hp_3 : st.length + 1 = 9) (hp_4 : 0 ≤ on) (hp_5 : s_dn st = st) (hK : ∀ (x : Int32) (M1 : pM), Iv V M1 → Fr [1, 14, 15, 16, 17] M M1 → 0 ≤ x.toInt → x.toInt ≤ 1 → (s_aq y f m i st on x M1) → Kr.1 (some (.int x)) 311 M1) : PW G false 5 36 (p_mc 36) (p_msl 36) Kr 0 (lv_args 0 [.ref 267, .ref 1, .ref 4, .int a3]) [] 311 M 0 0 := by
  have F : Fr [1, 14, 15, 16, 17] M M := Fr.refl
  obtain ⟨w267_0, fw267_0, hw267_0, kw267_0⟩ := gF_14_0.int kd_267 I.1 (by decide)
  have iw267_0 := o_i_of fw267_0
  have jw267_0 : w267_0.toInt = on := by have w := hp_2; omega
  refine PW.aload_n q_36_0 rfl ?_
  refine PW.aload_n q_36_1 rfl ?_
  refine PW.aload_n q_36_2 rfl ?_
  refine PW.iload_n q_36_3 rfl ?_
  refine PW.cV (as := [_, _, _]) (rest := []) q_36_4 t_mv_36_51 kd_267 I.1 (by decide) rfl (by decide) rfl rfl (Nat.le_of_ble_eq_true rfl) (Nat.le_of_ble_eq_true rfl) (by decide) (by decide) ?_
  refine PW.up (by decide) (c_X4_readAll_vk9 (V) (hV) G _ M I a3 (by omega) (by omega) y (i) f m st on hp_0 hp_1 hp_2 hp_3 (by omega) hp_5 fun x2 M1 IM1 GM1 hx2 kx2 PM1 => ?_)
  have FM1 := Fr.trans F GM1 (rfl)
  rcases PM1 with ⟨PaM1, jM1, oM1, PkM1, Pn2M1⟩ | ⟨PaM1, PkM1⟩
  · skip
    have koM1 := PkM1.2
    refine PW.istore q_36_7 (by decide) ?_
    refine PW.cI q_36_9 (by decide) fun c3 hc3 => ?_
    refine PW.istore q_36_10 (by decide) ?_
    have L36_12_4 : ∀ (n : Nat) (ML36_12_4 : pM) (v5 v6 : Int32), Iv (V) ML36_12_4 → Fr [1, 14, 15, 16, 17] M ML36_12_4 → 0 ≤ v5.toInt → v5.toInt ≤ 1 → 0 ≤ v6.toInt → v6.toInt ≤ 20 → s_li y f m i st on 17 ML36_12_4 v5.toInt v6.toInt → ML36_12_4 4 = M 4 → ML36_12_4 5 = M 5 → (20 - v6.toInt).toNat = n → PW G false 5 36 (p_mc 36) (p_msl 36) Kr 12 [(0, .ref 267), (1, .ref 1), (2, .ref 4), (3, .int a3), (4, .int v5), (5, .int v6)] [] 311 ML36_12_4 0 0 := by
      intro n
      induction n using Nat.strongRecOn with
      | ind n ih_L36_12_4 =>
      intro ML36_12_4 v5 v6 IML36_12_4 FML36_12_4 hbL36_12_40 hbL36_12_41 hbL36_12_42 hbL36_12_43 hbL36_12_44 hbL36_12_45 hbL36_12_46 hmL36_12_4
      refine PW.iload q_36_12 rfl ?_
      refine PW.cB q_36_14 (by decide) fun c7 hc7 => ?_
      refine PW.jc_ge q_36_16 rfl (fun h8 => ?_) (fun h8 => ?_)
      · skip
        refine PW.iload q_36_69 rfl ?_
        refine PW.rZ q_36_71 rfl (by omega) (by omega) (by decide) (by decide) ?_
        exact hK v5 ML36_12_4 IML36_12_4 FML36_12_4 (by omega) (by omega) (Or.inr ⟨(s_li.full hbL36_12_44 (by omega) hp_4).1, (s_li.full hbL36_12_44 (by omega) hp_4).2⟩)
      · skip
        refine PW.iload q_36_19 rfl ?_
        refine PW.jz_eq q_36_21 rfl (fun h9 => ?_) (fun h9 => ?_)
        · skip
          refine PW.iload q_36_69 rfl ?_
          refine PW.rZ q_36_71 rfl (by omega) (by omega) (by decide) (by decide) ?_
          exact hK v5 ML36_12_4 IML36_12_4 FML36_12_4 (by omega) (by omega) (Or.inr ⟨by omega, (s_li.no hbL36_12_44 (by omega))⟩)
        · skip
          obtain ⟨j0, o0, K0, N0⟩ : ∃ (j0 : Nat) (o0 : Int), s_ok y f m (i, false, st, on) st (on + v6.toInt) ML36_12_4 j0 o0 ∧ (17 = 17 → ¬ (kK y j0 = 2 ∧ s_wn y j0 = 18)) := by rcases hbL36_12_44 with q | q; (· exact q.2); (· omega)
          have T0 := K0.1
          have B0 := K0.2.1
          have B1 := K0.2.2.1
          refine PW.aload_n q_36_24 rfl ?_
          refine PW.gets q_36_25 t_st_36_54 ?_
          refine PW.cV (as := [_]) (rest := []) q_36_28 t_mv_36_58 kd_1 IML36_12_4.1 (by decide) rfl (by decide) rfl rfl (Nat.le_of_ble_eq_true rfl) (Nat.le_of_ble_eq_true rfl) (by decide) (by decide) ?_
          refine PW.up (by decide) (c_X7_takes_vk (V) (hV) G _ ML36_12_4 IML36_12_4 17 (by decide) y (j0) K0.2.2.2.1 fun x11 M10 IM10 GM10 hx11 kx11 PM10 => ?_)
          have FM10 := Fr.trans FML36_12_4 GM10 (rfl)
          rcases PM10 with ⟨PaM10, PbM10, PcM10, PtM10⟩ | ⟨PaM10, PnM10, PtM10⟩
          · skip
            have swM10 := (s_wn_iff (x := y) (i := j0) (show 17 < 28 by decide)).mp PcM10
            refine PW.jz_eq q_36_31 rfl (fun h12 => False.elim (by omega)) (fun h12 => ?_)
            have e0 : s_st y f m (j0, true, st, o0) = (0, 0, (j0 + 1, false, st, o0)) := by show s_bh y j0 st o0 = _; unfold s_bh; rw [if_pos ⟨PbM10, by omega⟩]
            refine PW.aload_n q_36_34 rfl ?_
            refine PW.aload_n q_36_35 rfl ?_
            refine PW.aload_n q_36_36 rfl ?_
            refine PW.iload_n q_36_37 rfl ?_
            refine PW.cV (as := [_, _, _]) (rest := []) q_36_38 t_mv_36_51 kd_267 IM10.1 (by decide) rfl (by decide) rfl rfl (Nat.le_of_ble_eq_true rfl) (Nat.le_of_ble_eq_true rfl) (by decide) (by decide) ?_
            refine PW.up (by decide) (c_X4_readAll_vk9 (V) (hV) G _ M10 IM10 a3 (by omega) (by omega) y (j0 + 1) f m st o0 PtM10 ((hp_1.cg hbL36_12_45 hbL36_12_46).cg (Fr.at GM10 kd_4 (by decide)) (Fr.at GM10 kd_5 (by decide))) ((congrArg (fun e => o_i e 0) (Fr.at GM10 kd_267 (by decide))).trans K0.2.2.2.2) hp_3 (by omega) hp_5 fun x14 M13 IM13 GM13 hx14 kx14 PM13 => ?_)
            have FM13 := Fr.trans FM10 GM13 (rfl)
            rcases PM13 with ⟨PaM13, jM13, oM13, PkM13, Pn2M13⟩ | ⟨PaM13, PkM13⟩
            · skip
              have koM13 := PkM13.2
              refine PW.jz_eq q_36_41 rfl (fun h15 => False.elim (by omega)) (fun h15 => ?_)
              refine PW.aload_n q_36_44 rfl ?_
              refine PW.gets q_36_45 t_st_36_54 ?_
              refine PW.cI q_36_48 (by decide) fun c16 hc16 => ?_
              refine PW.cI q_36_49 (by decide) fun c17 hc17 => ?_
              refine PW.cV (as := [_, _, _]) (rest := []) q_36_50 t_mv_36_62 kd_267 IM13.1 (by decide) rfl (by decide) rfl rfl (Nat.le_of_ble_eq_true rfl) (Nat.le_of_ble_eq_true rfl) (by decide) (by decide) ?_
              refine PW.up (by decide) (c_X4_add_vk (V) (hV) G _ M13 IM13 17 (by decide) c16 c17 (by omega) (by omega) fun x19 M18 IM18 GM18 hx19 kx19 PM18 => ?_)
              have FM18 := Fr.trans FM13 GM18 (rfl)
              have PoM18 := PM18
              refine PW.jz_eq q_36_53 rfl (fun h20 => False.elim (by omega)) (fun h20 => ?_)
              refine PW.cI q_36_56 (by decide) fun c21 hc21 => ?_
              refine PW.goto q_36_57 rfl ?_
              refine PW.istore q_36_61 (by decide) ?_
              refine PW.incN q_36_63 rfl (by decide) (by decide) (by omega) (by omega) fun x22 hx22 => ?_
              refine PW.goto q_36_66 rfl ?_
              refine PW.lvS (lk1 rfl (lk1 rfl (lk1 rfl (lk1 rfl (lk1 rfl (lk1 rfl lk0)))))) (ih_L36_12_4 _ ?_ M18 c21 x22 IM18 FM18 (by omega) (by omega) (by omega) (by omega) (Or.inl ⟨by omega, jM13, oM13, ((s_ok.next (c := x22.toInt) PkM13 (T0.trans (s_to.of e0)) (by have := K0.2.1; omega)).cg (Fr.at GM18 kd_1 (by decide)) (Fr.at GM18 kd_2 (by decide)) PoM18), (fun _ => Pn2M13)⟩) (((Fr.at GM18 kd_4 (by decide)).trans ((Fr.at GM13 kd_4 (by decide)).trans (Fr.at GM10 kd_4 (by decide)))).trans hbL36_12_45) (((Fr.at GM18 kd_5 (by decide)).trans ((Fr.at GM13 kd_5 (by decide)).trans (Fr.at GM10 kd_5 (by decide)))).trans hbL36_12_46) rfl)
              omega
            · skip
              refine PW.jz_eq q_36_41 rfl (fun h23 => ?_) (fun h23 => False.elim (by omega))
              refine PW.cI q_36_60 (by decide) fun c24 hc24 => ?_
              refine PW.istore q_36_61 (by decide) ?_
              refine PW.incN q_36_63 rfl (by decide) (by decide) (by omega) (by omega) fun x25 hx25 => ?_
              refine PW.goto q_36_66 rfl ?_
              refine PW.lvS (lk1 rfl (lk1 rfl (lk1 rfl (lk1 rfl (lk1 rfl (lk1 rfl lk0)))))) (ih_L36_12_4 _ ?_ M13 c24 x25 IM13 FM13 (by omega) (by omega) (by omega) (by omega) (Or.inr ⟨by omega, ((s_bad.to PkM13 (T0.trans (s_to.of e0))).cg rfl)⟩) (((Fr.at GM13 kd_4 (by decide)).trans (Fr.at GM10 kd_4 (by decide))).trans hbL36_12_45) (((Fr.at GM13 kd_5 (by decide)).trans (Fr.at GM10 kd_5 (by decide))).trans hbL36_12_46) rfl)
              omega
          · skip
            have snM10 : kK y (j0) = 2 → s_wn y (j0) ≠ 17 := fun h q => PnM10 ⟨h, (s_wn_iff (show 17 < 28 by decide)).mpr q⟩
            refine PW.jz_eq q_36_31 rfl (fun h26 => ?_) (fun h26 => False.elim (by omega))
            refine PW.iload q_36_69 rfl ?_
            refine PW.rZ q_36_71 rfl (by omega) (by omega) (by decide) (by decide) ?_
            exact hK v5 M10 IM10 FM10 (by omega) (by omega) (Or.inl ⟨by omega, j0, o0, ⟨T0, by omega, B1, PtM10, ((congrArg (fun e => o_i e 0) (Fr.at GM10 kd_267 (by decide))).trans K0.2.2.2.2)⟩, (fun h => by rcases h.2 with q | q; (· exact N0 rfl ⟨h.1, q⟩); (· exact snM10 h.1 q))⟩)
    exact PW.lvS (lk1 rfl (lk1 rfl (lk1 rfl (lk1 rfl (lk1 rfl (lk1 rfl lk0)))))) (L36_12_4 _ M1 x2 c3 IM1 FM1 (by omega) (by omega) (by omega) (by omega) (Or.inl ⟨by omega, jM1, oM1, (s_ok.mono PkM1 (by omega)), (fun _ => Pn2M1)⟩) (Fr.at GM1 kd_4 (by decide)) (Fr.at GM1 kd_5 (by decide)) rfl)
  · skip
    refine PW.istore q_36_7 (by decide) ?_
    refine PW.cI q_36_9 (by decide) fun c27 hc27 => ?_
    refine PW.istore q_36_10 (by decide) ?_
    have L36_12_28 : ∀ (n : Nat) (ML36_12_28 : pM) (v29 v30 : Int32), Iv (V) ML36_12_28 → Fr [1, 14, 15, 16, 17] M ML36_12_28 → 0 ≤ v29.toInt → v29.toInt ≤ 1 → 0 ≤ v30.toInt → v30.toInt ≤ 20 → s_li y f m i st on 17 ML36_12_28 v29.toInt v30.toInt → ML36_12_28 4 = M 4 → ML36_12_28 5 = M 5 → (20 - v30.toInt).toNat = n → PW G false 5 36 (p_mc 36) (p_msl 36) Kr 12 [(0, .ref 267), (1, .ref 1), (2, .ref 4), (3, .int a3), (4, .int v29), (5, .int v30)] [] 311 ML36_12_28 0 0 := by
      intro n
      induction n using Nat.strongRecOn with
      | ind n ih_L36_12_28 =>
      intro ML36_12_28 v29 v30 IML36_12_28 FML36_12_28 hbL36_12_280 hbL36_12_281 hbL36_12_282 hbL36_12_283 hbL36_12_284 hbL36_12_285 hbL36_12_286 hmL36_12_28
      refine PW.iload q_36_12 rfl ?_
      refine PW.cB q_36_14 (by decide) fun c31 hc31 => ?_
      refine PW.jc_ge q_36_16 rfl (fun h32 => ?_) (fun h32 => ?_)
      · skip
        refine PW.iload q_36_69 rfl ?_
        refine PW.rZ q_36_71 rfl (by omega) (by omega) (by decide) (by decide) ?_
        exact hK v29 ML36_12_28 IML36_12_28 FML36_12_28 (by omega) (by omega) (Or.inr ⟨(s_li.full hbL36_12_284 (by omega) hp_4).1, (s_li.full hbL36_12_284 (by omega) hp_4).2⟩)
      · skip
        refine PW.iload q_36_19 rfl ?_
        refine PW.jz_eq q_36_21 rfl (fun h33 => ?_) (fun h33 => ?_)
        · skip
          refine PW.iload q_36_69 rfl ?_
          refine PW.rZ q_36_71 rfl (by omega) (by omega) (by decide) (by decide) ?_
          exact hK v29 ML36_12_28 IML36_12_28 FML36_12_28 (by omega) (by omega) (Or.inr ⟨by omega, (s_li.no hbL36_12_284 (by omega))⟩)
        · skip
          obtain ⟨j0, o0, K0, N0⟩ : ∃ (j0 : Nat) (o0 : Int), s_ok y f m (i, false, st, on) st (on + v30.toInt) ML36_12_28 j0 o0 ∧ (17 = 17 → ¬ (kK y j0 = 2 ∧ s_wn y j0 = 18)) := by rcases hbL36_12_284 with q | q; (· exact q.2); (· omega)
          have T0 := K0.1
          have B0 := K0.2.1
          have B1 := K0.2.2.1
          refine PW.aload_n q_36_24 rfl ?_
          refine PW.gets q_36_25 t_st_36_54 ?_
          refine PW.cV (as := [_]) (rest := []) q_36_28 t_mv_36_58 kd_1 IML36_12_28.1 (by decide) rfl (by decide) rfl rfl (Nat.le_of_ble_eq_true rfl) (Nat.le_of_ble_eq_true rfl) (by decide) (by decide) ?_
          refine PW.up (by decide) (c_X7_takes_vk (V) (hV) G _ ML36_12_28 IML36_12_28 17 (by decide) y (j0) K0.2.2.2.1 fun x35 M34 IM34 GM34 hx35 kx35 PM34 => ?_)
          have FM34 := Fr.trans FML36_12_28 GM34 (rfl)
          rcases PM34 with ⟨PaM34, PbM34, PcM34, PtM34⟩ | ⟨PaM34, PnM34, PtM34⟩
          · skip
            have swM34 := (s_wn_iff (x := y) (i := j0) (show 17 < 28 by decide)).mp PcM34
            refine PW.jz_eq q_36_31 rfl (fun h36 => False.elim (by omega)) (fun h36 => ?_)
            have e0 : s_st y f m (j0, true, st, o0) = (0, 0, (j0 + 1, false, st, o0)) := by show s_bh y j0 st o0 = _; unfold s_bh; rw [if_pos ⟨PbM34, by omega⟩]
            refine PW.aload_n q_36_34 rfl ?_
            refine PW.aload_n q_36_35 rfl ?_
            refine PW.aload_n q_36_36 rfl ?_
            refine PW.iload_n q_36_37 rfl ?_
            refine PW.cV (as := [_, _, _]) (rest := []) q_36_38 t_mv_36_51 kd_267 IM34.1 (by decide) rfl (by decide) rfl rfl (Nat.le_of_ble_eq_true rfl) (Nat.le_of_ble_eq_true rfl) (by decide) (by decide) ?_
            refine PW.up (by decide) (c_X4_readAll_vk9 (V) (hV) G _ M34 IM34 a3 (by omega) (by omega) y (j0 + 1) f m st o0 PtM34 ((hp_1.cg hbL36_12_285 hbL36_12_286).cg (Fr.at GM34 kd_4 (by decide)) (Fr.at GM34 kd_5 (by decide))) ((congrArg (fun e => o_i e 0) (Fr.at GM34 kd_267 (by decide))).trans K0.2.2.2.2) hp_3 (by omega) hp_5 fun x38 M37 IM37 GM37 hx38 kx38 PM37 => ?_)
            have FM37 := Fr.trans FM34 GM37 (rfl)
            rcases PM37 with ⟨PaM37, jM37, oM37, PkM37, Pn2M37⟩ | ⟨PaM37, PkM37⟩
            · skip
              have koM37 := PkM37.2
              refine PW.jz_eq q_36_41 rfl (fun h39 => False.elim (by omega)) (fun h39 => ?_)
              refine PW.aload_n q_36_44 rfl ?_
              refine PW.gets q_36_45 t_st_36_54 ?_
              refine PW.cI q_36_48 (by decide) fun c40 hc40 => ?_
              refine PW.cI q_36_49 (by decide) fun c41 hc41 => ?_
              refine PW.cV (as := [_, _, _]) (rest := []) q_36_50 t_mv_36_62 kd_267 IM37.1 (by decide) rfl (by decide) rfl rfl (Nat.le_of_ble_eq_true rfl) (Nat.le_of_ble_eq_true rfl) (by decide) (by decide) ?_
              refine PW.up (by decide) (c_X4_add_vk (V) (hV) G _ M37 IM37 17 (by decide) c40 c41 (by omega) (by omega) fun x43 M42 IM42 GM42 hx43 kx43 PM42 => ?_)
              have FM42 := Fr.trans FM37 GM42 (rfl)
              have PoM42 := PM42
              refine PW.jz_eq q_36_53 rfl (fun h44 => False.elim (by omega)) (fun h44 => ?_)
              refine PW.cI q_36_56 (by decide) fun c45 hc45 => ?_
              refine PW.goto q_36_57 rfl ?_
              refine PW.istore q_36_61 (by decide) ?_
              refine PW.incN q_36_63 rfl (by decide) (by decide) (by omega) (by omega) fun x46 hx46 => ?_
              refine PW.goto q_36_66 rfl ?_
              refine PW.lvS (lk1 rfl (lk1 rfl (lk1 rfl (lk1 rfl (lk1 rfl (lk1 rfl lk0)))))) (ih_L36_12_28 _ ?_ M42 c45 x46 IM42 FM42 (by omega) (by omega) (by omega) (by omega) (Or.inl ⟨by omega, jM37, oM37, ((s_ok.next (c := x46.toInt) PkM37 (T0.trans (s_to.of e0)) (by have := K0.2.1; omega)).cg (Fr.at GM42 kd_1 (by decide)) (Fr.at GM42 kd_2 (by decide)) PoM42), (fun _ => Pn2M37)⟩) (((Fr.at GM42 kd_4 (by decide)).trans ((Fr.at GM37 kd_4 (by decide)).trans (Fr.at GM34 kd_4 (by decide)))).trans hbL36_12_285) (((Fr.at GM42 kd_5 (by decide)).trans ((Fr.at GM37 kd_5 (by decide)).trans (Fr.at GM34 kd_5 (by decide)))).trans hbL36_12_286) rfl)
              omega
            · skip
              refine PW.jz_eq q_36_41 rfl (fun h47 => ?_) (fun h47 => False.elim (by omega))
              refine PW.cI q_36_60 (by decide) fun c48 hc48 => ?_
              refine PW.istore q_36_61 (by decide) ?_
              refine PW.incN q_36_63 rfl (by decide) (by decide) (by omega) (by omega) fun x49 hx49 => ?_
              refine PW.goto q_36_66 rfl ?_
              refine PW.lvS (lk1 rfl (lk1 rfl (lk1 rfl (lk1 rfl (lk1 rfl (lk1 rfl lk0)))))) (ih_L36_12_28 _ ?_ M37 c48 x49 IM37 FM37 (by omega) (by omega) (by omega) (by omega) (Or.inr ⟨by omega, ((s_bad.to PkM37 (T0.trans (s_to.of e0))).cg rfl)⟩) (((Fr.at GM37 kd_4 (by decide)).trans (Fr.at GM34 kd_4 (by decide))).trans hbL36_12_285) (((Fr.at GM37 kd_5 (by decide)).trans (Fr.at GM34 kd_5 (by decide))).trans hbL36_12_286) rfl)
              omega
          · skip
            have snM34 : kK y (j0) = 2 → s_wn y (j0) ≠ 17 := fun h q => PnM34 ⟨h, (s_wn_iff (show 17 < 28 by decide)).mpr q⟩
            refine PW.jz_eq q_36_31 rfl (fun h50 => ?_) (fun h50 => False.elim (by omega))
            refine PW.iload q_36_69 rfl ?_
            refine PW.rZ q_36_71 rfl (by omega) (by omega) (by decide) (by decide) ?_
            exact hK v29 M34 IM34 FM34 (by omega) (by omega) (Or.inl ⟨by omega, j0, o0, ⟨T0, by omega, B1, PtM34, ((congrArg (fun e => o_i e 0) (Fr.at GM34 kd_267 (by decide))).trans K0.2.2.2.2)⟩, (fun h => by rcases h.2 with q | q; (· exact N0 rfl ⟨h.1, q⟩); (· exact snM34 h.1 q))⟩)
    exact PW.lvS (lk1 rfl (lk1 rfl (lk1 rfl (lk1 rfl (lk1 rfl (lk1 rfl lk0)))))) (L36_12_28 _ M1 x2 c27 IM1 FM1 (by omega) (by omega) (by omega) (by omega) (Or.inr ⟨by omega, PkM1⟩) (Fr.at GM1 kd_4 (by decide)) (Fr.at GM1 kd_5 (by decide)) rfl)
theorem c_X4_readOne_vk8 (V : pM → Prop) (hV : Stab V) (G : pG) (Kr : pK) (M : pM) (I : Iv V M) (a3 : Int32) (hl_a3 : 8 ≤ a3.toInt) (hh_a3 : a3.toInt ≤ 8) (y : k_X) (i : Nat) (f : Nat → Int) (m : Int) (st : List Bool) (on : Int) (hp_0 : k_at y M i) (hp_1 : s_nm M f m) (hp_2 : o_i (M 267) 0 = on) (hp_3 : st.length + 1 = 8) (hp_4 : 0 ≤ on) (hK : ∀ (x : Int32) (M1 : pM), Iv V M1 → Fr [1, 14, 15, 16, 17] M M1 → 0 ≤ x.toInt → x.toInt ≤ 1 → (s_oq y f m i st on x M1) → Kr.1 (some (.int x)) 311 M1) : PW G false 6 38 (p_mc 38) (p_msl 38) Kr 0 (lv_args 0 [.ref 267, .ref 1, .ref 4, .int a3]) [] 311 M 0 0 := by
  have F : Fr [1, 14, 15, 16, 17] M M := Fr.refl
  obtain ⟨w267_0, fw267_0, hw267_0, kw267_0⟩ := gF_14_0.int kd_267 I.1 (by decide)
  have iw267_0 := o_i_of fw267_0
  have jw267_0 : w267_0.toInt = on := by have w := hp_2; omega
  refine PW.aload_n q_38_0 rfl ?_
  refine PW.callS (as := [_]) (rest := []) q_38_1 t_ms_38_72 (by decide) rfl (Nat.le_of_ble_eq_true rfl) (Nat.le_of_ble_eq_true rfl) (by decide) (by decide) ?_
  refine PW.up (by decide) (c_X4_beginsOne_vk (V) (hV) G _ M I y (i) hp_0 fun x2  hx2 kx2 PM1 => ?_)
  rcases PM1 with ⟨PaM1, PbM1⟩ | ⟨PaM1, PnM1⟩
  · skip
    refine PW.jz_ne q_38_4 rfl (fun h3 => ?_) (fun h3 => False.elim (by omega))
    refine PW.aload_n q_38_13 rfl ?_
    refine PW.gE q_38_14 (Or.inl t_ft_38_27) gF_14_0 kd_267 I.1 (by decide) fw267_0 ?_
    refine PW.cB q_38_17 (by decide) fun c4 hc4 => ?_
    refine PW.jc_ge q_38_19 rfl (fun h5 => ?_) (fun h5 => ?_)
    · skip
      refine PW.aload_n q_38_28 rfl ?_
      refine PW.cI q_38_29 (by decide) fun c6 hc6 => ?_
      refine PW.cV (as := [_]) (rest := []) q_38_30 t_mv_38_76 kd_1 I.1 (by decide) rfl (by decide) rfl rfl (Nat.le_of_ble_eq_true rfl) (Nat.le_of_ble_eq_true rfl) (by decide) (by decide) ?_
      refine PW.up (by decide) (c_X7_fail_vk (V) (hV) G _ M I c6 y (i) hp_0 fun x8 M7 IM7 GM7 hx8 kx8 PM7 => ?_)
      have FM7 := Fr.trans F GM7 (rfl)
      rcases PM7 with ⟨PfM7, PgM7⟩
      refine PW.rZ q_38_33 rfl (by omega) (by omega) (by decide) (by decide) ?_
      have e : s_st y f m (i, false, st, on) = (4, kP y i, (0, false, [], 0)) := by show s_op y f m i st on = _; unfold s_op; rw [if_neg (not_not_intro PbM1), if_pos (by omega)]
      exact hK x8 M7 IM7 FM7 (by omega) (by omega) (Or.inr ⟨by omega, s_bad.of e (by omega) (by omega) (by omega) (by omega)⟩)
    · skip
      refine PW.iload_n q_38_22 rfl ?_
      refine PW.cB q_38_23 (by decide) fun c9 hc9 => ?_
      refine PW.jc_le q_38_25 rfl (fun h10 => ?_) (fun h10 => False.elim (by omega))
      refine PW.aload_n q_38_34 rfl ?_
      refine PW.dup q_38_35 rfl ?_
      refine PW.gE q_38_36 (Or.inl t_ft_38_27) gF_14_0 kd_267 I.1 (by decide) fw267_0 ?_
      refine PW.cI q_38_39 (by decide) fun c11 hc11 => ?_
      refine PW.addN q_38_40 (by omega) (by omega) fun x12 hx12 => ?_
      refine PW.pI q_38_41 (Or.inl t_ft_38_27) gF_14_0 gP_14_0 kd_267 hV I (by decide) rfl (n_lo _) (n_hi _) fun M13 IM13 fM13 UM13 => ?_
      have FM13 := Fr.pu F UM13.1 kd_267 (rfl : List.contains [1, 14, 15, 16, 17] 14 = true)
      have b1 : kK y i = 2 ∨ kK y i = 5 := by rcases PbM1 with q | q; (· exact Or.inr q.1); (· exact Or.inl q.1)
      have on1 : o_i (M13 267) 0 = on + 1 := by have w := o_i_of fM13; omega
      refine PW.aload_n q_38_44 rfl ?_
      refine PW.gets q_38_45 t_st_38_80 ?_
      refine PW.cV (as := [_]) (rest := []) q_38_48 t_mv_38_58 kd_1 IM13.1 (by decide) rfl (by decide) rfl rfl (Nat.le_of_ble_eq_true rfl) (Nat.le_of_ble_eq_true rfl) (by decide) (by decide) ?_
      refine PW.up (by decide) (c_X7_takes_vk (V) (hV) G _ M13 IM13 19 (by decide) y (i) (hp_0.cg (UM13.1 _ (g_ne kd_1 kd_267 (by decide))) (UM13.1 _ (g_ne kd_2 kd_267 (by decide)))) fun x15 M14 IM14 GM14 hx15 kx15 PM14 => ?_)
      have FM14 := Fr.trans FM13 GM14 (rfl)
      rcases PM14 with ⟨PaM14, PbM14, PcM14, PtM14⟩ | ⟨PaM14, PnM14, PtM14⟩
      · skip
        have swM14 := (s_wn_iff (x := y) (i := i) (show 19 < 28 by decide)).mp PcM14
        refine PW.jz_eq q_38_51 rfl (fun h16 => False.elim (by omega)) (fun h16 => ?_)
        refine PW.aload_n q_38_54 rfl ?_
        refine PW.aload_n q_38_55 rfl ?_
        refine PW.aload_n q_38_56 rfl ?_
        refine PW.iload_n q_38_57 rfl ?_
        refine PW.cI q_38_58 (by decide) fun c17 hc17 => ?_
        refine PW.addN q_38_59 (by omega) (by omega) fun x18 hx18 => ?_
        refine PW.cV (as := [_, _, _]) (rest := []) q_38_60 t_mv_38_66 kd_267 IM14.1 (by decide) rfl (by decide) rfl rfl (Nat.le_of_ble_eq_true rfl) (Nat.le_of_ble_eq_true rfl) (by decide) (by decide) ?_
        refine PW.up (by decide) (c_X4_readOne_vk9 (V) (hV) G _ M14 IM14 x18 (by omega) (by omega) y (i + 1) f m (false :: st) (on + 1) PtM14 (hp_1.cg ((Fr.at GM14 kd_4 (by decide)).trans (UM13.1 _ (g_ne kd_4 kd_267 (by decide)))) ((Fr.at GM14 kd_5 (by decide)).trans (UM13.1 _ (g_ne kd_5 kd_267 (by decide))))) ((congrArg (fun e => o_i e 0) (Fr.at GM14 kd_267 (by decide))).trans on1) (by rw [List.length_cons]; omega) (by omega) fun x20 M19 IM19 GM19 hx20 kx20 PM19 => ?_)
        have FM19 := Fr.trans FM14 GM19 (rfl)
        rcases PM19 with ⟨PaM19, jM19, oM19, PkM19⟩ | ⟨PaM19, PkM19⟩
        · skip
          have koM19 := PkM19.2
          refine PW.jz_eq q_38_63 rfl (fun h21 => False.elim (by omega)) (fun h21 => ?_)
          refine PW.aload_n q_38_66 rfl ?_
          refine PW.gets q_38_67 t_st_38_80 ?_
          refine PW.cI q_38_70 (by decide) fun c22 hc22 => ?_
          refine PW.cI q_38_71 (by decide) fun c23 hc23 => ?_
          refine PW.cV (as := [_, _, _]) (rest := []) q_38_72 t_mv_38_62 kd_267 IM19.1 (by decide) rfl (by decide) rfl rfl (Nat.le_of_ble_eq_true rfl) (Nat.le_of_ble_eq_true rfl) (by decide) (by decide) ?_
          refine PW.up (by decide) (c_X4_add_vk (V) (hV) G _ M19 IM19 19 (by decide) c22 c23 (by omega) (by omega) fun x25 M24 IM24 GM24 hx25 kx25 PM24 => ?_)
          have FM24 := Fr.trans FM19 GM24 (rfl)
          have PoM24 := PM24
          refine PW.jz_eq q_38_75 rfl (fun h26 => False.elim (by omega)) (fun h26 => ?_)
          refine PW.cI q_38_78 (by decide) fun c27 hc27 => ?_
          refine PW.goto q_38_79 rfl ?_
          refine PW.rZ q_38_83 rfl (by omega) (by omega) (by decide) (by decide) ?_
          have e : s_st y f m (i, false, st, on) = (0, 0, (i + 1, false, false :: st, on + 1)) := by show s_op y f m i st on = _; unfold s_op; rw [if_neg (not_not_intro PbM1), if_neg (by omega), if_pos ⟨PbM14, by omega⟩]
          exact hK c27 M24 IM24 FM24 (by omega) (by omega) (Or.inl ⟨by omega, jM19, oM19, ((s_ok.next (on := on) (c := 1) PkM19 (s_to.of e) (by omega)).mono (on1 := on) (by omega)).cg (Fr.at GM24 kd_1 (by decide)) (Fr.at GM24 kd_2 (by decide)) PoM24⟩)
        · skip
          refine PW.jz_eq q_38_63 rfl (fun h28 => ?_) (fun h28 => False.elim (by omega))
          refine PW.cI q_38_82 (by decide) fun c29 hc29 => ?_
          refine PW.rZ q_38_83 rfl (by omega) (by omega) (by decide) (by decide) ?_
          have e : s_st y f m (i, false, st, on) = (0, 0, (i + 1, false, false :: st, on + 1)) := by show s_op y f m i st on = _; unfold s_op; rw [if_neg (not_not_intro PbM1), if_neg (by omega), if_pos ⟨PbM14, by omega⟩]
          exact hK c29 M19 IM19 FM19 (by omega) (by omega) (Or.inr ⟨by omega, (s_bad.to PkM19 (s_to.of e)).cg rfl⟩)
      · skip
        have snM14 : kK y (i) = 2 → s_wn y (i) ≠ 19 := fun h q => PnM14 ⟨h, (s_wn_iff (show 19 < 28 by decide)).mpr q⟩
        refine PW.jz_eq q_38_51 rfl (fun h30 => ?_) (fun h30 => False.elim (by omega))
        refine PW.aload_n q_38_84 rfl ?_
        refine PW.cB q_38_85 (by decide) fun c31 hc31 => ?_
        refine PW.cV (as := [_]) (rest := []) q_38_87 t_mv_38_83 kd_1 IM14.1 (by decide) rfl (by decide) rfl rfl (Nat.le_of_ble_eq_true rfl) (Nat.le_of_ble_eq_true rfl) (by decide) (by decide) ?_
        refine PW.up (by decide) (c_X7_seesSign_vk (V) (hV) G _ M14 IM14 c31 y (i) PtM14 fun x33  hx33 kx33 PM32 => ?_)
        rcases PM32 with ⟨PaM32, PbM32, PcM32⟩ | ⟨PaM32, PnM32⟩
        · skip
          refine PW.jz_eq q_38_90 rfl (fun h34 => False.elim (by omega)) (fun h34 => ?_)
          refine PW.aload_n q_38_93 rfl ?_
          refine PW.cV (as := []) (rest := []) q_38_94 t_mv_38_86 kd_1 IM14.1 (by decide) rfl (by decide) rfl rfl (Nat.le_of_ble_eq_true rfl) (Nat.le_of_ble_eq_true rfl) (by decide) (by decide) ?_
          refine PW.up (by decide) (c_X7_advance_vk (V) (hV) G _ M14 IM14 y (i + 1) (k_at.nx PtM14 (by omega)) fun M35 IM35 GM35 PM35 => ?_)
          have FM35 := Fr.trans FM14 GM35 (rfl)
          have PtM35 := PM35
          refine PW.aload_n q_38_97 rfl ?_
          refine PW.aload_n q_38_98 rfl ?_
          refine PW.aload_n q_38_99 rfl ?_
          refine PW.iload_n q_38_100 rfl ?_
          refine PW.cI q_38_101 (by decide) fun c36 hc36 => ?_
          refine PW.addN q_38_102 (by omega) (by omega) fun x37 hx37 => ?_
          refine PW.cV (as := [_, _, _]) (rest := []) q_38_103 t_mv_38_43 kd_267 IM35.1 (by decide) rfl (by decide) rfl rfl (Nat.le_of_ble_eq_true rfl) (Nat.le_of_ble_eq_true rfl) (by decide) (by decide) ?_
          refine PW.up (by decide) (c_X4_readAny_vk9 (V) (hV) G _ M35 IM35 x37 (by omega) (by omega) y (i + 1) f m (true :: st) (on + 1) PtM35 (hp_1.cg ((Fr.at GM35 kd_4 (by decide)).trans ((Fr.at GM14 kd_4 (by decide)).trans (UM13.1 _ (g_ne kd_4 kd_267 (by decide))))) ((Fr.at GM35 kd_5 (by decide)).trans ((Fr.at GM14 kd_5 (by decide)).trans (UM13.1 _ (g_ne kd_5 kd_267 (by decide)))))) (((congrArg (fun e => o_i e 0) (Fr.at GM35 kd_267 (by decide))).trans (congrArg (fun e => o_i e 0) (Fr.at GM14 kd_267 (by decide)))).trans on1) (by rw [List.length_cons]; omega) (by omega) rfl fun x39 M38 IM38 GM38 hx39 kx39 PM38 => ?_)
          have FM38 := Fr.trans FM35 GM38 (rfl)
          rcases PM38 with ⟨PaM38, jM38, oM38, PkM38, Pn2M38⟩ | ⟨PaM38, PkM38⟩
          · skip
            have koM38 := PkM38.2
            refine PW.jz_eq q_38_106 rfl (fun h40 => False.elim (by omega)) (fun h40 => ?_)
            refine PW.aload_n q_38_109 rfl ?_
            refine PW.cB q_38_110 (by decide) fun c41 hc41 => ?_
            refine PW.cV (as := [_]) (rest := []) q_38_112 t_mv_38_89 kd_1 IM38.1 (by decide) rfl (by decide) rfl rfl (Nat.le_of_ble_eq_true rfl) (Nat.le_of_ble_eq_true rfl) (by decide) (by decide) ?_
            refine PW.up (by decide) (c_X7_needsSign_vk (V) (hV) G _ M38 IM38 c41 y (jM38) PkM38.2.2.2.1 fun x43 M42 IM42 GM42 hx43 kx43 PM42 => ?_)
            have FM42 := Fr.trans FM38 GM42 (rfl)
            rcases PM42 with ⟨PaM42, PbM42, PcM42, PtM42⟩ | ⟨PaM42, PnM42, PfM42, PgM42⟩
            · skip
              refine PW.jz_eq q_38_115 rfl (fun h44 => False.elim (by omega)) (fun h44 => ?_)
              refine PW.cI q_38_118 (by decide) fun c45 hc45 => ?_
              refine PW.goto q_38_119 rfl ?_
              refine PW.rZ q_38_123 rfl (by omega) (by omega) (by decide) (by decide) ?_
              have e : s_st y f m (i, false, st, on) = (0, 0, (i + 1, false, true :: st, on + 1)) := by show s_op y f m i st on = _; unfold s_op; rw [if_neg (not_not_intro PbM1), if_neg (by omega), if_neg (by omega), if_pos (by omega)]
              have e2 : s_st y f m (jM38, true, true :: st, oM38) = (0, 0, (jM38 + 1, true, s_dn st, oM38)) := by show s_bh y jM38 (true :: st) oM38 = _; unfold s_bh; rw [if_neg Pn2M38, if_pos ⟨⟨PbM42, PcM42.trans (by omega)⟩, List.cons_ne_nil _ _⟩]; rfl
              exact hK c45 M42 IM42 FM42 (by omega) (by omega) (Or.inl ⟨by omega, jM38 + 1, oM38, ((s_to.of e).trans PkM38.1).trans (s_to.of e2), by have := PkM38.2.1; omega, PkM38.2.2.1, PtM42, ((congrArg (fun e => o_i e 0) (Fr.at GM42 kd_267 (by decide))).trans PkM38.2.2.2.2)⟩)
            · skip
              refine PW.jz_eq q_38_115 rfl (fun h46 => ?_) (fun h46 => False.elim (by omega))
              refine PW.cI q_38_122 (by decide) fun c47 hc47 => ?_
              refine PW.rZ q_38_123 rfl (by omega) (by omega) (by decide) (by decide) ?_
              have e : s_st y f m (i, false, st, on) = (0, 0, (i + 1, false, true :: st, on + 1)) := by show s_op y f m i st on = _; unfold s_op; rw [if_neg (not_not_intro PbM1), if_neg (by omega), if_neg (by omega), if_pos (by omega)]
              have e2 : s_st y f m (jM38, true, true :: st, oM38) = (1, kP y jM38, (0, false, [], 0)) := by show s_bh y jM38 (true :: st) oM38 = _; unfold s_bh; rw [if_neg Pn2M38, if_neg (fun h => PnM42 ⟨h.1.1, h.1.2.trans (by omega)⟩), if_neg (fun h => List.cons_ne_nil _ _ h.2)]
              exact hK c47 M42 IM42 FM42 (by omega) (by omega) (Or.inr ⟨by omega, ((s_bad.of e2 (by omega) (by omega) (by omega) (by omega)).to PkM38.1).to (s_to.of e)⟩)
          · skip
            refine PW.jz_eq q_38_106 rfl (fun h48 => ?_) (fun h48 => False.elim (by omega))
            refine PW.cI q_38_122 (by decide) fun c49 hc49 => ?_
            refine PW.rZ q_38_123 rfl (by omega) (by omega) (by decide) (by decide) ?_
            have e : s_st y f m (i, false, st, on) = (0, 0, (i + 1, false, true :: st, on + 1)) := by show s_op y f m i st on = _; unfold s_op; rw [if_neg (not_not_intro PbM1), if_neg (by omega), if_neg (by omega), if_pos (by omega)]
            exact hK c49 M38 IM38 FM38 (by omega) (by omega) (Or.inr ⟨by omega, (s_bad.to PkM38 (s_to.of e)).cg rfl⟩)
        · skip
          refine PW.jz_eq q_38_90 rfl (fun h50 => ?_) (fun h50 => False.elim (by omega))
          have k2 : kK y i = 2 := by rcases PbM1 with q | q; (· exact absurd ⟨q.1, q.2.trans (by omega)⟩ PnM32); (· exact q.1)
          have k3 : 20 ≤ s_wn y i ∧ s_wn y i ≤ 27 := by rcases PbM1 with q | q; (· omega); (· have u := snM14 q.1; omega)
          refine PW.aload_n q_38_124 rfl ?_
          refine PW.aload_n q_38_125 rfl ?_
          refine PW.aload_n q_38_126 rfl ?_
          refine PW.cV (as := [_, _]) (rest := []) q_38_127 t_mv_38_92 kd_267 IM14.1 (by decide) rfl (by decide) rfl rfl (Nat.le_of_ble_eq_true rfl) (Nat.le_of_ble_eq_true rfl) (by decide) (by decide) ?_
          refine PW.up (by decide) (c_X4_readPlain_vk (V) (hV) G _ M14 IM14 y (i) f m PtM14 (hp_1.cg ((Fr.at GM14 kd_4 (by decide)).trans (UM13.1 _ (g_ne kd_4 kd_267 (by decide)))) ((Fr.at GM14 kd_5 (by decide)).trans (UM13.1 _ (g_ne kd_5 kd_267 (by decide))))) (by omega) (by omega) (by omega) fun x52 M51 IM51 GM51 hx52 kx52 PM51 => ?_)
          have FM51 := Fr.trans FM14 GM51 (rfl)
          rcases PM51 with ⟨PaM51, PbM51, PtM51, PoM51⟩ | ⟨PaM51, PbM51, PfM51, PgM51⟩
          · skip
            refine PW.rZ q_38_130 rfl (by omega) (by omega) (by decide) (by decide) ?_
            have e : s_st y f m (i, false, st, on) = (0, 0, ((s_pn y f m i).2.2, true, s_dn st, on + 1)) := by show s_op y f m i st on = _; unfold s_op; rw [if_neg (not_not_intro PbM1), if_neg (by omega), if_neg (by omega), if_neg (by omega), if_neg (not_not_intro PbM51)]
            exact hK x52 M51 IM51 FM51 (by omega) (by omega) (Or.inl ⟨by omega, (s_pn y f m i).2.2, on + 1, s_to.of e, by omega, by omega, PtM51, (PoM51.trans ((congrArg (fun e => o_i e 0) (Fr.at GM14 kd_267 (by decide))).trans on1))⟩)
          · skip
            refine PW.rZ q_38_130 rfl (by omega) (by omega) (by decide) (by decide) ?_
            have pb := s_pn_b y f m i
            have e : s_st y f m (i, false, st, on) = ((s_pn y f m i).1, (s_pn y f m i).2.1, (0, false, [], 0)) := by show s_op y f m i st on = _; unfold s_op; rw [if_neg (not_not_intro PbM1), if_neg (by omega), if_neg (by omega), if_neg (by omega), if_pos PbM51]
            exact hK x52 M51 IM51 FM51 (by omega) (by omega) (Or.inr ⟨by omega, s_bad.of e (by omega) (by omega) (by omega) (by omega)⟩)
  · skip
    refine PW.jz_ne q_38_4 rfl (fun h53 => False.elim (by omega)) (fun h53 => ?_)
    refine PW.aload_n q_38_7 rfl ?_
    refine PW.cI q_38_8 (by decide) fun c54 hc54 => ?_
    refine PW.cV (as := [_]) (rest := []) q_38_9 t_mv_38_76 kd_1 I.1 (by decide) rfl (by decide) rfl rfl (Nat.le_of_ble_eq_true rfl) (Nat.le_of_ble_eq_true rfl) (by decide) (by decide) ?_
    refine PW.up (by decide) (c_X7_fail_vk (V) (hV) G _ M I c54 y (i) hp_0 fun x56 M55 IM55 GM55 hx56 kx56 PM55 => ?_)
    have FM55 := Fr.trans F GM55 (rfl)
    rcases PM55 with ⟨PfM55, PgM55⟩
    refine PW.rZ q_38_12 rfl (by omega) (by omega) (by decide) (by decide) ?_
    have e : s_st y f m (i, false, st, on) = (1, kP y i, (0, false, [], 0)) := by show s_op y f m i st on = _; unfold s_op; rw [if_pos PnM1]
    exact hK x56 M55 IM55 FM55 (by omega) (by omega) (Or.inr ⟨by omega, s_bad.of e (by omega) (by omega) (by omega) (by omega)⟩)
theorem c_X4_readAll_vk8 (V : pM → Prop) (hV : Stab V) (G : pG) (Kr : pK) (M : pM) (I : Iv V M) (a3 : Int32) (hl_a3 : 8 ≤ a3.toInt) (hh_a3 : a3.toInt ≤ 8) (y : k_X) (i : Nat) (f : Nat → Int) (m : Int) (st : List Bool) (on : Int) (hp_0 : k_at y M i) (hp_1 : s_nm M f m) (hp_2 : o_i (M 267) 0 = on) (hp_3 : st.length + 1 = 8) (hp_4 : 0 ≤ on) (hp_5 : s_dn st = st) (hK : ∀ (x : Int32) (M1 : pM), Iv V M1 → Fr [1, 14, 15, 16, 17] M M1 → 0 ≤ x.toInt → x.toInt ≤ 1 → (s_lq y f m i st on x M1) → Kr.1 (some (.int x)) 311 M1) : PW G false 7 37 (p_mc 37) (p_msl 37) Kr 0 (lv_args 0 [.ref 267, .ref 1, .ref 4, .int a3]) [] 311 M 0 0 := by
  have F : Fr [1, 14, 15, 16, 17] M M := Fr.refl
  obtain ⟨w267_0, fw267_0, hw267_0, kw267_0⟩ := gF_14_0.int kd_267 I.1 (by decide)
  have iw267_0 := o_i_of fw267_0
  have jw267_0 : w267_0.toInt = on := by have w := hp_2; omega
  refine PW.aload_n q_37_0 rfl ?_
  refine PW.aload_n q_37_1 rfl ?_
  refine PW.aload_n q_37_2 rfl ?_
  refine PW.iload_n q_37_3 rfl ?_
  refine PW.cV (as := [_, _, _]) (rest := []) q_37_4 t_mv_37_66 kd_267 I.1 (by decide) rfl (by decide) rfl rfl (Nat.le_of_ble_eq_true rfl) (Nat.le_of_ble_eq_true rfl) (by decide) (by decide) ?_
  refine PW.up (by decide) (c_X4_readOne_vk8 (V) (hV) G _ M I a3 (by omega) (by omega) y (i) f m st on hp_0 hp_1 hp_2 hp_3 (by omega) fun x2 M1 IM1 GM1 hx2 kx2 PM1 => ?_)
  have FM1 := Fr.trans F GM1 (rfl)
  rcases PM1 with ⟨PaM1, jM1, oM1, PkM1⟩ | ⟨PaM1, PkM1⟩
  · skip
    have koM1 := PkM1.2
    refine PW.istore q_37_7 (by decide) ?_
    refine PW.cI q_37_9 (by decide) fun c3 hc3 => ?_
    refine PW.istore q_37_10 (by decide) ?_
    have L37_12_4 : ∀ (n : Nat) (ML37_12_4 : pM) (v5 v6 : Int32), Iv (V) ML37_12_4 → Fr [1, 14, 15, 16, 17] M ML37_12_4 → 0 ≤ v5.toInt → v5.toInt ≤ 1 → 0 ≤ v6.toInt → v6.toInt ≤ 20 → s_li y f m i st on 18 ML37_12_4 v5.toInt v6.toInt → ML37_12_4 4 = M 4 → ML37_12_4 5 = M 5 → (20 - v6.toInt).toNat = n → PW G false 7 37 (p_mc 37) (p_msl 37) Kr 12 [(0, .ref 267), (1, .ref 1), (2, .ref 4), (3, .int a3), (4, .int v5), (5, .int v6)] [] 311 ML37_12_4 0 0 := by
      intro n
      induction n using Nat.strongRecOn with
      | ind n ih_L37_12_4 =>
      intro ML37_12_4 v5 v6 IML37_12_4 FML37_12_4 hbL37_12_40 hbL37_12_41 hbL37_12_42 hbL37_12_43 hbL37_12_44 hbL37_12_45 hbL37_12_46 hmL37_12_4
      refine PW.iload q_37_12 rfl ?_
      refine PW.cB q_37_14 (by decide) fun c7 hc7 => ?_
      refine PW.jc_ge q_37_16 rfl (fun h8 => ?_) (fun h8 => ?_)
      · skip
        refine PW.iload q_37_69 rfl ?_
        refine PW.rZ q_37_71 rfl (by omega) (by omega) (by decide) (by decide) ?_
        exact hK v5 ML37_12_4 IML37_12_4 FML37_12_4 (by omega) (by omega) (Or.inr ⟨(s_li.full hbL37_12_44 (by omega) hp_4).1, (s_li.full hbL37_12_44 (by omega) hp_4).2⟩)
      · skip
        refine PW.iload q_37_19 rfl ?_
        refine PW.jz_eq q_37_21 rfl (fun h9 => ?_) (fun h9 => ?_)
        · skip
          refine PW.iload q_37_69 rfl ?_
          refine PW.rZ q_37_71 rfl (by omega) (by omega) (by decide) (by decide) ?_
          exact hK v5 ML37_12_4 IML37_12_4 FML37_12_4 (by omega) (by omega) (Or.inr ⟨by omega, (s_li.no hbL37_12_44 (by omega))⟩)
        · skip
          obtain ⟨j0, o0, K0, N0⟩ : ∃ (j0 : Nat) (o0 : Int), s_ok y f m (i, false, st, on) st (on + v6.toInt) ML37_12_4 j0 o0 ∧ (18 = 17 → ¬ (kK y j0 = 2 ∧ s_wn y j0 = 18)) := by rcases hbL37_12_44 with q | q; (· exact q.2); (· omega)
          have T0 := K0.1
          have B0 := K0.2.1
          have B1 := K0.2.2.1
          refine PW.aload_n q_37_24 rfl ?_
          refine PW.gets q_37_25 t_st_37_69 ?_
          refine PW.cV (as := [_]) (rest := []) q_37_28 t_mv_37_58 kd_1 IML37_12_4.1 (by decide) rfl (by decide) rfl rfl (Nat.le_of_ble_eq_true rfl) (Nat.le_of_ble_eq_true rfl) (by decide) (by decide) ?_
          refine PW.up (by decide) (c_X7_takes_vk (V) (hV) G _ ML37_12_4 IML37_12_4 18 (by decide) y (j0) K0.2.2.2.1 fun x11 M10 IM10 GM10 hx11 kx11 PM10 => ?_)
          have FM10 := Fr.trans FML37_12_4 GM10 (rfl)
          rcases PM10 with ⟨PaM10, PbM10, PcM10, PtM10⟩ | ⟨PaM10, PnM10, PtM10⟩
          · skip
            have swM10 := (s_wn_iff (x := y) (i := j0) (show 18 < 28 by decide)).mp PcM10
            refine PW.jz_eq q_37_31 rfl (fun h12 => False.elim (by omega)) (fun h12 => ?_)
            have e0 : s_st y f m (j0, true, st, o0) = (0, 0, (j0 + 1, false, st, o0)) := by show s_bh y j0 st o0 = _; unfold s_bh; rw [if_pos ⟨PbM10, by omega⟩]
            refine PW.aload_n q_37_34 rfl ?_
            refine PW.aload_n q_37_35 rfl ?_
            refine PW.aload_n q_37_36 rfl ?_
            refine PW.iload_n q_37_37 rfl ?_
            refine PW.cV (as := [_, _, _]) (rest := []) q_37_38 t_mv_37_66 kd_267 IM10.1 (by decide) rfl (by decide) rfl rfl (Nat.le_of_ble_eq_true rfl) (Nat.le_of_ble_eq_true rfl) (by decide) (by decide) ?_
            refine PW.up (by decide) (c_X4_readOne_vk8 (V) (hV) G _ M10 IM10 a3 (by omega) (by omega) y (j0 + 1) f m st o0 PtM10 ((hp_1.cg hbL37_12_45 hbL37_12_46).cg (Fr.at GM10 kd_4 (by decide)) (Fr.at GM10 kd_5 (by decide))) ((congrArg (fun e => o_i e 0) (Fr.at GM10 kd_267 (by decide))).trans K0.2.2.2.2) hp_3 (by omega) fun x14 M13 IM13 GM13 hx14 kx14 PM13 => ?_)
            have FM13 := Fr.trans FM10 GM13 (rfl)
            rcases PM13 with ⟨PaM13, jM13, oM13, PkM13⟩ | ⟨PaM13, PkM13⟩
            · skip
              have koM13 := PkM13.2
              refine PW.jz_eq q_37_41 rfl (fun h15 => False.elim (by omega)) (fun h15 => ?_)
              refine PW.aload_n q_37_44 rfl ?_
              refine PW.gets q_37_45 t_st_37_69 ?_
              refine PW.cI q_37_48 (by decide) fun c16 hc16 => ?_
              refine PW.cI q_37_49 (by decide) fun c17 hc17 => ?_
              refine PW.cV (as := [_, _, _]) (rest := []) q_37_50 t_mv_37_62 kd_267 IM13.1 (by decide) rfl (by decide) rfl rfl (Nat.le_of_ble_eq_true rfl) (Nat.le_of_ble_eq_true rfl) (by decide) (by decide) ?_
              refine PW.up (by decide) (c_X4_add_vk (V) (hV) G _ M13 IM13 18 (by decide) c16 c17 (by omega) (by omega) fun x19 M18 IM18 GM18 hx19 kx19 PM18 => ?_)
              have FM18 := Fr.trans FM13 GM18 (rfl)
              have PoM18 := PM18
              refine PW.jz_eq q_37_53 rfl (fun h20 => False.elim (by omega)) (fun h20 => ?_)
              refine PW.cI q_37_56 (by decide) fun c21 hc21 => ?_
              refine PW.goto q_37_57 rfl ?_
              refine PW.istore q_37_61 (by decide) ?_
              refine PW.incN q_37_63 rfl (by decide) (by decide) (by omega) (by omega) fun x22 hx22 => ?_
              refine PW.goto q_37_66 rfl ?_
              refine PW.lvS (lk1 rfl (lk1 rfl (lk1 rfl (lk1 rfl (lk1 rfl (lk1 rfl lk0)))))) (ih_L37_12_4 _ ?_ M18 c21 x22 IM18 FM18 (by omega) (by omega) (by omega) (by omega) (Or.inl ⟨by omega, jM13, oM13, ((s_ok.next (c := x22.toInt) (by rw [hp_5] at PkM13; exact PkM13) (T0.trans (s_to.of e0)) (by have := K0.2.1; omega)).cg (Fr.at GM18 kd_1 (by decide)) (Fr.at GM18 kd_2 (by decide)) PoM18), (fun h => absurd h (by decide))⟩) (((Fr.at GM18 kd_4 (by decide)).trans ((Fr.at GM13 kd_4 (by decide)).trans (Fr.at GM10 kd_4 (by decide)))).trans hbL37_12_45) (((Fr.at GM18 kd_5 (by decide)).trans ((Fr.at GM13 kd_5 (by decide)).trans (Fr.at GM10 kd_5 (by decide)))).trans hbL37_12_46) rfl)
              omega
            · skip
              refine PW.jz_eq q_37_41 rfl (fun h23 => ?_) (fun h23 => False.elim (by omega))
              refine PW.cI q_37_60 (by decide) fun c24 hc24 => ?_
              refine PW.istore q_37_61 (by decide) ?_
              refine PW.incN q_37_63 rfl (by decide) (by decide) (by omega) (by omega) fun x25 hx25 => ?_
              refine PW.goto q_37_66 rfl ?_
              refine PW.lvS (lk1 rfl (lk1 rfl (lk1 rfl (lk1 rfl (lk1 rfl (lk1 rfl lk0)))))) (ih_L37_12_4 _ ?_ M13 c24 x25 IM13 FM13 (by omega) (by omega) (by omega) (by omega) (Or.inr ⟨by omega, ((s_bad.to PkM13 (T0.trans (s_to.of e0))).cg rfl)⟩) (((Fr.at GM13 kd_4 (by decide)).trans (Fr.at GM10 kd_4 (by decide))).trans hbL37_12_45) (((Fr.at GM13 kd_5 (by decide)).trans (Fr.at GM10 kd_5 (by decide))).trans hbL37_12_46) rfl)
              omega
          · skip
            have snM10 : kK y (j0) = 2 → s_wn y (j0) ≠ 18 := fun h q => PnM10 ⟨h, (s_wn_iff (show 18 < 28 by decide)).mpr q⟩
            refine PW.jz_eq q_37_31 rfl (fun h26 => ?_) (fun h26 => False.elim (by omega))
            refine PW.iload q_37_69 rfl ?_
            refine PW.rZ q_37_71 rfl (by omega) (by omega) (by decide) (by decide) ?_
            exact hK v5 M10 IM10 FM10 (by omega) (by omega) (Or.inl ⟨by omega, j0, o0, ⟨T0, by omega, B1, PtM10, ((congrArg (fun e => o_i e 0) (Fr.at GM10 kd_267 (by decide))).trans K0.2.2.2.2)⟩, (fun h => snM10 h.1 h.2)⟩)
    exact PW.lvS (lk1 rfl (lk1 rfl (lk1 rfl (lk1 rfl (lk1 rfl (lk1 rfl lk0)))))) (L37_12_4 _ M1 x2 c3 IM1 FM1 (by omega) (by omega) (by omega) (by omega) (Or.inl ⟨by omega, jM1, oM1, (s_ok.mono (by rw [hp_5] at PkM1; exact PkM1) (by omega)), (fun h => absurd h (by decide))⟩) (Fr.at GM1 kd_4 (by decide)) (Fr.at GM1 kd_5 (by decide)) rfl)
  · skip
    refine PW.istore q_37_7 (by decide) ?_
    refine PW.cI q_37_9 (by decide) fun c27 hc27 => ?_
    refine PW.istore q_37_10 (by decide) ?_
    have L37_12_28 : ∀ (n : Nat) (ML37_12_28 : pM) (v29 v30 : Int32), Iv (V) ML37_12_28 → Fr [1, 14, 15, 16, 17] M ML37_12_28 → 0 ≤ v29.toInt → v29.toInt ≤ 1 → 0 ≤ v30.toInt → v30.toInt ≤ 20 → s_li y f m i st on 18 ML37_12_28 v29.toInt v30.toInt → ML37_12_28 4 = M 4 → ML37_12_28 5 = M 5 → (20 - v30.toInt).toNat = n → PW G false 7 37 (p_mc 37) (p_msl 37) Kr 12 [(0, .ref 267), (1, .ref 1), (2, .ref 4), (3, .int a3), (4, .int v29), (5, .int v30)] [] 311 ML37_12_28 0 0 := by
      intro n
      induction n using Nat.strongRecOn with
      | ind n ih_L37_12_28 =>
      intro ML37_12_28 v29 v30 IML37_12_28 FML37_12_28 hbL37_12_280 hbL37_12_281 hbL37_12_282 hbL37_12_283 hbL37_12_284 hbL37_12_285 hbL37_12_286 hmL37_12_28
      refine PW.iload q_37_12 rfl ?_
      refine PW.cB q_37_14 (by decide) fun c31 hc31 => ?_
      refine PW.jc_ge q_37_16 rfl (fun h32 => ?_) (fun h32 => ?_)
      · skip
        refine PW.iload q_37_69 rfl ?_
        refine PW.rZ q_37_71 rfl (by omega) (by omega) (by decide) (by decide) ?_
        exact hK v29 ML37_12_28 IML37_12_28 FML37_12_28 (by omega) (by omega) (Or.inr ⟨(s_li.full hbL37_12_284 (by omega) hp_4).1, (s_li.full hbL37_12_284 (by omega) hp_4).2⟩)
      · skip
        refine PW.iload q_37_19 rfl ?_
        refine PW.jz_eq q_37_21 rfl (fun h33 => ?_) (fun h33 => ?_)
        · skip
          refine PW.iload q_37_69 rfl ?_
          refine PW.rZ q_37_71 rfl (by omega) (by omega) (by decide) (by decide) ?_
          exact hK v29 ML37_12_28 IML37_12_28 FML37_12_28 (by omega) (by omega) (Or.inr ⟨by omega, (s_li.no hbL37_12_284 (by omega))⟩)
        · skip
          obtain ⟨j0, o0, K0, N0⟩ : ∃ (j0 : Nat) (o0 : Int), s_ok y f m (i, false, st, on) st (on + v30.toInt) ML37_12_28 j0 o0 ∧ (18 = 17 → ¬ (kK y j0 = 2 ∧ s_wn y j0 = 18)) := by rcases hbL37_12_284 with q | q; (· exact q.2); (· omega)
          have T0 := K0.1
          have B0 := K0.2.1
          have B1 := K0.2.2.1
          refine PW.aload_n q_37_24 rfl ?_
          refine PW.gets q_37_25 t_st_37_69 ?_
          refine PW.cV (as := [_]) (rest := []) q_37_28 t_mv_37_58 kd_1 IML37_12_28.1 (by decide) rfl (by decide) rfl rfl (Nat.le_of_ble_eq_true rfl) (Nat.le_of_ble_eq_true rfl) (by decide) (by decide) ?_
          refine PW.up (by decide) (c_X7_takes_vk (V) (hV) G _ ML37_12_28 IML37_12_28 18 (by decide) y (j0) K0.2.2.2.1 fun x35 M34 IM34 GM34 hx35 kx35 PM34 => ?_)
          have FM34 := Fr.trans FML37_12_28 GM34 (rfl)
          rcases PM34 with ⟨PaM34, PbM34, PcM34, PtM34⟩ | ⟨PaM34, PnM34, PtM34⟩
          · skip
            have swM34 := (s_wn_iff (x := y) (i := j0) (show 18 < 28 by decide)).mp PcM34
            refine PW.jz_eq q_37_31 rfl (fun h36 => False.elim (by omega)) (fun h36 => ?_)
            have e0 : s_st y f m (j0, true, st, o0) = (0, 0, (j0 + 1, false, st, o0)) := by show s_bh y j0 st o0 = _; unfold s_bh; rw [if_pos ⟨PbM34, by omega⟩]
            refine PW.aload_n q_37_34 rfl ?_
            refine PW.aload_n q_37_35 rfl ?_
            refine PW.aload_n q_37_36 rfl ?_
            refine PW.iload_n q_37_37 rfl ?_
            refine PW.cV (as := [_, _, _]) (rest := []) q_37_38 t_mv_37_66 kd_267 IM34.1 (by decide) rfl (by decide) rfl rfl (Nat.le_of_ble_eq_true rfl) (Nat.le_of_ble_eq_true rfl) (by decide) (by decide) ?_
            refine PW.up (by decide) (c_X4_readOne_vk8 (V) (hV) G _ M34 IM34 a3 (by omega) (by omega) y (j0 + 1) f m st o0 PtM34 ((hp_1.cg hbL37_12_285 hbL37_12_286).cg (Fr.at GM34 kd_4 (by decide)) (Fr.at GM34 kd_5 (by decide))) ((congrArg (fun e => o_i e 0) (Fr.at GM34 kd_267 (by decide))).trans K0.2.2.2.2) hp_3 (by omega) fun x38 M37 IM37 GM37 hx38 kx38 PM37 => ?_)
            have FM37 := Fr.trans FM34 GM37 (rfl)
            rcases PM37 with ⟨PaM37, jM37, oM37, PkM37⟩ | ⟨PaM37, PkM37⟩
            · skip
              have koM37 := PkM37.2
              refine PW.jz_eq q_37_41 rfl (fun h39 => False.elim (by omega)) (fun h39 => ?_)
              refine PW.aload_n q_37_44 rfl ?_
              refine PW.gets q_37_45 t_st_37_69 ?_
              refine PW.cI q_37_48 (by decide) fun c40 hc40 => ?_
              refine PW.cI q_37_49 (by decide) fun c41 hc41 => ?_
              refine PW.cV (as := [_, _, _]) (rest := []) q_37_50 t_mv_37_62 kd_267 IM37.1 (by decide) rfl (by decide) rfl rfl (Nat.le_of_ble_eq_true rfl) (Nat.le_of_ble_eq_true rfl) (by decide) (by decide) ?_
              refine PW.up (by decide) (c_X4_add_vk (V) (hV) G _ M37 IM37 18 (by decide) c40 c41 (by omega) (by omega) fun x43 M42 IM42 GM42 hx43 kx43 PM42 => ?_)
              have FM42 := Fr.trans FM37 GM42 (rfl)
              have PoM42 := PM42
              refine PW.jz_eq q_37_53 rfl (fun h44 => False.elim (by omega)) (fun h44 => ?_)
              refine PW.cI q_37_56 (by decide) fun c45 hc45 => ?_
              refine PW.goto q_37_57 rfl ?_
              refine PW.istore q_37_61 (by decide) ?_
              refine PW.incN q_37_63 rfl (by decide) (by decide) (by omega) (by omega) fun x46 hx46 => ?_
              refine PW.goto q_37_66 rfl ?_
              refine PW.lvS (lk1 rfl (lk1 rfl (lk1 rfl (lk1 rfl (lk1 rfl (lk1 rfl lk0)))))) (ih_L37_12_28 _ ?_ M42 c45 x46 IM42 FM42 (by omega) (by omega) (by omega) (by omega) (Or.inl ⟨by omega, jM37, oM37, ((s_ok.next (c := x46.toInt) (by rw [hp_5] at PkM37; exact PkM37) (T0.trans (s_to.of e0)) (by have := K0.2.1; omega)).cg (Fr.at GM42 kd_1 (by decide)) (Fr.at GM42 kd_2 (by decide)) PoM42), (fun h => absurd h (by decide))⟩) (((Fr.at GM42 kd_4 (by decide)).trans ((Fr.at GM37 kd_4 (by decide)).trans (Fr.at GM34 kd_4 (by decide)))).trans hbL37_12_285) (((Fr.at GM42 kd_5 (by decide)).trans ((Fr.at GM37 kd_5 (by decide)).trans (Fr.at GM34 kd_5 (by decide)))).trans hbL37_12_286) rfl)
              omega
            · skip
              refine PW.jz_eq q_37_41 rfl (fun h47 => ?_) (fun h47 => False.elim (by omega))
              refine PW.cI q_37_60 (by decide) fun c48 hc48 => ?_
              refine PW.istore q_37_61 (by decide) ?_
              refine PW.incN q_37_63 rfl (by decide) (by decide) (by omega) (by omega) fun x49 hx49 => ?_
              refine PW.goto q_37_66 rfl ?_
              refine PW.lvS (lk1 rfl (lk1 rfl (lk1 rfl (lk1 rfl (lk1 rfl (lk1 rfl lk0)))))) (ih_L37_12_28 _ ?_ M37 c48 x49 IM37 FM37 (by omega) (by omega) (by omega) (by omega) (Or.inr ⟨by omega, ((s_bad.to PkM37 (T0.trans (s_to.of e0))).cg rfl)⟩) (((Fr.at GM37 kd_4 (by decide)).trans (Fr.at GM34 kd_4 (by decide))).trans hbL37_12_285) (((Fr.at GM37 kd_5 (by decide)).trans (Fr.at GM34 kd_5 (by decide))).trans hbL37_12_286) rfl)
              omega
          · skip
            have snM34 : kK y (j0) = 2 → s_wn y (j0) ≠ 18 := fun h q => PnM34 ⟨h, (s_wn_iff (show 18 < 28 by decide)).mpr q⟩
            refine PW.jz_eq q_37_31 rfl (fun h50 => ?_) (fun h50 => False.elim (by omega))
            refine PW.iload q_37_69 rfl ?_
            refine PW.rZ q_37_71 rfl (by omega) (by omega) (by decide) (by decide) ?_
            exact hK v29 M34 IM34 FM34 (by omega) (by omega) (Or.inl ⟨by omega, j0, o0, ⟨T0, by omega, B1, PtM34, ((congrArg (fun e => o_i e 0) (Fr.at GM34 kd_267 (by decide))).trans K0.2.2.2.2)⟩, (fun h => snM34 h.1 h.2)⟩)
    exact PW.lvS (lk1 rfl (lk1 rfl (lk1 rfl (lk1 rfl (lk1 rfl (lk1 rfl lk0)))))) (L37_12_28 _ M1 x2 c27 IM1 FM1 (by omega) (by omega) (by omega) (by omega) (Or.inr ⟨by omega, PkM1⟩) (Fr.at GM1 kd_4 (by decide)) (Fr.at GM1 kd_5 (by decide)) rfl)
theorem c_X4_readAny_vk8 (V : pM → Prop) (hV : Stab V) (G : pG) (Kr : pK) (M : pM) (I : Iv V M) (a3 : Int32) (hl_a3 : 8 ≤ a3.toInt) (hh_a3 : a3.toInt ≤ 8) (y : k_X) (i : Nat) (f : Nat → Int) (m : Int) (st : List Bool) (on : Int) (hp_0 : k_at y M i) (hp_1 : s_nm M f m) (hp_2 : o_i (M 267) 0 = on) (hp_3 : st.length + 1 = 8) (hp_4 : 0 ≤ on) (hp_5 : s_dn st = st) (hK : ∀ (x : Int32) (M1 : pM), Iv V M1 → Fr [1, 14, 15, 16, 17] M M1 → 0 ≤ x.toInt → x.toInt ≤ 1 → (s_aq y f m i st on x M1) → Kr.1 (some (.int x)) 311 M1) : PW G false 8 36 (p_mc 36) (p_msl 36) Kr 0 (lv_args 0 [.ref 267, .ref 1, .ref 4, .int a3]) [] 311 M 0 0 := by
  have F : Fr [1, 14, 15, 16, 17] M M := Fr.refl
  obtain ⟨w267_0, fw267_0, hw267_0, kw267_0⟩ := gF_14_0.int kd_267 I.1 (by decide)
  have iw267_0 := o_i_of fw267_0
  have jw267_0 : w267_0.toInt = on := by have w := hp_2; omega
  refine PW.aload_n q_36_0 rfl ?_
  refine PW.aload_n q_36_1 rfl ?_
  refine PW.aload_n q_36_2 rfl ?_
  refine PW.iload_n q_36_3 rfl ?_
  refine PW.cV (as := [_, _, _]) (rest := []) q_36_4 t_mv_36_51 kd_267 I.1 (by decide) rfl (by decide) rfl rfl (Nat.le_of_ble_eq_true rfl) (Nat.le_of_ble_eq_true rfl) (by decide) (by decide) ?_
  refine PW.up (by decide) (c_X4_readAll_vk8 (V) (hV) G _ M I a3 (by omega) (by omega) y (i) f m st on hp_0 hp_1 hp_2 hp_3 (by omega) hp_5 fun x2 M1 IM1 GM1 hx2 kx2 PM1 => ?_)
  have FM1 := Fr.trans F GM1 (rfl)
  rcases PM1 with ⟨PaM1, jM1, oM1, PkM1, Pn2M1⟩ | ⟨PaM1, PkM1⟩
  · skip
    have koM1 := PkM1.2
    refine PW.istore q_36_7 (by decide) ?_
    refine PW.cI q_36_9 (by decide) fun c3 hc3 => ?_
    refine PW.istore q_36_10 (by decide) ?_
    have L36_12_4 : ∀ (n : Nat) (ML36_12_4 : pM) (v5 v6 : Int32), Iv (V) ML36_12_4 → Fr [1, 14, 15, 16, 17] M ML36_12_4 → 0 ≤ v5.toInt → v5.toInt ≤ 1 → 0 ≤ v6.toInt → v6.toInt ≤ 20 → s_li y f m i st on 17 ML36_12_4 v5.toInt v6.toInt → ML36_12_4 4 = M 4 → ML36_12_4 5 = M 5 → (20 - v6.toInt).toNat = n → PW G false 8 36 (p_mc 36) (p_msl 36) Kr 12 [(0, .ref 267), (1, .ref 1), (2, .ref 4), (3, .int a3), (4, .int v5), (5, .int v6)] [] 311 ML36_12_4 0 0 := by
      intro n
      induction n using Nat.strongRecOn with
      | ind n ih_L36_12_4 =>
      intro ML36_12_4 v5 v6 IML36_12_4 FML36_12_4 hbL36_12_40 hbL36_12_41 hbL36_12_42 hbL36_12_43 hbL36_12_44 hbL36_12_45 hbL36_12_46 hmL36_12_4
      refine PW.iload q_36_12 rfl ?_
      refine PW.cB q_36_14 (by decide) fun c7 hc7 => ?_
      refine PW.jc_ge q_36_16 rfl (fun h8 => ?_) (fun h8 => ?_)
      · skip
        refine PW.iload q_36_69 rfl ?_
        refine PW.rZ q_36_71 rfl (by omega) (by omega) (by decide) (by decide) ?_
        exact hK v5 ML36_12_4 IML36_12_4 FML36_12_4 (by omega) (by omega) (Or.inr ⟨(s_li.full hbL36_12_44 (by omega) hp_4).1, (s_li.full hbL36_12_44 (by omega) hp_4).2⟩)
      · skip
        refine PW.iload q_36_19 rfl ?_
        refine PW.jz_eq q_36_21 rfl (fun h9 => ?_) (fun h9 => ?_)
        · skip
          refine PW.iload q_36_69 rfl ?_
          refine PW.rZ q_36_71 rfl (by omega) (by omega) (by decide) (by decide) ?_
          exact hK v5 ML36_12_4 IML36_12_4 FML36_12_4 (by omega) (by omega) (Or.inr ⟨by omega, (s_li.no hbL36_12_44 (by omega))⟩)
        · skip
          obtain ⟨j0, o0, K0, N0⟩ : ∃ (j0 : Nat) (o0 : Int), s_ok y f m (i, false, st, on) st (on + v6.toInt) ML36_12_4 j0 o0 ∧ (17 = 17 → ¬ (kK y j0 = 2 ∧ s_wn y j0 = 18)) := by rcases hbL36_12_44 with q | q; (· exact q.2); (· omega)
          have T0 := K0.1
          have B0 := K0.2.1
          have B1 := K0.2.2.1
          refine PW.aload_n q_36_24 rfl ?_
          refine PW.gets q_36_25 t_st_36_54 ?_
          refine PW.cV (as := [_]) (rest := []) q_36_28 t_mv_36_58 kd_1 IML36_12_4.1 (by decide) rfl (by decide) rfl rfl (Nat.le_of_ble_eq_true rfl) (Nat.le_of_ble_eq_true rfl) (by decide) (by decide) ?_
          refine PW.up (by decide) (c_X7_takes_vk (V) (hV) G _ ML36_12_4 IML36_12_4 17 (by decide) y (j0) K0.2.2.2.1 fun x11 M10 IM10 GM10 hx11 kx11 PM10 => ?_)
          have FM10 := Fr.trans FML36_12_4 GM10 (rfl)
          rcases PM10 with ⟨PaM10, PbM10, PcM10, PtM10⟩ | ⟨PaM10, PnM10, PtM10⟩
          · skip
            have swM10 := (s_wn_iff (x := y) (i := j0) (show 17 < 28 by decide)).mp PcM10
            refine PW.jz_eq q_36_31 rfl (fun h12 => False.elim (by omega)) (fun h12 => ?_)
            have e0 : s_st y f m (j0, true, st, o0) = (0, 0, (j0 + 1, false, st, o0)) := by show s_bh y j0 st o0 = _; unfold s_bh; rw [if_pos ⟨PbM10, by omega⟩]
            refine PW.aload_n q_36_34 rfl ?_
            refine PW.aload_n q_36_35 rfl ?_
            refine PW.aload_n q_36_36 rfl ?_
            refine PW.iload_n q_36_37 rfl ?_
            refine PW.cV (as := [_, _, _]) (rest := []) q_36_38 t_mv_36_51 kd_267 IM10.1 (by decide) rfl (by decide) rfl rfl (Nat.le_of_ble_eq_true rfl) (Nat.le_of_ble_eq_true rfl) (by decide) (by decide) ?_
            refine PW.up (by decide) (c_X4_readAll_vk8 (V) (hV) G _ M10 IM10 a3 (by omega) (by omega) y (j0 + 1) f m st o0 PtM10 ((hp_1.cg hbL36_12_45 hbL36_12_46).cg (Fr.at GM10 kd_4 (by decide)) (Fr.at GM10 kd_5 (by decide))) ((congrArg (fun e => o_i e 0) (Fr.at GM10 kd_267 (by decide))).trans K0.2.2.2.2) hp_3 (by omega) hp_5 fun x14 M13 IM13 GM13 hx14 kx14 PM13 => ?_)
            have FM13 := Fr.trans FM10 GM13 (rfl)
            rcases PM13 with ⟨PaM13, jM13, oM13, PkM13, Pn2M13⟩ | ⟨PaM13, PkM13⟩
            · skip
              have koM13 := PkM13.2
              refine PW.jz_eq q_36_41 rfl (fun h15 => False.elim (by omega)) (fun h15 => ?_)
              refine PW.aload_n q_36_44 rfl ?_
              refine PW.gets q_36_45 t_st_36_54 ?_
              refine PW.cI q_36_48 (by decide) fun c16 hc16 => ?_
              refine PW.cI q_36_49 (by decide) fun c17 hc17 => ?_
              refine PW.cV (as := [_, _, _]) (rest := []) q_36_50 t_mv_36_62 kd_267 IM13.1 (by decide) rfl (by decide) rfl rfl (Nat.le_of_ble_eq_true rfl) (Nat.le_of_ble_eq_true rfl) (by decide) (by decide) ?_
              refine PW.up (by decide) (c_X4_add_vk (V) (hV) G _ M13 IM13 17 (by decide) c16 c17 (by omega) (by omega) fun x19 M18 IM18 GM18 hx19 kx19 PM18 => ?_)
              have FM18 := Fr.trans FM13 GM18 (rfl)
              have PoM18 := PM18
              refine PW.jz_eq q_36_53 rfl (fun h20 => False.elim (by omega)) (fun h20 => ?_)
              refine PW.cI q_36_56 (by decide) fun c21 hc21 => ?_
              refine PW.goto q_36_57 rfl ?_
              refine PW.istore q_36_61 (by decide) ?_
              refine PW.incN q_36_63 rfl (by decide) (by decide) (by omega) (by omega) fun x22 hx22 => ?_
              refine PW.goto q_36_66 rfl ?_
              refine PW.lvS (lk1 rfl (lk1 rfl (lk1 rfl (lk1 rfl (lk1 rfl (lk1 rfl lk0)))))) (ih_L36_12_4 _ ?_ M18 c21 x22 IM18 FM18 (by omega) (by omega) (by omega) (by omega) (Or.inl ⟨by omega, jM13, oM13, ((s_ok.next (c := x22.toInt) PkM13 (T0.trans (s_to.of e0)) (by have := K0.2.1; omega)).cg (Fr.at GM18 kd_1 (by decide)) (Fr.at GM18 kd_2 (by decide)) PoM18), (fun _ => Pn2M13)⟩) (((Fr.at GM18 kd_4 (by decide)).trans ((Fr.at GM13 kd_4 (by decide)).trans (Fr.at GM10 kd_4 (by decide)))).trans hbL36_12_45) (((Fr.at GM18 kd_5 (by decide)).trans ((Fr.at GM13 kd_5 (by decide)).trans (Fr.at GM10 kd_5 (by decide)))).trans hbL36_12_46) rfl)
              omega
            · skip
              refine PW.jz_eq q_36_41 rfl (fun h23 => ?_) (fun h23 => False.elim (by omega))
              refine PW.cI q_36_60 (by decide) fun c24 hc24 => ?_
              refine PW.istore q_36_61 (by decide) ?_
              refine PW.incN q_36_63 rfl (by decide) (by decide) (by omega) (by omega) fun x25 hx25 => ?_
              refine PW.goto q_36_66 rfl ?_
              refine PW.lvS (lk1 rfl (lk1 rfl (lk1 rfl (lk1 rfl (lk1 rfl (lk1 rfl lk0)))))) (ih_L36_12_4 _ ?_ M13 c24 x25 IM13 FM13 (by omega) (by omega) (by omega) (by omega) (Or.inr ⟨by omega, ((s_bad.to PkM13 (T0.trans (s_to.of e0))).cg rfl)⟩) (((Fr.at GM13 kd_4 (by decide)).trans (Fr.at GM10 kd_4 (by decide))).trans hbL36_12_45) (((Fr.at GM13 kd_5 (by decide)).trans (Fr.at GM10 kd_5 (by decide))).trans hbL36_12_46) rfl)
              omega
          · skip
            have snM10 : kK y (j0) = 2 → s_wn y (j0) ≠ 17 := fun h q => PnM10 ⟨h, (s_wn_iff (show 17 < 28 by decide)).mpr q⟩
            refine PW.jz_eq q_36_31 rfl (fun h26 => ?_) (fun h26 => False.elim (by omega))
            refine PW.iload q_36_69 rfl ?_
            refine PW.rZ q_36_71 rfl (by omega) (by omega) (by decide) (by decide) ?_
            exact hK v5 M10 IM10 FM10 (by omega) (by omega) (Or.inl ⟨by omega, j0, o0, ⟨T0, by omega, B1, PtM10, ((congrArg (fun e => o_i e 0) (Fr.at GM10 kd_267 (by decide))).trans K0.2.2.2.2)⟩, (fun h => by rcases h.2 with q | q; (· exact N0 rfl ⟨h.1, q⟩); (· exact snM10 h.1 q))⟩)
    exact PW.lvS (lk1 rfl (lk1 rfl (lk1 rfl (lk1 rfl (lk1 rfl (lk1 rfl lk0)))))) (L36_12_4 _ M1 x2 c3 IM1 FM1 (by omega) (by omega) (by omega) (by omega) (Or.inl ⟨by omega, jM1, oM1, (s_ok.mono PkM1 (by omega)), (fun _ => Pn2M1)⟩) (Fr.at GM1 kd_4 (by decide)) (Fr.at GM1 kd_5 (by decide)) rfl)
  · skip
    refine PW.istore q_36_7 (by decide) ?_
    refine PW.cI q_36_9 (by decide) fun c27 hc27 => ?_
    refine PW.istore q_36_10 (by decide) ?_
    have L36_12_28 : ∀ (n : Nat) (ML36_12_28 : pM) (v29 v30 : Int32), Iv (V) ML36_12_28 → Fr [1, 14, 15, 16, 17] M ML36_12_28 → 0 ≤ v29.toInt → v29.toInt ≤ 1 → 0 ≤ v30.toInt → v30.toInt ≤ 20 → s_li y f m i st on 17 ML36_12_28 v29.toInt v30.toInt → ML36_12_28 4 = M 4 → ML36_12_28 5 = M 5 → (20 - v30.toInt).toNat = n → PW G false 8 36 (p_mc 36) (p_msl 36) Kr 12 [(0, .ref 267), (1, .ref 1), (2, .ref 4), (3, .int a3), (4, .int v29), (5, .int v30)] [] 311 ML36_12_28 0 0 := by
      intro n
      induction n using Nat.strongRecOn with
      | ind n ih_L36_12_28 =>
      intro ML36_12_28 v29 v30 IML36_12_28 FML36_12_28 hbL36_12_280 hbL36_12_281 hbL36_12_282 hbL36_12_283 hbL36_12_284 hbL36_12_285 hbL36_12_286 hmL36_12_28
      refine PW.iload q_36_12 rfl ?_
      refine PW.cB q_36_14 (by decide) fun c31 hc31 => ?_
      refine PW.jc_ge q_36_16 rfl (fun h32 => ?_) (fun h32 => ?_)
      · skip
        refine PW.iload q_36_69 rfl ?_
        refine PW.rZ q_36_71 rfl (by omega) (by omega) (by decide) (by decide) ?_
        exact hK v29 ML36_12_28 IML36_12_28 FML36_12_28 (by omega) (by omega) (Or.inr ⟨(s_li.full hbL36_12_284 (by omega) hp_4).1, (s_li.full hbL36_12_284 (by omega) hp_4).2⟩)
      · skip
        refine PW.iload q_36_19 rfl ?_
        refine PW.jz_eq q_36_21 rfl (fun h33 => ?_) (fun h33 => ?_)
        · skip
          refine PW.iload q_36_69 rfl ?_
          refine PW.rZ q_36_71 rfl (by omega) (by omega) (by decide) (by decide) ?_
          exact hK v29 ML36_12_28 IML36_12_28 FML36_12_28 (by omega) (by omega) (Or.inr ⟨by omega, (s_li.no hbL36_12_284 (by omega))⟩)
        · skip
          obtain ⟨j0, o0, K0, N0⟩ : ∃ (j0 : Nat) (o0 : Int), s_ok y f m (i, false, st, on) st (on + v30.toInt) ML36_12_28 j0 o0 ∧ (17 = 17 → ¬ (kK y j0 = 2 ∧ s_wn y j0 = 18)) := by rcases hbL36_12_284 with q | q; (· exact q.2); (· omega)
          have T0 := K0.1
          have B0 := K0.2.1
          have B1 := K0.2.2.1
          refine PW.aload_n q_36_24 rfl ?_
          refine PW.gets q_36_25 t_st_36_54 ?_
          refine PW.cV (as := [_]) (rest := []) q_36_28 t_mv_36_58 kd_1 IML36_12_28.1 (by decide) rfl (by decide) rfl rfl (Nat.le_of_ble_eq_true rfl) (Nat.le_of_ble_eq_true rfl) (by decide) (by decide) ?_
          refine PW.up (by decide) (c_X7_takes_vk (V) (hV) G _ ML36_12_28 IML36_12_28 17 (by decide) y (j0) K0.2.2.2.1 fun x35 M34 IM34 GM34 hx35 kx35 PM34 => ?_)
          have FM34 := Fr.trans FML36_12_28 GM34 (rfl)
          rcases PM34 with ⟨PaM34, PbM34, PcM34, PtM34⟩ | ⟨PaM34, PnM34, PtM34⟩
          · skip
            have swM34 := (s_wn_iff (x := y) (i := j0) (show 17 < 28 by decide)).mp PcM34
            refine PW.jz_eq q_36_31 rfl (fun h36 => False.elim (by omega)) (fun h36 => ?_)
            have e0 : s_st y f m (j0, true, st, o0) = (0, 0, (j0 + 1, false, st, o0)) := by show s_bh y j0 st o0 = _; unfold s_bh; rw [if_pos ⟨PbM34, by omega⟩]
            refine PW.aload_n q_36_34 rfl ?_
            refine PW.aload_n q_36_35 rfl ?_
            refine PW.aload_n q_36_36 rfl ?_
            refine PW.iload_n q_36_37 rfl ?_
            refine PW.cV (as := [_, _, _]) (rest := []) q_36_38 t_mv_36_51 kd_267 IM34.1 (by decide) rfl (by decide) rfl rfl (Nat.le_of_ble_eq_true rfl) (Nat.le_of_ble_eq_true rfl) (by decide) (by decide) ?_
            refine PW.up (by decide) (c_X4_readAll_vk8 (V) (hV) G _ M34 IM34 a3 (by omega) (by omega) y (j0 + 1) f m st o0 PtM34 ((hp_1.cg hbL36_12_285 hbL36_12_286).cg (Fr.at GM34 kd_4 (by decide)) (Fr.at GM34 kd_5 (by decide))) ((congrArg (fun e => o_i e 0) (Fr.at GM34 kd_267 (by decide))).trans K0.2.2.2.2) hp_3 (by omega) hp_5 fun x38 M37 IM37 GM37 hx38 kx38 PM37 => ?_)
            have FM37 := Fr.trans FM34 GM37 (rfl)
            rcases PM37 with ⟨PaM37, jM37, oM37, PkM37, Pn2M37⟩ | ⟨PaM37, PkM37⟩
            · skip
              have koM37 := PkM37.2
              refine PW.jz_eq q_36_41 rfl (fun h39 => False.elim (by omega)) (fun h39 => ?_)
              refine PW.aload_n q_36_44 rfl ?_
              refine PW.gets q_36_45 t_st_36_54 ?_
              refine PW.cI q_36_48 (by decide) fun c40 hc40 => ?_
              refine PW.cI q_36_49 (by decide) fun c41 hc41 => ?_
              refine PW.cV (as := [_, _, _]) (rest := []) q_36_50 t_mv_36_62 kd_267 IM37.1 (by decide) rfl (by decide) rfl rfl (Nat.le_of_ble_eq_true rfl) (Nat.le_of_ble_eq_true rfl) (by decide) (by decide) ?_
              refine PW.up (by decide) (c_X4_add_vk (V) (hV) G _ M37 IM37 17 (by decide) c40 c41 (by omega) (by omega) fun x43 M42 IM42 GM42 hx43 kx43 PM42 => ?_)
              have FM42 := Fr.trans FM37 GM42 (rfl)
              have PoM42 := PM42
              refine PW.jz_eq q_36_53 rfl (fun h44 => False.elim (by omega)) (fun h44 => ?_)
              refine PW.cI q_36_56 (by decide) fun c45 hc45 => ?_
              refine PW.goto q_36_57 rfl ?_
              refine PW.istore q_36_61 (by decide) ?_
              refine PW.incN q_36_63 rfl (by decide) (by decide) (by omega) (by omega) fun x46 hx46 => ?_
              refine PW.goto q_36_66 rfl ?_
              refine PW.lvS (lk1 rfl (lk1 rfl (lk1 rfl (lk1 rfl (lk1 rfl (lk1 rfl lk0)))))) (ih_L36_12_28 _ ?_ M42 c45 x46 IM42 FM42 (by omega) (by omega) (by omega) (by omega) (Or.inl ⟨by omega, jM37, oM37, ((s_ok.next (c := x46.toInt) PkM37 (T0.trans (s_to.of e0)) (by have := K0.2.1; omega)).cg (Fr.at GM42 kd_1 (by decide)) (Fr.at GM42 kd_2 (by decide)) PoM42), (fun _ => Pn2M37)⟩) (((Fr.at GM42 kd_4 (by decide)).trans ((Fr.at GM37 kd_4 (by decide)).trans (Fr.at GM34 kd_4 (by decide)))).trans hbL36_12_285) (((Fr.at GM42 kd_5 (by decide)).trans ((Fr.at GM37 kd_5 (by decide)).trans (Fr.at GM34 kd_5 (by decide)))).trans hbL36_12_286) rfl)
              omega
            · skip
              refine PW.jz_eq q_36_41 rfl (fun h47 => ?_) (fun h47 => False.elim (by omega))
              refine PW.cI q_36_60 (by decide) fun c48 hc48 => ?_
              refine PW.istore q_36_61 (by decide) ?_
              refine PW.incN q_36_63 rfl (by decide) (by decide) (by omega) (by omega) fun x49 hx49 => ?_
              refine PW.goto q_36_66 rfl ?_
              refine PW.lvS (lk1 rfl (lk1 rfl (lk1 rfl (lk1 rfl (lk1 rfl (lk1 rfl lk0)))))) (ih_L36_12_28 _ ?_ M37 c48 x49 IM37 FM37 (by omega) (by omega) (by omega) (by omega) (Or.inr ⟨by omega, ((s_bad.to PkM37 (T0.trans (s_to.of e0))).cg rfl)⟩) (((Fr.at GM37 kd_4 (by decide)).trans (Fr.at GM34 kd_4 (by decide))).trans hbL36_12_285) (((Fr.at GM37 kd_5 (by decide)).trans (Fr.at GM34 kd_5 (by decide))).trans hbL36_12_286) rfl)
              omega
          · skip
            have snM34 : kK y (j0) = 2 → s_wn y (j0) ≠ 17 := fun h q => PnM34 ⟨h, (s_wn_iff (show 17 < 28 by decide)).mpr q⟩
            refine PW.jz_eq q_36_31 rfl (fun h50 => ?_) (fun h50 => False.elim (by omega))
            refine PW.iload q_36_69 rfl ?_
            refine PW.rZ q_36_71 rfl (by omega) (by omega) (by decide) (by decide) ?_
            exact hK v29 M34 IM34 FM34 (by omega) (by omega) (Or.inl ⟨by omega, j0, o0, ⟨T0, by omega, B1, PtM34, ((congrArg (fun e => o_i e 0) (Fr.at GM34 kd_267 (by decide))).trans K0.2.2.2.2)⟩, (fun h => by rcases h.2 with q | q; (· exact N0 rfl ⟨h.1, q⟩); (· exact snM34 h.1 q))⟩)
    exact PW.lvS (lk1 rfl (lk1 rfl (lk1 rfl (lk1 rfl (lk1 rfl (lk1 rfl lk0)))))) (L36_12_28 _ M1 x2 c27 IM1 FM1 (by omega) (by omega) (by omega) (by omega) (Or.inr ⟨by omega, PkM1⟩) (Fr.at GM1 kd_4 (by decide)) (Fr.at GM1 kd_5 (by decide)) rfl)
theorem c_X4_readOne_vk7 (V : pM → Prop) (hV : Stab V) (G : pG) (Kr : pK) (M : pM) (I : Iv V M) (a3 : Int32) (hl_a3 : 7 ≤ a3.toInt) (hh_a3 : a3.toInt ≤ 7) (y : k_X) (i : Nat) (f : Nat → Int) (m : Int) (st : List Bool) (on : Int) (hp_0 : k_at y M i) (hp_1 : s_nm M f m) (hp_2 : o_i (M 267) 0 = on) (hp_3 : st.length + 1 = 7) (hp_4 : 0 ≤ on) (hK : ∀ (x : Int32) (M1 : pM), Iv V M1 → Fr [1, 14, 15, 16, 17] M M1 → 0 ≤ x.toInt → x.toInt ≤ 1 → (s_oq y f m i st on x M1) → Kr.1 (some (.int x)) 311 M1) : PW G false 9 38 (p_mc 38) (p_msl 38) Kr 0 (lv_args 0 [.ref 267, .ref 1, .ref 4, .int a3]) [] 311 M 0 0 := by
  have F : Fr [1, 14, 15, 16, 17] M M := Fr.refl
  obtain ⟨w267_0, fw267_0, hw267_0, kw267_0⟩ := gF_14_0.int kd_267 I.1 (by decide)
  have iw267_0 := o_i_of fw267_0
  have jw267_0 : w267_0.toInt = on := by have w := hp_2; omega
  refine PW.aload_n q_38_0 rfl ?_
  refine PW.callS (as := [_]) (rest := []) q_38_1 t_ms_38_72 (by decide) rfl (Nat.le_of_ble_eq_true rfl) (Nat.le_of_ble_eq_true rfl) (by decide) (by decide) ?_
  refine PW.up (by decide) (c_X4_beginsOne_vk (V) (hV) G _ M I y (i) hp_0 fun x2  hx2 kx2 PM1 => ?_)
  rcases PM1 with ⟨PaM1, PbM1⟩ | ⟨PaM1, PnM1⟩
  · skip
    refine PW.jz_ne q_38_4 rfl (fun h3 => ?_) (fun h3 => False.elim (by omega))
    refine PW.aload_n q_38_13 rfl ?_
    refine PW.gE q_38_14 (Or.inl t_ft_38_27) gF_14_0 kd_267 I.1 (by decide) fw267_0 ?_
    refine PW.cB q_38_17 (by decide) fun c4 hc4 => ?_
    refine PW.jc_ge q_38_19 rfl (fun h5 => ?_) (fun h5 => ?_)
    · skip
      refine PW.aload_n q_38_28 rfl ?_
      refine PW.cI q_38_29 (by decide) fun c6 hc6 => ?_
      refine PW.cV (as := [_]) (rest := []) q_38_30 t_mv_38_76 kd_1 I.1 (by decide) rfl (by decide) rfl rfl (Nat.le_of_ble_eq_true rfl) (Nat.le_of_ble_eq_true rfl) (by decide) (by decide) ?_
      refine PW.up (by decide) (c_X7_fail_vk (V) (hV) G _ M I c6 y (i) hp_0 fun x8 M7 IM7 GM7 hx8 kx8 PM7 => ?_)
      have FM7 := Fr.trans F GM7 (rfl)
      rcases PM7 with ⟨PfM7, PgM7⟩
      refine PW.rZ q_38_33 rfl (by omega) (by omega) (by decide) (by decide) ?_
      have e : s_st y f m (i, false, st, on) = (4, kP y i, (0, false, [], 0)) := by show s_op y f m i st on = _; unfold s_op; rw [if_neg (not_not_intro PbM1), if_pos (by omega)]
      exact hK x8 M7 IM7 FM7 (by omega) (by omega) (Or.inr ⟨by omega, s_bad.of e (by omega) (by omega) (by omega) (by omega)⟩)
    · skip
      refine PW.iload_n q_38_22 rfl ?_
      refine PW.cB q_38_23 (by decide) fun c9 hc9 => ?_
      refine PW.jc_le q_38_25 rfl (fun h10 => ?_) (fun h10 => False.elim (by omega))
      refine PW.aload_n q_38_34 rfl ?_
      refine PW.dup q_38_35 rfl ?_
      refine PW.gE q_38_36 (Or.inl t_ft_38_27) gF_14_0 kd_267 I.1 (by decide) fw267_0 ?_
      refine PW.cI q_38_39 (by decide) fun c11 hc11 => ?_
      refine PW.addN q_38_40 (by omega) (by omega) fun x12 hx12 => ?_
      refine PW.pI q_38_41 (Or.inl t_ft_38_27) gF_14_0 gP_14_0 kd_267 hV I (by decide) rfl (n_lo _) (n_hi _) fun M13 IM13 fM13 UM13 => ?_
      have FM13 := Fr.pu F UM13.1 kd_267 (rfl : List.contains [1, 14, 15, 16, 17] 14 = true)
      have b1 : kK y i = 2 ∨ kK y i = 5 := by rcases PbM1 with q | q; (· exact Or.inr q.1); (· exact Or.inl q.1)
      have on1 : o_i (M13 267) 0 = on + 1 := by have w := o_i_of fM13; omega
      refine PW.aload_n q_38_44 rfl ?_
      refine PW.gets q_38_45 t_st_38_80 ?_
      refine PW.cV (as := [_]) (rest := []) q_38_48 t_mv_38_58 kd_1 IM13.1 (by decide) rfl (by decide) rfl rfl (Nat.le_of_ble_eq_true rfl) (Nat.le_of_ble_eq_true rfl) (by decide) (by decide) ?_
      refine PW.up (by decide) (c_X7_takes_vk (V) (hV) G _ M13 IM13 19 (by decide) y (i) (hp_0.cg (UM13.1 _ (g_ne kd_1 kd_267 (by decide))) (UM13.1 _ (g_ne kd_2 kd_267 (by decide)))) fun x15 M14 IM14 GM14 hx15 kx15 PM14 => ?_)
      have FM14 := Fr.trans FM13 GM14 (rfl)
      rcases PM14 with ⟨PaM14, PbM14, PcM14, PtM14⟩ | ⟨PaM14, PnM14, PtM14⟩
      · skip
        have swM14 := (s_wn_iff (x := y) (i := i) (show 19 < 28 by decide)).mp PcM14
        refine PW.jz_eq q_38_51 rfl (fun h16 => False.elim (by omega)) (fun h16 => ?_)
        refine PW.aload_n q_38_54 rfl ?_
        refine PW.aload_n q_38_55 rfl ?_
        refine PW.aload_n q_38_56 rfl ?_
        refine PW.iload_n q_38_57 rfl ?_
        refine PW.cI q_38_58 (by decide) fun c17 hc17 => ?_
        refine PW.addN q_38_59 (by omega) (by omega) fun x18 hx18 => ?_
        refine PW.cV (as := [_, _, _]) (rest := []) q_38_60 t_mv_38_66 kd_267 IM14.1 (by decide) rfl (by decide) rfl rfl (Nat.le_of_ble_eq_true rfl) (Nat.le_of_ble_eq_true rfl) (by decide) (by decide) ?_
        refine PW.up (by decide) (c_X4_readOne_vk8 (V) (hV) G _ M14 IM14 x18 (by omega) (by omega) y (i + 1) f m (false :: st) (on + 1) PtM14 (hp_1.cg ((Fr.at GM14 kd_4 (by decide)).trans (UM13.1 _ (g_ne kd_4 kd_267 (by decide)))) ((Fr.at GM14 kd_5 (by decide)).trans (UM13.1 _ (g_ne kd_5 kd_267 (by decide))))) ((congrArg (fun e => o_i e 0) (Fr.at GM14 kd_267 (by decide))).trans on1) (by rw [List.length_cons]; omega) (by omega) fun x20 M19 IM19 GM19 hx20 kx20 PM19 => ?_)
        have FM19 := Fr.trans FM14 GM19 (rfl)
        rcases PM19 with ⟨PaM19, jM19, oM19, PkM19⟩ | ⟨PaM19, PkM19⟩
        · skip
          have koM19 := PkM19.2
          refine PW.jz_eq q_38_63 rfl (fun h21 => False.elim (by omega)) (fun h21 => ?_)
          refine PW.aload_n q_38_66 rfl ?_
          refine PW.gets q_38_67 t_st_38_80 ?_
          refine PW.cI q_38_70 (by decide) fun c22 hc22 => ?_
          refine PW.cI q_38_71 (by decide) fun c23 hc23 => ?_
          refine PW.cV (as := [_, _, _]) (rest := []) q_38_72 t_mv_38_62 kd_267 IM19.1 (by decide) rfl (by decide) rfl rfl (Nat.le_of_ble_eq_true rfl) (Nat.le_of_ble_eq_true rfl) (by decide) (by decide) ?_
          refine PW.up (by decide) (c_X4_add_vk (V) (hV) G _ M19 IM19 19 (by decide) c22 c23 (by omega) (by omega) fun x25 M24 IM24 GM24 hx25 kx25 PM24 => ?_)
          have FM24 := Fr.trans FM19 GM24 (rfl)
          have PoM24 := PM24
          refine PW.jz_eq q_38_75 rfl (fun h26 => False.elim (by omega)) (fun h26 => ?_)
          refine PW.cI q_38_78 (by decide) fun c27 hc27 => ?_
          refine PW.goto q_38_79 rfl ?_
          refine PW.rZ q_38_83 rfl (by omega) (by omega) (by decide) (by decide) ?_
          have e : s_st y f m (i, false, st, on) = (0, 0, (i + 1, false, false :: st, on + 1)) := by show s_op y f m i st on = _; unfold s_op; rw [if_neg (not_not_intro PbM1), if_neg (by omega), if_pos ⟨PbM14, by omega⟩]
          exact hK c27 M24 IM24 FM24 (by omega) (by omega) (Or.inl ⟨by omega, jM19, oM19, ((s_ok.next (on := on) (c := 1) PkM19 (s_to.of e) (by omega)).mono (on1 := on) (by omega)).cg (Fr.at GM24 kd_1 (by decide)) (Fr.at GM24 kd_2 (by decide)) PoM24⟩)
        · skip
          refine PW.jz_eq q_38_63 rfl (fun h28 => ?_) (fun h28 => False.elim (by omega))
          refine PW.cI q_38_82 (by decide) fun c29 hc29 => ?_
          refine PW.rZ q_38_83 rfl (by omega) (by omega) (by decide) (by decide) ?_
          have e : s_st y f m (i, false, st, on) = (0, 0, (i + 1, false, false :: st, on + 1)) := by show s_op y f m i st on = _; unfold s_op; rw [if_neg (not_not_intro PbM1), if_neg (by omega), if_pos ⟨PbM14, by omega⟩]
          exact hK c29 M19 IM19 FM19 (by omega) (by omega) (Or.inr ⟨by omega, (s_bad.to PkM19 (s_to.of e)).cg rfl⟩)
      · skip
        have snM14 : kK y (i) = 2 → s_wn y (i) ≠ 19 := fun h q => PnM14 ⟨h, (s_wn_iff (show 19 < 28 by decide)).mpr q⟩
        refine PW.jz_eq q_38_51 rfl (fun h30 => ?_) (fun h30 => False.elim (by omega))
        refine PW.aload_n q_38_84 rfl ?_
        refine PW.cB q_38_85 (by decide) fun c31 hc31 => ?_
        refine PW.cV (as := [_]) (rest := []) q_38_87 t_mv_38_83 kd_1 IM14.1 (by decide) rfl (by decide) rfl rfl (Nat.le_of_ble_eq_true rfl) (Nat.le_of_ble_eq_true rfl) (by decide) (by decide) ?_
        refine PW.up (by decide) (c_X7_seesSign_vk (V) (hV) G _ M14 IM14 c31 y (i) PtM14 fun x33  hx33 kx33 PM32 => ?_)
        rcases PM32 with ⟨PaM32, PbM32, PcM32⟩ | ⟨PaM32, PnM32⟩
        · skip
          refine PW.jz_eq q_38_90 rfl (fun h34 => False.elim (by omega)) (fun h34 => ?_)
          refine PW.aload_n q_38_93 rfl ?_
          refine PW.cV (as := []) (rest := []) q_38_94 t_mv_38_86 kd_1 IM14.1 (by decide) rfl (by decide) rfl rfl (Nat.le_of_ble_eq_true rfl) (Nat.le_of_ble_eq_true rfl) (by decide) (by decide) ?_
          refine PW.up (by decide) (c_X7_advance_vk (V) (hV) G _ M14 IM14 y (i + 1) (k_at.nx PtM14 (by omega)) fun M35 IM35 GM35 PM35 => ?_)
          have FM35 := Fr.trans FM14 GM35 (rfl)
          have PtM35 := PM35
          refine PW.aload_n q_38_97 rfl ?_
          refine PW.aload_n q_38_98 rfl ?_
          refine PW.aload_n q_38_99 rfl ?_
          refine PW.iload_n q_38_100 rfl ?_
          refine PW.cI q_38_101 (by decide) fun c36 hc36 => ?_
          refine PW.addN q_38_102 (by omega) (by omega) fun x37 hx37 => ?_
          refine PW.cV (as := [_, _, _]) (rest := []) q_38_103 t_mv_38_43 kd_267 IM35.1 (by decide) rfl (by decide) rfl rfl (Nat.le_of_ble_eq_true rfl) (Nat.le_of_ble_eq_true rfl) (by decide) (by decide) ?_
          refine PW.up (by decide) (c_X4_readAny_vk8 (V) (hV) G _ M35 IM35 x37 (by omega) (by omega) y (i + 1) f m (true :: st) (on + 1) PtM35 (hp_1.cg ((Fr.at GM35 kd_4 (by decide)).trans ((Fr.at GM14 kd_4 (by decide)).trans (UM13.1 _ (g_ne kd_4 kd_267 (by decide))))) ((Fr.at GM35 kd_5 (by decide)).trans ((Fr.at GM14 kd_5 (by decide)).trans (UM13.1 _ (g_ne kd_5 kd_267 (by decide)))))) (((congrArg (fun e => o_i e 0) (Fr.at GM35 kd_267 (by decide))).trans (congrArg (fun e => o_i e 0) (Fr.at GM14 kd_267 (by decide)))).trans on1) (by rw [List.length_cons]; omega) (by omega) rfl fun x39 M38 IM38 GM38 hx39 kx39 PM38 => ?_)
          have FM38 := Fr.trans FM35 GM38 (rfl)
          rcases PM38 with ⟨PaM38, jM38, oM38, PkM38, Pn2M38⟩ | ⟨PaM38, PkM38⟩
          · skip
            have koM38 := PkM38.2
            refine PW.jz_eq q_38_106 rfl (fun h40 => False.elim (by omega)) (fun h40 => ?_)
            refine PW.aload_n q_38_109 rfl ?_
            refine PW.cB q_38_110 (by decide) fun c41 hc41 => ?_
            refine PW.cV (as := [_]) (rest := []) q_38_112 t_mv_38_89 kd_1 IM38.1 (by decide) rfl (by decide) rfl rfl (Nat.le_of_ble_eq_true rfl) (Nat.le_of_ble_eq_true rfl) (by decide) (by decide) ?_
            refine PW.up (by decide) (c_X7_needsSign_vk (V) (hV) G _ M38 IM38 c41 y (jM38) PkM38.2.2.2.1 fun x43 M42 IM42 GM42 hx43 kx43 PM42 => ?_)
            have FM42 := Fr.trans FM38 GM42 (rfl)
            rcases PM42 with ⟨PaM42, PbM42, PcM42, PtM42⟩ | ⟨PaM42, PnM42, PfM42, PgM42⟩
            · skip
              refine PW.jz_eq q_38_115 rfl (fun h44 => False.elim (by omega)) (fun h44 => ?_)
              refine PW.cI q_38_118 (by decide) fun c45 hc45 => ?_
              refine PW.goto q_38_119 rfl ?_
              refine PW.rZ q_38_123 rfl (by omega) (by omega) (by decide) (by decide) ?_
              have e : s_st y f m (i, false, st, on) = (0, 0, (i + 1, false, true :: st, on + 1)) := by show s_op y f m i st on = _; unfold s_op; rw [if_neg (not_not_intro PbM1), if_neg (by omega), if_neg (by omega), if_pos (by omega)]
              have e2 : s_st y f m (jM38, true, true :: st, oM38) = (0, 0, (jM38 + 1, true, s_dn st, oM38)) := by show s_bh y jM38 (true :: st) oM38 = _; unfold s_bh; rw [if_neg Pn2M38, if_pos ⟨⟨PbM42, PcM42.trans (by omega)⟩, List.cons_ne_nil _ _⟩]; rfl
              exact hK c45 M42 IM42 FM42 (by omega) (by omega) (Or.inl ⟨by omega, jM38 + 1, oM38, ((s_to.of e).trans PkM38.1).trans (s_to.of e2), by have := PkM38.2.1; omega, PkM38.2.2.1, PtM42, ((congrArg (fun e => o_i e 0) (Fr.at GM42 kd_267 (by decide))).trans PkM38.2.2.2.2)⟩)
            · skip
              refine PW.jz_eq q_38_115 rfl (fun h46 => ?_) (fun h46 => False.elim (by omega))
              refine PW.cI q_38_122 (by decide) fun c47 hc47 => ?_
              refine PW.rZ q_38_123 rfl (by omega) (by omega) (by decide) (by decide) ?_
              have e : s_st y f m (i, false, st, on) = (0, 0, (i + 1, false, true :: st, on + 1)) := by show s_op y f m i st on = _; unfold s_op; rw [if_neg (not_not_intro PbM1), if_neg (by omega), if_neg (by omega), if_pos (by omega)]
              have e2 : s_st y f m (jM38, true, true :: st, oM38) = (1, kP y jM38, (0, false, [], 0)) := by show s_bh y jM38 (true :: st) oM38 = _; unfold s_bh; rw [if_neg Pn2M38, if_neg (fun h => PnM42 ⟨h.1.1, h.1.2.trans (by omega)⟩), if_neg (fun h => List.cons_ne_nil _ _ h.2)]
              exact hK c47 M42 IM42 FM42 (by omega) (by omega) (Or.inr ⟨by omega, ((s_bad.of e2 (by omega) (by omega) (by omega) (by omega)).to PkM38.1).to (s_to.of e)⟩)
          · skip
            refine PW.jz_eq q_38_106 rfl (fun h48 => ?_) (fun h48 => False.elim (by omega))
            refine PW.cI q_38_122 (by decide) fun c49 hc49 => ?_
            refine PW.rZ q_38_123 rfl (by omega) (by omega) (by decide) (by decide) ?_
            have e : s_st y f m (i, false, st, on) = (0, 0, (i + 1, false, true :: st, on + 1)) := by show s_op y f m i st on = _; unfold s_op; rw [if_neg (not_not_intro PbM1), if_neg (by omega), if_neg (by omega), if_pos (by omega)]
            exact hK c49 M38 IM38 FM38 (by omega) (by omega) (Or.inr ⟨by omega, (s_bad.to PkM38 (s_to.of e)).cg rfl⟩)
        · skip
          refine PW.jz_eq q_38_90 rfl (fun h50 => ?_) (fun h50 => False.elim (by omega))
          have k2 : kK y i = 2 := by rcases PbM1 with q | q; (· exact absurd ⟨q.1, q.2.trans (by omega)⟩ PnM32); (· exact q.1)
          have k3 : 20 ≤ s_wn y i ∧ s_wn y i ≤ 27 := by rcases PbM1 with q | q; (· omega); (· have u := snM14 q.1; omega)
          refine PW.aload_n q_38_124 rfl ?_
          refine PW.aload_n q_38_125 rfl ?_
          refine PW.aload_n q_38_126 rfl ?_
          refine PW.cV (as := [_, _]) (rest := []) q_38_127 t_mv_38_92 kd_267 IM14.1 (by decide) rfl (by decide) rfl rfl (Nat.le_of_ble_eq_true rfl) (Nat.le_of_ble_eq_true rfl) (by decide) (by decide) ?_
          refine PW.up (by decide) (c_X4_readPlain_vk (V) (hV) G _ M14 IM14 y (i) f m PtM14 (hp_1.cg ((Fr.at GM14 kd_4 (by decide)).trans (UM13.1 _ (g_ne kd_4 kd_267 (by decide)))) ((Fr.at GM14 kd_5 (by decide)).trans (UM13.1 _ (g_ne kd_5 kd_267 (by decide))))) (by omega) (by omega) (by omega) fun x52 M51 IM51 GM51 hx52 kx52 PM51 => ?_)
          have FM51 := Fr.trans FM14 GM51 (rfl)
          rcases PM51 with ⟨PaM51, PbM51, PtM51, PoM51⟩ | ⟨PaM51, PbM51, PfM51, PgM51⟩
          · skip
            refine PW.rZ q_38_130 rfl (by omega) (by omega) (by decide) (by decide) ?_
            have e : s_st y f m (i, false, st, on) = (0, 0, ((s_pn y f m i).2.2, true, s_dn st, on + 1)) := by show s_op y f m i st on = _; unfold s_op; rw [if_neg (not_not_intro PbM1), if_neg (by omega), if_neg (by omega), if_neg (by omega), if_neg (not_not_intro PbM51)]
            exact hK x52 M51 IM51 FM51 (by omega) (by omega) (Or.inl ⟨by omega, (s_pn y f m i).2.2, on + 1, s_to.of e, by omega, by omega, PtM51, (PoM51.trans ((congrArg (fun e => o_i e 0) (Fr.at GM14 kd_267 (by decide))).trans on1))⟩)
          · skip
            refine PW.rZ q_38_130 rfl (by omega) (by omega) (by decide) (by decide) ?_
            have pb := s_pn_b y f m i
            have e : s_st y f m (i, false, st, on) = ((s_pn y f m i).1, (s_pn y f m i).2.1, (0, false, [], 0)) := by show s_op y f m i st on = _; unfold s_op; rw [if_neg (not_not_intro PbM1), if_neg (by omega), if_neg (by omega), if_neg (by omega), if_pos PbM51]
            exact hK x52 M51 IM51 FM51 (by omega) (by omega) (Or.inr ⟨by omega, s_bad.of e (by omega) (by omega) (by omega) (by omega)⟩)
  · skip
    refine PW.jz_ne q_38_4 rfl (fun h53 => False.elim (by omega)) (fun h53 => ?_)
    refine PW.aload_n q_38_7 rfl ?_
    refine PW.cI q_38_8 (by decide) fun c54 hc54 => ?_
    refine PW.cV (as := [_]) (rest := []) q_38_9 t_mv_38_76 kd_1 I.1 (by decide) rfl (by decide) rfl rfl (Nat.le_of_ble_eq_true rfl) (Nat.le_of_ble_eq_true rfl) (by decide) (by decide) ?_
    refine PW.up (by decide) (c_X7_fail_vk (V) (hV) G _ M I c54 y (i) hp_0 fun x56 M55 IM55 GM55 hx56 kx56 PM55 => ?_)
    have FM55 := Fr.trans F GM55 (rfl)
    rcases PM55 with ⟨PfM55, PgM55⟩
    refine PW.rZ q_38_12 rfl (by omega) (by omega) (by decide) (by decide) ?_
    have e : s_st y f m (i, false, st, on) = (1, kP y i, (0, false, [], 0)) := by show s_op y f m i st on = _; unfold s_op; rw [if_pos PnM1]
    exact hK x56 M55 IM55 FM55 (by omega) (by omega) (Or.inr ⟨by omega, s_bad.of e (by omega) (by omega) (by omega) (by omega)⟩)
theorem c_X4_readAll_vk7 (V : pM → Prop) (hV : Stab V) (G : pG) (Kr : pK) (M : pM) (I : Iv V M) (a3 : Int32) (hl_a3 : 7 ≤ a3.toInt) (hh_a3 : a3.toInt ≤ 7) (y : k_X) (i : Nat) (f : Nat → Int) (m : Int) (st : List Bool) (on : Int) (hp_0 : k_at y M i) (hp_1 : s_nm M f m) (hp_2 : o_i (M 267) 0 = on) (hp_3 : st.length + 1 = 7) (hp_4 : 0 ≤ on) (hp_5 : s_dn st = st) (hK : ∀ (x : Int32) (M1 : pM), Iv V M1 → Fr [1, 14, 15, 16, 17] M M1 → 0 ≤ x.toInt → x.toInt ≤ 1 → (s_lq y f m i st on x M1) → Kr.1 (some (.int x)) 311 M1) : PW G false 10 37 (p_mc 37) (p_msl 37) Kr 0 (lv_args 0 [.ref 267, .ref 1, .ref 4, .int a3]) [] 311 M 0 0 := by
  have F : Fr [1, 14, 15, 16, 17] M M := Fr.refl
  obtain ⟨w267_0, fw267_0, hw267_0, kw267_0⟩ := gF_14_0.int kd_267 I.1 (by decide)
  have iw267_0 := o_i_of fw267_0
  have jw267_0 : w267_0.toInt = on := by have w := hp_2; omega
  refine PW.aload_n q_37_0 rfl ?_
  refine PW.aload_n q_37_1 rfl ?_
  refine PW.aload_n q_37_2 rfl ?_
  refine PW.iload_n q_37_3 rfl ?_
  refine PW.cV (as := [_, _, _]) (rest := []) q_37_4 t_mv_37_66 kd_267 I.1 (by decide) rfl (by decide) rfl rfl (Nat.le_of_ble_eq_true rfl) (Nat.le_of_ble_eq_true rfl) (by decide) (by decide) ?_
  refine PW.up (by decide) (c_X4_readOne_vk7 (V) (hV) G _ M I a3 (by omega) (by omega) y (i) f m st on hp_0 hp_1 hp_2 hp_3 (by omega) fun x2 M1 IM1 GM1 hx2 kx2 PM1 => ?_)
  have FM1 := Fr.trans F GM1 (rfl)
  rcases PM1 with ⟨PaM1, jM1, oM1, PkM1⟩ | ⟨PaM1, PkM1⟩
  · skip
    have koM1 := PkM1.2
    refine PW.istore q_37_7 (by decide) ?_
    refine PW.cI q_37_9 (by decide) fun c3 hc3 => ?_
    refine PW.istore q_37_10 (by decide) ?_
    have L37_12_4 : ∀ (n : Nat) (ML37_12_4 : pM) (v5 v6 : Int32), Iv (V) ML37_12_4 → Fr [1, 14, 15, 16, 17] M ML37_12_4 → 0 ≤ v5.toInt → v5.toInt ≤ 1 → 0 ≤ v6.toInt → v6.toInt ≤ 20 → s_li y f m i st on 18 ML37_12_4 v5.toInt v6.toInt → ML37_12_4 4 = M 4 → ML37_12_4 5 = M 5 → (20 - v6.toInt).toNat = n → PW G false 10 37 (p_mc 37) (p_msl 37) Kr 12 [(0, .ref 267), (1, .ref 1), (2, .ref 4), (3, .int a3), (4, .int v5), (5, .int v6)] [] 311 ML37_12_4 0 0 := by
      intro n
      induction n using Nat.strongRecOn with
      | ind n ih_L37_12_4 =>
      intro ML37_12_4 v5 v6 IML37_12_4 FML37_12_4 hbL37_12_40 hbL37_12_41 hbL37_12_42 hbL37_12_43 hbL37_12_44 hbL37_12_45 hbL37_12_46 hmL37_12_4
      refine PW.iload q_37_12 rfl ?_
      refine PW.cB q_37_14 (by decide) fun c7 hc7 => ?_
      refine PW.jc_ge q_37_16 rfl (fun h8 => ?_) (fun h8 => ?_)
      · skip
        refine PW.iload q_37_69 rfl ?_
        refine PW.rZ q_37_71 rfl (by omega) (by omega) (by decide) (by decide) ?_
        exact hK v5 ML37_12_4 IML37_12_4 FML37_12_4 (by omega) (by omega) (Or.inr ⟨(s_li.full hbL37_12_44 (by omega) hp_4).1, (s_li.full hbL37_12_44 (by omega) hp_4).2⟩)
      · skip
        refine PW.iload q_37_19 rfl ?_
        refine PW.jz_eq q_37_21 rfl (fun h9 => ?_) (fun h9 => ?_)
        · skip
          refine PW.iload q_37_69 rfl ?_
          refine PW.rZ q_37_71 rfl (by omega) (by omega) (by decide) (by decide) ?_
          exact hK v5 ML37_12_4 IML37_12_4 FML37_12_4 (by omega) (by omega) (Or.inr ⟨by omega, (s_li.no hbL37_12_44 (by omega))⟩)
        · skip
          obtain ⟨j0, o0, K0, N0⟩ : ∃ (j0 : Nat) (o0 : Int), s_ok y f m (i, false, st, on) st (on + v6.toInt) ML37_12_4 j0 o0 ∧ (18 = 17 → ¬ (kK y j0 = 2 ∧ s_wn y j0 = 18)) := by rcases hbL37_12_44 with q | q; (· exact q.2); (· omega)
          have T0 := K0.1
          have B0 := K0.2.1
          have B1 := K0.2.2.1
          refine PW.aload_n q_37_24 rfl ?_
          refine PW.gets q_37_25 t_st_37_69 ?_
          refine PW.cV (as := [_]) (rest := []) q_37_28 t_mv_37_58 kd_1 IML37_12_4.1 (by decide) rfl (by decide) rfl rfl (Nat.le_of_ble_eq_true rfl) (Nat.le_of_ble_eq_true rfl) (by decide) (by decide) ?_
          refine PW.up (by decide) (c_X7_takes_vk (V) (hV) G _ ML37_12_4 IML37_12_4 18 (by decide) y (j0) K0.2.2.2.1 fun x11 M10 IM10 GM10 hx11 kx11 PM10 => ?_)
          have FM10 := Fr.trans FML37_12_4 GM10 (rfl)
          rcases PM10 with ⟨PaM10, PbM10, PcM10, PtM10⟩ | ⟨PaM10, PnM10, PtM10⟩
          · skip
            have swM10 := (s_wn_iff (x := y) (i := j0) (show 18 < 28 by decide)).mp PcM10
            refine PW.jz_eq q_37_31 rfl (fun h12 => False.elim (by omega)) (fun h12 => ?_)
            have e0 : s_st y f m (j0, true, st, o0) = (0, 0, (j0 + 1, false, st, o0)) := by show s_bh y j0 st o0 = _; unfold s_bh; rw [if_pos ⟨PbM10, by omega⟩]
            refine PW.aload_n q_37_34 rfl ?_
            refine PW.aload_n q_37_35 rfl ?_
            refine PW.aload_n q_37_36 rfl ?_
            refine PW.iload_n q_37_37 rfl ?_
            refine PW.cV (as := [_, _, _]) (rest := []) q_37_38 t_mv_37_66 kd_267 IM10.1 (by decide) rfl (by decide) rfl rfl (Nat.le_of_ble_eq_true rfl) (Nat.le_of_ble_eq_true rfl) (by decide) (by decide) ?_
            refine PW.up (by decide) (c_X4_readOne_vk7 (V) (hV) G _ M10 IM10 a3 (by omega) (by omega) y (j0 + 1) f m st o0 PtM10 ((hp_1.cg hbL37_12_45 hbL37_12_46).cg (Fr.at GM10 kd_4 (by decide)) (Fr.at GM10 kd_5 (by decide))) ((congrArg (fun e => o_i e 0) (Fr.at GM10 kd_267 (by decide))).trans K0.2.2.2.2) hp_3 (by omega) fun x14 M13 IM13 GM13 hx14 kx14 PM13 => ?_)
            have FM13 := Fr.trans FM10 GM13 (rfl)
            rcases PM13 with ⟨PaM13, jM13, oM13, PkM13⟩ | ⟨PaM13, PkM13⟩
            · skip
              have koM13 := PkM13.2
              refine PW.jz_eq q_37_41 rfl (fun h15 => False.elim (by omega)) (fun h15 => ?_)
              refine PW.aload_n q_37_44 rfl ?_
              refine PW.gets q_37_45 t_st_37_69 ?_
              refine PW.cI q_37_48 (by decide) fun c16 hc16 => ?_
              refine PW.cI q_37_49 (by decide) fun c17 hc17 => ?_
              refine PW.cV (as := [_, _, _]) (rest := []) q_37_50 t_mv_37_62 kd_267 IM13.1 (by decide) rfl (by decide) rfl rfl (Nat.le_of_ble_eq_true rfl) (Nat.le_of_ble_eq_true rfl) (by decide) (by decide) ?_
              refine PW.up (by decide) (c_X4_add_vk (V) (hV) G _ M13 IM13 18 (by decide) c16 c17 (by omega) (by omega) fun x19 M18 IM18 GM18 hx19 kx19 PM18 => ?_)
              have FM18 := Fr.trans FM13 GM18 (rfl)
              have PoM18 := PM18
              refine PW.jz_eq q_37_53 rfl (fun h20 => False.elim (by omega)) (fun h20 => ?_)
              refine PW.cI q_37_56 (by decide) fun c21 hc21 => ?_
              refine PW.goto q_37_57 rfl ?_
              refine PW.istore q_37_61 (by decide) ?_
              refine PW.incN q_37_63 rfl (by decide) (by decide) (by omega) (by omega) fun x22 hx22 => ?_
              refine PW.goto q_37_66 rfl ?_
              refine PW.lvS (lk1 rfl (lk1 rfl (lk1 rfl (lk1 rfl (lk1 rfl (lk1 rfl lk0)))))) (ih_L37_12_4 _ ?_ M18 c21 x22 IM18 FM18 (by omega) (by omega) (by omega) (by omega) (Or.inl ⟨by omega, jM13, oM13, ((s_ok.next (c := x22.toInt) (by rw [hp_5] at PkM13; exact PkM13) (T0.trans (s_to.of e0)) (by have := K0.2.1; omega)).cg (Fr.at GM18 kd_1 (by decide)) (Fr.at GM18 kd_2 (by decide)) PoM18), (fun h => absurd h (by decide))⟩) (((Fr.at GM18 kd_4 (by decide)).trans ((Fr.at GM13 kd_4 (by decide)).trans (Fr.at GM10 kd_4 (by decide)))).trans hbL37_12_45) (((Fr.at GM18 kd_5 (by decide)).trans ((Fr.at GM13 kd_5 (by decide)).trans (Fr.at GM10 kd_5 (by decide)))).trans hbL37_12_46) rfl)
              omega
            · skip
              refine PW.jz_eq q_37_41 rfl (fun h23 => ?_) (fun h23 => False.elim (by omega))
              refine PW.cI q_37_60 (by decide) fun c24 hc24 => ?_
              refine PW.istore q_37_61 (by decide) ?_
              refine PW.incN q_37_63 rfl (by decide) (by decide) (by omega) (by omega) fun x25 hx25 => ?_
              refine PW.goto q_37_66 rfl ?_
              refine PW.lvS (lk1 rfl (lk1 rfl (lk1 rfl (lk1 rfl (lk1 rfl (lk1 rfl lk0)))))) (ih_L37_12_4 _ ?_ M13 c24 x25 IM13 FM13 (by omega) (by omega) (by omega) (by omega) (Or.inr ⟨by omega, ((s_bad.to PkM13 (T0.trans (s_to.of e0))).cg rfl)⟩) (((Fr.at GM13 kd_4 (by decide)).trans (Fr.at GM10 kd_4 (by decide))).trans hbL37_12_45) (((Fr.at GM13 kd_5 (by decide)).trans (Fr.at GM10 kd_5 (by decide))).trans hbL37_12_46) rfl)
              omega
          · skip
            have snM10 : kK y (j0) = 2 → s_wn y (j0) ≠ 18 := fun h q => PnM10 ⟨h, (s_wn_iff (show 18 < 28 by decide)).mpr q⟩
            refine PW.jz_eq q_37_31 rfl (fun h26 => ?_) (fun h26 => False.elim (by omega))
            refine PW.iload q_37_69 rfl ?_
            refine PW.rZ q_37_71 rfl (by omega) (by omega) (by decide) (by decide) ?_
            exact hK v5 M10 IM10 FM10 (by omega) (by omega) (Or.inl ⟨by omega, j0, o0, ⟨T0, by omega, B1, PtM10, ((congrArg (fun e => o_i e 0) (Fr.at GM10 kd_267 (by decide))).trans K0.2.2.2.2)⟩, (fun h => snM10 h.1 h.2)⟩)
    exact PW.lvS (lk1 rfl (lk1 rfl (lk1 rfl (lk1 rfl (lk1 rfl (lk1 rfl lk0)))))) (L37_12_4 _ M1 x2 c3 IM1 FM1 (by omega) (by omega) (by omega) (by omega) (Or.inl ⟨by omega, jM1, oM1, (s_ok.mono (by rw [hp_5] at PkM1; exact PkM1) (by omega)), (fun h => absurd h (by decide))⟩) (Fr.at GM1 kd_4 (by decide)) (Fr.at GM1 kd_5 (by decide)) rfl)
  · skip
    refine PW.istore q_37_7 (by decide) ?_
    refine PW.cI q_37_9 (by decide) fun c27 hc27 => ?_
    refine PW.istore q_37_10 (by decide) ?_
    have L37_12_28 : ∀ (n : Nat) (ML37_12_28 : pM) (v29 v30 : Int32), Iv (V) ML37_12_28 → Fr [1, 14, 15, 16, 17] M ML37_12_28 → 0 ≤ v29.toInt → v29.toInt ≤ 1 → 0 ≤ v30.toInt → v30.toInt ≤ 20 → s_li y f m i st on 18 ML37_12_28 v29.toInt v30.toInt → ML37_12_28 4 = M 4 → ML37_12_28 5 = M 5 → (20 - v30.toInt).toNat = n → PW G false 10 37 (p_mc 37) (p_msl 37) Kr 12 [(0, .ref 267), (1, .ref 1), (2, .ref 4), (3, .int a3), (4, .int v29), (5, .int v30)] [] 311 ML37_12_28 0 0 := by
      intro n
      induction n using Nat.strongRecOn with
      | ind n ih_L37_12_28 =>
      intro ML37_12_28 v29 v30 IML37_12_28 FML37_12_28 hbL37_12_280 hbL37_12_281 hbL37_12_282 hbL37_12_283 hbL37_12_284 hbL37_12_285 hbL37_12_286 hmL37_12_28
      refine PW.iload q_37_12 rfl ?_
      refine PW.cB q_37_14 (by decide) fun c31 hc31 => ?_
      refine PW.jc_ge q_37_16 rfl (fun h32 => ?_) (fun h32 => ?_)
      · skip
        refine PW.iload q_37_69 rfl ?_
        refine PW.rZ q_37_71 rfl (by omega) (by omega) (by decide) (by decide) ?_
        exact hK v29 ML37_12_28 IML37_12_28 FML37_12_28 (by omega) (by omega) (Or.inr ⟨(s_li.full hbL37_12_284 (by omega) hp_4).1, (s_li.full hbL37_12_284 (by omega) hp_4).2⟩)
      · skip
        refine PW.iload q_37_19 rfl ?_
        refine PW.jz_eq q_37_21 rfl (fun h33 => ?_) (fun h33 => ?_)
        · skip
          refine PW.iload q_37_69 rfl ?_
          refine PW.rZ q_37_71 rfl (by omega) (by omega) (by decide) (by decide) ?_
          exact hK v29 ML37_12_28 IML37_12_28 FML37_12_28 (by omega) (by omega) (Or.inr ⟨by omega, (s_li.no hbL37_12_284 (by omega))⟩)
        · skip
          obtain ⟨j0, o0, K0, N0⟩ : ∃ (j0 : Nat) (o0 : Int), s_ok y f m (i, false, st, on) st (on + v30.toInt) ML37_12_28 j0 o0 ∧ (18 = 17 → ¬ (kK y j0 = 2 ∧ s_wn y j0 = 18)) := by rcases hbL37_12_284 with q | q; (· exact q.2); (· omega)
          have T0 := K0.1
          have B0 := K0.2.1
          have B1 := K0.2.2.1
          refine PW.aload_n q_37_24 rfl ?_
          refine PW.gets q_37_25 t_st_37_69 ?_
          refine PW.cV (as := [_]) (rest := []) q_37_28 t_mv_37_58 kd_1 IML37_12_28.1 (by decide) rfl (by decide) rfl rfl (Nat.le_of_ble_eq_true rfl) (Nat.le_of_ble_eq_true rfl) (by decide) (by decide) ?_
          refine PW.up (by decide) (c_X7_takes_vk (V) (hV) G _ ML37_12_28 IML37_12_28 18 (by decide) y (j0) K0.2.2.2.1 fun x35 M34 IM34 GM34 hx35 kx35 PM34 => ?_)
          have FM34 := Fr.trans FML37_12_28 GM34 (rfl)
          rcases PM34 with ⟨PaM34, PbM34, PcM34, PtM34⟩ | ⟨PaM34, PnM34, PtM34⟩
          · skip
            have swM34 := (s_wn_iff (x := y) (i := j0) (show 18 < 28 by decide)).mp PcM34
            refine PW.jz_eq q_37_31 rfl (fun h36 => False.elim (by omega)) (fun h36 => ?_)
            have e0 : s_st y f m (j0, true, st, o0) = (0, 0, (j0 + 1, false, st, o0)) := by show s_bh y j0 st o0 = _; unfold s_bh; rw [if_pos ⟨PbM34, by omega⟩]
            refine PW.aload_n q_37_34 rfl ?_
            refine PW.aload_n q_37_35 rfl ?_
            refine PW.aload_n q_37_36 rfl ?_
            refine PW.iload_n q_37_37 rfl ?_
            refine PW.cV (as := [_, _, _]) (rest := []) q_37_38 t_mv_37_66 kd_267 IM34.1 (by decide) rfl (by decide) rfl rfl (Nat.le_of_ble_eq_true rfl) (Nat.le_of_ble_eq_true rfl) (by decide) (by decide) ?_
            refine PW.up (by decide) (c_X4_readOne_vk7 (V) (hV) G _ M34 IM34 a3 (by omega) (by omega) y (j0 + 1) f m st o0 PtM34 ((hp_1.cg hbL37_12_285 hbL37_12_286).cg (Fr.at GM34 kd_4 (by decide)) (Fr.at GM34 kd_5 (by decide))) ((congrArg (fun e => o_i e 0) (Fr.at GM34 kd_267 (by decide))).trans K0.2.2.2.2) hp_3 (by omega) fun x38 M37 IM37 GM37 hx38 kx38 PM37 => ?_)
            have FM37 := Fr.trans FM34 GM37 (rfl)
            rcases PM37 with ⟨PaM37, jM37, oM37, PkM37⟩ | ⟨PaM37, PkM37⟩
            · skip
              have koM37 := PkM37.2
              refine PW.jz_eq q_37_41 rfl (fun h39 => False.elim (by omega)) (fun h39 => ?_)
              refine PW.aload_n q_37_44 rfl ?_
              refine PW.gets q_37_45 t_st_37_69 ?_
              refine PW.cI q_37_48 (by decide) fun c40 hc40 => ?_
              refine PW.cI q_37_49 (by decide) fun c41 hc41 => ?_
              refine PW.cV (as := [_, _, _]) (rest := []) q_37_50 t_mv_37_62 kd_267 IM37.1 (by decide) rfl (by decide) rfl rfl (Nat.le_of_ble_eq_true rfl) (Nat.le_of_ble_eq_true rfl) (by decide) (by decide) ?_
              refine PW.up (by decide) (c_X4_add_vk (V) (hV) G _ M37 IM37 18 (by decide) c40 c41 (by omega) (by omega) fun x43 M42 IM42 GM42 hx43 kx43 PM42 => ?_)
              have FM42 := Fr.trans FM37 GM42 (rfl)
              have PoM42 := PM42
              refine PW.jz_eq q_37_53 rfl (fun h44 => False.elim (by omega)) (fun h44 => ?_)
              refine PW.cI q_37_56 (by decide) fun c45 hc45 => ?_
              refine PW.goto q_37_57 rfl ?_
              refine PW.istore q_37_61 (by decide) ?_
              refine PW.incN q_37_63 rfl (by decide) (by decide) (by omega) (by omega) fun x46 hx46 => ?_
              refine PW.goto q_37_66 rfl ?_
              refine PW.lvS (lk1 rfl (lk1 rfl (lk1 rfl (lk1 rfl (lk1 rfl (lk1 rfl lk0)))))) (ih_L37_12_28 _ ?_ M42 c45 x46 IM42 FM42 (by omega) (by omega) (by omega) (by omega) (Or.inl ⟨by omega, jM37, oM37, ((s_ok.next (c := x46.toInt) (by rw [hp_5] at PkM37; exact PkM37) (T0.trans (s_to.of e0)) (by have := K0.2.1; omega)).cg (Fr.at GM42 kd_1 (by decide)) (Fr.at GM42 kd_2 (by decide)) PoM42), (fun h => absurd h (by decide))⟩) (((Fr.at GM42 kd_4 (by decide)).trans ((Fr.at GM37 kd_4 (by decide)).trans (Fr.at GM34 kd_4 (by decide)))).trans hbL37_12_285) (((Fr.at GM42 kd_5 (by decide)).trans ((Fr.at GM37 kd_5 (by decide)).trans (Fr.at GM34 kd_5 (by decide)))).trans hbL37_12_286) rfl)
              omega
            · skip
              refine PW.jz_eq q_37_41 rfl (fun h47 => ?_) (fun h47 => False.elim (by omega))
              refine PW.cI q_37_60 (by decide) fun c48 hc48 => ?_
              refine PW.istore q_37_61 (by decide) ?_
              refine PW.incN q_37_63 rfl (by decide) (by decide) (by omega) (by omega) fun x49 hx49 => ?_
              refine PW.goto q_37_66 rfl ?_
              refine PW.lvS (lk1 rfl (lk1 rfl (lk1 rfl (lk1 rfl (lk1 rfl (lk1 rfl lk0)))))) (ih_L37_12_28 _ ?_ M37 c48 x49 IM37 FM37 (by omega) (by omega) (by omega) (by omega) (Or.inr ⟨by omega, ((s_bad.to PkM37 (T0.trans (s_to.of e0))).cg rfl)⟩) (((Fr.at GM37 kd_4 (by decide)).trans (Fr.at GM34 kd_4 (by decide))).trans hbL37_12_285) (((Fr.at GM37 kd_5 (by decide)).trans (Fr.at GM34 kd_5 (by decide))).trans hbL37_12_286) rfl)
              omega
          · skip
            have snM34 : kK y (j0) = 2 → s_wn y (j0) ≠ 18 := fun h q => PnM34 ⟨h, (s_wn_iff (show 18 < 28 by decide)).mpr q⟩
            refine PW.jz_eq q_37_31 rfl (fun h50 => ?_) (fun h50 => False.elim (by omega))
            refine PW.iload q_37_69 rfl ?_
            refine PW.rZ q_37_71 rfl (by omega) (by omega) (by decide) (by decide) ?_
            exact hK v29 M34 IM34 FM34 (by omega) (by omega) (Or.inl ⟨by omega, j0, o0, ⟨T0, by omega, B1, PtM34, ((congrArg (fun e => o_i e 0) (Fr.at GM34 kd_267 (by decide))).trans K0.2.2.2.2)⟩, (fun h => snM34 h.1 h.2)⟩)
    exact PW.lvS (lk1 rfl (lk1 rfl (lk1 rfl (lk1 rfl (lk1 rfl (lk1 rfl lk0)))))) (L37_12_28 _ M1 x2 c27 IM1 FM1 (by omega) (by omega) (by omega) (by omega) (Or.inr ⟨by omega, PkM1⟩) (Fr.at GM1 kd_4 (by decide)) (Fr.at GM1 kd_5 (by decide)) rfl)
theorem c_X4_readAny_vk7 (V : pM → Prop) (hV : Stab V) (G : pG) (Kr : pK) (M : pM) (I : Iv V M) (a3 : Int32) (hl_a3 : 7 ≤ a3.toInt) (hh_a3 : a3.toInt ≤ 7) (y : k_X) (i : Nat) (f : Nat → Int) (m : Int) (st : List Bool) (on : Int) (hp_0 : k_at y M i) (hp_1 : s_nm M f m) (hp_2 : o_i (M 267) 0 = on) (hp_3 : st.length + 1 = 7) (hp_4 : 0 ≤ on) (hp_5 : s_dn st = st) (hK : ∀ (x : Int32) (M1 : pM), Iv V M1 → Fr [1, 14, 15, 16, 17] M M1 → 0 ≤ x.toInt → x.toInt ≤ 1 → (s_aq y f m i st on x M1) → Kr.1 (some (.int x)) 311 M1) : PW G false 11 36 (p_mc 36) (p_msl 36) Kr 0 (lv_args 0 [.ref 267, .ref 1, .ref 4, .int a3]) [] 311 M 0 0 := by
  have F : Fr [1, 14, 15, 16, 17] M M := Fr.refl
  obtain ⟨w267_0, fw267_0, hw267_0, kw267_0⟩ := gF_14_0.int kd_267 I.1 (by decide)
  have iw267_0 := o_i_of fw267_0
  have jw267_0 : w267_0.toInt = on := by have w := hp_2; omega
  refine PW.aload_n q_36_0 rfl ?_
  refine PW.aload_n q_36_1 rfl ?_
  refine PW.aload_n q_36_2 rfl ?_
  refine PW.iload_n q_36_3 rfl ?_
  refine PW.cV (as := [_, _, _]) (rest := []) q_36_4 t_mv_36_51 kd_267 I.1 (by decide) rfl (by decide) rfl rfl (Nat.le_of_ble_eq_true rfl) (Nat.le_of_ble_eq_true rfl) (by decide) (by decide) ?_
  refine PW.up (by decide) (c_X4_readAll_vk7 (V) (hV) G _ M I a3 (by omega) (by omega) y (i) f m st on hp_0 hp_1 hp_2 hp_3 (by omega) hp_5 fun x2 M1 IM1 GM1 hx2 kx2 PM1 => ?_)
  have FM1 := Fr.trans F GM1 (rfl)
  rcases PM1 with ⟨PaM1, jM1, oM1, PkM1, Pn2M1⟩ | ⟨PaM1, PkM1⟩
  · skip
    have koM1 := PkM1.2
    refine PW.istore q_36_7 (by decide) ?_
    refine PW.cI q_36_9 (by decide) fun c3 hc3 => ?_
    refine PW.istore q_36_10 (by decide) ?_
    have L36_12_4 : ∀ (n : Nat) (ML36_12_4 : pM) (v5 v6 : Int32), Iv (V) ML36_12_4 → Fr [1, 14, 15, 16, 17] M ML36_12_4 → 0 ≤ v5.toInt → v5.toInt ≤ 1 → 0 ≤ v6.toInt → v6.toInt ≤ 20 → s_li y f m i st on 17 ML36_12_4 v5.toInt v6.toInt → ML36_12_4 4 = M 4 → ML36_12_4 5 = M 5 → (20 - v6.toInt).toNat = n → PW G false 11 36 (p_mc 36) (p_msl 36) Kr 12 [(0, .ref 267), (1, .ref 1), (2, .ref 4), (3, .int a3), (4, .int v5), (5, .int v6)] [] 311 ML36_12_4 0 0 := by
      intro n
      induction n using Nat.strongRecOn with
      | ind n ih_L36_12_4 =>
      intro ML36_12_4 v5 v6 IML36_12_4 FML36_12_4 hbL36_12_40 hbL36_12_41 hbL36_12_42 hbL36_12_43 hbL36_12_44 hbL36_12_45 hbL36_12_46 hmL36_12_4
      refine PW.iload q_36_12 rfl ?_
      refine PW.cB q_36_14 (by decide) fun c7 hc7 => ?_
      refine PW.jc_ge q_36_16 rfl (fun h8 => ?_) (fun h8 => ?_)
      · skip
        refine PW.iload q_36_69 rfl ?_
        refine PW.rZ q_36_71 rfl (by omega) (by omega) (by decide) (by decide) ?_
        exact hK v5 ML36_12_4 IML36_12_4 FML36_12_4 (by omega) (by omega) (Or.inr ⟨(s_li.full hbL36_12_44 (by omega) hp_4).1, (s_li.full hbL36_12_44 (by omega) hp_4).2⟩)
      · skip
        refine PW.iload q_36_19 rfl ?_
        refine PW.jz_eq q_36_21 rfl (fun h9 => ?_) (fun h9 => ?_)
        · skip
          refine PW.iload q_36_69 rfl ?_
          refine PW.rZ q_36_71 rfl (by omega) (by omega) (by decide) (by decide) ?_
          exact hK v5 ML36_12_4 IML36_12_4 FML36_12_4 (by omega) (by omega) (Or.inr ⟨by omega, (s_li.no hbL36_12_44 (by omega))⟩)
        · skip
          obtain ⟨j0, o0, K0, N0⟩ : ∃ (j0 : Nat) (o0 : Int), s_ok y f m (i, false, st, on) st (on + v6.toInt) ML36_12_4 j0 o0 ∧ (17 = 17 → ¬ (kK y j0 = 2 ∧ s_wn y j0 = 18)) := by rcases hbL36_12_44 with q | q; (· exact q.2); (· omega)
          have T0 := K0.1
          have B0 := K0.2.1
          have B1 := K0.2.2.1
          refine PW.aload_n q_36_24 rfl ?_
          refine PW.gets q_36_25 t_st_36_54 ?_
          refine PW.cV (as := [_]) (rest := []) q_36_28 t_mv_36_58 kd_1 IML36_12_4.1 (by decide) rfl (by decide) rfl rfl (Nat.le_of_ble_eq_true rfl) (Nat.le_of_ble_eq_true rfl) (by decide) (by decide) ?_
          refine PW.up (by decide) (c_X7_takes_vk (V) (hV) G _ ML36_12_4 IML36_12_4 17 (by decide) y (j0) K0.2.2.2.1 fun x11 M10 IM10 GM10 hx11 kx11 PM10 => ?_)
          have FM10 := Fr.trans FML36_12_4 GM10 (rfl)
          rcases PM10 with ⟨PaM10, PbM10, PcM10, PtM10⟩ | ⟨PaM10, PnM10, PtM10⟩
          · skip
            have swM10 := (s_wn_iff (x := y) (i := j0) (show 17 < 28 by decide)).mp PcM10
            refine PW.jz_eq q_36_31 rfl (fun h12 => False.elim (by omega)) (fun h12 => ?_)
            have e0 : s_st y f m (j0, true, st, o0) = (0, 0, (j0 + 1, false, st, o0)) := by show s_bh y j0 st o0 = _; unfold s_bh; rw [if_pos ⟨PbM10, by omega⟩]
            refine PW.aload_n q_36_34 rfl ?_
            refine PW.aload_n q_36_35 rfl ?_
            refine PW.aload_n q_36_36 rfl ?_
            refine PW.iload_n q_36_37 rfl ?_
            refine PW.cV (as := [_, _, _]) (rest := []) q_36_38 t_mv_36_51 kd_267 IM10.1 (by decide) rfl (by decide) rfl rfl (Nat.le_of_ble_eq_true rfl) (Nat.le_of_ble_eq_true rfl) (by decide) (by decide) ?_
            refine PW.up (by decide) (c_X4_readAll_vk7 (V) (hV) G _ M10 IM10 a3 (by omega) (by omega) y (j0 + 1) f m st o0 PtM10 ((hp_1.cg hbL36_12_45 hbL36_12_46).cg (Fr.at GM10 kd_4 (by decide)) (Fr.at GM10 kd_5 (by decide))) ((congrArg (fun e => o_i e 0) (Fr.at GM10 kd_267 (by decide))).trans K0.2.2.2.2) hp_3 (by omega) hp_5 fun x14 M13 IM13 GM13 hx14 kx14 PM13 => ?_)
            have FM13 := Fr.trans FM10 GM13 (rfl)
            rcases PM13 with ⟨PaM13, jM13, oM13, PkM13, Pn2M13⟩ | ⟨PaM13, PkM13⟩
            · skip
              have koM13 := PkM13.2
              refine PW.jz_eq q_36_41 rfl (fun h15 => False.elim (by omega)) (fun h15 => ?_)
              refine PW.aload_n q_36_44 rfl ?_
              refine PW.gets q_36_45 t_st_36_54 ?_
              refine PW.cI q_36_48 (by decide) fun c16 hc16 => ?_
              refine PW.cI q_36_49 (by decide) fun c17 hc17 => ?_
              refine PW.cV (as := [_, _, _]) (rest := []) q_36_50 t_mv_36_62 kd_267 IM13.1 (by decide) rfl (by decide) rfl rfl (Nat.le_of_ble_eq_true rfl) (Nat.le_of_ble_eq_true rfl) (by decide) (by decide) ?_
              refine PW.up (by decide) (c_X4_add_vk (V) (hV) G _ M13 IM13 17 (by decide) c16 c17 (by omega) (by omega) fun x19 M18 IM18 GM18 hx19 kx19 PM18 => ?_)
              have FM18 := Fr.trans FM13 GM18 (rfl)
              have PoM18 := PM18
              refine PW.jz_eq q_36_53 rfl (fun h20 => False.elim (by omega)) (fun h20 => ?_)
              refine PW.cI q_36_56 (by decide) fun c21 hc21 => ?_
              refine PW.goto q_36_57 rfl ?_
              refine PW.istore q_36_61 (by decide) ?_
              refine PW.incN q_36_63 rfl (by decide) (by decide) (by omega) (by omega) fun x22 hx22 => ?_
              refine PW.goto q_36_66 rfl ?_
              refine PW.lvS (lk1 rfl (lk1 rfl (lk1 rfl (lk1 rfl (lk1 rfl (lk1 rfl lk0)))))) (ih_L36_12_4 _ ?_ M18 c21 x22 IM18 FM18 (by omega) (by omega) (by omega) (by omega) (Or.inl ⟨by omega, jM13, oM13, ((s_ok.next (c := x22.toInt) PkM13 (T0.trans (s_to.of e0)) (by have := K0.2.1; omega)).cg (Fr.at GM18 kd_1 (by decide)) (Fr.at GM18 kd_2 (by decide)) PoM18), (fun _ => Pn2M13)⟩) (((Fr.at GM18 kd_4 (by decide)).trans ((Fr.at GM13 kd_4 (by decide)).trans (Fr.at GM10 kd_4 (by decide)))).trans hbL36_12_45) (((Fr.at GM18 kd_5 (by decide)).trans ((Fr.at GM13 kd_5 (by decide)).trans (Fr.at GM10 kd_5 (by decide)))).trans hbL36_12_46) rfl)
              omega
            · skip
              refine PW.jz_eq q_36_41 rfl (fun h23 => ?_) (fun h23 => False.elim (by omega))
              refine PW.cI q_36_60 (by decide) fun c24 hc24 => ?_
              refine PW.istore q_36_61 (by decide) ?_
              refine PW.incN q_36_63 rfl (by decide) (by decide) (by omega) (by omega) fun x25 hx25 => ?_
              refine PW.goto q_36_66 rfl ?_
              refine PW.lvS (lk1 rfl (lk1 rfl (lk1 rfl (lk1 rfl (lk1 rfl (lk1 rfl lk0)))))) (ih_L36_12_4 _ ?_ M13 c24 x25 IM13 FM13 (by omega) (by omega) (by omega) (by omega) (Or.inr ⟨by omega, ((s_bad.to PkM13 (T0.trans (s_to.of e0))).cg rfl)⟩) (((Fr.at GM13 kd_4 (by decide)).trans (Fr.at GM10 kd_4 (by decide))).trans hbL36_12_45) (((Fr.at GM13 kd_5 (by decide)).trans (Fr.at GM10 kd_5 (by decide))).trans hbL36_12_46) rfl)
              omega
          · skip
            have snM10 : kK y (j0) = 2 → s_wn y (j0) ≠ 17 := fun h q => PnM10 ⟨h, (s_wn_iff (show 17 < 28 by decide)).mpr q⟩
            refine PW.jz_eq q_36_31 rfl (fun h26 => ?_) (fun h26 => False.elim (by omega))
            refine PW.iload q_36_69 rfl ?_
            refine PW.rZ q_36_71 rfl (by omega) (by omega) (by decide) (by decide) ?_
            exact hK v5 M10 IM10 FM10 (by omega) (by omega) (Or.inl ⟨by omega, j0, o0, ⟨T0, by omega, B1, PtM10, ((congrArg (fun e => o_i e 0) (Fr.at GM10 kd_267 (by decide))).trans K0.2.2.2.2)⟩, (fun h => by rcases h.2 with q | q; (· exact N0 rfl ⟨h.1, q⟩); (· exact snM10 h.1 q))⟩)
    exact PW.lvS (lk1 rfl (lk1 rfl (lk1 rfl (lk1 rfl (lk1 rfl (lk1 rfl lk0)))))) (L36_12_4 _ M1 x2 c3 IM1 FM1 (by omega) (by omega) (by omega) (by omega) (Or.inl ⟨by omega, jM1, oM1, (s_ok.mono PkM1 (by omega)), (fun _ => Pn2M1)⟩) (Fr.at GM1 kd_4 (by decide)) (Fr.at GM1 kd_5 (by decide)) rfl)
  · skip
    refine PW.istore q_36_7 (by decide) ?_
    refine PW.cI q_36_9 (by decide) fun c27 hc27 => ?_
    refine PW.istore q_36_10 (by decide) ?_
    have L36_12_28 : ∀ (n : Nat) (ML36_12_28 : pM) (v29 v30 : Int32), Iv (V) ML36_12_28 → Fr [1, 14, 15, 16, 17] M ML36_12_28 → 0 ≤ v29.toInt → v29.toInt ≤ 1 → 0 ≤ v30.toInt → v30.toInt ≤ 20 → s_li y f m i st on 17 ML36_12_28 v29.toInt v30.toInt → ML36_12_28 4 = M 4 → ML36_12_28 5 = M 5 → (20 - v30.toInt).toNat = n → PW G false 11 36 (p_mc 36) (p_msl 36) Kr 12 [(0, .ref 267), (1, .ref 1), (2, .ref 4), (3, .int a3), (4, .int v29), (5, .int v30)] [] 311 ML36_12_28 0 0 := by
      intro n
      induction n using Nat.strongRecOn with
      | ind n ih_L36_12_28 =>
      intro ML36_12_28 v29 v30 IML36_12_28 FML36_12_28 hbL36_12_280 hbL36_12_281 hbL36_12_282 hbL36_12_283 hbL36_12_284 hbL36_12_285 hbL36_12_286 hmL36_12_28
      refine PW.iload q_36_12 rfl ?_
      refine PW.cB q_36_14 (by decide) fun c31 hc31 => ?_
      refine PW.jc_ge q_36_16 rfl (fun h32 => ?_) (fun h32 => ?_)
      · skip
        refine PW.iload q_36_69 rfl ?_
        refine PW.rZ q_36_71 rfl (by omega) (by omega) (by decide) (by decide) ?_
        exact hK v29 ML36_12_28 IML36_12_28 FML36_12_28 (by omega) (by omega) (Or.inr ⟨(s_li.full hbL36_12_284 (by omega) hp_4).1, (s_li.full hbL36_12_284 (by omega) hp_4).2⟩)
      · skip
        refine PW.iload q_36_19 rfl ?_
        refine PW.jz_eq q_36_21 rfl (fun h33 => ?_) (fun h33 => ?_)
        · skip
          refine PW.iload q_36_69 rfl ?_
          refine PW.rZ q_36_71 rfl (by omega) (by omega) (by decide) (by decide) ?_
          exact hK v29 ML36_12_28 IML36_12_28 FML36_12_28 (by omega) (by omega) (Or.inr ⟨by omega, (s_li.no hbL36_12_284 (by omega))⟩)
        · skip
          obtain ⟨j0, o0, K0, N0⟩ : ∃ (j0 : Nat) (o0 : Int), s_ok y f m (i, false, st, on) st (on + v30.toInt) ML36_12_28 j0 o0 ∧ (17 = 17 → ¬ (kK y j0 = 2 ∧ s_wn y j0 = 18)) := by rcases hbL36_12_284 with q | q; (· exact q.2); (· omega)
          have T0 := K0.1
          have B0 := K0.2.1
          have B1 := K0.2.2.1
          refine PW.aload_n q_36_24 rfl ?_
          refine PW.gets q_36_25 t_st_36_54 ?_
          refine PW.cV (as := [_]) (rest := []) q_36_28 t_mv_36_58 kd_1 IML36_12_28.1 (by decide) rfl (by decide) rfl rfl (Nat.le_of_ble_eq_true rfl) (Nat.le_of_ble_eq_true rfl) (by decide) (by decide) ?_
          refine PW.up (by decide) (c_X7_takes_vk (V) (hV) G _ ML36_12_28 IML36_12_28 17 (by decide) y (j0) K0.2.2.2.1 fun x35 M34 IM34 GM34 hx35 kx35 PM34 => ?_)
          have FM34 := Fr.trans FML36_12_28 GM34 (rfl)
          rcases PM34 with ⟨PaM34, PbM34, PcM34, PtM34⟩ | ⟨PaM34, PnM34, PtM34⟩
          · skip
            have swM34 := (s_wn_iff (x := y) (i := j0) (show 17 < 28 by decide)).mp PcM34
            refine PW.jz_eq q_36_31 rfl (fun h36 => False.elim (by omega)) (fun h36 => ?_)
            have e0 : s_st y f m (j0, true, st, o0) = (0, 0, (j0 + 1, false, st, o0)) := by show s_bh y j0 st o0 = _; unfold s_bh; rw [if_pos ⟨PbM34, by omega⟩]
            refine PW.aload_n q_36_34 rfl ?_
            refine PW.aload_n q_36_35 rfl ?_
            refine PW.aload_n q_36_36 rfl ?_
            refine PW.iload_n q_36_37 rfl ?_
            refine PW.cV (as := [_, _, _]) (rest := []) q_36_38 t_mv_36_51 kd_267 IM34.1 (by decide) rfl (by decide) rfl rfl (Nat.le_of_ble_eq_true rfl) (Nat.le_of_ble_eq_true rfl) (by decide) (by decide) ?_
            refine PW.up (by decide) (c_X4_readAll_vk7 (V) (hV) G _ M34 IM34 a3 (by omega) (by omega) y (j0 + 1) f m st o0 PtM34 ((hp_1.cg hbL36_12_285 hbL36_12_286).cg (Fr.at GM34 kd_4 (by decide)) (Fr.at GM34 kd_5 (by decide))) ((congrArg (fun e => o_i e 0) (Fr.at GM34 kd_267 (by decide))).trans K0.2.2.2.2) hp_3 (by omega) hp_5 fun x38 M37 IM37 GM37 hx38 kx38 PM37 => ?_)
            have FM37 := Fr.trans FM34 GM37 (rfl)
            rcases PM37 with ⟨PaM37, jM37, oM37, PkM37, Pn2M37⟩ | ⟨PaM37, PkM37⟩
            · skip
              have koM37 := PkM37.2
              refine PW.jz_eq q_36_41 rfl (fun h39 => False.elim (by omega)) (fun h39 => ?_)
              refine PW.aload_n q_36_44 rfl ?_
              refine PW.gets q_36_45 t_st_36_54 ?_
              refine PW.cI q_36_48 (by decide) fun c40 hc40 => ?_
              refine PW.cI q_36_49 (by decide) fun c41 hc41 => ?_
              refine PW.cV (as := [_, _, _]) (rest := []) q_36_50 t_mv_36_62 kd_267 IM37.1 (by decide) rfl (by decide) rfl rfl (Nat.le_of_ble_eq_true rfl) (Nat.le_of_ble_eq_true rfl) (by decide) (by decide) ?_
              refine PW.up (by decide) (c_X4_add_vk (V) (hV) G _ M37 IM37 17 (by decide) c40 c41 (by omega) (by omega) fun x43 M42 IM42 GM42 hx43 kx43 PM42 => ?_)
              have FM42 := Fr.trans FM37 GM42 (rfl)
              have PoM42 := PM42
              refine PW.jz_eq q_36_53 rfl (fun h44 => False.elim (by omega)) (fun h44 => ?_)
              refine PW.cI q_36_56 (by decide) fun c45 hc45 => ?_
              refine PW.goto q_36_57 rfl ?_
              refine PW.istore q_36_61 (by decide) ?_
              refine PW.incN q_36_63 rfl (by decide) (by decide) (by omega) (by omega) fun x46 hx46 => ?_
              refine PW.goto q_36_66 rfl ?_
              refine PW.lvS (lk1 rfl (lk1 rfl (lk1 rfl (lk1 rfl (lk1 rfl (lk1 rfl lk0)))))) (ih_L36_12_28 _ ?_ M42 c45 x46 IM42 FM42 (by omega) (by omega) (by omega) (by omega) (Or.inl ⟨by omega, jM37, oM37, ((s_ok.next (c := x46.toInt) PkM37 (T0.trans (s_to.of e0)) (by have := K0.2.1; omega)).cg (Fr.at GM42 kd_1 (by decide)) (Fr.at GM42 kd_2 (by decide)) PoM42), (fun _ => Pn2M37)⟩) (((Fr.at GM42 kd_4 (by decide)).trans ((Fr.at GM37 kd_4 (by decide)).trans (Fr.at GM34 kd_4 (by decide)))).trans hbL36_12_285) (((Fr.at GM42 kd_5 (by decide)).trans ((Fr.at GM37 kd_5 (by decide)).trans (Fr.at GM34 kd_5 (by decide)))).trans hbL36_12_286) rfl)
              omega
            · skip
              refine PW.jz_eq q_36_41 rfl (fun h47 => ?_) (fun h47 => False.elim (by omega))
              refine PW.cI q_36_60 (by decide) fun c48 hc48 => ?_
              refine PW.istore q_36_61 (by decide) ?_
              refine PW.incN q_36_63 rfl (by decide) (by decide) (by omega) (by omega) fun x49 hx49 => ?_
              refine PW.goto q_36_66 rfl ?_
              refine PW.lvS (lk1 rfl (lk1 rfl (lk1 rfl (lk1 rfl (lk1 rfl (lk1 rfl lk0)))))) (ih_L36_12_28 _ ?_ M37 c48 x49 IM37 FM37 (by omega) (by omega) (by omega) (by omega) (Or.inr ⟨by omega, ((s_bad.to PkM37 (T0.trans (s_to.of e0))).cg rfl)⟩) (((Fr.at GM37 kd_4 (by decide)).trans (Fr.at GM34 kd_4 (by decide))).trans hbL36_12_285) (((Fr.at GM37 kd_5 (by decide)).trans (Fr.at GM34 kd_5 (by decide))).trans hbL36_12_286) rfl)
              omega
          · skip
            have snM34 : kK y (j0) = 2 → s_wn y (j0) ≠ 17 := fun h q => PnM34 ⟨h, (s_wn_iff (show 17 < 28 by decide)).mpr q⟩
            refine PW.jz_eq q_36_31 rfl (fun h50 => ?_) (fun h50 => False.elim (by omega))
            refine PW.iload q_36_69 rfl ?_
            refine PW.rZ q_36_71 rfl (by omega) (by omega) (by decide) (by decide) ?_
            exact hK v29 M34 IM34 FM34 (by omega) (by omega) (Or.inl ⟨by omega, j0, o0, ⟨T0, by omega, B1, PtM34, ((congrArg (fun e => o_i e 0) (Fr.at GM34 kd_267 (by decide))).trans K0.2.2.2.2)⟩, (fun h => by rcases h.2 with q | q; (· exact N0 rfl ⟨h.1, q⟩); (· exact snM34 h.1 q))⟩)
    exact PW.lvS (lk1 rfl (lk1 rfl (lk1 rfl (lk1 rfl (lk1 rfl (lk1 rfl lk0)))))) (L36_12_28 _ M1 x2 c27 IM1 FM1 (by omega) (by omega) (by omega) (by omega) (Or.inr ⟨by omega, PkM1⟩) (Fr.at GM1 kd_4 (by decide)) (Fr.at GM1 kd_5 (by decide)) rfl)
theorem c_X4_readOne_vk6 (V : pM → Prop) (hV : Stab V) (G : pG) (Kr : pK) (M : pM) (I : Iv V M) (a3 : Int32) (hl_a3 : 6 ≤ a3.toInt) (hh_a3 : a3.toInt ≤ 6) (y : k_X) (i : Nat) (f : Nat → Int) (m : Int) (st : List Bool) (on : Int) (hp_0 : k_at y M i) (hp_1 : s_nm M f m) (hp_2 : o_i (M 267) 0 = on) (hp_3 : st.length + 1 = 6) (hp_4 : 0 ≤ on) (hK : ∀ (x : Int32) (M1 : pM), Iv V M1 → Fr [1, 14, 15, 16, 17] M M1 → 0 ≤ x.toInt → x.toInt ≤ 1 → (s_oq y f m i st on x M1) → Kr.1 (some (.int x)) 311 M1) : PW G false 12 38 (p_mc 38) (p_msl 38) Kr 0 (lv_args 0 [.ref 267, .ref 1, .ref 4, .int a3]) [] 311 M 0 0 := by
  have F : Fr [1, 14, 15, 16, 17] M M := Fr.refl
  obtain ⟨w267_0, fw267_0, hw267_0, kw267_0⟩ := gF_14_0.int kd_267 I.1 (by decide)
  have iw267_0 := o_i_of fw267_0
  have jw267_0 : w267_0.toInt = on := by have w := hp_2; omega
  refine PW.aload_n q_38_0 rfl ?_
  refine PW.callS (as := [_]) (rest := []) q_38_1 t_ms_38_72 (by decide) rfl (Nat.le_of_ble_eq_true rfl) (Nat.le_of_ble_eq_true rfl) (by decide) (by decide) ?_
  refine PW.up (by decide) (c_X4_beginsOne_vk (V) (hV) G _ M I y (i) hp_0 fun x2  hx2 kx2 PM1 => ?_)
  rcases PM1 with ⟨PaM1, PbM1⟩ | ⟨PaM1, PnM1⟩
  · skip
    refine PW.jz_ne q_38_4 rfl (fun h3 => ?_) (fun h3 => False.elim (by omega))
    refine PW.aload_n q_38_13 rfl ?_
    refine PW.gE q_38_14 (Or.inl t_ft_38_27) gF_14_0 kd_267 I.1 (by decide) fw267_0 ?_
    refine PW.cB q_38_17 (by decide) fun c4 hc4 => ?_
    refine PW.jc_ge q_38_19 rfl (fun h5 => ?_) (fun h5 => ?_)
    · skip
      refine PW.aload_n q_38_28 rfl ?_
      refine PW.cI q_38_29 (by decide) fun c6 hc6 => ?_
      refine PW.cV (as := [_]) (rest := []) q_38_30 t_mv_38_76 kd_1 I.1 (by decide) rfl (by decide) rfl rfl (Nat.le_of_ble_eq_true rfl) (Nat.le_of_ble_eq_true rfl) (by decide) (by decide) ?_
      refine PW.up (by decide) (c_X7_fail_vk (V) (hV) G _ M I c6 y (i) hp_0 fun x8 M7 IM7 GM7 hx8 kx8 PM7 => ?_)
      have FM7 := Fr.trans F GM7 (rfl)
      rcases PM7 with ⟨PfM7, PgM7⟩
      refine PW.rZ q_38_33 rfl (by omega) (by omega) (by decide) (by decide) ?_
      have e : s_st y f m (i, false, st, on) = (4, kP y i, (0, false, [], 0)) := by show s_op y f m i st on = _; unfold s_op; rw [if_neg (not_not_intro PbM1), if_pos (by omega)]
      exact hK x8 M7 IM7 FM7 (by omega) (by omega) (Or.inr ⟨by omega, s_bad.of e (by omega) (by omega) (by omega) (by omega)⟩)
    · skip
      refine PW.iload_n q_38_22 rfl ?_
      refine PW.cB q_38_23 (by decide) fun c9 hc9 => ?_
      refine PW.jc_le q_38_25 rfl (fun h10 => ?_) (fun h10 => False.elim (by omega))
      refine PW.aload_n q_38_34 rfl ?_
      refine PW.dup q_38_35 rfl ?_
      refine PW.gE q_38_36 (Or.inl t_ft_38_27) gF_14_0 kd_267 I.1 (by decide) fw267_0 ?_
      refine PW.cI q_38_39 (by decide) fun c11 hc11 => ?_
      refine PW.addN q_38_40 (by omega) (by omega) fun x12 hx12 => ?_
      refine PW.pI q_38_41 (Or.inl t_ft_38_27) gF_14_0 gP_14_0 kd_267 hV I (by decide) rfl (n_lo _) (n_hi _) fun M13 IM13 fM13 UM13 => ?_
      have FM13 := Fr.pu F UM13.1 kd_267 (rfl : List.contains [1, 14, 15, 16, 17] 14 = true)
      have b1 : kK y i = 2 ∨ kK y i = 5 := by rcases PbM1 with q | q; (· exact Or.inr q.1); (· exact Or.inl q.1)
      have on1 : o_i (M13 267) 0 = on + 1 := by have w := o_i_of fM13; omega
      refine PW.aload_n q_38_44 rfl ?_
      refine PW.gets q_38_45 t_st_38_80 ?_
      refine PW.cV (as := [_]) (rest := []) q_38_48 t_mv_38_58 kd_1 IM13.1 (by decide) rfl (by decide) rfl rfl (Nat.le_of_ble_eq_true rfl) (Nat.le_of_ble_eq_true rfl) (by decide) (by decide) ?_
      refine PW.up (by decide) (c_X7_takes_vk (V) (hV) G _ M13 IM13 19 (by decide) y (i) (hp_0.cg (UM13.1 _ (g_ne kd_1 kd_267 (by decide))) (UM13.1 _ (g_ne kd_2 kd_267 (by decide)))) fun x15 M14 IM14 GM14 hx15 kx15 PM14 => ?_)
      have FM14 := Fr.trans FM13 GM14 (rfl)
      rcases PM14 with ⟨PaM14, PbM14, PcM14, PtM14⟩ | ⟨PaM14, PnM14, PtM14⟩
      · skip
        have swM14 := (s_wn_iff (x := y) (i := i) (show 19 < 28 by decide)).mp PcM14
        refine PW.jz_eq q_38_51 rfl (fun h16 => False.elim (by omega)) (fun h16 => ?_)
        refine PW.aload_n q_38_54 rfl ?_
        refine PW.aload_n q_38_55 rfl ?_
        refine PW.aload_n q_38_56 rfl ?_
        refine PW.iload_n q_38_57 rfl ?_
        refine PW.cI q_38_58 (by decide) fun c17 hc17 => ?_
        refine PW.addN q_38_59 (by omega) (by omega) fun x18 hx18 => ?_
        refine PW.cV (as := [_, _, _]) (rest := []) q_38_60 t_mv_38_66 kd_267 IM14.1 (by decide) rfl (by decide) rfl rfl (Nat.le_of_ble_eq_true rfl) (Nat.le_of_ble_eq_true rfl) (by decide) (by decide) ?_
        refine PW.up (by decide) (c_X4_readOne_vk7 (V) (hV) G _ M14 IM14 x18 (by omega) (by omega) y (i + 1) f m (false :: st) (on + 1) PtM14 (hp_1.cg ((Fr.at GM14 kd_4 (by decide)).trans (UM13.1 _ (g_ne kd_4 kd_267 (by decide)))) ((Fr.at GM14 kd_5 (by decide)).trans (UM13.1 _ (g_ne kd_5 kd_267 (by decide))))) ((congrArg (fun e => o_i e 0) (Fr.at GM14 kd_267 (by decide))).trans on1) (by rw [List.length_cons]; omega) (by omega) fun x20 M19 IM19 GM19 hx20 kx20 PM19 => ?_)
        have FM19 := Fr.trans FM14 GM19 (rfl)
        rcases PM19 with ⟨PaM19, jM19, oM19, PkM19⟩ | ⟨PaM19, PkM19⟩
        · skip
          have koM19 := PkM19.2
          refine PW.jz_eq q_38_63 rfl (fun h21 => False.elim (by omega)) (fun h21 => ?_)
          refine PW.aload_n q_38_66 rfl ?_
          refine PW.gets q_38_67 t_st_38_80 ?_
          refine PW.cI q_38_70 (by decide) fun c22 hc22 => ?_
          refine PW.cI q_38_71 (by decide) fun c23 hc23 => ?_
          refine PW.cV (as := [_, _, _]) (rest := []) q_38_72 t_mv_38_62 kd_267 IM19.1 (by decide) rfl (by decide) rfl rfl (Nat.le_of_ble_eq_true rfl) (Nat.le_of_ble_eq_true rfl) (by decide) (by decide) ?_
          refine PW.up (by decide) (c_X4_add_vk (V) (hV) G _ M19 IM19 19 (by decide) c22 c23 (by omega) (by omega) fun x25 M24 IM24 GM24 hx25 kx25 PM24 => ?_)
          have FM24 := Fr.trans FM19 GM24 (rfl)
          have PoM24 := PM24
          refine PW.jz_eq q_38_75 rfl (fun h26 => False.elim (by omega)) (fun h26 => ?_)
          refine PW.cI q_38_78 (by decide) fun c27 hc27 => ?_
          refine PW.goto q_38_79 rfl ?_
          refine PW.rZ q_38_83 rfl (by omega) (by omega) (by decide) (by decide) ?_
          have e : s_st y f m (i, false, st, on) = (0, 0, (i + 1, false, false :: st, on + 1)) := by show s_op y f m i st on = _; unfold s_op; rw [if_neg (not_not_intro PbM1), if_neg (by omega), if_pos ⟨PbM14, by omega⟩]
          exact hK c27 M24 IM24 FM24 (by omega) (by omega) (Or.inl ⟨by omega, jM19, oM19, ((s_ok.next (on := on) (c := 1) PkM19 (s_to.of e) (by omega)).mono (on1 := on) (by omega)).cg (Fr.at GM24 kd_1 (by decide)) (Fr.at GM24 kd_2 (by decide)) PoM24⟩)
        · skip
          refine PW.jz_eq q_38_63 rfl (fun h28 => ?_) (fun h28 => False.elim (by omega))
          refine PW.cI q_38_82 (by decide) fun c29 hc29 => ?_
          refine PW.rZ q_38_83 rfl (by omega) (by omega) (by decide) (by decide) ?_
          have e : s_st y f m (i, false, st, on) = (0, 0, (i + 1, false, false :: st, on + 1)) := by show s_op y f m i st on = _; unfold s_op; rw [if_neg (not_not_intro PbM1), if_neg (by omega), if_pos ⟨PbM14, by omega⟩]
          exact hK c29 M19 IM19 FM19 (by omega) (by omega) (Or.inr ⟨by omega, (s_bad.to PkM19 (s_to.of e)).cg rfl⟩)
      · skip
        have snM14 : kK y (i) = 2 → s_wn y (i) ≠ 19 := fun h q => PnM14 ⟨h, (s_wn_iff (show 19 < 28 by decide)).mpr q⟩
        refine PW.jz_eq q_38_51 rfl (fun h30 => ?_) (fun h30 => False.elim (by omega))
        refine PW.aload_n q_38_84 rfl ?_
        refine PW.cB q_38_85 (by decide) fun c31 hc31 => ?_
        refine PW.cV (as := [_]) (rest := []) q_38_87 t_mv_38_83 kd_1 IM14.1 (by decide) rfl (by decide) rfl rfl (Nat.le_of_ble_eq_true rfl) (Nat.le_of_ble_eq_true rfl) (by decide) (by decide) ?_
        refine PW.up (by decide) (c_X7_seesSign_vk (V) (hV) G _ M14 IM14 c31 y (i) PtM14 fun x33  hx33 kx33 PM32 => ?_)
        rcases PM32 with ⟨PaM32, PbM32, PcM32⟩ | ⟨PaM32, PnM32⟩
        · skip
          refine PW.jz_eq q_38_90 rfl (fun h34 => False.elim (by omega)) (fun h34 => ?_)
          refine PW.aload_n q_38_93 rfl ?_
          refine PW.cV (as := []) (rest := []) q_38_94 t_mv_38_86 kd_1 IM14.1 (by decide) rfl (by decide) rfl rfl (Nat.le_of_ble_eq_true rfl) (Nat.le_of_ble_eq_true rfl) (by decide) (by decide) ?_
          refine PW.up (by decide) (c_X7_advance_vk (V) (hV) G _ M14 IM14 y (i + 1) (k_at.nx PtM14 (by omega)) fun M35 IM35 GM35 PM35 => ?_)
          have FM35 := Fr.trans FM14 GM35 (rfl)
          have PtM35 := PM35
          refine PW.aload_n q_38_97 rfl ?_
          refine PW.aload_n q_38_98 rfl ?_
          refine PW.aload_n q_38_99 rfl ?_
          refine PW.iload_n q_38_100 rfl ?_
          refine PW.cI q_38_101 (by decide) fun c36 hc36 => ?_
          refine PW.addN q_38_102 (by omega) (by omega) fun x37 hx37 => ?_
          refine PW.cV (as := [_, _, _]) (rest := []) q_38_103 t_mv_38_43 kd_267 IM35.1 (by decide) rfl (by decide) rfl rfl (Nat.le_of_ble_eq_true rfl) (Nat.le_of_ble_eq_true rfl) (by decide) (by decide) ?_
          refine PW.up (by decide) (c_X4_readAny_vk7 (V) (hV) G _ M35 IM35 x37 (by omega) (by omega) y (i + 1) f m (true :: st) (on + 1) PtM35 (hp_1.cg ((Fr.at GM35 kd_4 (by decide)).trans ((Fr.at GM14 kd_4 (by decide)).trans (UM13.1 _ (g_ne kd_4 kd_267 (by decide))))) ((Fr.at GM35 kd_5 (by decide)).trans ((Fr.at GM14 kd_5 (by decide)).trans (UM13.1 _ (g_ne kd_5 kd_267 (by decide)))))) (((congrArg (fun e => o_i e 0) (Fr.at GM35 kd_267 (by decide))).trans (congrArg (fun e => o_i e 0) (Fr.at GM14 kd_267 (by decide)))).trans on1) (by rw [List.length_cons]; omega) (by omega) rfl fun x39 M38 IM38 GM38 hx39 kx39 PM38 => ?_)
          have FM38 := Fr.trans FM35 GM38 (rfl)
          rcases PM38 with ⟨PaM38, jM38, oM38, PkM38, Pn2M38⟩ | ⟨PaM38, PkM38⟩
          · skip
            have koM38 := PkM38.2
            refine PW.jz_eq q_38_106 rfl (fun h40 => False.elim (by omega)) (fun h40 => ?_)
            refine PW.aload_n q_38_109 rfl ?_
            refine PW.cB q_38_110 (by decide) fun c41 hc41 => ?_
            refine PW.cV (as := [_]) (rest := []) q_38_112 t_mv_38_89 kd_1 IM38.1 (by decide) rfl (by decide) rfl rfl (Nat.le_of_ble_eq_true rfl) (Nat.le_of_ble_eq_true rfl) (by decide) (by decide) ?_
            refine PW.up (by decide) (c_X7_needsSign_vk (V) (hV) G _ M38 IM38 c41 y (jM38) PkM38.2.2.2.1 fun x43 M42 IM42 GM42 hx43 kx43 PM42 => ?_)
            have FM42 := Fr.trans FM38 GM42 (rfl)
            rcases PM42 with ⟨PaM42, PbM42, PcM42, PtM42⟩ | ⟨PaM42, PnM42, PfM42, PgM42⟩
            · skip
              refine PW.jz_eq q_38_115 rfl (fun h44 => False.elim (by omega)) (fun h44 => ?_)
              refine PW.cI q_38_118 (by decide) fun c45 hc45 => ?_
              refine PW.goto q_38_119 rfl ?_
              refine PW.rZ q_38_123 rfl (by omega) (by omega) (by decide) (by decide) ?_
              have e : s_st y f m (i, false, st, on) = (0, 0, (i + 1, false, true :: st, on + 1)) := by show s_op y f m i st on = _; unfold s_op; rw [if_neg (not_not_intro PbM1), if_neg (by omega), if_neg (by omega), if_pos (by omega)]
              have e2 : s_st y f m (jM38, true, true :: st, oM38) = (0, 0, (jM38 + 1, true, s_dn st, oM38)) := by show s_bh y jM38 (true :: st) oM38 = _; unfold s_bh; rw [if_neg Pn2M38, if_pos ⟨⟨PbM42, PcM42.trans (by omega)⟩, List.cons_ne_nil _ _⟩]; rfl
              exact hK c45 M42 IM42 FM42 (by omega) (by omega) (Or.inl ⟨by omega, jM38 + 1, oM38, ((s_to.of e).trans PkM38.1).trans (s_to.of e2), by have := PkM38.2.1; omega, PkM38.2.2.1, PtM42, ((congrArg (fun e => o_i e 0) (Fr.at GM42 kd_267 (by decide))).trans PkM38.2.2.2.2)⟩)
            · skip
              refine PW.jz_eq q_38_115 rfl (fun h46 => ?_) (fun h46 => False.elim (by omega))
              refine PW.cI q_38_122 (by decide) fun c47 hc47 => ?_
              refine PW.rZ q_38_123 rfl (by omega) (by omega) (by decide) (by decide) ?_
              have e : s_st y f m (i, false, st, on) = (0, 0, (i + 1, false, true :: st, on + 1)) := by show s_op y f m i st on = _; unfold s_op; rw [if_neg (not_not_intro PbM1), if_neg (by omega), if_neg (by omega), if_pos (by omega)]
              have e2 : s_st y f m (jM38, true, true :: st, oM38) = (1, kP y jM38, (0, false, [], 0)) := by show s_bh y jM38 (true :: st) oM38 = _; unfold s_bh; rw [if_neg Pn2M38, if_neg (fun h => PnM42 ⟨h.1.1, h.1.2.trans (by omega)⟩), if_neg (fun h => List.cons_ne_nil _ _ h.2)]
              exact hK c47 M42 IM42 FM42 (by omega) (by omega) (Or.inr ⟨by omega, ((s_bad.of e2 (by omega) (by omega) (by omega) (by omega)).to PkM38.1).to (s_to.of e)⟩)
          · skip
            refine PW.jz_eq q_38_106 rfl (fun h48 => ?_) (fun h48 => False.elim (by omega))
            refine PW.cI q_38_122 (by decide) fun c49 hc49 => ?_
            refine PW.rZ q_38_123 rfl (by omega) (by omega) (by decide) (by decide) ?_
            have e : s_st y f m (i, false, st, on) = (0, 0, (i + 1, false, true :: st, on + 1)) := by show s_op y f m i st on = _; unfold s_op; rw [if_neg (not_not_intro PbM1), if_neg (by omega), if_neg (by omega), if_pos (by omega)]
            exact hK c49 M38 IM38 FM38 (by omega) (by omega) (Or.inr ⟨by omega, (s_bad.to PkM38 (s_to.of e)).cg rfl⟩)
        · skip
          refine PW.jz_eq q_38_90 rfl (fun h50 => ?_) (fun h50 => False.elim (by omega))
          have k2 : kK y i = 2 := by rcases PbM1 with q | q; (· exact absurd ⟨q.1, q.2.trans (by omega)⟩ PnM32); (· exact q.1)
          have k3 : 20 ≤ s_wn y i ∧ s_wn y i ≤ 27 := by rcases PbM1 with q | q; (· omega); (· have u := snM14 q.1; omega)
          refine PW.aload_n q_38_124 rfl ?_
          refine PW.aload_n q_38_125 rfl ?_
          refine PW.aload_n q_38_126 rfl ?_
          refine PW.cV (as := [_, _]) (rest := []) q_38_127 t_mv_38_92 kd_267 IM14.1 (by decide) rfl (by decide) rfl rfl (Nat.le_of_ble_eq_true rfl) (Nat.le_of_ble_eq_true rfl) (by decide) (by decide) ?_
          refine PW.up (by decide) (c_X4_readPlain_vk (V) (hV) G _ M14 IM14 y (i) f m PtM14 (hp_1.cg ((Fr.at GM14 kd_4 (by decide)).trans (UM13.1 _ (g_ne kd_4 kd_267 (by decide)))) ((Fr.at GM14 kd_5 (by decide)).trans (UM13.1 _ (g_ne kd_5 kd_267 (by decide))))) (by omega) (by omega) (by omega) fun x52 M51 IM51 GM51 hx52 kx52 PM51 => ?_)
          have FM51 := Fr.trans FM14 GM51 (rfl)
          rcases PM51 with ⟨PaM51, PbM51, PtM51, PoM51⟩ | ⟨PaM51, PbM51, PfM51, PgM51⟩
          · skip
            refine PW.rZ q_38_130 rfl (by omega) (by omega) (by decide) (by decide) ?_
            have e : s_st y f m (i, false, st, on) = (0, 0, ((s_pn y f m i).2.2, true, s_dn st, on + 1)) := by show s_op y f m i st on = _; unfold s_op; rw [if_neg (not_not_intro PbM1), if_neg (by omega), if_neg (by omega), if_neg (by omega), if_neg (not_not_intro PbM51)]
            exact hK x52 M51 IM51 FM51 (by omega) (by omega) (Or.inl ⟨by omega, (s_pn y f m i).2.2, on + 1, s_to.of e, by omega, by omega, PtM51, (PoM51.trans ((congrArg (fun e => o_i e 0) (Fr.at GM14 kd_267 (by decide))).trans on1))⟩)
          · skip
            refine PW.rZ q_38_130 rfl (by omega) (by omega) (by decide) (by decide) ?_
            have pb := s_pn_b y f m i
            have e : s_st y f m (i, false, st, on) = ((s_pn y f m i).1, (s_pn y f m i).2.1, (0, false, [], 0)) := by show s_op y f m i st on = _; unfold s_op; rw [if_neg (not_not_intro PbM1), if_neg (by omega), if_neg (by omega), if_neg (by omega), if_pos PbM51]
            exact hK x52 M51 IM51 FM51 (by omega) (by omega) (Or.inr ⟨by omega, s_bad.of e (by omega) (by omega) (by omega) (by omega)⟩)
  · skip
    refine PW.jz_ne q_38_4 rfl (fun h53 => False.elim (by omega)) (fun h53 => ?_)
    refine PW.aload_n q_38_7 rfl ?_
    refine PW.cI q_38_8 (by decide) fun c54 hc54 => ?_
    refine PW.cV (as := [_]) (rest := []) q_38_9 t_mv_38_76 kd_1 I.1 (by decide) rfl (by decide) rfl rfl (Nat.le_of_ble_eq_true rfl) (Nat.le_of_ble_eq_true rfl) (by decide) (by decide) ?_
    refine PW.up (by decide) (c_X7_fail_vk (V) (hV) G _ M I c54 y (i) hp_0 fun x56 M55 IM55 GM55 hx56 kx56 PM55 => ?_)
    have FM55 := Fr.trans F GM55 (rfl)
    rcases PM55 with ⟨PfM55, PgM55⟩
    refine PW.rZ q_38_12 rfl (by omega) (by omega) (by decide) (by decide) ?_
    have e : s_st y f m (i, false, st, on) = (1, kP y i, (0, false, [], 0)) := by show s_op y f m i st on = _; unfold s_op; rw [if_pos PnM1]
    exact hK x56 M55 IM55 FM55 (by omega) (by omega) (Or.inr ⟨by omega, s_bad.of e (by omega) (by omega) (by omega) (by omega)⟩)
theorem c_X4_readAll_vk6 (V : pM → Prop) (hV : Stab V) (G : pG) (Kr : pK) (M : pM) (I : Iv V M) (a3 : Int32) (hl_a3 : 6 ≤ a3.toInt) (hh_a3 : a3.toInt ≤ 6) (y : k_X) (i : Nat) (f : Nat → Int) (m : Int) (st : List Bool) (on : Int) (hp_0 : k_at y M i) (hp_1 : s_nm M f m) (hp_2 : o_i (M 267) 0 = on) (hp_3 : st.length + 1 = 6) (hp_4 : 0 ≤ on) (hp_5 : s_dn st = st) (hK : ∀ (x : Int32) (M1 : pM), Iv V M1 → Fr [1, 14, 15, 16, 17] M M1 → 0 ≤ x.toInt → x.toInt ≤ 1 → (s_lq y f m i st on x M1) → Kr.1 (some (.int x)) 311 M1) : PW G false 13 37 (p_mc 37) (p_msl 37) Kr 0 (lv_args 0 [.ref 267, .ref 1, .ref 4, .int a3]) [] 311 M 0 0 := by
  have F : Fr [1, 14, 15, 16, 17] M M := Fr.refl
  obtain ⟨w267_0, fw267_0, hw267_0, kw267_0⟩ := gF_14_0.int kd_267 I.1 (by decide)
  have iw267_0 := o_i_of fw267_0
  have jw267_0 : w267_0.toInt = on := by have w := hp_2; omega
  refine PW.aload_n q_37_0 rfl ?_
  refine PW.aload_n q_37_1 rfl ?_
  refine PW.aload_n q_37_2 rfl ?_
  refine PW.iload_n q_37_3 rfl ?_
  refine PW.cV (as := [_, _, _]) (rest := []) q_37_4 t_mv_37_66 kd_267 I.1 (by decide) rfl (by decide) rfl rfl (Nat.le_of_ble_eq_true rfl) (Nat.le_of_ble_eq_true rfl) (by decide) (by decide) ?_
  refine PW.up (by decide) (c_X4_readOne_vk6 (V) (hV) G _ M I a3 (by omega) (by omega) y (i) f m st on hp_0 hp_1 hp_2 hp_3 (by omega) fun x2 M1 IM1 GM1 hx2 kx2 PM1 => ?_)
  have FM1 := Fr.trans F GM1 (rfl)
  rcases PM1 with ⟨PaM1, jM1, oM1, PkM1⟩ | ⟨PaM1, PkM1⟩
  · skip
    have koM1 := PkM1.2
    refine PW.istore q_37_7 (by decide) ?_
    refine PW.cI q_37_9 (by decide) fun c3 hc3 => ?_
    refine PW.istore q_37_10 (by decide) ?_
    have L37_12_4 : ∀ (n : Nat) (ML37_12_4 : pM) (v5 v6 : Int32), Iv (V) ML37_12_4 → Fr [1, 14, 15, 16, 17] M ML37_12_4 → 0 ≤ v5.toInt → v5.toInt ≤ 1 → 0 ≤ v6.toInt → v6.toInt ≤ 20 → s_li y f m i st on 18 ML37_12_4 v5.toInt v6.toInt → ML37_12_4 4 = M 4 → ML37_12_4 5 = M 5 → (20 - v6.toInt).toNat = n → PW G false 13 37 (p_mc 37) (p_msl 37) Kr 12 [(0, .ref 267), (1, .ref 1), (2, .ref 4), (3, .int a3), (4, .int v5), (5, .int v6)] [] 311 ML37_12_4 0 0 := by
      intro n
      induction n using Nat.strongRecOn with
      | ind n ih_L37_12_4 =>
      intro ML37_12_4 v5 v6 IML37_12_4 FML37_12_4 hbL37_12_40 hbL37_12_41 hbL37_12_42 hbL37_12_43 hbL37_12_44 hbL37_12_45 hbL37_12_46 hmL37_12_4
      refine PW.iload q_37_12 rfl ?_
      refine PW.cB q_37_14 (by decide) fun c7 hc7 => ?_
      refine PW.jc_ge q_37_16 rfl (fun h8 => ?_) (fun h8 => ?_)
      · skip
        refine PW.iload q_37_69 rfl ?_
        refine PW.rZ q_37_71 rfl (by omega) (by omega) (by decide) (by decide) ?_
        exact hK v5 ML37_12_4 IML37_12_4 FML37_12_4 (by omega) (by omega) (Or.inr ⟨(s_li.full hbL37_12_44 (by omega) hp_4).1, (s_li.full hbL37_12_44 (by omega) hp_4).2⟩)
      · skip
        refine PW.iload q_37_19 rfl ?_
        refine PW.jz_eq q_37_21 rfl (fun h9 => ?_) (fun h9 => ?_)
        · skip
          refine PW.iload q_37_69 rfl ?_
          refine PW.rZ q_37_71 rfl (by omega) (by omega) (by decide) (by decide) ?_
          exact hK v5 ML37_12_4 IML37_12_4 FML37_12_4 (by omega) (by omega) (Or.inr ⟨by omega, (s_li.no hbL37_12_44 (by omega))⟩)
        · skip
          obtain ⟨j0, o0, K0, N0⟩ : ∃ (j0 : Nat) (o0 : Int), s_ok y f m (i, false, st, on) st (on + v6.toInt) ML37_12_4 j0 o0 ∧ (18 = 17 → ¬ (kK y j0 = 2 ∧ s_wn y j0 = 18)) := by rcases hbL37_12_44 with q | q; (· exact q.2); (· omega)
          have T0 := K0.1
          have B0 := K0.2.1
          have B1 := K0.2.2.1
          refine PW.aload_n q_37_24 rfl ?_
          refine PW.gets q_37_25 t_st_37_69 ?_
          refine PW.cV (as := [_]) (rest := []) q_37_28 t_mv_37_58 kd_1 IML37_12_4.1 (by decide) rfl (by decide) rfl rfl (Nat.le_of_ble_eq_true rfl) (Nat.le_of_ble_eq_true rfl) (by decide) (by decide) ?_
          refine PW.up (by decide) (c_X7_takes_vk (V) (hV) G _ ML37_12_4 IML37_12_4 18 (by decide) y (j0) K0.2.2.2.1 fun x11 M10 IM10 GM10 hx11 kx11 PM10 => ?_)
          have FM10 := Fr.trans FML37_12_4 GM10 (rfl)
          rcases PM10 with ⟨PaM10, PbM10, PcM10, PtM10⟩ | ⟨PaM10, PnM10, PtM10⟩
          · skip
            have swM10 := (s_wn_iff (x := y) (i := j0) (show 18 < 28 by decide)).mp PcM10
            refine PW.jz_eq q_37_31 rfl (fun h12 => False.elim (by omega)) (fun h12 => ?_)
            have e0 : s_st y f m (j0, true, st, o0) = (0, 0, (j0 + 1, false, st, o0)) := by show s_bh y j0 st o0 = _; unfold s_bh; rw [if_pos ⟨PbM10, by omega⟩]
            refine PW.aload_n q_37_34 rfl ?_
            refine PW.aload_n q_37_35 rfl ?_
            refine PW.aload_n q_37_36 rfl ?_
            refine PW.iload_n q_37_37 rfl ?_
            refine PW.cV (as := [_, _, _]) (rest := []) q_37_38 t_mv_37_66 kd_267 IM10.1 (by decide) rfl (by decide) rfl rfl (Nat.le_of_ble_eq_true rfl) (Nat.le_of_ble_eq_true rfl) (by decide) (by decide) ?_
            refine PW.up (by decide) (c_X4_readOne_vk6 (V) (hV) G _ M10 IM10 a3 (by omega) (by omega) y (j0 + 1) f m st o0 PtM10 ((hp_1.cg hbL37_12_45 hbL37_12_46).cg (Fr.at GM10 kd_4 (by decide)) (Fr.at GM10 kd_5 (by decide))) ((congrArg (fun e => o_i e 0) (Fr.at GM10 kd_267 (by decide))).trans K0.2.2.2.2) hp_3 (by omega) fun x14 M13 IM13 GM13 hx14 kx14 PM13 => ?_)
            have FM13 := Fr.trans FM10 GM13 (rfl)
            rcases PM13 with ⟨PaM13, jM13, oM13, PkM13⟩ | ⟨PaM13, PkM13⟩
            · skip
              have koM13 := PkM13.2
              refine PW.jz_eq q_37_41 rfl (fun h15 => False.elim (by omega)) (fun h15 => ?_)
              refine PW.aload_n q_37_44 rfl ?_
              refine PW.gets q_37_45 t_st_37_69 ?_
              refine PW.cI q_37_48 (by decide) fun c16 hc16 => ?_
              refine PW.cI q_37_49 (by decide) fun c17 hc17 => ?_
              refine PW.cV (as := [_, _, _]) (rest := []) q_37_50 t_mv_37_62 kd_267 IM13.1 (by decide) rfl (by decide) rfl rfl (Nat.le_of_ble_eq_true rfl) (Nat.le_of_ble_eq_true rfl) (by decide) (by decide) ?_
              refine PW.up (by decide) (c_X4_add_vk (V) (hV) G _ M13 IM13 18 (by decide) c16 c17 (by omega) (by omega) fun x19 M18 IM18 GM18 hx19 kx19 PM18 => ?_)
              have FM18 := Fr.trans FM13 GM18 (rfl)
              have PoM18 := PM18
              refine PW.jz_eq q_37_53 rfl (fun h20 => False.elim (by omega)) (fun h20 => ?_)
              refine PW.cI q_37_56 (by decide) fun c21 hc21 => ?_
              refine PW.goto q_37_57 rfl ?_
              refine PW.istore q_37_61 (by decide) ?_
              refine PW.incN q_37_63 rfl (by decide) (by decide) (by omega) (by omega) fun x22 hx22 => ?_
              refine PW.goto q_37_66 rfl ?_
              refine PW.lvS (lk1 rfl (lk1 rfl (lk1 rfl (lk1 rfl (lk1 rfl (lk1 rfl lk0)))))) (ih_L37_12_4 _ ?_ M18 c21 x22 IM18 FM18 (by omega) (by omega) (by omega) (by omega) (Or.inl ⟨by omega, jM13, oM13, ((s_ok.next (c := x22.toInt) (by rw [hp_5] at PkM13; exact PkM13) (T0.trans (s_to.of e0)) (by have := K0.2.1; omega)).cg (Fr.at GM18 kd_1 (by decide)) (Fr.at GM18 kd_2 (by decide)) PoM18), (fun h => absurd h (by decide))⟩) (((Fr.at GM18 kd_4 (by decide)).trans ((Fr.at GM13 kd_4 (by decide)).trans (Fr.at GM10 kd_4 (by decide)))).trans hbL37_12_45) (((Fr.at GM18 kd_5 (by decide)).trans ((Fr.at GM13 kd_5 (by decide)).trans (Fr.at GM10 kd_5 (by decide)))).trans hbL37_12_46) rfl)
              omega
            · skip
              refine PW.jz_eq q_37_41 rfl (fun h23 => ?_) (fun h23 => False.elim (by omega))
              refine PW.cI q_37_60 (by decide) fun c24 hc24 => ?_
              refine PW.istore q_37_61 (by decide) ?_
              refine PW.incN q_37_63 rfl (by decide) (by decide) (by omega) (by omega) fun x25 hx25 => ?_
              refine PW.goto q_37_66 rfl ?_
              refine PW.lvS (lk1 rfl (lk1 rfl (lk1 rfl (lk1 rfl (lk1 rfl (lk1 rfl lk0)))))) (ih_L37_12_4 _ ?_ M13 c24 x25 IM13 FM13 (by omega) (by omega) (by omega) (by omega) (Or.inr ⟨by omega, ((s_bad.to PkM13 (T0.trans (s_to.of e0))).cg rfl)⟩) (((Fr.at GM13 kd_4 (by decide)).trans (Fr.at GM10 kd_4 (by decide))).trans hbL37_12_45) (((Fr.at GM13 kd_5 (by decide)).trans (Fr.at GM10 kd_5 (by decide))).trans hbL37_12_46) rfl)
              omega
          · skip
            have snM10 : kK y (j0) = 2 → s_wn y (j0) ≠ 18 := fun h q => PnM10 ⟨h, (s_wn_iff (show 18 < 28 by decide)).mpr q⟩
            refine PW.jz_eq q_37_31 rfl (fun h26 => ?_) (fun h26 => False.elim (by omega))
            refine PW.iload q_37_69 rfl ?_
            refine PW.rZ q_37_71 rfl (by omega) (by omega) (by decide) (by decide) ?_
            exact hK v5 M10 IM10 FM10 (by omega) (by omega) (Or.inl ⟨by omega, j0, o0, ⟨T0, by omega, B1, PtM10, ((congrArg (fun e => o_i e 0) (Fr.at GM10 kd_267 (by decide))).trans K0.2.2.2.2)⟩, (fun h => snM10 h.1 h.2)⟩)
    exact PW.lvS (lk1 rfl (lk1 rfl (lk1 rfl (lk1 rfl (lk1 rfl (lk1 rfl lk0)))))) (L37_12_4 _ M1 x2 c3 IM1 FM1 (by omega) (by omega) (by omega) (by omega) (Or.inl ⟨by omega, jM1, oM1, (s_ok.mono (by rw [hp_5] at PkM1; exact PkM1) (by omega)), (fun h => absurd h (by decide))⟩) (Fr.at GM1 kd_4 (by decide)) (Fr.at GM1 kd_5 (by decide)) rfl)
  · skip
    refine PW.istore q_37_7 (by decide) ?_
    refine PW.cI q_37_9 (by decide) fun c27 hc27 => ?_
    refine PW.istore q_37_10 (by decide) ?_
    have L37_12_28 : ∀ (n : Nat) (ML37_12_28 : pM) (v29 v30 : Int32), Iv (V) ML37_12_28 → Fr [1, 14, 15, 16, 17] M ML37_12_28 → 0 ≤ v29.toInt → v29.toInt ≤ 1 → 0 ≤ v30.toInt → v30.toInt ≤ 20 → s_li y f m i st on 18 ML37_12_28 v29.toInt v30.toInt → ML37_12_28 4 = M 4 → ML37_12_28 5 = M 5 → (20 - v30.toInt).toNat = n → PW G false 13 37 (p_mc 37) (p_msl 37) Kr 12 [(0, .ref 267), (1, .ref 1), (2, .ref 4), (3, .int a3), (4, .int v29), (5, .int v30)] [] 311 ML37_12_28 0 0 := by
      intro n
      induction n using Nat.strongRecOn with
      | ind n ih_L37_12_28 =>
      intro ML37_12_28 v29 v30 IML37_12_28 FML37_12_28 hbL37_12_280 hbL37_12_281 hbL37_12_282 hbL37_12_283 hbL37_12_284 hbL37_12_285 hbL37_12_286 hmL37_12_28
      refine PW.iload q_37_12 rfl ?_
      refine PW.cB q_37_14 (by decide) fun c31 hc31 => ?_
      refine PW.jc_ge q_37_16 rfl (fun h32 => ?_) (fun h32 => ?_)
      · skip
        refine PW.iload q_37_69 rfl ?_
        refine PW.rZ q_37_71 rfl (by omega) (by omega) (by decide) (by decide) ?_
        exact hK v29 ML37_12_28 IML37_12_28 FML37_12_28 (by omega) (by omega) (Or.inr ⟨(s_li.full hbL37_12_284 (by omega) hp_4).1, (s_li.full hbL37_12_284 (by omega) hp_4).2⟩)
      · skip
        refine PW.iload q_37_19 rfl ?_
        refine PW.jz_eq q_37_21 rfl (fun h33 => ?_) (fun h33 => ?_)
        · skip
          refine PW.iload q_37_69 rfl ?_
          refine PW.rZ q_37_71 rfl (by omega) (by omega) (by decide) (by decide) ?_
          exact hK v29 ML37_12_28 IML37_12_28 FML37_12_28 (by omega) (by omega) (Or.inr ⟨by omega, (s_li.no hbL37_12_284 (by omega))⟩)
        · skip
          obtain ⟨j0, o0, K0, N0⟩ : ∃ (j0 : Nat) (o0 : Int), s_ok y f m (i, false, st, on) st (on + v30.toInt) ML37_12_28 j0 o0 ∧ (18 = 17 → ¬ (kK y j0 = 2 ∧ s_wn y j0 = 18)) := by rcases hbL37_12_284 with q | q; (· exact q.2); (· omega)
          have T0 := K0.1
          have B0 := K0.2.1
          have B1 := K0.2.2.1
          refine PW.aload_n q_37_24 rfl ?_
          refine PW.gets q_37_25 t_st_37_69 ?_
          refine PW.cV (as := [_]) (rest := []) q_37_28 t_mv_37_58 kd_1 IML37_12_28.1 (by decide) rfl (by decide) rfl rfl (Nat.le_of_ble_eq_true rfl) (Nat.le_of_ble_eq_true rfl) (by decide) (by decide) ?_
          refine PW.up (by decide) (c_X7_takes_vk (V) (hV) G _ ML37_12_28 IML37_12_28 18 (by decide) y (j0) K0.2.2.2.1 fun x35 M34 IM34 GM34 hx35 kx35 PM34 => ?_)
          have FM34 := Fr.trans FML37_12_28 GM34 (rfl)
          rcases PM34 with ⟨PaM34, PbM34, PcM34, PtM34⟩ | ⟨PaM34, PnM34, PtM34⟩
          · skip
            have swM34 := (s_wn_iff (x := y) (i := j0) (show 18 < 28 by decide)).mp PcM34
            refine PW.jz_eq q_37_31 rfl (fun h36 => False.elim (by omega)) (fun h36 => ?_)
            have e0 : s_st y f m (j0, true, st, o0) = (0, 0, (j0 + 1, false, st, o0)) := by show s_bh y j0 st o0 = _; unfold s_bh; rw [if_pos ⟨PbM34, by omega⟩]
            refine PW.aload_n q_37_34 rfl ?_
            refine PW.aload_n q_37_35 rfl ?_
            refine PW.aload_n q_37_36 rfl ?_
            refine PW.iload_n q_37_37 rfl ?_
            refine PW.cV (as := [_, _, _]) (rest := []) q_37_38 t_mv_37_66 kd_267 IM34.1 (by decide) rfl (by decide) rfl rfl (Nat.le_of_ble_eq_true rfl) (Nat.le_of_ble_eq_true rfl) (by decide) (by decide) ?_
            refine PW.up (by decide) (c_X4_readOne_vk6 (V) (hV) G _ M34 IM34 a3 (by omega) (by omega) y (j0 + 1) f m st o0 PtM34 ((hp_1.cg hbL37_12_285 hbL37_12_286).cg (Fr.at GM34 kd_4 (by decide)) (Fr.at GM34 kd_5 (by decide))) ((congrArg (fun e => o_i e 0) (Fr.at GM34 kd_267 (by decide))).trans K0.2.2.2.2) hp_3 (by omega) fun x38 M37 IM37 GM37 hx38 kx38 PM37 => ?_)
            have FM37 := Fr.trans FM34 GM37 (rfl)
            rcases PM37 with ⟨PaM37, jM37, oM37, PkM37⟩ | ⟨PaM37, PkM37⟩
            · skip
              have koM37 := PkM37.2
              refine PW.jz_eq q_37_41 rfl (fun h39 => False.elim (by omega)) (fun h39 => ?_)
              refine PW.aload_n q_37_44 rfl ?_
              refine PW.gets q_37_45 t_st_37_69 ?_
              refine PW.cI q_37_48 (by decide) fun c40 hc40 => ?_
              refine PW.cI q_37_49 (by decide) fun c41 hc41 => ?_
              refine PW.cV (as := [_, _, _]) (rest := []) q_37_50 t_mv_37_62 kd_267 IM37.1 (by decide) rfl (by decide) rfl rfl (Nat.le_of_ble_eq_true rfl) (Nat.le_of_ble_eq_true rfl) (by decide) (by decide) ?_
              refine PW.up (by decide) (c_X4_add_vk (V) (hV) G _ M37 IM37 18 (by decide) c40 c41 (by omega) (by omega) fun x43 M42 IM42 GM42 hx43 kx43 PM42 => ?_)
              have FM42 := Fr.trans FM37 GM42 (rfl)
              have PoM42 := PM42
              refine PW.jz_eq q_37_53 rfl (fun h44 => False.elim (by omega)) (fun h44 => ?_)
              refine PW.cI q_37_56 (by decide) fun c45 hc45 => ?_
              refine PW.goto q_37_57 rfl ?_
              refine PW.istore q_37_61 (by decide) ?_
              refine PW.incN q_37_63 rfl (by decide) (by decide) (by omega) (by omega) fun x46 hx46 => ?_
              refine PW.goto q_37_66 rfl ?_
              refine PW.lvS (lk1 rfl (lk1 rfl (lk1 rfl (lk1 rfl (lk1 rfl (lk1 rfl lk0)))))) (ih_L37_12_28 _ ?_ M42 c45 x46 IM42 FM42 (by omega) (by omega) (by omega) (by omega) (Or.inl ⟨by omega, jM37, oM37, ((s_ok.next (c := x46.toInt) (by rw [hp_5] at PkM37; exact PkM37) (T0.trans (s_to.of e0)) (by have := K0.2.1; omega)).cg (Fr.at GM42 kd_1 (by decide)) (Fr.at GM42 kd_2 (by decide)) PoM42), (fun h => absurd h (by decide))⟩) (((Fr.at GM42 kd_4 (by decide)).trans ((Fr.at GM37 kd_4 (by decide)).trans (Fr.at GM34 kd_4 (by decide)))).trans hbL37_12_285) (((Fr.at GM42 kd_5 (by decide)).trans ((Fr.at GM37 kd_5 (by decide)).trans (Fr.at GM34 kd_5 (by decide)))).trans hbL37_12_286) rfl)
              omega
            · skip
              refine PW.jz_eq q_37_41 rfl (fun h47 => ?_) (fun h47 => False.elim (by omega))
              refine PW.cI q_37_60 (by decide) fun c48 hc48 => ?_
              refine PW.istore q_37_61 (by decide) ?_
              refine PW.incN q_37_63 rfl (by decide) (by decide) (by omega) (by omega) fun x49 hx49 => ?_
              refine PW.goto q_37_66 rfl ?_
              refine PW.lvS (lk1 rfl (lk1 rfl (lk1 rfl (lk1 rfl (lk1 rfl (lk1 rfl lk0)))))) (ih_L37_12_28 _ ?_ M37 c48 x49 IM37 FM37 (by omega) (by omega) (by omega) (by omega) (Or.inr ⟨by omega, ((s_bad.to PkM37 (T0.trans (s_to.of e0))).cg rfl)⟩) (((Fr.at GM37 kd_4 (by decide)).trans (Fr.at GM34 kd_4 (by decide))).trans hbL37_12_285) (((Fr.at GM37 kd_5 (by decide)).trans (Fr.at GM34 kd_5 (by decide))).trans hbL37_12_286) rfl)
              omega
          · skip
            have snM34 : kK y (j0) = 2 → s_wn y (j0) ≠ 18 := fun h q => PnM34 ⟨h, (s_wn_iff (show 18 < 28 by decide)).mpr q⟩
            refine PW.jz_eq q_37_31 rfl (fun h50 => ?_) (fun h50 => False.elim (by omega))
            refine PW.iload q_37_69 rfl ?_
            refine PW.rZ q_37_71 rfl (by omega) (by omega) (by decide) (by decide) ?_
            exact hK v29 M34 IM34 FM34 (by omega) (by omega) (Or.inl ⟨by omega, j0, o0, ⟨T0, by omega, B1, PtM34, ((congrArg (fun e => o_i e 0) (Fr.at GM34 kd_267 (by decide))).trans K0.2.2.2.2)⟩, (fun h => snM34 h.1 h.2)⟩)
    exact PW.lvS (lk1 rfl (lk1 rfl (lk1 rfl (lk1 rfl (lk1 rfl (lk1 rfl lk0)))))) (L37_12_28 _ M1 x2 c27 IM1 FM1 (by omega) (by omega) (by omega) (by omega) (Or.inr ⟨by omega, PkM1⟩) (Fr.at GM1 kd_4 (by decide)) (Fr.at GM1 kd_5 (by decide)) rfl)
theorem c_X4_readAny_vk6 (V : pM → Prop) (hV : Stab V) (G : pG) (Kr : pK) (M : pM) (I : Iv V M) (a3 : Int32) (hl_a3 : 6 ≤ a3.toInt) (hh_a3 : a3.toInt ≤ 6) (y : k_X) (i : Nat) (f : Nat → Int) (m : Int) (st : List Bool) (on : Int) (hp_0 : k_at y M i) (hp_1 : s_nm M f m) (hp_2 : o_i (M 267) 0 = on) (hp_3 : st.length + 1 = 6) (hp_4 : 0 ≤ on) (hp_5 : s_dn st = st) (hK : ∀ (x : Int32) (M1 : pM), Iv V M1 → Fr [1, 14, 15, 16, 17] M M1 → 0 ≤ x.toInt → x.toInt ≤ 1 → (s_aq y f m i st on x M1) → Kr.1 (some (.int x)) 311 M1) : PW G false 14 36 (p_mc 36) (p_msl 36) Kr 0 (lv_args 0 [.ref 267, .ref 1, .ref 4, .int a3]) [] 311 M 0 0 := by
  have F : Fr [1, 14, 15, 16, 17] M M := Fr.refl
  obtain ⟨w267_0, fw267_0, hw267_0, kw267_0⟩ := gF_14_0.int kd_267 I.1 (by decide)
  have iw267_0 := o_i_of fw267_0
  have jw267_0 : w267_0.toInt = on := by have w := hp_2; omega
  refine PW.aload_n q_36_0 rfl ?_
  refine PW.aload_n q_36_1 rfl ?_
  refine PW.aload_n q_36_2 rfl ?_
  refine PW.iload_n q_36_3 rfl ?_
  refine PW.cV (as := [_, _, _]) (rest := []) q_36_4 t_mv_36_51 kd_267 I.1 (by decide) rfl (by decide) rfl rfl (Nat.le_of_ble_eq_true rfl) (Nat.le_of_ble_eq_true rfl) (by decide) (by decide) ?_
  refine PW.up (by decide) (c_X4_readAll_vk6 (V) (hV) G _ M I a3 (by omega) (by omega) y (i) f m st on hp_0 hp_1 hp_2 hp_3 (by omega) hp_5 fun x2 M1 IM1 GM1 hx2 kx2 PM1 => ?_)
  have FM1 := Fr.trans F GM1 (rfl)
  rcases PM1 with ⟨PaM1, jM1, oM1, PkM1, Pn2M1⟩ | ⟨PaM1, PkM1⟩
  · skip
    have koM1 := PkM1.2
    refine PW.istore q_36_7 (by decide) ?_
    refine PW.cI q_36_9 (by decide) fun c3 hc3 => ?_
    refine PW.istore q_36_10 (by decide) ?_
    have L36_12_4 : ∀ (n : Nat) (ML36_12_4 : pM) (v5 v6 : Int32), Iv (V) ML36_12_4 → Fr [1, 14, 15, 16, 17] M ML36_12_4 → 0 ≤ v5.toInt → v5.toInt ≤ 1 → 0 ≤ v6.toInt → v6.toInt ≤ 20 → s_li y f m i st on 17 ML36_12_4 v5.toInt v6.toInt → ML36_12_4 4 = M 4 → ML36_12_4 5 = M 5 → (20 - v6.toInt).toNat = n → PW G false 14 36 (p_mc 36) (p_msl 36) Kr 12 [(0, .ref 267), (1, .ref 1), (2, .ref 4), (3, .int a3), (4, .int v5), (5, .int v6)] [] 311 ML36_12_4 0 0 := by
      intro n
      induction n using Nat.strongRecOn with
      | ind n ih_L36_12_4 =>
      intro ML36_12_4 v5 v6 IML36_12_4 FML36_12_4 hbL36_12_40 hbL36_12_41 hbL36_12_42 hbL36_12_43 hbL36_12_44 hbL36_12_45 hbL36_12_46 hmL36_12_4
      refine PW.iload q_36_12 rfl ?_
      refine PW.cB q_36_14 (by decide) fun c7 hc7 => ?_
      refine PW.jc_ge q_36_16 rfl (fun h8 => ?_) (fun h8 => ?_)
      · skip
        refine PW.iload q_36_69 rfl ?_
        refine PW.rZ q_36_71 rfl (by omega) (by omega) (by decide) (by decide) ?_
        exact hK v5 ML36_12_4 IML36_12_4 FML36_12_4 (by omega) (by omega) (Or.inr ⟨(s_li.full hbL36_12_44 (by omega) hp_4).1, (s_li.full hbL36_12_44 (by omega) hp_4).2⟩)
      · skip
        refine PW.iload q_36_19 rfl ?_
        refine PW.jz_eq q_36_21 rfl (fun h9 => ?_) (fun h9 => ?_)
        · skip
          refine PW.iload q_36_69 rfl ?_
          refine PW.rZ q_36_71 rfl (by omega) (by omega) (by decide) (by decide) ?_
          exact hK v5 ML36_12_4 IML36_12_4 FML36_12_4 (by omega) (by omega) (Or.inr ⟨by omega, (s_li.no hbL36_12_44 (by omega))⟩)
        · skip
          obtain ⟨j0, o0, K0, N0⟩ : ∃ (j0 : Nat) (o0 : Int), s_ok y f m (i, false, st, on) st (on + v6.toInt) ML36_12_4 j0 o0 ∧ (17 = 17 → ¬ (kK y j0 = 2 ∧ s_wn y j0 = 18)) := by rcases hbL36_12_44 with q | q; (· exact q.2); (· omega)
          have T0 := K0.1
          have B0 := K0.2.1
          have B1 := K0.2.2.1
          refine PW.aload_n q_36_24 rfl ?_
          refine PW.gets q_36_25 t_st_36_54 ?_
          refine PW.cV (as := [_]) (rest := []) q_36_28 t_mv_36_58 kd_1 IML36_12_4.1 (by decide) rfl (by decide) rfl rfl (Nat.le_of_ble_eq_true rfl) (Nat.le_of_ble_eq_true rfl) (by decide) (by decide) ?_
          refine PW.up (by decide) (c_X7_takes_vk (V) (hV) G _ ML36_12_4 IML36_12_4 17 (by decide) y (j0) K0.2.2.2.1 fun x11 M10 IM10 GM10 hx11 kx11 PM10 => ?_)
          have FM10 := Fr.trans FML36_12_4 GM10 (rfl)
          rcases PM10 with ⟨PaM10, PbM10, PcM10, PtM10⟩ | ⟨PaM10, PnM10, PtM10⟩
          · skip
            have swM10 := (s_wn_iff (x := y) (i := j0) (show 17 < 28 by decide)).mp PcM10
            refine PW.jz_eq q_36_31 rfl (fun h12 => False.elim (by omega)) (fun h12 => ?_)
            have e0 : s_st y f m (j0, true, st, o0) = (0, 0, (j0 + 1, false, st, o0)) := by show s_bh y j0 st o0 = _; unfold s_bh; rw [if_pos ⟨PbM10, by omega⟩]
            refine PW.aload_n q_36_34 rfl ?_
            refine PW.aload_n q_36_35 rfl ?_
            refine PW.aload_n q_36_36 rfl ?_
            refine PW.iload_n q_36_37 rfl ?_
            refine PW.cV (as := [_, _, _]) (rest := []) q_36_38 t_mv_36_51 kd_267 IM10.1 (by decide) rfl (by decide) rfl rfl (Nat.le_of_ble_eq_true rfl) (Nat.le_of_ble_eq_true rfl) (by decide) (by decide) ?_
            refine PW.up (by decide) (c_X4_readAll_vk6 (V) (hV) G _ M10 IM10 a3 (by omega) (by omega) y (j0 + 1) f m st o0 PtM10 ((hp_1.cg hbL36_12_45 hbL36_12_46).cg (Fr.at GM10 kd_4 (by decide)) (Fr.at GM10 kd_5 (by decide))) ((congrArg (fun e => o_i e 0) (Fr.at GM10 kd_267 (by decide))).trans K0.2.2.2.2) hp_3 (by omega) hp_5 fun x14 M13 IM13 GM13 hx14 kx14 PM13 => ?_)
            have FM13 := Fr.trans FM10 GM13 (rfl)
            rcases PM13 with ⟨PaM13, jM13, oM13, PkM13, Pn2M13⟩ | ⟨PaM13, PkM13⟩
            · skip
              have koM13 := PkM13.2
              refine PW.jz_eq q_36_41 rfl (fun h15 => False.elim (by omega)) (fun h15 => ?_)
              refine PW.aload_n q_36_44 rfl ?_
              refine PW.gets q_36_45 t_st_36_54 ?_
              refine PW.cI q_36_48 (by decide) fun c16 hc16 => ?_
              refine PW.cI q_36_49 (by decide) fun c17 hc17 => ?_
              refine PW.cV (as := [_, _, _]) (rest := []) q_36_50 t_mv_36_62 kd_267 IM13.1 (by decide) rfl (by decide) rfl rfl (Nat.le_of_ble_eq_true rfl) (Nat.le_of_ble_eq_true rfl) (by decide) (by decide) ?_
              refine PW.up (by decide) (c_X4_add_vk (V) (hV) G _ M13 IM13 17 (by decide) c16 c17 (by omega) (by omega) fun x19 M18 IM18 GM18 hx19 kx19 PM18 => ?_)
              have FM18 := Fr.trans FM13 GM18 (rfl)
              have PoM18 := PM18
              refine PW.jz_eq q_36_53 rfl (fun h20 => False.elim (by omega)) (fun h20 => ?_)
              refine PW.cI q_36_56 (by decide) fun c21 hc21 => ?_
              refine PW.goto q_36_57 rfl ?_
              refine PW.istore q_36_61 (by decide) ?_
              refine PW.incN q_36_63 rfl (by decide) (by decide) (by omega) (by omega) fun x22 hx22 => ?_
              refine PW.goto q_36_66 rfl ?_
              refine PW.lvS (lk1 rfl (lk1 rfl (lk1 rfl (lk1 rfl (lk1 rfl (lk1 rfl lk0)))))) (ih_L36_12_4 _ ?_ M18 c21 x22 IM18 FM18 (by omega) (by omega) (by omega) (by omega) (Or.inl ⟨by omega, jM13, oM13, ((s_ok.next (c := x22.toInt) PkM13 (T0.trans (s_to.of e0)) (by have := K0.2.1; omega)).cg (Fr.at GM18 kd_1 (by decide)) (Fr.at GM18 kd_2 (by decide)) PoM18), (fun _ => Pn2M13)⟩) (((Fr.at GM18 kd_4 (by decide)).trans ((Fr.at GM13 kd_4 (by decide)).trans (Fr.at GM10 kd_4 (by decide)))).trans hbL36_12_45) (((Fr.at GM18 kd_5 (by decide)).trans ((Fr.at GM13 kd_5 (by decide)).trans (Fr.at GM10 kd_5 (by decide)))).trans hbL36_12_46) rfl)
              omega
            · skip
              refine PW.jz_eq q_36_41 rfl (fun h23 => ?_) (fun h23 => False.elim (by omega))
              refine PW.cI q_36_60 (by decide) fun c24 hc24 => ?_
              refine PW.istore q_36_61 (by decide) ?_
              refine PW.incN q_36_63 rfl (by decide) (by decide) (by omega) (by omega) fun x25 hx25 => ?_
              refine PW.goto q_36_66 rfl ?_
              refine PW.lvS (lk1 rfl (lk1 rfl (lk1 rfl (lk1 rfl (lk1 rfl (lk1 rfl lk0)))))) (ih_L36_12_4 _ ?_ M13 c24 x25 IM13 FM13 (by omega) (by omega) (by omega) (by omega) (Or.inr ⟨by omega, ((s_bad.to PkM13 (T0.trans (s_to.of e0))).cg rfl)⟩) (((Fr.at GM13 kd_4 (by decide)).trans (Fr.at GM10 kd_4 (by decide))).trans hbL36_12_45) (((Fr.at GM13 kd_5 (by decide)).trans (Fr.at GM10 kd_5 (by decide))).trans hbL36_12_46) rfl)
              omega
          · skip
            have snM10 : kK y (j0) = 2 → s_wn y (j0) ≠ 17 := fun h q => PnM10 ⟨h, (s_wn_iff (show 17 < 28 by decide)).mpr q⟩
            refine PW.jz_eq q_36_31 rfl (fun h26 => ?_) (fun h26 => False.elim (by omega))
            refine PW.iload q_36_69 rfl ?_
            refine PW.rZ q_36_71 rfl (by omega) (by omega) (by decide) (by decide) ?_
            exact hK v5 M10 IM10 FM10 (by omega) (by omega) (Or.inl ⟨by omega, j0, o0, ⟨T0, by omega, B1, PtM10, ((congrArg (fun e => o_i e 0) (Fr.at GM10 kd_267 (by decide))).trans K0.2.2.2.2)⟩, (fun h => by rcases h.2 with q | q; (· exact N0 rfl ⟨h.1, q⟩); (· exact snM10 h.1 q))⟩)
    exact PW.lvS (lk1 rfl (lk1 rfl (lk1 rfl (lk1 rfl (lk1 rfl (lk1 rfl lk0)))))) (L36_12_4 _ M1 x2 c3 IM1 FM1 (by omega) (by omega) (by omega) (by omega) (Or.inl ⟨by omega, jM1, oM1, (s_ok.mono PkM1 (by omega)), (fun _ => Pn2M1)⟩) (Fr.at GM1 kd_4 (by decide)) (Fr.at GM1 kd_5 (by decide)) rfl)
  · skip
    refine PW.istore q_36_7 (by decide) ?_
    refine PW.cI q_36_9 (by decide) fun c27 hc27 => ?_
    refine PW.istore q_36_10 (by decide) ?_
    have L36_12_28 : ∀ (n : Nat) (ML36_12_28 : pM) (v29 v30 : Int32), Iv (V) ML36_12_28 → Fr [1, 14, 15, 16, 17] M ML36_12_28 → 0 ≤ v29.toInt → v29.toInt ≤ 1 → 0 ≤ v30.toInt → v30.toInt ≤ 20 → s_li y f m i st on 17 ML36_12_28 v29.toInt v30.toInt → ML36_12_28 4 = M 4 → ML36_12_28 5 = M 5 → (20 - v30.toInt).toNat = n → PW G false 14 36 (p_mc 36) (p_msl 36) Kr 12 [(0, .ref 267), (1, .ref 1), (2, .ref 4), (3, .int a3), (4, .int v29), (5, .int v30)] [] 311 ML36_12_28 0 0 := by
      intro n
      induction n using Nat.strongRecOn with
      | ind n ih_L36_12_28 =>
      intro ML36_12_28 v29 v30 IML36_12_28 FML36_12_28 hbL36_12_280 hbL36_12_281 hbL36_12_282 hbL36_12_283 hbL36_12_284 hbL36_12_285 hbL36_12_286 hmL36_12_28
      refine PW.iload q_36_12 rfl ?_
      refine PW.cB q_36_14 (by decide) fun c31 hc31 => ?_
      refine PW.jc_ge q_36_16 rfl (fun h32 => ?_) (fun h32 => ?_)
      · skip
        refine PW.iload q_36_69 rfl ?_
        refine PW.rZ q_36_71 rfl (by omega) (by omega) (by decide) (by decide) ?_
        exact hK v29 ML36_12_28 IML36_12_28 FML36_12_28 (by omega) (by omega) (Or.inr ⟨(s_li.full hbL36_12_284 (by omega) hp_4).1, (s_li.full hbL36_12_284 (by omega) hp_4).2⟩)
      · skip
        refine PW.iload q_36_19 rfl ?_
        refine PW.jz_eq q_36_21 rfl (fun h33 => ?_) (fun h33 => ?_)
        · skip
          refine PW.iload q_36_69 rfl ?_
          refine PW.rZ q_36_71 rfl (by omega) (by omega) (by decide) (by decide) ?_
          exact hK v29 ML36_12_28 IML36_12_28 FML36_12_28 (by omega) (by omega) (Or.inr ⟨by omega, (s_li.no hbL36_12_284 (by omega))⟩)
        · skip
          obtain ⟨j0, o0, K0, N0⟩ : ∃ (j0 : Nat) (o0 : Int), s_ok y f m (i, false, st, on) st (on + v30.toInt) ML36_12_28 j0 o0 ∧ (17 = 17 → ¬ (kK y j0 = 2 ∧ s_wn y j0 = 18)) := by rcases hbL36_12_284 with q | q; (· exact q.2); (· omega)
          have T0 := K0.1
          have B0 := K0.2.1
          have B1 := K0.2.2.1
          refine PW.aload_n q_36_24 rfl ?_
          refine PW.gets q_36_25 t_st_36_54 ?_
          refine PW.cV (as := [_]) (rest := []) q_36_28 t_mv_36_58 kd_1 IML36_12_28.1 (by decide) rfl (by decide) rfl rfl (Nat.le_of_ble_eq_true rfl) (Nat.le_of_ble_eq_true rfl) (by decide) (by decide) ?_
          refine PW.up (by decide) (c_X7_takes_vk (V) (hV) G _ ML36_12_28 IML36_12_28 17 (by decide) y (j0) K0.2.2.2.1 fun x35 M34 IM34 GM34 hx35 kx35 PM34 => ?_)
          have FM34 := Fr.trans FML36_12_28 GM34 (rfl)
          rcases PM34 with ⟨PaM34, PbM34, PcM34, PtM34⟩ | ⟨PaM34, PnM34, PtM34⟩
          · skip
            have swM34 := (s_wn_iff (x := y) (i := j0) (show 17 < 28 by decide)).mp PcM34
            refine PW.jz_eq q_36_31 rfl (fun h36 => False.elim (by omega)) (fun h36 => ?_)
            have e0 : s_st y f m (j0, true, st, o0) = (0, 0, (j0 + 1, false, st, o0)) := by show s_bh y j0 st o0 = _; unfold s_bh; rw [if_pos ⟨PbM34, by omega⟩]
            refine PW.aload_n q_36_34 rfl ?_
            refine PW.aload_n q_36_35 rfl ?_
            refine PW.aload_n q_36_36 rfl ?_
            refine PW.iload_n q_36_37 rfl ?_
            refine PW.cV (as := [_, _, _]) (rest := []) q_36_38 t_mv_36_51 kd_267 IM34.1 (by decide) rfl (by decide) rfl rfl (Nat.le_of_ble_eq_true rfl) (Nat.le_of_ble_eq_true rfl) (by decide) (by decide) ?_
            refine PW.up (by decide) (c_X4_readAll_vk6 (V) (hV) G _ M34 IM34 a3 (by omega) (by omega) y (j0 + 1) f m st o0 PtM34 ((hp_1.cg hbL36_12_285 hbL36_12_286).cg (Fr.at GM34 kd_4 (by decide)) (Fr.at GM34 kd_5 (by decide))) ((congrArg (fun e => o_i e 0) (Fr.at GM34 kd_267 (by decide))).trans K0.2.2.2.2) hp_3 (by omega) hp_5 fun x38 M37 IM37 GM37 hx38 kx38 PM37 => ?_)
            have FM37 := Fr.trans FM34 GM37 (rfl)
            rcases PM37 with ⟨PaM37, jM37, oM37, PkM37, Pn2M37⟩ | ⟨PaM37, PkM37⟩
            · skip
              have koM37 := PkM37.2
              refine PW.jz_eq q_36_41 rfl (fun h39 => False.elim (by omega)) (fun h39 => ?_)
              refine PW.aload_n q_36_44 rfl ?_
              refine PW.gets q_36_45 t_st_36_54 ?_
              refine PW.cI q_36_48 (by decide) fun c40 hc40 => ?_
              refine PW.cI q_36_49 (by decide) fun c41 hc41 => ?_
              refine PW.cV (as := [_, _, _]) (rest := []) q_36_50 t_mv_36_62 kd_267 IM37.1 (by decide) rfl (by decide) rfl rfl (Nat.le_of_ble_eq_true rfl) (Nat.le_of_ble_eq_true rfl) (by decide) (by decide) ?_
              refine PW.up (by decide) (c_X4_add_vk (V) (hV) G _ M37 IM37 17 (by decide) c40 c41 (by omega) (by omega) fun x43 M42 IM42 GM42 hx43 kx43 PM42 => ?_)
              have FM42 := Fr.trans FM37 GM42 (rfl)
              have PoM42 := PM42
              refine PW.jz_eq q_36_53 rfl (fun h44 => False.elim (by omega)) (fun h44 => ?_)
              refine PW.cI q_36_56 (by decide) fun c45 hc45 => ?_
              refine PW.goto q_36_57 rfl ?_
              refine PW.istore q_36_61 (by decide) ?_
              refine PW.incN q_36_63 rfl (by decide) (by decide) (by omega) (by omega) fun x46 hx46 => ?_
              refine PW.goto q_36_66 rfl ?_
              refine PW.lvS (lk1 rfl (lk1 rfl (lk1 rfl (lk1 rfl (lk1 rfl (lk1 rfl lk0)))))) (ih_L36_12_28 _ ?_ M42 c45 x46 IM42 FM42 (by omega) (by omega) (by omega) (by omega) (Or.inl ⟨by omega, jM37, oM37, ((s_ok.next (c := x46.toInt) PkM37 (T0.trans (s_to.of e0)) (by have := K0.2.1; omega)).cg (Fr.at GM42 kd_1 (by decide)) (Fr.at GM42 kd_2 (by decide)) PoM42), (fun _ => Pn2M37)⟩) (((Fr.at GM42 kd_4 (by decide)).trans ((Fr.at GM37 kd_4 (by decide)).trans (Fr.at GM34 kd_4 (by decide)))).trans hbL36_12_285) (((Fr.at GM42 kd_5 (by decide)).trans ((Fr.at GM37 kd_5 (by decide)).trans (Fr.at GM34 kd_5 (by decide)))).trans hbL36_12_286) rfl)
              omega
            · skip
              refine PW.jz_eq q_36_41 rfl (fun h47 => ?_) (fun h47 => False.elim (by omega))
              refine PW.cI q_36_60 (by decide) fun c48 hc48 => ?_
              refine PW.istore q_36_61 (by decide) ?_
              refine PW.incN q_36_63 rfl (by decide) (by decide) (by omega) (by omega) fun x49 hx49 => ?_
              refine PW.goto q_36_66 rfl ?_
              refine PW.lvS (lk1 rfl (lk1 rfl (lk1 rfl (lk1 rfl (lk1 rfl (lk1 rfl lk0)))))) (ih_L36_12_28 _ ?_ M37 c48 x49 IM37 FM37 (by omega) (by omega) (by omega) (by omega) (Or.inr ⟨by omega, ((s_bad.to PkM37 (T0.trans (s_to.of e0))).cg rfl)⟩) (((Fr.at GM37 kd_4 (by decide)).trans (Fr.at GM34 kd_4 (by decide))).trans hbL36_12_285) (((Fr.at GM37 kd_5 (by decide)).trans (Fr.at GM34 kd_5 (by decide))).trans hbL36_12_286) rfl)
              omega
          · skip
            have snM34 : kK y (j0) = 2 → s_wn y (j0) ≠ 17 := fun h q => PnM34 ⟨h, (s_wn_iff (show 17 < 28 by decide)).mpr q⟩
            refine PW.jz_eq q_36_31 rfl (fun h50 => ?_) (fun h50 => False.elim (by omega))
            refine PW.iload q_36_69 rfl ?_
            refine PW.rZ q_36_71 rfl (by omega) (by omega) (by decide) (by decide) ?_
            exact hK v29 M34 IM34 FM34 (by omega) (by omega) (Or.inl ⟨by omega, j0, o0, ⟨T0, by omega, B1, PtM34, ((congrArg (fun e => o_i e 0) (Fr.at GM34 kd_267 (by decide))).trans K0.2.2.2.2)⟩, (fun h => by rcases h.2 with q | q; (· exact N0 rfl ⟨h.1, q⟩); (· exact snM34 h.1 q))⟩)
    exact PW.lvS (lk1 rfl (lk1 rfl (lk1 rfl (lk1 rfl (lk1 rfl (lk1 rfl lk0)))))) (L36_12_28 _ M1 x2 c27 IM1 FM1 (by omega) (by omega) (by omega) (by omega) (Or.inr ⟨by omega, PkM1⟩) (Fr.at GM1 kd_4 (by decide)) (Fr.at GM1 kd_5 (by decide)) rfl)
theorem c_X4_readOne_vk5 (V : pM → Prop) (hV : Stab V) (G : pG) (Kr : pK) (M : pM) (I : Iv V M) (a3 : Int32) (hl_a3 : 5 ≤ a3.toInt) (hh_a3 : a3.toInt ≤ 5) (y : k_X) (i : Nat) (f : Nat → Int) (m : Int) (st : List Bool) (on : Int) (hp_0 : k_at y M i) (hp_1 : s_nm M f m) (hp_2 : o_i (M 267) 0 = on) (hp_3 : st.length + 1 = 5) (hp_4 : 0 ≤ on) (hK : ∀ (x : Int32) (M1 : pM), Iv V M1 → Fr [1, 14, 15, 16, 17] M M1 → 0 ≤ x.toInt → x.toInt ≤ 1 → (s_oq y f m i st on x M1) → Kr.1 (some (.int x)) 311 M1) : PW G false 15 38 (p_mc 38) (p_msl 38) Kr 0 (lv_args 0 [.ref 267, .ref 1, .ref 4, .int a3]) [] 311 M 0 0 := by
  have F : Fr [1, 14, 15, 16, 17] M M := Fr.refl
  obtain ⟨w267_0, fw267_0, hw267_0, kw267_0⟩ := gF_14_0.int kd_267 I.1 (by decide)
  have iw267_0 := o_i_of fw267_0
  have jw267_0 : w267_0.toInt = on := by have w := hp_2; omega
  refine PW.aload_n q_38_0 rfl ?_
  refine PW.callS (as := [_]) (rest := []) q_38_1 t_ms_38_72 (by decide) rfl (Nat.le_of_ble_eq_true rfl) (Nat.le_of_ble_eq_true rfl) (by decide) (by decide) ?_
  refine PW.up (by decide) (c_X4_beginsOne_vk (V) (hV) G _ M I y (i) hp_0 fun x2  hx2 kx2 PM1 => ?_)
  rcases PM1 with ⟨PaM1, PbM1⟩ | ⟨PaM1, PnM1⟩
  · skip
    refine PW.jz_ne q_38_4 rfl (fun h3 => ?_) (fun h3 => False.elim (by omega))
    refine PW.aload_n q_38_13 rfl ?_
    refine PW.gE q_38_14 (Or.inl t_ft_38_27) gF_14_0 kd_267 I.1 (by decide) fw267_0 ?_
    refine PW.cB q_38_17 (by decide) fun c4 hc4 => ?_
    refine PW.jc_ge q_38_19 rfl (fun h5 => ?_) (fun h5 => ?_)
    · skip
      refine PW.aload_n q_38_28 rfl ?_
      refine PW.cI q_38_29 (by decide) fun c6 hc6 => ?_
      refine PW.cV (as := [_]) (rest := []) q_38_30 t_mv_38_76 kd_1 I.1 (by decide) rfl (by decide) rfl rfl (Nat.le_of_ble_eq_true rfl) (Nat.le_of_ble_eq_true rfl) (by decide) (by decide) ?_
      refine PW.up (by decide) (c_X7_fail_vk (V) (hV) G _ M I c6 y (i) hp_0 fun x8 M7 IM7 GM7 hx8 kx8 PM7 => ?_)
      have FM7 := Fr.trans F GM7 (rfl)
      rcases PM7 with ⟨PfM7, PgM7⟩
      refine PW.rZ q_38_33 rfl (by omega) (by omega) (by decide) (by decide) ?_
      have e : s_st y f m (i, false, st, on) = (4, kP y i, (0, false, [], 0)) := by show s_op y f m i st on = _; unfold s_op; rw [if_neg (not_not_intro PbM1), if_pos (by omega)]
      exact hK x8 M7 IM7 FM7 (by omega) (by omega) (Or.inr ⟨by omega, s_bad.of e (by omega) (by omega) (by omega) (by omega)⟩)
    · skip
      refine PW.iload_n q_38_22 rfl ?_
      refine PW.cB q_38_23 (by decide) fun c9 hc9 => ?_
      refine PW.jc_le q_38_25 rfl (fun h10 => ?_) (fun h10 => False.elim (by omega))
      refine PW.aload_n q_38_34 rfl ?_
      refine PW.dup q_38_35 rfl ?_
      refine PW.gE q_38_36 (Or.inl t_ft_38_27) gF_14_0 kd_267 I.1 (by decide) fw267_0 ?_
      refine PW.cI q_38_39 (by decide) fun c11 hc11 => ?_
      refine PW.addN q_38_40 (by omega) (by omega) fun x12 hx12 => ?_
      refine PW.pI q_38_41 (Or.inl t_ft_38_27) gF_14_0 gP_14_0 kd_267 hV I (by decide) rfl (n_lo _) (n_hi _) fun M13 IM13 fM13 UM13 => ?_
      have FM13 := Fr.pu F UM13.1 kd_267 (rfl : List.contains [1, 14, 15, 16, 17] 14 = true)
      have b1 : kK y i = 2 ∨ kK y i = 5 := by rcases PbM1 with q | q; (· exact Or.inr q.1); (· exact Or.inl q.1)
      have on1 : o_i (M13 267) 0 = on + 1 := by have w := o_i_of fM13; omega
      refine PW.aload_n q_38_44 rfl ?_
      refine PW.gets q_38_45 t_st_38_80 ?_
      refine PW.cV (as := [_]) (rest := []) q_38_48 t_mv_38_58 kd_1 IM13.1 (by decide) rfl (by decide) rfl rfl (Nat.le_of_ble_eq_true rfl) (Nat.le_of_ble_eq_true rfl) (by decide) (by decide) ?_
      refine PW.up (by decide) (c_X7_takes_vk (V) (hV) G _ M13 IM13 19 (by decide) y (i) (hp_0.cg (UM13.1 _ (g_ne kd_1 kd_267 (by decide))) (UM13.1 _ (g_ne kd_2 kd_267 (by decide)))) fun x15 M14 IM14 GM14 hx15 kx15 PM14 => ?_)
      have FM14 := Fr.trans FM13 GM14 (rfl)
      rcases PM14 with ⟨PaM14, PbM14, PcM14, PtM14⟩ | ⟨PaM14, PnM14, PtM14⟩
      · skip
        have swM14 := (s_wn_iff (x := y) (i := i) (show 19 < 28 by decide)).mp PcM14
        refine PW.jz_eq q_38_51 rfl (fun h16 => False.elim (by omega)) (fun h16 => ?_)
        refine PW.aload_n q_38_54 rfl ?_
        refine PW.aload_n q_38_55 rfl ?_
        refine PW.aload_n q_38_56 rfl ?_
        refine PW.iload_n q_38_57 rfl ?_
        refine PW.cI q_38_58 (by decide) fun c17 hc17 => ?_
        refine PW.addN q_38_59 (by omega) (by omega) fun x18 hx18 => ?_
        refine PW.cV (as := [_, _, _]) (rest := []) q_38_60 t_mv_38_66 kd_267 IM14.1 (by decide) rfl (by decide) rfl rfl (Nat.le_of_ble_eq_true rfl) (Nat.le_of_ble_eq_true rfl) (by decide) (by decide) ?_
        refine PW.up (by decide) (c_X4_readOne_vk6 (V) (hV) G _ M14 IM14 x18 (by omega) (by omega) y (i + 1) f m (false :: st) (on + 1) PtM14 (hp_1.cg ((Fr.at GM14 kd_4 (by decide)).trans (UM13.1 _ (g_ne kd_4 kd_267 (by decide)))) ((Fr.at GM14 kd_5 (by decide)).trans (UM13.1 _ (g_ne kd_5 kd_267 (by decide))))) ((congrArg (fun e => o_i e 0) (Fr.at GM14 kd_267 (by decide))).trans on1) (by rw [List.length_cons]; omega) (by omega) fun x20 M19 IM19 GM19 hx20 kx20 PM19 => ?_)
        have FM19 := Fr.trans FM14 GM19 (rfl)
        rcases PM19 with ⟨PaM19, jM19, oM19, PkM19⟩ | ⟨PaM19, PkM19⟩
        · skip
          have koM19 := PkM19.2
          refine PW.jz_eq q_38_63 rfl (fun h21 => False.elim (by omega)) (fun h21 => ?_)
          refine PW.aload_n q_38_66 rfl ?_
          refine PW.gets q_38_67 t_st_38_80 ?_
          refine PW.cI q_38_70 (by decide) fun c22 hc22 => ?_
          refine PW.cI q_38_71 (by decide) fun c23 hc23 => ?_
          refine PW.cV (as := [_, _, _]) (rest := []) q_38_72 t_mv_38_62 kd_267 IM19.1 (by decide) rfl (by decide) rfl rfl (Nat.le_of_ble_eq_true rfl) (Nat.le_of_ble_eq_true rfl) (by decide) (by decide) ?_
          refine PW.up (by decide) (c_X4_add_vk (V) (hV) G _ M19 IM19 19 (by decide) c22 c23 (by omega) (by omega) fun x25 M24 IM24 GM24 hx25 kx25 PM24 => ?_)
          have FM24 := Fr.trans FM19 GM24 (rfl)
          have PoM24 := PM24
          refine PW.jz_eq q_38_75 rfl (fun h26 => False.elim (by omega)) (fun h26 => ?_)
          refine PW.cI q_38_78 (by decide) fun c27 hc27 => ?_
          refine PW.goto q_38_79 rfl ?_
          refine PW.rZ q_38_83 rfl (by omega) (by omega) (by decide) (by decide) ?_
          have e : s_st y f m (i, false, st, on) = (0, 0, (i + 1, false, false :: st, on + 1)) := by show s_op y f m i st on = _; unfold s_op; rw [if_neg (not_not_intro PbM1), if_neg (by omega), if_pos ⟨PbM14, by omega⟩]
          exact hK c27 M24 IM24 FM24 (by omega) (by omega) (Or.inl ⟨by omega, jM19, oM19, ((s_ok.next (on := on) (c := 1) PkM19 (s_to.of e) (by omega)).mono (on1 := on) (by omega)).cg (Fr.at GM24 kd_1 (by decide)) (Fr.at GM24 kd_2 (by decide)) PoM24⟩)
        · skip
          refine PW.jz_eq q_38_63 rfl (fun h28 => ?_) (fun h28 => False.elim (by omega))
          refine PW.cI q_38_82 (by decide) fun c29 hc29 => ?_
          refine PW.rZ q_38_83 rfl (by omega) (by omega) (by decide) (by decide) ?_
          have e : s_st y f m (i, false, st, on) = (0, 0, (i + 1, false, false :: st, on + 1)) := by show s_op y f m i st on = _; unfold s_op; rw [if_neg (not_not_intro PbM1), if_neg (by omega), if_pos ⟨PbM14, by omega⟩]
          exact hK c29 M19 IM19 FM19 (by omega) (by omega) (Or.inr ⟨by omega, (s_bad.to PkM19 (s_to.of e)).cg rfl⟩)
      · skip
        have snM14 : kK y (i) = 2 → s_wn y (i) ≠ 19 := fun h q => PnM14 ⟨h, (s_wn_iff (show 19 < 28 by decide)).mpr q⟩
        refine PW.jz_eq q_38_51 rfl (fun h30 => ?_) (fun h30 => False.elim (by omega))
        refine PW.aload_n q_38_84 rfl ?_
        refine PW.cB q_38_85 (by decide) fun c31 hc31 => ?_
        refine PW.cV (as := [_]) (rest := []) q_38_87 t_mv_38_83 kd_1 IM14.1 (by decide) rfl (by decide) rfl rfl (Nat.le_of_ble_eq_true rfl) (Nat.le_of_ble_eq_true rfl) (by decide) (by decide) ?_
        refine PW.up (by decide) (c_X7_seesSign_vk (V) (hV) G _ M14 IM14 c31 y (i) PtM14 fun x33  hx33 kx33 PM32 => ?_)
        rcases PM32 with ⟨PaM32, PbM32, PcM32⟩ | ⟨PaM32, PnM32⟩
        · skip
          refine PW.jz_eq q_38_90 rfl (fun h34 => False.elim (by omega)) (fun h34 => ?_)
          refine PW.aload_n q_38_93 rfl ?_
          refine PW.cV (as := []) (rest := []) q_38_94 t_mv_38_86 kd_1 IM14.1 (by decide) rfl (by decide) rfl rfl (Nat.le_of_ble_eq_true rfl) (Nat.le_of_ble_eq_true rfl) (by decide) (by decide) ?_
          refine PW.up (by decide) (c_X7_advance_vk (V) (hV) G _ M14 IM14 y (i + 1) (k_at.nx PtM14 (by omega)) fun M35 IM35 GM35 PM35 => ?_)
          have FM35 := Fr.trans FM14 GM35 (rfl)
          have PtM35 := PM35
          refine PW.aload_n q_38_97 rfl ?_
          refine PW.aload_n q_38_98 rfl ?_
          refine PW.aload_n q_38_99 rfl ?_
          refine PW.iload_n q_38_100 rfl ?_
          refine PW.cI q_38_101 (by decide) fun c36 hc36 => ?_
          refine PW.addN q_38_102 (by omega) (by omega) fun x37 hx37 => ?_
          refine PW.cV (as := [_, _, _]) (rest := []) q_38_103 t_mv_38_43 kd_267 IM35.1 (by decide) rfl (by decide) rfl rfl (Nat.le_of_ble_eq_true rfl) (Nat.le_of_ble_eq_true rfl) (by decide) (by decide) ?_
          refine PW.up (by decide) (c_X4_readAny_vk6 (V) (hV) G _ M35 IM35 x37 (by omega) (by omega) y (i + 1) f m (true :: st) (on + 1) PtM35 (hp_1.cg ((Fr.at GM35 kd_4 (by decide)).trans ((Fr.at GM14 kd_4 (by decide)).trans (UM13.1 _ (g_ne kd_4 kd_267 (by decide))))) ((Fr.at GM35 kd_5 (by decide)).trans ((Fr.at GM14 kd_5 (by decide)).trans (UM13.1 _ (g_ne kd_5 kd_267 (by decide)))))) (((congrArg (fun e => o_i e 0) (Fr.at GM35 kd_267 (by decide))).trans (congrArg (fun e => o_i e 0) (Fr.at GM14 kd_267 (by decide)))).trans on1) (by rw [List.length_cons]; omega) (by omega) rfl fun x39 M38 IM38 GM38 hx39 kx39 PM38 => ?_)
          have FM38 := Fr.trans FM35 GM38 (rfl)
          rcases PM38 with ⟨PaM38, jM38, oM38, PkM38, Pn2M38⟩ | ⟨PaM38, PkM38⟩
          · skip
            have koM38 := PkM38.2
            refine PW.jz_eq q_38_106 rfl (fun h40 => False.elim (by omega)) (fun h40 => ?_)
            refine PW.aload_n q_38_109 rfl ?_
            refine PW.cB q_38_110 (by decide) fun c41 hc41 => ?_
            refine PW.cV (as := [_]) (rest := []) q_38_112 t_mv_38_89 kd_1 IM38.1 (by decide) rfl (by decide) rfl rfl (Nat.le_of_ble_eq_true rfl) (Nat.le_of_ble_eq_true rfl) (by decide) (by decide) ?_
            refine PW.up (by decide) (c_X7_needsSign_vk (V) (hV) G _ M38 IM38 c41 y (jM38) PkM38.2.2.2.1 fun x43 M42 IM42 GM42 hx43 kx43 PM42 => ?_)
            have FM42 := Fr.trans FM38 GM42 (rfl)
            rcases PM42 with ⟨PaM42, PbM42, PcM42, PtM42⟩ | ⟨PaM42, PnM42, PfM42, PgM42⟩
            · skip
              refine PW.jz_eq q_38_115 rfl (fun h44 => False.elim (by omega)) (fun h44 => ?_)
              refine PW.cI q_38_118 (by decide) fun c45 hc45 => ?_
              refine PW.goto q_38_119 rfl ?_
              refine PW.rZ q_38_123 rfl (by omega) (by omega) (by decide) (by decide) ?_
              have e : s_st y f m (i, false, st, on) = (0, 0, (i + 1, false, true :: st, on + 1)) := by show s_op y f m i st on = _; unfold s_op; rw [if_neg (not_not_intro PbM1), if_neg (by omega), if_neg (by omega), if_pos (by omega)]
              have e2 : s_st y f m (jM38, true, true :: st, oM38) = (0, 0, (jM38 + 1, true, s_dn st, oM38)) := by show s_bh y jM38 (true :: st) oM38 = _; unfold s_bh; rw [if_neg Pn2M38, if_pos ⟨⟨PbM42, PcM42.trans (by omega)⟩, List.cons_ne_nil _ _⟩]; rfl
              exact hK c45 M42 IM42 FM42 (by omega) (by omega) (Or.inl ⟨by omega, jM38 + 1, oM38, ((s_to.of e).trans PkM38.1).trans (s_to.of e2), by have := PkM38.2.1; omega, PkM38.2.2.1, PtM42, ((congrArg (fun e => o_i e 0) (Fr.at GM42 kd_267 (by decide))).trans PkM38.2.2.2.2)⟩)
            · skip
              refine PW.jz_eq q_38_115 rfl (fun h46 => ?_) (fun h46 => False.elim (by omega))
              refine PW.cI q_38_122 (by decide) fun c47 hc47 => ?_
              refine PW.rZ q_38_123 rfl (by omega) (by omega) (by decide) (by decide) ?_
              have e : s_st y f m (i, false, st, on) = (0, 0, (i + 1, false, true :: st, on + 1)) := by show s_op y f m i st on = _; unfold s_op; rw [if_neg (not_not_intro PbM1), if_neg (by omega), if_neg (by omega), if_pos (by omega)]
              have e2 : s_st y f m (jM38, true, true :: st, oM38) = (1, kP y jM38, (0, false, [], 0)) := by show s_bh y jM38 (true :: st) oM38 = _; unfold s_bh; rw [if_neg Pn2M38, if_neg (fun h => PnM42 ⟨h.1.1, h.1.2.trans (by omega)⟩), if_neg (fun h => List.cons_ne_nil _ _ h.2)]
              exact hK c47 M42 IM42 FM42 (by omega) (by omega) (Or.inr ⟨by omega, ((s_bad.of e2 (by omega) (by omega) (by omega) (by omega)).to PkM38.1).to (s_to.of e)⟩)
          · skip
            refine PW.jz_eq q_38_106 rfl (fun h48 => ?_) (fun h48 => False.elim (by omega))
            refine PW.cI q_38_122 (by decide) fun c49 hc49 => ?_
            refine PW.rZ q_38_123 rfl (by omega) (by omega) (by decide) (by decide) ?_
            have e : s_st y f m (i, false, st, on) = (0, 0, (i + 1, false, true :: st, on + 1)) := by show s_op y f m i st on = _; unfold s_op; rw [if_neg (not_not_intro PbM1), if_neg (by omega), if_neg (by omega), if_pos (by omega)]
            exact hK c49 M38 IM38 FM38 (by omega) (by omega) (Or.inr ⟨by omega, (s_bad.to PkM38 (s_to.of e)).cg rfl⟩)
        · skip
          refine PW.jz_eq q_38_90 rfl (fun h50 => ?_) (fun h50 => False.elim (by omega))
          have k2 : kK y i = 2 := by rcases PbM1 with q | q; (· exact absurd ⟨q.1, q.2.trans (by omega)⟩ PnM32); (· exact q.1)
          have k3 : 20 ≤ s_wn y i ∧ s_wn y i ≤ 27 := by rcases PbM1 with q | q; (· omega); (· have u := snM14 q.1; omega)
          refine PW.aload_n q_38_124 rfl ?_
          refine PW.aload_n q_38_125 rfl ?_
          refine PW.aload_n q_38_126 rfl ?_
          refine PW.cV (as := [_, _]) (rest := []) q_38_127 t_mv_38_92 kd_267 IM14.1 (by decide) rfl (by decide) rfl rfl (Nat.le_of_ble_eq_true rfl) (Nat.le_of_ble_eq_true rfl) (by decide) (by decide) ?_
          refine PW.up (by decide) (c_X4_readPlain_vk (V) (hV) G _ M14 IM14 y (i) f m PtM14 (hp_1.cg ((Fr.at GM14 kd_4 (by decide)).trans (UM13.1 _ (g_ne kd_4 kd_267 (by decide)))) ((Fr.at GM14 kd_5 (by decide)).trans (UM13.1 _ (g_ne kd_5 kd_267 (by decide))))) (by omega) (by omega) (by omega) fun x52 M51 IM51 GM51 hx52 kx52 PM51 => ?_)
          have FM51 := Fr.trans FM14 GM51 (rfl)
          rcases PM51 with ⟨PaM51, PbM51, PtM51, PoM51⟩ | ⟨PaM51, PbM51, PfM51, PgM51⟩
          · skip
            refine PW.rZ q_38_130 rfl (by omega) (by omega) (by decide) (by decide) ?_
            have e : s_st y f m (i, false, st, on) = (0, 0, ((s_pn y f m i).2.2, true, s_dn st, on + 1)) := by show s_op y f m i st on = _; unfold s_op; rw [if_neg (not_not_intro PbM1), if_neg (by omega), if_neg (by omega), if_neg (by omega), if_neg (not_not_intro PbM51)]
            exact hK x52 M51 IM51 FM51 (by omega) (by omega) (Or.inl ⟨by omega, (s_pn y f m i).2.2, on + 1, s_to.of e, by omega, by omega, PtM51, (PoM51.trans ((congrArg (fun e => o_i e 0) (Fr.at GM14 kd_267 (by decide))).trans on1))⟩)
          · skip
            refine PW.rZ q_38_130 rfl (by omega) (by omega) (by decide) (by decide) ?_
            have pb := s_pn_b y f m i
            have e : s_st y f m (i, false, st, on) = ((s_pn y f m i).1, (s_pn y f m i).2.1, (0, false, [], 0)) := by show s_op y f m i st on = _; unfold s_op; rw [if_neg (not_not_intro PbM1), if_neg (by omega), if_neg (by omega), if_neg (by omega), if_pos PbM51]
            exact hK x52 M51 IM51 FM51 (by omega) (by omega) (Or.inr ⟨by omega, s_bad.of e (by omega) (by omega) (by omega) (by omega)⟩)
  · skip
    refine PW.jz_ne q_38_4 rfl (fun h53 => False.elim (by omega)) (fun h53 => ?_)
    refine PW.aload_n q_38_7 rfl ?_
    refine PW.cI q_38_8 (by decide) fun c54 hc54 => ?_
    refine PW.cV (as := [_]) (rest := []) q_38_9 t_mv_38_76 kd_1 I.1 (by decide) rfl (by decide) rfl rfl (Nat.le_of_ble_eq_true rfl) (Nat.le_of_ble_eq_true rfl) (by decide) (by decide) ?_
    refine PW.up (by decide) (c_X7_fail_vk (V) (hV) G _ M I c54 y (i) hp_0 fun x56 M55 IM55 GM55 hx56 kx56 PM55 => ?_)
    have FM55 := Fr.trans F GM55 (rfl)
    rcases PM55 with ⟨PfM55, PgM55⟩
    refine PW.rZ q_38_12 rfl (by omega) (by omega) (by decide) (by decide) ?_
    have e : s_st y f m (i, false, st, on) = (1, kP y i, (0, false, [], 0)) := by show s_op y f m i st on = _; unfold s_op; rw [if_pos PnM1]
    exact hK x56 M55 IM55 FM55 (by omega) (by omega) (Or.inr ⟨by omega, s_bad.of e (by omega) (by omega) (by omega) (by omega)⟩)
theorem c_X4_readAll_vk5 (V : pM → Prop) (hV : Stab V) (G : pG) (Kr : pK) (M : pM) (I : Iv V M) (a3 : Int32) (hl_a3 : 5 ≤ a3.toInt) (hh_a3 : a3.toInt ≤ 5) (y : k_X) (i : Nat) (f : Nat → Int) (m : Int) (st : List Bool) (on : Int) (hp_0 : k_at y M i) (hp_1 : s_nm M f m) (hp_2 : o_i (M 267) 0 = on) (hp_3 : st.length + 1 = 5) (hp_4 : 0 ≤ on) (hp_5 : s_dn st = st) (hK : ∀ (x : Int32) (M1 : pM), Iv V M1 → Fr [1, 14, 15, 16, 17] M M1 → 0 ≤ x.toInt → x.toInt ≤ 1 → (s_lq y f m i st on x M1) → Kr.1 (some (.int x)) 311 M1) : PW G false 16 37 (p_mc 37) (p_msl 37) Kr 0 (lv_args 0 [.ref 267, .ref 1, .ref 4, .int a3]) [] 311 M 0 0 := by
  have F : Fr [1, 14, 15, 16, 17] M M := Fr.refl
  obtain ⟨w267_0, fw267_0, hw267_0, kw267_0⟩ := gF_14_0.int kd_267 I.1 (by decide)
  have iw267_0 := o_i_of fw267_0
  have jw267_0 : w267_0.toInt = on := by have w := hp_2; omega
  refine PW.aload_n q_37_0 rfl ?_
  refine PW.aload_n q_37_1 rfl ?_
  refine PW.aload_n q_37_2 rfl ?_
  refine PW.iload_n q_37_3 rfl ?_
  refine PW.cV (as := [_, _, _]) (rest := []) q_37_4 t_mv_37_66 kd_267 I.1 (by decide) rfl (by decide) rfl rfl (Nat.le_of_ble_eq_true rfl) (Nat.le_of_ble_eq_true rfl) (by decide) (by decide) ?_
  refine PW.up (by decide) (c_X4_readOne_vk5 (V) (hV) G _ M I a3 (by omega) (by omega) y (i) f m st on hp_0 hp_1 hp_2 hp_3 (by omega) fun x2 M1 IM1 GM1 hx2 kx2 PM1 => ?_)
  have FM1 := Fr.trans F GM1 (rfl)
  rcases PM1 with ⟨PaM1, jM1, oM1, PkM1⟩ | ⟨PaM1, PkM1⟩
  · skip
    have koM1 := PkM1.2
    refine PW.istore q_37_7 (by decide) ?_
    refine PW.cI q_37_9 (by decide) fun c3 hc3 => ?_
    refine PW.istore q_37_10 (by decide) ?_
    have L37_12_4 : ∀ (n : Nat) (ML37_12_4 : pM) (v5 v6 : Int32), Iv (V) ML37_12_4 → Fr [1, 14, 15, 16, 17] M ML37_12_4 → 0 ≤ v5.toInt → v5.toInt ≤ 1 → 0 ≤ v6.toInt → v6.toInt ≤ 20 → s_li y f m i st on 18 ML37_12_4 v5.toInt v6.toInt → ML37_12_4 4 = M 4 → ML37_12_4 5 = M 5 → (20 - v6.toInt).toNat = n → PW G false 16 37 (p_mc 37) (p_msl 37) Kr 12 [(0, .ref 267), (1, .ref 1), (2, .ref 4), (3, .int a3), (4, .int v5), (5, .int v6)] [] 311 ML37_12_4 0 0 := by
      intro n
      induction n using Nat.strongRecOn with
      | ind n ih_L37_12_4 =>
      intro ML37_12_4 v5 v6 IML37_12_4 FML37_12_4 hbL37_12_40 hbL37_12_41 hbL37_12_42 hbL37_12_43 hbL37_12_44 hbL37_12_45 hbL37_12_46 hmL37_12_4
      refine PW.iload q_37_12 rfl ?_
      refine PW.cB q_37_14 (by decide) fun c7 hc7 => ?_
      refine PW.jc_ge q_37_16 rfl (fun h8 => ?_) (fun h8 => ?_)
      · skip
        refine PW.iload q_37_69 rfl ?_
        refine PW.rZ q_37_71 rfl (by omega) (by omega) (by decide) (by decide) ?_
        exact hK v5 ML37_12_4 IML37_12_4 FML37_12_4 (by omega) (by omega) (Or.inr ⟨(s_li.full hbL37_12_44 (by omega) hp_4).1, (s_li.full hbL37_12_44 (by omega) hp_4).2⟩)
      · skip
        refine PW.iload q_37_19 rfl ?_
        refine PW.jz_eq q_37_21 rfl (fun h9 => ?_) (fun h9 => ?_)
        · skip
          refine PW.iload q_37_69 rfl ?_
          refine PW.rZ q_37_71 rfl (by omega) (by omega) (by decide) (by decide) ?_
          exact hK v5 ML37_12_4 IML37_12_4 FML37_12_4 (by omega) (by omega) (Or.inr ⟨by omega, (s_li.no hbL37_12_44 (by omega))⟩)
        · skip
          obtain ⟨j0, o0, K0, N0⟩ : ∃ (j0 : Nat) (o0 : Int), s_ok y f m (i, false, st, on) st (on + v6.toInt) ML37_12_4 j0 o0 ∧ (18 = 17 → ¬ (kK y j0 = 2 ∧ s_wn y j0 = 18)) := by rcases hbL37_12_44 with q | q; (· exact q.2); (· omega)
          have T0 := K0.1
          have B0 := K0.2.1
          have B1 := K0.2.2.1
          refine PW.aload_n q_37_24 rfl ?_
          refine PW.gets q_37_25 t_st_37_69 ?_
          refine PW.cV (as := [_]) (rest := []) q_37_28 t_mv_37_58 kd_1 IML37_12_4.1 (by decide) rfl (by decide) rfl rfl (Nat.le_of_ble_eq_true rfl) (Nat.le_of_ble_eq_true rfl) (by decide) (by decide) ?_
          refine PW.up (by decide) (c_X7_takes_vk (V) (hV) G _ ML37_12_4 IML37_12_4 18 (by decide) y (j0) K0.2.2.2.1 fun x11 M10 IM10 GM10 hx11 kx11 PM10 => ?_)
          have FM10 := Fr.trans FML37_12_4 GM10 (rfl)
          rcases PM10 with ⟨PaM10, PbM10, PcM10, PtM10⟩ | ⟨PaM10, PnM10, PtM10⟩
          · skip
            have swM10 := (s_wn_iff (x := y) (i := j0) (show 18 < 28 by decide)).mp PcM10
            refine PW.jz_eq q_37_31 rfl (fun h12 => False.elim (by omega)) (fun h12 => ?_)
            have e0 : s_st y f m (j0, true, st, o0) = (0, 0, (j0 + 1, false, st, o0)) := by show s_bh y j0 st o0 = _; unfold s_bh; rw [if_pos ⟨PbM10, by omega⟩]
            refine PW.aload_n q_37_34 rfl ?_
            refine PW.aload_n q_37_35 rfl ?_
            refine PW.aload_n q_37_36 rfl ?_
            refine PW.iload_n q_37_37 rfl ?_
            refine PW.cV (as := [_, _, _]) (rest := []) q_37_38 t_mv_37_66 kd_267 IM10.1 (by decide) rfl (by decide) rfl rfl (Nat.le_of_ble_eq_true rfl) (Nat.le_of_ble_eq_true rfl) (by decide) (by decide) ?_
            refine PW.up (by decide) (c_X4_readOne_vk5 (V) (hV) G _ M10 IM10 a3 (by omega) (by omega) y (j0 + 1) f m st o0 PtM10 ((hp_1.cg hbL37_12_45 hbL37_12_46).cg (Fr.at GM10 kd_4 (by decide)) (Fr.at GM10 kd_5 (by decide))) ((congrArg (fun e => o_i e 0) (Fr.at GM10 kd_267 (by decide))).trans K0.2.2.2.2) hp_3 (by omega) fun x14 M13 IM13 GM13 hx14 kx14 PM13 => ?_)
            have FM13 := Fr.trans FM10 GM13 (rfl)
            rcases PM13 with ⟨PaM13, jM13, oM13, PkM13⟩ | ⟨PaM13, PkM13⟩
            · skip
              have koM13 := PkM13.2
              refine PW.jz_eq q_37_41 rfl (fun h15 => False.elim (by omega)) (fun h15 => ?_)
              refine PW.aload_n q_37_44 rfl ?_
              refine PW.gets q_37_45 t_st_37_69 ?_
              refine PW.cI q_37_48 (by decide) fun c16 hc16 => ?_
              refine PW.cI q_37_49 (by decide) fun c17 hc17 => ?_
              refine PW.cV (as := [_, _, _]) (rest := []) q_37_50 t_mv_37_62 kd_267 IM13.1 (by decide) rfl (by decide) rfl rfl (Nat.le_of_ble_eq_true rfl) (Nat.le_of_ble_eq_true rfl) (by decide) (by decide) ?_
              refine PW.up (by decide) (c_X4_add_vk (V) (hV) G _ M13 IM13 18 (by decide) c16 c17 (by omega) (by omega) fun x19 M18 IM18 GM18 hx19 kx19 PM18 => ?_)
              have FM18 := Fr.trans FM13 GM18 (rfl)
              have PoM18 := PM18
              refine PW.jz_eq q_37_53 rfl (fun h20 => False.elim (by omega)) (fun h20 => ?_)
              refine PW.cI q_37_56 (by decide) fun c21 hc21 => ?_
              refine PW.goto q_37_57 rfl ?_
              refine PW.istore q_37_61 (by decide) ?_
              refine PW.incN q_37_63 rfl (by decide) (by decide) (by omega) (by omega) fun x22 hx22 => ?_
              refine PW.goto q_37_66 rfl ?_
              refine PW.lvS (lk1 rfl (lk1 rfl (lk1 rfl (lk1 rfl (lk1 rfl (lk1 rfl lk0)))))) (ih_L37_12_4 _ ?_ M18 c21 x22 IM18 FM18 (by omega) (by omega) (by omega) (by omega) (Or.inl ⟨by omega, jM13, oM13, ((s_ok.next (c := x22.toInt) (by rw [hp_5] at PkM13; exact PkM13) (T0.trans (s_to.of e0)) (by have := K0.2.1; omega)).cg (Fr.at GM18 kd_1 (by decide)) (Fr.at GM18 kd_2 (by decide)) PoM18), (fun h => absurd h (by decide))⟩) (((Fr.at GM18 kd_4 (by decide)).trans ((Fr.at GM13 kd_4 (by decide)).trans (Fr.at GM10 kd_4 (by decide)))).trans hbL37_12_45) (((Fr.at GM18 kd_5 (by decide)).trans ((Fr.at GM13 kd_5 (by decide)).trans (Fr.at GM10 kd_5 (by decide)))).trans hbL37_12_46) rfl)
              omega
            · skip
              refine PW.jz_eq q_37_41 rfl (fun h23 => ?_) (fun h23 => False.elim (by omega))
              refine PW.cI q_37_60 (by decide) fun c24 hc24 => ?_
              refine PW.istore q_37_61 (by decide) ?_
              refine PW.incN q_37_63 rfl (by decide) (by decide) (by omega) (by omega) fun x25 hx25 => ?_
              refine PW.goto q_37_66 rfl ?_
              refine PW.lvS (lk1 rfl (lk1 rfl (lk1 rfl (lk1 rfl (lk1 rfl (lk1 rfl lk0)))))) (ih_L37_12_4 _ ?_ M13 c24 x25 IM13 FM13 (by omega) (by omega) (by omega) (by omega) (Or.inr ⟨by omega, ((s_bad.to PkM13 (T0.trans (s_to.of e0))).cg rfl)⟩) (((Fr.at GM13 kd_4 (by decide)).trans (Fr.at GM10 kd_4 (by decide))).trans hbL37_12_45) (((Fr.at GM13 kd_5 (by decide)).trans (Fr.at GM10 kd_5 (by decide))).trans hbL37_12_46) rfl)
              omega
          · skip
            have snM10 : kK y (j0) = 2 → s_wn y (j0) ≠ 18 := fun h q => PnM10 ⟨h, (s_wn_iff (show 18 < 28 by decide)).mpr q⟩
            refine PW.jz_eq q_37_31 rfl (fun h26 => ?_) (fun h26 => False.elim (by omega))
            refine PW.iload q_37_69 rfl ?_
            refine PW.rZ q_37_71 rfl (by omega) (by omega) (by decide) (by decide) ?_
            exact hK v5 M10 IM10 FM10 (by omega) (by omega) (Or.inl ⟨by omega, j0, o0, ⟨T0, by omega, B1, PtM10, ((congrArg (fun e => o_i e 0) (Fr.at GM10 kd_267 (by decide))).trans K0.2.2.2.2)⟩, (fun h => snM10 h.1 h.2)⟩)
    exact PW.lvS (lk1 rfl (lk1 rfl (lk1 rfl (lk1 rfl (lk1 rfl (lk1 rfl lk0)))))) (L37_12_4 _ M1 x2 c3 IM1 FM1 (by omega) (by omega) (by omega) (by omega) (Or.inl ⟨by omega, jM1, oM1, (s_ok.mono (by rw [hp_5] at PkM1; exact PkM1) (by omega)), (fun h => absurd h (by decide))⟩) (Fr.at GM1 kd_4 (by decide)) (Fr.at GM1 kd_5 (by decide)) rfl)
  · skip
    refine PW.istore q_37_7 (by decide) ?_
    refine PW.cI q_37_9 (by decide) fun c27 hc27 => ?_
    refine PW.istore q_37_10 (by decide) ?_
    have L37_12_28 : ∀ (n : Nat) (ML37_12_28 : pM) (v29 v30 : Int32), Iv (V) ML37_12_28 → Fr [1, 14, 15, 16, 17] M ML37_12_28 → 0 ≤ v29.toInt → v29.toInt ≤ 1 → 0 ≤ v30.toInt → v30.toInt ≤ 20 → s_li y f m i st on 18 ML37_12_28 v29.toInt v30.toInt → ML37_12_28 4 = M 4 → ML37_12_28 5 = M 5 → (20 - v30.toInt).toNat = n → PW G false 16 37 (p_mc 37) (p_msl 37) Kr 12 [(0, .ref 267), (1, .ref 1), (2, .ref 4), (3, .int a3), (4, .int v29), (5, .int v30)] [] 311 ML37_12_28 0 0 := by
      intro n
      induction n using Nat.strongRecOn with
      | ind n ih_L37_12_28 =>
      intro ML37_12_28 v29 v30 IML37_12_28 FML37_12_28 hbL37_12_280 hbL37_12_281 hbL37_12_282 hbL37_12_283 hbL37_12_284 hbL37_12_285 hbL37_12_286 hmL37_12_28
      refine PW.iload q_37_12 rfl ?_
      refine PW.cB q_37_14 (by decide) fun c31 hc31 => ?_
      refine PW.jc_ge q_37_16 rfl (fun h32 => ?_) (fun h32 => ?_)
      · skip
        refine PW.iload q_37_69 rfl ?_
        refine PW.rZ q_37_71 rfl (by omega) (by omega) (by decide) (by decide) ?_
        exact hK v29 ML37_12_28 IML37_12_28 FML37_12_28 (by omega) (by omega) (Or.inr ⟨(s_li.full hbL37_12_284 (by omega) hp_4).1, (s_li.full hbL37_12_284 (by omega) hp_4).2⟩)
      · skip
        refine PW.iload q_37_19 rfl ?_
        refine PW.jz_eq q_37_21 rfl (fun h33 => ?_) (fun h33 => ?_)
        · skip
          refine PW.iload q_37_69 rfl ?_
          refine PW.rZ q_37_71 rfl (by omega) (by omega) (by decide) (by decide) ?_
          exact hK v29 ML37_12_28 IML37_12_28 FML37_12_28 (by omega) (by omega) (Or.inr ⟨by omega, (s_li.no hbL37_12_284 (by omega))⟩)
        · skip
          obtain ⟨j0, o0, K0, N0⟩ : ∃ (j0 : Nat) (o0 : Int), s_ok y f m (i, false, st, on) st (on + v30.toInt) ML37_12_28 j0 o0 ∧ (18 = 17 → ¬ (kK y j0 = 2 ∧ s_wn y j0 = 18)) := by rcases hbL37_12_284 with q | q; (· exact q.2); (· omega)
          have T0 := K0.1
          have B0 := K0.2.1
          have B1 := K0.2.2.1
          refine PW.aload_n q_37_24 rfl ?_
          refine PW.gets q_37_25 t_st_37_69 ?_
          refine PW.cV (as := [_]) (rest := []) q_37_28 t_mv_37_58 kd_1 IML37_12_28.1 (by decide) rfl (by decide) rfl rfl (Nat.le_of_ble_eq_true rfl) (Nat.le_of_ble_eq_true rfl) (by decide) (by decide) ?_
          refine PW.up (by decide) (c_X7_takes_vk (V) (hV) G _ ML37_12_28 IML37_12_28 18 (by decide) y (j0) K0.2.2.2.1 fun x35 M34 IM34 GM34 hx35 kx35 PM34 => ?_)
          have FM34 := Fr.trans FML37_12_28 GM34 (rfl)
          rcases PM34 with ⟨PaM34, PbM34, PcM34, PtM34⟩ | ⟨PaM34, PnM34, PtM34⟩
          · skip
            have swM34 := (s_wn_iff (x := y) (i := j0) (show 18 < 28 by decide)).mp PcM34
            refine PW.jz_eq q_37_31 rfl (fun h36 => False.elim (by omega)) (fun h36 => ?_)
            have e0 : s_st y f m (j0, true, st, o0) = (0, 0, (j0 + 1, false, st, o0)) := by show s_bh y j0 st o0 = _; unfold s_bh; rw [if_pos ⟨PbM34, by omega⟩]
            refine PW.aload_n q_37_34 rfl ?_
            refine PW.aload_n q_37_35 rfl ?_
            refine PW.aload_n q_37_36 rfl ?_
            refine PW.iload_n q_37_37 rfl ?_
            refine PW.cV (as := [_, _, _]) (rest := []) q_37_38 t_mv_37_66 kd_267 IM34.1 (by decide) rfl (by decide) rfl rfl (Nat.le_of_ble_eq_true rfl) (Nat.le_of_ble_eq_true rfl) (by decide) (by decide) ?_
            refine PW.up (by decide) (c_X4_readOne_vk5 (V) (hV) G _ M34 IM34 a3 (by omega) (by omega) y (j0 + 1) f m st o0 PtM34 ((hp_1.cg hbL37_12_285 hbL37_12_286).cg (Fr.at GM34 kd_4 (by decide)) (Fr.at GM34 kd_5 (by decide))) ((congrArg (fun e => o_i e 0) (Fr.at GM34 kd_267 (by decide))).trans K0.2.2.2.2) hp_3 (by omega) fun x38 M37 IM37 GM37 hx38 kx38 PM37 => ?_)
            have FM37 := Fr.trans FM34 GM37 (rfl)
            rcases PM37 with ⟨PaM37, jM37, oM37, PkM37⟩ | ⟨PaM37, PkM37⟩
            · skip
              have koM37 := PkM37.2
              refine PW.jz_eq q_37_41 rfl (fun h39 => False.elim (by omega)) (fun h39 => ?_)
              refine PW.aload_n q_37_44 rfl ?_
              refine PW.gets q_37_45 t_st_37_69 ?_
              refine PW.cI q_37_48 (by decide) fun c40 hc40 => ?_
              refine PW.cI q_37_49 (by decide) fun c41 hc41 => ?_
              refine PW.cV (as := [_, _, _]) (rest := []) q_37_50 t_mv_37_62 kd_267 IM37.1 (by decide) rfl (by decide) rfl rfl (Nat.le_of_ble_eq_true rfl) (Nat.le_of_ble_eq_true rfl) (by decide) (by decide) ?_
              refine PW.up (by decide) (c_X4_add_vk (V) (hV) G _ M37 IM37 18 (by decide) c40 c41 (by omega) (by omega) fun x43 M42 IM42 GM42 hx43 kx43 PM42 => ?_)
              have FM42 := Fr.trans FM37 GM42 (rfl)
              have PoM42 := PM42
              refine PW.jz_eq q_37_53 rfl (fun h44 => False.elim (by omega)) (fun h44 => ?_)
              refine PW.cI q_37_56 (by decide) fun c45 hc45 => ?_
              refine PW.goto q_37_57 rfl ?_
              refine PW.istore q_37_61 (by decide) ?_
              refine PW.incN q_37_63 rfl (by decide) (by decide) (by omega) (by omega) fun x46 hx46 => ?_
              refine PW.goto q_37_66 rfl ?_
              refine PW.lvS (lk1 rfl (lk1 rfl (lk1 rfl (lk1 rfl (lk1 rfl (lk1 rfl lk0)))))) (ih_L37_12_28 _ ?_ M42 c45 x46 IM42 FM42 (by omega) (by omega) (by omega) (by omega) (Or.inl ⟨by omega, jM37, oM37, ((s_ok.next (c := x46.toInt) (by rw [hp_5] at PkM37; exact PkM37) (T0.trans (s_to.of e0)) (by have := K0.2.1; omega)).cg (Fr.at GM42 kd_1 (by decide)) (Fr.at GM42 kd_2 (by decide)) PoM42), (fun h => absurd h (by decide))⟩) (((Fr.at GM42 kd_4 (by decide)).trans ((Fr.at GM37 kd_4 (by decide)).trans (Fr.at GM34 kd_4 (by decide)))).trans hbL37_12_285) (((Fr.at GM42 kd_5 (by decide)).trans ((Fr.at GM37 kd_5 (by decide)).trans (Fr.at GM34 kd_5 (by decide)))).trans hbL37_12_286) rfl)
              omega
            · skip
              refine PW.jz_eq q_37_41 rfl (fun h47 => ?_) (fun h47 => False.elim (by omega))
              refine PW.cI q_37_60 (by decide) fun c48 hc48 => ?_
              refine PW.istore q_37_61 (by decide) ?_
              refine PW.incN q_37_63 rfl (by decide) (by decide) (by omega) (by omega) fun x49 hx49 => ?_
              refine PW.goto q_37_66 rfl ?_
              refine PW.lvS (lk1 rfl (lk1 rfl (lk1 rfl (lk1 rfl (lk1 rfl (lk1 rfl lk0)))))) (ih_L37_12_28 _ ?_ M37 c48 x49 IM37 FM37 (by omega) (by omega) (by omega) (by omega) (Or.inr ⟨by omega, ((s_bad.to PkM37 (T0.trans (s_to.of e0))).cg rfl)⟩) (((Fr.at GM37 kd_4 (by decide)).trans (Fr.at GM34 kd_4 (by decide))).trans hbL37_12_285) (((Fr.at GM37 kd_5 (by decide)).trans (Fr.at GM34 kd_5 (by decide))).trans hbL37_12_286) rfl)
              omega
          · skip
            have snM34 : kK y (j0) = 2 → s_wn y (j0) ≠ 18 := fun h q => PnM34 ⟨h, (s_wn_iff (show 18 < 28 by decide)).mpr q⟩
            refine PW.jz_eq q_37_31 rfl (fun h50 => ?_) (fun h50 => False.elim (by omega))
            refine PW.iload q_37_69 rfl ?_
            refine PW.rZ q_37_71 rfl (by omega) (by omega) (by decide) (by decide) ?_
            exact hK v29 M34 IM34 FM34 (by omega) (by omega) (Or.inl ⟨by omega, j0, o0, ⟨T0, by omega, B1, PtM34, ((congrArg (fun e => o_i e 0) (Fr.at GM34 kd_267 (by decide))).trans K0.2.2.2.2)⟩, (fun h => snM34 h.1 h.2)⟩)
    exact PW.lvS (lk1 rfl (lk1 rfl (lk1 rfl (lk1 rfl (lk1 rfl (lk1 rfl lk0)))))) (L37_12_28 _ M1 x2 c27 IM1 FM1 (by omega) (by omega) (by omega) (by omega) (Or.inr ⟨by omega, PkM1⟩) (Fr.at GM1 kd_4 (by decide)) (Fr.at GM1 kd_5 (by decide)) rfl)
theorem c_X4_readAny_vk5 (V : pM → Prop) (hV : Stab V) (G : pG) (Kr : pK) (M : pM) (I : Iv V M) (a3 : Int32) (hl_a3 : 5 ≤ a3.toInt) (hh_a3 : a3.toInt ≤ 5) (y : k_X) (i : Nat) (f : Nat → Int) (m : Int) (st : List Bool) (on : Int) (hp_0 : k_at y M i) (hp_1 : s_nm M f m) (hp_2 : o_i (M 267) 0 = on) (hp_3 : st.length + 1 = 5) (hp_4 : 0 ≤ on) (hp_5 : s_dn st = st) (hK : ∀ (x : Int32) (M1 : pM), Iv V M1 → Fr [1, 14, 15, 16, 17] M M1 → 0 ≤ x.toInt → x.toInt ≤ 1 → (s_aq y f m i st on x M1) → Kr.1 (some (.int x)) 311 M1) : PW G false 17 36 (p_mc 36) (p_msl 36) Kr 0 (lv_args 0 [.ref 267, .ref 1, .ref 4, .int a3]) [] 311 M 0 0 := by
  have F : Fr [1, 14, 15, 16, 17] M M := Fr.refl
  obtain ⟨w267_0, fw267_0, hw267_0, kw267_0⟩ := gF_14_0.int kd_267 I.1 (by decide)
  have iw267_0 := o_i_of fw267_0
  have jw267_0 : w267_0.toInt = on := by have w := hp_2; omega
  refine PW.aload_n q_36_0 rfl ?_
  refine PW.aload_n q_36_1 rfl ?_
  refine PW.aload_n q_36_2 rfl ?_
  refine PW.iload_n q_36_3 rfl ?_
  refine PW.cV (as := [_, _, _]) (rest := []) q_36_4 t_mv_36_51 kd_267 I.1 (by decide) rfl (by decide) rfl rfl (Nat.le_of_ble_eq_true rfl) (Nat.le_of_ble_eq_true rfl) (by decide) (by decide) ?_
  refine PW.up (by decide) (c_X4_readAll_vk5 (V) (hV) G _ M I a3 (by omega) (by omega) y (i) f m st on hp_0 hp_1 hp_2 hp_3 (by omega) hp_5 fun x2 M1 IM1 GM1 hx2 kx2 PM1 => ?_)
  have FM1 := Fr.trans F GM1 (rfl)
  rcases PM1 with ⟨PaM1, jM1, oM1, PkM1, Pn2M1⟩ | ⟨PaM1, PkM1⟩
  · skip
    have koM1 := PkM1.2
    refine PW.istore q_36_7 (by decide) ?_
    refine PW.cI q_36_9 (by decide) fun c3 hc3 => ?_
    refine PW.istore q_36_10 (by decide) ?_
    have L36_12_4 : ∀ (n : Nat) (ML36_12_4 : pM) (v5 v6 : Int32), Iv (V) ML36_12_4 → Fr [1, 14, 15, 16, 17] M ML36_12_4 → 0 ≤ v5.toInt → v5.toInt ≤ 1 → 0 ≤ v6.toInt → v6.toInt ≤ 20 → s_li y f m i st on 17 ML36_12_4 v5.toInt v6.toInt → ML36_12_4 4 = M 4 → ML36_12_4 5 = M 5 → (20 - v6.toInt).toNat = n → PW G false 17 36 (p_mc 36) (p_msl 36) Kr 12 [(0, .ref 267), (1, .ref 1), (2, .ref 4), (3, .int a3), (4, .int v5), (5, .int v6)] [] 311 ML36_12_4 0 0 := by
      intro n
      induction n using Nat.strongRecOn with
      | ind n ih_L36_12_4 =>
      intro ML36_12_4 v5 v6 IML36_12_4 FML36_12_4 hbL36_12_40 hbL36_12_41 hbL36_12_42 hbL36_12_43 hbL36_12_44 hbL36_12_45 hbL36_12_46 hmL36_12_4
      refine PW.iload q_36_12 rfl ?_
      refine PW.cB q_36_14 (by decide) fun c7 hc7 => ?_
      refine PW.jc_ge q_36_16 rfl (fun h8 => ?_) (fun h8 => ?_)
      · skip
        refine PW.iload q_36_69 rfl ?_
        refine PW.rZ q_36_71 rfl (by omega) (by omega) (by decide) (by decide) ?_
        exact hK v5 ML36_12_4 IML36_12_4 FML36_12_4 (by omega) (by omega) (Or.inr ⟨(s_li.full hbL36_12_44 (by omega) hp_4).1, (s_li.full hbL36_12_44 (by omega) hp_4).2⟩)
      · skip
        refine PW.iload q_36_19 rfl ?_
        refine PW.jz_eq q_36_21 rfl (fun h9 => ?_) (fun h9 => ?_)
        · skip
          refine PW.iload q_36_69 rfl ?_
          refine PW.rZ q_36_71 rfl (by omega) (by omega) (by decide) (by decide) ?_
          exact hK v5 ML36_12_4 IML36_12_4 FML36_12_4 (by omega) (by omega) (Or.inr ⟨by omega, (s_li.no hbL36_12_44 (by omega))⟩)
        · skip
          obtain ⟨j0, o0, K0, N0⟩ : ∃ (j0 : Nat) (o0 : Int), s_ok y f m (i, false, st, on) st (on + v6.toInt) ML36_12_4 j0 o0 ∧ (17 = 17 → ¬ (kK y j0 = 2 ∧ s_wn y j0 = 18)) := by rcases hbL36_12_44 with q | q; (· exact q.2); (· omega)
          have T0 := K0.1
          have B0 := K0.2.1
          have B1 := K0.2.2.1
          refine PW.aload_n q_36_24 rfl ?_
          refine PW.gets q_36_25 t_st_36_54 ?_
          refine PW.cV (as := [_]) (rest := []) q_36_28 t_mv_36_58 kd_1 IML36_12_4.1 (by decide) rfl (by decide) rfl rfl (Nat.le_of_ble_eq_true rfl) (Nat.le_of_ble_eq_true rfl) (by decide) (by decide) ?_
          refine PW.up (by decide) (c_X7_takes_vk (V) (hV) G _ ML36_12_4 IML36_12_4 17 (by decide) y (j0) K0.2.2.2.1 fun x11 M10 IM10 GM10 hx11 kx11 PM10 => ?_)
          have FM10 := Fr.trans FML36_12_4 GM10 (rfl)
          rcases PM10 with ⟨PaM10, PbM10, PcM10, PtM10⟩ | ⟨PaM10, PnM10, PtM10⟩
          · skip
            have swM10 := (s_wn_iff (x := y) (i := j0) (show 17 < 28 by decide)).mp PcM10
            refine PW.jz_eq q_36_31 rfl (fun h12 => False.elim (by omega)) (fun h12 => ?_)
            have e0 : s_st y f m (j0, true, st, o0) = (0, 0, (j0 + 1, false, st, o0)) := by show s_bh y j0 st o0 = _; unfold s_bh; rw [if_pos ⟨PbM10, by omega⟩]
            refine PW.aload_n q_36_34 rfl ?_
            refine PW.aload_n q_36_35 rfl ?_
            refine PW.aload_n q_36_36 rfl ?_
            refine PW.iload_n q_36_37 rfl ?_
            refine PW.cV (as := [_, _, _]) (rest := []) q_36_38 t_mv_36_51 kd_267 IM10.1 (by decide) rfl (by decide) rfl rfl (Nat.le_of_ble_eq_true rfl) (Nat.le_of_ble_eq_true rfl) (by decide) (by decide) ?_
            refine PW.up (by decide) (c_X4_readAll_vk5 (V) (hV) G _ M10 IM10 a3 (by omega) (by omega) y (j0 + 1) f m st o0 PtM10 ((hp_1.cg hbL36_12_45 hbL36_12_46).cg (Fr.at GM10 kd_4 (by decide)) (Fr.at GM10 kd_5 (by decide))) ((congrArg (fun e => o_i e 0) (Fr.at GM10 kd_267 (by decide))).trans K0.2.2.2.2) hp_3 (by omega) hp_5 fun x14 M13 IM13 GM13 hx14 kx14 PM13 => ?_)
            have FM13 := Fr.trans FM10 GM13 (rfl)
            rcases PM13 with ⟨PaM13, jM13, oM13, PkM13, Pn2M13⟩ | ⟨PaM13, PkM13⟩
            · skip
              have koM13 := PkM13.2
              refine PW.jz_eq q_36_41 rfl (fun h15 => False.elim (by omega)) (fun h15 => ?_)
              refine PW.aload_n q_36_44 rfl ?_
              refine PW.gets q_36_45 t_st_36_54 ?_
              refine PW.cI q_36_48 (by decide) fun c16 hc16 => ?_
              refine PW.cI q_36_49 (by decide) fun c17 hc17 => ?_
              refine PW.cV (as := [_, _, _]) (rest := []) q_36_50 t_mv_36_62 kd_267 IM13.1 (by decide) rfl (by decide) rfl rfl (Nat.le_of_ble_eq_true rfl) (Nat.le_of_ble_eq_true rfl) (by decide) (by decide) ?_
              refine PW.up (by decide) (c_X4_add_vk (V) (hV) G _ M13 IM13 17 (by decide) c16 c17 (by omega) (by omega) fun x19 M18 IM18 GM18 hx19 kx19 PM18 => ?_)
              have FM18 := Fr.trans FM13 GM18 (rfl)
              have PoM18 := PM18
              refine PW.jz_eq q_36_53 rfl (fun h20 => False.elim (by omega)) (fun h20 => ?_)
              refine PW.cI q_36_56 (by decide) fun c21 hc21 => ?_
              refine PW.goto q_36_57 rfl ?_
              refine PW.istore q_36_61 (by decide) ?_
              refine PW.incN q_36_63 rfl (by decide) (by decide) (by omega) (by omega) fun x22 hx22 => ?_
              refine PW.goto q_36_66 rfl ?_
              refine PW.lvS (lk1 rfl (lk1 rfl (lk1 rfl (lk1 rfl (lk1 rfl (lk1 rfl lk0)))))) (ih_L36_12_4 _ ?_ M18 c21 x22 IM18 FM18 (by omega) (by omega) (by omega) (by omega) (Or.inl ⟨by omega, jM13, oM13, ((s_ok.next (c := x22.toInt) PkM13 (T0.trans (s_to.of e0)) (by have := K0.2.1; omega)).cg (Fr.at GM18 kd_1 (by decide)) (Fr.at GM18 kd_2 (by decide)) PoM18), (fun _ => Pn2M13)⟩) (((Fr.at GM18 kd_4 (by decide)).trans ((Fr.at GM13 kd_4 (by decide)).trans (Fr.at GM10 kd_4 (by decide)))).trans hbL36_12_45) (((Fr.at GM18 kd_5 (by decide)).trans ((Fr.at GM13 kd_5 (by decide)).trans (Fr.at GM10 kd_5 (by decide)))).trans hbL36_12_46) rfl)
              omega
            · skip
              refine PW.jz_eq q_36_41 rfl (fun h23 => ?_) (fun h23 => False.elim (by omega))
              refine PW.cI q_36_60 (by decide) fun c24 hc24 => ?_
              refine PW.istore q_36_61 (by decide) ?_
              refine PW.incN q_36_63 rfl (by decide) (by decide) (by omega) (by omega) fun x25 hx25 => ?_
              refine PW.goto q_36_66 rfl ?_
              refine PW.lvS (lk1 rfl (lk1 rfl (lk1 rfl (lk1 rfl (lk1 rfl (lk1 rfl lk0)))))) (ih_L36_12_4 _ ?_ M13 c24 x25 IM13 FM13 (by omega) (by omega) (by omega) (by omega) (Or.inr ⟨by omega, ((s_bad.to PkM13 (T0.trans (s_to.of e0))).cg rfl)⟩) (((Fr.at GM13 kd_4 (by decide)).trans (Fr.at GM10 kd_4 (by decide))).trans hbL36_12_45) (((Fr.at GM13 kd_5 (by decide)).trans (Fr.at GM10 kd_5 (by decide))).trans hbL36_12_46) rfl)
              omega
          · skip
            have snM10 : kK y (j0) = 2 → s_wn y (j0) ≠ 17 := fun h q => PnM10 ⟨h, (s_wn_iff (show 17 < 28 by decide)).mpr q⟩
            refine PW.jz_eq q_36_31 rfl (fun h26 => ?_) (fun h26 => False.elim (by omega))
            refine PW.iload q_36_69 rfl ?_
            refine PW.rZ q_36_71 rfl (by omega) (by omega) (by decide) (by decide) ?_
            exact hK v5 M10 IM10 FM10 (by omega) (by omega) (Or.inl ⟨by omega, j0, o0, ⟨T0, by omega, B1, PtM10, ((congrArg (fun e => o_i e 0) (Fr.at GM10 kd_267 (by decide))).trans K0.2.2.2.2)⟩, (fun h => by rcases h.2 with q | q; (· exact N0 rfl ⟨h.1, q⟩); (· exact snM10 h.1 q))⟩)
    exact PW.lvS (lk1 rfl (lk1 rfl (lk1 rfl (lk1 rfl (lk1 rfl (lk1 rfl lk0)))))) (L36_12_4 _ M1 x2 c3 IM1 FM1 (by omega) (by omega) (by omega) (by omega) (Or.inl ⟨by omega, jM1, oM1, (s_ok.mono PkM1 (by omega)), (fun _ => Pn2M1)⟩) (Fr.at GM1 kd_4 (by decide)) (Fr.at GM1 kd_5 (by decide)) rfl)
  · skip
    refine PW.istore q_36_7 (by decide) ?_
    refine PW.cI q_36_9 (by decide) fun c27 hc27 => ?_
    refine PW.istore q_36_10 (by decide) ?_
    have L36_12_28 : ∀ (n : Nat) (ML36_12_28 : pM) (v29 v30 : Int32), Iv (V) ML36_12_28 → Fr [1, 14, 15, 16, 17] M ML36_12_28 → 0 ≤ v29.toInt → v29.toInt ≤ 1 → 0 ≤ v30.toInt → v30.toInt ≤ 20 → s_li y f m i st on 17 ML36_12_28 v29.toInt v30.toInt → ML36_12_28 4 = M 4 → ML36_12_28 5 = M 5 → (20 - v30.toInt).toNat = n → PW G false 17 36 (p_mc 36) (p_msl 36) Kr 12 [(0, .ref 267), (1, .ref 1), (2, .ref 4), (3, .int a3), (4, .int v29), (5, .int v30)] [] 311 ML36_12_28 0 0 := by
      intro n
      induction n using Nat.strongRecOn with
      | ind n ih_L36_12_28 =>
      intro ML36_12_28 v29 v30 IML36_12_28 FML36_12_28 hbL36_12_280 hbL36_12_281 hbL36_12_282 hbL36_12_283 hbL36_12_284 hbL36_12_285 hbL36_12_286 hmL36_12_28
      refine PW.iload q_36_12 rfl ?_
      refine PW.cB q_36_14 (by decide) fun c31 hc31 => ?_
      refine PW.jc_ge q_36_16 rfl (fun h32 => ?_) (fun h32 => ?_)
      · skip
        refine PW.iload q_36_69 rfl ?_
        refine PW.rZ q_36_71 rfl (by omega) (by omega) (by decide) (by decide) ?_
        exact hK v29 ML36_12_28 IML36_12_28 FML36_12_28 (by omega) (by omega) (Or.inr ⟨(s_li.full hbL36_12_284 (by omega) hp_4).1, (s_li.full hbL36_12_284 (by omega) hp_4).2⟩)
      · skip
        refine PW.iload q_36_19 rfl ?_
        refine PW.jz_eq q_36_21 rfl (fun h33 => ?_) (fun h33 => ?_)
        · skip
          refine PW.iload q_36_69 rfl ?_
          refine PW.rZ q_36_71 rfl (by omega) (by omega) (by decide) (by decide) ?_
          exact hK v29 ML36_12_28 IML36_12_28 FML36_12_28 (by omega) (by omega) (Or.inr ⟨by omega, (s_li.no hbL36_12_284 (by omega))⟩)
        · skip
          obtain ⟨j0, o0, K0, N0⟩ : ∃ (j0 : Nat) (o0 : Int), s_ok y f m (i, false, st, on) st (on + v30.toInt) ML36_12_28 j0 o0 ∧ (17 = 17 → ¬ (kK y j0 = 2 ∧ s_wn y j0 = 18)) := by rcases hbL36_12_284 with q | q; (· exact q.2); (· omega)
          have T0 := K0.1
          have B0 := K0.2.1
          have B1 := K0.2.2.1
          refine PW.aload_n q_36_24 rfl ?_
          refine PW.gets q_36_25 t_st_36_54 ?_
          refine PW.cV (as := [_]) (rest := []) q_36_28 t_mv_36_58 kd_1 IML36_12_28.1 (by decide) rfl (by decide) rfl rfl (Nat.le_of_ble_eq_true rfl) (Nat.le_of_ble_eq_true rfl) (by decide) (by decide) ?_
          refine PW.up (by decide) (c_X7_takes_vk (V) (hV) G _ ML36_12_28 IML36_12_28 17 (by decide) y (j0) K0.2.2.2.1 fun x35 M34 IM34 GM34 hx35 kx35 PM34 => ?_)
          have FM34 := Fr.trans FML36_12_28 GM34 (rfl)
          rcases PM34 with ⟨PaM34, PbM34, PcM34, PtM34⟩ | ⟨PaM34, PnM34, PtM34⟩
          · skip
            have swM34 := (s_wn_iff (x := y) (i := j0) (show 17 < 28 by decide)).mp PcM34
            refine PW.jz_eq q_36_31 rfl (fun h36 => False.elim (by omega)) (fun h36 => ?_)
            have e0 : s_st y f m (j0, true, st, o0) = (0, 0, (j0 + 1, false, st, o0)) := by show s_bh y j0 st o0 = _; unfold s_bh; rw [if_pos ⟨PbM34, by omega⟩]
            refine PW.aload_n q_36_34 rfl ?_
            refine PW.aload_n q_36_35 rfl ?_
            refine PW.aload_n q_36_36 rfl ?_
            refine PW.iload_n q_36_37 rfl ?_
            refine PW.cV (as := [_, _, _]) (rest := []) q_36_38 t_mv_36_51 kd_267 IM34.1 (by decide) rfl (by decide) rfl rfl (Nat.le_of_ble_eq_true rfl) (Nat.le_of_ble_eq_true rfl) (by decide) (by decide) ?_
            refine PW.up (by decide) (c_X4_readAll_vk5 (V) (hV) G _ M34 IM34 a3 (by omega) (by omega) y (j0 + 1) f m st o0 PtM34 ((hp_1.cg hbL36_12_285 hbL36_12_286).cg (Fr.at GM34 kd_4 (by decide)) (Fr.at GM34 kd_5 (by decide))) ((congrArg (fun e => o_i e 0) (Fr.at GM34 kd_267 (by decide))).trans K0.2.2.2.2) hp_3 (by omega) hp_5 fun x38 M37 IM37 GM37 hx38 kx38 PM37 => ?_)
            have FM37 := Fr.trans FM34 GM37 (rfl)
            rcases PM37 with ⟨PaM37, jM37, oM37, PkM37, Pn2M37⟩ | ⟨PaM37, PkM37⟩
            · skip
              have koM37 := PkM37.2
              refine PW.jz_eq q_36_41 rfl (fun h39 => False.elim (by omega)) (fun h39 => ?_)
              refine PW.aload_n q_36_44 rfl ?_
              refine PW.gets q_36_45 t_st_36_54 ?_
              refine PW.cI q_36_48 (by decide) fun c40 hc40 => ?_
              refine PW.cI q_36_49 (by decide) fun c41 hc41 => ?_
              refine PW.cV (as := [_, _, _]) (rest := []) q_36_50 t_mv_36_62 kd_267 IM37.1 (by decide) rfl (by decide) rfl rfl (Nat.le_of_ble_eq_true rfl) (Nat.le_of_ble_eq_true rfl) (by decide) (by decide) ?_
              refine PW.up (by decide) (c_X4_add_vk (V) (hV) G _ M37 IM37 17 (by decide) c40 c41 (by omega) (by omega) fun x43 M42 IM42 GM42 hx43 kx43 PM42 => ?_)
              have FM42 := Fr.trans FM37 GM42 (rfl)
              have PoM42 := PM42
              refine PW.jz_eq q_36_53 rfl (fun h44 => False.elim (by omega)) (fun h44 => ?_)
              refine PW.cI q_36_56 (by decide) fun c45 hc45 => ?_
              refine PW.goto q_36_57 rfl ?_
              refine PW.istore q_36_61 (by decide) ?_
              refine PW.incN q_36_63 rfl (by decide) (by decide) (by omega) (by omega) fun x46 hx46 => ?_
              refine PW.goto q_36_66 rfl ?_
              refine PW.lvS (lk1 rfl (lk1 rfl (lk1 rfl (lk1 rfl (lk1 rfl (lk1 rfl lk0)))))) (ih_L36_12_28 _ ?_ M42 c45 x46 IM42 FM42 (by omega) (by omega) (by omega) (by omega) (Or.inl ⟨by omega, jM37, oM37, ((s_ok.next (c := x46.toInt) PkM37 (T0.trans (s_to.of e0)) (by have := K0.2.1; omega)).cg (Fr.at GM42 kd_1 (by decide)) (Fr.at GM42 kd_2 (by decide)) PoM42), (fun _ => Pn2M37)⟩) (((Fr.at GM42 kd_4 (by decide)).trans ((Fr.at GM37 kd_4 (by decide)).trans (Fr.at GM34 kd_4 (by decide)))).trans hbL36_12_285) (((Fr.at GM42 kd_5 (by decide)).trans ((Fr.at GM37 kd_5 (by decide)).trans (Fr.at GM34 kd_5 (by decide)))).trans hbL36_12_286) rfl)
              omega
            · skip
              refine PW.jz_eq q_36_41 rfl (fun h47 => ?_) (fun h47 => False.elim (by omega))
              refine PW.cI q_36_60 (by decide) fun c48 hc48 => ?_
              refine PW.istore q_36_61 (by decide) ?_
              refine PW.incN q_36_63 rfl (by decide) (by decide) (by omega) (by omega) fun x49 hx49 => ?_
              refine PW.goto q_36_66 rfl ?_
              refine PW.lvS (lk1 rfl (lk1 rfl (lk1 rfl (lk1 rfl (lk1 rfl (lk1 rfl lk0)))))) (ih_L36_12_28 _ ?_ M37 c48 x49 IM37 FM37 (by omega) (by omega) (by omega) (by omega) (Or.inr ⟨by omega, ((s_bad.to PkM37 (T0.trans (s_to.of e0))).cg rfl)⟩) (((Fr.at GM37 kd_4 (by decide)).trans (Fr.at GM34 kd_4 (by decide))).trans hbL36_12_285) (((Fr.at GM37 kd_5 (by decide)).trans (Fr.at GM34 kd_5 (by decide))).trans hbL36_12_286) rfl)
              omega
          · skip
            have snM34 : kK y (j0) = 2 → s_wn y (j0) ≠ 17 := fun h q => PnM34 ⟨h, (s_wn_iff (show 17 < 28 by decide)).mpr q⟩
            refine PW.jz_eq q_36_31 rfl (fun h50 => ?_) (fun h50 => False.elim (by omega))
            refine PW.iload q_36_69 rfl ?_
            refine PW.rZ q_36_71 rfl (by omega) (by omega) (by decide) (by decide) ?_
            exact hK v29 M34 IM34 FM34 (by omega) (by omega) (Or.inl ⟨by omega, j0, o0, ⟨T0, by omega, B1, PtM34, ((congrArg (fun e => o_i e 0) (Fr.at GM34 kd_267 (by decide))).trans K0.2.2.2.2)⟩, (fun h => by rcases h.2 with q | q; (· exact N0 rfl ⟨h.1, q⟩); (· exact snM34 h.1 q))⟩)
    exact PW.lvS (lk1 rfl (lk1 rfl (lk1 rfl (lk1 rfl (lk1 rfl (lk1 rfl lk0)))))) (L36_12_28 _ M1 x2 c27 IM1 FM1 (by omega) (by omega) (by omega) (by omega) (Or.inr ⟨by omega, PkM1⟩) (Fr.at GM1 kd_4 (by decide)) (Fr.at GM1 kd_5 (by decide)) rfl)
theorem c_X4_readOne_vk4 (V : pM → Prop) (hV : Stab V) (G : pG) (Kr : pK) (M : pM) (I : Iv V M) (a3 : Int32) (hl_a3 : 4 ≤ a3.toInt) (hh_a3 : a3.toInt ≤ 4) (y : k_X) (i : Nat) (f : Nat → Int) (m : Int) (st : List Bool) (on : Int) (hp_0 : k_at y M i) (hp_1 : s_nm M f m) (hp_2 : o_i (M 267) 0 = on) (hp_3 : st.length + 1 = 4) (hp_4 : 0 ≤ on) (hK : ∀ (x : Int32) (M1 : pM), Iv V M1 → Fr [1, 14, 15, 16, 17] M M1 → 0 ≤ x.toInt → x.toInt ≤ 1 → (s_oq y f m i st on x M1) → Kr.1 (some (.int x)) 311 M1) : PW G false 18 38 (p_mc 38) (p_msl 38) Kr 0 (lv_args 0 [.ref 267, .ref 1, .ref 4, .int a3]) [] 311 M 0 0 := by
  have F : Fr [1, 14, 15, 16, 17] M M := Fr.refl
  obtain ⟨w267_0, fw267_0, hw267_0, kw267_0⟩ := gF_14_0.int kd_267 I.1 (by decide)
  have iw267_0 := o_i_of fw267_0
  have jw267_0 : w267_0.toInt = on := by have w := hp_2; omega
  refine PW.aload_n q_38_0 rfl ?_
  refine PW.callS (as := [_]) (rest := []) q_38_1 t_ms_38_72 (by decide) rfl (Nat.le_of_ble_eq_true rfl) (Nat.le_of_ble_eq_true rfl) (by decide) (by decide) ?_
  refine PW.up (by decide) (c_X4_beginsOne_vk (V) (hV) G _ M I y (i) hp_0 fun x2  hx2 kx2 PM1 => ?_)
  rcases PM1 with ⟨PaM1, PbM1⟩ | ⟨PaM1, PnM1⟩
  · skip
    refine PW.jz_ne q_38_4 rfl (fun h3 => ?_) (fun h3 => False.elim (by omega))
    refine PW.aload_n q_38_13 rfl ?_
    refine PW.gE q_38_14 (Or.inl t_ft_38_27) gF_14_0 kd_267 I.1 (by decide) fw267_0 ?_
    refine PW.cB q_38_17 (by decide) fun c4 hc4 => ?_
    refine PW.jc_ge q_38_19 rfl (fun h5 => ?_) (fun h5 => ?_)
    · skip
      refine PW.aload_n q_38_28 rfl ?_
      refine PW.cI q_38_29 (by decide) fun c6 hc6 => ?_
      refine PW.cV (as := [_]) (rest := []) q_38_30 t_mv_38_76 kd_1 I.1 (by decide) rfl (by decide) rfl rfl (Nat.le_of_ble_eq_true rfl) (Nat.le_of_ble_eq_true rfl) (by decide) (by decide) ?_
      refine PW.up (by decide) (c_X7_fail_vk (V) (hV) G _ M I c6 y (i) hp_0 fun x8 M7 IM7 GM7 hx8 kx8 PM7 => ?_)
      have FM7 := Fr.trans F GM7 (rfl)
      rcases PM7 with ⟨PfM7, PgM7⟩
      refine PW.rZ q_38_33 rfl (by omega) (by omega) (by decide) (by decide) ?_
      have e : s_st y f m (i, false, st, on) = (4, kP y i, (0, false, [], 0)) := by show s_op y f m i st on = _; unfold s_op; rw [if_neg (not_not_intro PbM1), if_pos (by omega)]
      exact hK x8 M7 IM7 FM7 (by omega) (by omega) (Or.inr ⟨by omega, s_bad.of e (by omega) (by omega) (by omega) (by omega)⟩)
    · skip
      refine PW.iload_n q_38_22 rfl ?_
      refine PW.cB q_38_23 (by decide) fun c9 hc9 => ?_
      refine PW.jc_le q_38_25 rfl (fun h10 => ?_) (fun h10 => False.elim (by omega))
      refine PW.aload_n q_38_34 rfl ?_
      refine PW.dup q_38_35 rfl ?_
      refine PW.gE q_38_36 (Or.inl t_ft_38_27) gF_14_0 kd_267 I.1 (by decide) fw267_0 ?_
      refine PW.cI q_38_39 (by decide) fun c11 hc11 => ?_
      refine PW.addN q_38_40 (by omega) (by omega) fun x12 hx12 => ?_
      refine PW.pI q_38_41 (Or.inl t_ft_38_27) gF_14_0 gP_14_0 kd_267 hV I (by decide) rfl (n_lo _) (n_hi _) fun M13 IM13 fM13 UM13 => ?_
      have FM13 := Fr.pu F UM13.1 kd_267 (rfl : List.contains [1, 14, 15, 16, 17] 14 = true)
      have b1 : kK y i = 2 ∨ kK y i = 5 := by rcases PbM1 with q | q; (· exact Or.inr q.1); (· exact Or.inl q.1)
      have on1 : o_i (M13 267) 0 = on + 1 := by have w := o_i_of fM13; omega
      refine PW.aload_n q_38_44 rfl ?_
      refine PW.gets q_38_45 t_st_38_80 ?_
      refine PW.cV (as := [_]) (rest := []) q_38_48 t_mv_38_58 kd_1 IM13.1 (by decide) rfl (by decide) rfl rfl (Nat.le_of_ble_eq_true rfl) (Nat.le_of_ble_eq_true rfl) (by decide) (by decide) ?_
      refine PW.up (by decide) (c_X7_takes_vk (V) (hV) G _ M13 IM13 19 (by decide) y (i) (hp_0.cg (UM13.1 _ (g_ne kd_1 kd_267 (by decide))) (UM13.1 _ (g_ne kd_2 kd_267 (by decide)))) fun x15 M14 IM14 GM14 hx15 kx15 PM14 => ?_)
      have FM14 := Fr.trans FM13 GM14 (rfl)
      rcases PM14 with ⟨PaM14, PbM14, PcM14, PtM14⟩ | ⟨PaM14, PnM14, PtM14⟩
      · skip
        have swM14 := (s_wn_iff (x := y) (i := i) (show 19 < 28 by decide)).mp PcM14
        refine PW.jz_eq q_38_51 rfl (fun h16 => False.elim (by omega)) (fun h16 => ?_)
        refine PW.aload_n q_38_54 rfl ?_
        refine PW.aload_n q_38_55 rfl ?_
        refine PW.aload_n q_38_56 rfl ?_
        refine PW.iload_n q_38_57 rfl ?_
        refine PW.cI q_38_58 (by decide) fun c17 hc17 => ?_
        refine PW.addN q_38_59 (by omega) (by omega) fun x18 hx18 => ?_
        refine PW.cV (as := [_, _, _]) (rest := []) q_38_60 t_mv_38_66 kd_267 IM14.1 (by decide) rfl (by decide) rfl rfl (Nat.le_of_ble_eq_true rfl) (Nat.le_of_ble_eq_true rfl) (by decide) (by decide) ?_
        refine PW.up (by decide) (c_X4_readOne_vk5 (V) (hV) G _ M14 IM14 x18 (by omega) (by omega) y (i + 1) f m (false :: st) (on + 1) PtM14 (hp_1.cg ((Fr.at GM14 kd_4 (by decide)).trans (UM13.1 _ (g_ne kd_4 kd_267 (by decide)))) ((Fr.at GM14 kd_5 (by decide)).trans (UM13.1 _ (g_ne kd_5 kd_267 (by decide))))) ((congrArg (fun e => o_i e 0) (Fr.at GM14 kd_267 (by decide))).trans on1) (by rw [List.length_cons]; omega) (by omega) fun x20 M19 IM19 GM19 hx20 kx20 PM19 => ?_)
        have FM19 := Fr.trans FM14 GM19 (rfl)
        rcases PM19 with ⟨PaM19, jM19, oM19, PkM19⟩ | ⟨PaM19, PkM19⟩
        · skip
          have koM19 := PkM19.2
          refine PW.jz_eq q_38_63 rfl (fun h21 => False.elim (by omega)) (fun h21 => ?_)
          refine PW.aload_n q_38_66 rfl ?_
          refine PW.gets q_38_67 t_st_38_80 ?_
          refine PW.cI q_38_70 (by decide) fun c22 hc22 => ?_
          refine PW.cI q_38_71 (by decide) fun c23 hc23 => ?_
          refine PW.cV (as := [_, _, _]) (rest := []) q_38_72 t_mv_38_62 kd_267 IM19.1 (by decide) rfl (by decide) rfl rfl (Nat.le_of_ble_eq_true rfl) (Nat.le_of_ble_eq_true rfl) (by decide) (by decide) ?_
          refine PW.up (by decide) (c_X4_add_vk (V) (hV) G _ M19 IM19 19 (by decide) c22 c23 (by omega) (by omega) fun x25 M24 IM24 GM24 hx25 kx25 PM24 => ?_)
          have FM24 := Fr.trans FM19 GM24 (rfl)
          have PoM24 := PM24
          refine PW.jz_eq q_38_75 rfl (fun h26 => False.elim (by omega)) (fun h26 => ?_)
          refine PW.cI q_38_78 (by decide) fun c27 hc27 => ?_
          refine PW.goto q_38_79 rfl ?_
          refine PW.rZ q_38_83 rfl (by omega) (by omega) (by decide) (by decide) ?_
          have e : s_st y f m (i, false, st, on) = (0, 0, (i + 1, false, false :: st, on + 1)) := by show s_op y f m i st on = _; unfold s_op; rw [if_neg (not_not_intro PbM1), if_neg (by omega), if_pos ⟨PbM14, by omega⟩]
          exact hK c27 M24 IM24 FM24 (by omega) (by omega) (Or.inl ⟨by omega, jM19, oM19, ((s_ok.next (on := on) (c := 1) PkM19 (s_to.of e) (by omega)).mono (on1 := on) (by omega)).cg (Fr.at GM24 kd_1 (by decide)) (Fr.at GM24 kd_2 (by decide)) PoM24⟩)
        · skip
          refine PW.jz_eq q_38_63 rfl (fun h28 => ?_) (fun h28 => False.elim (by omega))
          refine PW.cI q_38_82 (by decide) fun c29 hc29 => ?_
          refine PW.rZ q_38_83 rfl (by omega) (by omega) (by decide) (by decide) ?_
          have e : s_st y f m (i, false, st, on) = (0, 0, (i + 1, false, false :: st, on + 1)) := by show s_op y f m i st on = _; unfold s_op; rw [if_neg (not_not_intro PbM1), if_neg (by omega), if_pos ⟨PbM14, by omega⟩]
          exact hK c29 M19 IM19 FM19 (by omega) (by omega) (Or.inr ⟨by omega, (s_bad.to PkM19 (s_to.of e)).cg rfl⟩)
      · skip
        have snM14 : kK y (i) = 2 → s_wn y (i) ≠ 19 := fun h q => PnM14 ⟨h, (s_wn_iff (show 19 < 28 by decide)).mpr q⟩
        refine PW.jz_eq q_38_51 rfl (fun h30 => ?_) (fun h30 => False.elim (by omega))
        refine PW.aload_n q_38_84 rfl ?_
        refine PW.cB q_38_85 (by decide) fun c31 hc31 => ?_
        refine PW.cV (as := [_]) (rest := []) q_38_87 t_mv_38_83 kd_1 IM14.1 (by decide) rfl (by decide) rfl rfl (Nat.le_of_ble_eq_true rfl) (Nat.le_of_ble_eq_true rfl) (by decide) (by decide) ?_
        refine PW.up (by decide) (c_X7_seesSign_vk (V) (hV) G _ M14 IM14 c31 y (i) PtM14 fun x33  hx33 kx33 PM32 => ?_)
        rcases PM32 with ⟨PaM32, PbM32, PcM32⟩ | ⟨PaM32, PnM32⟩
        · skip
          refine PW.jz_eq q_38_90 rfl (fun h34 => False.elim (by omega)) (fun h34 => ?_)
          refine PW.aload_n q_38_93 rfl ?_
          refine PW.cV (as := []) (rest := []) q_38_94 t_mv_38_86 kd_1 IM14.1 (by decide) rfl (by decide) rfl rfl (Nat.le_of_ble_eq_true rfl) (Nat.le_of_ble_eq_true rfl) (by decide) (by decide) ?_
          refine PW.up (by decide) (c_X7_advance_vk (V) (hV) G _ M14 IM14 y (i + 1) (k_at.nx PtM14 (by omega)) fun M35 IM35 GM35 PM35 => ?_)
          have FM35 := Fr.trans FM14 GM35 (rfl)
          have PtM35 := PM35
          refine PW.aload_n q_38_97 rfl ?_
          refine PW.aload_n q_38_98 rfl ?_
          refine PW.aload_n q_38_99 rfl ?_
          refine PW.iload_n q_38_100 rfl ?_
          refine PW.cI q_38_101 (by decide) fun c36 hc36 => ?_
          refine PW.addN q_38_102 (by omega) (by omega) fun x37 hx37 => ?_
          refine PW.cV (as := [_, _, _]) (rest := []) q_38_103 t_mv_38_43 kd_267 IM35.1 (by decide) rfl (by decide) rfl rfl (Nat.le_of_ble_eq_true rfl) (Nat.le_of_ble_eq_true rfl) (by decide) (by decide) ?_
          refine PW.up (by decide) (c_X4_readAny_vk5 (V) (hV) G _ M35 IM35 x37 (by omega) (by omega) y (i + 1) f m (true :: st) (on + 1) PtM35 (hp_1.cg ((Fr.at GM35 kd_4 (by decide)).trans ((Fr.at GM14 kd_4 (by decide)).trans (UM13.1 _ (g_ne kd_4 kd_267 (by decide))))) ((Fr.at GM35 kd_5 (by decide)).trans ((Fr.at GM14 kd_5 (by decide)).trans (UM13.1 _ (g_ne kd_5 kd_267 (by decide)))))) (((congrArg (fun e => o_i e 0) (Fr.at GM35 kd_267 (by decide))).trans (congrArg (fun e => o_i e 0) (Fr.at GM14 kd_267 (by decide)))).trans on1) (by rw [List.length_cons]; omega) (by omega) rfl fun x39 M38 IM38 GM38 hx39 kx39 PM38 => ?_)
          have FM38 := Fr.trans FM35 GM38 (rfl)
          rcases PM38 with ⟨PaM38, jM38, oM38, PkM38, Pn2M38⟩ | ⟨PaM38, PkM38⟩
          · skip
            have koM38 := PkM38.2
            refine PW.jz_eq q_38_106 rfl (fun h40 => False.elim (by omega)) (fun h40 => ?_)
            refine PW.aload_n q_38_109 rfl ?_
            refine PW.cB q_38_110 (by decide) fun c41 hc41 => ?_
            refine PW.cV (as := [_]) (rest := []) q_38_112 t_mv_38_89 kd_1 IM38.1 (by decide) rfl (by decide) rfl rfl (Nat.le_of_ble_eq_true rfl) (Nat.le_of_ble_eq_true rfl) (by decide) (by decide) ?_
            refine PW.up (by decide) (c_X7_needsSign_vk (V) (hV) G _ M38 IM38 c41 y (jM38) PkM38.2.2.2.1 fun x43 M42 IM42 GM42 hx43 kx43 PM42 => ?_)
            have FM42 := Fr.trans FM38 GM42 (rfl)
            rcases PM42 with ⟨PaM42, PbM42, PcM42, PtM42⟩ | ⟨PaM42, PnM42, PfM42, PgM42⟩
            · skip
              refine PW.jz_eq q_38_115 rfl (fun h44 => False.elim (by omega)) (fun h44 => ?_)
              refine PW.cI q_38_118 (by decide) fun c45 hc45 => ?_
              refine PW.goto q_38_119 rfl ?_
              refine PW.rZ q_38_123 rfl (by omega) (by omega) (by decide) (by decide) ?_
              have e : s_st y f m (i, false, st, on) = (0, 0, (i + 1, false, true :: st, on + 1)) := by show s_op y f m i st on = _; unfold s_op; rw [if_neg (not_not_intro PbM1), if_neg (by omega), if_neg (by omega), if_pos (by omega)]
              have e2 : s_st y f m (jM38, true, true :: st, oM38) = (0, 0, (jM38 + 1, true, s_dn st, oM38)) := by show s_bh y jM38 (true :: st) oM38 = _; unfold s_bh; rw [if_neg Pn2M38, if_pos ⟨⟨PbM42, PcM42.trans (by omega)⟩, List.cons_ne_nil _ _⟩]; rfl
              exact hK c45 M42 IM42 FM42 (by omega) (by omega) (Or.inl ⟨by omega, jM38 + 1, oM38, ((s_to.of e).trans PkM38.1).trans (s_to.of e2), by have := PkM38.2.1; omega, PkM38.2.2.1, PtM42, ((congrArg (fun e => o_i e 0) (Fr.at GM42 kd_267 (by decide))).trans PkM38.2.2.2.2)⟩)
            · skip
              refine PW.jz_eq q_38_115 rfl (fun h46 => ?_) (fun h46 => False.elim (by omega))
              refine PW.cI q_38_122 (by decide) fun c47 hc47 => ?_
              refine PW.rZ q_38_123 rfl (by omega) (by omega) (by decide) (by decide) ?_
              have e : s_st y f m (i, false, st, on) = (0, 0, (i + 1, false, true :: st, on + 1)) := by show s_op y f m i st on = _; unfold s_op; rw [if_neg (not_not_intro PbM1), if_neg (by omega), if_neg (by omega), if_pos (by omega)]
              have e2 : s_st y f m (jM38, true, true :: st, oM38) = (1, kP y jM38, (0, false, [], 0)) := by show s_bh y jM38 (true :: st) oM38 = _; unfold s_bh; rw [if_neg Pn2M38, if_neg (fun h => PnM42 ⟨h.1.1, h.1.2.trans (by omega)⟩), if_neg (fun h => List.cons_ne_nil _ _ h.2)]
              exact hK c47 M42 IM42 FM42 (by omega) (by omega) (Or.inr ⟨by omega, ((s_bad.of e2 (by omega) (by omega) (by omega) (by omega)).to PkM38.1).to (s_to.of e)⟩)
          · skip
            refine PW.jz_eq q_38_106 rfl (fun h48 => ?_) (fun h48 => False.elim (by omega))
            refine PW.cI q_38_122 (by decide) fun c49 hc49 => ?_
            refine PW.rZ q_38_123 rfl (by omega) (by omega) (by decide) (by decide) ?_
            have e : s_st y f m (i, false, st, on) = (0, 0, (i + 1, false, true :: st, on + 1)) := by show s_op y f m i st on = _; unfold s_op; rw [if_neg (not_not_intro PbM1), if_neg (by omega), if_neg (by omega), if_pos (by omega)]
            exact hK c49 M38 IM38 FM38 (by omega) (by omega) (Or.inr ⟨by omega, (s_bad.to PkM38 (s_to.of e)).cg rfl⟩)
        · skip
          refine PW.jz_eq q_38_90 rfl (fun h50 => ?_) (fun h50 => False.elim (by omega))
          have k2 : kK y i = 2 := by rcases PbM1 with q | q; (· exact absurd ⟨q.1, q.2.trans (by omega)⟩ PnM32); (· exact q.1)
          have k3 : 20 ≤ s_wn y i ∧ s_wn y i ≤ 27 := by rcases PbM1 with q | q; (· omega); (· have u := snM14 q.1; omega)
          refine PW.aload_n q_38_124 rfl ?_
          refine PW.aload_n q_38_125 rfl ?_
          refine PW.aload_n q_38_126 rfl ?_
          refine PW.cV (as := [_, _]) (rest := []) q_38_127 t_mv_38_92 kd_267 IM14.1 (by decide) rfl (by decide) rfl rfl (Nat.le_of_ble_eq_true rfl) (Nat.le_of_ble_eq_true rfl) (by decide) (by decide) ?_
          refine PW.up (by decide) (c_X4_readPlain_vk (V) (hV) G _ M14 IM14 y (i) f m PtM14 (hp_1.cg ((Fr.at GM14 kd_4 (by decide)).trans (UM13.1 _ (g_ne kd_4 kd_267 (by decide)))) ((Fr.at GM14 kd_5 (by decide)).trans (UM13.1 _ (g_ne kd_5 kd_267 (by decide))))) (by omega) (by omega) (by omega) fun x52 M51 IM51 GM51 hx52 kx52 PM51 => ?_)
          have FM51 := Fr.trans FM14 GM51 (rfl)
          rcases PM51 with ⟨PaM51, PbM51, PtM51, PoM51⟩ | ⟨PaM51, PbM51, PfM51, PgM51⟩
          · skip
            refine PW.rZ q_38_130 rfl (by omega) (by omega) (by decide) (by decide) ?_
            have e : s_st y f m (i, false, st, on) = (0, 0, ((s_pn y f m i).2.2, true, s_dn st, on + 1)) := by show s_op y f m i st on = _; unfold s_op; rw [if_neg (not_not_intro PbM1), if_neg (by omega), if_neg (by omega), if_neg (by omega), if_neg (not_not_intro PbM51)]
            exact hK x52 M51 IM51 FM51 (by omega) (by omega) (Or.inl ⟨by omega, (s_pn y f m i).2.2, on + 1, s_to.of e, by omega, by omega, PtM51, (PoM51.trans ((congrArg (fun e => o_i e 0) (Fr.at GM14 kd_267 (by decide))).trans on1))⟩)
          · skip
            refine PW.rZ q_38_130 rfl (by omega) (by omega) (by decide) (by decide) ?_
            have pb := s_pn_b y f m i
            have e : s_st y f m (i, false, st, on) = ((s_pn y f m i).1, (s_pn y f m i).2.1, (0, false, [], 0)) := by show s_op y f m i st on = _; unfold s_op; rw [if_neg (not_not_intro PbM1), if_neg (by omega), if_neg (by omega), if_neg (by omega), if_pos PbM51]
            exact hK x52 M51 IM51 FM51 (by omega) (by omega) (Or.inr ⟨by omega, s_bad.of e (by omega) (by omega) (by omega) (by omega)⟩)
  · skip
    refine PW.jz_ne q_38_4 rfl (fun h53 => False.elim (by omega)) (fun h53 => ?_)
    refine PW.aload_n q_38_7 rfl ?_
    refine PW.cI q_38_8 (by decide) fun c54 hc54 => ?_
    refine PW.cV (as := [_]) (rest := []) q_38_9 t_mv_38_76 kd_1 I.1 (by decide) rfl (by decide) rfl rfl (Nat.le_of_ble_eq_true rfl) (Nat.le_of_ble_eq_true rfl) (by decide) (by decide) ?_
    refine PW.up (by decide) (c_X7_fail_vk (V) (hV) G _ M I c54 y (i) hp_0 fun x56 M55 IM55 GM55 hx56 kx56 PM55 => ?_)
    have FM55 := Fr.trans F GM55 (rfl)
    rcases PM55 with ⟨PfM55, PgM55⟩
    refine PW.rZ q_38_12 rfl (by omega) (by omega) (by decide) (by decide) ?_
    have e : s_st y f m (i, false, st, on) = (1, kP y i, (0, false, [], 0)) := by show s_op y f m i st on = _; unfold s_op; rw [if_pos PnM1]
    exact hK x56 M55 IM55 FM55 (by omega) (by omega) (Or.inr ⟨by omega, s_bad.of e (by omega) (by omega) (by omega) (by omega)⟩)
theorem c_X4_readAll_vk4 (V : pM → Prop) (hV : Stab V) (G : pG) (Kr : pK) (M : pM) (I : Iv V M) (a3 : Int32) (hl_a3 : 4 ≤ a3.toInt) (hh_a3 : a3.toInt ≤ 4) (y : k_X) (i : Nat) (f : Nat → Int) (m : Int) (st : List Bool) (on : Int) (hp_0 : k_at y M i) (hp_1 : s_nm M f m) (hp_2 : o_i (M 267) 0 = on) (hp_3 : st.length + 1 = 4) (hp_4 : 0 ≤ on) (hp_5 : s_dn st = st) (hK : ∀ (x : Int32) (M1 : pM), Iv V M1 → Fr [1, 14, 15, 16, 17] M M1 → 0 ≤ x.toInt → x.toInt ≤ 1 → (s_lq y f m i st on x M1) → Kr.1 (some (.int x)) 311 M1) : PW G false 19 37 (p_mc 37) (p_msl 37) Kr 0 (lv_args 0 [.ref 267, .ref 1, .ref 4, .int a3]) [] 311 M 0 0 := by
  have F : Fr [1, 14, 15, 16, 17] M M := Fr.refl
  obtain ⟨w267_0, fw267_0, hw267_0, kw267_0⟩ := gF_14_0.int kd_267 I.1 (by decide)
  have iw267_0 := o_i_of fw267_0
  have jw267_0 : w267_0.toInt = on := by have w := hp_2; omega
  refine PW.aload_n q_37_0 rfl ?_
  refine PW.aload_n q_37_1 rfl ?_
  refine PW.aload_n q_37_2 rfl ?_
  refine PW.iload_n q_37_3 rfl ?_
  refine PW.cV (as := [_, _, _]) (rest := []) q_37_4 t_mv_37_66 kd_267 I.1 (by decide) rfl (by decide) rfl rfl (Nat.le_of_ble_eq_true rfl) (Nat.le_of_ble_eq_true rfl) (by decide) (by decide) ?_
  refine PW.up (by decide) (c_X4_readOne_vk4 (V) (hV) G _ M I a3 (by omega) (by omega) y (i) f m st on hp_0 hp_1 hp_2 hp_3 (by omega) fun x2 M1 IM1 GM1 hx2 kx2 PM1 => ?_)
  have FM1 := Fr.trans F GM1 (rfl)
  rcases PM1 with ⟨PaM1, jM1, oM1, PkM1⟩ | ⟨PaM1, PkM1⟩
  · skip
    have koM1 := PkM1.2
    refine PW.istore q_37_7 (by decide) ?_
    refine PW.cI q_37_9 (by decide) fun c3 hc3 => ?_
    refine PW.istore q_37_10 (by decide) ?_
    have L37_12_4 : ∀ (n : Nat) (ML37_12_4 : pM) (v5 v6 : Int32), Iv (V) ML37_12_4 → Fr [1, 14, 15, 16, 17] M ML37_12_4 → 0 ≤ v5.toInt → v5.toInt ≤ 1 → 0 ≤ v6.toInt → v6.toInt ≤ 20 → s_li y f m i st on 18 ML37_12_4 v5.toInt v6.toInt → ML37_12_4 4 = M 4 → ML37_12_4 5 = M 5 → (20 - v6.toInt).toNat = n → PW G false 19 37 (p_mc 37) (p_msl 37) Kr 12 [(0, .ref 267), (1, .ref 1), (2, .ref 4), (3, .int a3), (4, .int v5), (5, .int v6)] [] 311 ML37_12_4 0 0 := by
      intro n
      induction n using Nat.strongRecOn with
      | ind n ih_L37_12_4 =>
      intro ML37_12_4 v5 v6 IML37_12_4 FML37_12_4 hbL37_12_40 hbL37_12_41 hbL37_12_42 hbL37_12_43 hbL37_12_44 hbL37_12_45 hbL37_12_46 hmL37_12_4
      refine PW.iload q_37_12 rfl ?_
      refine PW.cB q_37_14 (by decide) fun c7 hc7 => ?_
      refine PW.jc_ge q_37_16 rfl (fun h8 => ?_) (fun h8 => ?_)
      · skip
        refine PW.iload q_37_69 rfl ?_
        refine PW.rZ q_37_71 rfl (by omega) (by omega) (by decide) (by decide) ?_
        exact hK v5 ML37_12_4 IML37_12_4 FML37_12_4 (by omega) (by omega) (Or.inr ⟨(s_li.full hbL37_12_44 (by omega) hp_4).1, (s_li.full hbL37_12_44 (by omega) hp_4).2⟩)
      · skip
        refine PW.iload q_37_19 rfl ?_
        refine PW.jz_eq q_37_21 rfl (fun h9 => ?_) (fun h9 => ?_)
        · skip
          refine PW.iload q_37_69 rfl ?_
          refine PW.rZ q_37_71 rfl (by omega) (by omega) (by decide) (by decide) ?_
          exact hK v5 ML37_12_4 IML37_12_4 FML37_12_4 (by omega) (by omega) (Or.inr ⟨by omega, (s_li.no hbL37_12_44 (by omega))⟩)
        · skip
          obtain ⟨j0, o0, K0, N0⟩ : ∃ (j0 : Nat) (o0 : Int), s_ok y f m (i, false, st, on) st (on + v6.toInt) ML37_12_4 j0 o0 ∧ (18 = 17 → ¬ (kK y j0 = 2 ∧ s_wn y j0 = 18)) := by rcases hbL37_12_44 with q | q; (· exact q.2); (· omega)
          have T0 := K0.1
          have B0 := K0.2.1
          have B1 := K0.2.2.1
          refine PW.aload_n q_37_24 rfl ?_
          refine PW.gets q_37_25 t_st_37_69 ?_
          refine PW.cV (as := [_]) (rest := []) q_37_28 t_mv_37_58 kd_1 IML37_12_4.1 (by decide) rfl (by decide) rfl rfl (Nat.le_of_ble_eq_true rfl) (Nat.le_of_ble_eq_true rfl) (by decide) (by decide) ?_
          refine PW.up (by decide) (c_X7_takes_vk (V) (hV) G _ ML37_12_4 IML37_12_4 18 (by decide) y (j0) K0.2.2.2.1 fun x11 M10 IM10 GM10 hx11 kx11 PM10 => ?_)
          have FM10 := Fr.trans FML37_12_4 GM10 (rfl)
          rcases PM10 with ⟨PaM10, PbM10, PcM10, PtM10⟩ | ⟨PaM10, PnM10, PtM10⟩
          · skip
            have swM10 := (s_wn_iff (x := y) (i := j0) (show 18 < 28 by decide)).mp PcM10
            refine PW.jz_eq q_37_31 rfl (fun h12 => False.elim (by omega)) (fun h12 => ?_)
            have e0 : s_st y f m (j0, true, st, o0) = (0, 0, (j0 + 1, false, st, o0)) := by show s_bh y j0 st o0 = _; unfold s_bh; rw [if_pos ⟨PbM10, by omega⟩]
            refine PW.aload_n q_37_34 rfl ?_
            refine PW.aload_n q_37_35 rfl ?_
            refine PW.aload_n q_37_36 rfl ?_
            refine PW.iload_n q_37_37 rfl ?_
            refine PW.cV (as := [_, _, _]) (rest := []) q_37_38 t_mv_37_66 kd_267 IM10.1 (by decide) rfl (by decide) rfl rfl (Nat.le_of_ble_eq_true rfl) (Nat.le_of_ble_eq_true rfl) (by decide) (by decide) ?_
            refine PW.up (by decide) (c_X4_readOne_vk4 (V) (hV) G _ M10 IM10 a3 (by omega) (by omega) y (j0 + 1) f m st o0 PtM10 ((hp_1.cg hbL37_12_45 hbL37_12_46).cg (Fr.at GM10 kd_4 (by decide)) (Fr.at GM10 kd_5 (by decide))) ((congrArg (fun e => o_i e 0) (Fr.at GM10 kd_267 (by decide))).trans K0.2.2.2.2) hp_3 (by omega) fun x14 M13 IM13 GM13 hx14 kx14 PM13 => ?_)
            have FM13 := Fr.trans FM10 GM13 (rfl)
            rcases PM13 with ⟨PaM13, jM13, oM13, PkM13⟩ | ⟨PaM13, PkM13⟩
            · skip
              have koM13 := PkM13.2
              refine PW.jz_eq q_37_41 rfl (fun h15 => False.elim (by omega)) (fun h15 => ?_)
              refine PW.aload_n q_37_44 rfl ?_
              refine PW.gets q_37_45 t_st_37_69 ?_
              refine PW.cI q_37_48 (by decide) fun c16 hc16 => ?_
              refine PW.cI q_37_49 (by decide) fun c17 hc17 => ?_
              refine PW.cV (as := [_, _, _]) (rest := []) q_37_50 t_mv_37_62 kd_267 IM13.1 (by decide) rfl (by decide) rfl rfl (Nat.le_of_ble_eq_true rfl) (Nat.le_of_ble_eq_true rfl) (by decide) (by decide) ?_
              refine PW.up (by decide) (c_X4_add_vk (V) (hV) G _ M13 IM13 18 (by decide) c16 c17 (by omega) (by omega) fun x19 M18 IM18 GM18 hx19 kx19 PM18 => ?_)
              have FM18 := Fr.trans FM13 GM18 (rfl)
              have PoM18 := PM18
              refine PW.jz_eq q_37_53 rfl (fun h20 => False.elim (by omega)) (fun h20 => ?_)
              refine PW.cI q_37_56 (by decide) fun c21 hc21 => ?_
              refine PW.goto q_37_57 rfl ?_
              refine PW.istore q_37_61 (by decide) ?_
              refine PW.incN q_37_63 rfl (by decide) (by decide) (by omega) (by omega) fun x22 hx22 => ?_
              refine PW.goto q_37_66 rfl ?_
              refine PW.lvS (lk1 rfl (lk1 rfl (lk1 rfl (lk1 rfl (lk1 rfl (lk1 rfl lk0)))))) (ih_L37_12_4 _ ?_ M18 c21 x22 IM18 FM18 (by omega) (by omega) (by omega) (by omega) (Or.inl ⟨by omega, jM13, oM13, ((s_ok.next (c := x22.toInt) (by rw [hp_5] at PkM13; exact PkM13) (T0.trans (s_to.of e0)) (by have := K0.2.1; omega)).cg (Fr.at GM18 kd_1 (by decide)) (Fr.at GM18 kd_2 (by decide)) PoM18), (fun h => absurd h (by decide))⟩) (((Fr.at GM18 kd_4 (by decide)).trans ((Fr.at GM13 kd_4 (by decide)).trans (Fr.at GM10 kd_4 (by decide)))).trans hbL37_12_45) (((Fr.at GM18 kd_5 (by decide)).trans ((Fr.at GM13 kd_5 (by decide)).trans (Fr.at GM10 kd_5 (by decide)))).trans hbL37_12_46) rfl)
              omega
            · skip
              refine PW.jz_eq q_37_41 rfl (fun h23 => ?_) (fun h23 => False.elim (by omega))
              refine PW.cI q_37_60 (by decide) fun c24 hc24 => ?_
              refine PW.istore q_37_61 (by decide) ?_
              refine PW.incN q_37_63 rfl (by decide) (by decide) (by omega) (by omega) fun x25 hx25 => ?_
              refine PW.goto q_37_66 rfl ?_
              refine PW.lvS (lk1 rfl (lk1 rfl (lk1 rfl (lk1 rfl (lk1 rfl (lk1 rfl lk0)))))) (ih_L37_12_4 _ ?_ M13 c24 x25 IM13 FM13 (by omega) (by omega) (by omega) (by omega) (Or.inr ⟨by omega, ((s_bad.to PkM13 (T0.trans (s_to.of e0))).cg rfl)⟩) (((Fr.at GM13 kd_4 (by decide)).trans (Fr.at GM10 kd_4 (by decide))).trans hbL37_12_45) (((Fr.at GM13 kd_5 (by decide)).trans (Fr.at GM10 kd_5 (by decide))).trans hbL37_12_46) rfl)
              omega
          · skip
            have snM10 : kK y (j0) = 2 → s_wn y (j0) ≠ 18 := fun h q => PnM10 ⟨h, (s_wn_iff (show 18 < 28 by decide)).mpr q⟩
            refine PW.jz_eq q_37_31 rfl (fun h26 => ?_) (fun h26 => False.elim (by omega))
            refine PW.iload q_37_69 rfl ?_
            refine PW.rZ q_37_71 rfl (by omega) (by omega) (by decide) (by decide) ?_
            exact hK v5 M10 IM10 FM10 (by omega) (by omega) (Or.inl ⟨by omega, j0, o0, ⟨T0, by omega, B1, PtM10, ((congrArg (fun e => o_i e 0) (Fr.at GM10 kd_267 (by decide))).trans K0.2.2.2.2)⟩, (fun h => snM10 h.1 h.2)⟩)
    exact PW.lvS (lk1 rfl (lk1 rfl (lk1 rfl (lk1 rfl (lk1 rfl (lk1 rfl lk0)))))) (L37_12_4 _ M1 x2 c3 IM1 FM1 (by omega) (by omega) (by omega) (by omega) (Or.inl ⟨by omega, jM1, oM1, (s_ok.mono (by rw [hp_5] at PkM1; exact PkM1) (by omega)), (fun h => absurd h (by decide))⟩) (Fr.at GM1 kd_4 (by decide)) (Fr.at GM1 kd_5 (by decide)) rfl)
  · skip
    refine PW.istore q_37_7 (by decide) ?_
    refine PW.cI q_37_9 (by decide) fun c27 hc27 => ?_
    refine PW.istore q_37_10 (by decide) ?_
    have L37_12_28 : ∀ (n : Nat) (ML37_12_28 : pM) (v29 v30 : Int32), Iv (V) ML37_12_28 → Fr [1, 14, 15, 16, 17] M ML37_12_28 → 0 ≤ v29.toInt → v29.toInt ≤ 1 → 0 ≤ v30.toInt → v30.toInt ≤ 20 → s_li y f m i st on 18 ML37_12_28 v29.toInt v30.toInt → ML37_12_28 4 = M 4 → ML37_12_28 5 = M 5 → (20 - v30.toInt).toNat = n → PW G false 19 37 (p_mc 37) (p_msl 37) Kr 12 [(0, .ref 267), (1, .ref 1), (2, .ref 4), (3, .int a3), (4, .int v29), (5, .int v30)] [] 311 ML37_12_28 0 0 := by
      intro n
      induction n using Nat.strongRecOn with
      | ind n ih_L37_12_28 =>
      intro ML37_12_28 v29 v30 IML37_12_28 FML37_12_28 hbL37_12_280 hbL37_12_281 hbL37_12_282 hbL37_12_283 hbL37_12_284 hbL37_12_285 hbL37_12_286 hmL37_12_28
      refine PW.iload q_37_12 rfl ?_
      refine PW.cB q_37_14 (by decide) fun c31 hc31 => ?_
      refine PW.jc_ge q_37_16 rfl (fun h32 => ?_) (fun h32 => ?_)
      · skip
        refine PW.iload q_37_69 rfl ?_
        refine PW.rZ q_37_71 rfl (by omega) (by omega) (by decide) (by decide) ?_
        exact hK v29 ML37_12_28 IML37_12_28 FML37_12_28 (by omega) (by omega) (Or.inr ⟨(s_li.full hbL37_12_284 (by omega) hp_4).1, (s_li.full hbL37_12_284 (by omega) hp_4).2⟩)
      · skip
        refine PW.iload q_37_19 rfl ?_
        refine PW.jz_eq q_37_21 rfl (fun h33 => ?_) (fun h33 => ?_)
        · skip
          refine PW.iload q_37_69 rfl ?_
          refine PW.rZ q_37_71 rfl (by omega) (by omega) (by decide) (by decide) ?_
          exact hK v29 ML37_12_28 IML37_12_28 FML37_12_28 (by omega) (by omega) (Or.inr ⟨by omega, (s_li.no hbL37_12_284 (by omega))⟩)
        · skip
          obtain ⟨j0, o0, K0, N0⟩ : ∃ (j0 : Nat) (o0 : Int), s_ok y f m (i, false, st, on) st (on + v30.toInt) ML37_12_28 j0 o0 ∧ (18 = 17 → ¬ (kK y j0 = 2 ∧ s_wn y j0 = 18)) := by rcases hbL37_12_284 with q | q; (· exact q.2); (· omega)
          have T0 := K0.1
          have B0 := K0.2.1
          have B1 := K0.2.2.1
          refine PW.aload_n q_37_24 rfl ?_
          refine PW.gets q_37_25 t_st_37_69 ?_
          refine PW.cV (as := [_]) (rest := []) q_37_28 t_mv_37_58 kd_1 IML37_12_28.1 (by decide) rfl (by decide) rfl rfl (Nat.le_of_ble_eq_true rfl) (Nat.le_of_ble_eq_true rfl) (by decide) (by decide) ?_
          refine PW.up (by decide) (c_X7_takes_vk (V) (hV) G _ ML37_12_28 IML37_12_28 18 (by decide) y (j0) K0.2.2.2.1 fun x35 M34 IM34 GM34 hx35 kx35 PM34 => ?_)
          have FM34 := Fr.trans FML37_12_28 GM34 (rfl)
          rcases PM34 with ⟨PaM34, PbM34, PcM34, PtM34⟩ | ⟨PaM34, PnM34, PtM34⟩
          · skip
            have swM34 := (s_wn_iff (x := y) (i := j0) (show 18 < 28 by decide)).mp PcM34
            refine PW.jz_eq q_37_31 rfl (fun h36 => False.elim (by omega)) (fun h36 => ?_)
            have e0 : s_st y f m (j0, true, st, o0) = (0, 0, (j0 + 1, false, st, o0)) := by show s_bh y j0 st o0 = _; unfold s_bh; rw [if_pos ⟨PbM34, by omega⟩]
            refine PW.aload_n q_37_34 rfl ?_
            refine PW.aload_n q_37_35 rfl ?_
            refine PW.aload_n q_37_36 rfl ?_
            refine PW.iload_n q_37_37 rfl ?_
            refine PW.cV (as := [_, _, _]) (rest := []) q_37_38 t_mv_37_66 kd_267 IM34.1 (by decide) rfl (by decide) rfl rfl (Nat.le_of_ble_eq_true rfl) (Nat.le_of_ble_eq_true rfl) (by decide) (by decide) ?_
            refine PW.up (by decide) (c_X4_readOne_vk4 (V) (hV) G _ M34 IM34 a3 (by omega) (by omega) y (j0 + 1) f m st o0 PtM34 ((hp_1.cg hbL37_12_285 hbL37_12_286).cg (Fr.at GM34 kd_4 (by decide)) (Fr.at GM34 kd_5 (by decide))) ((congrArg (fun e => o_i e 0) (Fr.at GM34 kd_267 (by decide))).trans K0.2.2.2.2) hp_3 (by omega) fun x38 M37 IM37 GM37 hx38 kx38 PM37 => ?_)
            have FM37 := Fr.trans FM34 GM37 (rfl)
            rcases PM37 with ⟨PaM37, jM37, oM37, PkM37⟩ | ⟨PaM37, PkM37⟩
            · skip
              have koM37 := PkM37.2
              refine PW.jz_eq q_37_41 rfl (fun h39 => False.elim (by omega)) (fun h39 => ?_)
              refine PW.aload_n q_37_44 rfl ?_
              refine PW.gets q_37_45 t_st_37_69 ?_
              refine PW.cI q_37_48 (by decide) fun c40 hc40 => ?_
              refine PW.cI q_37_49 (by decide) fun c41 hc41 => ?_
              refine PW.cV (as := [_, _, _]) (rest := []) q_37_50 t_mv_37_62 kd_267 IM37.1 (by decide) rfl (by decide) rfl rfl (Nat.le_of_ble_eq_true rfl) (Nat.le_of_ble_eq_true rfl) (by decide) (by decide) ?_
              refine PW.up (by decide) (c_X4_add_vk (V) (hV) G _ M37 IM37 18 (by decide) c40 c41 (by omega) (by omega) fun x43 M42 IM42 GM42 hx43 kx43 PM42 => ?_)
              have FM42 := Fr.trans FM37 GM42 (rfl)
              have PoM42 := PM42
              refine PW.jz_eq q_37_53 rfl (fun h44 => False.elim (by omega)) (fun h44 => ?_)
              refine PW.cI q_37_56 (by decide) fun c45 hc45 => ?_
              refine PW.goto q_37_57 rfl ?_
              refine PW.istore q_37_61 (by decide) ?_
              refine PW.incN q_37_63 rfl (by decide) (by decide) (by omega) (by omega) fun x46 hx46 => ?_
              refine PW.goto q_37_66 rfl ?_
              refine PW.lvS (lk1 rfl (lk1 rfl (lk1 rfl (lk1 rfl (lk1 rfl (lk1 rfl lk0)))))) (ih_L37_12_28 _ ?_ M42 c45 x46 IM42 FM42 (by omega) (by omega) (by omega) (by omega) (Or.inl ⟨by omega, jM37, oM37, ((s_ok.next (c := x46.toInt) (by rw [hp_5] at PkM37; exact PkM37) (T0.trans (s_to.of e0)) (by have := K0.2.1; omega)).cg (Fr.at GM42 kd_1 (by decide)) (Fr.at GM42 kd_2 (by decide)) PoM42), (fun h => absurd h (by decide))⟩) (((Fr.at GM42 kd_4 (by decide)).trans ((Fr.at GM37 kd_4 (by decide)).trans (Fr.at GM34 kd_4 (by decide)))).trans hbL37_12_285) (((Fr.at GM42 kd_5 (by decide)).trans ((Fr.at GM37 kd_5 (by decide)).trans (Fr.at GM34 kd_5 (by decide)))).trans hbL37_12_286) rfl)
              omega
            · skip
              refine PW.jz_eq q_37_41 rfl (fun h47 => ?_) (fun h47 => False.elim (by omega))
              refine PW.cI q_37_60 (by decide) fun c48 hc48 => ?_
              refine PW.istore q_37_61 (by decide) ?_
              refine PW.incN q_37_63 rfl (by decide) (by decide) (by omega) (by omega) fun x49 hx49 => ?_
              refine PW.goto q_37_66 rfl ?_
              refine PW.lvS (lk1 rfl (lk1 rfl (lk1 rfl (lk1 rfl (lk1 rfl (lk1 rfl lk0)))))) (ih_L37_12_28 _ ?_ M37 c48 x49 IM37 FM37 (by omega) (by omega) (by omega) (by omega) (Or.inr ⟨by omega, ((s_bad.to PkM37 (T0.trans (s_to.of e0))).cg rfl)⟩) (((Fr.at GM37 kd_4 (by decide)).trans (Fr.at GM34 kd_4 (by decide))).trans hbL37_12_285) (((Fr.at GM37 kd_5 (by decide)).trans (Fr.at GM34 kd_5 (by decide))).trans hbL37_12_286) rfl)
              omega
          · skip
            have snM34 : kK y (j0) = 2 → s_wn y (j0) ≠ 18 := fun h q => PnM34 ⟨h, (s_wn_iff (show 18 < 28 by decide)).mpr q⟩
            refine PW.jz_eq q_37_31 rfl (fun h50 => ?_) (fun h50 => False.elim (by omega))
            refine PW.iload q_37_69 rfl ?_
            refine PW.rZ q_37_71 rfl (by omega) (by omega) (by decide) (by decide) ?_
            exact hK v29 M34 IM34 FM34 (by omega) (by omega) (Or.inl ⟨by omega, j0, o0, ⟨T0, by omega, B1, PtM34, ((congrArg (fun e => o_i e 0) (Fr.at GM34 kd_267 (by decide))).trans K0.2.2.2.2)⟩, (fun h => snM34 h.1 h.2)⟩)
    exact PW.lvS (lk1 rfl (lk1 rfl (lk1 rfl (lk1 rfl (lk1 rfl (lk1 rfl lk0)))))) (L37_12_28 _ M1 x2 c27 IM1 FM1 (by omega) (by omega) (by omega) (by omega) (Or.inr ⟨by omega, PkM1⟩) (Fr.at GM1 kd_4 (by decide)) (Fr.at GM1 kd_5 (by decide)) rfl)
theorem c_X4_readAny_vk4 (V : pM → Prop) (hV : Stab V) (G : pG) (Kr : pK) (M : pM) (I : Iv V M) (a3 : Int32) (hl_a3 : 4 ≤ a3.toInt) (hh_a3 : a3.toInt ≤ 4) (y : k_X) (i : Nat) (f : Nat → Int) (m : Int) (st : List Bool) (on : Int) (hp_0 : k_at y M i) (hp_1 : s_nm M f m) (hp_2 : o_i (M 267) 0 = on) (hp_3 : st.length + 1 = 4) (hp_4 : 0 ≤ on) (hp_5 : s_dn st = st) (hK : ∀ (x : Int32) (M1 : pM), Iv V M1 → Fr [1, 14, 15, 16, 17] M M1 → 0 ≤ x.toInt → x.toInt ≤ 1 → (s_aq y f m i st on x M1) → Kr.1 (some (.int x)) 311 M1) : PW G false 20 36 (p_mc 36) (p_msl 36) Kr 0 (lv_args 0 [.ref 267, .ref 1, .ref 4, .int a3]) [] 311 M 0 0 := by
  have F : Fr [1, 14, 15, 16, 17] M M := Fr.refl
  obtain ⟨w267_0, fw267_0, hw267_0, kw267_0⟩ := gF_14_0.int kd_267 I.1 (by decide)
  have iw267_0 := o_i_of fw267_0
  have jw267_0 : w267_0.toInt = on := by have w := hp_2; omega
  refine PW.aload_n q_36_0 rfl ?_
  refine PW.aload_n q_36_1 rfl ?_
  refine PW.aload_n q_36_2 rfl ?_
  refine PW.iload_n q_36_3 rfl ?_
  refine PW.cV (as := [_, _, _]) (rest := []) q_36_4 t_mv_36_51 kd_267 I.1 (by decide) rfl (by decide) rfl rfl (Nat.le_of_ble_eq_true rfl) (Nat.le_of_ble_eq_true rfl) (by decide) (by decide) ?_
  refine PW.up (by decide) (c_X4_readAll_vk4 (V) (hV) G _ M I a3 (by omega) (by omega) y (i) f m st on hp_0 hp_1 hp_2 hp_3 (by omega) hp_5 fun x2 M1 IM1 GM1 hx2 kx2 PM1 => ?_)
  have FM1 := Fr.trans F GM1 (rfl)
  rcases PM1 with ⟨PaM1, jM1, oM1, PkM1, Pn2M1⟩ | ⟨PaM1, PkM1⟩
  · skip
    have koM1 := PkM1.2
    refine PW.istore q_36_7 (by decide) ?_
    refine PW.cI q_36_9 (by decide) fun c3 hc3 => ?_
    refine PW.istore q_36_10 (by decide) ?_
    have L36_12_4 : ∀ (n : Nat) (ML36_12_4 : pM) (v5 v6 : Int32), Iv (V) ML36_12_4 → Fr [1, 14, 15, 16, 17] M ML36_12_4 → 0 ≤ v5.toInt → v5.toInt ≤ 1 → 0 ≤ v6.toInt → v6.toInt ≤ 20 → s_li y f m i st on 17 ML36_12_4 v5.toInt v6.toInt → ML36_12_4 4 = M 4 → ML36_12_4 5 = M 5 → (20 - v6.toInt).toNat = n → PW G false 20 36 (p_mc 36) (p_msl 36) Kr 12 [(0, .ref 267), (1, .ref 1), (2, .ref 4), (3, .int a3), (4, .int v5), (5, .int v6)] [] 311 ML36_12_4 0 0 := by
      intro n
      induction n using Nat.strongRecOn with
      | ind n ih_L36_12_4 =>
      intro ML36_12_4 v5 v6 IML36_12_4 FML36_12_4 hbL36_12_40 hbL36_12_41 hbL36_12_42 hbL36_12_43 hbL36_12_44 hbL36_12_45 hbL36_12_46 hmL36_12_4
      refine PW.iload q_36_12 rfl ?_
      refine PW.cB q_36_14 (by decide) fun c7 hc7 => ?_
      refine PW.jc_ge q_36_16 rfl (fun h8 => ?_) (fun h8 => ?_)
      · skip
        refine PW.iload q_36_69 rfl ?_
        refine PW.rZ q_36_71 rfl (by omega) (by omega) (by decide) (by decide) ?_
        exact hK v5 ML36_12_4 IML36_12_4 FML36_12_4 (by omega) (by omega) (Or.inr ⟨(s_li.full hbL36_12_44 (by omega) hp_4).1, (s_li.full hbL36_12_44 (by omega) hp_4).2⟩)
      · skip
        refine PW.iload q_36_19 rfl ?_
        refine PW.jz_eq q_36_21 rfl (fun h9 => ?_) (fun h9 => ?_)
        · skip
          refine PW.iload q_36_69 rfl ?_
          refine PW.rZ q_36_71 rfl (by omega) (by omega) (by decide) (by decide) ?_
          exact hK v5 ML36_12_4 IML36_12_4 FML36_12_4 (by omega) (by omega) (Or.inr ⟨by omega, (s_li.no hbL36_12_44 (by omega))⟩)
        · skip
          obtain ⟨j0, o0, K0, N0⟩ : ∃ (j0 : Nat) (o0 : Int), s_ok y f m (i, false, st, on) st (on + v6.toInt) ML36_12_4 j0 o0 ∧ (17 = 17 → ¬ (kK y j0 = 2 ∧ s_wn y j0 = 18)) := by rcases hbL36_12_44 with q | q; (· exact q.2); (· omega)
          have T0 := K0.1
          have B0 := K0.2.1
          have B1 := K0.2.2.1
          refine PW.aload_n q_36_24 rfl ?_
          refine PW.gets q_36_25 t_st_36_54 ?_
          refine PW.cV (as := [_]) (rest := []) q_36_28 t_mv_36_58 kd_1 IML36_12_4.1 (by decide) rfl (by decide) rfl rfl (Nat.le_of_ble_eq_true rfl) (Nat.le_of_ble_eq_true rfl) (by decide) (by decide) ?_
          refine PW.up (by decide) (c_X7_takes_vk (V) (hV) G _ ML36_12_4 IML36_12_4 17 (by decide) y (j0) K0.2.2.2.1 fun x11 M10 IM10 GM10 hx11 kx11 PM10 => ?_)
          have FM10 := Fr.trans FML36_12_4 GM10 (rfl)
          rcases PM10 with ⟨PaM10, PbM10, PcM10, PtM10⟩ | ⟨PaM10, PnM10, PtM10⟩
          · skip
            have swM10 := (s_wn_iff (x := y) (i := j0) (show 17 < 28 by decide)).mp PcM10
            refine PW.jz_eq q_36_31 rfl (fun h12 => False.elim (by omega)) (fun h12 => ?_)
            have e0 : s_st y f m (j0, true, st, o0) = (0, 0, (j0 + 1, false, st, o0)) := by show s_bh y j0 st o0 = _; unfold s_bh; rw [if_pos ⟨PbM10, by omega⟩]
            refine PW.aload_n q_36_34 rfl ?_
            refine PW.aload_n q_36_35 rfl ?_
            refine PW.aload_n q_36_36 rfl ?_
            refine PW.iload_n q_36_37 rfl ?_
            refine PW.cV (as := [_, _, _]) (rest := []) q_36_38 t_mv_36_51 kd_267 IM10.1 (by decide) rfl (by decide) rfl rfl (Nat.le_of_ble_eq_true rfl) (Nat.le_of_ble_eq_true rfl) (by decide) (by decide) ?_
            refine PW.up (by decide) (c_X4_readAll_vk4 (V) (hV) G _ M10 IM10 a3 (by omega) (by omega) y (j0 + 1) f m st o0 PtM10 ((hp_1.cg hbL36_12_45 hbL36_12_46).cg (Fr.at GM10 kd_4 (by decide)) (Fr.at GM10 kd_5 (by decide))) ((congrArg (fun e => o_i e 0) (Fr.at GM10 kd_267 (by decide))).trans K0.2.2.2.2) hp_3 (by omega) hp_5 fun x14 M13 IM13 GM13 hx14 kx14 PM13 => ?_)
            have FM13 := Fr.trans FM10 GM13 (rfl)
            rcases PM13 with ⟨PaM13, jM13, oM13, PkM13, Pn2M13⟩ | ⟨PaM13, PkM13⟩
            · skip
              have koM13 := PkM13.2
              refine PW.jz_eq q_36_41 rfl (fun h15 => False.elim (by omega)) (fun h15 => ?_)
              refine PW.aload_n q_36_44 rfl ?_
              refine PW.gets q_36_45 t_st_36_54 ?_
              refine PW.cI q_36_48 (by decide) fun c16 hc16 => ?_
              refine PW.cI q_36_49 (by decide) fun c17 hc17 => ?_
              refine PW.cV (as := [_, _, _]) (rest := []) q_36_50 t_mv_36_62 kd_267 IM13.1 (by decide) rfl (by decide) rfl rfl (Nat.le_of_ble_eq_true rfl) (Nat.le_of_ble_eq_true rfl) (by decide) (by decide) ?_
              refine PW.up (by decide) (c_X4_add_vk (V) (hV) G _ M13 IM13 17 (by decide) c16 c17 (by omega) (by omega) fun x19 M18 IM18 GM18 hx19 kx19 PM18 => ?_)
              have FM18 := Fr.trans FM13 GM18 (rfl)
              have PoM18 := PM18
              refine PW.jz_eq q_36_53 rfl (fun h20 => False.elim (by omega)) (fun h20 => ?_)
              refine PW.cI q_36_56 (by decide) fun c21 hc21 => ?_
              refine PW.goto q_36_57 rfl ?_
              refine PW.istore q_36_61 (by decide) ?_
              refine PW.incN q_36_63 rfl (by decide) (by decide) (by omega) (by omega) fun x22 hx22 => ?_
              refine PW.goto q_36_66 rfl ?_
              refine PW.lvS (lk1 rfl (lk1 rfl (lk1 rfl (lk1 rfl (lk1 rfl (lk1 rfl lk0)))))) (ih_L36_12_4 _ ?_ M18 c21 x22 IM18 FM18 (by omega) (by omega) (by omega) (by omega) (Or.inl ⟨by omega, jM13, oM13, ((s_ok.next (c := x22.toInt) PkM13 (T0.trans (s_to.of e0)) (by have := K0.2.1; omega)).cg (Fr.at GM18 kd_1 (by decide)) (Fr.at GM18 kd_2 (by decide)) PoM18), (fun _ => Pn2M13)⟩) (((Fr.at GM18 kd_4 (by decide)).trans ((Fr.at GM13 kd_4 (by decide)).trans (Fr.at GM10 kd_4 (by decide)))).trans hbL36_12_45) (((Fr.at GM18 kd_5 (by decide)).trans ((Fr.at GM13 kd_5 (by decide)).trans (Fr.at GM10 kd_5 (by decide)))).trans hbL36_12_46) rfl)
              omega
            · skip
              refine PW.jz_eq q_36_41 rfl (fun h23 => ?_) (fun h23 => False.elim (by omega))
              refine PW.cI q_36_60 (by decide) fun c24 hc24 => ?_
              refine PW.istore q_36_61 (by decide) ?_
              refine PW.incN q_36_63 rfl (by decide) (by decide) (by omega) (by omega) fun x25 hx25 => ?_
              refine PW.goto q_36_66 rfl ?_
              refine PW.lvS (lk1 rfl (lk1 rfl (lk1 rfl (lk1 rfl (lk1 rfl (lk1 rfl lk0)))))) (ih_L36_12_4 _ ?_ M13 c24 x25 IM13 FM13 (by omega) (by omega) (by omega) (by omega) (Or.inr ⟨by omega, ((s_bad.to PkM13 (T0.trans (s_to.of e0))).cg rfl)⟩) (((Fr.at GM13 kd_4 (by decide)).trans (Fr.at GM10 kd_4 (by decide))).trans hbL36_12_45) (((Fr.at GM13 kd_5 (by decide)).trans (Fr.at GM10 kd_5 (by decide))).trans hbL36_12_46) rfl)
              omega
          · skip
            have snM10 : kK y (j0) = 2 → s_wn y (j0) ≠ 17 := fun h q => PnM10 ⟨h, (s_wn_iff (show 17 < 28 by decide)).mpr q⟩
            refine PW.jz_eq q_36_31 rfl (fun h26 => ?_) (fun h26 => False.elim (by omega))
            refine PW.iload q_36_69 rfl ?_
            refine PW.rZ q_36_71 rfl (by omega) (by omega) (by decide) (by decide) ?_
            exact hK v5 M10 IM10 FM10 (by omega) (by omega) (Or.inl ⟨by omega, j0, o0, ⟨T0, by omega, B1, PtM10, ((congrArg (fun e => o_i e 0) (Fr.at GM10 kd_267 (by decide))).trans K0.2.2.2.2)⟩, (fun h => by rcases h.2 with q | q; (· exact N0 rfl ⟨h.1, q⟩); (· exact snM10 h.1 q))⟩)
    exact PW.lvS (lk1 rfl (lk1 rfl (lk1 rfl (lk1 rfl (lk1 rfl (lk1 rfl lk0)))))) (L36_12_4 _ M1 x2 c3 IM1 FM1 (by omega) (by omega) (by omega) (by omega) (Or.inl ⟨by omega, jM1, oM1, (s_ok.mono PkM1 (by omega)), (fun _ => Pn2M1)⟩) (Fr.at GM1 kd_4 (by decide)) (Fr.at GM1 kd_5 (by decide)) rfl)
  · skip
    refine PW.istore q_36_7 (by decide) ?_
    refine PW.cI q_36_9 (by decide) fun c27 hc27 => ?_
    refine PW.istore q_36_10 (by decide) ?_
    have L36_12_28 : ∀ (n : Nat) (ML36_12_28 : pM) (v29 v30 : Int32), Iv (V) ML36_12_28 → Fr [1, 14, 15, 16, 17] M ML36_12_28 → 0 ≤ v29.toInt → v29.toInt ≤ 1 → 0 ≤ v30.toInt → v30.toInt ≤ 20 → s_li y f m i st on 17 ML36_12_28 v29.toInt v30.toInt → ML36_12_28 4 = M 4 → ML36_12_28 5 = M 5 → (20 - v30.toInt).toNat = n → PW G false 20 36 (p_mc 36) (p_msl 36) Kr 12 [(0, .ref 267), (1, .ref 1), (2, .ref 4), (3, .int a3), (4, .int v29), (5, .int v30)] [] 311 ML36_12_28 0 0 := by
      intro n
      induction n using Nat.strongRecOn with
      | ind n ih_L36_12_28 =>
      intro ML36_12_28 v29 v30 IML36_12_28 FML36_12_28 hbL36_12_280 hbL36_12_281 hbL36_12_282 hbL36_12_283 hbL36_12_284 hbL36_12_285 hbL36_12_286 hmL36_12_28
      refine PW.iload q_36_12 rfl ?_
      refine PW.cB q_36_14 (by decide) fun c31 hc31 => ?_
      refine PW.jc_ge q_36_16 rfl (fun h32 => ?_) (fun h32 => ?_)
      · skip
        refine PW.iload q_36_69 rfl ?_
        refine PW.rZ q_36_71 rfl (by omega) (by omega) (by decide) (by decide) ?_
        exact hK v29 ML36_12_28 IML36_12_28 FML36_12_28 (by omega) (by omega) (Or.inr ⟨(s_li.full hbL36_12_284 (by omega) hp_4).1, (s_li.full hbL36_12_284 (by omega) hp_4).2⟩)
      · skip
        refine PW.iload q_36_19 rfl ?_
        refine PW.jz_eq q_36_21 rfl (fun h33 => ?_) (fun h33 => ?_)
        · skip
          refine PW.iload q_36_69 rfl ?_
          refine PW.rZ q_36_71 rfl (by omega) (by omega) (by decide) (by decide) ?_
          exact hK v29 ML36_12_28 IML36_12_28 FML36_12_28 (by omega) (by omega) (Or.inr ⟨by omega, (s_li.no hbL36_12_284 (by omega))⟩)
        · skip
          obtain ⟨j0, o0, K0, N0⟩ : ∃ (j0 : Nat) (o0 : Int), s_ok y f m (i, false, st, on) st (on + v30.toInt) ML36_12_28 j0 o0 ∧ (17 = 17 → ¬ (kK y j0 = 2 ∧ s_wn y j0 = 18)) := by rcases hbL36_12_284 with q | q; (· exact q.2); (· omega)
          have T0 := K0.1
          have B0 := K0.2.1
          have B1 := K0.2.2.1
          refine PW.aload_n q_36_24 rfl ?_
          refine PW.gets q_36_25 t_st_36_54 ?_
          refine PW.cV (as := [_]) (rest := []) q_36_28 t_mv_36_58 kd_1 IML36_12_28.1 (by decide) rfl (by decide) rfl rfl (Nat.le_of_ble_eq_true rfl) (Nat.le_of_ble_eq_true rfl) (by decide) (by decide) ?_
          refine PW.up (by decide) (c_X7_takes_vk (V) (hV) G _ ML36_12_28 IML36_12_28 17 (by decide) y (j0) K0.2.2.2.1 fun x35 M34 IM34 GM34 hx35 kx35 PM34 => ?_)
          have FM34 := Fr.trans FML36_12_28 GM34 (rfl)
          rcases PM34 with ⟨PaM34, PbM34, PcM34, PtM34⟩ | ⟨PaM34, PnM34, PtM34⟩
          · skip
            have swM34 := (s_wn_iff (x := y) (i := j0) (show 17 < 28 by decide)).mp PcM34
            refine PW.jz_eq q_36_31 rfl (fun h36 => False.elim (by omega)) (fun h36 => ?_)
            have e0 : s_st y f m (j0, true, st, o0) = (0, 0, (j0 + 1, false, st, o0)) := by show s_bh y j0 st o0 = _; unfold s_bh; rw [if_pos ⟨PbM34, by omega⟩]
            refine PW.aload_n q_36_34 rfl ?_
            refine PW.aload_n q_36_35 rfl ?_
            refine PW.aload_n q_36_36 rfl ?_
            refine PW.iload_n q_36_37 rfl ?_
            refine PW.cV (as := [_, _, _]) (rest := []) q_36_38 t_mv_36_51 kd_267 IM34.1 (by decide) rfl (by decide) rfl rfl (Nat.le_of_ble_eq_true rfl) (Nat.le_of_ble_eq_true rfl) (by decide) (by decide) ?_
            refine PW.up (by decide) (c_X4_readAll_vk4 (V) (hV) G _ M34 IM34 a3 (by omega) (by omega) y (j0 + 1) f m st o0 PtM34 ((hp_1.cg hbL36_12_285 hbL36_12_286).cg (Fr.at GM34 kd_4 (by decide)) (Fr.at GM34 kd_5 (by decide))) ((congrArg (fun e => o_i e 0) (Fr.at GM34 kd_267 (by decide))).trans K0.2.2.2.2) hp_3 (by omega) hp_5 fun x38 M37 IM37 GM37 hx38 kx38 PM37 => ?_)
            have FM37 := Fr.trans FM34 GM37 (rfl)
            rcases PM37 with ⟨PaM37, jM37, oM37, PkM37, Pn2M37⟩ | ⟨PaM37, PkM37⟩
            · skip
              have koM37 := PkM37.2
              refine PW.jz_eq q_36_41 rfl (fun h39 => False.elim (by omega)) (fun h39 => ?_)
              refine PW.aload_n q_36_44 rfl ?_
              refine PW.gets q_36_45 t_st_36_54 ?_
              refine PW.cI q_36_48 (by decide) fun c40 hc40 => ?_
              refine PW.cI q_36_49 (by decide) fun c41 hc41 => ?_
              refine PW.cV (as := [_, _, _]) (rest := []) q_36_50 t_mv_36_62 kd_267 IM37.1 (by decide) rfl (by decide) rfl rfl (Nat.le_of_ble_eq_true rfl) (Nat.le_of_ble_eq_true rfl) (by decide) (by decide) ?_
              refine PW.up (by decide) (c_X4_add_vk (V) (hV) G _ M37 IM37 17 (by decide) c40 c41 (by omega) (by omega) fun x43 M42 IM42 GM42 hx43 kx43 PM42 => ?_)
              have FM42 := Fr.trans FM37 GM42 (rfl)
              have PoM42 := PM42
              refine PW.jz_eq q_36_53 rfl (fun h44 => False.elim (by omega)) (fun h44 => ?_)
              refine PW.cI q_36_56 (by decide) fun c45 hc45 => ?_
              refine PW.goto q_36_57 rfl ?_
              refine PW.istore q_36_61 (by decide) ?_
              refine PW.incN q_36_63 rfl (by decide) (by decide) (by omega) (by omega) fun x46 hx46 => ?_
              refine PW.goto q_36_66 rfl ?_
              refine PW.lvS (lk1 rfl (lk1 rfl (lk1 rfl (lk1 rfl (lk1 rfl (lk1 rfl lk0)))))) (ih_L36_12_28 _ ?_ M42 c45 x46 IM42 FM42 (by omega) (by omega) (by omega) (by omega) (Or.inl ⟨by omega, jM37, oM37, ((s_ok.next (c := x46.toInt) PkM37 (T0.trans (s_to.of e0)) (by have := K0.2.1; omega)).cg (Fr.at GM42 kd_1 (by decide)) (Fr.at GM42 kd_2 (by decide)) PoM42), (fun _ => Pn2M37)⟩) (((Fr.at GM42 kd_4 (by decide)).trans ((Fr.at GM37 kd_4 (by decide)).trans (Fr.at GM34 kd_4 (by decide)))).trans hbL36_12_285) (((Fr.at GM42 kd_5 (by decide)).trans ((Fr.at GM37 kd_5 (by decide)).trans (Fr.at GM34 kd_5 (by decide)))).trans hbL36_12_286) rfl)
              omega
            · skip
              refine PW.jz_eq q_36_41 rfl (fun h47 => ?_) (fun h47 => False.elim (by omega))
              refine PW.cI q_36_60 (by decide) fun c48 hc48 => ?_
              refine PW.istore q_36_61 (by decide) ?_
              refine PW.incN q_36_63 rfl (by decide) (by decide) (by omega) (by omega) fun x49 hx49 => ?_
              refine PW.goto q_36_66 rfl ?_
              refine PW.lvS (lk1 rfl (lk1 rfl (lk1 rfl (lk1 rfl (lk1 rfl (lk1 rfl lk0)))))) (ih_L36_12_28 _ ?_ M37 c48 x49 IM37 FM37 (by omega) (by omega) (by omega) (by omega) (Or.inr ⟨by omega, ((s_bad.to PkM37 (T0.trans (s_to.of e0))).cg rfl)⟩) (((Fr.at GM37 kd_4 (by decide)).trans (Fr.at GM34 kd_4 (by decide))).trans hbL36_12_285) (((Fr.at GM37 kd_5 (by decide)).trans (Fr.at GM34 kd_5 (by decide))).trans hbL36_12_286) rfl)
              omega
          · skip
            have snM34 : kK y (j0) = 2 → s_wn y (j0) ≠ 17 := fun h q => PnM34 ⟨h, (s_wn_iff (show 17 < 28 by decide)).mpr q⟩
            refine PW.jz_eq q_36_31 rfl (fun h50 => ?_) (fun h50 => False.elim (by omega))
            refine PW.iload q_36_69 rfl ?_
            refine PW.rZ q_36_71 rfl (by omega) (by omega) (by decide) (by decide) ?_
            exact hK v29 M34 IM34 FM34 (by omega) (by omega) (Or.inl ⟨by omega, j0, o0, ⟨T0, by omega, B1, PtM34, ((congrArg (fun e => o_i e 0) (Fr.at GM34 kd_267 (by decide))).trans K0.2.2.2.2)⟩, (fun h => by rcases h.2 with q | q; (· exact N0 rfl ⟨h.1, q⟩); (· exact snM34 h.1 q))⟩)
    exact PW.lvS (lk1 rfl (lk1 rfl (lk1 rfl (lk1 rfl (lk1 rfl (lk1 rfl lk0)))))) (L36_12_28 _ M1 x2 c27 IM1 FM1 (by omega) (by omega) (by omega) (by omega) (Or.inr ⟨by omega, PkM1⟩) (Fr.at GM1 kd_4 (by decide)) (Fr.at GM1 kd_5 (by decide)) rfl)
theorem c_X4_readOne_vk3 (V : pM → Prop) (hV : Stab V) (G : pG) (Kr : pK) (M : pM) (I : Iv V M) (a3 : Int32) (hl_a3 : 3 ≤ a3.toInt) (hh_a3 : a3.toInt ≤ 3) (y : k_X) (i : Nat) (f : Nat → Int) (m : Int) (st : List Bool) (on : Int) (hp_0 : k_at y M i) (hp_1 : s_nm M f m) (hp_2 : o_i (M 267) 0 = on) (hp_3 : st.length + 1 = 3) (hp_4 : 0 ≤ on) (hK : ∀ (x : Int32) (M1 : pM), Iv V M1 → Fr [1, 14, 15, 16, 17] M M1 → 0 ≤ x.toInt → x.toInt ≤ 1 → (s_oq y f m i st on x M1) → Kr.1 (some (.int x)) 311 M1) : PW G false 21 38 (p_mc 38) (p_msl 38) Kr 0 (lv_args 0 [.ref 267, .ref 1, .ref 4, .int a3]) [] 311 M 0 0 := by
  have F : Fr [1, 14, 15, 16, 17] M M := Fr.refl
  obtain ⟨w267_0, fw267_0, hw267_0, kw267_0⟩ := gF_14_0.int kd_267 I.1 (by decide)
  have iw267_0 := o_i_of fw267_0
  have jw267_0 : w267_0.toInt = on := by have w := hp_2; omega
  refine PW.aload_n q_38_0 rfl ?_
  refine PW.callS (as := [_]) (rest := []) q_38_1 t_ms_38_72 (by decide) rfl (Nat.le_of_ble_eq_true rfl) (Nat.le_of_ble_eq_true rfl) (by decide) (by decide) ?_
  refine PW.up (by decide) (c_X4_beginsOne_vk (V) (hV) G _ M I y (i) hp_0 fun x2  hx2 kx2 PM1 => ?_)
  rcases PM1 with ⟨PaM1, PbM1⟩ | ⟨PaM1, PnM1⟩
  · skip
    refine PW.jz_ne q_38_4 rfl (fun h3 => ?_) (fun h3 => False.elim (by omega))
    refine PW.aload_n q_38_13 rfl ?_
    refine PW.gE q_38_14 (Or.inl t_ft_38_27) gF_14_0 kd_267 I.1 (by decide) fw267_0 ?_
    refine PW.cB q_38_17 (by decide) fun c4 hc4 => ?_
    refine PW.jc_ge q_38_19 rfl (fun h5 => ?_) (fun h5 => ?_)
    · skip
      refine PW.aload_n q_38_28 rfl ?_
      refine PW.cI q_38_29 (by decide) fun c6 hc6 => ?_
      refine PW.cV (as := [_]) (rest := []) q_38_30 t_mv_38_76 kd_1 I.1 (by decide) rfl (by decide) rfl rfl (Nat.le_of_ble_eq_true rfl) (Nat.le_of_ble_eq_true rfl) (by decide) (by decide) ?_
      refine PW.up (by decide) (c_X7_fail_vk (V) (hV) G _ M I c6 y (i) hp_0 fun x8 M7 IM7 GM7 hx8 kx8 PM7 => ?_)
      have FM7 := Fr.trans F GM7 (rfl)
      rcases PM7 with ⟨PfM7, PgM7⟩
      refine PW.rZ q_38_33 rfl (by omega) (by omega) (by decide) (by decide) ?_
      have e : s_st y f m (i, false, st, on) = (4, kP y i, (0, false, [], 0)) := by show s_op y f m i st on = _; unfold s_op; rw [if_neg (not_not_intro PbM1), if_pos (by omega)]
      exact hK x8 M7 IM7 FM7 (by omega) (by omega) (Or.inr ⟨by omega, s_bad.of e (by omega) (by omega) (by omega) (by omega)⟩)
    · skip
      refine PW.iload_n q_38_22 rfl ?_
      refine PW.cB q_38_23 (by decide) fun c9 hc9 => ?_
      refine PW.jc_le q_38_25 rfl (fun h10 => ?_) (fun h10 => False.elim (by omega))
      refine PW.aload_n q_38_34 rfl ?_
      refine PW.dup q_38_35 rfl ?_
      refine PW.gE q_38_36 (Or.inl t_ft_38_27) gF_14_0 kd_267 I.1 (by decide) fw267_0 ?_
      refine PW.cI q_38_39 (by decide) fun c11 hc11 => ?_
      refine PW.addN q_38_40 (by omega) (by omega) fun x12 hx12 => ?_
      refine PW.pI q_38_41 (Or.inl t_ft_38_27) gF_14_0 gP_14_0 kd_267 hV I (by decide) rfl (n_lo _) (n_hi _) fun M13 IM13 fM13 UM13 => ?_
      have FM13 := Fr.pu F UM13.1 kd_267 (rfl : List.contains [1, 14, 15, 16, 17] 14 = true)
      have b1 : kK y i = 2 ∨ kK y i = 5 := by rcases PbM1 with q | q; (· exact Or.inr q.1); (· exact Or.inl q.1)
      have on1 : o_i (M13 267) 0 = on + 1 := by have w := o_i_of fM13; omega
      refine PW.aload_n q_38_44 rfl ?_
      refine PW.gets q_38_45 t_st_38_80 ?_
      refine PW.cV (as := [_]) (rest := []) q_38_48 t_mv_38_58 kd_1 IM13.1 (by decide) rfl (by decide) rfl rfl (Nat.le_of_ble_eq_true rfl) (Nat.le_of_ble_eq_true rfl) (by decide) (by decide) ?_
      refine PW.up (by decide) (c_X7_takes_vk (V) (hV) G _ M13 IM13 19 (by decide) y (i) (hp_0.cg (UM13.1 _ (g_ne kd_1 kd_267 (by decide))) (UM13.1 _ (g_ne kd_2 kd_267 (by decide)))) fun x15 M14 IM14 GM14 hx15 kx15 PM14 => ?_)
      have FM14 := Fr.trans FM13 GM14 (rfl)
      rcases PM14 with ⟨PaM14, PbM14, PcM14, PtM14⟩ | ⟨PaM14, PnM14, PtM14⟩
      · skip
        have swM14 := (s_wn_iff (x := y) (i := i) (show 19 < 28 by decide)).mp PcM14
        refine PW.jz_eq q_38_51 rfl (fun h16 => False.elim (by omega)) (fun h16 => ?_)
        refine PW.aload_n q_38_54 rfl ?_
        refine PW.aload_n q_38_55 rfl ?_
        refine PW.aload_n q_38_56 rfl ?_
        refine PW.iload_n q_38_57 rfl ?_
        refine PW.cI q_38_58 (by decide) fun c17 hc17 => ?_
        refine PW.addN q_38_59 (by omega) (by omega) fun x18 hx18 => ?_
        refine PW.cV (as := [_, _, _]) (rest := []) q_38_60 t_mv_38_66 kd_267 IM14.1 (by decide) rfl (by decide) rfl rfl (Nat.le_of_ble_eq_true rfl) (Nat.le_of_ble_eq_true rfl) (by decide) (by decide) ?_
        refine PW.up (by decide) (c_X4_readOne_vk4 (V) (hV) G _ M14 IM14 x18 (by omega) (by omega) y (i + 1) f m (false :: st) (on + 1) PtM14 (hp_1.cg ((Fr.at GM14 kd_4 (by decide)).trans (UM13.1 _ (g_ne kd_4 kd_267 (by decide)))) ((Fr.at GM14 kd_5 (by decide)).trans (UM13.1 _ (g_ne kd_5 kd_267 (by decide))))) ((congrArg (fun e => o_i e 0) (Fr.at GM14 kd_267 (by decide))).trans on1) (by rw [List.length_cons]; omega) (by omega) fun x20 M19 IM19 GM19 hx20 kx20 PM19 => ?_)
        have FM19 := Fr.trans FM14 GM19 (rfl)
        rcases PM19 with ⟨PaM19, jM19, oM19, PkM19⟩ | ⟨PaM19, PkM19⟩
        · skip
          have koM19 := PkM19.2
          refine PW.jz_eq q_38_63 rfl (fun h21 => False.elim (by omega)) (fun h21 => ?_)
          refine PW.aload_n q_38_66 rfl ?_
          refine PW.gets q_38_67 t_st_38_80 ?_
          refine PW.cI q_38_70 (by decide) fun c22 hc22 => ?_
          refine PW.cI q_38_71 (by decide) fun c23 hc23 => ?_
          refine PW.cV (as := [_, _, _]) (rest := []) q_38_72 t_mv_38_62 kd_267 IM19.1 (by decide) rfl (by decide) rfl rfl (Nat.le_of_ble_eq_true rfl) (Nat.le_of_ble_eq_true rfl) (by decide) (by decide) ?_
          refine PW.up (by decide) (c_X4_add_vk (V) (hV) G _ M19 IM19 19 (by decide) c22 c23 (by omega) (by omega) fun x25 M24 IM24 GM24 hx25 kx25 PM24 => ?_)
          have FM24 := Fr.trans FM19 GM24 (rfl)
          have PoM24 := PM24
          refine PW.jz_eq q_38_75 rfl (fun h26 => False.elim (by omega)) (fun h26 => ?_)
          refine PW.cI q_38_78 (by decide) fun c27 hc27 => ?_
          refine PW.goto q_38_79 rfl ?_
          refine PW.rZ q_38_83 rfl (by omega) (by omega) (by decide) (by decide) ?_
          have e : s_st y f m (i, false, st, on) = (0, 0, (i + 1, false, false :: st, on + 1)) := by show s_op y f m i st on = _; unfold s_op; rw [if_neg (not_not_intro PbM1), if_neg (by omega), if_pos ⟨PbM14, by omega⟩]
          exact hK c27 M24 IM24 FM24 (by omega) (by omega) (Or.inl ⟨by omega, jM19, oM19, ((s_ok.next (on := on) (c := 1) PkM19 (s_to.of e) (by omega)).mono (on1 := on) (by omega)).cg (Fr.at GM24 kd_1 (by decide)) (Fr.at GM24 kd_2 (by decide)) PoM24⟩)
        · skip
          refine PW.jz_eq q_38_63 rfl (fun h28 => ?_) (fun h28 => False.elim (by omega))
          refine PW.cI q_38_82 (by decide) fun c29 hc29 => ?_
          refine PW.rZ q_38_83 rfl (by omega) (by omega) (by decide) (by decide) ?_
          have e : s_st y f m (i, false, st, on) = (0, 0, (i + 1, false, false :: st, on + 1)) := by show s_op y f m i st on = _; unfold s_op; rw [if_neg (not_not_intro PbM1), if_neg (by omega), if_pos ⟨PbM14, by omega⟩]
          exact hK c29 M19 IM19 FM19 (by omega) (by omega) (Or.inr ⟨by omega, (s_bad.to PkM19 (s_to.of e)).cg rfl⟩)
      · skip
        have snM14 : kK y (i) = 2 → s_wn y (i) ≠ 19 := fun h q => PnM14 ⟨h, (s_wn_iff (show 19 < 28 by decide)).mpr q⟩
        refine PW.jz_eq q_38_51 rfl (fun h30 => ?_) (fun h30 => False.elim (by omega))
        refine PW.aload_n q_38_84 rfl ?_
        refine PW.cB q_38_85 (by decide) fun c31 hc31 => ?_
        refine PW.cV (as := [_]) (rest := []) q_38_87 t_mv_38_83 kd_1 IM14.1 (by decide) rfl (by decide) rfl rfl (Nat.le_of_ble_eq_true rfl) (Nat.le_of_ble_eq_true rfl) (by decide) (by decide) ?_
        refine PW.up (by decide) (c_X7_seesSign_vk (V) (hV) G _ M14 IM14 c31 y (i) PtM14 fun x33  hx33 kx33 PM32 => ?_)
        rcases PM32 with ⟨PaM32, PbM32, PcM32⟩ | ⟨PaM32, PnM32⟩
        · skip
          refine PW.jz_eq q_38_90 rfl (fun h34 => False.elim (by omega)) (fun h34 => ?_)
          refine PW.aload_n q_38_93 rfl ?_
          refine PW.cV (as := []) (rest := []) q_38_94 t_mv_38_86 kd_1 IM14.1 (by decide) rfl (by decide) rfl rfl (Nat.le_of_ble_eq_true rfl) (Nat.le_of_ble_eq_true rfl) (by decide) (by decide) ?_
          refine PW.up (by decide) (c_X7_advance_vk (V) (hV) G _ M14 IM14 y (i + 1) (k_at.nx PtM14 (by omega)) fun M35 IM35 GM35 PM35 => ?_)
          have FM35 := Fr.trans FM14 GM35 (rfl)
          have PtM35 := PM35
          refine PW.aload_n q_38_97 rfl ?_
          refine PW.aload_n q_38_98 rfl ?_
          refine PW.aload_n q_38_99 rfl ?_
          refine PW.iload_n q_38_100 rfl ?_
          refine PW.cI q_38_101 (by decide) fun c36 hc36 => ?_
          refine PW.addN q_38_102 (by omega) (by omega) fun x37 hx37 => ?_
          refine PW.cV (as := [_, _, _]) (rest := []) q_38_103 t_mv_38_43 kd_267 IM35.1 (by decide) rfl (by decide) rfl rfl (Nat.le_of_ble_eq_true rfl) (Nat.le_of_ble_eq_true rfl) (by decide) (by decide) ?_
          refine PW.up (by decide) (c_X4_readAny_vk4 (V) (hV) G _ M35 IM35 x37 (by omega) (by omega) y (i + 1) f m (true :: st) (on + 1) PtM35 (hp_1.cg ((Fr.at GM35 kd_4 (by decide)).trans ((Fr.at GM14 kd_4 (by decide)).trans (UM13.1 _ (g_ne kd_4 kd_267 (by decide))))) ((Fr.at GM35 kd_5 (by decide)).trans ((Fr.at GM14 kd_5 (by decide)).trans (UM13.1 _ (g_ne kd_5 kd_267 (by decide)))))) (((congrArg (fun e => o_i e 0) (Fr.at GM35 kd_267 (by decide))).trans (congrArg (fun e => o_i e 0) (Fr.at GM14 kd_267 (by decide)))).trans on1) (by rw [List.length_cons]; omega) (by omega) rfl fun x39 M38 IM38 GM38 hx39 kx39 PM38 => ?_)
          have FM38 := Fr.trans FM35 GM38 (rfl)
          rcases PM38 with ⟨PaM38, jM38, oM38, PkM38, Pn2M38⟩ | ⟨PaM38, PkM38⟩
          · skip
            have koM38 := PkM38.2
            refine PW.jz_eq q_38_106 rfl (fun h40 => False.elim (by omega)) (fun h40 => ?_)
            refine PW.aload_n q_38_109 rfl ?_
            refine PW.cB q_38_110 (by decide) fun c41 hc41 => ?_
            refine PW.cV (as := [_]) (rest := []) q_38_112 t_mv_38_89 kd_1 IM38.1 (by decide) rfl (by decide) rfl rfl (Nat.le_of_ble_eq_true rfl) (Nat.le_of_ble_eq_true rfl) (by decide) (by decide) ?_
            refine PW.up (by decide) (c_X7_needsSign_vk (V) (hV) G _ M38 IM38 c41 y (jM38) PkM38.2.2.2.1 fun x43 M42 IM42 GM42 hx43 kx43 PM42 => ?_)
            have FM42 := Fr.trans FM38 GM42 (rfl)
            rcases PM42 with ⟨PaM42, PbM42, PcM42, PtM42⟩ | ⟨PaM42, PnM42, PfM42, PgM42⟩
            · skip
              refine PW.jz_eq q_38_115 rfl (fun h44 => False.elim (by omega)) (fun h44 => ?_)
              refine PW.cI q_38_118 (by decide) fun c45 hc45 => ?_
              refine PW.goto q_38_119 rfl ?_
              refine PW.rZ q_38_123 rfl (by omega) (by omega) (by decide) (by decide) ?_
              have e : s_st y f m (i, false, st, on) = (0, 0, (i + 1, false, true :: st, on + 1)) := by show s_op y f m i st on = _; unfold s_op; rw [if_neg (not_not_intro PbM1), if_neg (by omega), if_neg (by omega), if_pos (by omega)]
              have e2 : s_st y f m (jM38, true, true :: st, oM38) = (0, 0, (jM38 + 1, true, s_dn st, oM38)) := by show s_bh y jM38 (true :: st) oM38 = _; unfold s_bh; rw [if_neg Pn2M38, if_pos ⟨⟨PbM42, PcM42.trans (by omega)⟩, List.cons_ne_nil _ _⟩]; rfl
              exact hK c45 M42 IM42 FM42 (by omega) (by omega) (Or.inl ⟨by omega, jM38 + 1, oM38, ((s_to.of e).trans PkM38.1).trans (s_to.of e2), by have := PkM38.2.1; omega, PkM38.2.2.1, PtM42, ((congrArg (fun e => o_i e 0) (Fr.at GM42 kd_267 (by decide))).trans PkM38.2.2.2.2)⟩)
            · skip
              refine PW.jz_eq q_38_115 rfl (fun h46 => ?_) (fun h46 => False.elim (by omega))
              refine PW.cI q_38_122 (by decide) fun c47 hc47 => ?_
              refine PW.rZ q_38_123 rfl (by omega) (by omega) (by decide) (by decide) ?_
              have e : s_st y f m (i, false, st, on) = (0, 0, (i + 1, false, true :: st, on + 1)) := by show s_op y f m i st on = _; unfold s_op; rw [if_neg (not_not_intro PbM1), if_neg (by omega), if_neg (by omega), if_pos (by omega)]
              have e2 : s_st y f m (jM38, true, true :: st, oM38) = (1, kP y jM38, (0, false, [], 0)) := by show s_bh y jM38 (true :: st) oM38 = _; unfold s_bh; rw [if_neg Pn2M38, if_neg (fun h => PnM42 ⟨h.1.1, h.1.2.trans (by omega)⟩), if_neg (fun h => List.cons_ne_nil _ _ h.2)]
              exact hK c47 M42 IM42 FM42 (by omega) (by omega) (Or.inr ⟨by omega, ((s_bad.of e2 (by omega) (by omega) (by omega) (by omega)).to PkM38.1).to (s_to.of e)⟩)
          · skip
            refine PW.jz_eq q_38_106 rfl (fun h48 => ?_) (fun h48 => False.elim (by omega))
            refine PW.cI q_38_122 (by decide) fun c49 hc49 => ?_
            refine PW.rZ q_38_123 rfl (by omega) (by omega) (by decide) (by decide) ?_
            have e : s_st y f m (i, false, st, on) = (0, 0, (i + 1, false, true :: st, on + 1)) := by show s_op y f m i st on = _; unfold s_op; rw [if_neg (not_not_intro PbM1), if_neg (by omega), if_neg (by omega), if_pos (by omega)]
            exact hK c49 M38 IM38 FM38 (by omega) (by omega) (Or.inr ⟨by omega, (s_bad.to PkM38 (s_to.of e)).cg rfl⟩)
        · skip
          refine PW.jz_eq q_38_90 rfl (fun h50 => ?_) (fun h50 => False.elim (by omega))
          have k2 : kK y i = 2 := by rcases PbM1 with q | q; (· exact absurd ⟨q.1, q.2.trans (by omega)⟩ PnM32); (· exact q.1)
          have k3 : 20 ≤ s_wn y i ∧ s_wn y i ≤ 27 := by rcases PbM1 with q | q; (· omega); (· have u := snM14 q.1; omega)
          refine PW.aload_n q_38_124 rfl ?_
          refine PW.aload_n q_38_125 rfl ?_
          refine PW.aload_n q_38_126 rfl ?_
          refine PW.cV (as := [_, _]) (rest := []) q_38_127 t_mv_38_92 kd_267 IM14.1 (by decide) rfl (by decide) rfl rfl (Nat.le_of_ble_eq_true rfl) (Nat.le_of_ble_eq_true rfl) (by decide) (by decide) ?_
          refine PW.up (by decide) (c_X4_readPlain_vk (V) (hV) G _ M14 IM14 y (i) f m PtM14 (hp_1.cg ((Fr.at GM14 kd_4 (by decide)).trans (UM13.1 _ (g_ne kd_4 kd_267 (by decide)))) ((Fr.at GM14 kd_5 (by decide)).trans (UM13.1 _ (g_ne kd_5 kd_267 (by decide))))) (by omega) (by omega) (by omega) fun x52 M51 IM51 GM51 hx52 kx52 PM51 => ?_)
          have FM51 := Fr.trans FM14 GM51 (rfl)
          rcases PM51 with ⟨PaM51, PbM51, PtM51, PoM51⟩ | ⟨PaM51, PbM51, PfM51, PgM51⟩
          · skip
            refine PW.rZ q_38_130 rfl (by omega) (by omega) (by decide) (by decide) ?_
            have e : s_st y f m (i, false, st, on) = (0, 0, ((s_pn y f m i).2.2, true, s_dn st, on + 1)) := by show s_op y f m i st on = _; unfold s_op; rw [if_neg (not_not_intro PbM1), if_neg (by omega), if_neg (by omega), if_neg (by omega), if_neg (not_not_intro PbM51)]
            exact hK x52 M51 IM51 FM51 (by omega) (by omega) (Or.inl ⟨by omega, (s_pn y f m i).2.2, on + 1, s_to.of e, by omega, by omega, PtM51, (PoM51.trans ((congrArg (fun e => o_i e 0) (Fr.at GM14 kd_267 (by decide))).trans on1))⟩)
          · skip
            refine PW.rZ q_38_130 rfl (by omega) (by omega) (by decide) (by decide) ?_
            have pb := s_pn_b y f m i
            have e : s_st y f m (i, false, st, on) = ((s_pn y f m i).1, (s_pn y f m i).2.1, (0, false, [], 0)) := by show s_op y f m i st on = _; unfold s_op; rw [if_neg (not_not_intro PbM1), if_neg (by omega), if_neg (by omega), if_neg (by omega), if_pos PbM51]
            exact hK x52 M51 IM51 FM51 (by omega) (by omega) (Or.inr ⟨by omega, s_bad.of e (by omega) (by omega) (by omega) (by omega)⟩)
  · skip
    refine PW.jz_ne q_38_4 rfl (fun h53 => False.elim (by omega)) (fun h53 => ?_)
    refine PW.aload_n q_38_7 rfl ?_
    refine PW.cI q_38_8 (by decide) fun c54 hc54 => ?_
    refine PW.cV (as := [_]) (rest := []) q_38_9 t_mv_38_76 kd_1 I.1 (by decide) rfl (by decide) rfl rfl (Nat.le_of_ble_eq_true rfl) (Nat.le_of_ble_eq_true rfl) (by decide) (by decide) ?_
    refine PW.up (by decide) (c_X7_fail_vk (V) (hV) G _ M I c54 y (i) hp_0 fun x56 M55 IM55 GM55 hx56 kx56 PM55 => ?_)
    have FM55 := Fr.trans F GM55 (rfl)
    rcases PM55 with ⟨PfM55, PgM55⟩
    refine PW.rZ q_38_12 rfl (by omega) (by omega) (by decide) (by decide) ?_
    have e : s_st y f m (i, false, st, on) = (1, kP y i, (0, false, [], 0)) := by show s_op y f m i st on = _; unfold s_op; rw [if_pos PnM1]
    exact hK x56 M55 IM55 FM55 (by omega) (by omega) (Or.inr ⟨by omega, s_bad.of e (by omega) (by omega) (by omega) (by omega)⟩)
theorem c_X4_readAll_vk3 (V : pM → Prop) (hV : Stab V) (G : pG) (Kr : pK) (M : pM) (I : Iv V M) (a3 : Int32) (hl_a3 : 3 ≤ a3.toInt) (hh_a3 : a3.toInt ≤ 3) (y : k_X) (i : Nat) (f : Nat → Int) (m : Int) (st : List Bool) (on : Int) (hp_0 : k_at y M i) (hp_1 : s_nm M f m) (hp_2 : o_i (M 267) 0 = on) (hp_3 : st.length + 1 = 3) (hp_4 : 0 ≤ on) (hp_5 : s_dn st = st) (hK : ∀ (x : Int32) (M1 : pM), Iv V M1 → Fr [1, 14, 15, 16, 17] M M1 → 0 ≤ x.toInt → x.toInt ≤ 1 → (s_lq y f m i st on x M1) → Kr.1 (some (.int x)) 311 M1) : PW G false 22 37 (p_mc 37) (p_msl 37) Kr 0 (lv_args 0 [.ref 267, .ref 1, .ref 4, .int a3]) [] 311 M 0 0 := by
  have F : Fr [1, 14, 15, 16, 17] M M := Fr.refl
  obtain ⟨w267_0, fw267_0, hw267_0, kw267_0⟩ := gF_14_0.int kd_267 I.1 (by decide)
  have iw267_0 := o_i_of fw267_0
  have jw267_0 : w267_0.toInt = on := by have w := hp_2; omega
  refine PW.aload_n q_37_0 rfl ?_
  refine PW.aload_n q_37_1 rfl ?_
  refine PW.aload_n q_37_2 rfl ?_
  refine PW.iload_n q_37_3 rfl ?_
  refine PW.cV (as := [_, _, _]) (rest := []) q_37_4 t_mv_37_66 kd_267 I.1 (by decide) rfl (by decide) rfl rfl (Nat.le_of_ble_eq_true rfl) (Nat.le_of_ble_eq_true rfl) (by decide) (by decide) ?_
  refine PW.up (by decide) (c_X4_readOne_vk3 (V) (hV) G _ M I a3 (by omega) (by omega) y (i) f m st on hp_0 hp_1 hp_2 hp_3 (by omega) fun x2 M1 IM1 GM1 hx2 kx2 PM1 => ?_)
  have FM1 := Fr.trans F GM1 (rfl)
  rcases PM1 with ⟨PaM1, jM1, oM1, PkM1⟩ | ⟨PaM1, PkM1⟩
  · skip
    have koM1 := PkM1.2
    refine PW.istore q_37_7 (by decide) ?_
    refine PW.cI q_37_9 (by decide) fun c3 hc3 => ?_
    refine PW.istore q_37_10 (by decide) ?_
    have L37_12_4 : ∀ (n : Nat) (ML37_12_4 : pM) (v5 v6 : Int32), Iv (V) ML37_12_4 → Fr [1, 14, 15, 16, 17] M ML37_12_4 → 0 ≤ v5.toInt → v5.toInt ≤ 1 → 0 ≤ v6.toInt → v6.toInt ≤ 20 → s_li y f m i st on 18 ML37_12_4 v5.toInt v6.toInt → ML37_12_4 4 = M 4 → ML37_12_4 5 = M 5 → (20 - v6.toInt).toNat = n → PW G false 22 37 (p_mc 37) (p_msl 37) Kr 12 [(0, .ref 267), (1, .ref 1), (2, .ref 4), (3, .int a3), (4, .int v5), (5, .int v6)] [] 311 ML37_12_4 0 0 := by
      intro n
      induction n using Nat.strongRecOn with
      | ind n ih_L37_12_4 =>
      intro ML37_12_4 v5 v6 IML37_12_4 FML37_12_4 hbL37_12_40 hbL37_12_41 hbL37_12_42 hbL37_12_43 hbL37_12_44 hbL37_12_45 hbL37_12_46 hmL37_12_4
      refine PW.iload q_37_12 rfl ?_
      refine PW.cB q_37_14 (by decide) fun c7 hc7 => ?_
      refine PW.jc_ge q_37_16 rfl (fun h8 => ?_) (fun h8 => ?_)
      · skip
        refine PW.iload q_37_69 rfl ?_
        refine PW.rZ q_37_71 rfl (by omega) (by omega) (by decide) (by decide) ?_
        exact hK v5 ML37_12_4 IML37_12_4 FML37_12_4 (by omega) (by omega) (Or.inr ⟨(s_li.full hbL37_12_44 (by omega) hp_4).1, (s_li.full hbL37_12_44 (by omega) hp_4).2⟩)
      · skip
        refine PW.iload q_37_19 rfl ?_
        refine PW.jz_eq q_37_21 rfl (fun h9 => ?_) (fun h9 => ?_)
        · skip
          refine PW.iload q_37_69 rfl ?_
          refine PW.rZ q_37_71 rfl (by omega) (by omega) (by decide) (by decide) ?_
          exact hK v5 ML37_12_4 IML37_12_4 FML37_12_4 (by omega) (by omega) (Or.inr ⟨by omega, (s_li.no hbL37_12_44 (by omega))⟩)
        · skip
          obtain ⟨j0, o0, K0, N0⟩ : ∃ (j0 : Nat) (o0 : Int), s_ok y f m (i, false, st, on) st (on + v6.toInt) ML37_12_4 j0 o0 ∧ (18 = 17 → ¬ (kK y j0 = 2 ∧ s_wn y j0 = 18)) := by rcases hbL37_12_44 with q | q; (· exact q.2); (· omega)
          have T0 := K0.1
          have B0 := K0.2.1
          have B1 := K0.2.2.1
          refine PW.aload_n q_37_24 rfl ?_
          refine PW.gets q_37_25 t_st_37_69 ?_
          refine PW.cV (as := [_]) (rest := []) q_37_28 t_mv_37_58 kd_1 IML37_12_4.1 (by decide) rfl (by decide) rfl rfl (Nat.le_of_ble_eq_true rfl) (Nat.le_of_ble_eq_true rfl) (by decide) (by decide) ?_
          refine PW.up (by decide) (c_X7_takes_vk (V) (hV) G _ ML37_12_4 IML37_12_4 18 (by decide) y (j0) K0.2.2.2.1 fun x11 M10 IM10 GM10 hx11 kx11 PM10 => ?_)
          have FM10 := Fr.trans FML37_12_4 GM10 (rfl)
          rcases PM10 with ⟨PaM10, PbM10, PcM10, PtM10⟩ | ⟨PaM10, PnM10, PtM10⟩
          · skip
            have swM10 := (s_wn_iff (x := y) (i := j0) (show 18 < 28 by decide)).mp PcM10
            refine PW.jz_eq q_37_31 rfl (fun h12 => False.elim (by omega)) (fun h12 => ?_)
            have e0 : s_st y f m (j0, true, st, o0) = (0, 0, (j0 + 1, false, st, o0)) := by show s_bh y j0 st o0 = _; unfold s_bh; rw [if_pos ⟨PbM10, by omega⟩]
            refine PW.aload_n q_37_34 rfl ?_
            refine PW.aload_n q_37_35 rfl ?_
            refine PW.aload_n q_37_36 rfl ?_
            refine PW.iload_n q_37_37 rfl ?_
            refine PW.cV (as := [_, _, _]) (rest := []) q_37_38 t_mv_37_66 kd_267 IM10.1 (by decide) rfl (by decide) rfl rfl (Nat.le_of_ble_eq_true rfl) (Nat.le_of_ble_eq_true rfl) (by decide) (by decide) ?_
            refine PW.up (by decide) (c_X4_readOne_vk3 (V) (hV) G _ M10 IM10 a3 (by omega) (by omega) y (j0 + 1) f m st o0 PtM10 ((hp_1.cg hbL37_12_45 hbL37_12_46).cg (Fr.at GM10 kd_4 (by decide)) (Fr.at GM10 kd_5 (by decide))) ((congrArg (fun e => o_i e 0) (Fr.at GM10 kd_267 (by decide))).trans K0.2.2.2.2) hp_3 (by omega) fun x14 M13 IM13 GM13 hx14 kx14 PM13 => ?_)
            have FM13 := Fr.trans FM10 GM13 (rfl)
            rcases PM13 with ⟨PaM13, jM13, oM13, PkM13⟩ | ⟨PaM13, PkM13⟩
            · skip
              have koM13 := PkM13.2
              refine PW.jz_eq q_37_41 rfl (fun h15 => False.elim (by omega)) (fun h15 => ?_)
              refine PW.aload_n q_37_44 rfl ?_
              refine PW.gets q_37_45 t_st_37_69 ?_
              refine PW.cI q_37_48 (by decide) fun c16 hc16 => ?_
              refine PW.cI q_37_49 (by decide) fun c17 hc17 => ?_
              refine PW.cV (as := [_, _, _]) (rest := []) q_37_50 t_mv_37_62 kd_267 IM13.1 (by decide) rfl (by decide) rfl rfl (Nat.le_of_ble_eq_true rfl) (Nat.le_of_ble_eq_true rfl) (by decide) (by decide) ?_
              refine PW.up (by decide) (c_X4_add_vk (V) (hV) G _ M13 IM13 18 (by decide) c16 c17 (by omega) (by omega) fun x19 M18 IM18 GM18 hx19 kx19 PM18 => ?_)
              have FM18 := Fr.trans FM13 GM18 (rfl)
              have PoM18 := PM18
              refine PW.jz_eq q_37_53 rfl (fun h20 => False.elim (by omega)) (fun h20 => ?_)
              refine PW.cI q_37_56 (by decide) fun c21 hc21 => ?_
              refine PW.goto q_37_57 rfl ?_
              refine PW.istore q_37_61 (by decide) ?_
              refine PW.incN q_37_63 rfl (by decide) (by decide) (by omega) (by omega) fun x22 hx22 => ?_
              refine PW.goto q_37_66 rfl ?_
              refine PW.lvS (lk1 rfl (lk1 rfl (lk1 rfl (lk1 rfl (lk1 rfl (lk1 rfl lk0)))))) (ih_L37_12_4 _ ?_ M18 c21 x22 IM18 FM18 (by omega) (by omega) (by omega) (by omega) (Or.inl ⟨by omega, jM13, oM13, ((s_ok.next (c := x22.toInt) (by rw [hp_5] at PkM13; exact PkM13) (T0.trans (s_to.of e0)) (by have := K0.2.1; omega)).cg (Fr.at GM18 kd_1 (by decide)) (Fr.at GM18 kd_2 (by decide)) PoM18), (fun h => absurd h (by decide))⟩) (((Fr.at GM18 kd_4 (by decide)).trans ((Fr.at GM13 kd_4 (by decide)).trans (Fr.at GM10 kd_4 (by decide)))).trans hbL37_12_45) (((Fr.at GM18 kd_5 (by decide)).trans ((Fr.at GM13 kd_5 (by decide)).trans (Fr.at GM10 kd_5 (by decide)))).trans hbL37_12_46) rfl)
              omega
            · skip
              refine PW.jz_eq q_37_41 rfl (fun h23 => ?_) (fun h23 => False.elim (by omega))
              refine PW.cI q_37_60 (by decide) fun c24 hc24 => ?_
              refine PW.istore q_37_61 (by decide) ?_
              refine PW.incN q_37_63 rfl (by decide) (by decide) (by omega) (by omega) fun x25 hx25 => ?_
              refine PW.goto q_37_66 rfl ?_
              refine PW.lvS (lk1 rfl (lk1 rfl (lk1 rfl (lk1 rfl (lk1 rfl (lk1 rfl lk0)))))) (ih_L37_12_4 _ ?_ M13 c24 x25 IM13 FM13 (by omega) (by omega) (by omega) (by omega) (Or.inr ⟨by omega, ((s_bad.to PkM13 (T0.trans (s_to.of e0))).cg rfl)⟩) (((Fr.at GM13 kd_4 (by decide)).trans (Fr.at GM10 kd_4 (by decide))).trans hbL37_12_45) (((Fr.at GM13 kd_5 (by decide)).trans (Fr.at GM10 kd_5 (by decide))).trans hbL37_12_46) rfl)
              omega
          · skip
            have snM10 : kK y (j0) = 2 → s_wn y (j0) ≠ 18 := fun h q => PnM10 ⟨h, (s_wn_iff (show 18 < 28 by decide)).mpr q⟩
            refine PW.jz_eq q_37_31 rfl (fun h26 => ?_) (fun h26 => False.elim (by omega))
            refine PW.iload q_37_69 rfl ?_
            refine PW.rZ q_37_71 rfl (by omega) (by omega) (by decide) (by decide) ?_
            exact hK v5 M10 IM10 FM10 (by omega) (by omega) (Or.inl ⟨by omega, j0, o0, ⟨T0, by omega, B1, PtM10, ((congrArg (fun e => o_i e 0) (Fr.at GM10 kd_267 (by decide))).trans K0.2.2.2.2)⟩, (fun h => snM10 h.1 h.2)⟩)
    exact PW.lvS (lk1 rfl (lk1 rfl (lk1 rfl (lk1 rfl (lk1 rfl (lk1 rfl lk0)))))) (L37_12_4 _ M1 x2 c3 IM1 FM1 (by omega) (by omega) (by omega) (by omega) (Or.inl ⟨by omega, jM1, oM1, (s_ok.mono (by rw [hp_5] at PkM1; exact PkM1) (by omega)), (fun h => absurd h (by decide))⟩) (Fr.at GM1 kd_4 (by decide)) (Fr.at GM1 kd_5 (by decide)) rfl)
  · skip
    refine PW.istore q_37_7 (by decide) ?_
    refine PW.cI q_37_9 (by decide) fun c27 hc27 => ?_
    refine PW.istore q_37_10 (by decide) ?_
    have L37_12_28 : ∀ (n : Nat) (ML37_12_28 : pM) (v29 v30 : Int32), Iv (V) ML37_12_28 → Fr [1, 14, 15, 16, 17] M ML37_12_28 → 0 ≤ v29.toInt → v29.toInt ≤ 1 → 0 ≤ v30.toInt → v30.toInt ≤ 20 → s_li y f m i st on 18 ML37_12_28 v29.toInt v30.toInt → ML37_12_28 4 = M 4 → ML37_12_28 5 = M 5 → (20 - v30.toInt).toNat = n → PW G false 22 37 (p_mc 37) (p_msl 37) Kr 12 [(0, .ref 267), (1, .ref 1), (2, .ref 4), (3, .int a3), (4, .int v29), (5, .int v30)] [] 311 ML37_12_28 0 0 := by
      intro n
      induction n using Nat.strongRecOn with
      | ind n ih_L37_12_28 =>
      intro ML37_12_28 v29 v30 IML37_12_28 FML37_12_28 hbL37_12_280 hbL37_12_281 hbL37_12_282 hbL37_12_283 hbL37_12_284 hbL37_12_285 hbL37_12_286 hmL37_12_28
      refine PW.iload q_37_12 rfl ?_
      refine PW.cB q_37_14 (by decide) fun c31 hc31 => ?_
      refine PW.jc_ge q_37_16 rfl (fun h32 => ?_) (fun h32 => ?_)
      · skip
        refine PW.iload q_37_69 rfl ?_
        refine PW.rZ q_37_71 rfl (by omega) (by omega) (by decide) (by decide) ?_
        exact hK v29 ML37_12_28 IML37_12_28 FML37_12_28 (by omega) (by omega) (Or.inr ⟨(s_li.full hbL37_12_284 (by omega) hp_4).1, (s_li.full hbL37_12_284 (by omega) hp_4).2⟩)
      · skip
        refine PW.iload q_37_19 rfl ?_
        refine PW.jz_eq q_37_21 rfl (fun h33 => ?_) (fun h33 => ?_)
        · skip
          refine PW.iload q_37_69 rfl ?_
          refine PW.rZ q_37_71 rfl (by omega) (by omega) (by decide) (by decide) ?_
          exact hK v29 ML37_12_28 IML37_12_28 FML37_12_28 (by omega) (by omega) (Or.inr ⟨by omega, (s_li.no hbL37_12_284 (by omega))⟩)
        · skip
          obtain ⟨j0, o0, K0, N0⟩ : ∃ (j0 : Nat) (o0 : Int), s_ok y f m (i, false, st, on) st (on + v30.toInt) ML37_12_28 j0 o0 ∧ (18 = 17 → ¬ (kK y j0 = 2 ∧ s_wn y j0 = 18)) := by rcases hbL37_12_284 with q | q; (· exact q.2); (· omega)
          have T0 := K0.1
          have B0 := K0.2.1
          have B1 := K0.2.2.1
          refine PW.aload_n q_37_24 rfl ?_
          refine PW.gets q_37_25 t_st_37_69 ?_
          refine PW.cV (as := [_]) (rest := []) q_37_28 t_mv_37_58 kd_1 IML37_12_28.1 (by decide) rfl (by decide) rfl rfl (Nat.le_of_ble_eq_true rfl) (Nat.le_of_ble_eq_true rfl) (by decide) (by decide) ?_
          refine PW.up (by decide) (c_X7_takes_vk (V) (hV) G _ ML37_12_28 IML37_12_28 18 (by decide) y (j0) K0.2.2.2.1 fun x35 M34 IM34 GM34 hx35 kx35 PM34 => ?_)
          have FM34 := Fr.trans FML37_12_28 GM34 (rfl)
          rcases PM34 with ⟨PaM34, PbM34, PcM34, PtM34⟩ | ⟨PaM34, PnM34, PtM34⟩
          · skip
            have swM34 := (s_wn_iff (x := y) (i := j0) (show 18 < 28 by decide)).mp PcM34
            refine PW.jz_eq q_37_31 rfl (fun h36 => False.elim (by omega)) (fun h36 => ?_)
            have e0 : s_st y f m (j0, true, st, o0) = (0, 0, (j0 + 1, false, st, o0)) := by show s_bh y j0 st o0 = _; unfold s_bh; rw [if_pos ⟨PbM34, by omega⟩]
            refine PW.aload_n q_37_34 rfl ?_
            refine PW.aload_n q_37_35 rfl ?_
            refine PW.aload_n q_37_36 rfl ?_
            refine PW.iload_n q_37_37 rfl ?_
            refine PW.cV (as := [_, _, _]) (rest := []) q_37_38 t_mv_37_66 kd_267 IM34.1 (by decide) rfl (by decide) rfl rfl (Nat.le_of_ble_eq_true rfl) (Nat.le_of_ble_eq_true rfl) (by decide) (by decide) ?_
            refine PW.up (by decide) (c_X4_readOne_vk3 (V) (hV) G _ M34 IM34 a3 (by omega) (by omega) y (j0 + 1) f m st o0 PtM34 ((hp_1.cg hbL37_12_285 hbL37_12_286).cg (Fr.at GM34 kd_4 (by decide)) (Fr.at GM34 kd_5 (by decide))) ((congrArg (fun e => o_i e 0) (Fr.at GM34 kd_267 (by decide))).trans K0.2.2.2.2) hp_3 (by omega) fun x38 M37 IM37 GM37 hx38 kx38 PM37 => ?_)
            have FM37 := Fr.trans FM34 GM37 (rfl)
            rcases PM37 with ⟨PaM37, jM37, oM37, PkM37⟩ | ⟨PaM37, PkM37⟩
            · skip
              have koM37 := PkM37.2
              refine PW.jz_eq q_37_41 rfl (fun h39 => False.elim (by omega)) (fun h39 => ?_)
              refine PW.aload_n q_37_44 rfl ?_
              refine PW.gets q_37_45 t_st_37_69 ?_
              refine PW.cI q_37_48 (by decide) fun c40 hc40 => ?_
              refine PW.cI q_37_49 (by decide) fun c41 hc41 => ?_
              refine PW.cV (as := [_, _, _]) (rest := []) q_37_50 t_mv_37_62 kd_267 IM37.1 (by decide) rfl (by decide) rfl rfl (Nat.le_of_ble_eq_true rfl) (Nat.le_of_ble_eq_true rfl) (by decide) (by decide) ?_
              refine PW.up (by decide) (c_X4_add_vk (V) (hV) G _ M37 IM37 18 (by decide) c40 c41 (by omega) (by omega) fun x43 M42 IM42 GM42 hx43 kx43 PM42 => ?_)
              have FM42 := Fr.trans FM37 GM42 (rfl)
              have PoM42 := PM42
              refine PW.jz_eq q_37_53 rfl (fun h44 => False.elim (by omega)) (fun h44 => ?_)
              refine PW.cI q_37_56 (by decide) fun c45 hc45 => ?_
              refine PW.goto q_37_57 rfl ?_
              refine PW.istore q_37_61 (by decide) ?_
              refine PW.incN q_37_63 rfl (by decide) (by decide) (by omega) (by omega) fun x46 hx46 => ?_
              refine PW.goto q_37_66 rfl ?_
              refine PW.lvS (lk1 rfl (lk1 rfl (lk1 rfl (lk1 rfl (lk1 rfl (lk1 rfl lk0)))))) (ih_L37_12_28 _ ?_ M42 c45 x46 IM42 FM42 (by omega) (by omega) (by omega) (by omega) (Or.inl ⟨by omega, jM37, oM37, ((s_ok.next (c := x46.toInt) (by rw [hp_5] at PkM37; exact PkM37) (T0.trans (s_to.of e0)) (by have := K0.2.1; omega)).cg (Fr.at GM42 kd_1 (by decide)) (Fr.at GM42 kd_2 (by decide)) PoM42), (fun h => absurd h (by decide))⟩) (((Fr.at GM42 kd_4 (by decide)).trans ((Fr.at GM37 kd_4 (by decide)).trans (Fr.at GM34 kd_4 (by decide)))).trans hbL37_12_285) (((Fr.at GM42 kd_5 (by decide)).trans ((Fr.at GM37 kd_5 (by decide)).trans (Fr.at GM34 kd_5 (by decide)))).trans hbL37_12_286) rfl)
              omega
            · skip
              refine PW.jz_eq q_37_41 rfl (fun h47 => ?_) (fun h47 => False.elim (by omega))
              refine PW.cI q_37_60 (by decide) fun c48 hc48 => ?_
              refine PW.istore q_37_61 (by decide) ?_
              refine PW.incN q_37_63 rfl (by decide) (by decide) (by omega) (by omega) fun x49 hx49 => ?_
              refine PW.goto q_37_66 rfl ?_
              refine PW.lvS (lk1 rfl (lk1 rfl (lk1 rfl (lk1 rfl (lk1 rfl (lk1 rfl lk0)))))) (ih_L37_12_28 _ ?_ M37 c48 x49 IM37 FM37 (by omega) (by omega) (by omega) (by omega) (Or.inr ⟨by omega, ((s_bad.to PkM37 (T0.trans (s_to.of e0))).cg rfl)⟩) (((Fr.at GM37 kd_4 (by decide)).trans (Fr.at GM34 kd_4 (by decide))).trans hbL37_12_285) (((Fr.at GM37 kd_5 (by decide)).trans (Fr.at GM34 kd_5 (by decide))).trans hbL37_12_286) rfl)
              omega
          · skip
            have snM34 : kK y (j0) = 2 → s_wn y (j0) ≠ 18 := fun h q => PnM34 ⟨h, (s_wn_iff (show 18 < 28 by decide)).mpr q⟩
            refine PW.jz_eq q_37_31 rfl (fun h50 => ?_) (fun h50 => False.elim (by omega))
            refine PW.iload q_37_69 rfl ?_
            refine PW.rZ q_37_71 rfl (by omega) (by omega) (by decide) (by decide) ?_
            exact hK v29 M34 IM34 FM34 (by omega) (by omega) (Or.inl ⟨by omega, j0, o0, ⟨T0, by omega, B1, PtM34, ((congrArg (fun e => o_i e 0) (Fr.at GM34 kd_267 (by decide))).trans K0.2.2.2.2)⟩, (fun h => snM34 h.1 h.2)⟩)
    exact PW.lvS (lk1 rfl (lk1 rfl (lk1 rfl (lk1 rfl (lk1 rfl (lk1 rfl lk0)))))) (L37_12_28 _ M1 x2 c27 IM1 FM1 (by omega) (by omega) (by omega) (by omega) (Or.inr ⟨by omega, PkM1⟩) (Fr.at GM1 kd_4 (by decide)) (Fr.at GM1 kd_5 (by decide)) rfl)
theorem c_X4_readAny_vk3 (V : pM → Prop) (hV : Stab V) (G : pG) (Kr : pK) (M : pM) (I : Iv V M) (a3 : Int32) (hl_a3 : 3 ≤ a3.toInt) (hh_a3 : a3.toInt ≤ 3) (y : k_X) (i : Nat) (f : Nat → Int) (m : Int) (st : List Bool) (on : Int) (hp_0 : k_at y M i) (hp_1 : s_nm M f m) (hp_2 : o_i (M 267) 0 = on) (hp_3 : st.length + 1 = 3) (hp_4 : 0 ≤ on) (hp_5 : s_dn st = st) (hK : ∀ (x : Int32) (M1 : pM), Iv V M1 → Fr [1, 14, 15, 16, 17] M M1 → 0 ≤ x.toInt → x.toInt ≤ 1 → (s_aq y f m i st on x M1) → Kr.1 (some (.int x)) 311 M1) : PW G false 23 36 (p_mc 36) (p_msl 36) Kr 0 (lv_args 0 [.ref 267, .ref 1, .ref 4, .int a3]) [] 311 M 0 0 := by
  have F : Fr [1, 14, 15, 16, 17] M M := Fr.refl
  obtain ⟨w267_0, fw267_0, hw267_0, kw267_0⟩ := gF_14_0.int kd_267 I.1 (by decide)
  have iw267_0 := o_i_of fw267_0
  have jw267_0 : w267_0.toInt = on := by have w := hp_2; omega
  refine PW.aload_n q_36_0 rfl ?_
  refine PW.aload_n q_36_1 rfl ?_
  refine PW.aload_n q_36_2 rfl ?_
  refine PW.iload_n q_36_3 rfl ?_
  refine PW.cV (as := [_, _, _]) (rest := []) q_36_4 t_mv_36_51 kd_267 I.1 (by decide) rfl (by decide) rfl rfl (Nat.le_of_ble_eq_true rfl) (Nat.le_of_ble_eq_true rfl) (by decide) (by decide) ?_
  refine PW.up (by decide) (c_X4_readAll_vk3 (V) (hV) G _ M I a3 (by omega) (by omega) y (i) f m st on hp_0 hp_1 hp_2 hp_3 (by omega) hp_5 fun x2 M1 IM1 GM1 hx2 kx2 PM1 => ?_)
  have FM1 := Fr.trans F GM1 (rfl)
  rcases PM1 with ⟨PaM1, jM1, oM1, PkM1, Pn2M1⟩ | ⟨PaM1, PkM1⟩
  · skip
    have koM1 := PkM1.2
    refine PW.istore q_36_7 (by decide) ?_
    refine PW.cI q_36_9 (by decide) fun c3 hc3 => ?_
    refine PW.istore q_36_10 (by decide) ?_
    have L36_12_4 : ∀ (n : Nat) (ML36_12_4 : pM) (v5 v6 : Int32), Iv (V) ML36_12_4 → Fr [1, 14, 15, 16, 17] M ML36_12_4 → 0 ≤ v5.toInt → v5.toInt ≤ 1 → 0 ≤ v6.toInt → v6.toInt ≤ 20 → s_li y f m i st on 17 ML36_12_4 v5.toInt v6.toInt → ML36_12_4 4 = M 4 → ML36_12_4 5 = M 5 → (20 - v6.toInt).toNat = n → PW G false 23 36 (p_mc 36) (p_msl 36) Kr 12 [(0, .ref 267), (1, .ref 1), (2, .ref 4), (3, .int a3), (4, .int v5), (5, .int v6)] [] 311 ML36_12_4 0 0 := by
      intro n
      induction n using Nat.strongRecOn with
      | ind n ih_L36_12_4 =>
      intro ML36_12_4 v5 v6 IML36_12_4 FML36_12_4 hbL36_12_40 hbL36_12_41 hbL36_12_42 hbL36_12_43 hbL36_12_44 hbL36_12_45 hbL36_12_46 hmL36_12_4
      refine PW.iload q_36_12 rfl ?_
      refine PW.cB q_36_14 (by decide) fun c7 hc7 => ?_
      refine PW.jc_ge q_36_16 rfl (fun h8 => ?_) (fun h8 => ?_)
      · skip
        refine PW.iload q_36_69 rfl ?_
        refine PW.rZ q_36_71 rfl (by omega) (by omega) (by decide) (by decide) ?_
        exact hK v5 ML36_12_4 IML36_12_4 FML36_12_4 (by omega) (by omega) (Or.inr ⟨(s_li.full hbL36_12_44 (by omega) hp_4).1, (s_li.full hbL36_12_44 (by omega) hp_4).2⟩)
      · skip
        refine PW.iload q_36_19 rfl ?_
        refine PW.jz_eq q_36_21 rfl (fun h9 => ?_) (fun h9 => ?_)
        · skip
          refine PW.iload q_36_69 rfl ?_
          refine PW.rZ q_36_71 rfl (by omega) (by omega) (by decide) (by decide) ?_
          exact hK v5 ML36_12_4 IML36_12_4 FML36_12_4 (by omega) (by omega) (Or.inr ⟨by omega, (s_li.no hbL36_12_44 (by omega))⟩)
        · skip
          obtain ⟨j0, o0, K0, N0⟩ : ∃ (j0 : Nat) (o0 : Int), s_ok y f m (i, false, st, on) st (on + v6.toInt) ML36_12_4 j0 o0 ∧ (17 = 17 → ¬ (kK y j0 = 2 ∧ s_wn y j0 = 18)) := by rcases hbL36_12_44 with q | q; (· exact q.2); (· omega)
          have T0 := K0.1
          have B0 := K0.2.1
          have B1 := K0.2.2.1
          refine PW.aload_n q_36_24 rfl ?_
          refine PW.gets q_36_25 t_st_36_54 ?_
          refine PW.cV (as := [_]) (rest := []) q_36_28 t_mv_36_58 kd_1 IML36_12_4.1 (by decide) rfl (by decide) rfl rfl (Nat.le_of_ble_eq_true rfl) (Nat.le_of_ble_eq_true rfl) (by decide) (by decide) ?_
          refine PW.up (by decide) (c_X7_takes_vk (V) (hV) G _ ML36_12_4 IML36_12_4 17 (by decide) y (j0) K0.2.2.2.1 fun x11 M10 IM10 GM10 hx11 kx11 PM10 => ?_)
          have FM10 := Fr.trans FML36_12_4 GM10 (rfl)
          rcases PM10 with ⟨PaM10, PbM10, PcM10, PtM10⟩ | ⟨PaM10, PnM10, PtM10⟩
          · skip
            have swM10 := (s_wn_iff (x := y) (i := j0) (show 17 < 28 by decide)).mp PcM10
            refine PW.jz_eq q_36_31 rfl (fun h12 => False.elim (by omega)) (fun h12 => ?_)
            have e0 : s_st y f m (j0, true, st, o0) = (0, 0, (j0 + 1, false, st, o0)) := by show s_bh y j0 st o0 = _; unfold s_bh; rw [if_pos ⟨PbM10, by omega⟩]
            refine PW.aload_n q_36_34 rfl ?_
            refine PW.aload_n q_36_35 rfl ?_
            refine PW.aload_n q_36_36 rfl ?_
            refine PW.iload_n q_36_37 rfl ?_
            refine PW.cV (as := [_, _, _]) (rest := []) q_36_38 t_mv_36_51 kd_267 IM10.1 (by decide) rfl (by decide) rfl rfl (Nat.le_of_ble_eq_true rfl) (Nat.le_of_ble_eq_true rfl) (by decide) (by decide) ?_
            refine PW.up (by decide) (c_X4_readAll_vk3 (V) (hV) G _ M10 IM10 a3 (by omega) (by omega) y (j0 + 1) f m st o0 PtM10 ((hp_1.cg hbL36_12_45 hbL36_12_46).cg (Fr.at GM10 kd_4 (by decide)) (Fr.at GM10 kd_5 (by decide))) ((congrArg (fun e => o_i e 0) (Fr.at GM10 kd_267 (by decide))).trans K0.2.2.2.2) hp_3 (by omega) hp_5 fun x14 M13 IM13 GM13 hx14 kx14 PM13 => ?_)
            have FM13 := Fr.trans FM10 GM13 (rfl)
            rcases PM13 with ⟨PaM13, jM13, oM13, PkM13, Pn2M13⟩ | ⟨PaM13, PkM13⟩
            · skip
              have koM13 := PkM13.2
              refine PW.jz_eq q_36_41 rfl (fun h15 => False.elim (by omega)) (fun h15 => ?_)
              refine PW.aload_n q_36_44 rfl ?_
              refine PW.gets q_36_45 t_st_36_54 ?_
              refine PW.cI q_36_48 (by decide) fun c16 hc16 => ?_
              refine PW.cI q_36_49 (by decide) fun c17 hc17 => ?_
              refine PW.cV (as := [_, _, _]) (rest := []) q_36_50 t_mv_36_62 kd_267 IM13.1 (by decide) rfl (by decide) rfl rfl (Nat.le_of_ble_eq_true rfl) (Nat.le_of_ble_eq_true rfl) (by decide) (by decide) ?_
              refine PW.up (by decide) (c_X4_add_vk (V) (hV) G _ M13 IM13 17 (by decide) c16 c17 (by omega) (by omega) fun x19 M18 IM18 GM18 hx19 kx19 PM18 => ?_)
              have FM18 := Fr.trans FM13 GM18 (rfl)
              have PoM18 := PM18
              refine PW.jz_eq q_36_53 rfl (fun h20 => False.elim (by omega)) (fun h20 => ?_)
              refine PW.cI q_36_56 (by decide) fun c21 hc21 => ?_
              refine PW.goto q_36_57 rfl ?_
              refine PW.istore q_36_61 (by decide) ?_
              refine PW.incN q_36_63 rfl (by decide) (by decide) (by omega) (by omega) fun x22 hx22 => ?_
              refine PW.goto q_36_66 rfl ?_
              refine PW.lvS (lk1 rfl (lk1 rfl (lk1 rfl (lk1 rfl (lk1 rfl (lk1 rfl lk0)))))) (ih_L36_12_4 _ ?_ M18 c21 x22 IM18 FM18 (by omega) (by omega) (by omega) (by omega) (Or.inl ⟨by omega, jM13, oM13, ((s_ok.next (c := x22.toInt) PkM13 (T0.trans (s_to.of e0)) (by have := K0.2.1; omega)).cg (Fr.at GM18 kd_1 (by decide)) (Fr.at GM18 kd_2 (by decide)) PoM18), (fun _ => Pn2M13)⟩) (((Fr.at GM18 kd_4 (by decide)).trans ((Fr.at GM13 kd_4 (by decide)).trans (Fr.at GM10 kd_4 (by decide)))).trans hbL36_12_45) (((Fr.at GM18 kd_5 (by decide)).trans ((Fr.at GM13 kd_5 (by decide)).trans (Fr.at GM10 kd_5 (by decide)))).trans hbL36_12_46) rfl)
              omega
            · skip
              refine PW.jz_eq q_36_41 rfl (fun h23 => ?_) (fun h23 => False.elim (by omega))
              refine PW.cI q_36_60 (by decide) fun c24 hc24 => ?_
              refine PW.istore q_36_61 (by decide) ?_
              refine PW.incN q_36_63 rfl (by decide) (by decide) (by omega) (by omega) fun x25 hx25 => ?_
              refine PW.goto q_36_66 rfl ?_
              refine PW.lvS (lk1 rfl (lk1 rfl (lk1 rfl (lk1 rfl (lk1 rfl (lk1 rfl lk0)))))) (ih_L36_12_4 _ ?_ M13 c24 x25 IM13 FM13 (by omega) (by omega) (by omega) (by omega) (Or.inr ⟨by omega, ((s_bad.to PkM13 (T0.trans (s_to.of e0))).cg rfl)⟩) (((Fr.at GM13 kd_4 (by decide)).trans (Fr.at GM10 kd_4 (by decide))).trans hbL36_12_45) (((Fr.at GM13 kd_5 (by decide)).trans (Fr.at GM10 kd_5 (by decide))).trans hbL36_12_46) rfl)
              omega
          · skip
            have snM10 : kK y (j0) = 2 → s_wn y (j0) ≠ 17 := fun h q => PnM10 ⟨h, (s_wn_iff (show 17 < 28 by decide)).mpr q⟩
            refine PW.jz_eq q_36_31 rfl (fun h26 => ?_) (fun h26 => False.elim (by omega))
            refine PW.iload q_36_69 rfl ?_
            refine PW.rZ q_36_71 rfl (by omega) (by omega) (by decide) (by decide) ?_
            exact hK v5 M10 IM10 FM10 (by omega) (by omega) (Or.inl ⟨by omega, j0, o0, ⟨T0, by omega, B1, PtM10, ((congrArg (fun e => o_i e 0) (Fr.at GM10 kd_267 (by decide))).trans K0.2.2.2.2)⟩, (fun h => by rcases h.2 with q | q; (· exact N0 rfl ⟨h.1, q⟩); (· exact snM10 h.1 q))⟩)
    exact PW.lvS (lk1 rfl (lk1 rfl (lk1 rfl (lk1 rfl (lk1 rfl (lk1 rfl lk0)))))) (L36_12_4 _ M1 x2 c3 IM1 FM1 (by omega) (by omega) (by omega) (by omega) (Or.inl ⟨by omega, jM1, oM1, (s_ok.mono PkM1 (by omega)), (fun _ => Pn2M1)⟩) (Fr.at GM1 kd_4 (by decide)) (Fr.at GM1 kd_5 (by decide)) rfl)
  · skip
    refine PW.istore q_36_7 (by decide) ?_
    refine PW.cI q_36_9 (by decide) fun c27 hc27 => ?_
    refine PW.istore q_36_10 (by decide) ?_
    have L36_12_28 : ∀ (n : Nat) (ML36_12_28 : pM) (v29 v30 : Int32), Iv (V) ML36_12_28 → Fr [1, 14, 15, 16, 17] M ML36_12_28 → 0 ≤ v29.toInt → v29.toInt ≤ 1 → 0 ≤ v30.toInt → v30.toInt ≤ 20 → s_li y f m i st on 17 ML36_12_28 v29.toInt v30.toInt → ML36_12_28 4 = M 4 → ML36_12_28 5 = M 5 → (20 - v30.toInt).toNat = n → PW G false 23 36 (p_mc 36) (p_msl 36) Kr 12 [(0, .ref 267), (1, .ref 1), (2, .ref 4), (3, .int a3), (4, .int v29), (5, .int v30)] [] 311 ML36_12_28 0 0 := by
      intro n
      induction n using Nat.strongRecOn with
      | ind n ih_L36_12_28 =>
      intro ML36_12_28 v29 v30 IML36_12_28 FML36_12_28 hbL36_12_280 hbL36_12_281 hbL36_12_282 hbL36_12_283 hbL36_12_284 hbL36_12_285 hbL36_12_286 hmL36_12_28
      refine PW.iload q_36_12 rfl ?_
      refine PW.cB q_36_14 (by decide) fun c31 hc31 => ?_
      refine PW.jc_ge q_36_16 rfl (fun h32 => ?_) (fun h32 => ?_)
      · skip
        refine PW.iload q_36_69 rfl ?_
        refine PW.rZ q_36_71 rfl (by omega) (by omega) (by decide) (by decide) ?_
        exact hK v29 ML36_12_28 IML36_12_28 FML36_12_28 (by omega) (by omega) (Or.inr ⟨(s_li.full hbL36_12_284 (by omega) hp_4).1, (s_li.full hbL36_12_284 (by omega) hp_4).2⟩)
      · skip
        refine PW.iload q_36_19 rfl ?_
        refine PW.jz_eq q_36_21 rfl (fun h33 => ?_) (fun h33 => ?_)
        · skip
          refine PW.iload q_36_69 rfl ?_
          refine PW.rZ q_36_71 rfl (by omega) (by omega) (by decide) (by decide) ?_
          exact hK v29 ML36_12_28 IML36_12_28 FML36_12_28 (by omega) (by omega) (Or.inr ⟨by omega, (s_li.no hbL36_12_284 (by omega))⟩)
        · skip
          obtain ⟨j0, o0, K0, N0⟩ : ∃ (j0 : Nat) (o0 : Int), s_ok y f m (i, false, st, on) st (on + v30.toInt) ML36_12_28 j0 o0 ∧ (17 = 17 → ¬ (kK y j0 = 2 ∧ s_wn y j0 = 18)) := by rcases hbL36_12_284 with q | q; (· exact q.2); (· omega)
          have T0 := K0.1
          have B0 := K0.2.1
          have B1 := K0.2.2.1
          refine PW.aload_n q_36_24 rfl ?_
          refine PW.gets q_36_25 t_st_36_54 ?_
          refine PW.cV (as := [_]) (rest := []) q_36_28 t_mv_36_58 kd_1 IML36_12_28.1 (by decide) rfl (by decide) rfl rfl (Nat.le_of_ble_eq_true rfl) (Nat.le_of_ble_eq_true rfl) (by decide) (by decide) ?_
          refine PW.up (by decide) (c_X7_takes_vk (V) (hV) G _ ML36_12_28 IML36_12_28 17 (by decide) y (j0) K0.2.2.2.1 fun x35 M34 IM34 GM34 hx35 kx35 PM34 => ?_)
          have FM34 := Fr.trans FML36_12_28 GM34 (rfl)
          rcases PM34 with ⟨PaM34, PbM34, PcM34, PtM34⟩ | ⟨PaM34, PnM34, PtM34⟩
          · skip
            have swM34 := (s_wn_iff (x := y) (i := j0) (show 17 < 28 by decide)).mp PcM34
            refine PW.jz_eq q_36_31 rfl (fun h36 => False.elim (by omega)) (fun h36 => ?_)
            have e0 : s_st y f m (j0, true, st, o0) = (0, 0, (j0 + 1, false, st, o0)) := by show s_bh y j0 st o0 = _; unfold s_bh; rw [if_pos ⟨PbM34, by omega⟩]
            refine PW.aload_n q_36_34 rfl ?_
            refine PW.aload_n q_36_35 rfl ?_
            refine PW.aload_n q_36_36 rfl ?_
            refine PW.iload_n q_36_37 rfl ?_
            refine PW.cV (as := [_, _, _]) (rest := []) q_36_38 t_mv_36_51 kd_267 IM34.1 (by decide) rfl (by decide) rfl rfl (Nat.le_of_ble_eq_true rfl) (Nat.le_of_ble_eq_true rfl) (by decide) (by decide) ?_
            refine PW.up (by decide) (c_X4_readAll_vk3 (V) (hV) G _ M34 IM34 a3 (by omega) (by omega) y (j0 + 1) f m st o0 PtM34 ((hp_1.cg hbL36_12_285 hbL36_12_286).cg (Fr.at GM34 kd_4 (by decide)) (Fr.at GM34 kd_5 (by decide))) ((congrArg (fun e => o_i e 0) (Fr.at GM34 kd_267 (by decide))).trans K0.2.2.2.2) hp_3 (by omega) hp_5 fun x38 M37 IM37 GM37 hx38 kx38 PM37 => ?_)
            have FM37 := Fr.trans FM34 GM37 (rfl)
            rcases PM37 with ⟨PaM37, jM37, oM37, PkM37, Pn2M37⟩ | ⟨PaM37, PkM37⟩
            · skip
              have koM37 := PkM37.2
              refine PW.jz_eq q_36_41 rfl (fun h39 => False.elim (by omega)) (fun h39 => ?_)
              refine PW.aload_n q_36_44 rfl ?_
              refine PW.gets q_36_45 t_st_36_54 ?_
              refine PW.cI q_36_48 (by decide) fun c40 hc40 => ?_
              refine PW.cI q_36_49 (by decide) fun c41 hc41 => ?_
              refine PW.cV (as := [_, _, _]) (rest := []) q_36_50 t_mv_36_62 kd_267 IM37.1 (by decide) rfl (by decide) rfl rfl (Nat.le_of_ble_eq_true rfl) (Nat.le_of_ble_eq_true rfl) (by decide) (by decide) ?_
              refine PW.up (by decide) (c_X4_add_vk (V) (hV) G _ M37 IM37 17 (by decide) c40 c41 (by omega) (by omega) fun x43 M42 IM42 GM42 hx43 kx43 PM42 => ?_)
              have FM42 := Fr.trans FM37 GM42 (rfl)
              have PoM42 := PM42
              refine PW.jz_eq q_36_53 rfl (fun h44 => False.elim (by omega)) (fun h44 => ?_)
              refine PW.cI q_36_56 (by decide) fun c45 hc45 => ?_
              refine PW.goto q_36_57 rfl ?_
              refine PW.istore q_36_61 (by decide) ?_
              refine PW.incN q_36_63 rfl (by decide) (by decide) (by omega) (by omega) fun x46 hx46 => ?_
              refine PW.goto q_36_66 rfl ?_
              refine PW.lvS (lk1 rfl (lk1 rfl (lk1 rfl (lk1 rfl (lk1 rfl (lk1 rfl lk0)))))) (ih_L36_12_28 _ ?_ M42 c45 x46 IM42 FM42 (by omega) (by omega) (by omega) (by omega) (Or.inl ⟨by omega, jM37, oM37, ((s_ok.next (c := x46.toInt) PkM37 (T0.trans (s_to.of e0)) (by have := K0.2.1; omega)).cg (Fr.at GM42 kd_1 (by decide)) (Fr.at GM42 kd_2 (by decide)) PoM42), (fun _ => Pn2M37)⟩) (((Fr.at GM42 kd_4 (by decide)).trans ((Fr.at GM37 kd_4 (by decide)).trans (Fr.at GM34 kd_4 (by decide)))).trans hbL36_12_285) (((Fr.at GM42 kd_5 (by decide)).trans ((Fr.at GM37 kd_5 (by decide)).trans (Fr.at GM34 kd_5 (by decide)))).trans hbL36_12_286) rfl)
              omega
            · skip
              refine PW.jz_eq q_36_41 rfl (fun h47 => ?_) (fun h47 => False.elim (by omega))
              refine PW.cI q_36_60 (by decide) fun c48 hc48 => ?_
              refine PW.istore q_36_61 (by decide) ?_
              refine PW.incN q_36_63 rfl (by decide) (by decide) (by omega) (by omega) fun x49 hx49 => ?_
              refine PW.goto q_36_66 rfl ?_
              refine PW.lvS (lk1 rfl (lk1 rfl (lk1 rfl (lk1 rfl (lk1 rfl (lk1 rfl lk0)))))) (ih_L36_12_28 _ ?_ M37 c48 x49 IM37 FM37 (by omega) (by omega) (by omega) (by omega) (Or.inr ⟨by omega, ((s_bad.to PkM37 (T0.trans (s_to.of e0))).cg rfl)⟩) (((Fr.at GM37 kd_4 (by decide)).trans (Fr.at GM34 kd_4 (by decide))).trans hbL36_12_285) (((Fr.at GM37 kd_5 (by decide)).trans (Fr.at GM34 kd_5 (by decide))).trans hbL36_12_286) rfl)
              omega
          · skip
            have snM34 : kK y (j0) = 2 → s_wn y (j0) ≠ 17 := fun h q => PnM34 ⟨h, (s_wn_iff (show 17 < 28 by decide)).mpr q⟩
            refine PW.jz_eq q_36_31 rfl (fun h50 => ?_) (fun h50 => False.elim (by omega))
            refine PW.iload q_36_69 rfl ?_
            refine PW.rZ q_36_71 rfl (by omega) (by omega) (by decide) (by decide) ?_
            exact hK v29 M34 IM34 FM34 (by omega) (by omega) (Or.inl ⟨by omega, j0, o0, ⟨T0, by omega, B1, PtM34, ((congrArg (fun e => o_i e 0) (Fr.at GM34 kd_267 (by decide))).trans K0.2.2.2.2)⟩, (fun h => by rcases h.2 with q | q; (· exact N0 rfl ⟨h.1, q⟩); (· exact snM34 h.1 q))⟩)
    exact PW.lvS (lk1 rfl (lk1 rfl (lk1 rfl (lk1 rfl (lk1 rfl (lk1 rfl lk0)))))) (L36_12_28 _ M1 x2 c27 IM1 FM1 (by omega) (by omega) (by omega) (by omega) (Or.inr ⟨by omega, PkM1⟩) (Fr.at GM1 kd_4 (by decide)) (Fr.at GM1 kd_5 (by decide)) rfl)
theorem c_X4_readOne_vk2 (V : pM → Prop) (hV : Stab V) (G : pG) (Kr : pK) (M : pM) (I : Iv V M) (a3 : Int32) (hl_a3 : 2 ≤ a3.toInt) (hh_a3 : a3.toInt ≤ 2) (y : k_X) (i : Nat) (f : Nat → Int) (m : Int) (st : List Bool) (on : Int) (hp_0 : k_at y M i) (hp_1 : s_nm M f m) (hp_2 : o_i (M 267) 0 = on) (hp_3 : st.length + 1 = 2) (hp_4 : 0 ≤ on) (hK : ∀ (x : Int32) (M1 : pM), Iv V M1 → Fr [1, 14, 15, 16, 17] M M1 → 0 ≤ x.toInt → x.toInt ≤ 1 → (s_oq y f m i st on x M1) → Kr.1 (some (.int x)) 311 M1) : PW G false 24 38 (p_mc 38) (p_msl 38) Kr 0 (lv_args 0 [.ref 267, .ref 1, .ref 4, .int a3]) [] 311 M 0 0 := by
  have F : Fr [1, 14, 15, 16, 17] M M := Fr.refl
  obtain ⟨w267_0, fw267_0, hw267_0, kw267_0⟩ := gF_14_0.int kd_267 I.1 (by decide)
  have iw267_0 := o_i_of fw267_0
  have jw267_0 : w267_0.toInt = on := by have w := hp_2; omega
  refine PW.aload_n q_38_0 rfl ?_
  refine PW.callS (as := [_]) (rest := []) q_38_1 t_ms_38_72 (by decide) rfl (Nat.le_of_ble_eq_true rfl) (Nat.le_of_ble_eq_true rfl) (by decide) (by decide) ?_
  refine PW.up (by decide) (c_X4_beginsOne_vk (V) (hV) G _ M I y (i) hp_0 fun x2  hx2 kx2 PM1 => ?_)
  rcases PM1 with ⟨PaM1, PbM1⟩ | ⟨PaM1, PnM1⟩
  · skip
    refine PW.jz_ne q_38_4 rfl (fun h3 => ?_) (fun h3 => False.elim (by omega))
    refine PW.aload_n q_38_13 rfl ?_
    refine PW.gE q_38_14 (Or.inl t_ft_38_27) gF_14_0 kd_267 I.1 (by decide) fw267_0 ?_
    refine PW.cB q_38_17 (by decide) fun c4 hc4 => ?_
    refine PW.jc_ge q_38_19 rfl (fun h5 => ?_) (fun h5 => ?_)
    · skip
      refine PW.aload_n q_38_28 rfl ?_
      refine PW.cI q_38_29 (by decide) fun c6 hc6 => ?_
      refine PW.cV (as := [_]) (rest := []) q_38_30 t_mv_38_76 kd_1 I.1 (by decide) rfl (by decide) rfl rfl (Nat.le_of_ble_eq_true rfl) (Nat.le_of_ble_eq_true rfl) (by decide) (by decide) ?_
      refine PW.up (by decide) (c_X7_fail_vk (V) (hV) G _ M I c6 y (i) hp_0 fun x8 M7 IM7 GM7 hx8 kx8 PM7 => ?_)
      have FM7 := Fr.trans F GM7 (rfl)
      rcases PM7 with ⟨PfM7, PgM7⟩
      refine PW.rZ q_38_33 rfl (by omega) (by omega) (by decide) (by decide) ?_
      have e : s_st y f m (i, false, st, on) = (4, kP y i, (0, false, [], 0)) := by show s_op y f m i st on = _; unfold s_op; rw [if_neg (not_not_intro PbM1), if_pos (by omega)]
      exact hK x8 M7 IM7 FM7 (by omega) (by omega) (Or.inr ⟨by omega, s_bad.of e (by omega) (by omega) (by omega) (by omega)⟩)
    · skip
      refine PW.iload_n q_38_22 rfl ?_
      refine PW.cB q_38_23 (by decide) fun c9 hc9 => ?_
      refine PW.jc_le q_38_25 rfl (fun h10 => ?_) (fun h10 => False.elim (by omega))
      refine PW.aload_n q_38_34 rfl ?_
      refine PW.dup q_38_35 rfl ?_
      refine PW.gE q_38_36 (Or.inl t_ft_38_27) gF_14_0 kd_267 I.1 (by decide) fw267_0 ?_
      refine PW.cI q_38_39 (by decide) fun c11 hc11 => ?_
      refine PW.addN q_38_40 (by omega) (by omega) fun x12 hx12 => ?_
      refine PW.pI q_38_41 (Or.inl t_ft_38_27) gF_14_0 gP_14_0 kd_267 hV I (by decide) rfl (n_lo _) (n_hi _) fun M13 IM13 fM13 UM13 => ?_
      have FM13 := Fr.pu F UM13.1 kd_267 (rfl : List.contains [1, 14, 15, 16, 17] 14 = true)
      have b1 : kK y i = 2 ∨ kK y i = 5 := by rcases PbM1 with q | q; (· exact Or.inr q.1); (· exact Or.inl q.1)
      have on1 : o_i (M13 267) 0 = on + 1 := by have w := o_i_of fM13; omega
      refine PW.aload_n q_38_44 rfl ?_
      refine PW.gets q_38_45 t_st_38_80 ?_
      refine PW.cV (as := [_]) (rest := []) q_38_48 t_mv_38_58 kd_1 IM13.1 (by decide) rfl (by decide) rfl rfl (Nat.le_of_ble_eq_true rfl) (Nat.le_of_ble_eq_true rfl) (by decide) (by decide) ?_
      refine PW.up (by decide) (c_X7_takes_vk (V) (hV) G _ M13 IM13 19 (by decide) y (i) (hp_0.cg (UM13.1 _ (g_ne kd_1 kd_267 (by decide))) (UM13.1 _ (g_ne kd_2 kd_267 (by decide)))) fun x15 M14 IM14 GM14 hx15 kx15 PM14 => ?_)
      have FM14 := Fr.trans FM13 GM14 (rfl)
      rcases PM14 with ⟨PaM14, PbM14, PcM14, PtM14⟩ | ⟨PaM14, PnM14, PtM14⟩
      · skip
        have swM14 := (s_wn_iff (x := y) (i := i) (show 19 < 28 by decide)).mp PcM14
        refine PW.jz_eq q_38_51 rfl (fun h16 => False.elim (by omega)) (fun h16 => ?_)
        refine PW.aload_n q_38_54 rfl ?_
        refine PW.aload_n q_38_55 rfl ?_
        refine PW.aload_n q_38_56 rfl ?_
        refine PW.iload_n q_38_57 rfl ?_
        refine PW.cI q_38_58 (by decide) fun c17 hc17 => ?_
        refine PW.addN q_38_59 (by omega) (by omega) fun x18 hx18 => ?_
        refine PW.cV (as := [_, _, _]) (rest := []) q_38_60 t_mv_38_66 kd_267 IM14.1 (by decide) rfl (by decide) rfl rfl (Nat.le_of_ble_eq_true rfl) (Nat.le_of_ble_eq_true rfl) (by decide) (by decide) ?_
        refine PW.up (by decide) (c_X4_readOne_vk3 (V) (hV) G _ M14 IM14 x18 (by omega) (by omega) y (i + 1) f m (false :: st) (on + 1) PtM14 (hp_1.cg ((Fr.at GM14 kd_4 (by decide)).trans (UM13.1 _ (g_ne kd_4 kd_267 (by decide)))) ((Fr.at GM14 kd_5 (by decide)).trans (UM13.1 _ (g_ne kd_5 kd_267 (by decide))))) ((congrArg (fun e => o_i e 0) (Fr.at GM14 kd_267 (by decide))).trans on1) (by rw [List.length_cons]; omega) (by omega) fun x20 M19 IM19 GM19 hx20 kx20 PM19 => ?_)
        have FM19 := Fr.trans FM14 GM19 (rfl)
        rcases PM19 with ⟨PaM19, jM19, oM19, PkM19⟩ | ⟨PaM19, PkM19⟩
        · skip
          have koM19 := PkM19.2
          refine PW.jz_eq q_38_63 rfl (fun h21 => False.elim (by omega)) (fun h21 => ?_)
          refine PW.aload_n q_38_66 rfl ?_
          refine PW.gets q_38_67 t_st_38_80 ?_
          refine PW.cI q_38_70 (by decide) fun c22 hc22 => ?_
          refine PW.cI q_38_71 (by decide) fun c23 hc23 => ?_
          refine PW.cV (as := [_, _, _]) (rest := []) q_38_72 t_mv_38_62 kd_267 IM19.1 (by decide) rfl (by decide) rfl rfl (Nat.le_of_ble_eq_true rfl) (Nat.le_of_ble_eq_true rfl) (by decide) (by decide) ?_
          refine PW.up (by decide) (c_X4_add_vk (V) (hV) G _ M19 IM19 19 (by decide) c22 c23 (by omega) (by omega) fun x25 M24 IM24 GM24 hx25 kx25 PM24 => ?_)
          have FM24 := Fr.trans FM19 GM24 (rfl)
          have PoM24 := PM24
          refine PW.jz_eq q_38_75 rfl (fun h26 => False.elim (by omega)) (fun h26 => ?_)
          refine PW.cI q_38_78 (by decide) fun c27 hc27 => ?_
          refine PW.goto q_38_79 rfl ?_
          refine PW.rZ q_38_83 rfl (by omega) (by omega) (by decide) (by decide) ?_
          have e : s_st y f m (i, false, st, on) = (0, 0, (i + 1, false, false :: st, on + 1)) := by show s_op y f m i st on = _; unfold s_op; rw [if_neg (not_not_intro PbM1), if_neg (by omega), if_pos ⟨PbM14, by omega⟩]
          exact hK c27 M24 IM24 FM24 (by omega) (by omega) (Or.inl ⟨by omega, jM19, oM19, ((s_ok.next (on := on) (c := 1) PkM19 (s_to.of e) (by omega)).mono (on1 := on) (by omega)).cg (Fr.at GM24 kd_1 (by decide)) (Fr.at GM24 kd_2 (by decide)) PoM24⟩)
        · skip
          refine PW.jz_eq q_38_63 rfl (fun h28 => ?_) (fun h28 => False.elim (by omega))
          refine PW.cI q_38_82 (by decide) fun c29 hc29 => ?_
          refine PW.rZ q_38_83 rfl (by omega) (by omega) (by decide) (by decide) ?_
          have e : s_st y f m (i, false, st, on) = (0, 0, (i + 1, false, false :: st, on + 1)) := by show s_op y f m i st on = _; unfold s_op; rw [if_neg (not_not_intro PbM1), if_neg (by omega), if_pos ⟨PbM14, by omega⟩]
          exact hK c29 M19 IM19 FM19 (by omega) (by omega) (Or.inr ⟨by omega, (s_bad.to PkM19 (s_to.of e)).cg rfl⟩)
      · skip
        have snM14 : kK y (i) = 2 → s_wn y (i) ≠ 19 := fun h q => PnM14 ⟨h, (s_wn_iff (show 19 < 28 by decide)).mpr q⟩
        refine PW.jz_eq q_38_51 rfl (fun h30 => ?_) (fun h30 => False.elim (by omega))
        refine PW.aload_n q_38_84 rfl ?_
        refine PW.cB q_38_85 (by decide) fun c31 hc31 => ?_
        refine PW.cV (as := [_]) (rest := []) q_38_87 t_mv_38_83 kd_1 IM14.1 (by decide) rfl (by decide) rfl rfl (Nat.le_of_ble_eq_true rfl) (Nat.le_of_ble_eq_true rfl) (by decide) (by decide) ?_
        refine PW.up (by decide) (c_X7_seesSign_vk (V) (hV) G _ M14 IM14 c31 y (i) PtM14 fun x33  hx33 kx33 PM32 => ?_)
        rcases PM32 with ⟨PaM32, PbM32, PcM32⟩ | ⟨PaM32, PnM32⟩
        · skip
          refine PW.jz_eq q_38_90 rfl (fun h34 => False.elim (by omega)) (fun h34 => ?_)
          refine PW.aload_n q_38_93 rfl ?_
          refine PW.cV (as := []) (rest := []) q_38_94 t_mv_38_86 kd_1 IM14.1 (by decide) rfl (by decide) rfl rfl (Nat.le_of_ble_eq_true rfl) (Nat.le_of_ble_eq_true rfl) (by decide) (by decide) ?_
          refine PW.up (by decide) (c_X7_advance_vk (V) (hV) G _ M14 IM14 y (i + 1) (k_at.nx PtM14 (by omega)) fun M35 IM35 GM35 PM35 => ?_)
          have FM35 := Fr.trans FM14 GM35 (rfl)
          have PtM35 := PM35
          refine PW.aload_n q_38_97 rfl ?_
          refine PW.aload_n q_38_98 rfl ?_
          refine PW.aload_n q_38_99 rfl ?_
          refine PW.iload_n q_38_100 rfl ?_
          refine PW.cI q_38_101 (by decide) fun c36 hc36 => ?_
          refine PW.addN q_38_102 (by omega) (by omega) fun x37 hx37 => ?_
          refine PW.cV (as := [_, _, _]) (rest := []) q_38_103 t_mv_38_43 kd_267 IM35.1 (by decide) rfl (by decide) rfl rfl (Nat.le_of_ble_eq_true rfl) (Nat.le_of_ble_eq_true rfl) (by decide) (by decide) ?_
          refine PW.up (by decide) (c_X4_readAny_vk3 (V) (hV) G _ M35 IM35 x37 (by omega) (by omega) y (i + 1) f m (true :: st) (on + 1) PtM35 (hp_1.cg ((Fr.at GM35 kd_4 (by decide)).trans ((Fr.at GM14 kd_4 (by decide)).trans (UM13.1 _ (g_ne kd_4 kd_267 (by decide))))) ((Fr.at GM35 kd_5 (by decide)).trans ((Fr.at GM14 kd_5 (by decide)).trans (UM13.1 _ (g_ne kd_5 kd_267 (by decide)))))) (((congrArg (fun e => o_i e 0) (Fr.at GM35 kd_267 (by decide))).trans (congrArg (fun e => o_i e 0) (Fr.at GM14 kd_267 (by decide)))).trans on1) (by rw [List.length_cons]; omega) (by omega) rfl fun x39 M38 IM38 GM38 hx39 kx39 PM38 => ?_)
          have FM38 := Fr.trans FM35 GM38 (rfl)
          rcases PM38 with ⟨PaM38, jM38, oM38, PkM38, Pn2M38⟩ | ⟨PaM38, PkM38⟩
          · skip
            have koM38 := PkM38.2
            refine PW.jz_eq q_38_106 rfl (fun h40 => False.elim (by omega)) (fun h40 => ?_)
            refine PW.aload_n q_38_109 rfl ?_
            refine PW.cB q_38_110 (by decide) fun c41 hc41 => ?_
            refine PW.cV (as := [_]) (rest := []) q_38_112 t_mv_38_89 kd_1 IM38.1 (by decide) rfl (by decide) rfl rfl (Nat.le_of_ble_eq_true rfl) (Nat.le_of_ble_eq_true rfl) (by decide) (by decide) ?_
            refine PW.up (by decide) (c_X7_needsSign_vk (V) (hV) G _ M38 IM38 c41 y (jM38) PkM38.2.2.2.1 fun x43 M42 IM42 GM42 hx43 kx43 PM42 => ?_)
            have FM42 := Fr.trans FM38 GM42 (rfl)
            rcases PM42 with ⟨PaM42, PbM42, PcM42, PtM42⟩ | ⟨PaM42, PnM42, PfM42, PgM42⟩
            · skip
              refine PW.jz_eq q_38_115 rfl (fun h44 => False.elim (by omega)) (fun h44 => ?_)
              refine PW.cI q_38_118 (by decide) fun c45 hc45 => ?_
              refine PW.goto q_38_119 rfl ?_
              refine PW.rZ q_38_123 rfl (by omega) (by omega) (by decide) (by decide) ?_
              have e : s_st y f m (i, false, st, on) = (0, 0, (i + 1, false, true :: st, on + 1)) := by show s_op y f m i st on = _; unfold s_op; rw [if_neg (not_not_intro PbM1), if_neg (by omega), if_neg (by omega), if_pos (by omega)]
              have e2 : s_st y f m (jM38, true, true :: st, oM38) = (0, 0, (jM38 + 1, true, s_dn st, oM38)) := by show s_bh y jM38 (true :: st) oM38 = _; unfold s_bh; rw [if_neg Pn2M38, if_pos ⟨⟨PbM42, PcM42.trans (by omega)⟩, List.cons_ne_nil _ _⟩]; rfl
              exact hK c45 M42 IM42 FM42 (by omega) (by omega) (Or.inl ⟨by omega, jM38 + 1, oM38, ((s_to.of e).trans PkM38.1).trans (s_to.of e2), by have := PkM38.2.1; omega, PkM38.2.2.1, PtM42, ((congrArg (fun e => o_i e 0) (Fr.at GM42 kd_267 (by decide))).trans PkM38.2.2.2.2)⟩)
            · skip
              refine PW.jz_eq q_38_115 rfl (fun h46 => ?_) (fun h46 => False.elim (by omega))
              refine PW.cI q_38_122 (by decide) fun c47 hc47 => ?_
              refine PW.rZ q_38_123 rfl (by omega) (by omega) (by decide) (by decide) ?_
              have e : s_st y f m (i, false, st, on) = (0, 0, (i + 1, false, true :: st, on + 1)) := by show s_op y f m i st on = _; unfold s_op; rw [if_neg (not_not_intro PbM1), if_neg (by omega), if_neg (by omega), if_pos (by omega)]
              have e2 : s_st y f m (jM38, true, true :: st, oM38) = (1, kP y jM38, (0, false, [], 0)) := by show s_bh y jM38 (true :: st) oM38 = _; unfold s_bh; rw [if_neg Pn2M38, if_neg (fun h => PnM42 ⟨h.1.1, h.1.2.trans (by omega)⟩), if_neg (fun h => List.cons_ne_nil _ _ h.2)]
              exact hK c47 M42 IM42 FM42 (by omega) (by omega) (Or.inr ⟨by omega, ((s_bad.of e2 (by omega) (by omega) (by omega) (by omega)).to PkM38.1).to (s_to.of e)⟩)
          · skip
            refine PW.jz_eq q_38_106 rfl (fun h48 => ?_) (fun h48 => False.elim (by omega))
            refine PW.cI q_38_122 (by decide) fun c49 hc49 => ?_
            refine PW.rZ q_38_123 rfl (by omega) (by omega) (by decide) (by decide) ?_
            have e : s_st y f m (i, false, st, on) = (0, 0, (i + 1, false, true :: st, on + 1)) := by show s_op y f m i st on = _; unfold s_op; rw [if_neg (not_not_intro PbM1), if_neg (by omega), if_neg (by omega), if_pos (by omega)]
            exact hK c49 M38 IM38 FM38 (by omega) (by omega) (Or.inr ⟨by omega, (s_bad.to PkM38 (s_to.of e)).cg rfl⟩)
        · skip
          refine PW.jz_eq q_38_90 rfl (fun h50 => ?_) (fun h50 => False.elim (by omega))
          have k2 : kK y i = 2 := by rcases PbM1 with q | q; (· exact absurd ⟨q.1, q.2.trans (by omega)⟩ PnM32); (· exact q.1)
          have k3 : 20 ≤ s_wn y i ∧ s_wn y i ≤ 27 := by rcases PbM1 with q | q; (· omega); (· have u := snM14 q.1; omega)
          refine PW.aload_n q_38_124 rfl ?_
          refine PW.aload_n q_38_125 rfl ?_
          refine PW.aload_n q_38_126 rfl ?_
          refine PW.cV (as := [_, _]) (rest := []) q_38_127 t_mv_38_92 kd_267 IM14.1 (by decide) rfl (by decide) rfl rfl (Nat.le_of_ble_eq_true rfl) (Nat.le_of_ble_eq_true rfl) (by decide) (by decide) ?_
          refine PW.up (by decide) (c_X4_readPlain_vk (V) (hV) G _ M14 IM14 y (i) f m PtM14 (hp_1.cg ((Fr.at GM14 kd_4 (by decide)).trans (UM13.1 _ (g_ne kd_4 kd_267 (by decide)))) ((Fr.at GM14 kd_5 (by decide)).trans (UM13.1 _ (g_ne kd_5 kd_267 (by decide))))) (by omega) (by omega) (by omega) fun x52 M51 IM51 GM51 hx52 kx52 PM51 => ?_)
          have FM51 := Fr.trans FM14 GM51 (rfl)
          rcases PM51 with ⟨PaM51, PbM51, PtM51, PoM51⟩ | ⟨PaM51, PbM51, PfM51, PgM51⟩
          · skip
            refine PW.rZ q_38_130 rfl (by omega) (by omega) (by decide) (by decide) ?_
            have e : s_st y f m (i, false, st, on) = (0, 0, ((s_pn y f m i).2.2, true, s_dn st, on + 1)) := by show s_op y f m i st on = _; unfold s_op; rw [if_neg (not_not_intro PbM1), if_neg (by omega), if_neg (by omega), if_neg (by omega), if_neg (not_not_intro PbM51)]
            exact hK x52 M51 IM51 FM51 (by omega) (by omega) (Or.inl ⟨by omega, (s_pn y f m i).2.2, on + 1, s_to.of e, by omega, by omega, PtM51, (PoM51.trans ((congrArg (fun e => o_i e 0) (Fr.at GM14 kd_267 (by decide))).trans on1))⟩)
          · skip
            refine PW.rZ q_38_130 rfl (by omega) (by omega) (by decide) (by decide) ?_
            have pb := s_pn_b y f m i
            have e : s_st y f m (i, false, st, on) = ((s_pn y f m i).1, (s_pn y f m i).2.1, (0, false, [], 0)) := by show s_op y f m i st on = _; unfold s_op; rw [if_neg (not_not_intro PbM1), if_neg (by omega), if_neg (by omega), if_neg (by omega), if_pos PbM51]
            exact hK x52 M51 IM51 FM51 (by omega) (by omega) (Or.inr ⟨by omega, s_bad.of e (by omega) (by omega) (by omega) (by omega)⟩)
  · skip
    refine PW.jz_ne q_38_4 rfl (fun h53 => False.elim (by omega)) (fun h53 => ?_)
    refine PW.aload_n q_38_7 rfl ?_
    refine PW.cI q_38_8 (by decide) fun c54 hc54 => ?_
    refine PW.cV (as := [_]) (rest := []) q_38_9 t_mv_38_76 kd_1 I.1 (by decide) rfl (by decide) rfl rfl (Nat.le_of_ble_eq_true rfl) (Nat.le_of_ble_eq_true rfl) (by decide) (by decide) ?_
    refine PW.up (by decide) (c_X7_fail_vk (V) (hV) G _ M I c54 y (i) hp_0 fun x56 M55 IM55 GM55 hx56 kx56 PM55 => ?_)
    have FM55 := Fr.trans F GM55 (rfl)
    rcases PM55 with ⟨PfM55, PgM55⟩
    refine PW.rZ q_38_12 rfl (by omega) (by omega) (by decide) (by decide) ?_
    have e : s_st y f m (i, false, st, on) = (1, kP y i, (0, false, [], 0)) := by show s_op y f m i st on = _; unfold s_op; rw [if_pos PnM1]
    exact hK x56 M55 IM55 FM55 (by omega) (by omega) (Or.inr ⟨by omega, s_bad.of e (by omega) (by omega) (by omega) (by omega)⟩)
theorem c_X4_readAll_vk2 (V : pM → Prop) (hV : Stab V) (G : pG) (Kr : pK) (M : pM) (I : Iv V M) (a3 : Int32) (hl_a3 : 2 ≤ a3.toInt) (hh_a3 : a3.toInt ≤ 2) (y : k_X) (i : Nat) (f : Nat → Int) (m : Int) (st : List Bool) (on : Int) (hp_0 : k_at y M i) (hp_1 : s_nm M f m) (hp_2 : o_i (M 267) 0 = on) (hp_3 : st.length + 1 = 2) (hp_4 : 0 ≤ on) (hp_5 : s_dn st = st) (hK : ∀ (x : Int32) (M1 : pM), Iv V M1 → Fr [1, 14, 15, 16, 17] M M1 → 0 ≤ x.toInt → x.toInt ≤ 1 → (s_lq y f m i st on x M1) → Kr.1 (some (.int x)) 311 M1) : PW G false 25 37 (p_mc 37) (p_msl 37) Kr 0 (lv_args 0 [.ref 267, .ref 1, .ref 4, .int a3]) [] 311 M 0 0 := by
  have F : Fr [1, 14, 15, 16, 17] M M := Fr.refl
  obtain ⟨w267_0, fw267_0, hw267_0, kw267_0⟩ := gF_14_0.int kd_267 I.1 (by decide)
  have iw267_0 := o_i_of fw267_0
  have jw267_0 : w267_0.toInt = on := by have w := hp_2; omega
  refine PW.aload_n q_37_0 rfl ?_
  refine PW.aload_n q_37_1 rfl ?_
  refine PW.aload_n q_37_2 rfl ?_
  refine PW.iload_n q_37_3 rfl ?_
  refine PW.cV (as := [_, _, _]) (rest := []) q_37_4 t_mv_37_66 kd_267 I.1 (by decide) rfl (by decide) rfl rfl (Nat.le_of_ble_eq_true rfl) (Nat.le_of_ble_eq_true rfl) (by decide) (by decide) ?_
  refine PW.up (by decide) (c_X4_readOne_vk2 (V) (hV) G _ M I a3 (by omega) (by omega) y (i) f m st on hp_0 hp_1 hp_2 hp_3 (by omega) fun x2 M1 IM1 GM1 hx2 kx2 PM1 => ?_)
  have FM1 := Fr.trans F GM1 (rfl)
  rcases PM1 with ⟨PaM1, jM1, oM1, PkM1⟩ | ⟨PaM1, PkM1⟩
  · skip
    have koM1 := PkM1.2
    refine PW.istore q_37_7 (by decide) ?_
    refine PW.cI q_37_9 (by decide) fun c3 hc3 => ?_
    refine PW.istore q_37_10 (by decide) ?_
    have L37_12_4 : ∀ (n : Nat) (ML37_12_4 : pM) (v5 v6 : Int32), Iv (V) ML37_12_4 → Fr [1, 14, 15, 16, 17] M ML37_12_4 → 0 ≤ v5.toInt → v5.toInt ≤ 1 → 0 ≤ v6.toInt → v6.toInt ≤ 20 → s_li y f m i st on 18 ML37_12_4 v5.toInt v6.toInt → ML37_12_4 4 = M 4 → ML37_12_4 5 = M 5 → (20 - v6.toInt).toNat = n → PW G false 25 37 (p_mc 37) (p_msl 37) Kr 12 [(0, .ref 267), (1, .ref 1), (2, .ref 4), (3, .int a3), (4, .int v5), (5, .int v6)] [] 311 ML37_12_4 0 0 := by
      intro n
      induction n using Nat.strongRecOn with
      | ind n ih_L37_12_4 =>
      intro ML37_12_4 v5 v6 IML37_12_4 FML37_12_4 hbL37_12_40 hbL37_12_41 hbL37_12_42 hbL37_12_43 hbL37_12_44 hbL37_12_45 hbL37_12_46 hmL37_12_4
      refine PW.iload q_37_12 rfl ?_
      refine PW.cB q_37_14 (by decide) fun c7 hc7 => ?_
      refine PW.jc_ge q_37_16 rfl (fun h8 => ?_) (fun h8 => ?_)
      · skip
        refine PW.iload q_37_69 rfl ?_
        refine PW.rZ q_37_71 rfl (by omega) (by omega) (by decide) (by decide) ?_
        exact hK v5 ML37_12_4 IML37_12_4 FML37_12_4 (by omega) (by omega) (Or.inr ⟨(s_li.full hbL37_12_44 (by omega) hp_4).1, (s_li.full hbL37_12_44 (by omega) hp_4).2⟩)
      · skip
        refine PW.iload q_37_19 rfl ?_
        refine PW.jz_eq q_37_21 rfl (fun h9 => ?_) (fun h9 => ?_)
        · skip
          refine PW.iload q_37_69 rfl ?_
          refine PW.rZ q_37_71 rfl (by omega) (by omega) (by decide) (by decide) ?_
          exact hK v5 ML37_12_4 IML37_12_4 FML37_12_4 (by omega) (by omega) (Or.inr ⟨by omega, (s_li.no hbL37_12_44 (by omega))⟩)
        · skip
          obtain ⟨j0, o0, K0, N0⟩ : ∃ (j0 : Nat) (o0 : Int), s_ok y f m (i, false, st, on) st (on + v6.toInt) ML37_12_4 j0 o0 ∧ (18 = 17 → ¬ (kK y j0 = 2 ∧ s_wn y j0 = 18)) := by rcases hbL37_12_44 with q | q; (· exact q.2); (· omega)
          have T0 := K0.1
          have B0 := K0.2.1
          have B1 := K0.2.2.1
          refine PW.aload_n q_37_24 rfl ?_
          refine PW.gets q_37_25 t_st_37_69 ?_
          refine PW.cV (as := [_]) (rest := []) q_37_28 t_mv_37_58 kd_1 IML37_12_4.1 (by decide) rfl (by decide) rfl rfl (Nat.le_of_ble_eq_true rfl) (Nat.le_of_ble_eq_true rfl) (by decide) (by decide) ?_
          refine PW.up (by decide) (c_X7_takes_vk (V) (hV) G _ ML37_12_4 IML37_12_4 18 (by decide) y (j0) K0.2.2.2.1 fun x11 M10 IM10 GM10 hx11 kx11 PM10 => ?_)
          have FM10 := Fr.trans FML37_12_4 GM10 (rfl)
          rcases PM10 with ⟨PaM10, PbM10, PcM10, PtM10⟩ | ⟨PaM10, PnM10, PtM10⟩
          · skip
            have swM10 := (s_wn_iff (x := y) (i := j0) (show 18 < 28 by decide)).mp PcM10
            refine PW.jz_eq q_37_31 rfl (fun h12 => False.elim (by omega)) (fun h12 => ?_)
            have e0 : s_st y f m (j0, true, st, o0) = (0, 0, (j0 + 1, false, st, o0)) := by show s_bh y j0 st o0 = _; unfold s_bh; rw [if_pos ⟨PbM10, by omega⟩]
            refine PW.aload_n q_37_34 rfl ?_
            refine PW.aload_n q_37_35 rfl ?_
            refine PW.aload_n q_37_36 rfl ?_
            refine PW.iload_n q_37_37 rfl ?_
            refine PW.cV (as := [_, _, _]) (rest := []) q_37_38 t_mv_37_66 kd_267 IM10.1 (by decide) rfl (by decide) rfl rfl (Nat.le_of_ble_eq_true rfl) (Nat.le_of_ble_eq_true rfl) (by decide) (by decide) ?_
            refine PW.up (by decide) (c_X4_readOne_vk2 (V) (hV) G _ M10 IM10 a3 (by omega) (by omega) y (j0 + 1) f m st o0 PtM10 ((hp_1.cg hbL37_12_45 hbL37_12_46).cg (Fr.at GM10 kd_4 (by decide)) (Fr.at GM10 kd_5 (by decide))) ((congrArg (fun e => o_i e 0) (Fr.at GM10 kd_267 (by decide))).trans K0.2.2.2.2) hp_3 (by omega) fun x14 M13 IM13 GM13 hx14 kx14 PM13 => ?_)
            have FM13 := Fr.trans FM10 GM13 (rfl)
            rcases PM13 with ⟨PaM13, jM13, oM13, PkM13⟩ | ⟨PaM13, PkM13⟩
            · skip
              have koM13 := PkM13.2
              refine PW.jz_eq q_37_41 rfl (fun h15 => False.elim (by omega)) (fun h15 => ?_)
              refine PW.aload_n q_37_44 rfl ?_
              refine PW.gets q_37_45 t_st_37_69 ?_
              refine PW.cI q_37_48 (by decide) fun c16 hc16 => ?_
              refine PW.cI q_37_49 (by decide) fun c17 hc17 => ?_
              refine PW.cV (as := [_, _, _]) (rest := []) q_37_50 t_mv_37_62 kd_267 IM13.1 (by decide) rfl (by decide) rfl rfl (Nat.le_of_ble_eq_true rfl) (Nat.le_of_ble_eq_true rfl) (by decide) (by decide) ?_
              refine PW.up (by decide) (c_X4_add_vk (V) (hV) G _ M13 IM13 18 (by decide) c16 c17 (by omega) (by omega) fun x19 M18 IM18 GM18 hx19 kx19 PM18 => ?_)
              have FM18 := Fr.trans FM13 GM18 (rfl)
              have PoM18 := PM18
              refine PW.jz_eq q_37_53 rfl (fun h20 => False.elim (by omega)) (fun h20 => ?_)
              refine PW.cI q_37_56 (by decide) fun c21 hc21 => ?_
              refine PW.goto q_37_57 rfl ?_
              refine PW.istore q_37_61 (by decide) ?_
              refine PW.incN q_37_63 rfl (by decide) (by decide) (by omega) (by omega) fun x22 hx22 => ?_
              refine PW.goto q_37_66 rfl ?_
              refine PW.lvS (lk1 rfl (lk1 rfl (lk1 rfl (lk1 rfl (lk1 rfl (lk1 rfl lk0)))))) (ih_L37_12_4 _ ?_ M18 c21 x22 IM18 FM18 (by omega) (by omega) (by omega) (by omega) (Or.inl ⟨by omega, jM13, oM13, ((s_ok.next (c := x22.toInt) (by rw [hp_5] at PkM13; exact PkM13) (T0.trans (s_to.of e0)) (by have := K0.2.1; omega)).cg (Fr.at GM18 kd_1 (by decide)) (Fr.at GM18 kd_2 (by decide)) PoM18), (fun h => absurd h (by decide))⟩) (((Fr.at GM18 kd_4 (by decide)).trans ((Fr.at GM13 kd_4 (by decide)).trans (Fr.at GM10 kd_4 (by decide)))).trans hbL37_12_45) (((Fr.at GM18 kd_5 (by decide)).trans ((Fr.at GM13 kd_5 (by decide)).trans (Fr.at GM10 kd_5 (by decide)))).trans hbL37_12_46) rfl)
              omega
            · skip
              refine PW.jz_eq q_37_41 rfl (fun h23 => ?_) (fun h23 => False.elim (by omega))
              refine PW.cI q_37_60 (by decide) fun c24 hc24 => ?_
              refine PW.istore q_37_61 (by decide) ?_
              refine PW.incN q_37_63 rfl (by decide) (by decide) (by omega) (by omega) fun x25 hx25 => ?_
              refine PW.goto q_37_66 rfl ?_
              refine PW.lvS (lk1 rfl (lk1 rfl (lk1 rfl (lk1 rfl (lk1 rfl (lk1 rfl lk0)))))) (ih_L37_12_4 _ ?_ M13 c24 x25 IM13 FM13 (by omega) (by omega) (by omega) (by omega) (Or.inr ⟨by omega, ((s_bad.to PkM13 (T0.trans (s_to.of e0))).cg rfl)⟩) (((Fr.at GM13 kd_4 (by decide)).trans (Fr.at GM10 kd_4 (by decide))).trans hbL37_12_45) (((Fr.at GM13 kd_5 (by decide)).trans (Fr.at GM10 kd_5 (by decide))).trans hbL37_12_46) rfl)
              omega
          · skip
            have snM10 : kK y (j0) = 2 → s_wn y (j0) ≠ 18 := fun h q => PnM10 ⟨h, (s_wn_iff (show 18 < 28 by decide)).mpr q⟩
            refine PW.jz_eq q_37_31 rfl (fun h26 => ?_) (fun h26 => False.elim (by omega))
            refine PW.iload q_37_69 rfl ?_
            refine PW.rZ q_37_71 rfl (by omega) (by omega) (by decide) (by decide) ?_
            exact hK v5 M10 IM10 FM10 (by omega) (by omega) (Or.inl ⟨by omega, j0, o0, ⟨T0, by omega, B1, PtM10, ((congrArg (fun e => o_i e 0) (Fr.at GM10 kd_267 (by decide))).trans K0.2.2.2.2)⟩, (fun h => snM10 h.1 h.2)⟩)
    exact PW.lvS (lk1 rfl (lk1 rfl (lk1 rfl (lk1 rfl (lk1 rfl (lk1 rfl lk0)))))) (L37_12_4 _ M1 x2 c3 IM1 FM1 (by omega) (by omega) (by omega) (by omega) (Or.inl ⟨by omega, jM1, oM1, (s_ok.mono (by rw [hp_5] at PkM1; exact PkM1) (by omega)), (fun h => absurd h (by decide))⟩) (Fr.at GM1 kd_4 (by decide)) (Fr.at GM1 kd_5 (by decide)) rfl)
  · skip
    refine PW.istore q_37_7 (by decide) ?_
    refine PW.cI q_37_9 (by decide) fun c27 hc27 => ?_
    refine PW.istore q_37_10 (by decide) ?_
    have L37_12_28 : ∀ (n : Nat) (ML37_12_28 : pM) (v29 v30 : Int32), Iv (V) ML37_12_28 → Fr [1, 14, 15, 16, 17] M ML37_12_28 → 0 ≤ v29.toInt → v29.toInt ≤ 1 → 0 ≤ v30.toInt → v30.toInt ≤ 20 → s_li y f m i st on 18 ML37_12_28 v29.toInt v30.toInt → ML37_12_28 4 = M 4 → ML37_12_28 5 = M 5 → (20 - v30.toInt).toNat = n → PW G false 25 37 (p_mc 37) (p_msl 37) Kr 12 [(0, .ref 267), (1, .ref 1), (2, .ref 4), (3, .int a3), (4, .int v29), (5, .int v30)] [] 311 ML37_12_28 0 0 := by
      intro n
      induction n using Nat.strongRecOn with
      | ind n ih_L37_12_28 =>
      intro ML37_12_28 v29 v30 IML37_12_28 FML37_12_28 hbL37_12_280 hbL37_12_281 hbL37_12_282 hbL37_12_283 hbL37_12_284 hbL37_12_285 hbL37_12_286 hmL37_12_28
      refine PW.iload q_37_12 rfl ?_
      refine PW.cB q_37_14 (by decide) fun c31 hc31 => ?_
      refine PW.jc_ge q_37_16 rfl (fun h32 => ?_) (fun h32 => ?_)
      · skip
        refine PW.iload q_37_69 rfl ?_
        refine PW.rZ q_37_71 rfl (by omega) (by omega) (by decide) (by decide) ?_
        exact hK v29 ML37_12_28 IML37_12_28 FML37_12_28 (by omega) (by omega) (Or.inr ⟨(s_li.full hbL37_12_284 (by omega) hp_4).1, (s_li.full hbL37_12_284 (by omega) hp_4).2⟩)
      · skip
        refine PW.iload q_37_19 rfl ?_
        refine PW.jz_eq q_37_21 rfl (fun h33 => ?_) (fun h33 => ?_)
        · skip
          refine PW.iload q_37_69 rfl ?_
          refine PW.rZ q_37_71 rfl (by omega) (by omega) (by decide) (by decide) ?_
          exact hK v29 ML37_12_28 IML37_12_28 FML37_12_28 (by omega) (by omega) (Or.inr ⟨by omega, (s_li.no hbL37_12_284 (by omega))⟩)
        · skip
          obtain ⟨j0, o0, K0, N0⟩ : ∃ (j0 : Nat) (o0 : Int), s_ok y f m (i, false, st, on) st (on + v30.toInt) ML37_12_28 j0 o0 ∧ (18 = 17 → ¬ (kK y j0 = 2 ∧ s_wn y j0 = 18)) := by rcases hbL37_12_284 with q | q; (· exact q.2); (· omega)
          have T0 := K0.1
          have B0 := K0.2.1
          have B1 := K0.2.2.1
          refine PW.aload_n q_37_24 rfl ?_
          refine PW.gets q_37_25 t_st_37_69 ?_
          refine PW.cV (as := [_]) (rest := []) q_37_28 t_mv_37_58 kd_1 IML37_12_28.1 (by decide) rfl (by decide) rfl rfl (Nat.le_of_ble_eq_true rfl) (Nat.le_of_ble_eq_true rfl) (by decide) (by decide) ?_
          refine PW.up (by decide) (c_X7_takes_vk (V) (hV) G _ ML37_12_28 IML37_12_28 18 (by decide) y (j0) K0.2.2.2.1 fun x35 M34 IM34 GM34 hx35 kx35 PM34 => ?_)
          have FM34 := Fr.trans FML37_12_28 GM34 (rfl)
          rcases PM34 with ⟨PaM34, PbM34, PcM34, PtM34⟩ | ⟨PaM34, PnM34, PtM34⟩
          · skip
            have swM34 := (s_wn_iff (x := y) (i := j0) (show 18 < 28 by decide)).mp PcM34
            refine PW.jz_eq q_37_31 rfl (fun h36 => False.elim (by omega)) (fun h36 => ?_)
            have e0 : s_st y f m (j0, true, st, o0) = (0, 0, (j0 + 1, false, st, o0)) := by show s_bh y j0 st o0 = _; unfold s_bh; rw [if_pos ⟨PbM34, by omega⟩]
            refine PW.aload_n q_37_34 rfl ?_
            refine PW.aload_n q_37_35 rfl ?_
            refine PW.aload_n q_37_36 rfl ?_
            refine PW.iload_n q_37_37 rfl ?_
            refine PW.cV (as := [_, _, _]) (rest := []) q_37_38 t_mv_37_66 kd_267 IM34.1 (by decide) rfl (by decide) rfl rfl (Nat.le_of_ble_eq_true rfl) (Nat.le_of_ble_eq_true rfl) (by decide) (by decide) ?_
            refine PW.up (by decide) (c_X4_readOne_vk2 (V) (hV) G _ M34 IM34 a3 (by omega) (by omega) y (j0 + 1) f m st o0 PtM34 ((hp_1.cg hbL37_12_285 hbL37_12_286).cg (Fr.at GM34 kd_4 (by decide)) (Fr.at GM34 kd_5 (by decide))) ((congrArg (fun e => o_i e 0) (Fr.at GM34 kd_267 (by decide))).trans K0.2.2.2.2) hp_3 (by omega) fun x38 M37 IM37 GM37 hx38 kx38 PM37 => ?_)
            have FM37 := Fr.trans FM34 GM37 (rfl)
            rcases PM37 with ⟨PaM37, jM37, oM37, PkM37⟩ | ⟨PaM37, PkM37⟩
            · skip
              have koM37 := PkM37.2
              refine PW.jz_eq q_37_41 rfl (fun h39 => False.elim (by omega)) (fun h39 => ?_)
              refine PW.aload_n q_37_44 rfl ?_
              refine PW.gets q_37_45 t_st_37_69 ?_
              refine PW.cI q_37_48 (by decide) fun c40 hc40 => ?_
              refine PW.cI q_37_49 (by decide) fun c41 hc41 => ?_
              refine PW.cV (as := [_, _, _]) (rest := []) q_37_50 t_mv_37_62 kd_267 IM37.1 (by decide) rfl (by decide) rfl rfl (Nat.le_of_ble_eq_true rfl) (Nat.le_of_ble_eq_true rfl) (by decide) (by decide) ?_
              refine PW.up (by decide) (c_X4_add_vk (V) (hV) G _ M37 IM37 18 (by decide) c40 c41 (by omega) (by omega) fun x43 M42 IM42 GM42 hx43 kx43 PM42 => ?_)
              have FM42 := Fr.trans FM37 GM42 (rfl)
              have PoM42 := PM42
              refine PW.jz_eq q_37_53 rfl (fun h44 => False.elim (by omega)) (fun h44 => ?_)
              refine PW.cI q_37_56 (by decide) fun c45 hc45 => ?_
              refine PW.goto q_37_57 rfl ?_
              refine PW.istore q_37_61 (by decide) ?_
              refine PW.incN q_37_63 rfl (by decide) (by decide) (by omega) (by omega) fun x46 hx46 => ?_
              refine PW.goto q_37_66 rfl ?_
              refine PW.lvS (lk1 rfl (lk1 rfl (lk1 rfl (lk1 rfl (lk1 rfl (lk1 rfl lk0)))))) (ih_L37_12_28 _ ?_ M42 c45 x46 IM42 FM42 (by omega) (by omega) (by omega) (by omega) (Or.inl ⟨by omega, jM37, oM37, ((s_ok.next (c := x46.toInt) (by rw [hp_5] at PkM37; exact PkM37) (T0.trans (s_to.of e0)) (by have := K0.2.1; omega)).cg (Fr.at GM42 kd_1 (by decide)) (Fr.at GM42 kd_2 (by decide)) PoM42), (fun h => absurd h (by decide))⟩) (((Fr.at GM42 kd_4 (by decide)).trans ((Fr.at GM37 kd_4 (by decide)).trans (Fr.at GM34 kd_4 (by decide)))).trans hbL37_12_285) (((Fr.at GM42 kd_5 (by decide)).trans ((Fr.at GM37 kd_5 (by decide)).trans (Fr.at GM34 kd_5 (by decide)))).trans hbL37_12_286) rfl)
              omega
            · skip
              refine PW.jz_eq q_37_41 rfl (fun h47 => ?_) (fun h47 => False.elim (by omega))
              refine PW.cI q_37_60 (by decide) fun c48 hc48 => ?_
              refine PW.istore q_37_61 (by decide) ?_
              refine PW.incN q_37_63 rfl (by decide) (by decide) (by omega) (by omega) fun x49 hx49 => ?_
              refine PW.goto q_37_66 rfl ?_
              refine PW.lvS (lk1 rfl (lk1 rfl (lk1 rfl (lk1 rfl (lk1 rfl (lk1 rfl lk0)))))) (ih_L37_12_28 _ ?_ M37 c48 x49 IM37 FM37 (by omega) (by omega) (by omega) (by omega) (Or.inr ⟨by omega, ((s_bad.to PkM37 (T0.trans (s_to.of e0))).cg rfl)⟩) (((Fr.at GM37 kd_4 (by decide)).trans (Fr.at GM34 kd_4 (by decide))).trans hbL37_12_285) (((Fr.at GM37 kd_5 (by decide)).trans (Fr.at GM34 kd_5 (by decide))).trans hbL37_12_286) rfl)
              omega
          · skip
            have snM34 : kK y (j0) = 2 → s_wn y (j0) ≠ 18 := fun h q => PnM34 ⟨h, (s_wn_iff (show 18 < 28 by decide)).mpr q⟩
            refine PW.jz_eq q_37_31 rfl (fun h50 => ?_) (fun h50 => False.elim (by omega))
            refine PW.iload q_37_69 rfl ?_
            refine PW.rZ q_37_71 rfl (by omega) (by omega) (by decide) (by decide) ?_
            exact hK v29 M34 IM34 FM34 (by omega) (by omega) (Or.inl ⟨by omega, j0, o0, ⟨T0, by omega, B1, PtM34, ((congrArg (fun e => o_i e 0) (Fr.at GM34 kd_267 (by decide))).trans K0.2.2.2.2)⟩, (fun h => snM34 h.1 h.2)⟩)
    exact PW.lvS (lk1 rfl (lk1 rfl (lk1 rfl (lk1 rfl (lk1 rfl (lk1 rfl lk0)))))) (L37_12_28 _ M1 x2 c27 IM1 FM1 (by omega) (by omega) (by omega) (by omega) (Or.inr ⟨by omega, PkM1⟩) (Fr.at GM1 kd_4 (by decide)) (Fr.at GM1 kd_5 (by decide)) rfl)
theorem c_X4_readAny_vk2 (V : pM → Prop) (hV : Stab V) (G : pG) (Kr : pK) (M : pM) (I : Iv V M) (a3 : Int32) (hl_a3 : 2 ≤ a3.toInt) (hh_a3 : a3.toInt ≤ 2) (y : k_X) (i : Nat) (f : Nat → Int) (m : Int) (st : List Bool) (on : Int) (hp_0 : k_at y M i) (hp_1 : s_nm M f m) (hp_2 : o_i (M 267) 0 = on) (hp_3 : st.length + 1 = 2) (hp_4 : 0 ≤ on) (hp_5 : s_dn st = st) (hK : ∀ (x : Int32) (M1 : pM), Iv V M1 → Fr [1, 14, 15, 16, 17] M M1 → 0 ≤ x.toInt → x.toInt ≤ 1 → (s_aq y f m i st on x M1) → Kr.1 (some (.int x)) 311 M1) : PW G false 26 36 (p_mc 36) (p_msl 36) Kr 0 (lv_args 0 [.ref 267, .ref 1, .ref 4, .int a3]) [] 311 M 0 0 := by
  have F : Fr [1, 14, 15, 16, 17] M M := Fr.refl
  obtain ⟨w267_0, fw267_0, hw267_0, kw267_0⟩ := gF_14_0.int kd_267 I.1 (by decide)
  have iw267_0 := o_i_of fw267_0
  have jw267_0 : w267_0.toInt = on := by have w := hp_2; omega
  refine PW.aload_n q_36_0 rfl ?_
  refine PW.aload_n q_36_1 rfl ?_
  refine PW.aload_n q_36_2 rfl ?_
  refine PW.iload_n q_36_3 rfl ?_
  refine PW.cV (as := [_, _, _]) (rest := []) q_36_4 t_mv_36_51 kd_267 I.1 (by decide) rfl (by decide) rfl rfl (Nat.le_of_ble_eq_true rfl) (Nat.le_of_ble_eq_true rfl) (by decide) (by decide) ?_
  refine PW.up (by decide) (c_X4_readAll_vk2 (V) (hV) G _ M I a3 (by omega) (by omega) y (i) f m st on hp_0 hp_1 hp_2 hp_3 (by omega) hp_5 fun x2 M1 IM1 GM1 hx2 kx2 PM1 => ?_)
  have FM1 := Fr.trans F GM1 (rfl)
  rcases PM1 with ⟨PaM1, jM1, oM1, PkM1, Pn2M1⟩ | ⟨PaM1, PkM1⟩
  · skip
    have koM1 := PkM1.2
    refine PW.istore q_36_7 (by decide) ?_
    refine PW.cI q_36_9 (by decide) fun c3 hc3 => ?_
    refine PW.istore q_36_10 (by decide) ?_
    have L36_12_4 : ∀ (n : Nat) (ML36_12_4 : pM) (v5 v6 : Int32), Iv (V) ML36_12_4 → Fr [1, 14, 15, 16, 17] M ML36_12_4 → 0 ≤ v5.toInt → v5.toInt ≤ 1 → 0 ≤ v6.toInt → v6.toInt ≤ 20 → s_li y f m i st on 17 ML36_12_4 v5.toInt v6.toInt → ML36_12_4 4 = M 4 → ML36_12_4 5 = M 5 → (20 - v6.toInt).toNat = n → PW G false 26 36 (p_mc 36) (p_msl 36) Kr 12 [(0, .ref 267), (1, .ref 1), (2, .ref 4), (3, .int a3), (4, .int v5), (5, .int v6)] [] 311 ML36_12_4 0 0 := by
      intro n
      induction n using Nat.strongRecOn with
      | ind n ih_L36_12_4 =>
      intro ML36_12_4 v5 v6 IML36_12_4 FML36_12_4 hbL36_12_40 hbL36_12_41 hbL36_12_42 hbL36_12_43 hbL36_12_44 hbL36_12_45 hbL36_12_46 hmL36_12_4
      refine PW.iload q_36_12 rfl ?_
      refine PW.cB q_36_14 (by decide) fun c7 hc7 => ?_
      refine PW.jc_ge q_36_16 rfl (fun h8 => ?_) (fun h8 => ?_)
      · skip
        refine PW.iload q_36_69 rfl ?_
        refine PW.rZ q_36_71 rfl (by omega) (by omega) (by decide) (by decide) ?_
        exact hK v5 ML36_12_4 IML36_12_4 FML36_12_4 (by omega) (by omega) (Or.inr ⟨(s_li.full hbL36_12_44 (by omega) hp_4).1, (s_li.full hbL36_12_44 (by omega) hp_4).2⟩)
      · skip
        refine PW.iload q_36_19 rfl ?_
        refine PW.jz_eq q_36_21 rfl (fun h9 => ?_) (fun h9 => ?_)
        · skip
          refine PW.iload q_36_69 rfl ?_
          refine PW.rZ q_36_71 rfl (by omega) (by omega) (by decide) (by decide) ?_
          exact hK v5 ML36_12_4 IML36_12_4 FML36_12_4 (by omega) (by omega) (Or.inr ⟨by omega, (s_li.no hbL36_12_44 (by omega))⟩)
        · skip
          obtain ⟨j0, o0, K0, N0⟩ : ∃ (j0 : Nat) (o0 : Int), s_ok y f m (i, false, st, on) st (on + v6.toInt) ML36_12_4 j0 o0 ∧ (17 = 17 → ¬ (kK y j0 = 2 ∧ s_wn y j0 = 18)) := by rcases hbL36_12_44 with q | q; (· exact q.2); (· omega)
          have T0 := K0.1
          have B0 := K0.2.1
          have B1 := K0.2.2.1
          refine PW.aload_n q_36_24 rfl ?_
          refine PW.gets q_36_25 t_st_36_54 ?_
          refine PW.cV (as := [_]) (rest := []) q_36_28 t_mv_36_58 kd_1 IML36_12_4.1 (by decide) rfl (by decide) rfl rfl (Nat.le_of_ble_eq_true rfl) (Nat.le_of_ble_eq_true rfl) (by decide) (by decide) ?_
          refine PW.up (by decide) (c_X7_takes_vk (V) (hV) G _ ML36_12_4 IML36_12_4 17 (by decide) y (j0) K0.2.2.2.1 fun x11 M10 IM10 GM10 hx11 kx11 PM10 => ?_)
          have FM10 := Fr.trans FML36_12_4 GM10 (rfl)
          rcases PM10 with ⟨PaM10, PbM10, PcM10, PtM10⟩ | ⟨PaM10, PnM10, PtM10⟩
          · skip
            have swM10 := (s_wn_iff (x := y) (i := j0) (show 17 < 28 by decide)).mp PcM10
            refine PW.jz_eq q_36_31 rfl (fun h12 => False.elim (by omega)) (fun h12 => ?_)
            have e0 : s_st y f m (j0, true, st, o0) = (0, 0, (j0 + 1, false, st, o0)) := by show s_bh y j0 st o0 = _; unfold s_bh; rw [if_pos ⟨PbM10, by omega⟩]
            refine PW.aload_n q_36_34 rfl ?_
            refine PW.aload_n q_36_35 rfl ?_
            refine PW.aload_n q_36_36 rfl ?_
            refine PW.iload_n q_36_37 rfl ?_
            refine PW.cV (as := [_, _, _]) (rest := []) q_36_38 t_mv_36_51 kd_267 IM10.1 (by decide) rfl (by decide) rfl rfl (Nat.le_of_ble_eq_true rfl) (Nat.le_of_ble_eq_true rfl) (by decide) (by decide) ?_
            refine PW.up (by decide) (c_X4_readAll_vk2 (V) (hV) G _ M10 IM10 a3 (by omega) (by omega) y (j0 + 1) f m st o0 PtM10 ((hp_1.cg hbL36_12_45 hbL36_12_46).cg (Fr.at GM10 kd_4 (by decide)) (Fr.at GM10 kd_5 (by decide))) ((congrArg (fun e => o_i e 0) (Fr.at GM10 kd_267 (by decide))).trans K0.2.2.2.2) hp_3 (by omega) hp_5 fun x14 M13 IM13 GM13 hx14 kx14 PM13 => ?_)
            have FM13 := Fr.trans FM10 GM13 (rfl)
            rcases PM13 with ⟨PaM13, jM13, oM13, PkM13, Pn2M13⟩ | ⟨PaM13, PkM13⟩
            · skip
              have koM13 := PkM13.2
              refine PW.jz_eq q_36_41 rfl (fun h15 => False.elim (by omega)) (fun h15 => ?_)
              refine PW.aload_n q_36_44 rfl ?_
              refine PW.gets q_36_45 t_st_36_54 ?_
              refine PW.cI q_36_48 (by decide) fun c16 hc16 => ?_
              refine PW.cI q_36_49 (by decide) fun c17 hc17 => ?_
              refine PW.cV (as := [_, _, _]) (rest := []) q_36_50 t_mv_36_62 kd_267 IM13.1 (by decide) rfl (by decide) rfl rfl (Nat.le_of_ble_eq_true rfl) (Nat.le_of_ble_eq_true rfl) (by decide) (by decide) ?_
              refine PW.up (by decide) (c_X4_add_vk (V) (hV) G _ M13 IM13 17 (by decide) c16 c17 (by omega) (by omega) fun x19 M18 IM18 GM18 hx19 kx19 PM18 => ?_)
              have FM18 := Fr.trans FM13 GM18 (rfl)
              have PoM18 := PM18
              refine PW.jz_eq q_36_53 rfl (fun h20 => False.elim (by omega)) (fun h20 => ?_)
              refine PW.cI q_36_56 (by decide) fun c21 hc21 => ?_
              refine PW.goto q_36_57 rfl ?_
              refine PW.istore q_36_61 (by decide) ?_
              refine PW.incN q_36_63 rfl (by decide) (by decide) (by omega) (by omega) fun x22 hx22 => ?_
              refine PW.goto q_36_66 rfl ?_
              refine PW.lvS (lk1 rfl (lk1 rfl (lk1 rfl (lk1 rfl (lk1 rfl (lk1 rfl lk0)))))) (ih_L36_12_4 _ ?_ M18 c21 x22 IM18 FM18 (by omega) (by omega) (by omega) (by omega) (Or.inl ⟨by omega, jM13, oM13, ((s_ok.next (c := x22.toInt) PkM13 (T0.trans (s_to.of e0)) (by have := K0.2.1; omega)).cg (Fr.at GM18 kd_1 (by decide)) (Fr.at GM18 kd_2 (by decide)) PoM18), (fun _ => Pn2M13)⟩) (((Fr.at GM18 kd_4 (by decide)).trans ((Fr.at GM13 kd_4 (by decide)).trans (Fr.at GM10 kd_4 (by decide)))).trans hbL36_12_45) (((Fr.at GM18 kd_5 (by decide)).trans ((Fr.at GM13 kd_5 (by decide)).trans (Fr.at GM10 kd_5 (by decide)))).trans hbL36_12_46) rfl)
              omega
            · skip
              refine PW.jz_eq q_36_41 rfl (fun h23 => ?_) (fun h23 => False.elim (by omega))
              refine PW.cI q_36_60 (by decide) fun c24 hc24 => ?_
              refine PW.istore q_36_61 (by decide) ?_
              refine PW.incN q_36_63 rfl (by decide) (by decide) (by omega) (by omega) fun x25 hx25 => ?_
              refine PW.goto q_36_66 rfl ?_
              refine PW.lvS (lk1 rfl (lk1 rfl (lk1 rfl (lk1 rfl (lk1 rfl (lk1 rfl lk0)))))) (ih_L36_12_4 _ ?_ M13 c24 x25 IM13 FM13 (by omega) (by omega) (by omega) (by omega) (Or.inr ⟨by omega, ((s_bad.to PkM13 (T0.trans (s_to.of e0))).cg rfl)⟩) (((Fr.at GM13 kd_4 (by decide)).trans (Fr.at GM10 kd_4 (by decide))).trans hbL36_12_45) (((Fr.at GM13 kd_5 (by decide)).trans (Fr.at GM10 kd_5 (by decide))).trans hbL36_12_46) rfl)
              omega
          · skip
            have snM10 : kK y (j0) = 2 → s_wn y (j0) ≠ 17 := fun h q => PnM10 ⟨h, (s_wn_iff (show 17 < 28 by decide)).mpr q⟩
            refine PW.jz_eq q_36_31 rfl (fun h26 => ?_) (fun h26 => False.elim (by omega))
            refine PW.iload q_36_69 rfl ?_
            refine PW.rZ q_36_71 rfl (by omega) (by omega) (by decide) (by decide) ?_
            exact hK v5 M10 IM10 FM10 (by omega) (by omega) (Or.inl ⟨by omega, j0, o0, ⟨T0, by omega, B1, PtM10, ((congrArg (fun e => o_i e 0) (Fr.at GM10 kd_267 (by decide))).trans K0.2.2.2.2)⟩, (fun h => by rcases h.2 with q | q; (· exact N0 rfl ⟨h.1, q⟩); (· exact snM10 h.1 q))⟩)
    exact PW.lvS (lk1 rfl (lk1 rfl (lk1 rfl (lk1 rfl (lk1 rfl (lk1 rfl lk0)))))) (L36_12_4 _ M1 x2 c3 IM1 FM1 (by omega) (by omega) (by omega) (by omega) (Or.inl ⟨by omega, jM1, oM1, (s_ok.mono PkM1 (by omega)), (fun _ => Pn2M1)⟩) (Fr.at GM1 kd_4 (by decide)) (Fr.at GM1 kd_5 (by decide)) rfl)
  · skip
    refine PW.istore q_36_7 (by decide) ?_
    refine PW.cI q_36_9 (by decide) fun c27 hc27 => ?_
    refine PW.istore q_36_10 (by decide) ?_
    have L36_12_28 : ∀ (n : Nat) (ML36_12_28 : pM) (v29 v30 : Int32), Iv (V) ML36_12_28 → Fr [1, 14, 15, 16, 17] M ML36_12_28 → 0 ≤ v29.toInt → v29.toInt ≤ 1 → 0 ≤ v30.toInt → v30.toInt ≤ 20 → s_li y f m i st on 17 ML36_12_28 v29.toInt v30.toInt → ML36_12_28 4 = M 4 → ML36_12_28 5 = M 5 → (20 - v30.toInt).toNat = n → PW G false 26 36 (p_mc 36) (p_msl 36) Kr 12 [(0, .ref 267), (1, .ref 1), (2, .ref 4), (3, .int a3), (4, .int v29), (5, .int v30)] [] 311 ML36_12_28 0 0 := by
      intro n
      induction n using Nat.strongRecOn with
      | ind n ih_L36_12_28 =>
      intro ML36_12_28 v29 v30 IML36_12_28 FML36_12_28 hbL36_12_280 hbL36_12_281 hbL36_12_282 hbL36_12_283 hbL36_12_284 hbL36_12_285 hbL36_12_286 hmL36_12_28
      refine PW.iload q_36_12 rfl ?_
      refine PW.cB q_36_14 (by decide) fun c31 hc31 => ?_
      refine PW.jc_ge q_36_16 rfl (fun h32 => ?_) (fun h32 => ?_)
      · skip
        refine PW.iload q_36_69 rfl ?_
        refine PW.rZ q_36_71 rfl (by omega) (by omega) (by decide) (by decide) ?_
        exact hK v29 ML36_12_28 IML36_12_28 FML36_12_28 (by omega) (by omega) (Or.inr ⟨(s_li.full hbL36_12_284 (by omega) hp_4).1, (s_li.full hbL36_12_284 (by omega) hp_4).2⟩)
      · skip
        refine PW.iload q_36_19 rfl ?_
        refine PW.jz_eq q_36_21 rfl (fun h33 => ?_) (fun h33 => ?_)
        · skip
          refine PW.iload q_36_69 rfl ?_
          refine PW.rZ q_36_71 rfl (by omega) (by omega) (by decide) (by decide) ?_
          exact hK v29 ML36_12_28 IML36_12_28 FML36_12_28 (by omega) (by omega) (Or.inr ⟨by omega, (s_li.no hbL36_12_284 (by omega))⟩)
        · skip
          obtain ⟨j0, o0, K0, N0⟩ : ∃ (j0 : Nat) (o0 : Int), s_ok y f m (i, false, st, on) st (on + v30.toInt) ML36_12_28 j0 o0 ∧ (17 = 17 → ¬ (kK y j0 = 2 ∧ s_wn y j0 = 18)) := by rcases hbL36_12_284 with q | q; (· exact q.2); (· omega)
          have T0 := K0.1
          have B0 := K0.2.1
          have B1 := K0.2.2.1
          refine PW.aload_n q_36_24 rfl ?_
          refine PW.gets q_36_25 t_st_36_54 ?_
          refine PW.cV (as := [_]) (rest := []) q_36_28 t_mv_36_58 kd_1 IML36_12_28.1 (by decide) rfl (by decide) rfl rfl (Nat.le_of_ble_eq_true rfl) (Nat.le_of_ble_eq_true rfl) (by decide) (by decide) ?_
          refine PW.up (by decide) (c_X7_takes_vk (V) (hV) G _ ML36_12_28 IML36_12_28 17 (by decide) y (j0) K0.2.2.2.1 fun x35 M34 IM34 GM34 hx35 kx35 PM34 => ?_)
          have FM34 := Fr.trans FML36_12_28 GM34 (rfl)
          rcases PM34 with ⟨PaM34, PbM34, PcM34, PtM34⟩ | ⟨PaM34, PnM34, PtM34⟩
          · skip
            have swM34 := (s_wn_iff (x := y) (i := j0) (show 17 < 28 by decide)).mp PcM34
            refine PW.jz_eq q_36_31 rfl (fun h36 => False.elim (by omega)) (fun h36 => ?_)
            have e0 : s_st y f m (j0, true, st, o0) = (0, 0, (j0 + 1, false, st, o0)) := by show s_bh y j0 st o0 = _; unfold s_bh; rw [if_pos ⟨PbM34, by omega⟩]
            refine PW.aload_n q_36_34 rfl ?_
            refine PW.aload_n q_36_35 rfl ?_
            refine PW.aload_n q_36_36 rfl ?_
            refine PW.iload_n q_36_37 rfl ?_
            refine PW.cV (as := [_, _, _]) (rest := []) q_36_38 t_mv_36_51 kd_267 IM34.1 (by decide) rfl (by decide) rfl rfl (Nat.le_of_ble_eq_true rfl) (Nat.le_of_ble_eq_true rfl) (by decide) (by decide) ?_
            refine PW.up (by decide) (c_X4_readAll_vk2 (V) (hV) G _ M34 IM34 a3 (by omega) (by omega) y (j0 + 1) f m st o0 PtM34 ((hp_1.cg hbL36_12_285 hbL36_12_286).cg (Fr.at GM34 kd_4 (by decide)) (Fr.at GM34 kd_5 (by decide))) ((congrArg (fun e => o_i e 0) (Fr.at GM34 kd_267 (by decide))).trans K0.2.2.2.2) hp_3 (by omega) hp_5 fun x38 M37 IM37 GM37 hx38 kx38 PM37 => ?_)
            have FM37 := Fr.trans FM34 GM37 (rfl)
            rcases PM37 with ⟨PaM37, jM37, oM37, PkM37, Pn2M37⟩ | ⟨PaM37, PkM37⟩
            · skip
              have koM37 := PkM37.2
              refine PW.jz_eq q_36_41 rfl (fun h39 => False.elim (by omega)) (fun h39 => ?_)
              refine PW.aload_n q_36_44 rfl ?_
              refine PW.gets q_36_45 t_st_36_54 ?_
              refine PW.cI q_36_48 (by decide) fun c40 hc40 => ?_
              refine PW.cI q_36_49 (by decide) fun c41 hc41 => ?_
              refine PW.cV (as := [_, _, _]) (rest := []) q_36_50 t_mv_36_62 kd_267 IM37.1 (by decide) rfl (by decide) rfl rfl (Nat.le_of_ble_eq_true rfl) (Nat.le_of_ble_eq_true rfl) (by decide) (by decide) ?_
              refine PW.up (by decide) (c_X4_add_vk (V) (hV) G _ M37 IM37 17 (by decide) c40 c41 (by omega) (by omega) fun x43 M42 IM42 GM42 hx43 kx43 PM42 => ?_)
              have FM42 := Fr.trans FM37 GM42 (rfl)
              have PoM42 := PM42
              refine PW.jz_eq q_36_53 rfl (fun h44 => False.elim (by omega)) (fun h44 => ?_)
              refine PW.cI q_36_56 (by decide) fun c45 hc45 => ?_
              refine PW.goto q_36_57 rfl ?_
              refine PW.istore q_36_61 (by decide) ?_
              refine PW.incN q_36_63 rfl (by decide) (by decide) (by omega) (by omega) fun x46 hx46 => ?_
              refine PW.goto q_36_66 rfl ?_
              refine PW.lvS (lk1 rfl (lk1 rfl (lk1 rfl (lk1 rfl (lk1 rfl (lk1 rfl lk0)))))) (ih_L36_12_28 _ ?_ M42 c45 x46 IM42 FM42 (by omega) (by omega) (by omega) (by omega) (Or.inl ⟨by omega, jM37, oM37, ((s_ok.next (c := x46.toInt) PkM37 (T0.trans (s_to.of e0)) (by have := K0.2.1; omega)).cg (Fr.at GM42 kd_1 (by decide)) (Fr.at GM42 kd_2 (by decide)) PoM42), (fun _ => Pn2M37)⟩) (((Fr.at GM42 kd_4 (by decide)).trans ((Fr.at GM37 kd_4 (by decide)).trans (Fr.at GM34 kd_4 (by decide)))).trans hbL36_12_285) (((Fr.at GM42 kd_5 (by decide)).trans ((Fr.at GM37 kd_5 (by decide)).trans (Fr.at GM34 kd_5 (by decide)))).trans hbL36_12_286) rfl)
              omega
            · skip
              refine PW.jz_eq q_36_41 rfl (fun h47 => ?_) (fun h47 => False.elim (by omega))
              refine PW.cI q_36_60 (by decide) fun c48 hc48 => ?_
              refine PW.istore q_36_61 (by decide) ?_
              refine PW.incN q_36_63 rfl (by decide) (by decide) (by omega) (by omega) fun x49 hx49 => ?_
              refine PW.goto q_36_66 rfl ?_
              refine PW.lvS (lk1 rfl (lk1 rfl (lk1 rfl (lk1 rfl (lk1 rfl (lk1 rfl lk0)))))) (ih_L36_12_28 _ ?_ M37 c48 x49 IM37 FM37 (by omega) (by omega) (by omega) (by omega) (Or.inr ⟨by omega, ((s_bad.to PkM37 (T0.trans (s_to.of e0))).cg rfl)⟩) (((Fr.at GM37 kd_4 (by decide)).trans (Fr.at GM34 kd_4 (by decide))).trans hbL36_12_285) (((Fr.at GM37 kd_5 (by decide)).trans (Fr.at GM34 kd_5 (by decide))).trans hbL36_12_286) rfl)
              omega
          · skip
            have snM34 : kK y (j0) = 2 → s_wn y (j0) ≠ 17 := fun h q => PnM34 ⟨h, (s_wn_iff (show 17 < 28 by decide)).mpr q⟩
            refine PW.jz_eq q_36_31 rfl (fun h50 => ?_) (fun h50 => False.elim (by omega))
            refine PW.iload q_36_69 rfl ?_
            refine PW.rZ q_36_71 rfl (by omega) (by omega) (by decide) (by decide) ?_
            exact hK v29 M34 IM34 FM34 (by omega) (by omega) (Or.inl ⟨by omega, j0, o0, ⟨T0, by omega, B1, PtM34, ((congrArg (fun e => o_i e 0) (Fr.at GM34 kd_267 (by decide))).trans K0.2.2.2.2)⟩, (fun h => by rcases h.2 with q | q; (· exact N0 rfl ⟨h.1, q⟩); (· exact snM34 h.1 q))⟩)
    exact PW.lvS (lk1 rfl (lk1 rfl (lk1 rfl (lk1 rfl (lk1 rfl (lk1 rfl lk0)))))) (L36_12_28 _ M1 x2 c27 IM1 FM1 (by omega) (by omega) (by omega) (by omega) (Or.inr ⟨by omega, PkM1⟩) (Fr.at GM1 kd_4 (by decide)) (Fr.at GM1 kd_5 (by decide)) rfl)
theorem c_X4_readOne_vk1 (V : pM → Prop) (hV : Stab V) (G : pG) (Kr : pK) (M : pM) (I : Iv V M) (a3 : Int32) (hl_a3 : 1 ≤ a3.toInt) (hh_a3 : a3.toInt ≤ 1) (y : k_X) (i : Nat) (f : Nat → Int) (m : Int) (st : List Bool) (on : Int) (hp_0 : k_at y M i) (hp_1 : s_nm M f m) (hp_2 : o_i (M 267) 0 = on) (hp_3 : st.length + 1 = 1) (hp_4 : 0 ≤ on) (hK : ∀ (x : Int32) (M1 : pM), Iv V M1 → Fr [1, 14, 15, 16, 17] M M1 → 0 ≤ x.toInt → x.toInt ≤ 1 → (s_oq y f m i st on x M1) → Kr.1 (some (.int x)) 311 M1) : PW G false 27 38 (p_mc 38) (p_msl 38) Kr 0 (lv_args 0 [.ref 267, .ref 1, .ref 4, .int a3]) [] 311 M 0 0 := by
  have F : Fr [1, 14, 15, 16, 17] M M := Fr.refl
  obtain ⟨w267_0, fw267_0, hw267_0, kw267_0⟩ := gF_14_0.int kd_267 I.1 (by decide)
  have iw267_0 := o_i_of fw267_0
  have jw267_0 : w267_0.toInt = on := by have w := hp_2; omega
  refine PW.aload_n q_38_0 rfl ?_
  refine PW.callS (as := [_]) (rest := []) q_38_1 t_ms_38_72 (by decide) rfl (Nat.le_of_ble_eq_true rfl) (Nat.le_of_ble_eq_true rfl) (by decide) (by decide) ?_
  refine PW.up (by decide) (c_X4_beginsOne_vk (V) (hV) G _ M I y (i) hp_0 fun x2  hx2 kx2 PM1 => ?_)
  rcases PM1 with ⟨PaM1, PbM1⟩ | ⟨PaM1, PnM1⟩
  · skip
    refine PW.jz_ne q_38_4 rfl (fun h3 => ?_) (fun h3 => False.elim (by omega))
    refine PW.aload_n q_38_13 rfl ?_
    refine PW.gE q_38_14 (Or.inl t_ft_38_27) gF_14_0 kd_267 I.1 (by decide) fw267_0 ?_
    refine PW.cB q_38_17 (by decide) fun c4 hc4 => ?_
    refine PW.jc_ge q_38_19 rfl (fun h5 => ?_) (fun h5 => ?_)
    · skip
      refine PW.aload_n q_38_28 rfl ?_
      refine PW.cI q_38_29 (by decide) fun c6 hc6 => ?_
      refine PW.cV (as := [_]) (rest := []) q_38_30 t_mv_38_76 kd_1 I.1 (by decide) rfl (by decide) rfl rfl (Nat.le_of_ble_eq_true rfl) (Nat.le_of_ble_eq_true rfl) (by decide) (by decide) ?_
      refine PW.up (by decide) (c_X7_fail_vk (V) (hV) G _ M I c6 y (i) hp_0 fun x8 M7 IM7 GM7 hx8 kx8 PM7 => ?_)
      have FM7 := Fr.trans F GM7 (rfl)
      rcases PM7 with ⟨PfM7, PgM7⟩
      refine PW.rZ q_38_33 rfl (by omega) (by omega) (by decide) (by decide) ?_
      have e : s_st y f m (i, false, st, on) = (4, kP y i, (0, false, [], 0)) := by show s_op y f m i st on = _; unfold s_op; rw [if_neg (not_not_intro PbM1), if_pos (by omega)]
      exact hK x8 M7 IM7 FM7 (by omega) (by omega) (Or.inr ⟨by omega, s_bad.of e (by omega) (by omega) (by omega) (by omega)⟩)
    · skip
      refine PW.iload_n q_38_22 rfl ?_
      refine PW.cB q_38_23 (by decide) fun c9 hc9 => ?_
      refine PW.jc_le q_38_25 rfl (fun h10 => ?_) (fun h10 => False.elim (by omega))
      refine PW.aload_n q_38_34 rfl ?_
      refine PW.dup q_38_35 rfl ?_
      refine PW.gE q_38_36 (Or.inl t_ft_38_27) gF_14_0 kd_267 I.1 (by decide) fw267_0 ?_
      refine PW.cI q_38_39 (by decide) fun c11 hc11 => ?_
      refine PW.addN q_38_40 (by omega) (by omega) fun x12 hx12 => ?_
      refine PW.pI q_38_41 (Or.inl t_ft_38_27) gF_14_0 gP_14_0 kd_267 hV I (by decide) rfl (n_lo _) (n_hi _) fun M13 IM13 fM13 UM13 => ?_
      have FM13 := Fr.pu F UM13.1 kd_267 (rfl : List.contains [1, 14, 15, 16, 17] 14 = true)
      have b1 : kK y i = 2 ∨ kK y i = 5 := by rcases PbM1 with q | q; (· exact Or.inr q.1); (· exact Or.inl q.1)
      have on1 : o_i (M13 267) 0 = on + 1 := by have w := o_i_of fM13; omega
      refine PW.aload_n q_38_44 rfl ?_
      refine PW.gets q_38_45 t_st_38_80 ?_
      refine PW.cV (as := [_]) (rest := []) q_38_48 t_mv_38_58 kd_1 IM13.1 (by decide) rfl (by decide) rfl rfl (Nat.le_of_ble_eq_true rfl) (Nat.le_of_ble_eq_true rfl) (by decide) (by decide) ?_
      refine PW.up (by decide) (c_X7_takes_vk (V) (hV) G _ M13 IM13 19 (by decide) y (i) (hp_0.cg (UM13.1 _ (g_ne kd_1 kd_267 (by decide))) (UM13.1 _ (g_ne kd_2 kd_267 (by decide)))) fun x15 M14 IM14 GM14 hx15 kx15 PM14 => ?_)
      have FM14 := Fr.trans FM13 GM14 (rfl)
      rcases PM14 with ⟨PaM14, PbM14, PcM14, PtM14⟩ | ⟨PaM14, PnM14, PtM14⟩
      · skip
        have swM14 := (s_wn_iff (x := y) (i := i) (show 19 < 28 by decide)).mp PcM14
        refine PW.jz_eq q_38_51 rfl (fun h16 => False.elim (by omega)) (fun h16 => ?_)
        refine PW.aload_n q_38_54 rfl ?_
        refine PW.aload_n q_38_55 rfl ?_
        refine PW.aload_n q_38_56 rfl ?_
        refine PW.iload_n q_38_57 rfl ?_
        refine PW.cI q_38_58 (by decide) fun c17 hc17 => ?_
        refine PW.addN q_38_59 (by omega) (by omega) fun x18 hx18 => ?_
        refine PW.cV (as := [_, _, _]) (rest := []) q_38_60 t_mv_38_66 kd_267 IM14.1 (by decide) rfl (by decide) rfl rfl (Nat.le_of_ble_eq_true rfl) (Nat.le_of_ble_eq_true rfl) (by decide) (by decide) ?_
        refine PW.up (by decide) (c_X4_readOne_vk2 (V) (hV) G _ M14 IM14 x18 (by omega) (by omega) y (i + 1) f m (false :: st) (on + 1) PtM14 (hp_1.cg ((Fr.at GM14 kd_4 (by decide)).trans (UM13.1 _ (g_ne kd_4 kd_267 (by decide)))) ((Fr.at GM14 kd_5 (by decide)).trans (UM13.1 _ (g_ne kd_5 kd_267 (by decide))))) ((congrArg (fun e => o_i e 0) (Fr.at GM14 kd_267 (by decide))).trans on1) (by rw [List.length_cons]; omega) (by omega) fun x20 M19 IM19 GM19 hx20 kx20 PM19 => ?_)
        have FM19 := Fr.trans FM14 GM19 (rfl)
        rcases PM19 with ⟨PaM19, jM19, oM19, PkM19⟩ | ⟨PaM19, PkM19⟩
        · skip
          have koM19 := PkM19.2
          refine PW.jz_eq q_38_63 rfl (fun h21 => False.elim (by omega)) (fun h21 => ?_)
          refine PW.aload_n q_38_66 rfl ?_
          refine PW.gets q_38_67 t_st_38_80 ?_
          refine PW.cI q_38_70 (by decide) fun c22 hc22 => ?_
          refine PW.cI q_38_71 (by decide) fun c23 hc23 => ?_
          refine PW.cV (as := [_, _, _]) (rest := []) q_38_72 t_mv_38_62 kd_267 IM19.1 (by decide) rfl (by decide) rfl rfl (Nat.le_of_ble_eq_true rfl) (Nat.le_of_ble_eq_true rfl) (by decide) (by decide) ?_
          refine PW.up (by decide) (c_X4_add_vk (V) (hV) G _ M19 IM19 19 (by decide) c22 c23 (by omega) (by omega) fun x25 M24 IM24 GM24 hx25 kx25 PM24 => ?_)
          have FM24 := Fr.trans FM19 GM24 (rfl)
          have PoM24 := PM24
          refine PW.jz_eq q_38_75 rfl (fun h26 => False.elim (by omega)) (fun h26 => ?_)
          refine PW.cI q_38_78 (by decide) fun c27 hc27 => ?_
          refine PW.goto q_38_79 rfl ?_
          refine PW.rZ q_38_83 rfl (by omega) (by omega) (by decide) (by decide) ?_
          have e : s_st y f m (i, false, st, on) = (0, 0, (i + 1, false, false :: st, on + 1)) := by show s_op y f m i st on = _; unfold s_op; rw [if_neg (not_not_intro PbM1), if_neg (by omega), if_pos ⟨PbM14, by omega⟩]
          exact hK c27 M24 IM24 FM24 (by omega) (by omega) (Or.inl ⟨by omega, jM19, oM19, ((s_ok.next (on := on) (c := 1) PkM19 (s_to.of e) (by omega)).mono (on1 := on) (by omega)).cg (Fr.at GM24 kd_1 (by decide)) (Fr.at GM24 kd_2 (by decide)) PoM24⟩)
        · skip
          refine PW.jz_eq q_38_63 rfl (fun h28 => ?_) (fun h28 => False.elim (by omega))
          refine PW.cI q_38_82 (by decide) fun c29 hc29 => ?_
          refine PW.rZ q_38_83 rfl (by omega) (by omega) (by decide) (by decide) ?_
          have e : s_st y f m (i, false, st, on) = (0, 0, (i + 1, false, false :: st, on + 1)) := by show s_op y f m i st on = _; unfold s_op; rw [if_neg (not_not_intro PbM1), if_neg (by omega), if_pos ⟨PbM14, by omega⟩]
          exact hK c29 M19 IM19 FM19 (by omega) (by omega) (Or.inr ⟨by omega, (s_bad.to PkM19 (s_to.of e)).cg rfl⟩)
      · skip
        have snM14 : kK y (i) = 2 → s_wn y (i) ≠ 19 := fun h q => PnM14 ⟨h, (s_wn_iff (show 19 < 28 by decide)).mpr q⟩
        refine PW.jz_eq q_38_51 rfl (fun h30 => ?_) (fun h30 => False.elim (by omega))
        refine PW.aload_n q_38_84 rfl ?_
        refine PW.cB q_38_85 (by decide) fun c31 hc31 => ?_
        refine PW.cV (as := [_]) (rest := []) q_38_87 t_mv_38_83 kd_1 IM14.1 (by decide) rfl (by decide) rfl rfl (Nat.le_of_ble_eq_true rfl) (Nat.le_of_ble_eq_true rfl) (by decide) (by decide) ?_
        refine PW.up (by decide) (c_X7_seesSign_vk (V) (hV) G _ M14 IM14 c31 y (i) PtM14 fun x33  hx33 kx33 PM32 => ?_)
        rcases PM32 with ⟨PaM32, PbM32, PcM32⟩ | ⟨PaM32, PnM32⟩
        · skip
          refine PW.jz_eq q_38_90 rfl (fun h34 => False.elim (by omega)) (fun h34 => ?_)
          refine PW.aload_n q_38_93 rfl ?_
          refine PW.cV (as := []) (rest := []) q_38_94 t_mv_38_86 kd_1 IM14.1 (by decide) rfl (by decide) rfl rfl (Nat.le_of_ble_eq_true rfl) (Nat.le_of_ble_eq_true rfl) (by decide) (by decide) ?_
          refine PW.up (by decide) (c_X7_advance_vk (V) (hV) G _ M14 IM14 y (i + 1) (k_at.nx PtM14 (by omega)) fun M35 IM35 GM35 PM35 => ?_)
          have FM35 := Fr.trans FM14 GM35 (rfl)
          have PtM35 := PM35
          refine PW.aload_n q_38_97 rfl ?_
          refine PW.aload_n q_38_98 rfl ?_
          refine PW.aload_n q_38_99 rfl ?_
          refine PW.iload_n q_38_100 rfl ?_
          refine PW.cI q_38_101 (by decide) fun c36 hc36 => ?_
          refine PW.addN q_38_102 (by omega) (by omega) fun x37 hx37 => ?_
          refine PW.cV (as := [_, _, _]) (rest := []) q_38_103 t_mv_38_43 kd_267 IM35.1 (by decide) rfl (by decide) rfl rfl (Nat.le_of_ble_eq_true rfl) (Nat.le_of_ble_eq_true rfl) (by decide) (by decide) ?_
          refine PW.up (by decide) (c_X4_readAny_vk2 (V) (hV) G _ M35 IM35 x37 (by omega) (by omega) y (i + 1) f m (true :: st) (on + 1) PtM35 (hp_1.cg ((Fr.at GM35 kd_4 (by decide)).trans ((Fr.at GM14 kd_4 (by decide)).trans (UM13.1 _ (g_ne kd_4 kd_267 (by decide))))) ((Fr.at GM35 kd_5 (by decide)).trans ((Fr.at GM14 kd_5 (by decide)).trans (UM13.1 _ (g_ne kd_5 kd_267 (by decide)))))) (((congrArg (fun e => o_i e 0) (Fr.at GM35 kd_267 (by decide))).trans (congrArg (fun e => o_i e 0) (Fr.at GM14 kd_267 (by decide)))).trans on1) (by rw [List.length_cons]; omega) (by omega) rfl fun x39 M38 IM38 GM38 hx39 kx39 PM38 => ?_)
          have FM38 := Fr.trans FM35 GM38 (rfl)
          rcases PM38 with ⟨PaM38, jM38, oM38, PkM38, Pn2M38⟩ | ⟨PaM38, PkM38⟩
          · skip
            have koM38 := PkM38.2
            refine PW.jz_eq q_38_106 rfl (fun h40 => False.elim (by omega)) (fun h40 => ?_)
            refine PW.aload_n q_38_109 rfl ?_
            refine PW.cB q_38_110 (by decide) fun c41 hc41 => ?_
            refine PW.cV (as := [_]) (rest := []) q_38_112 t_mv_38_89 kd_1 IM38.1 (by decide) rfl (by decide) rfl rfl (Nat.le_of_ble_eq_true rfl) (Nat.le_of_ble_eq_true rfl) (by decide) (by decide) ?_
            refine PW.up (by decide) (c_X7_needsSign_vk (V) (hV) G _ M38 IM38 c41 y (jM38) PkM38.2.2.2.1 fun x43 M42 IM42 GM42 hx43 kx43 PM42 => ?_)
            have FM42 := Fr.trans FM38 GM42 (rfl)
            rcases PM42 with ⟨PaM42, PbM42, PcM42, PtM42⟩ | ⟨PaM42, PnM42, PfM42, PgM42⟩
            · skip
              refine PW.jz_eq q_38_115 rfl (fun h44 => False.elim (by omega)) (fun h44 => ?_)
              refine PW.cI q_38_118 (by decide) fun c45 hc45 => ?_
              refine PW.goto q_38_119 rfl ?_
              refine PW.rZ q_38_123 rfl (by omega) (by omega) (by decide) (by decide) ?_
              have e : s_st y f m (i, false, st, on) = (0, 0, (i + 1, false, true :: st, on + 1)) := by show s_op y f m i st on = _; unfold s_op; rw [if_neg (not_not_intro PbM1), if_neg (by omega), if_neg (by omega), if_pos (by omega)]
              have e2 : s_st y f m (jM38, true, true :: st, oM38) = (0, 0, (jM38 + 1, true, s_dn st, oM38)) := by show s_bh y jM38 (true :: st) oM38 = _; unfold s_bh; rw [if_neg Pn2M38, if_pos ⟨⟨PbM42, PcM42.trans (by omega)⟩, List.cons_ne_nil _ _⟩]; rfl
              exact hK c45 M42 IM42 FM42 (by omega) (by omega) (Or.inl ⟨by omega, jM38 + 1, oM38, ((s_to.of e).trans PkM38.1).trans (s_to.of e2), by have := PkM38.2.1; omega, PkM38.2.2.1, PtM42, ((congrArg (fun e => o_i e 0) (Fr.at GM42 kd_267 (by decide))).trans PkM38.2.2.2.2)⟩)
            · skip
              refine PW.jz_eq q_38_115 rfl (fun h46 => ?_) (fun h46 => False.elim (by omega))
              refine PW.cI q_38_122 (by decide) fun c47 hc47 => ?_
              refine PW.rZ q_38_123 rfl (by omega) (by omega) (by decide) (by decide) ?_
              have e : s_st y f m (i, false, st, on) = (0, 0, (i + 1, false, true :: st, on + 1)) := by show s_op y f m i st on = _; unfold s_op; rw [if_neg (not_not_intro PbM1), if_neg (by omega), if_neg (by omega), if_pos (by omega)]
              have e2 : s_st y f m (jM38, true, true :: st, oM38) = (1, kP y jM38, (0, false, [], 0)) := by show s_bh y jM38 (true :: st) oM38 = _; unfold s_bh; rw [if_neg Pn2M38, if_neg (fun h => PnM42 ⟨h.1.1, h.1.2.trans (by omega)⟩), if_neg (fun h => List.cons_ne_nil _ _ h.2)]
              exact hK c47 M42 IM42 FM42 (by omega) (by omega) (Or.inr ⟨by omega, ((s_bad.of e2 (by omega) (by omega) (by omega) (by omega)).to PkM38.1).to (s_to.of e)⟩)
          · skip
            refine PW.jz_eq q_38_106 rfl (fun h48 => ?_) (fun h48 => False.elim (by omega))
            refine PW.cI q_38_122 (by decide) fun c49 hc49 => ?_
            refine PW.rZ q_38_123 rfl (by omega) (by omega) (by decide) (by decide) ?_
            have e : s_st y f m (i, false, st, on) = (0, 0, (i + 1, false, true :: st, on + 1)) := by show s_op y f m i st on = _; unfold s_op; rw [if_neg (not_not_intro PbM1), if_neg (by omega), if_neg (by omega), if_pos (by omega)]
            exact hK c49 M38 IM38 FM38 (by omega) (by omega) (Or.inr ⟨by omega, (s_bad.to PkM38 (s_to.of e)).cg rfl⟩)
        · skip
          refine PW.jz_eq q_38_90 rfl (fun h50 => ?_) (fun h50 => False.elim (by omega))
          have k2 : kK y i = 2 := by rcases PbM1 with q | q; (· exact absurd ⟨q.1, q.2.trans (by omega)⟩ PnM32); (· exact q.1)
          have k3 : 20 ≤ s_wn y i ∧ s_wn y i ≤ 27 := by rcases PbM1 with q | q; (· omega); (· have u := snM14 q.1; omega)
          refine PW.aload_n q_38_124 rfl ?_
          refine PW.aload_n q_38_125 rfl ?_
          refine PW.aload_n q_38_126 rfl ?_
          refine PW.cV (as := [_, _]) (rest := []) q_38_127 t_mv_38_92 kd_267 IM14.1 (by decide) rfl (by decide) rfl rfl (Nat.le_of_ble_eq_true rfl) (Nat.le_of_ble_eq_true rfl) (by decide) (by decide) ?_
          refine PW.up (by decide) (c_X4_readPlain_vk (V) (hV) G _ M14 IM14 y (i) f m PtM14 (hp_1.cg ((Fr.at GM14 kd_4 (by decide)).trans (UM13.1 _ (g_ne kd_4 kd_267 (by decide)))) ((Fr.at GM14 kd_5 (by decide)).trans (UM13.1 _ (g_ne kd_5 kd_267 (by decide))))) (by omega) (by omega) (by omega) fun x52 M51 IM51 GM51 hx52 kx52 PM51 => ?_)
          have FM51 := Fr.trans FM14 GM51 (rfl)
          rcases PM51 with ⟨PaM51, PbM51, PtM51, PoM51⟩ | ⟨PaM51, PbM51, PfM51, PgM51⟩
          · skip
            refine PW.rZ q_38_130 rfl (by omega) (by omega) (by decide) (by decide) ?_
            have e : s_st y f m (i, false, st, on) = (0, 0, ((s_pn y f m i).2.2, true, s_dn st, on + 1)) := by show s_op y f m i st on = _; unfold s_op; rw [if_neg (not_not_intro PbM1), if_neg (by omega), if_neg (by omega), if_neg (by omega), if_neg (not_not_intro PbM51)]
            exact hK x52 M51 IM51 FM51 (by omega) (by omega) (Or.inl ⟨by omega, (s_pn y f m i).2.2, on + 1, s_to.of e, by omega, by omega, PtM51, (PoM51.trans ((congrArg (fun e => o_i e 0) (Fr.at GM14 kd_267 (by decide))).trans on1))⟩)
          · skip
            refine PW.rZ q_38_130 rfl (by omega) (by omega) (by decide) (by decide) ?_
            have pb := s_pn_b y f m i
            have e : s_st y f m (i, false, st, on) = ((s_pn y f m i).1, (s_pn y f m i).2.1, (0, false, [], 0)) := by show s_op y f m i st on = _; unfold s_op; rw [if_neg (not_not_intro PbM1), if_neg (by omega), if_neg (by omega), if_neg (by omega), if_pos PbM51]
            exact hK x52 M51 IM51 FM51 (by omega) (by omega) (Or.inr ⟨by omega, s_bad.of e (by omega) (by omega) (by omega) (by omega)⟩)
  · skip
    refine PW.jz_ne q_38_4 rfl (fun h53 => False.elim (by omega)) (fun h53 => ?_)
    refine PW.aload_n q_38_7 rfl ?_
    refine PW.cI q_38_8 (by decide) fun c54 hc54 => ?_
    refine PW.cV (as := [_]) (rest := []) q_38_9 t_mv_38_76 kd_1 I.1 (by decide) rfl (by decide) rfl rfl (Nat.le_of_ble_eq_true rfl) (Nat.le_of_ble_eq_true rfl) (by decide) (by decide) ?_
    refine PW.up (by decide) (c_X7_fail_vk (V) (hV) G _ M I c54 y (i) hp_0 fun x56 M55 IM55 GM55 hx56 kx56 PM55 => ?_)
    have FM55 := Fr.trans F GM55 (rfl)
    rcases PM55 with ⟨PfM55, PgM55⟩
    refine PW.rZ q_38_12 rfl (by omega) (by omega) (by decide) (by decide) ?_
    have e : s_st y f m (i, false, st, on) = (1, kP y i, (0, false, [], 0)) := by show s_op y f m i st on = _; unfold s_op; rw [if_pos PnM1]
    exact hK x56 M55 IM55 FM55 (by omega) (by omega) (Or.inr ⟨by omega, s_bad.of e (by omega) (by omega) (by omega) (by omega)⟩)
theorem c_X4_readAll_vk1 (V : pM → Prop) (hV : Stab V) (G : pG) (Kr : pK) (M : pM) (I : Iv V M) (a3 : Int32) (hl_a3 : 1 ≤ a3.toInt) (hh_a3 : a3.toInt ≤ 1) (y : k_X) (i : Nat) (f : Nat → Int) (m : Int) (st : List Bool) (on : Int) (hp_0 : k_at y M i) (hp_1 : s_nm M f m) (hp_2 : o_i (M 267) 0 = on) (hp_3 : st.length + 1 = 1) (hp_4 : 0 ≤ on) (hp_5 : s_dn st = st) (hK : ∀ (x : Int32) (M1 : pM), Iv V M1 → Fr [1, 14, 15, 16, 17] M M1 → 0 ≤ x.toInt → x.toInt ≤ 1 → (s_lq y f m i st on x M1) → Kr.1 (some (.int x)) 311 M1) : PW G false 28 37 (p_mc 37) (p_msl 37) Kr 0 (lv_args 0 [.ref 267, .ref 1, .ref 4, .int a3]) [] 311 M 0 0 := by
  have F : Fr [1, 14, 15, 16, 17] M M := Fr.refl
  obtain ⟨w267_0, fw267_0, hw267_0, kw267_0⟩ := gF_14_0.int kd_267 I.1 (by decide)
  have iw267_0 := o_i_of fw267_0
  have jw267_0 : w267_0.toInt = on := by have w := hp_2; omega
  refine PW.aload_n q_37_0 rfl ?_
  refine PW.aload_n q_37_1 rfl ?_
  refine PW.aload_n q_37_2 rfl ?_
  refine PW.iload_n q_37_3 rfl ?_
  refine PW.cV (as := [_, _, _]) (rest := []) q_37_4 t_mv_37_66 kd_267 I.1 (by decide) rfl (by decide) rfl rfl (Nat.le_of_ble_eq_true rfl) (Nat.le_of_ble_eq_true rfl) (by decide) (by decide) ?_
  refine PW.up (by decide) (c_X4_readOne_vk1 (V) (hV) G _ M I a3 (by omega) (by omega) y (i) f m st on hp_0 hp_1 hp_2 hp_3 (by omega) fun x2 M1 IM1 GM1 hx2 kx2 PM1 => ?_)
  have FM1 := Fr.trans F GM1 (rfl)
  rcases PM1 with ⟨PaM1, jM1, oM1, PkM1⟩ | ⟨PaM1, PkM1⟩
  · skip
    have koM1 := PkM1.2
    refine PW.istore q_37_7 (by decide) ?_
    refine PW.cI q_37_9 (by decide) fun c3 hc3 => ?_
    refine PW.istore q_37_10 (by decide) ?_
    have L37_12_4 : ∀ (n : Nat) (ML37_12_4 : pM) (v5 v6 : Int32), Iv (V) ML37_12_4 → Fr [1, 14, 15, 16, 17] M ML37_12_4 → 0 ≤ v5.toInt → v5.toInt ≤ 1 → 0 ≤ v6.toInt → v6.toInt ≤ 20 → s_li y f m i st on 18 ML37_12_4 v5.toInt v6.toInt → ML37_12_4 4 = M 4 → ML37_12_4 5 = M 5 → (20 - v6.toInt).toNat = n → PW G false 28 37 (p_mc 37) (p_msl 37) Kr 12 [(0, .ref 267), (1, .ref 1), (2, .ref 4), (3, .int a3), (4, .int v5), (5, .int v6)] [] 311 ML37_12_4 0 0 := by
      intro n
      induction n using Nat.strongRecOn with
      | ind n ih_L37_12_4 =>
      intro ML37_12_4 v5 v6 IML37_12_4 FML37_12_4 hbL37_12_40 hbL37_12_41 hbL37_12_42 hbL37_12_43 hbL37_12_44 hbL37_12_45 hbL37_12_46 hmL37_12_4
      refine PW.iload q_37_12 rfl ?_
      refine PW.cB q_37_14 (by decide) fun c7 hc7 => ?_
      refine PW.jc_ge q_37_16 rfl (fun h8 => ?_) (fun h8 => ?_)
      · skip
        refine PW.iload q_37_69 rfl ?_
        refine PW.rZ q_37_71 rfl (by omega) (by omega) (by decide) (by decide) ?_
        exact hK v5 ML37_12_4 IML37_12_4 FML37_12_4 (by omega) (by omega) (Or.inr ⟨(s_li.full hbL37_12_44 (by omega) hp_4).1, (s_li.full hbL37_12_44 (by omega) hp_4).2⟩)
      · skip
        refine PW.iload q_37_19 rfl ?_
        refine PW.jz_eq q_37_21 rfl (fun h9 => ?_) (fun h9 => ?_)
        · skip
          refine PW.iload q_37_69 rfl ?_
          refine PW.rZ q_37_71 rfl (by omega) (by omega) (by decide) (by decide) ?_
          exact hK v5 ML37_12_4 IML37_12_4 FML37_12_4 (by omega) (by omega) (Or.inr ⟨by omega, (s_li.no hbL37_12_44 (by omega))⟩)
        · skip
          obtain ⟨j0, o0, K0, N0⟩ : ∃ (j0 : Nat) (o0 : Int), s_ok y f m (i, false, st, on) st (on + v6.toInt) ML37_12_4 j0 o0 ∧ (18 = 17 → ¬ (kK y j0 = 2 ∧ s_wn y j0 = 18)) := by rcases hbL37_12_44 with q | q; (· exact q.2); (· omega)
          have T0 := K0.1
          have B0 := K0.2.1
          have B1 := K0.2.2.1
          refine PW.aload_n q_37_24 rfl ?_
          refine PW.gets q_37_25 t_st_37_69 ?_
          refine PW.cV (as := [_]) (rest := []) q_37_28 t_mv_37_58 kd_1 IML37_12_4.1 (by decide) rfl (by decide) rfl rfl (Nat.le_of_ble_eq_true rfl) (Nat.le_of_ble_eq_true rfl) (by decide) (by decide) ?_
          refine PW.up (by decide) (c_X7_takes_vk (V) (hV) G _ ML37_12_4 IML37_12_4 18 (by decide) y (j0) K0.2.2.2.1 fun x11 M10 IM10 GM10 hx11 kx11 PM10 => ?_)
          have FM10 := Fr.trans FML37_12_4 GM10 (rfl)
          rcases PM10 with ⟨PaM10, PbM10, PcM10, PtM10⟩ | ⟨PaM10, PnM10, PtM10⟩
          · skip
            have swM10 := (s_wn_iff (x := y) (i := j0) (show 18 < 28 by decide)).mp PcM10
            refine PW.jz_eq q_37_31 rfl (fun h12 => False.elim (by omega)) (fun h12 => ?_)
            have e0 : s_st y f m (j0, true, st, o0) = (0, 0, (j0 + 1, false, st, o0)) := by show s_bh y j0 st o0 = _; unfold s_bh; rw [if_pos ⟨PbM10, by omega⟩]
            refine PW.aload_n q_37_34 rfl ?_
            refine PW.aload_n q_37_35 rfl ?_
            refine PW.aload_n q_37_36 rfl ?_
            refine PW.iload_n q_37_37 rfl ?_
            refine PW.cV (as := [_, _, _]) (rest := []) q_37_38 t_mv_37_66 kd_267 IM10.1 (by decide) rfl (by decide) rfl rfl (Nat.le_of_ble_eq_true rfl) (Nat.le_of_ble_eq_true rfl) (by decide) (by decide) ?_
            refine PW.up (by decide) (c_X4_readOne_vk1 (V) (hV) G _ M10 IM10 a3 (by omega) (by omega) y (j0 + 1) f m st o0 PtM10 ((hp_1.cg hbL37_12_45 hbL37_12_46).cg (Fr.at GM10 kd_4 (by decide)) (Fr.at GM10 kd_5 (by decide))) ((congrArg (fun e => o_i e 0) (Fr.at GM10 kd_267 (by decide))).trans K0.2.2.2.2) hp_3 (by omega) fun x14 M13 IM13 GM13 hx14 kx14 PM13 => ?_)
            have FM13 := Fr.trans FM10 GM13 (rfl)
            rcases PM13 with ⟨PaM13, jM13, oM13, PkM13⟩ | ⟨PaM13, PkM13⟩
            · skip
              have koM13 := PkM13.2
              refine PW.jz_eq q_37_41 rfl (fun h15 => False.elim (by omega)) (fun h15 => ?_)
              refine PW.aload_n q_37_44 rfl ?_
              refine PW.gets q_37_45 t_st_37_69 ?_
              refine PW.cI q_37_48 (by decide) fun c16 hc16 => ?_
              refine PW.cI q_37_49 (by decide) fun c17 hc17 => ?_
              refine PW.cV (as := [_, _, _]) (rest := []) q_37_50 t_mv_37_62 kd_267 IM13.1 (by decide) rfl (by decide) rfl rfl (Nat.le_of_ble_eq_true rfl) (Nat.le_of_ble_eq_true rfl) (by decide) (by decide) ?_
              refine PW.up (by decide) (c_X4_add_vk (V) (hV) G _ M13 IM13 18 (by decide) c16 c17 (by omega) (by omega) fun x19 M18 IM18 GM18 hx19 kx19 PM18 => ?_)
              have FM18 := Fr.trans FM13 GM18 (rfl)
              have PoM18 := PM18
              refine PW.jz_eq q_37_53 rfl (fun h20 => False.elim (by omega)) (fun h20 => ?_)
              refine PW.cI q_37_56 (by decide) fun c21 hc21 => ?_
              refine PW.goto q_37_57 rfl ?_
              refine PW.istore q_37_61 (by decide) ?_
              refine PW.incN q_37_63 rfl (by decide) (by decide) (by omega) (by omega) fun x22 hx22 => ?_
              refine PW.goto q_37_66 rfl ?_
              refine PW.lvS (lk1 rfl (lk1 rfl (lk1 rfl (lk1 rfl (lk1 rfl (lk1 rfl lk0)))))) (ih_L37_12_4 _ ?_ M18 c21 x22 IM18 FM18 (by omega) (by omega) (by omega) (by omega) (Or.inl ⟨by omega, jM13, oM13, ((s_ok.next (c := x22.toInt) (by rw [hp_5] at PkM13; exact PkM13) (T0.trans (s_to.of e0)) (by have := K0.2.1; omega)).cg (Fr.at GM18 kd_1 (by decide)) (Fr.at GM18 kd_2 (by decide)) PoM18), (fun h => absurd h (by decide))⟩) (((Fr.at GM18 kd_4 (by decide)).trans ((Fr.at GM13 kd_4 (by decide)).trans (Fr.at GM10 kd_4 (by decide)))).trans hbL37_12_45) (((Fr.at GM18 kd_5 (by decide)).trans ((Fr.at GM13 kd_5 (by decide)).trans (Fr.at GM10 kd_5 (by decide)))).trans hbL37_12_46) rfl)
              omega
            · skip
              refine PW.jz_eq q_37_41 rfl (fun h23 => ?_) (fun h23 => False.elim (by omega))
              refine PW.cI q_37_60 (by decide) fun c24 hc24 => ?_
              refine PW.istore q_37_61 (by decide) ?_
              refine PW.incN q_37_63 rfl (by decide) (by decide) (by omega) (by omega) fun x25 hx25 => ?_
              refine PW.goto q_37_66 rfl ?_
              refine PW.lvS (lk1 rfl (lk1 rfl (lk1 rfl (lk1 rfl (lk1 rfl (lk1 rfl lk0)))))) (ih_L37_12_4 _ ?_ M13 c24 x25 IM13 FM13 (by omega) (by omega) (by omega) (by omega) (Or.inr ⟨by omega, ((s_bad.to PkM13 (T0.trans (s_to.of e0))).cg rfl)⟩) (((Fr.at GM13 kd_4 (by decide)).trans (Fr.at GM10 kd_4 (by decide))).trans hbL37_12_45) (((Fr.at GM13 kd_5 (by decide)).trans (Fr.at GM10 kd_5 (by decide))).trans hbL37_12_46) rfl)
              omega
          · skip
            have snM10 : kK y (j0) = 2 → s_wn y (j0) ≠ 18 := fun h q => PnM10 ⟨h, (s_wn_iff (show 18 < 28 by decide)).mpr q⟩
            refine PW.jz_eq q_37_31 rfl (fun h26 => ?_) (fun h26 => False.elim (by omega))
            refine PW.iload q_37_69 rfl ?_
            refine PW.rZ q_37_71 rfl (by omega) (by omega) (by decide) (by decide) ?_
            exact hK v5 M10 IM10 FM10 (by omega) (by omega) (Or.inl ⟨by omega, j0, o0, ⟨T0, by omega, B1, PtM10, ((congrArg (fun e => o_i e 0) (Fr.at GM10 kd_267 (by decide))).trans K0.2.2.2.2)⟩, (fun h => snM10 h.1 h.2)⟩)
    exact PW.lvS (lk1 rfl (lk1 rfl (lk1 rfl (lk1 rfl (lk1 rfl (lk1 rfl lk0)))))) (L37_12_4 _ M1 x2 c3 IM1 FM1 (by omega) (by omega) (by omega) (by omega) (Or.inl ⟨by omega, jM1, oM1, (s_ok.mono (by rw [hp_5] at PkM1; exact PkM1) (by omega)), (fun h => absurd h (by decide))⟩) (Fr.at GM1 kd_4 (by decide)) (Fr.at GM1 kd_5 (by decide)) rfl)
  · skip
    refine PW.istore q_37_7 (by decide) ?_
    refine PW.cI q_37_9 (by decide) fun c27 hc27 => ?_
    refine PW.istore q_37_10 (by decide) ?_
    have L37_12_28 : ∀ (n : Nat) (ML37_12_28 : pM) (v29 v30 : Int32), Iv (V) ML37_12_28 → Fr [1, 14, 15, 16, 17] M ML37_12_28 → 0 ≤ v29.toInt → v29.toInt ≤ 1 → 0 ≤ v30.toInt → v30.toInt ≤ 20 → s_li y f m i st on 18 ML37_12_28 v29.toInt v30.toInt → ML37_12_28 4 = M 4 → ML37_12_28 5 = M 5 → (20 - v30.toInt).toNat = n → PW G false 28 37 (p_mc 37) (p_msl 37) Kr 12 [(0, .ref 267), (1, .ref 1), (2, .ref 4), (3, .int a3), (4, .int v29), (5, .int v30)] [] 311 ML37_12_28 0 0 := by
      intro n
      induction n using Nat.strongRecOn with
      | ind n ih_L37_12_28 =>
      intro ML37_12_28 v29 v30 IML37_12_28 FML37_12_28 hbL37_12_280 hbL37_12_281 hbL37_12_282 hbL37_12_283 hbL37_12_284 hbL37_12_285 hbL37_12_286 hmL37_12_28
      refine PW.iload q_37_12 rfl ?_
      refine PW.cB q_37_14 (by decide) fun c31 hc31 => ?_
      refine PW.jc_ge q_37_16 rfl (fun h32 => ?_) (fun h32 => ?_)
      · skip
        refine PW.iload q_37_69 rfl ?_
        refine PW.rZ q_37_71 rfl (by omega) (by omega) (by decide) (by decide) ?_
        exact hK v29 ML37_12_28 IML37_12_28 FML37_12_28 (by omega) (by omega) (Or.inr ⟨(s_li.full hbL37_12_284 (by omega) hp_4).1, (s_li.full hbL37_12_284 (by omega) hp_4).2⟩)
      · skip
        refine PW.iload q_37_19 rfl ?_
        refine PW.jz_eq q_37_21 rfl (fun h33 => ?_) (fun h33 => ?_)
        · skip
          refine PW.iload q_37_69 rfl ?_
          refine PW.rZ q_37_71 rfl (by omega) (by omega) (by decide) (by decide) ?_
          exact hK v29 ML37_12_28 IML37_12_28 FML37_12_28 (by omega) (by omega) (Or.inr ⟨by omega, (s_li.no hbL37_12_284 (by omega))⟩)
        · skip
          obtain ⟨j0, o0, K0, N0⟩ : ∃ (j0 : Nat) (o0 : Int), s_ok y f m (i, false, st, on) st (on + v30.toInt) ML37_12_28 j0 o0 ∧ (18 = 17 → ¬ (kK y j0 = 2 ∧ s_wn y j0 = 18)) := by rcases hbL37_12_284 with q | q; (· exact q.2); (· omega)
          have T0 := K0.1
          have B0 := K0.2.1
          have B1 := K0.2.2.1
          refine PW.aload_n q_37_24 rfl ?_
          refine PW.gets q_37_25 t_st_37_69 ?_
          refine PW.cV (as := [_]) (rest := []) q_37_28 t_mv_37_58 kd_1 IML37_12_28.1 (by decide) rfl (by decide) rfl rfl (Nat.le_of_ble_eq_true rfl) (Nat.le_of_ble_eq_true rfl) (by decide) (by decide) ?_
          refine PW.up (by decide) (c_X7_takes_vk (V) (hV) G _ ML37_12_28 IML37_12_28 18 (by decide) y (j0) K0.2.2.2.1 fun x35 M34 IM34 GM34 hx35 kx35 PM34 => ?_)
          have FM34 := Fr.trans FML37_12_28 GM34 (rfl)
          rcases PM34 with ⟨PaM34, PbM34, PcM34, PtM34⟩ | ⟨PaM34, PnM34, PtM34⟩
          · skip
            have swM34 := (s_wn_iff (x := y) (i := j0) (show 18 < 28 by decide)).mp PcM34
            refine PW.jz_eq q_37_31 rfl (fun h36 => False.elim (by omega)) (fun h36 => ?_)
            have e0 : s_st y f m (j0, true, st, o0) = (0, 0, (j0 + 1, false, st, o0)) := by show s_bh y j0 st o0 = _; unfold s_bh; rw [if_pos ⟨PbM34, by omega⟩]
            refine PW.aload_n q_37_34 rfl ?_
            refine PW.aload_n q_37_35 rfl ?_
            refine PW.aload_n q_37_36 rfl ?_
            refine PW.iload_n q_37_37 rfl ?_
            refine PW.cV (as := [_, _, _]) (rest := []) q_37_38 t_mv_37_66 kd_267 IM34.1 (by decide) rfl (by decide) rfl rfl (Nat.le_of_ble_eq_true rfl) (Nat.le_of_ble_eq_true rfl) (by decide) (by decide) ?_
            refine PW.up (by decide) (c_X4_readOne_vk1 (V) (hV) G _ M34 IM34 a3 (by omega) (by omega) y (j0 + 1) f m st o0 PtM34 ((hp_1.cg hbL37_12_285 hbL37_12_286).cg (Fr.at GM34 kd_4 (by decide)) (Fr.at GM34 kd_5 (by decide))) ((congrArg (fun e => o_i e 0) (Fr.at GM34 kd_267 (by decide))).trans K0.2.2.2.2) hp_3 (by omega) fun x38 M37 IM37 GM37 hx38 kx38 PM37 => ?_)
            have FM37 := Fr.trans FM34 GM37 (rfl)
            rcases PM37 with ⟨PaM37, jM37, oM37, PkM37⟩ | ⟨PaM37, PkM37⟩
            · skip
              have koM37 := PkM37.2
              refine PW.jz_eq q_37_41 rfl (fun h39 => False.elim (by omega)) (fun h39 => ?_)
              refine PW.aload_n q_37_44 rfl ?_
              refine PW.gets q_37_45 t_st_37_69 ?_
              refine PW.cI q_37_48 (by decide) fun c40 hc40 => ?_
              refine PW.cI q_37_49 (by decide) fun c41 hc41 => ?_
              refine PW.cV (as := [_, _, _]) (rest := []) q_37_50 t_mv_37_62 kd_267 IM37.1 (by decide) rfl (by decide) rfl rfl (Nat.le_of_ble_eq_true rfl) (Nat.le_of_ble_eq_true rfl) (by decide) (by decide) ?_
              refine PW.up (by decide) (c_X4_add_vk (V) (hV) G _ M37 IM37 18 (by decide) c40 c41 (by omega) (by omega) fun x43 M42 IM42 GM42 hx43 kx43 PM42 => ?_)
              have FM42 := Fr.trans FM37 GM42 (rfl)
              have PoM42 := PM42
              refine PW.jz_eq q_37_53 rfl (fun h44 => False.elim (by omega)) (fun h44 => ?_)
              refine PW.cI q_37_56 (by decide) fun c45 hc45 => ?_
              refine PW.goto q_37_57 rfl ?_
              refine PW.istore q_37_61 (by decide) ?_
              refine PW.incN q_37_63 rfl (by decide) (by decide) (by omega) (by omega) fun x46 hx46 => ?_
              refine PW.goto q_37_66 rfl ?_
              refine PW.lvS (lk1 rfl (lk1 rfl (lk1 rfl (lk1 rfl (lk1 rfl (lk1 rfl lk0)))))) (ih_L37_12_28 _ ?_ M42 c45 x46 IM42 FM42 (by omega) (by omega) (by omega) (by omega) (Or.inl ⟨by omega, jM37, oM37, ((s_ok.next (c := x46.toInt) (by rw [hp_5] at PkM37; exact PkM37) (T0.trans (s_to.of e0)) (by have := K0.2.1; omega)).cg (Fr.at GM42 kd_1 (by decide)) (Fr.at GM42 kd_2 (by decide)) PoM42), (fun h => absurd h (by decide))⟩) (((Fr.at GM42 kd_4 (by decide)).trans ((Fr.at GM37 kd_4 (by decide)).trans (Fr.at GM34 kd_4 (by decide)))).trans hbL37_12_285) (((Fr.at GM42 kd_5 (by decide)).trans ((Fr.at GM37 kd_5 (by decide)).trans (Fr.at GM34 kd_5 (by decide)))).trans hbL37_12_286) rfl)
              omega
            · skip
              refine PW.jz_eq q_37_41 rfl (fun h47 => ?_) (fun h47 => False.elim (by omega))
              refine PW.cI q_37_60 (by decide) fun c48 hc48 => ?_
              refine PW.istore q_37_61 (by decide) ?_
              refine PW.incN q_37_63 rfl (by decide) (by decide) (by omega) (by omega) fun x49 hx49 => ?_
              refine PW.goto q_37_66 rfl ?_
              refine PW.lvS (lk1 rfl (lk1 rfl (lk1 rfl (lk1 rfl (lk1 rfl (lk1 rfl lk0)))))) (ih_L37_12_28 _ ?_ M37 c48 x49 IM37 FM37 (by omega) (by omega) (by omega) (by omega) (Or.inr ⟨by omega, ((s_bad.to PkM37 (T0.trans (s_to.of e0))).cg rfl)⟩) (((Fr.at GM37 kd_4 (by decide)).trans (Fr.at GM34 kd_4 (by decide))).trans hbL37_12_285) (((Fr.at GM37 kd_5 (by decide)).trans (Fr.at GM34 kd_5 (by decide))).trans hbL37_12_286) rfl)
              omega
          · skip
            have snM34 : kK y (j0) = 2 → s_wn y (j0) ≠ 18 := fun h q => PnM34 ⟨h, (s_wn_iff (show 18 < 28 by decide)).mpr q⟩
            refine PW.jz_eq q_37_31 rfl (fun h50 => ?_) (fun h50 => False.elim (by omega))
            refine PW.iload q_37_69 rfl ?_
            refine PW.rZ q_37_71 rfl (by omega) (by omega) (by decide) (by decide) ?_
            exact hK v29 M34 IM34 FM34 (by omega) (by omega) (Or.inl ⟨by omega, j0, o0, ⟨T0, by omega, B1, PtM34, ((congrArg (fun e => o_i e 0) (Fr.at GM34 kd_267 (by decide))).trans K0.2.2.2.2)⟩, (fun h => snM34 h.1 h.2)⟩)
    exact PW.lvS (lk1 rfl (lk1 rfl (lk1 rfl (lk1 rfl (lk1 rfl (lk1 rfl lk0)))))) (L37_12_28 _ M1 x2 c27 IM1 FM1 (by omega) (by omega) (by omega) (by omega) (Or.inr ⟨by omega, PkM1⟩) (Fr.at GM1 kd_4 (by decide)) (Fr.at GM1 kd_5 (by decide)) rfl)
theorem c_X4_readAny_vk1 (V : pM → Prop) (hV : Stab V) (G : pG) (Kr : pK) (M : pM) (I : Iv V M) (a3 : Int32) (hl_a3 : 1 ≤ a3.toInt) (hh_a3 : a3.toInt ≤ 1) (y : k_X) (i : Nat) (f : Nat → Int) (m : Int) (st : List Bool) (on : Int) (hp_0 : k_at y M i) (hp_1 : s_nm M f m) (hp_2 : o_i (M 267) 0 = on) (hp_3 : st.length + 1 = 1) (hp_4 : 0 ≤ on) (hp_5 : s_dn st = st) (hK : ∀ (x : Int32) (M1 : pM), Iv V M1 → Fr [1, 14, 15, 16, 17] M M1 → 0 ≤ x.toInt → x.toInt ≤ 1 → (s_aq y f m i st on x M1) → Kr.1 (some (.int x)) 311 M1) : PW G false 29 36 (p_mc 36) (p_msl 36) Kr 0 (lv_args 0 [.ref 267, .ref 1, .ref 4, .int a3]) [] 311 M 0 0 := by
  have F : Fr [1, 14, 15, 16, 17] M M := Fr.refl
  obtain ⟨w267_0, fw267_0, hw267_0, kw267_0⟩ := gF_14_0.int kd_267 I.1 (by decide)
  have iw267_0 := o_i_of fw267_0
  have jw267_0 : w267_0.toInt = on := by have w := hp_2; omega
  refine PW.aload_n q_36_0 rfl ?_
  refine PW.aload_n q_36_1 rfl ?_
  refine PW.aload_n q_36_2 rfl ?_
  refine PW.iload_n q_36_3 rfl ?_
  refine PW.cV (as := [_, _, _]) (rest := []) q_36_4 t_mv_36_51 kd_267 I.1 (by decide) rfl (by decide) rfl rfl (Nat.le_of_ble_eq_true rfl) (Nat.le_of_ble_eq_true rfl) (by decide) (by decide) ?_
  refine PW.up (by decide) (c_X4_readAll_vk1 (V) (hV) G _ M I a3 (by omega) (by omega) y (i) f m st on hp_0 hp_1 hp_2 hp_3 (by omega) hp_5 fun x2 M1 IM1 GM1 hx2 kx2 PM1 => ?_)
  have FM1 := Fr.trans F GM1 (rfl)
  rcases PM1 with ⟨PaM1, jM1, oM1, PkM1, Pn2M1⟩ | ⟨PaM1, PkM1⟩
  · skip
    have koM1 := PkM1.2
    refine PW.istore q_36_7 (by decide) ?_
    refine PW.cI q_36_9 (by decide) fun c3 hc3 => ?_
    refine PW.istore q_36_10 (by decide) ?_
    have L36_12_4 : ∀ (n : Nat) (ML36_12_4 : pM) (v5 v6 : Int32), Iv (V) ML36_12_4 → Fr [1, 14, 15, 16, 17] M ML36_12_4 → 0 ≤ v5.toInt → v5.toInt ≤ 1 → 0 ≤ v6.toInt → v6.toInt ≤ 20 → s_li y f m i st on 17 ML36_12_4 v5.toInt v6.toInt → ML36_12_4 4 = M 4 → ML36_12_4 5 = M 5 → (20 - v6.toInt).toNat = n → PW G false 29 36 (p_mc 36) (p_msl 36) Kr 12 [(0, .ref 267), (1, .ref 1), (2, .ref 4), (3, .int a3), (4, .int v5), (5, .int v6)] [] 311 ML36_12_4 0 0 := by
      intro n
      induction n using Nat.strongRecOn with
      | ind n ih_L36_12_4 =>
      intro ML36_12_4 v5 v6 IML36_12_4 FML36_12_4 hbL36_12_40 hbL36_12_41 hbL36_12_42 hbL36_12_43 hbL36_12_44 hbL36_12_45 hbL36_12_46 hmL36_12_4
      refine PW.iload q_36_12 rfl ?_
      refine PW.cB q_36_14 (by decide) fun c7 hc7 => ?_
      refine PW.jc_ge q_36_16 rfl (fun h8 => ?_) (fun h8 => ?_)
      · skip
        refine PW.iload q_36_69 rfl ?_
        refine PW.rZ q_36_71 rfl (by omega) (by omega) (by decide) (by decide) ?_
        exact hK v5 ML36_12_4 IML36_12_4 FML36_12_4 (by omega) (by omega) (Or.inr ⟨(s_li.full hbL36_12_44 (by omega) hp_4).1, (s_li.full hbL36_12_44 (by omega) hp_4).2⟩)
      · skip
        refine PW.iload q_36_19 rfl ?_
        refine PW.jz_eq q_36_21 rfl (fun h9 => ?_) (fun h9 => ?_)
        · skip
          refine PW.iload q_36_69 rfl ?_
          refine PW.rZ q_36_71 rfl (by omega) (by omega) (by decide) (by decide) ?_
          exact hK v5 ML36_12_4 IML36_12_4 FML36_12_4 (by omega) (by omega) (Or.inr ⟨by omega, (s_li.no hbL36_12_44 (by omega))⟩)
        · skip
          obtain ⟨j0, o0, K0, N0⟩ : ∃ (j0 : Nat) (o0 : Int), s_ok y f m (i, false, st, on) st (on + v6.toInt) ML36_12_4 j0 o0 ∧ (17 = 17 → ¬ (kK y j0 = 2 ∧ s_wn y j0 = 18)) := by rcases hbL36_12_44 with q | q; (· exact q.2); (· omega)
          have T0 := K0.1
          have B0 := K0.2.1
          have B1 := K0.2.2.1
          refine PW.aload_n q_36_24 rfl ?_
          refine PW.gets q_36_25 t_st_36_54 ?_
          refine PW.cV (as := [_]) (rest := []) q_36_28 t_mv_36_58 kd_1 IML36_12_4.1 (by decide) rfl (by decide) rfl rfl (Nat.le_of_ble_eq_true rfl) (Nat.le_of_ble_eq_true rfl) (by decide) (by decide) ?_
          refine PW.up (by decide) (c_X7_takes_vk (V) (hV) G _ ML36_12_4 IML36_12_4 17 (by decide) y (j0) K0.2.2.2.1 fun x11 M10 IM10 GM10 hx11 kx11 PM10 => ?_)
          have FM10 := Fr.trans FML36_12_4 GM10 (rfl)
          rcases PM10 with ⟨PaM10, PbM10, PcM10, PtM10⟩ | ⟨PaM10, PnM10, PtM10⟩
          · skip
            have swM10 := (s_wn_iff (x := y) (i := j0) (show 17 < 28 by decide)).mp PcM10
            refine PW.jz_eq q_36_31 rfl (fun h12 => False.elim (by omega)) (fun h12 => ?_)
            have e0 : s_st y f m (j0, true, st, o0) = (0, 0, (j0 + 1, false, st, o0)) := by show s_bh y j0 st o0 = _; unfold s_bh; rw [if_pos ⟨PbM10, by omega⟩]
            refine PW.aload_n q_36_34 rfl ?_
            refine PW.aload_n q_36_35 rfl ?_
            refine PW.aload_n q_36_36 rfl ?_
            refine PW.iload_n q_36_37 rfl ?_
            refine PW.cV (as := [_, _, _]) (rest := []) q_36_38 t_mv_36_51 kd_267 IM10.1 (by decide) rfl (by decide) rfl rfl (Nat.le_of_ble_eq_true rfl) (Nat.le_of_ble_eq_true rfl) (by decide) (by decide) ?_
            refine PW.up (by decide) (c_X4_readAll_vk1 (V) (hV) G _ M10 IM10 a3 (by omega) (by omega) y (j0 + 1) f m st o0 PtM10 ((hp_1.cg hbL36_12_45 hbL36_12_46).cg (Fr.at GM10 kd_4 (by decide)) (Fr.at GM10 kd_5 (by decide))) ((congrArg (fun e => o_i e 0) (Fr.at GM10 kd_267 (by decide))).trans K0.2.2.2.2) hp_3 (by omega) hp_5 fun x14 M13 IM13 GM13 hx14 kx14 PM13 => ?_)
            have FM13 := Fr.trans FM10 GM13 (rfl)
            rcases PM13 with ⟨PaM13, jM13, oM13, PkM13, Pn2M13⟩ | ⟨PaM13, PkM13⟩
            · skip
              have koM13 := PkM13.2
              refine PW.jz_eq q_36_41 rfl (fun h15 => False.elim (by omega)) (fun h15 => ?_)
              refine PW.aload_n q_36_44 rfl ?_
              refine PW.gets q_36_45 t_st_36_54 ?_
              refine PW.cI q_36_48 (by decide) fun c16 hc16 => ?_
              refine PW.cI q_36_49 (by decide) fun c17 hc17 => ?_
              refine PW.cV (as := [_, _, _]) (rest := []) q_36_50 t_mv_36_62 kd_267 IM13.1 (by decide) rfl (by decide) rfl rfl (Nat.le_of_ble_eq_true rfl) (Nat.le_of_ble_eq_true rfl) (by decide) (by decide) ?_
              refine PW.up (by decide) (c_X4_add_vk (V) (hV) G _ M13 IM13 17 (by decide) c16 c17 (by omega) (by omega) fun x19 M18 IM18 GM18 hx19 kx19 PM18 => ?_)
              have FM18 := Fr.trans FM13 GM18 (rfl)
              have PoM18 := PM18
              refine PW.jz_eq q_36_53 rfl (fun h20 => False.elim (by omega)) (fun h20 => ?_)
              refine PW.cI q_36_56 (by decide) fun c21 hc21 => ?_
              refine PW.goto q_36_57 rfl ?_
              refine PW.istore q_36_61 (by decide) ?_
              refine PW.incN q_36_63 rfl (by decide) (by decide) (by omega) (by omega) fun x22 hx22 => ?_
              refine PW.goto q_36_66 rfl ?_
              refine PW.lvS (lk1 rfl (lk1 rfl (lk1 rfl (lk1 rfl (lk1 rfl (lk1 rfl lk0)))))) (ih_L36_12_4 _ ?_ M18 c21 x22 IM18 FM18 (by omega) (by omega) (by omega) (by omega) (Or.inl ⟨by omega, jM13, oM13, ((s_ok.next (c := x22.toInt) PkM13 (T0.trans (s_to.of e0)) (by have := K0.2.1; omega)).cg (Fr.at GM18 kd_1 (by decide)) (Fr.at GM18 kd_2 (by decide)) PoM18), (fun _ => Pn2M13)⟩) (((Fr.at GM18 kd_4 (by decide)).trans ((Fr.at GM13 kd_4 (by decide)).trans (Fr.at GM10 kd_4 (by decide)))).trans hbL36_12_45) (((Fr.at GM18 kd_5 (by decide)).trans ((Fr.at GM13 kd_5 (by decide)).trans (Fr.at GM10 kd_5 (by decide)))).trans hbL36_12_46) rfl)
              omega
            · skip
              refine PW.jz_eq q_36_41 rfl (fun h23 => ?_) (fun h23 => False.elim (by omega))
              refine PW.cI q_36_60 (by decide) fun c24 hc24 => ?_
              refine PW.istore q_36_61 (by decide) ?_
              refine PW.incN q_36_63 rfl (by decide) (by decide) (by omega) (by omega) fun x25 hx25 => ?_
              refine PW.goto q_36_66 rfl ?_
              refine PW.lvS (lk1 rfl (lk1 rfl (lk1 rfl (lk1 rfl (lk1 rfl (lk1 rfl lk0)))))) (ih_L36_12_4 _ ?_ M13 c24 x25 IM13 FM13 (by omega) (by omega) (by omega) (by omega) (Or.inr ⟨by omega, ((s_bad.to PkM13 (T0.trans (s_to.of e0))).cg rfl)⟩) (((Fr.at GM13 kd_4 (by decide)).trans (Fr.at GM10 kd_4 (by decide))).trans hbL36_12_45) (((Fr.at GM13 kd_5 (by decide)).trans (Fr.at GM10 kd_5 (by decide))).trans hbL36_12_46) rfl)
              omega
          · skip
            have snM10 : kK y (j0) = 2 → s_wn y (j0) ≠ 17 := fun h q => PnM10 ⟨h, (s_wn_iff (show 17 < 28 by decide)).mpr q⟩
            refine PW.jz_eq q_36_31 rfl (fun h26 => ?_) (fun h26 => False.elim (by omega))
            refine PW.iload q_36_69 rfl ?_
            refine PW.rZ q_36_71 rfl (by omega) (by omega) (by decide) (by decide) ?_
            exact hK v5 M10 IM10 FM10 (by omega) (by omega) (Or.inl ⟨by omega, j0, o0, ⟨T0, by omega, B1, PtM10, ((congrArg (fun e => o_i e 0) (Fr.at GM10 kd_267 (by decide))).trans K0.2.2.2.2)⟩, (fun h => by rcases h.2 with q | q; (· exact N0 rfl ⟨h.1, q⟩); (· exact snM10 h.1 q))⟩)
    exact PW.lvS (lk1 rfl (lk1 rfl (lk1 rfl (lk1 rfl (lk1 rfl (lk1 rfl lk0)))))) (L36_12_4 _ M1 x2 c3 IM1 FM1 (by omega) (by omega) (by omega) (by omega) (Or.inl ⟨by omega, jM1, oM1, (s_ok.mono PkM1 (by omega)), (fun _ => Pn2M1)⟩) (Fr.at GM1 kd_4 (by decide)) (Fr.at GM1 kd_5 (by decide)) rfl)
  · skip
    refine PW.istore q_36_7 (by decide) ?_
    refine PW.cI q_36_9 (by decide) fun c27 hc27 => ?_
    refine PW.istore q_36_10 (by decide) ?_
    have L36_12_28 : ∀ (n : Nat) (ML36_12_28 : pM) (v29 v30 : Int32), Iv (V) ML36_12_28 → Fr [1, 14, 15, 16, 17] M ML36_12_28 → 0 ≤ v29.toInt → v29.toInt ≤ 1 → 0 ≤ v30.toInt → v30.toInt ≤ 20 → s_li y f m i st on 17 ML36_12_28 v29.toInt v30.toInt → ML36_12_28 4 = M 4 → ML36_12_28 5 = M 5 → (20 - v30.toInt).toNat = n → PW G false 29 36 (p_mc 36) (p_msl 36) Kr 12 [(0, .ref 267), (1, .ref 1), (2, .ref 4), (3, .int a3), (4, .int v29), (5, .int v30)] [] 311 ML36_12_28 0 0 := by
      intro n
      induction n using Nat.strongRecOn with
      | ind n ih_L36_12_28 =>
      intro ML36_12_28 v29 v30 IML36_12_28 FML36_12_28 hbL36_12_280 hbL36_12_281 hbL36_12_282 hbL36_12_283 hbL36_12_284 hbL36_12_285 hbL36_12_286 hmL36_12_28
      refine PW.iload q_36_12 rfl ?_
      refine PW.cB q_36_14 (by decide) fun c31 hc31 => ?_
      refine PW.jc_ge q_36_16 rfl (fun h32 => ?_) (fun h32 => ?_)
      · skip
        refine PW.iload q_36_69 rfl ?_
        refine PW.rZ q_36_71 rfl (by omega) (by omega) (by decide) (by decide) ?_
        exact hK v29 ML36_12_28 IML36_12_28 FML36_12_28 (by omega) (by omega) (Or.inr ⟨(s_li.full hbL36_12_284 (by omega) hp_4).1, (s_li.full hbL36_12_284 (by omega) hp_4).2⟩)
      · skip
        refine PW.iload q_36_19 rfl ?_
        refine PW.jz_eq q_36_21 rfl (fun h33 => ?_) (fun h33 => ?_)
        · skip
          refine PW.iload q_36_69 rfl ?_
          refine PW.rZ q_36_71 rfl (by omega) (by omega) (by decide) (by decide) ?_
          exact hK v29 ML36_12_28 IML36_12_28 FML36_12_28 (by omega) (by omega) (Or.inr ⟨by omega, (s_li.no hbL36_12_284 (by omega))⟩)
        · skip
          obtain ⟨j0, o0, K0, N0⟩ : ∃ (j0 : Nat) (o0 : Int), s_ok y f m (i, false, st, on) st (on + v30.toInt) ML36_12_28 j0 o0 ∧ (17 = 17 → ¬ (kK y j0 = 2 ∧ s_wn y j0 = 18)) := by rcases hbL36_12_284 with q | q; (· exact q.2); (· omega)
          have T0 := K0.1
          have B0 := K0.2.1
          have B1 := K0.2.2.1
          refine PW.aload_n q_36_24 rfl ?_
          refine PW.gets q_36_25 t_st_36_54 ?_
          refine PW.cV (as := [_]) (rest := []) q_36_28 t_mv_36_58 kd_1 IML36_12_28.1 (by decide) rfl (by decide) rfl rfl (Nat.le_of_ble_eq_true rfl) (Nat.le_of_ble_eq_true rfl) (by decide) (by decide) ?_
          refine PW.up (by decide) (c_X7_takes_vk (V) (hV) G _ ML36_12_28 IML36_12_28 17 (by decide) y (j0) K0.2.2.2.1 fun x35 M34 IM34 GM34 hx35 kx35 PM34 => ?_)
          have FM34 := Fr.trans FML36_12_28 GM34 (rfl)
          rcases PM34 with ⟨PaM34, PbM34, PcM34, PtM34⟩ | ⟨PaM34, PnM34, PtM34⟩
          · skip
            have swM34 := (s_wn_iff (x := y) (i := j0) (show 17 < 28 by decide)).mp PcM34
            refine PW.jz_eq q_36_31 rfl (fun h36 => False.elim (by omega)) (fun h36 => ?_)
            have e0 : s_st y f m (j0, true, st, o0) = (0, 0, (j0 + 1, false, st, o0)) := by show s_bh y j0 st o0 = _; unfold s_bh; rw [if_pos ⟨PbM34, by omega⟩]
            refine PW.aload_n q_36_34 rfl ?_
            refine PW.aload_n q_36_35 rfl ?_
            refine PW.aload_n q_36_36 rfl ?_
            refine PW.iload_n q_36_37 rfl ?_
            refine PW.cV (as := [_, _, _]) (rest := []) q_36_38 t_mv_36_51 kd_267 IM34.1 (by decide) rfl (by decide) rfl rfl (Nat.le_of_ble_eq_true rfl) (Nat.le_of_ble_eq_true rfl) (by decide) (by decide) ?_
            refine PW.up (by decide) (c_X4_readAll_vk1 (V) (hV) G _ M34 IM34 a3 (by omega) (by omega) y (j0 + 1) f m st o0 PtM34 ((hp_1.cg hbL36_12_285 hbL36_12_286).cg (Fr.at GM34 kd_4 (by decide)) (Fr.at GM34 kd_5 (by decide))) ((congrArg (fun e => o_i e 0) (Fr.at GM34 kd_267 (by decide))).trans K0.2.2.2.2) hp_3 (by omega) hp_5 fun x38 M37 IM37 GM37 hx38 kx38 PM37 => ?_)
            have FM37 := Fr.trans FM34 GM37 (rfl)
            rcases PM37 with ⟨PaM37, jM37, oM37, PkM37, Pn2M37⟩ | ⟨PaM37, PkM37⟩
            · skip
              have koM37 := PkM37.2
              refine PW.jz_eq q_36_41 rfl (fun h39 => False.elim (by omega)) (fun h39 => ?_)
              refine PW.aload_n q_36_44 rfl ?_
              refine PW.gets q_36_45 t_st_36_54 ?_
              refine PW.cI q_36_48 (by decide) fun c40 hc40 => ?_
              refine PW.cI q_36_49 (by decide) fun c41 hc41 => ?_
              refine PW.cV (as := [_, _, _]) (rest := []) q_36_50 t_mv_36_62 kd_267 IM37.1 (by decide) rfl (by decide) rfl rfl (Nat.le_of_ble_eq_true rfl) (Nat.le_of_ble_eq_true rfl) (by decide) (by decide) ?_
              refine PW.up (by decide) (c_X4_add_vk (V) (hV) G _ M37 IM37 17 (by decide) c40 c41 (by omega) (by omega) fun x43 M42 IM42 GM42 hx43 kx43 PM42 => ?_)
              have FM42 := Fr.trans FM37 GM42 (rfl)
              have PoM42 := PM42
              refine PW.jz_eq q_36_53 rfl (fun h44 => False.elim (by omega)) (fun h44 => ?_)
              refine PW.cI q_36_56 (by decide) fun c45 hc45 => ?_
              refine PW.goto q_36_57 rfl ?_
              refine PW.istore q_36_61 (by decide) ?_
              refine PW.incN q_36_63 rfl (by decide) (by decide) (by omega) (by omega) fun x46 hx46 => ?_
              refine PW.goto q_36_66 rfl ?_
              refine PW.lvS (lk1 rfl (lk1 rfl (lk1 rfl (lk1 rfl (lk1 rfl (lk1 rfl lk0)))))) (ih_L36_12_28 _ ?_ M42 c45 x46 IM42 FM42 (by omega) (by omega) (by omega) (by omega) (Or.inl ⟨by omega, jM37, oM37, ((s_ok.next (c := x46.toInt) PkM37 (T0.trans (s_to.of e0)) (by have := K0.2.1; omega)).cg (Fr.at GM42 kd_1 (by decide)) (Fr.at GM42 kd_2 (by decide)) PoM42), (fun _ => Pn2M37)⟩) (((Fr.at GM42 kd_4 (by decide)).trans ((Fr.at GM37 kd_4 (by decide)).trans (Fr.at GM34 kd_4 (by decide)))).trans hbL36_12_285) (((Fr.at GM42 kd_5 (by decide)).trans ((Fr.at GM37 kd_5 (by decide)).trans (Fr.at GM34 kd_5 (by decide)))).trans hbL36_12_286) rfl)
              omega
            · skip
              refine PW.jz_eq q_36_41 rfl (fun h47 => ?_) (fun h47 => False.elim (by omega))
              refine PW.cI q_36_60 (by decide) fun c48 hc48 => ?_
              refine PW.istore q_36_61 (by decide) ?_
              refine PW.incN q_36_63 rfl (by decide) (by decide) (by omega) (by omega) fun x49 hx49 => ?_
              refine PW.goto q_36_66 rfl ?_
              refine PW.lvS (lk1 rfl (lk1 rfl (lk1 rfl (lk1 rfl (lk1 rfl (lk1 rfl lk0)))))) (ih_L36_12_28 _ ?_ M37 c48 x49 IM37 FM37 (by omega) (by omega) (by omega) (by omega) (Or.inr ⟨by omega, ((s_bad.to PkM37 (T0.trans (s_to.of e0))).cg rfl)⟩) (((Fr.at GM37 kd_4 (by decide)).trans (Fr.at GM34 kd_4 (by decide))).trans hbL36_12_285) (((Fr.at GM37 kd_5 (by decide)).trans (Fr.at GM34 kd_5 (by decide))).trans hbL36_12_286) rfl)
              omega
          · skip
            have snM34 : kK y (j0) = 2 → s_wn y (j0) ≠ 17 := fun h q => PnM34 ⟨h, (s_wn_iff (show 17 < 28 by decide)).mpr q⟩
            refine PW.jz_eq q_36_31 rfl (fun h50 => ?_) (fun h50 => False.elim (by omega))
            refine PW.iload q_36_69 rfl ?_
            refine PW.rZ q_36_71 rfl (by omega) (by omega) (by decide) (by decide) ?_
            exact hK v29 M34 IM34 FM34 (by omega) (by omega) (Or.inl ⟨by omega, j0, o0, ⟨T0, by omega, B1, PtM34, ((congrArg (fun e => o_i e 0) (Fr.at GM34 kd_267 (by decide))).trans K0.2.2.2.2)⟩, (fun h => by rcases h.2 with q | q; (· exact N0 rfl ⟨h.1, q⟩); (· exact snM34 h.1 q))⟩)
    exact PW.lvS (lk1 rfl (lk1 rfl (lk1 rfl (lk1 rfl (lk1 rfl (lk1 rfl lk0)))))) (L36_12_28 _ M1 x2 c27 IM1 FM1 (by omega) (by omega) (by omega) (by omega) (Or.inr ⟨by omega, PkM1⟩) (Fr.at GM1 kd_4 (by decide)) (Fr.at GM1 kd_5 (by decide)) rfl)
theorem c_X4_read_vk (V : pM → Prop) (hV : Stab V) (G : pG) (Kr : pK) (M : pM) (I : Iv V M) (y : k_X) (f : Nat → Int) (m : Int) (hp_0 : k_tp y M) (hp_1 : y.2.2 = 200) (hp_2 : s_nm M f m) (hK : ∀ (x : Int32) (M1 : pM), Iv V M1 → Fr [1, 14, 15, 16, 17] M M1 → 0 ≤ x.toInt → x.toInt ≤ 1 → ((x.toInt = 1 ∧ ∃ o : Int, s_fin y f m (0, false, [], 0) (-1, o) ∧ o_i (M1 267) 0 = o ∧ o_i (M1 1) 10 = 0) ∨ (x.toInt = 0 ∧ s_bad y f m (0, false, [], 0) M1)) → Kr.1 (some (.int x)) 311 M1) : PW G false 30 35 (p_mc 35) (p_msl 35) Kr 0 (lv_args 0 [.ref 267, .ref 1, .ref 4]) [] 311 M 0 0 := by
  have F : Fr [1, 14, 15, 16, 17] M M := Fr.refl
  refine PW.aload_n q_35_0 rfl ?_
  refine PW.cV (as := []) (rest := []) q_35_1 t_mv_35_34 kd_267 I.1 (by decide) rfl (by decide) rfl rfl (Nat.le_of_ble_eq_true rfl) (Nat.le_of_ble_eq_true rfl) (by decide) (by decide) ?_
  refine PW.up (by decide) (c_X4_forget_vk (V) (hV) G _ M I  fun M1 IM1 GM1 PM1 => ?_)
  have FM1 := Fr.trans F GM1 (rfl)
  have PzM1 := PM1
  refine PW.aload_n q_35_4 rfl ?_
  refine PW.cS q_35_5 (by decide) fun c2 hc2 => ?_
  refine PW.cV (as := [_]) (rest := []) q_35_8 t_mv_35_37 kd_1 IM1.1 (by decide) rfl (by decide) rfl rfl (Nat.le_of_ble_eq_true rfl) (Nat.le_of_ble_eq_true rfl) (by decide) (by decide) ?_
  refine PW.up (by decide) (c_X7_startText_vk (V) (hV) G _ M1 IM1 c2 y ⟨(congrArg (fun e => o_i e 1) (Fr.at GM1 kd_1 (by decide))).trans hp_0.1, fun i hi => by rw [(Fr.at GM1 kd_2 (by decide))]; exact hp_0.2 i hi⟩ (by omega) fun M3 IM3 GM3 PM3 => ?_)
  have FM3 := Fr.trans FM1 GM3 (rfl)
  have PtM3 := PM3
  refine PW.aload_n q_35_11 rfl ?_
  refine PW.aload_n q_35_12 rfl ?_
  refine PW.aload_n q_35_13 rfl ?_
  refine PW.cI q_35_14 (by decide) fun c4 hc4 => ?_
  refine PW.cV (as := [_, _, _]) (rest := []) q_35_15 t_mv_35_43 kd_267 IM3.1 (by decide) rfl (by decide) rfl rfl (Nat.le_of_ble_eq_true rfl) (Nat.le_of_ble_eq_true rfl) (by decide) (by decide) ?_
  refine PW.up (by decide) (c_X4_readAny_vk1 (V) (hV) G _ M3 IM3 c4 (by omega) (by omega) y (0) f m [] 0 PtM3 (hp_2.cg ((Fr.at GM3 kd_4 (by decide)).trans (Fr.at GM1 kd_4 (by decide))) ((Fr.at GM3 kd_5 (by decide)).trans (Fr.at GM1 kd_5 (by decide)))) ((congrArg (fun e => o_i e 0) (Fr.at GM3 kd_267 (by decide))).trans PzM1) rfl (by omega) rfl fun x6 M5 IM5 GM5 hx6 kx6 PM5 => ?_)
  have FM5 := Fr.trans FM3 GM5 (rfl)
  rcases PM5 with ⟨PaM5, jM5, oM5, PkM5, Pn2M5⟩ | ⟨PaM5, PkM5⟩
  · skip
    have koM5 := PkM5.2
    refine PW.jz_eq q_35_18 rfl (fun h7 => False.elim (by omega)) (fun h7 => ?_)
    refine PW.aload_n q_35_21 rfl ?_
    refine PW.cV (as := []) (rest := []) q_35_22 t_mv_35_47 kd_1 IM5.1 (by decide) rfl (by decide) rfl rfl (Nat.le_of_ble_eq_true rfl) (Nat.le_of_ble_eq_true rfl) (by decide) (by decide) ?_
    refine PW.up (by decide) (c_X7_closes_vk (V) (hV) G _ M5 IM5 y (jM5) PkM5.2.2.2.1 fun x9 M8 IM8 GM8 hx9 kx9 PM8 => ?_)
    have FM8 := Fr.trans FM5 GM8 (rfl)
    rcases PM8 with ⟨PaM8, PbM8, PtM8⟩ | ⟨PaM8, PbM8, PfM8, PgM8⟩
    · skip
      refine PW.jz_eq q_35_25 rfl (fun h10 => False.elim (by omega)) (fun h10 => ?_)
      refine PW.cI q_35_28 (by decide) fun c11 hc11 => ?_
      refine PW.goto q_35_29 rfl ?_
      refine PW.rZ q_35_33 rfl (by omega) (by omega) (by decide) (by decide) ?_
      have e2 : s_st y f m (jM5, true, [], oM5) = (-1, oM5, (0, false, [], 0)) := by show s_bh y jM5 [] oM5 = _; unfold s_bh; rw [if_neg Pn2M5, if_neg (fun h => h.2 rfl), if_pos ⟨PbM8, rfl⟩]
      exact hK c11 M8 IM8 FM8 (by omega) (by omega) (Or.inl ⟨by omega, oM5, PkM5.1.fin (s_fin.of e2 (by decide)), ((congrArg (fun e => o_i e 0) (Fr.at GM8 kd_267 (by decide))).trans PkM5.2.2.2.2), PtM8.1.2.2.1⟩)
    · skip
      refine PW.jz_eq q_35_25 rfl (fun h12 => ?_) (fun h12 => False.elim (by omega))
      refine PW.cI q_35_32 (by decide) fun c13 hc13 => ?_
      refine PW.rZ q_35_33 rfl (by omega) (by omega) (by decide) (by decide) ?_
      have e2 : s_st y f m (jM5, true, [], oM5) = (1, kP y jM5, (0, false, [], 0)) := by show s_bh y jM5 [] oM5 = _; unfold s_bh; rw [if_neg Pn2M5, if_neg (fun h => h.2 rfl), if_neg (fun h => PbM8 h.1)]
      exact hK c13 M8 IM8 FM8 (by omega) (by omega) (Or.inr ⟨by omega, ((s_bad.of e2 (by omega) (by omega) (by omega) (by omega)).to PkM5.1)⟩)
  · skip
    refine PW.jz_eq q_35_18 rfl (fun h14 => ?_) (fun h14 => False.elim (by omega))
    refine PW.cI q_35_32 (by decide) fun c15 hc15 => ?_
    refine PW.rZ q_35_33 rfl (by omega) (by omega) (by decide) (by decide) ?_
    exact hK c15 M5 IM5 FM5 (by omega) (by omega) (Or.inr ⟨by omega, (PkM5.cg rfl)⟩)
theorem c_X4_copyFrom_vk (V : pM → Prop) (hV : Stab V) (G : pG) (Kr : pK) (M : pM) (I : Iv V M)  (hK : ∀ (M1 : pM), Iv V M1 → Fr [14, 15, 16, 17] M M1 → (o_i (M1 267) 0 = o_i (M 267) 0) → Kr.1 none 311 M1) : PW G false 0 34 (p_mc 34) (p_msl 34) Kr 0 (lv_args 0 [.ref 33, .ref 267]) [] 311 M 0 0 := by
  have F : Fr [14, 15, 16, 17] M M := Fr.refl
  refine PW.aload_n q_34_0 rfl ?_
  refine PW.aload_n q_34_1 rfl ?_
  refine PW.gI q_34_2 (Or.inl t_ft_34_27) gF_14_0 kd_267 I.1 (by decide) fun x1 fx1 hx1 kx1 => ?_
  have ix1 := o_i_of fx1
  clear hx1 kx1
  refine PW.pI q_34_5 (Or.inl t_ft_34_27) gF_14_0 gP_14_0 kd_33 hV I (by decide) rfl (n_lo _) (n_hi _) fun M2 IM2 fM2 UM2 => ?_
  have FM2 := Fr.pu F UM2.1 kd_33 (rfl : List.contains [14, 15, 16, 17] 14 = true)
  refine PW.aload_n q_34_8 rfl ?_
  refine PW.aload_n q_34_9 rfl ?_
  refine PW.gI q_34_10 (Or.inl t_ft_34_31) gF_14_1 kd_267 IM2.1 (by decide) fun x3 fx3 hx3 kx3 => ?_
  have ix3 := o_i_of fx3
  refine PW.pI q_34_13 (Or.inl t_ft_34_31) gF_14_1 gP_14_1 kd_33 hV IM2 (by decide) rfl (by omega) (by omega) fun M4 IM4 fM4 UM4 => ?_
  have FM4 := Fr.pu FM2 UM4.1 kd_33 (rfl : List.contains [14, 15, 16, 17] 14 = true)
  refine PW.cI q_34_16 (by decide) fun c5 hc5 => ?_
  refine PW.istore_n q_34_17 (by decide) ?_
  have L34_18_6 : ∀ (n : Nat) (ML34_18_6 : pM) (v7 : Int32), Iv (V) ML34_18_6 → Fr [14, 15, 16, 17] M ML34_18_6 → 0 ≤ v7.toInt → v7.toInt ≤ 40 → o_i (ML34_18_6 267) 0 = o_i (M 267) 0 → (40 - v7.toInt).toNat = n → PW G false 0 34 (p_mc 34) (p_msl 34) Kr 18 [(0, .ref 33), (1, .ref 267), (2, .int v7)] [] 311 ML34_18_6 0 0 := by
    intro n
    induction n using Nat.strongRecOn with
    | ind n ih_L34_18_6 =>
    intro ML34_18_6 v7 IML34_18_6 FML34_18_6 hbL34_18_60 hbL34_18_61 hbL34_18_62 hmL34_18_6
    refine PW.iload_n q_34_18 rfl ?_
    refine PW.cB q_34_19 (by decide) fun c8 hc8 => ?_
    refine PW.jc_ge q_34_21 rfl (fun h9 => ?_) (fun h9 => ?_)
    · skip
      refine PW.vret q_34_66 rfl (by decide) (by decide) ?_
      exact hK ML34_18_6 IML34_18_6 FML34_18_6 hbL34_18_62
    · skip
      refine PW.aload_n q_34_24 rfl ?_
      refine PW.gR 34 q_34_25 (Or.inl t_ft_34_13) gF_14_2 kd_33 IML34_18_6.1 (by decide) rfl ?_
      refine PW.iload_n q_34_28 rfl ?_
      refine PW.aload_n q_34_29 rfl ?_
      refine PW.gR 268 q_34_30 (Or.inl t_ft_34_13) gF_14_2 kd_267 IML34_18_6.1 (by decide) rfl ?_
      refine PW.iload_n q_34_33 rfl ?_
      refine PW.aW q_34_34 rfl (by decide) (by decide) kd_268 IML34_18_6.1 (by decide) (by omega) (by omega) fun r10 hr10 fr10 => ?_
      refine PW.wWo q_34_35 rfl kd_34 hV IML34_18_6 (by decide) (by omega) (by omega) hr10 fun M11 IM11 UM11 => ?_
      have FM11 := Fr.pu FML34_18_6 UM11 kd_34 (rfl : List.contains [14, 15, 16, 17] 15 = true)
      refine PW.aload_n q_34_36 rfl ?_
      refine PW.gR 35 q_34_37 (Or.inl t_ft_34_17) gF_14_3 kd_33 IM11.1 (by decide) rfl ?_
      refine PW.iload_n q_34_40 rfl ?_
      refine PW.aload_n q_34_41 rfl ?_
      refine PW.gR 269 q_34_42 (Or.inl t_ft_34_17) gF_14_3 kd_267 IM11.1 (by decide) rfl ?_
      refine PW.iload_n q_34_45 rfl ?_
      refine PW.aH q_34_46 gA_16 kd_269 IM11.1 (by decide) (by omega) (by omega) fun x12 fx12 => ?_
      refine PW.wI q_34_47 gA_16 kd_35 hV IM11 (by decide) rfl gC_16_0_39 (by decide) (by omega) (by omega) (n_lo _) (n_hi _) fun M13 IM13 fM13 UM13 => ?_
      have FM13 := Fr.pu FM11 UM13.1 kd_35 (rfl : List.contains [14, 15, 16, 17] 16 = true)
      refine PW.aload_n q_34_48 rfl ?_
      refine PW.gR 36 q_34_49 (Or.inl t_ft_34_21) gF_14_4 kd_33 IM13.1 (by decide) rfl ?_
      refine PW.iload_n q_34_52 rfl ?_
      refine PW.aload_n q_34_53 rfl ?_
      refine PW.gR 270 q_34_54 (Or.inl t_ft_34_21) gF_14_4 kd_267 IM13.1 (by decide) rfl ?_
      refine PW.iload_n q_34_57 rfl ?_
      refine PW.aI q_34_58 gA_17 kd_270 IM13.1 (by decide) gB_17_0_39 (by decide) (by omega) (by omega) fun x14 fx14 hx14 kx14 => ?_
      refine PW.wI q_34_59 gA_17 kd_36 hV IM13 (by decide) rfl gC_17_0_39 (by decide) (by omega) (by omega) (by omega) (by omega) fun M15 IM15 fM15 UM15 => ?_
      have FM15 := Fr.pu FM13 UM15.1 kd_36 (rfl : List.contains [14, 15, 16, 17] 17 = true)
      refine PW.incN q_34_60 rfl (by decide) (by decide) (by omega) (by omega) fun x16 hx16 => ?_
      refine PW.goto q_34_63 rfl ?_
      refine PW.lvS (lk1 rfl (lk1 rfl (lk1 rfl lk0))) (ih_L34_18_6 _ ?_ M15 x16 IM15 FM15 (by omega) (by omega) (((congrArg (fun e => o_i e 0) (UM15.1 267 (by decide))).trans ((congrArg (fun e => o_i e 0) (UM13.1 267 (by decide))).trans (congrArg (fun e => o_i e 0) (UM11 267 (by decide))))).trans hbL34_18_62) rfl)
      omega
  exact PW.lvS (lk1 rfl (lk1 rfl (lk1 rfl lk0))) (L34_18_6 _ M4 c5 IM4 FM4 (by omega) (by omega) ((congrArg (fun e => o_i e 0) (UM4.1 267 (by decide))).trans (congrArg (fun e => o_i e 0) (UM2.1 267 (by decide)))) rfl)
theorem c_X11_sentence_vk (G : pG) (Kr : pK) (M : pM) (I : Iv gTT M) (y : k_X) (f : Nat → Int) (m : Int) (hp_0 : k_tp y M) (hp_1 : y.2.2 = 200) (hp_2 : s_nm M f m) (hK : ∀ (x : Int32) (M1 : pM), Iv gTT M1 → Fr [0, 1, 14, 15, 16, 17] M M1 → (∃ q : Int × Int, s_fin y f m (0, false, [], 0) q ∧ ((q.1 = -1 ∧ x.toInt = q.2 ∧ o_i (M1 0) 10 = 0) ∨ (1 ≤ q.1 ∧ q.1 ≤ 4 ∧ x.toInt = -1 - q.2 ∧ o_i (M1 0) 10 = q.1)) ∧ o_i (M1 1) 1 = 0) → Kr.1 (some (.int x)) 311 M1) : PW G false 31 104 (p_mc 104) (p_msl 104) Kr 0 (lv_args 0 [.ref 0]) [] 311 M 0 0 := by
  have F : Fr [0, 1, 14, 15, 16, 17] M M := Fr.refl
  refine PW.aload_n q_104_0 rfl ?_
  refine PW.gR 267 q_104_1 (Or.inl t_ft_104_48) gF_0_6 kd_0 I.1 (by decide) rfl ?_
  refine PW.aload_n q_104_4 rfl ?_
  refine PW.gR 1 q_104_5 (Or.inl t_ft_104_10) gF_0_0 kd_0 I.1 (by decide) rfl ?_
  refine PW.aload_n q_104_8 rfl ?_
  refine PW.gR 3 q_104_9 (Or.inl t_ft_104_19) gF_0_1 kd_0 I.1 (by decide) rfl ?_
  refine PW.gR 4 q_104_12 (Or.inr t_fN_104_94) gF_3_0 kd_3 I.1 (by decide) rfl ?_
  refine PW.cV (as := [_, _]) (rest := []) q_104_15 t_mv_104_117 kd_267 I.1 (by decide) rfl (by decide) rfl rfl (Nat.le_of_ble_eq_true rfl) (Nat.le_of_ble_eq_true rfl) (by decide) (by decide) ?_
  refine PW.up (by decide) (c_X4_read_vk (gTT) (Stab0) G _ M I y f m hp_0 hp_1 hp_2 fun x2 M1 IM1 GM1 hx2 kx2 PM1 => ?_)
  have FM1 := Fr.trans F GM1 (rfl)
  rcases PM1 with ⟨PaM1, oM1, PrM1, PoM1, PfM1⟩ | ⟨PaM1, qM1, PrM1, PbM1, PcM1, PfM1, PgM1⟩
  · skip
    refine PW.istore_n q_104_18 (by decide) ?_
    refine PW.aload_n q_104_19 rfl ?_
    refine PW.gR 1 q_104_20 (Or.inl t_ft_104_10) gF_0_0 kd_0 IM1.1 (by decide) rfl ?_
    refine PW.cI q_104_23 (by decide) fun c3 hc3 => ?_
    refine PW.pI q_104_24 (Or.inr t_fN_104_73) gF_1_1 gP_1_1 kd_1 Stab0 IM1 (by decide) rfl (by omega) (by omega) fun M4 IM4 fM4 UM4 => ?_
    have FM4 := Fr.pu FM1 UM4.1 kd_1 (rfl : List.contains [0, 1, 14, 15, 16, 17] 1 = true)
    refine PW.aload_n q_104_27 rfl ?_
    refine PW.aload_n q_104_28 rfl ?_
    refine PW.gR 1 q_104_29 (Or.inl t_ft_104_10) gF_0_0 kd_0 IM4.1 (by decide) rfl ?_
    refine PW.gI q_104_32 (Or.inr t_fN_104_85) gF_1_10 kd_1 IM4.1 (by decide) fun x5 fx5 hx5 kx5 => ?_
    have ix5 := o_i_of fx5
    clear hx5 kx5
    refine PW.pI q_104_35 (Or.inl t_ft_104_88) gF_0_10 gP_0_10 kd_0 Stab0 IM4 (by decide) rfl (n_lo _) (n_hi _) fun M6 IM6 fM6 UM6 => ?_
    have FM6 := Fr.pu FM4 UM6.1 kd_0 (rfl : List.contains [0, 1, 14, 15, 16, 17] 0 = true)
    refine PW.iload_n q_104_38 rfl ?_
    refine PW.jz_ne q_104_39 rfl (fun h7 => ?_) (fun h7 => False.elim (by omega))
    refine PW.aload_n q_104_52 rfl ?_
    refine PW.gR 3 q_104_53 (Or.inl t_ft_104_19) gF_0_1 kd_0 IM6.1 (by decide) rfl ?_
    refine PW.gR 33 q_104_56 (Or.inr t_fN_104_107) gF_3_2 kd_3 IM6.1 (by decide) rfl ?_
    refine PW.aload_n q_104_59 rfl ?_
    refine PW.gR 267 q_104_60 (Or.inl t_ft_104_48) gF_0_6 kd_0 IM6.1 (by decide) rfl ?_
    refine PW.cV (as := [_]) (rest := []) q_104_63 t_mv_104_120 kd_33 IM6.1 (by decide) rfl (by decide) rfl rfl (Nat.le_of_ble_eq_true rfl) (Nat.le_of_ble_eq_true rfl) (by decide) (by decide) ?_
    refine PW.up (by decide) (c_X4_copyFrom_vk (gTT) (Stab0) G _ M6 IM6  fun M8 IM8 GM8 PM8 => ?_)
    have FM8 := Fr.trans FM6 GM8 (rfl)
    have PoM8 := PM8
    refine PW.aload_n q_104_66 rfl ?_
    refine PW.gR 267 q_104_67 (Or.inl t_ft_104_48) gF_0_6 kd_0 IM8.1 (by decide) rfl ?_
    refine PW.gI q_104_70 (Or.inr t_fN_104_123) gF_14_0 kd_267 IM8.1 (by decide) fun x9 fx9 hx9 kx9 => ?_
    have ix9 := o_i_of fx9
    clear hx9 kx9
    refine PW.rI q_104_73 rfl (by decide) (by decide) ?_
    have g0 : o_i (M8 267) 0 = o_i (M1 267) 0 := (PoM8.trans ((congrArg (fun e => o_i e 0) (UM6.1 267 (by decide))).trans (congrArg (fun e => o_i e 0) (UM4.1 267 (by decide)))))
    exact hK x9 M8 IM8 FM8 ⟨(-1, oM1), PrM1, Or.inl ⟨rfl, (by show _ = oM1; omega), (by have w := (o_i_of ((congrArg (fun e => o_f e 10) (Fr.at GM8 kd_0 (by decide))).trans fM6)); have w2 := (o_i_of ((congrArg (fun e => o_f e 10) (Fr.at GM8 kd_1 (by decide))).trans ((UM6.f (Or.inl (g_ne kd_1 kd_0 (by decide)))).trans fx5))); have g10 := ((congrArg (fun e => o_i e 10) (Fr.at GM8 kd_1 (by decide))).trans ((congrArg (fun e => o_i e 10) (UM6.1 1 (by decide))).trans (UM4.i (c := 1) (k := 10) (Or.inr (by decide))))); omega)⟩, (by have w := (o_i_of ((congrArg (fun e => o_f e 1) (Fr.at GM8 kd_1 (by decide))).trans ((UM6.f (Or.inl (g_ne kd_1 kd_0 (by decide)))).trans fM4))); omega)⟩
  · skip
    refine PW.istore_n q_104_18 (by decide) ?_
    refine PW.aload_n q_104_19 rfl ?_
    refine PW.gR 1 q_104_20 (Or.inl t_ft_104_10) gF_0_0 kd_0 IM1.1 (by decide) rfl ?_
    refine PW.cI q_104_23 (by decide) fun c10 hc10 => ?_
    refine PW.pI q_104_24 (Or.inr t_fN_104_73) gF_1_1 gP_1_1 kd_1 Stab0 IM1 (by decide) rfl (by omega) (by omega) fun M11 IM11 fM11 UM11 => ?_
    have FM11 := Fr.pu FM1 UM11.1 kd_1 (rfl : List.contains [0, 1, 14, 15, 16, 17] 1 = true)
    refine PW.aload_n q_104_27 rfl ?_
    refine PW.aload_n q_104_28 rfl ?_
    refine PW.gR 1 q_104_29 (Or.inl t_ft_104_10) gF_0_0 kd_0 IM11.1 (by decide) rfl ?_
    refine PW.gI q_104_32 (Or.inr t_fN_104_85) gF_1_10 kd_1 IM11.1 (by decide) fun x12 fx12 hx12 kx12 => ?_
    have ix12 := o_i_of fx12
    clear hx12 kx12
    refine PW.pI q_104_35 (Or.inl t_ft_104_88) gF_0_10 gP_0_10 kd_0 Stab0 IM11 (by decide) rfl (n_lo _) (n_hi _) fun M13 IM13 fM13 UM13 => ?_
    have FM13 := Fr.pu FM11 UM13.1 kd_0 (rfl : List.contains [0, 1, 14, 15, 16, 17] 0 = true)
    refine PW.iload_n q_104_38 rfl ?_
    refine PW.jz_ne q_104_39 rfl (fun h14 => False.elim (by omega)) (fun h14 => ?_)
    refine PW.cI q_104_42 (by decide) fun c15 hc15 => ?_
    refine PW.aload_n q_104_43 rfl ?_
    refine PW.gR 1 q_104_44 (Or.inl t_ft_104_10) gF_0_0 kd_0 IM13.1 (by decide) rfl ?_
    refine PW.gI q_104_47 (Or.inr t_fN_104_91) gF_1_11 kd_1 IM13.1 (by decide) fun x16 fx16 hx16 kx16 => ?_
    have ix16 := o_i_of fx16
    clear hx16 kx16
    refine PW.subN q_104_50 (by have := n_lo x16; have := n_hi x16; omega) (by have := n_lo x16; have := n_hi x16; omega) fun x17 hx17 => ?_
    refine PW.rI q_104_51 rfl (by decide) (by decide) ?_
    have g11 : o_i (M13 1) 11 = o_i (M1 1) 11 := ((congrArg (fun e => o_i e 11) (UM13.1 1 (by decide))).trans (UM11.i (c := 1) (k := 11) (Or.inr (by decide))))
    exact hK x17 M13 IM13 FM13 ⟨qM1, PrM1, Or.inr ⟨PbM1, PcM1, (by omega), (by have w := (o_i_of fM13); have w2 := (o_i_of ((UM13.f (Or.inl (g_ne kd_1 kd_0 (by decide)))).trans fx12)); have g10 := ((congrArg (fun e => o_i e 10) (UM13.1 1 (by decide))).trans (UM11.i (c := 1) (k := 10) (Or.inr (by decide)))); omega)⟩, (by have w := (o_i_of ((UM13.f (Or.inl (g_ne kd_1 kd_0 (by decide)))).trans fM11)); omega)⟩
