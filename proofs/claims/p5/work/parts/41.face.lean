theorem q_275_0 : p_tb 275 0 = some (.iload_n 0, 1) := by decide +kernel
theorem q_275_1 : p_tb 275 1 = some (.iload_n 0, 1) := by decide +kernel
theorem q_275_2 : p_tb 275 2 = some (.iconst 1, 1) := by decide +kernel
theorem q_275_3 : p_tb 275 3 = some (.iushr, 1) := by decide +kernel
theorem q_275_4 : p_tb 275 4 = some (.ldc_w 265, 3) := by decide +kernel
theorem q_275_7 : p_tb 275 7 = some (.iand, 1) := by decide +kernel
theorem q_275_8 : p_tb 275 8 = some (.isub, 1) := by decide +kernel
theorem q_275_9 : p_tb 275 9 = some (.istore_n 0, 1) := by decide +kernel
theorem q_275_10 : p_tb 275 10 = some (.iload_n 0, 1) := by decide +kernel
theorem q_275_11 : p_tb 275 11 = some (.ldc_w 266, 3) := by decide +kernel
theorem q_275_14 : p_tb 275 14 = some (.iand, 1) := by decide +kernel
theorem q_275_15 : p_tb 275 15 = some (.iload_n 0, 1) := by decide +kernel
theorem q_275_16 : p_tb 275 16 = some (.iconst 2, 1) := by decide +kernel
theorem q_275_17 : p_tb 275 17 = some (.iushr, 1) := by decide +kernel
theorem q_275_18 : p_tb 275 18 = some (.ldc_w 266, 3) := by decide +kernel
theorem q_275_21 : p_tb 275 21 = some (.iand, 1) := by decide +kernel
theorem q_275_22 : p_tb 275 22 = some (.iadd, 1) := by decide +kernel
theorem q_275_23 : p_tb 275 23 = some (.istore_n 0, 1) := by decide +kernel
theorem q_275_24 : p_tb 275 24 = some (.iload_n 0, 1) := by decide +kernel
theorem q_275_25 : p_tb 275 25 = some (.iload_n 0, 1) := by decide +kernel
theorem q_275_26 : p_tb 275 26 = some (.iconst 4, 1) := by decide +kernel
theorem q_275_27 : p_tb 275 27 = some (.iushr, 1) := by decide +kernel
theorem q_275_28 : p_tb 275 28 = some (.iadd, 1) := by decide +kernel
theorem q_275_29 : p_tb 275 29 = some (.ldc_w 267, 3) := by decide +kernel
theorem q_275_32 : p_tb 275 32 = some (.iand, 1) := by decide +kernel
theorem q_275_33 : p_tb 275 33 = some (.istore_n 0, 1) := by decide +kernel
theorem q_275_34 : p_tb 275 34 = some (.iload_n 0, 1) := by decide +kernel
theorem q_275_35 : p_tb 275 35 = some (.iload_n 0, 1) := by decide +kernel
theorem q_275_36 : p_tb 275 36 = some (.bipush 8, 2) := by decide +kernel
theorem q_275_38 : p_tb 275 38 = some (.iushr, 1) := by decide +kernel
theorem q_275_39 : p_tb 275 39 = some (.iadd, 1) := by decide +kernel
theorem q_275_40 : p_tb 275 40 = some (.istore_n 0, 1) := by decide +kernel
theorem q_275_41 : p_tb 275 41 = some (.iload_n 0, 1) := by decide +kernel
theorem q_275_42 : p_tb 275 42 = some (.iload_n 0, 1) := by decide +kernel
theorem q_275_43 : p_tb 275 43 = some (.bipush 16, 2) := by decide +kernel
theorem q_275_45 : p_tb 275 45 = some (.iushr, 1) := by decide +kernel
theorem q_275_46 : p_tb 275 46 = some (.iadd, 1) := by decide +kernel
theorem q_275_47 : p_tb 275 47 = some (.istore_n 0, 1) := by decide +kernel
theorem q_275_48 : p_tb 275 48 = some (.iload_n 0, 1) := by decide +kernel
theorem q_275_49 : p_tb 275 49 = some (.bipush 63, 2) := by decide +kernel
theorem q_275_51 : p_tb 275 51 = some (.iand, 1) := by decide +kernel
theorem q_275_52 : p_tb 275 52 = some (.ireturn, 1) := by decide +kernel
theorem t_it_275_265 : p_f2 p_it (p_mK 275) 265 = some (1431655765) := by decide +kernel
theorem t_it_275_266 : p_f2 p_it (p_mK 275) 266 = some (858993459) := by decide +kernel
theorem t_it_275_267 : p_f2 p_it (p_mK 275) 267 = some (252645135) := by decide +kernel
theorem q_74_0 : p_tb 74 0 = some (.bipush 24, 2) := by decide +kernel
theorem q_74_2 : p_tb 74 2 = some (.istore_n 2, 1) := by decide +kernel
theorem q_74_3 : p_tb 74 3 = some (.iload_n 2, 1) := by decide +kernel
theorem q_74_4 : p_tb 74 4 = some (.ifCond .lt 42, 3) := by decide +kernel
theorem q_74_7 : p_tb 74 7 = some (.aload_n 0, 1) := by decide +kernel
theorem q_74_8 : p_tb 74 8 = some (.getfield 26, 3) := by decide +kernel
theorem q_74_11 : p_tb 74 11 = some (.sipush 940, 3) := by decide +kernel
theorem q_74_14 : p_tb 74 14 = some (.if_icmp .ge 26, 3) := by decide +kernel
theorem q_74_17 : p_tb 74 17 = some (.aload_n 0, 1) := by decide +kernel
theorem q_74_18 : p_tb 74 18 = some (.getfield 9, 3) := by decide +kernel
theorem q_74_21 : p_tb 74 21 = some (.aload_n 0, 1) := by decide +kernel
theorem q_74_22 : p_tb 74 22 = some (.getfield 26, 3) := by decide +kernel
theorem q_74_25 : p_tb 74 25 = some (.iload_n 1, 1) := by decide +kernel
theorem q_74_26 : p_tb 74 26 = some (.iload_n 2, 1) := by decide +kernel
theorem q_74_27 : p_tb 74 27 = some (.ishr, 1) := by decide +kernel
theorem q_74_28 : p_tb 74 28 = some (.i2b, 1) := by decide +kernel
theorem q_74_29 : p_tb 74 29 = some (.bastore, 1) := by decide +kernel
theorem q_74_30 : p_tb 74 30 = some (.aload_n 0, 1) := by decide +kernel
theorem q_74_31 : p_tb 74 31 = some (.dup, 1) := by decide +kernel
theorem q_74_32 : p_tb 74 32 = some (.getfield 26, 3) := by decide +kernel
theorem q_74_35 : p_tb 74 35 = some (.iconst 1, 1) := by decide +kernel
theorem q_74_36 : p_tb 74 36 = some (.iadd, 1) := by decide +kernel
theorem q_74_37 : p_tb 74 37 = some (.putfield 26, 3) := by decide +kernel
theorem q_74_40 : p_tb 74 40 = some (.iinc 2 (-8), 3) := by decide +kernel
theorem q_74_43 : p_tb 74 43 = some (.goto (-40), 3) := by decide +kernel
theorem q_74_46 : p_tb 74 46 = some (.return_, 1) := by decide +kernel
theorem t_ft_74_26 : p_f2 p_ft (p_mK 74) 26 = some (7, 1) := by decide +kernel
theorem t_ft_74_9 : p_f2 p_ft (p_mK 74) 9 = some (7, 0) := by decide +kernel
theorem gC_2_0_939 : gC 2 0 939 (-128) 127 := gC.of (by decide +kernel)
theorem q_100_0 : p_tb 100 0 = some (.aload_n 0, 1) := by decide +kernel
theorem q_100_1 : p_tb 100 1 = some (.getfield 10, 3) := by decide +kernel
theorem q_100_4 : p_tb 100 4 = some (.getfield 73, 3) := by decide +kernel
theorem q_100_7 : p_tb 100 7 = some (.bipush 20, 2) := by decide +kernel
theorem q_100_9 : p_tb 100 9 = some (.iadd, 1) := by decide +kernel
theorem q_100_10 : p_tb 100 10 = some (.sipush 940, 3) := by decide +kernel
theorem q_100_13 : p_tb 100 13 = some (.if_icmp .le 5, 3) := by decide +kernel
theorem q_100_16 : p_tb 100 16 = some (.iconst (-1), 1) := by decide +kernel
theorem q_100_17 : p_tb 100 17 = some (.ireturn, 1) := by decide +kernel
theorem q_100_18 : p_tb 100 18 = some (.aload_n 0, 1) := by decide +kernel
theorem q_100_19 : p_tb 100 19 = some (.getfield 10, 3) := by decide +kernel
theorem q_100_22 : p_tb 100 22 = some (.iload_n 1, 1) := by decide +kernel
theorem q_100_23 : p_tb 100 23 = some (.invokevirtual 77, 3) := by decide +kernel
theorem q_100_26 : p_tb 100 26 = some (.aload_n 0, 1) := by decide +kernel
theorem q_100_27 : p_tb 100 27 = some (.getfield 10, 3) := by decide +kernel
theorem q_100_30 : p_tb 100 30 = some (.iload_n 2, 1) := by decide +kernel
theorem q_100_31 : p_tb 100 31 = some (.invokevirtual 77, 3) := by decide +kernel
theorem q_100_34 : p_tb 100 34 = some (.aload_n 0, 1) := by decide +kernel
theorem q_100_35 : p_tb 100 35 = some (.getfield 10, 3) := by decide +kernel
theorem q_100_38 : p_tb 100 38 = some (.iload_n 3, 1) := by decide +kernel
theorem q_100_39 : p_tb 100 39 = some (.invokevirtual 77, 3) := by decide +kernel
theorem q_100_42 : p_tb 100 42 = some (.aload_n 0, 1) := by decide +kernel
theorem q_100_43 : p_tb 100 43 = some (.getfield 10, 3) := by decide +kernel
theorem q_100_46 : p_tb 100 46 = some (.iload 4, 2) := by decide +kernel
theorem q_100_48 : p_tb 100 48 = some (.invokevirtual 77, 3) := by decide +kernel
theorem q_100_51 : p_tb 100 51 = some (.aload_n 0, 1) := by decide +kernel
theorem q_100_52 : p_tb 100 52 = some (.getfield 10, 3) := by decide +kernel
theorem q_100_55 : p_tb 100 55 = some (.iload 5, 2) := by decide +kernel
theorem q_100_57 : p_tb 100 57 = some (.invokevirtual 77, 3) := by decide +kernel
theorem q_100_60 : p_tb 100 60 = some (.aload_n 0, 1) := by decide +kernel
theorem q_100_61 : p_tb 100 61 = some (.getfield 10, 3) := by decide +kernel
theorem q_100_64 : p_tb 100 64 = some (.getfield 73, 3) := by decide +kernel
theorem q_100_67 : p_tb 100 67 = some (.ireturn, 1) := by decide +kernel
theorem t_fN_100_73 : p_f2 p_fN (p_mK 100) 73 = some (7, 1) := by decide +kernel
theorem t_ft_100_10 : p_f2 p_ft (p_mK 100) 10 = some (10, 0) := by decide +kernel
theorem t_mv_100_77 : p_f2 p_mv (p_mK 100) 77 = some 74 := by decide +kernel
theorem q_101_0 : p_tb 101 0 = some (.iload_n 1, 1) := by decide +kernel
theorem q_101_1 : p_tb 101 1 = some (.ifCond .lt 14, 3) := by decide +kernel
theorem q_101_4 : p_tb 101 4 = some (.iload_n 1, 1) := by decide +kernel
theorem q_101_5 : p_tb 101 5 = some (.aload_n 0, 1) := by decide +kernel
theorem q_101_6 : p_tb 101 6 = some (.getfield 10, 3) := by decide +kernel
theorem q_101_9 : p_tb 101 9 = some (.getfield 73, 3) := by decide +kernel
theorem q_101_12 : p_tb 101 12 = some (.if_icmp .le 5, 3) := by decide +kernel
theorem q_101_15 : p_tb 101 15 = some (.iconst 0, 1) := by decide +kernel
theorem q_101_16 : p_tb 101 16 = some (.ireturn, 1) := by decide +kernel
theorem q_101_17 : p_tb 101 17 = some (.aload_n 0, 1) := by decide +kernel
theorem q_101_18 : p_tb 101 18 = some (.getfield 10, 3) := by decide +kernel
theorem q_101_21 : p_tb 101 21 = some (.iload_n 1, 1) := by decide +kernel
theorem q_101_22 : p_tb 101 22 = some (.putfield 73, 3) := by decide +kernel
theorem q_101_25 : p_tb 101 25 = some (.iconst 1, 1) := by decide +kernel
theorem q_101_26 : p_tb 101 26 = some (.ireturn, 1) := by decide +kernel
theorem t_fN_101_73 : p_f2 p_fN (p_mK 101) 73 = some (7, 1) := by decide +kernel
theorem t_ft_101_10 : p_f2 p_ft (p_mK 101) 10 = some (10, 0) := by decide +kernel
theorem q_102_0 : p_tb 102 0 = some (.aload_n 0, 1) := by decide +kernel
theorem q_102_1 : p_tb 102 1 = some (.getfield 41, 3) := by decide +kernel
theorem q_102_4 : p_tb 102 4 = some (.aload_n 0, 1) := by decide +kernel
theorem q_102_5 : p_tb 102 5 = some (.getfield 10, 3) := by decide +kernel
theorem q_102_8 : p_tb 102 8 = some (.invokevirtual 81, 3) := by decide +kernel
theorem q_102_11 : p_tb 102 11 = some (.istore_n 1, 1) := by decide +kernel
theorem q_102_12 : p_tb 102 12 = some (.aload_n 0, 1) := by decide +kernel
theorem q_102_13 : p_tb 102 13 = some (.getfield 10, 3) := by decide +kernel
theorem q_102_16 : p_tb 102 16 = some (.iconst 0, 1) := by decide +kernel
theorem q_102_17 : p_tb 102 17 = some (.putfield 73, 3) := by decide +kernel
theorem q_102_20 : p_tb 102 20 = some (.aload_n 0, 1) := by decide +kernel
theorem q_102_21 : p_tb 102 21 = some (.aload_n 0, 1) := by decide +kernel
theorem q_102_22 : p_tb 102 22 = some (.getfield 10, 3) := by decide +kernel
theorem q_102_25 : p_tb 102 25 = some (.getfield 85, 3) := by decide +kernel
theorem q_102_28 : p_tb 102 28 = some (.putfield 88, 3) := by decide +kernel
theorem q_102_31 : p_tb 102 31 = some (.iload_n 1, 1) := by decide +kernel
theorem q_102_32 : p_tb 102 32 = some (.ifCond .ne 13, 3) := by decide +kernel
theorem q_102_35 : p_tb 102 35 = some (.iconst (-1), 1) := by decide +kernel
theorem q_102_36 : p_tb 102 36 = some (.aload_n 0, 1) := by decide +kernel
theorem q_102_37 : p_tb 102 37 = some (.getfield 10, 3) := by decide +kernel
theorem q_102_40 : p_tb 102 40 = some (.getfield 91, 3) := by decide +kernel
theorem q_102_43 : p_tb 102 43 = some (.isub, 1) := by decide +kernel
theorem q_102_44 : p_tb 102 44 = some (.ireturn, 1) := by decide +kernel
theorem q_102_45 : p_tb 102 45 = some (.aload_n 0, 1) := by decide +kernel
theorem q_102_46 : p_tb 102 46 = some (.getfield 19, 3) := by decide +kernel
theorem q_102_49 : p_tb 102 49 = some (.getfield 94, 3) := by decide +kernel
theorem q_102_52 : p_tb 102 52 = some (.aload_n 0, 1) := by decide +kernel
theorem q_102_53 : p_tb 102 53 = some (.getfield 41, 3) := by decide +kernel
theorem q_102_56 : p_tb 102 56 = some (.invokevirtual 97, 3) := by decide +kernel
theorem q_102_59 : p_tb 102 59 = some (.aload_n 0, 1) := by decide +kernel
theorem q_102_60 : p_tb 102 60 = some (.getfield 19, 3) := by decide +kernel
theorem q_102_63 : p_tb 102 63 = some (.getfield 101, 3) := by decide +kernel
theorem q_102_66 : p_tb 102 66 = some (.aload_n 0, 1) := by decide +kernel
theorem q_102_67 : p_tb 102 67 = some (.getfield 41, 3) := by decide +kernel
theorem q_102_70 : p_tb 102 70 = some (.invokevirtual 104, 3) := by decide +kernel
theorem q_102_73 : p_tb 102 73 = some (.aload_n 0, 1) := by decide +kernel
theorem q_102_74 : p_tb 102 74 = some (.getfield 19, 3) := by decide +kernel
theorem q_102_77 : p_tb 102 77 = some (.getfield 107, 3) := by decide +kernel
theorem q_102_80 : p_tb 102 80 = some (.invokevirtual 110, 3) := by decide +kernel
theorem q_102_83 : p_tb 102 83 = some (.aload_n 0, 1) := by decide +kernel
theorem q_102_84 : p_tb 102 84 = some (.getfield 34, 3) := by decide +kernel
theorem q_102_87 : p_tb 102 87 = some (.invokevirtual 113, 3) := by decide +kernel
theorem q_102_90 : p_tb 102 90 = some (.aload_n 0, 1) := by decide +kernel
theorem q_102_91 : p_tb 102 91 = some (.getfield 41, 3) := by decide +kernel
theorem q_102_94 : p_tb 102 94 = some (.getfield 114, 3) := by decide +kernel
theorem q_102_97 : p_tb 102 97 = some (.ireturn, 1) := by decide +kernel
theorem t_fN_102_101 : p_f2 p_fN (p_mK 102) 101 = some (9, 1) := by decide +kernel
theorem t_fN_102_107 : p_f2 p_fN (p_mK 102) 107 = some (9, 2) := by decide +kernel
theorem t_fN_102_114 : p_f2 p_fN (p_mK 102) 114 = some (3, 0) := by decide +kernel
theorem t_fN_102_73 : p_f2 p_fN (p_mK 102) 73 = some (7, 1) := by decide +kernel
theorem t_fN_102_85 : p_f2 p_fN (p_mK 102) 85 = some (7, 10) := by decide +kernel
theorem t_fN_102_91 : p_f2 p_fN (p_mK 102) 91 = some (7, 11) := by decide +kernel
theorem t_fN_102_94 : p_f2 p_fN (p_mK 102) 94 = some (9, 0) := by decide +kernel
theorem t_ft_102_10 : p_f2 p_ft (p_mK 102) 10 = some (10, 0) := by decide +kernel
theorem t_ft_102_19 : p_f2 p_ft (p_mK 102) 19 = some (10, 1) := by decide +kernel
theorem t_ft_102_34 : p_f2 p_ft (p_mK 102) 34 = some (10, 4) := by decide +kernel
theorem t_ft_102_41 : p_f2 p_ft (p_mK 102) 41 = some (10, 5) := by decide +kernel
theorem t_ft_102_88 : p_f2 p_ft (p_mK 102) 88 = some (10, 10) := by decide +kernel
theorem t_mv_102_104 : p_f2 p_mv (p_mK 102) 104 = some 47 := by decide +kernel
theorem t_mv_102_110 : p_f2 p_mv (p_mK 102) 110 = some 33 := by decide +kernel
theorem t_mv_102_113 : p_f2 p_mv (p_mK 102) 113 = some 12 := by decide +kernel
theorem t_mv_102_81 : p_f2 p_mv (p_mK 102) 81 = some 22 := by decide +kernel
theorem t_mv_102_97 : p_f2 p_mv (p_mK 102) 97 = some 21 := by decide +kernel
theorem q_103_0 : p_tb 103 0 = some (.aload_n 0, 1) := by decide +kernel
theorem q_103_1 : p_tb 103 1 = some (.getfield 88, 3) := by decide +kernel
theorem q_103_4 : p_tb 103 4 = some (.ireturn, 1) := by decide +kernel
theorem t_ft_103_88 : p_f2 p_ft (p_mK 103) 88 = some (10, 10) := by decide +kernel
theorem q_105_0 : p_tb 105 0 = some (.aload_n 0, 1) := by decide +kernel
theorem q_105_1 : p_tb 105 1 = some (.getfield 19, 3) := by decide +kernel
theorem q_105_4 : p_tb 105 4 = some (.getfield 107, 3) := by decide +kernel
theorem q_105_7 : p_tb 105 7 = some (.getfield 123, 3) := by decide +kernel
theorem q_105_10 : p_tb 105 10 = some (.ifCond .ne 5, 3) := by decide +kernel
theorem q_105_13 : p_tb 105 13 = some (.iconst (-1), 1) := by decide +kernel
theorem q_105_14 : p_tb 105 14 = some (.ireturn, 1) := by decide +kernel
theorem q_105_15 : p_tb 105 15 = some (.aload_n 0, 1) := by decide +kernel
theorem q_105_16 : p_tb 105 16 = some (.getfield 19, 3) := by decide +kernel
theorem q_105_19 : p_tb 105 19 = some (.getfield 107, 3) := by decide +kernel
theorem q_105_22 : p_tb 105 22 = some (.aload_n 0, 1) := by decide +kernel
theorem q_105_23 : p_tb 105 23 = some (.getfield 19, 3) := by decide +kernel
theorem q_105_26 : p_tb 105 26 = some (.getfield 94, 3) := by decide +kernel
theorem q_105_29 : p_tb 105 29 = some (.aload_n 0, 1) := by decide +kernel
theorem q_105_30 : p_tb 105 30 = some (.getfield 19, 3) := by decide +kernel
theorem q_105_33 : p_tb 105 33 = some (.getfield 101, 3) := by decide +kernel
theorem q_105_36 : p_tb 105 36 = some (.invokevirtual 126, 3) := by decide +kernel
theorem q_105_39 : p_tb 105 39 = some (.istore_n 2, 1) := by decide +kernel
theorem q_105_40 : p_tb 105 40 = some (.iload_n 1, 1) := by decide +kernel
theorem q_105_41 : p_tb 105 41 = some (.iconst (-1), 1) := by decide +kernel
theorem q_105_42 : p_tb 105 42 = some (.if_icmp .ne 8, 3) := by decide +kernel
theorem q_105_45 : p_tb 105 45 = some (.iload_n 2, 1) := by decide +kernel
theorem q_105_46 : p_tb 105 46 = some (.invokestatic 130, 3) := by decide +kernel
theorem q_105_49 : p_tb 105 49 = some (.ireturn, 1) := by decide +kernel
theorem q_105_50 : p_tb 105 50 = some (.iconst 0, 1) := by decide +kernel
theorem q_105_51 : p_tb 105 51 = some (.istore_n 3, 1) := by decide +kernel
theorem q_105_52 : p_tb 105 52 = some (.iconst 0, 1) := by decide +kernel
theorem q_105_53 : p_tb 105 53 = some (.istore 4, 2) := by decide +kernel
theorem q_105_55 : p_tb 105 55 = some (.iload 4, 2) := by decide +kernel
theorem q_105_57 : p_tb 105 57 = some (.aload_n 0, 1) := by decide +kernel
theorem q_105_58 : p_tb 105 58 = some (.getfield 19, 3) := by decide +kernel
theorem q_105_61 : p_tb 105 61 = some (.getfield 94, 3) := by decide +kernel
theorem q_105_64 : p_tb 105 64 = some (.getfield 136, 3) := by decide +kernel
theorem q_105_67 : p_tb 105 67 = some (.if_icmp .ge 29, 3) := by decide +kernel
theorem q_105_70 : p_tb 105 70 = some (.iload_n 2, 1) := by decide +kernel
theorem q_105_71 : p_tb 105 71 = some (.iload 4, 2) := by decide +kernel
theorem q_105_73 : p_tb 105 73 = some (.ishr, 1) := by decide +kernel
theorem q_105_74 : p_tb 105 74 = some (.iconst 1, 1) := by decide +kernel
theorem q_105_75 : p_tb 105 75 = some (.iand, 1) := by decide +kernel
theorem q_105_76 : p_tb 105 76 = some (.ifCond .eq 14, 3) := by decide +kernel
theorem q_105_79 : p_tb 105 79 = some (.iload_n 3, 1) := by decide +kernel
theorem q_105_80 : p_tb 105 80 = some (.iload_n 1, 1) := by decide +kernel
theorem q_105_81 : p_tb 105 81 = some (.if_icmp .ne 6, 3) := by decide +kernel
theorem q_105_84 : p_tb 105 84 = some (.iload 4, 2) := by decide +kernel
theorem q_105_86 : p_tb 105 86 = some (.ireturn, 1) := by decide +kernel
theorem q_105_87 : p_tb 105 87 = some (.iinc 3 1, 3) := by decide +kernel
theorem q_105_90 : p_tb 105 90 = some (.iinc 4 1, 3) := by decide +kernel
theorem q_105_93 : p_tb 105 93 = some (.goto (-38), 3) := by decide +kernel
theorem q_105_96 : p_tb 105 96 = some (.iconst (-1), 1) := by decide +kernel
theorem q_105_97 : p_tb 105 97 = some (.ireturn, 1) := by decide +kernel
theorem t_fN_105_101 : p_f2 p_fN (p_mK 105) 101 = some (9, 1) := by decide +kernel
theorem t_fN_105_107 : p_f2 p_fN (p_mK 105) 107 = some (9, 2) := by decide +kernel
theorem t_fN_105_123 : p_f2 p_fN (p_mK 105) 123 = some (4, 0) := by decide +kernel
theorem t_fN_105_136 : p_f2 p_fN (p_mK 105) 136 = some (3, 6) := by decide +kernel
theorem t_fN_105_94 : p_f2 p_fN (p_mK 105) 94 = some (9, 0) := by decide +kernel
theorem t_ft_105_19 : p_f2 p_ft (p_mK 105) 19 = some (10, 1) := by decide +kernel
theorem t_ms_105_130 : p_f2 p_ms (p_mK 105) 130 = some 275 := by decide +kernel
theorem t_mv_105_126 : p_f2 p_mv (p_mK 105) 126 = some 42 := by decide +kernel
theorem q_146_0 : p_tb 146 0 = some (.aload_n 0, 1) := by decide +kernel
theorem q_146_1 : p_tb 146 1 = some (.getfield 62, 3) := by decide +kernel
theorem q_146_4 : p_tb 146 4 = some (.aload_n 0, 1) := by decide +kernel
theorem q_146_5 : p_tb 146 5 = some (.getfield 19, 3) := by decide +kernel
theorem q_146_8 : p_tb 146 8 = some (.getfield 101, 3) := by decide +kernel
theorem q_146_11 : p_tb 146 11 = some (.invokevirtual 151, 3) := by decide +kernel
theorem q_146_14 : p_tb 146 14 = some (.aload_n 0, 1) := by decide +kernel
theorem q_146_15 : p_tb 146 15 = some (.getfield 62, 3) := by decide +kernel
theorem q_146_18 : p_tb 146 18 = some (.areturn, 1) := by decide +kernel
theorem t_fN_146_101 : p_f2 p_fN (p_mK 146) 101 = some (9, 1) := by decide +kernel
theorem t_ft_146_19 : p_f2 p_ft (p_mK 146) 19 = some (10, 1) := by decide +kernel
theorem t_ft_146_62 : p_f2 p_ft (p_mK 146) 62 = some (10, 8) := by decide +kernel
theorem t_mv_146_151 : p_f2 p_mv (p_mK 146) 151 = some 48 := by decide +kernel
theorem q_106_0 : p_tb 106 0 = some (.iload_n 1, 1) := by decide +kernel
theorem q_106_1 : p_tb 106 1 = some (.ifCond .eq 12, 3) := by decide +kernel
theorem q_106_4 : p_tb 106 4 = some (.iload_n 1, 1) := by decide +kernel
theorem q_106_5 : p_tb 106 5 = some (.iconst 1, 1) := by decide +kernel
theorem q_106_6 : p_tb 106 6 = some (.if_icmp .eq 7, 3) := by decide +kernel
theorem q_106_9 : p_tb 106 9 = some (.sipush (-1000), 3) := by decide +kernel
theorem q_106_12 : p_tb 106 12 = some (.ireturn, 1) := by decide +kernel
theorem q_106_13 : p_tb 106 13 = some (.aload_n 0, 1) := by decide +kernel
theorem q_106_14 : p_tb 106 14 = some (.getfield 55, 3) := by decide +kernel
theorem q_106_17 : p_tb 106 17 = some (.aload_n 0, 1) := by decide +kernel
theorem q_106_18 : p_tb 106 18 = some (.getfield 10, 3) := by decide +kernel
theorem q_106_21 : p_tb 106 21 = some (.aload_n 0, 1) := by decide +kernel
theorem q_106_22 : p_tb 106 22 = some (.getfield 19, 3) := by decide +kernel
theorem q_106_25 : p_tb 106 25 = some (.getfield 94, 3) := by decide +kernel
theorem q_106_28 : p_tb 106 28 = some (.invokevirtual 139, 3) := by decide +kernel
theorem q_106_31 : p_tb 106 31 = some (.istore_n 2, 1) := by decide +kernel
theorem q_106_32 : p_tb 106 32 = some (.aload_n 0, 1) := by decide +kernel
theorem q_106_33 : p_tb 106 33 = some (.getfield 10, 3) := by decide +kernel
theorem q_106_36 : p_tb 106 36 = some (.iconst 0, 1) := by decide +kernel
theorem q_106_37 : p_tb 106 37 = some (.putfield 73, 3) := by decide +kernel
theorem q_106_40 : p_tb 106 40 = some (.aload_n 0, 1) := by decide +kernel
theorem q_106_41 : p_tb 106 41 = some (.aload_n 0, 1) := by decide +kernel
theorem q_106_42 : p_tb 106 42 = some (.getfield 10, 3) := by decide +kernel
theorem q_106_45 : p_tb 106 45 = some (.getfield 85, 3) := by decide +kernel
theorem q_106_48 : p_tb 106 48 = some (.putfield 88, 3) := by decide +kernel
theorem q_106_51 : p_tb 106 51 = some (.iload_n 2, 1) := by decide +kernel
theorem q_106_52 : p_tb 106 52 = some (.ifCond .ne 14, 3) := by decide +kernel
theorem q_106_55 : p_tb 106 55 = some (.bipush (-2), 2) := by decide +kernel
theorem q_106_57 : p_tb 106 57 = some (.aload_n 0, 1) := by decide +kernel
theorem q_106_58 : p_tb 106 58 = some (.getfield 10, 3) := by decide +kernel
theorem q_106_61 : p_tb 106 61 = some (.getfield 91, 3) := by decide +kernel
theorem q_106_64 : p_tb 106 64 = some (.isub, 1) := by decide +kernel
theorem q_106_65 : p_tb 106 65 = some (.ireturn, 1) := by decide +kernel
theorem q_106_66 : p_tb 106 66 = some (.aload_n 0, 1) := by decide +kernel
theorem q_106_67 : p_tb 106 67 = some (.getfield 55, 3) := by decide +kernel
theorem q_106_70 : p_tb 106 70 = some (.aload_n 0, 1) := by decide +kernel
theorem q_106_71 : p_tb 106 71 = some (.getfield 19, 3) := by decide +kernel
theorem q_106_74 : p_tb 106 74 = some (.getfield 94, 3) := by decide +kernel
theorem q_106_77 : p_tb 106 77 = some (.aload_n 0, 1) := by decide +kernel
theorem q_106_78 : p_tb 106 78 = some (.invokevirtual 140, 3) := by decide +kernel
theorem q_106_81 : p_tb 106 81 = some (.invokevirtual 144, 3) := by decide +kernel
theorem q_106_84 : p_tb 106 84 = some (.istore_n 3, 1) := by decide +kernel
theorem q_106_85 : p_tb 106 85 = some (.iload_n 1, 1) := by decide +kernel
theorem q_106_86 : p_tb 106 86 = some (.iconst 1, 1) := by decide +kernel
theorem q_106_87 : p_tb 106 87 = some (.if_icmp .ne 31, 3) := by decide +kernel
theorem q_106_90 : p_tb 106 90 = some (.aload_n 0, 1) := by decide +kernel
theorem q_106_91 : p_tb 106 91 = some (.getfield 34, 3) := by decide +kernel
theorem q_106_94 : p_tb 106 94 = some (.aload_n 0, 1) := by decide +kernel
theorem q_106_95 : p_tb 106 95 = some (.getfield 19, 3) := by decide +kernel
theorem q_106_98 : p_tb 106 98 = some (.getfield 101, 3) := by decide +kernel
theorem q_106_101 : p_tb 106 101 = some (.invokevirtual 147, 3) := by decide +kernel
theorem q_106_104 : p_tb 106 104 = some (.aload_n 0, 1) := by decide +kernel
theorem q_106_105 : p_tb 106 105 = some (.getfield 19, 3) := by decide +kernel
theorem q_106_108 : p_tb 106 108 = some (.getfield 101, 3) := by decide +kernel
theorem q_106_111 : p_tb 106 111 = some (.aload_n 0, 1) := by decide +kernel
theorem q_106_112 : p_tb 106 112 = some (.getfield 62, 3) := by decide +kernel
theorem q_106_115 : p_tb 106 115 = some (.invokevirtual 151, 3) := by decide +kernel
theorem q_106_118 : p_tb 106 118 = some (.iload_n 3, 1) := by decide +kernel
theorem q_106_119 : p_tb 106 119 = some (.ireturn, 1) := by decide +kernel
theorem t_fN_106_101 : p_f2 p_fN (p_mK 106) 101 = some (9, 1) := by decide +kernel
theorem t_fN_106_73 : p_f2 p_fN (p_mK 106) 73 = some (7, 1) := by decide +kernel
theorem t_fN_106_85 : p_f2 p_fN (p_mK 106) 85 = some (7, 10) := by decide +kernel
theorem t_fN_106_91 : p_f2 p_fN (p_mK 106) 91 = some (7, 11) := by decide +kernel
theorem t_fN_106_94 : p_f2 p_fN (p_mK 106) 94 = some (9, 0) := by decide +kernel
theorem t_ft_106_10 : p_f2 p_ft (p_mK 106) 10 = some (10, 0) := by decide +kernel
theorem t_ft_106_19 : p_f2 p_ft (p_mK 106) 19 = some (10, 1) := by decide +kernel
theorem t_ft_106_34 : p_f2 p_ft (p_mK 106) 34 = some (10, 4) := by decide +kernel
theorem t_ft_106_55 : p_f2 p_ft (p_mK 106) 55 = some (10, 7) := by decide +kernel
theorem t_ft_106_62 : p_f2 p_ft (p_mK 106) 62 = some (10, 8) := by decide +kernel
theorem t_ft_106_88 : p_f2 p_ft (p_mK 106) 88 = some (10, 10) := by decide +kernel
theorem t_mv_106_139 : p_f2 p_mv (p_mK 106) 139 = some 66 := by decide +kernel
theorem t_mv_106_140 : p_f2 p_mv (p_mK 106) 140 = some 146 := by decide +kernel
theorem t_mv_106_144 : p_f2 p_mv (p_mK 106) 144 = some 70 := by decide +kernel
theorem t_mv_106_147 : p_f2 p_mv (p_mK 106) 147 = some 13 := by decide +kernel
theorem t_mv_106_151 : p_f2 p_mv (p_mK 106) 151 = some 48 := by decide +kernel
theorem q_107_0 : p_tb 107 0 = some (.aload_n 0, 1) := by decide +kernel
theorem q_107_1 : p_tb 107 1 = some (.getfield 55, 3) := by decide +kernel
theorem q_107_4 : p_tb 107 4 = some (.getfield 153, 3) := by decide +kernel
theorem q_107_7 : p_tb 107 7 = some (.ifCond .ne 5, 3) := by decide +kernel
theorem q_107_10 : p_tb 107 10 = some (.iconst (-1), 1) := by decide +kernel
theorem q_107_11 : p_tb 107 11 = some (.ireturn, 1) := by decide +kernel
theorem q_107_12 : p_tb 107 12 = some (.iload_n 1, 1) := by decide +kernel
theorem q_107_13 : p_tb 107 13 = some (.tableswitch 63 0 3 #[31, 39, 47, 55], 31) := by decide +kernel
theorem q_107_44 : p_tb 107 44 = some (.aload_n 0, 1) := by decide +kernel
theorem q_107_45 : p_tb 107 45 = some (.getfield 55, 3) := by decide +kernel
theorem q_107_48 : p_tb 107 48 = some (.getfield 157, 3) := by decide +kernel
theorem q_107_51 : p_tb 107 51 = some (.ireturn, 1) := by decide +kernel
theorem q_107_52 : p_tb 107 52 = some (.aload_n 0, 1) := by decide +kernel
theorem q_107_53 : p_tb 107 53 = some (.getfield 55, 3) := by decide +kernel
theorem q_107_56 : p_tb 107 56 = some (.getfield 160, 3) := by decide +kernel
theorem q_107_59 : p_tb 107 59 = some (.ireturn, 1) := by decide +kernel
theorem q_107_60 : p_tb 107 60 = some (.aload_n 0, 1) := by decide +kernel
theorem q_107_61 : p_tb 107 61 = some (.getfield 55, 3) := by decide +kernel
theorem q_107_64 : p_tb 107 64 = some (.getfield 163, 3) := by decide +kernel
theorem q_107_67 : p_tb 107 67 = some (.ireturn, 1) := by decide +kernel
theorem q_107_68 : p_tb 107 68 = some (.aload_n 0, 1) := by decide +kernel
theorem q_107_69 : p_tb 107 69 = some (.getfield 55, 3) := by decide +kernel
theorem q_107_72 : p_tb 107 72 = some (.getfield 166, 3) := by decide +kernel
theorem q_107_75 : p_tb 107 75 = some (.ireturn, 1) := by decide +kernel
theorem q_107_76 : p_tb 107 76 = some (.iconst (-1), 1) := by decide +kernel
theorem q_107_77 : p_tb 107 77 = some (.ireturn, 1) := by decide +kernel
theorem t_fN_107_153 : p_f2 p_fN (p_mK 107) 153 = some (6, 3) := by decide +kernel
theorem t_fN_107_157 : p_f2 p_fN (p_mK 107) 157 = some (6, 4) := by decide +kernel
theorem t_fN_107_160 : p_f2 p_fN (p_mK 107) 160 = some (6, 5) := by decide +kernel
theorem t_fN_107_163 : p_f2 p_fN (p_mK 107) 163 = some (6, 6) := by decide +kernel
theorem t_fN_107_166 : p_f2 p_fN (p_mK 107) 166 = some (6, 7) := by decide +kernel
theorem t_ft_107_55 : p_f2 p_ft (p_mK 107) 55 = some (10, 7) := by decide +kernel
theorem c_J6_bitCount_0f7a4 (V : pM → Prop) (hV : Stab V) (G : pG) (Kr : pK) (M : pM) (I : Iv V M) (a0 : Int32) (hK : ∀ (x : Int32) (M1 : pM), Iv V M1 → Fr [] M M1 → Kr.1 (some (.int x)) 311 M1) : PW G false 0 275 (p_mc 275) (p_msl 275) Kr 0 (lv_args 0 [.int a0]) [] 311 M 0 0 := by
  have F : Fr [] M M := Fr.refl
  refine PW.iload_n q_275_0 rfl ?_
  refine PW.iload_n q_275_1 rfl ?_
  refine PW.cI q_275_2 (by decide) fun c1 hc1 => ?_
  refine PW.ushrH q_275_3 fun x2 => ?_
  refine PW.ldcw q_275_4 t_it_275_265 ?_
  refine PW.nmI ?_; intro c3 ec3
  have hc3 : c3.toInt = 1431655765 := by rw [ec3]; decide
  refine PW.andP q_275_7 (by omega) fun x4 hx4 kx4 => ?_
  refine PW.subH q_275_8 fun x5 => ?_
  refine PW.istore_n q_275_9 (by decide) ?_
  refine PW.iload_n q_275_10 rfl ?_
  refine PW.ldcw q_275_11 t_it_275_266 ?_
  refine PW.nmI ?_; intro c6 ec6
  have hc6 : c6.toInt = 858993459 := by rw [ec6]; decide
  refine PW.andP q_275_14 (by omega) fun x7 hx7 kx7 => ?_
  refine PW.iload_n q_275_15 rfl ?_
  refine PW.cI q_275_16 (by decide) fun c8 hc8 => ?_
  refine PW.ushrH q_275_17 fun x9 => ?_
  refine PW.ldcw q_275_18 t_it_275_266 ?_
  refine PW.nmI ?_; intro c10 ec10
  have hc10 : c10.toInt = 858993459 := by rw [ec10]; decide
  refine PW.andP q_275_21 (by omega) fun x11 hx11 kx11 => ?_
  refine PW.addN q_275_22 (by omega) (by omega) fun x12 hx12 => ?_
  refine PW.istore_n q_275_23 (by decide) ?_
  refine PW.iload_n q_275_24 rfl ?_
  refine PW.iload_n q_275_25 rfl ?_
  refine PW.cI q_275_26 (by decide) fun c13 hc13 => ?_
  refine PW.ushrH q_275_27 fun x14 => ?_
  refine PW.addH q_275_28 fun x15 => ?_
  refine PW.ldcw q_275_29 t_it_275_267 ?_
  refine PW.nmI ?_; intro c16 ec16
  have hc16 : c16.toInt = 252645135 := by rw [ec16]; decide
  refine PW.andP q_275_32 (by omega) fun x17 hx17 kx17 => ?_
  refine PW.istore_n q_275_33 (by decide) ?_
  refine PW.iload_n q_275_34 rfl ?_
  refine PW.iload_n q_275_35 rfl ?_
  refine PW.cB q_275_36 (by decide) fun c18 hc18 => ?_
  refine PW.ushrH q_275_38 fun x19 => ?_
  refine PW.addH q_275_39 fun x20 => ?_
  refine PW.istore_n q_275_40 (by decide) ?_
  refine PW.iload_n q_275_41 rfl ?_
  refine PW.iload_n q_275_42 rfl ?_
  refine PW.cB q_275_43 (by decide) fun c21 hc21 => ?_
  refine PW.ushrH q_275_45 fun x22 => ?_
  refine PW.addH q_275_46 fun x23 => ?_
  refine PW.istore_n q_275_47 (by decide) ?_
  refine PW.iload_n q_275_48 rfl ?_
  refine PW.cB q_275_49 (by decide) fun c24 hc24 => ?_
  refine PW.andP q_275_51 (by omega) fun x25 hx25 kx25 => ?_
  refine PW.rI q_275_52 rfl (by decide) (by decide) ?_
  exact hK x25 M I F
theorem c_X7_append (V : pM → Prop) (hV : Stab V) (G : pG) (Kr : pK) (M : pM) (I : Iv V M) (a1 : Int32) (hK : ∀ (M1 : pM), Iv V M1 → Fr [1, 2] M M1 → Kr.1 none 311 M1) : PW G false 0 74 (p_mc 74) (p_msl 74) Kr 0 (lv_args 0 [.ref 1, .int a1]) [] 311 M 0 0 := by
  have F : Fr [1, 2] M M := Fr.refl
  refine PW.cB q_74_0 (by decide) fun c1 hc1 => ?_
  refine PW.istore_n q_74_2 (by decide) ?_
  refine PW.iload_n q_74_3 rfl ?_
  refine PW.jz_lt q_74_4 rfl (fun h2 => False.elim (by omega)) (fun h2 => ?_)
  refine PW.aload_n q_74_7 rfl ?_
  refine PW.gI q_74_8 (Or.inl t_ft_74_26) gF_1_1 kd_1 I.1 (by decide) fun x3 fx3 hx3 kx3 => ?_
  refine PW.cS q_74_11 (by decide) fun c4 hc4 => ?_
  have J40_6 : ∀ (MJ40_6 : pM), Iv (V) MJ40_6 → Fr [1, 2] M MJ40_6 → PW G false 0 74 (p_mc 74) (p_msl 74) Kr 40 [(0, .ref 1), (1, .int a1), (2, .int c1)] [] 311 MJ40_6 0 0 := by
    intro MJ40_6  IMJ40_6 FMJ40_6 
    refine PW.incN q_74_40 rfl (by decide) (by decide) (by omega) (by omega) fun x7 hx7 => ?_
    refine PW.goto q_74_43 rfl ?_
    refine PW.iload_n q_74_3 rfl ?_
    refine PW.jz_lt q_74_4 rfl (fun h8 => False.elim (by omega)) (fun h8 => ?_)
    refine PW.aload_n q_74_7 rfl ?_
    refine PW.gI q_74_8 (Or.inl t_ft_74_26) gF_1_1 kd_1 IMJ40_6.1 (by decide) fun x9 fx9 hx9 kx9 => ?_
    refine PW.cS q_74_11 (by decide) fun c10 hc10 => ?_
    have J40_12 : ∀ (MJ40_12 : pM), Iv (V) MJ40_12 → Fr [1, 2] M MJ40_12 → PW G false 0 74 (p_mc 74) (p_msl 74) Kr 40 [(0, .ref 1), (1, .int a1), (2, .int x7)] [] 311 MJ40_12 0 0 := by
      intro MJ40_12  IMJ40_12 FMJ40_12 
      refine PW.incN q_74_40 rfl (by decide) (by decide) (by have := n_lo x7; have := n_hi x7; omega) (by have := n_lo x7; have := n_hi x7; omega) fun x13 hx13 => ?_
      refine PW.goto q_74_43 rfl ?_
      refine PW.iload_n q_74_3 rfl ?_
      refine PW.jz_lt q_74_4 rfl (fun h14 => False.elim (by omega)) (fun h14 => ?_)
      refine PW.aload_n q_74_7 rfl ?_
      refine PW.gI q_74_8 (Or.inl t_ft_74_26) gF_1_1 kd_1 IMJ40_12.1 (by decide) fun x15 fx15 hx15 kx15 => ?_
      refine PW.cS q_74_11 (by decide) fun c16 hc16 => ?_
      have J40_18 : ∀ (MJ40_18 : pM), Iv (V) MJ40_18 → Fr [1, 2] M MJ40_18 → PW G false 0 74 (p_mc 74) (p_msl 74) Kr 40 [(0, .ref 1), (1, .int a1), (2, .int x13)] [] 311 MJ40_18 0 0 := by
        intro MJ40_18  IMJ40_18 FMJ40_18 
        refine PW.incN q_74_40 rfl (by decide) (by decide) (by have := n_lo x13; have := n_hi x13; omega) (by have := n_lo x13; have := n_hi x13; omega) fun x19 hx19 => ?_
        refine PW.goto q_74_43 rfl ?_
        refine PW.iload_n q_74_3 rfl ?_
        refine PW.jz_lt q_74_4 rfl (fun h20 => False.elim (by omega)) (fun h20 => ?_)
        refine PW.aload_n q_74_7 rfl ?_
        refine PW.gI q_74_8 (Or.inl t_ft_74_26) gF_1_1 kd_1 IMJ40_18.1 (by decide) fun x21 fx21 hx21 kx21 => ?_
        refine PW.cS q_74_11 (by decide) fun c22 hc22 => ?_
        have J40_24 : ∀ (MJ40_24 : pM), Iv (V) MJ40_24 → Fr [1, 2] M MJ40_24 → PW G false 0 74 (p_mc 74) (p_msl 74) Kr 40 [(0, .ref 1), (1, .int a1), (2, .int x19)] [] 311 MJ40_24 0 0 := by
          intro MJ40_24  IMJ40_24 FMJ40_24 
          refine PW.incN q_74_40 rfl (by decide) (by decide) (by have := n_lo x19; have := n_hi x19; omega) (by have := n_lo x19; have := n_hi x19; omega) fun x25 hx25 => ?_
          refine PW.goto q_74_43 rfl ?_
          refine PW.iload_n q_74_3 rfl ?_
          refine PW.jz_lt q_74_4 rfl (fun h26 => ?_) (fun h26 => False.elim (by omega))
          refine PW.vret q_74_46 rfl (by decide) (by decide) ?_
          exact hK MJ40_24 IMJ40_24 FMJ40_24
        refine PW.jc_ge q_74_14 rfl (fun h23 => ?_) (fun h23 => ?_)
        · skip
          exact PW.lvS (lk1 rfl (lk1 rfl (lk1 rfl lk0))) (J40_24 MJ40_18  IMJ40_18 FMJ40_18 )
        · skip
          refine PW.aload_n q_74_17 rfl ?_
          refine PW.gR 2 q_74_18 (Or.inl t_ft_74_9) gF_1_0 kd_1 IMJ40_18.1 (by decide) rfl ?_
          refine PW.aload_n q_74_21 rfl ?_
          refine PW.gE q_74_22 (Or.inl t_ft_74_26) gF_1_1 kd_1 IMJ40_18.1 (by decide) fx21 ?_
          refine PW.iload_n q_74_25 rfl ?_
          refine PW.iload_n q_74_26 rfl ?_
          refine PW.shrH q_74_27 fun x27 => ?_
          refine PW.bH q_74_28 fun x28 => ?_
          refine PW.wY q_74_29 gA_2 kd_2 hV IMJ40_18 (by decide) rfl gC_2_0_939 (by omega) (by omega) fun M29 IM29 UM29 => ?_
          have FM29 := Fr.pu FMJ40_18 UM29.1 kd_2 (rfl : List.contains [1, 2] 2 = true)
          refine PW.aload_n q_74_30 rfl ?_
          refine PW.dup q_74_31 rfl ?_
          refine PW.gE q_74_32 (Or.inl t_ft_74_26) gF_1_1 kd_1 IM29.1 (by decide) ((congrArg (fun e => o_f e 1) (UM29.1 _ (g_ne kd_1 kd_2 (by decide)))).trans fx21) ?_
          refine PW.cI q_74_35 (by decide) fun c30 hc30 => ?_
          refine PW.addN q_74_36 (by omega) (by omega) fun x31 hx31 => ?_
          refine PW.pI q_74_37 (Or.inl t_ft_74_26) gF_1_1 gP_1_1 kd_1 hV IM29 (by decide) rfl (by omega) (by omega) fun M32 IM32 fM32 UM32 => ?_
          have FM32 := Fr.pu FM29 UM32.1 kd_1 (rfl : List.contains [1, 2] 1 = true)
          exact PW.lvS (lk1 rfl (lk1 rfl (lk1 rfl lk0))) (J40_24 M32  IM32 FM32 )
      refine PW.jc_ge q_74_14 rfl (fun h17 => ?_) (fun h17 => ?_)
      · skip
        exact PW.lvS (lk1 rfl (lk1 rfl (lk1 rfl lk0))) (J40_18 MJ40_12  IMJ40_12 FMJ40_12 )
      · skip
        refine PW.aload_n q_74_17 rfl ?_
        refine PW.gR 2 q_74_18 (Or.inl t_ft_74_9) gF_1_0 kd_1 IMJ40_12.1 (by decide) rfl ?_
        refine PW.aload_n q_74_21 rfl ?_
        refine PW.gE q_74_22 (Or.inl t_ft_74_26) gF_1_1 kd_1 IMJ40_12.1 (by decide) fx15 ?_
        refine PW.iload_n q_74_25 rfl ?_
        refine PW.iload_n q_74_26 rfl ?_
        refine PW.shrH q_74_27 fun x33 => ?_
        refine PW.bH q_74_28 fun x34 => ?_
        refine PW.wY q_74_29 gA_2 kd_2 hV IMJ40_12 (by decide) rfl gC_2_0_939 (by omega) (by omega) fun M35 IM35 UM35 => ?_
        have FM35 := Fr.pu FMJ40_12 UM35.1 kd_2 (rfl : List.contains [1, 2] 2 = true)
        refine PW.aload_n q_74_30 rfl ?_
        refine PW.dup q_74_31 rfl ?_
        refine PW.gE q_74_32 (Or.inl t_ft_74_26) gF_1_1 kd_1 IM35.1 (by decide) ((congrArg (fun e => o_f e 1) (UM35.1 _ (g_ne kd_1 kd_2 (by decide)))).trans fx15) ?_
        refine PW.cI q_74_35 (by decide) fun c36 hc36 => ?_
        refine PW.addN q_74_36 (by omega) (by omega) fun x37 hx37 => ?_
        refine PW.pI q_74_37 (Or.inl t_ft_74_26) gF_1_1 gP_1_1 kd_1 hV IM35 (by decide) rfl (by omega) (by omega) fun M38 IM38 fM38 UM38 => ?_
        have FM38 := Fr.pu FM35 UM38.1 kd_1 (rfl : List.contains [1, 2] 1 = true)
        exact PW.lvS (lk1 rfl (lk1 rfl (lk1 rfl lk0))) (J40_18 M38  IM38 FM38 )
    refine PW.jc_ge q_74_14 rfl (fun h11 => ?_) (fun h11 => ?_)
    · skip
      exact PW.lvS (lk1 rfl (lk1 rfl (lk1 rfl lk0))) (J40_12 MJ40_6  IMJ40_6 FMJ40_6 )
    · skip
      refine PW.aload_n q_74_17 rfl ?_
      refine PW.gR 2 q_74_18 (Or.inl t_ft_74_9) gF_1_0 kd_1 IMJ40_6.1 (by decide) rfl ?_
      refine PW.aload_n q_74_21 rfl ?_
      refine PW.gE q_74_22 (Or.inl t_ft_74_26) gF_1_1 kd_1 IMJ40_6.1 (by decide) fx9 ?_
      refine PW.iload_n q_74_25 rfl ?_
      refine PW.iload_n q_74_26 rfl ?_
      refine PW.shrH q_74_27 fun x39 => ?_
      refine PW.bH q_74_28 fun x40 => ?_
      refine PW.wY q_74_29 gA_2 kd_2 hV IMJ40_6 (by decide) rfl gC_2_0_939 (by omega) (by omega) fun M41 IM41 UM41 => ?_
      have FM41 := Fr.pu FMJ40_6 UM41.1 kd_2 (rfl : List.contains [1, 2] 2 = true)
      refine PW.aload_n q_74_30 rfl ?_
      refine PW.dup q_74_31 rfl ?_
      refine PW.gE q_74_32 (Or.inl t_ft_74_26) gF_1_1 kd_1 IM41.1 (by decide) ((congrArg (fun e => o_f e 1) (UM41.1 _ (g_ne kd_1 kd_2 (by decide)))).trans fx9) ?_
      refine PW.cI q_74_35 (by decide) fun c42 hc42 => ?_
      refine PW.addN q_74_36 (by omega) (by omega) fun x43 hx43 => ?_
      refine PW.pI q_74_37 (Or.inl t_ft_74_26) gF_1_1 gP_1_1 kd_1 hV IM41 (by decide) rfl (by omega) (by omega) fun M44 IM44 fM44 UM44 => ?_
      have FM44 := Fr.pu FM41 UM44.1 kd_1 (rfl : List.contains [1, 2] 1 = true)
      exact PW.lvS (lk1 rfl (lk1 rfl (lk1 rfl lk0))) (J40_12 M44  IM44 FM44 )
  refine PW.jc_ge q_74_14 rfl (fun h5 => ?_) (fun h5 => ?_)
  · skip
    exact PW.lvS (lk1 rfl (lk1 rfl (lk1 rfl lk0))) (J40_6 M  I F )
  · skip
    refine PW.aload_n q_74_17 rfl ?_
    refine PW.gR 2 q_74_18 (Or.inl t_ft_74_9) gF_1_0 kd_1 I.1 (by decide) rfl ?_
    refine PW.aload_n q_74_21 rfl ?_
    refine PW.gE q_74_22 (Or.inl t_ft_74_26) gF_1_1 kd_1 I.1 (by decide) fx3 ?_
    refine PW.iload_n q_74_25 rfl ?_
    refine PW.iload_n q_74_26 rfl ?_
    refine PW.shrH q_74_27 fun x45 => ?_
    refine PW.bH q_74_28 fun x46 => ?_
    refine PW.wY q_74_29 gA_2 kd_2 hV I (by decide) rfl gC_2_0_939 (by omega) (by omega) fun M47 IM47 UM47 => ?_
    have FM47 := Fr.pu F UM47.1 kd_2 (rfl : List.contains [1, 2] 2 = true)
    refine PW.aload_n q_74_30 rfl ?_
    refine PW.dup q_74_31 rfl ?_
    refine PW.gE q_74_32 (Or.inl t_ft_74_26) gF_1_1 kd_1 IM47.1 (by decide) ((congrArg (fun e => o_f e 1) (UM47.1 _ (g_ne kd_1 kd_2 (by decide)))).trans fx3) ?_
    refine PW.cI q_74_35 (by decide) fun c48 hc48 => ?_
    refine PW.addN q_74_36 (by omega) (by omega) fun x49 hx49 => ?_
    refine PW.pI q_74_37 (Or.inl t_ft_74_26) gF_1_1 gP_1_1 kd_1 hV IM47 (by decide) rfl (by omega) (by omega) fun M50 IM50 fM50 UM50 => ?_
    have FM50 := Fr.pu FM47 UM50.1 kd_1 (rfl : List.contains [1, 2] 1 = true)
    exact PW.lvS (lk1 rfl (lk1 rfl (lk1 rfl lk0))) (J40_6 M50  IM50 FM50 )
theorem c_X11_feed (G : pG) (Kr : pK) (M : pM) (I : Iv gTT M) (a1 : Int32) (a2 : Int32) (a3 : Int32) (a4 : Int32) (a5 : Int32) (hK : ∀ (x : Int32) (M1 : pM), Iv gTT M1 → Fr [1, 2] M M1 → Kr.1 (some (.int x)) 311 M1) : PW G false 1 100 (p_mc 100) (p_msl 100) Kr 0 (lv_args 0 [.ref 0, .int a1, .int a2, .int a3, .int a4, .int a5]) [] 311 M 0 0 := by
  have F : Fr [1, 2] M M := Fr.refl
  refine PW.aload_n q_100_0 rfl ?_
  refine PW.gR 1 q_100_1 (Or.inl t_ft_100_10) gF_0_0 kd_0 I.1 (by decide) rfl ?_
  refine PW.gI q_100_4 (Or.inr t_fN_100_73) gF_1_1 kd_1 I.1 (by decide) fun x1 fx1 hx1 kx1 => ?_
  refine PW.cB q_100_7 (by decide) fun c2 hc2 => ?_
  refine PW.addN q_100_9 (by omega) (by omega) fun x3 hx3 => ?_
  refine PW.cS q_100_10 (by decide) fun c4 hc4 => ?_
  refine PW.jc_le q_100_13 rfl (fun h5 => ?_) (fun h5 => ?_)
  · skip
    refine PW.aload_n q_100_18 rfl ?_
    refine PW.gR 1 q_100_19 (Or.inl t_ft_100_10) gF_0_0 kd_0 I.1 (by decide) rfl ?_
    refine PW.iload_n q_100_22 rfl ?_
    refine PW.cV (as := [_]) (rest := []) q_100_23 t_mv_100_77 kd_1 I.1 (by decide) rfl (by decide) rfl rfl (Nat.le_of_ble_eq_true rfl) (Nat.le_of_ble_eq_true rfl) (by decide) (by decide) ?_
    refine PW.up (by decide) (c_X7_append (gTT) (Stab0) G _ M I a1 fun M6 IM6 GM6 => ?_)
    have FM6 := Fr.trans F GM6 (rfl)
    refine PW.aload_n q_100_26 rfl ?_
    refine PW.gR 1 q_100_27 (Or.inl t_ft_100_10) gF_0_0 kd_0 IM6.1 (by decide) rfl ?_
    refine PW.iload_n q_100_30 rfl ?_
    refine PW.cV (as := [_]) (rest := []) q_100_31 t_mv_100_77 kd_1 IM6.1 (by decide) rfl (by decide) rfl rfl (Nat.le_of_ble_eq_true rfl) (Nat.le_of_ble_eq_true rfl) (by decide) (by decide) ?_
    refine PW.up (by decide) (c_X7_append (gTT) (Stab0) G _ M6 IM6 a2 fun M7 IM7 GM7 => ?_)
    have FM7 := Fr.trans FM6 GM7 (rfl)
    refine PW.aload_n q_100_34 rfl ?_
    refine PW.gR 1 q_100_35 (Or.inl t_ft_100_10) gF_0_0 kd_0 IM7.1 (by decide) rfl ?_
    refine PW.iload_n q_100_38 rfl ?_
    refine PW.cV (as := [_]) (rest := []) q_100_39 t_mv_100_77 kd_1 IM7.1 (by decide) rfl (by decide) rfl rfl (Nat.le_of_ble_eq_true rfl) (Nat.le_of_ble_eq_true rfl) (by decide) (by decide) ?_
    refine PW.up (by decide) (c_X7_append (gTT) (Stab0) G _ M7 IM7 a3 fun M8 IM8 GM8 => ?_)
    have FM8 := Fr.trans FM7 GM8 (rfl)
    refine PW.aload_n q_100_42 rfl ?_
    refine PW.gR 1 q_100_43 (Or.inl t_ft_100_10) gF_0_0 kd_0 IM8.1 (by decide) rfl ?_
    refine PW.iload q_100_46 rfl ?_
    refine PW.cV (as := [_]) (rest := []) q_100_48 t_mv_100_77 kd_1 IM8.1 (by decide) rfl (by decide) rfl rfl (Nat.le_of_ble_eq_true rfl) (Nat.le_of_ble_eq_true rfl) (by decide) (by decide) ?_
    refine PW.up (by decide) (c_X7_append (gTT) (Stab0) G _ M8 IM8 a4 fun M9 IM9 GM9 => ?_)
    have FM9 := Fr.trans FM8 GM9 (rfl)
    refine PW.aload_n q_100_51 rfl ?_
    refine PW.gR 1 q_100_52 (Or.inl t_ft_100_10) gF_0_0 kd_0 IM9.1 (by decide) rfl ?_
    refine PW.iload q_100_55 rfl ?_
    refine PW.cV (as := [_]) (rest := []) q_100_57 t_mv_100_77 kd_1 IM9.1 (by decide) rfl (by decide) rfl rfl (Nat.le_of_ble_eq_true rfl) (Nat.le_of_ble_eq_true rfl) (by decide) (by decide) ?_
    refine PW.up (by decide) (c_X7_append (gTT) (Stab0) G _ M9 IM9 a5 fun M10 IM10 GM10 => ?_)
    have FM10 := Fr.trans FM9 GM10 (rfl)
    refine PW.aload_n q_100_60 rfl ?_
    refine PW.gR 1 q_100_61 (Or.inl t_ft_100_10) gF_0_0 kd_0 IM10.1 (by decide) rfl ?_
    refine PW.gI q_100_64 (Or.inr t_fN_100_73) gF_1_1 kd_1 IM10.1 (by decide) fun x11 fx11 hx11 kx11 => ?_
    refine PW.rI q_100_67 rfl (by decide) (by decide) ?_
    exact hK x11 M10 IM10 FM10
  · skip
    refine PW.cI q_100_16 (by decide) fun c12 hc12 => ?_
    refine PW.rI q_100_17 rfl (by decide) (by decide) ?_
    exact hK c12 M I F
theorem c_X11_end (G : pG) (Kr : pK) (M : pM) (I : Iv gTT M) (a1 : Int32) (hK : ∀ (x : Int32) (M1 : pM), Iv gTT M1 → Fr [1] M M1 → 0 ≤ x.toInt → x.toInt ≤ 1 → Kr.1 (some (.int x)) 311 M1) : PW G false 0 101 (p_mc 101) (p_msl 101) Kr 0 (lv_args 0 [.ref 0, .int a1]) [] 311 M 0 0 := by
  have F : Fr [1] M M := Fr.refl
  refine PW.iload_n q_101_0 rfl ?_
  refine PW.jz_lt q_101_1 rfl (fun h1 => ?_) (fun h1 => ?_)
  · skip
    refine PW.cI q_101_15 (by decide) fun c2 hc2 => ?_
    refine PW.rZ q_101_16 rfl (by omega) (by omega) (by decide) (by decide) ?_
    exact hK c2 M I F (by omega) (by omega)
  · skip
    refine PW.iload_n q_101_4 rfl ?_
    refine PW.aload_n q_101_5 rfl ?_
    refine PW.gR 1 q_101_6 (Or.inl t_ft_101_10) gF_0_0 kd_0 I.1 (by decide) rfl ?_
    refine PW.gI q_101_9 (Or.inr t_fN_101_73) gF_1_1 kd_1 I.1 (by decide) fun x3 fx3 hx3 kx3 => ?_
    refine PW.jc_le q_101_12 rfl (fun h4 => ?_) (fun h4 => ?_)
    · skip
      refine PW.aload_n q_101_17 rfl ?_
      refine PW.gR 1 q_101_18 (Or.inl t_ft_101_10) gF_0_0 kd_0 I.1 (by decide) rfl ?_
      refine PW.iload_n q_101_21 rfl ?_
      refine PW.pI q_101_22 (Or.inr t_fN_101_73) gF_1_1 gP_1_1 kd_1 Stab0 I (by decide) rfl (by omega) (by omega) fun M5 IM5 fM5 UM5 => ?_
      have FM5 := Fr.pu F UM5.1 kd_1 (rfl : List.contains [1] 1 = true)
      refine PW.cI q_101_25 (by decide) fun c6 hc6 => ?_
      refine PW.rZ q_101_26 rfl (by omega) (by omega) (by decide) (by decide) ?_
      exact hK c6 M5 IM5 FM5 (by omega) (by omega)
    · skip
      refine PW.cI q_101_15 (by decide) fun c7 hc7 => ?_
      refine PW.rZ q_101_16 rfl (by omega) (by omega) (by decide) (by decide) ?_
      exact hK c7 M I F (by omega) (by omega)
theorem c_X11_beach (G : pG) (Kr : pK) (M : pM) (I : Iv gTT M)  (hK : ∀ (x : Int32) (M1 : pM), Iv gTT M1 → Fr [0, 1, 4, 5, 7, 9, 10, 13, 14, 21, 27, 28, 29, 30, 31, 32, 33, 34, 35, 36] M M1 → Kr.1 (some (.int x)) 311 M1) : PW G false 7 102 (p_mc 102) (p_msl 102) Kr 0 (lv_args 0 [.ref 0]) [] 311 M 0 0 := by
  have F : Fr [0, 1, 4, 5, 7, 9, 10, 13, 14, 21, 27, 28, 29, 30, 31, 32, 33, 34, 35, 36] M M := Fr.refl
  refine PW.aload_n q_102_0 rfl ?_
  refine PW.gR 256 q_102_1 (Or.inl t_ft_102_41) gF_0_5 kd_0 I.1 (by decide) rfl ?_
  refine PW.aload_n q_102_4 rfl ?_
  refine PW.gR 1 q_102_5 (Or.inl t_ft_102_10) gF_0_0 kd_0 I.1 (by decide) rfl ?_
  refine PW.cV (as := [_]) (rest := []) q_102_8 t_mv_102_81 kd_256 I.1 (by decide) rfl (by decide) rfl rfl (Nat.le_of_ble_eq_true rfl) (Nat.le_of_ble_eq_true rfl) (by decide) (by decide) ?_
  refine PW.up (by decide) (c_X3_read G _ M I fun x2 M1 IM1 GM1 hx2 kx2 => ?_)
  have FM1 := Fr.trans F GM1 (rfl)
  refine PW.istore_n q_102_11 (by decide) ?_
  refine PW.aload_n q_102_12 rfl ?_
  refine PW.gR 1 q_102_13 (Or.inl t_ft_102_10) gF_0_0 kd_0 IM1.1 (by decide) rfl ?_
  refine PW.cI q_102_16 (by decide) fun c3 hc3 => ?_
  refine PW.pI q_102_17 (Or.inr t_fN_102_73) gF_1_1 gP_1_1 kd_1 StabS IM1 (by decide) rfl (by omega) (by omega) fun M4 IM4 fM4 UM4 => ?_
  have FM4 := Fr.pu FM1 UM4.1 kd_1 (rfl : List.contains [0, 1, 4, 5, 7, 9, 10, 13, 14, 21, 27, 28, 29, 30, 31, 32, 33, 34, 35, 36] 1 = true)
  refine PW.aload_n q_102_20 rfl ?_
  refine PW.aload_n q_102_21 rfl ?_
  refine PW.gR 1 q_102_22 (Or.inl t_ft_102_10) gF_0_0 kd_0 IM4.1 (by decide) rfl ?_
  refine PW.gI q_102_25 (Or.inr t_fN_102_85) gF_1_10 kd_1 IM4.1 (by decide) fun x5 fx5 hx5 kx5 => ?_
  clear hx5 kx5
  refine PW.pI q_102_28 (Or.inl t_ft_102_88) gF_0_10 gP_0_10 kd_0 StabS IM4 (by decide) rfl (n_lo _) (n_hi _) fun M6 IM6 fM6 UM6 => ?_
  have FM6 := Fr.pu FM4 UM6.1 kd_0 (rfl : List.contains [0, 1, 4, 5, 7, 9, 10, 13, 14, 21, 27, 28, 29, 30, 31, 32, 33, 34, 35, 36] 0 = true)
  refine PW.iload_n q_102_31 rfl ?_
  refine PW.jz_ne q_102_32 rfl (fun h7 => ?_) (fun h7 => ?_)
  · skip
    refine PW.aload_n q_102_45 rfl ?_
    refine PW.gR 3 q_102_46 (Or.inl t_ft_102_19) gF_0_1 kd_0 IM6.1 (by decide) rfl ?_
    refine PW.gR 4 q_102_49 (Or.inr t_fN_102_94) gF_3_0 kd_3 IM6.1 (by decide) rfl ?_
    refine PW.aload_n q_102_52 rfl ?_
    refine PW.gR 256 q_102_53 (Or.inl t_ft_102_41) gF_0_5 kd_0 IM6.1 (by decide) rfl ?_
    refine PW.cV (as := [_]) (rest := []) q_102_56 t_mv_102_97 kd_4 IM6.1 (by decide) rfl (by decide) rfl rfl (Nat.le_of_ble_eq_true rfl) (Nat.le_of_ble_eq_true rfl) (by decide) (by decide) ?_
    refine PW.up (by decide) (c_X3_copyFrom_w G _ M6 IM6  fun M8 IM8 GM8 => ?_)
    have FM8 := Fr.trans FM6 GM8 (rfl)
    refine PW.aload_n q_102_59 rfl ?_
    refine PW.gR 3 q_102_60 (Or.inl t_ft_102_19) gF_0_1 kd_0 IM8.1 (by decide) rfl ?_
    refine PW.gR 15 q_102_63 (Or.inr t_fN_102_101) gF_3_1 kd_3 IM8.1 (by decide) rfl ?_
    refine PW.aload_n q_102_66 rfl ?_
    refine PW.gR 256 q_102_67 (Or.inl t_ft_102_41) gF_0_5 kd_0 IM8.1 (by decide) rfl ?_
    refine PW.cV (as := [_]) (rest := []) q_102_70 t_mv_102_104 kd_15 IM8.1 (by decide) rfl (by decide) rfl rfl (Nat.le_of_ble_eq_true rfl) (Nat.le_of_ble_eq_true rfl) (by decide) (by decide) ?_
    refine PW.up (by decide) (c_X5_begin G _ M8 ⟨IM8.1, IM8.2.1⟩ 15 kd_15 256 kd_256 IM8.2.2 fun M9 IM9 GM9 => ?_)
    have FM9 := Fr.trans FM8 GM9 (rfl)
    refine PW.aload_n q_102_73 rfl ?_
    refine PW.gR 3 q_102_74 (Or.inl t_ft_102_19) gF_0_1 kd_0 IM9.1 (by decide) rfl ?_
    refine PW.gR 33 q_102_77 (Or.inr t_fN_102_107) gF_3_2 kd_3 IM9.1 (by decide) rfl ?_
    refine PW.cV (as := []) (rest := []) q_102_80 t_mv_102_110 kd_33 IM9.1 (by decide) rfl (by decide) rfl rfl (Nat.le_of_ble_eq_true rfl) (Nat.le_of_ble_eq_true rfl) (by decide) (by decide) ?_
    refine PW.up (by decide) (c_X4_forget (gTT) (Stab0) G _ M9 IM9 33 kd_33 fun M10 IM10 GM10 => ?_)
    have FM10 := Fr.trans FM9 GM10 (rfl)
    refine PW.aload_n q_102_83 rfl ?_
    refine PW.gR 110 q_102_84 (Or.inl t_ft_102_34) gF_0_4 kd_0 IM10.1 (by decide) rfl ?_
    refine PW.cV (as := []) (rest := []) q_102_87 t_mv_102_113 kd_110 IM10.1 (by decide) rfl (by decide) rfl rfl (Nat.le_of_ble_eq_true rfl) (Nat.le_of_ble_eq_true rfl) (by decide) (by decide) ?_
    refine PW.up (by decide) (c_X1_forget (gTT) (Stab0) G _ M10 IM10  fun M11 IM11 GM11 => ?_)
    have FM11 := Fr.trans FM10 GM11 (rfl)
    refine PW.aload_n q_102_90 rfl ?_
    refine PW.gR 256 q_102_91 (Or.inl t_ft_102_41) gF_0_5 kd_0 IM11.1 (by decide) rfl ?_
    refine PW.gI q_102_94 (Or.inr t_fN_102_114) gF_4_0 kd_256 IM11.1 (by decide) fun x12 fx12 hx12 kx12 => ?_
    clear hx12 kx12
    refine PW.rI q_102_97 rfl (by decide) (by decide) ?_
    exact hK x12 M11 IM11 FM11
  · skip
    refine PW.cI q_102_35 (by decide) fun c13 hc13 => ?_
    refine PW.aload_n q_102_36 rfl ?_
    refine PW.gR 1 q_102_37 (Or.inl t_ft_102_10) gF_0_0 kd_0 IM6.1 (by decide) rfl ?_
    refine PW.gI q_102_40 (Or.inr t_fN_102_91) gF_1_11 kd_1 IM6.1 (by decide) fun x14 fx14 hx14 kx14 => ?_
    clear hx14 kx14
    refine PW.subN q_102_43 (by have := n_lo x14; have := n_hi x14; omega) (by have := n_lo x14; have := n_hi x14; omega) fun x15 hx15 => ?_
    refine PW.rI q_102_44 rfl (by decide) (by decide) ?_
    exact hK x15 M6 ⟨IM6.1, IM6.2.1⟩ FM6
theorem c_X11_fault (G : pG) (Kr : pK) (M : pM) (I : Iv gTT M)  (hK : ∀ (x : Int32) (M1 : pM), Iv gTT M1 → Fr [] M M1 → Kr.1 (some (.int x)) 311 M1) : PW G false 0 103 (p_mc 103) (p_msl 103) Kr 0 (lv_args 0 [.ref 0]) [] 311 M 0 0 := by
  have F : Fr [] M M := Fr.refl
  refine PW.aload_n q_103_0 rfl ?_
  refine PW.gI q_103_1 (Or.inl t_ft_103_88) gF_0_10 kd_0 I.1 (by decide) fun x1 fx1 hx1 kx1 => ?_
  clear hx1 kx1
  refine PW.rI q_103_4 rfl (by decide) (by decide) ?_
  exact hK x1 M I F
theorem c_X11_sentence (G : pG) (Kr : pK) (M : pM) (I : Iv gTT M)  (hK : ∀ (x : Int32) (M1 : pM), Iv gTT M1 → Fr [0, 1, 14, 15, 16, 17] M M1 → Kr.1 (some (.int x)) 311 M1) : PW G false 31 104 (p_mc 104) (p_msl 104) Kr 0 (lv_args 0 [.ref 0]) [] 311 M 0 0 := by
  have F : Fr [0, 1, 14, 15, 16, 17] M M := Fr.refl
  refine PW.aload_n q_104_0 rfl ?_
  refine PW.gR 267 q_104_1 (Or.inl t_ft_104_48) gF_0_6 kd_0 I.1 (by decide) rfl ?_
  refine PW.aload_n q_104_4 rfl ?_
  refine PW.gR 1 q_104_5 (Or.inl t_ft_104_10) gF_0_0 kd_0 I.1 (by decide) rfl ?_
  refine PW.aload_n q_104_8 rfl ?_
  refine PW.gR 3 q_104_9 (Or.inl t_ft_104_19) gF_0_1 kd_0 I.1 (by decide) rfl ?_
  refine PW.gR 4 q_104_12 (Or.inr t_fN_104_94) gF_3_0 kd_3 I.1 (by decide) rfl ?_
  refine PW.cV (as := [_, _]) (rest := []) q_104_15 t_mv_104_117 kd_267 I.1 (by decide) rfl (by decide) rfl rfl (Nat.le_of_ble_eq_true rfl) (Nat.le_of_ble_eq_true rfl) (by decide) (by decide) ?_
  refine PW.up (by decide) (c_X4_read (gTT) (Stab0) G _ M I 4 kd_4 fun x2 M1 IM1 GM1 hx2 kx2 => ?_)
  have FM1 := Fr.trans F GM1 (rfl)
  refine PW.istore_n q_104_18 (by decide) ?_
  refine PW.aload_n q_104_19 rfl ?_
  refine PW.gR 1 q_104_20 (Or.inl t_ft_104_10) gF_0_0 kd_0 IM1.1 (by decide) rfl ?_
  refine PW.cI q_104_23 (by decide) fun c3 hc3 => ?_
  refine PW.pI q_104_24 (Or.inr t_fN_104_73) gF_1_1 gP_1_1 kd_1 Stab0 IM1 (by decide) rfl (by omega) (by omega) fun M4 IM4 fM4 UM4 => ?_
  have FM4 := Fr.pu FM1 UM4.1 kd_1 (rfl : List.contains [0, 1, 14, 15, 16, 17] 1 = true)
  refine PW.aload_n q_104_27 rfl ?_
  refine PW.aload_n q_104_28 rfl ?_
  refine PW.gR 1 q_104_29 (Or.inl t_ft_104_10) gF_0_0 kd_0 IM4.1 (by decide) rfl ?_
  refine PW.gI q_104_32 (Or.inr t_fN_104_85) gF_1_10 kd_1 IM4.1 (by decide) fun x5 fx5 hx5 kx5 => ?_
  clear hx5 kx5
  refine PW.pI q_104_35 (Or.inl t_ft_104_88) gF_0_10 gP_0_10 kd_0 Stab0 IM4 (by decide) rfl (n_lo _) (n_hi _) fun M6 IM6 fM6 UM6 => ?_
  have FM6 := Fr.pu FM4 UM6.1 kd_0 (rfl : List.contains [0, 1, 14, 15, 16, 17] 0 = true)
  refine PW.iload_n q_104_38 rfl ?_
  refine PW.jz_ne q_104_39 rfl (fun h7 => ?_) (fun h7 => ?_)
  · skip
    refine PW.aload_n q_104_52 rfl ?_
    refine PW.gR 3 q_104_53 (Or.inl t_ft_104_19) gF_0_1 kd_0 IM6.1 (by decide) rfl ?_
    refine PW.gR 33 q_104_56 (Or.inr t_fN_104_107) gF_3_2 kd_3 IM6.1 (by decide) rfl ?_
    refine PW.aload_n q_104_59 rfl ?_
    refine PW.gR 267 q_104_60 (Or.inl t_ft_104_48) gF_0_6 kd_0 IM6.1 (by decide) rfl ?_
    refine PW.cV (as := [_]) (rest := []) q_104_63 t_mv_104_120 kd_33 IM6.1 (by decide) rfl (by decide) rfl rfl (Nat.le_of_ble_eq_true rfl) (Nat.le_of_ble_eq_true rfl) (by decide) (by decide) ?_
    refine PW.up (by decide) (c_X4_copyFrom (gTT) (Stab0) G _ M6 IM6 33 kd_33 267 kd_267 fun M8 IM8 GM8 => ?_)
    have FM8 := Fr.trans FM6 GM8 (rfl)
    refine PW.aload_n q_104_66 rfl ?_
    refine PW.gR 267 q_104_67 (Or.inl t_ft_104_48) gF_0_6 kd_0 IM8.1 (by decide) rfl ?_
    refine PW.gI q_104_70 (Or.inr t_fN_104_123) gF_14_0 kd_267 IM8.1 (by decide) fun x9 fx9 hx9 kx9 => ?_
    clear hx9 kx9
    refine PW.rI q_104_73 rfl (by decide) (by decide) ?_
    exact hK x9 M8 IM8 FM8
  · skip
    refine PW.cI q_104_42 (by decide) fun c10 hc10 => ?_
    refine PW.aload_n q_104_43 rfl ?_
    refine PW.gR 1 q_104_44 (Or.inl t_ft_104_10) gF_0_0 kd_0 IM6.1 (by decide) rfl ?_
    refine PW.gI q_104_47 (Or.inr t_fN_104_91) gF_1_11 kd_1 IM6.1 (by decide) fun x11 fx11 hx11 kx11 => ?_
    clear hx11 kx11
    refine PW.subN q_104_50 (by have := n_lo x11; have := n_hi x11; omega) (by have := n_lo x11; have := n_hi x11; omega) fun x12 hx12 => ?_
    refine PW.rI q_104_51 rfl (by decide) (by decide) ?_
    exact hK x12 M6 IM6 FM6
theorem c_X11_told (G : pG) (Kr : pK) (M : pM) (I : Iv gTT M) (a1 : Int32) (hK : ∀ (x : Int32) (M1 : pM), Iv gTT M1 → Fr [18] M M1 → Kr.1 (some (.int x)) 311 M1) : PW G false 5 105 (p_mc 105) (p_msl 105) Kr 0 (lv_args 0 [.ref 0, .int a1]) [] 311 M 0 0 := by
  have F : Fr [18] M M := Fr.refl
  refine PW.aload_n q_105_0 rfl ?_
  refine PW.gR 3 q_105_1 (Or.inl t_ft_105_19) gF_0_1 kd_0 I.1 (by decide) rfl ?_
  refine PW.gR 33 q_105_4 (Or.inr t_fN_105_107) gF_3_2 kd_3 I.1 (by decide) rfl ?_
  refine PW.gI q_105_7 (Or.inr t_fN_105_123) gF_14_0 kd_33 I.1 (by decide) fun x1 fx1 hx1 kx1 => ?_
  clear hx1 kx1
  refine PW.jz_ne q_105_10 rfl (fun h2 => ?_) (fun h2 => ?_)
  · skip
    refine PW.aload_n q_105_15 rfl ?_
    refine PW.gR 3 q_105_16 (Or.inl t_ft_105_19) gF_0_1 kd_0 I.1 (by decide) rfl ?_
    refine PW.gR 33 q_105_19 (Or.inr t_fN_105_107) gF_3_2 kd_3 I.1 (by decide) rfl ?_
    refine PW.aload_n q_105_22 rfl ?_
    refine PW.gR 3 q_105_23 (Or.inl t_ft_105_19) gF_0_1 kd_0 I.1 (by decide) rfl ?_
    refine PW.gR 4 q_105_26 (Or.inr t_fN_105_94) gF_3_0 kd_3 I.1 (by decide) rfl ?_
    refine PW.aload_n q_105_29 rfl ?_
    refine PW.gR 3 q_105_30 (Or.inl t_ft_105_19) gF_0_1 kd_0 I.1 (by decide) rfl ?_
    refine PW.gR 15 q_105_33 (Or.inr t_fN_105_101) gF_3_1 kd_3 I.1 (by decide) rfl ?_
    refine PW.cV (as := [_, _]) (rest := []) q_105_36 t_mv_105_126 kd_33 I.1 (by decide) rfl (by decide) rfl rfl (Nat.le_of_ble_eq_true rfl) (Nat.le_of_ble_eq_true rfl) (by decide) (by decide) ?_
    refine PW.up (by decide) (c_X4_saidOf (gTT) (Stab0) G _ M I 33 kd_33 4 kd_4 15 kd_15 fun x4 M3 IM3 GM3 => ?_)
    have FM3 := Fr.trans F GM3 (rfl)
    refine PW.istore_n q_105_39 (by decide) ?_
    refine PW.iload_n q_105_40 rfl ?_
    refine PW.cI q_105_41 (by decide) fun c5 hc5 => ?_
    refine PW.jc_ne q_105_42 rfl (fun h6 => ?_) (fun h6 => ?_)
    · skip
      refine PW.cI q_105_50 (by decide) fun c7 hc7 => ?_
      refine PW.istore_n q_105_51 (by decide) ?_
      refine PW.cI q_105_52 (by decide) fun c8 hc8 => ?_
      refine PW.istore q_105_53 (by decide) ?_
      have L105_55_9 : ∀ (n : Nat) (ML105_55_9 : pM) (v10 v11 : Int32), Iv (gTT) ML105_55_9 → Fr [18] M ML105_55_9 → 0 ≤ v11.toInt → v11.toInt ≤ 6 → (6 - v11.toInt).toNat = n → PW G false 5 105 (p_mc 105) (p_msl 105) Kr 55 [(0, .ref 0), (1, .int a1), (2, .int x4), (3, .int v10), (4, .int v11)] [] 311 ML105_55_9 0 0 := by
        intro n
        induction n using Nat.strongRecOn with
        | ind n ih_L105_55_9 =>
        intro ML105_55_9 v10 v11 IML105_55_9 FML105_55_9 hbL105_55_90 hbL105_55_91 hmL105_55_9
        refine PW.iload q_105_55 rfl ?_
        refine PW.aload_n q_105_57 rfl ?_
        refine PW.gR 3 q_105_58 (Or.inl t_ft_105_19) gF_0_1 kd_0 IML105_55_9.1 (by decide) rfl ?_
        refine PW.gR 4 q_105_61 (Or.inr t_fN_105_94) gF_3_0 kd_3 IML105_55_9.1 (by decide) rfl ?_
        refine PW.gI q_105_64 (Or.inr t_fN_105_136) gF_4_6 kd_4 IML105_55_9.1 (by decide) fun x12 fx12 hx12 kx12 => ?_
        refine PW.jc_ge q_105_67 rfl (fun h13 => ?_) (fun h13 => ?_)
        · skip
          refine PW.cI q_105_96 (by decide) fun c14 hc14 => ?_
          refine PW.rI q_105_97 rfl (by decide) (by decide) ?_
          exact hK c14 ML105_55_9 IML105_55_9 FML105_55_9
        · skip
          refine PW.iload_n q_105_70 rfl ?_
          refine PW.iload q_105_71 rfl ?_
          refine PW.shrH q_105_73 fun x15 => ?_
          refine PW.cI q_105_74 (by decide) fun c16 hc16 => ?_
          refine PW.andP q_105_75 (by omega) fun x17 hx17 kx17 => ?_
          have J90_19 : ∀ (MJ90_19 : pM) (v20 : Int32), Iv (gTT) MJ90_19 → Fr [18] M MJ90_19 → o_f (MJ90_19 4) 6 = .int x12 → PW G false 5 105 (p_mc 105) (p_msl 105) Kr 90 [(0, .ref 0), (1, .int a1), (2, .int x4), (3, .int v20), (4, .int v11)] [] 311 MJ90_19 0 0 := by
            intro MJ90_19 v20 IMJ90_19 FMJ90_19 hbJ90_190
            refine PW.incN q_105_90 rfl (by decide) (by decide) (by omega) (by omega) fun x21 hx21 => ?_
            refine PW.goto q_105_93 rfl ?_
            refine PW.lvS (lk1 rfl (lk1 rfl (lk1 rfl (lk1 rfl (lk1 rfl lk0))))) (ih_L105_55_9 _ ?_ MJ90_19 v20 x21 IMJ90_19 FMJ90_19 (by omega) (by omega) rfl)
            omega
          refine PW.jz_eq q_105_76 rfl (fun h18 => ?_) (fun h18 => ?_)
          · skip
            exact PW.lvS (lk1 rfl (lk1 rfl (lk1 rfl (lk1 rfl (lk1 rfl lk0))))) (J90_19 ML105_55_9 v10 IML105_55_9 FML105_55_9 fx12)
          · skip
            refine PW.iload_n q_105_79 rfl ?_
            refine PW.iload_n q_105_80 rfl ?_
            refine PW.jc_ne q_105_81 rfl (fun h22 => ?_) (fun h22 => ?_)
            · skip
              refine PW.incH q_105_87 rfl (by decide) fun x23 => ?_
              exact PW.lvS (lk1 rfl (lk1 rfl (lk1 rfl (lk1 rfl (lk1 rfl lk0))))) (J90_19 ML105_55_9 x23 IML105_55_9 FML105_55_9 fx12)
            · skip
              refine PW.iload q_105_84 rfl ?_
              refine PW.rI q_105_86 rfl (by decide) (by decide) ?_
              exact hK v11 ML105_55_9 IML105_55_9 FML105_55_9
      exact PW.lvS (lk1 rfl (lk1 rfl (lk1 rfl (lk1 rfl (lk1 rfl lk0))))) (L105_55_9 _ M3 c7 c8 IM3 FM3 (by omega) (by omega) rfl)
    · skip
      refine PW.iload_n q_105_45 rfl ?_
      refine PW.callS (as := [_]) (rest := []) q_105_46 t_ms_105_130 (by decide) rfl (Nat.le_of_ble_eq_true rfl) (Nat.le_of_ble_eq_true rfl) (by decide) (by decide) ?_
      refine PW.up (by decide) (c_J6_bitCount_0f7a4 (gTT) (Stab0) G _ M3 IM3 x4 fun x25 M24 IM24 GM24 => ?_)
      have FM24 := Fr.trans FM3 GM24 (rfl)
      refine PW.rI q_105_49 rfl (by decide) (by decide) ?_
      exact hK x25 M24 IM24 FM24
  · skip
    refine PW.cI q_105_13 (by decide) fun c26 hc26 => ?_
    refine PW.rI q_105_14 rfl (by decide) (by decide) ?_
    exact hK c26 M I F
theorem c_X11_foreseen (G : pG) (Kr : pK) (M : pM) (I : Iv gTT M)  (hK : ∀ (M1 : pM), Iv gTT M1 → Fr [5, 7, 9, 10, 11, 12, 13] M M1 → Kr.1 (some (.ref 275)) 311 M1) : PW G false 4 146 (p_mc 146) (p_msl 146) Kr 0 (lv_args 0 [.ref 0]) [] 311 M 0 0 := by
  have F : Fr [5, 7, 9, 10, 11, 12, 13] M M := Fr.refl
  refine PW.aload_n q_146_0 rfl ?_
  refine PW.gR 275 q_146_1 (Or.inl t_ft_146_62) gF_0_8 kd_0 I.1 (by decide) rfl ?_
  refine PW.aload_n q_146_4 rfl ?_
  refine PW.gR 3 q_146_5 (Or.inl t_ft_146_19) gF_0_1 kd_0 I.1 (by decide) rfl ?_
  refine PW.gR 15 q_146_8 (Or.inr t_fN_146_101) gF_3_1 kd_3 I.1 (by decide) rfl ?_
  refine PW.cV (as := [_]) (rest := []) q_146_11 t_mv_146_151 kd_275 I.1 (by decide) rfl (by decide) rfl rfl (Nat.le_of_ble_eq_true rfl) (Nat.le_of_ble_eq_true rfl) (by decide) (by decide) ?_
  refine PW.up (by decide) (c_X5_copyFrom G _ M I 275 kd_275 15 kd_15 fun M1 IM1 GM1 => ?_)
  have FM1 := Fr.trans F GM1 (rfl)
  refine PW.aload_n q_146_14 rfl ?_
  refine PW.gR 275 q_146_15 (Or.inl t_ft_146_62) gF_0_8 kd_0 IM1.1 (by decide) rfl ?_
  refine PW.aret q_146_18 rfl (by decide) (by decide) ?_
  exact hK M1 IM1 FM1
theorem c_X11_log (G : pG) (Kr : pK) (M : pM) (I : Iv gTT M) (a1 : Int32) (hK : ∀ (x : Int32) (M1 : pM), Iv gTT M1 → Fr [0, 1, 5, 7, 9, 10, 11, 12, 13, 21, 23, 24, 25] M M1 → Kr.1 (some (.int x)) 311 M1) : PW G false 7 106 (p_mc 106) (p_msl 106) Kr 0 (lv_args 0 [.ref 0, .int a1]) [] 311 M 0 0 := by
  have F : Fr [0, 1, 5, 7, 9, 10, 11, 12, 13, 21, 23, 24, 25] M M := Fr.refl
  refine PW.iload_n q_106_0 rfl ?_
  have J13_2 : ∀ (MJ13_2 : pM), Iv (gTT) MJ13_2 → Fr [0, 1, 5, 7, 9, 10, 11, 12, 13, 21, 23, 24, 25] M MJ13_2 → PW G false 7 106 (p_mc 106) (p_msl 106) Kr 13 [(0, .ref 0), (1, .int a1)] [] 311 MJ13_2 0 0 := by
    intro MJ13_2  IMJ13_2 FMJ13_2 
    refine PW.aload_n q_106_13 rfl ?_
    refine PW.gR 272 q_106_14 (Or.inl t_ft_106_55) gF_0_7 kd_0 IMJ13_2.1 (by decide) rfl ?_
    refine PW.aload_n q_106_17 rfl ?_
    refine PW.gR 1 q_106_18 (Or.inl t_ft_106_10) gF_0_0 kd_0 IMJ13_2.1 (by decide) rfl ?_
    refine PW.aload_n q_106_21 rfl ?_
    refine PW.gR 3 q_106_22 (Or.inl t_ft_106_19) gF_0_1 kd_0 IMJ13_2.1 (by decide) rfl ?_
    refine PW.gR 4 q_106_25 (Or.inr t_fN_106_94) gF_3_0 kd_3 IMJ13_2.1 (by decide) rfl ?_
    refine PW.cV (as := [_, _]) (rest := []) q_106_28 t_mv_106_139 kd_272 IMJ13_2.1 (by decide) rfl (by decide) rfl rfl (Nat.le_of_ble_eq_true rfl) (Nat.le_of_ble_eq_true rfl) (by decide) (by decide) ?_
    refine PW.up (by decide) (c_X6_read G _ MJ13_2 IMJ13_2 4 kd_4 fun x4 M3 IM3 GM3 hx4 kx4 => ?_)
    have FM3 := Fr.trans FMJ13_2 GM3 (rfl)
    refine PW.istore_n q_106_31 (by decide) ?_
    refine PW.aload_n q_106_32 rfl ?_
    refine PW.gR 1 q_106_33 (Or.inl t_ft_106_10) gF_0_0 kd_0 IM3.1 (by decide) rfl ?_
    refine PW.cI q_106_36 (by decide) fun c5 hc5 => ?_
    refine PW.pI q_106_37 (Or.inr t_fN_106_73) gF_1_1 gP_1_1 kd_1 (Stab6 G) IM3 (by decide) rfl (by omega) (by omega) fun M6 IM6 fM6 UM6 => ?_
    have FM6 := Fr.pu FM3 UM6.1 kd_1 (rfl : List.contains [0, 1, 5, 7, 9, 10, 11, 12, 13, 21, 23, 24, 25] 1 = true)
    refine PW.aload_n q_106_40 rfl ?_
    refine PW.aload_n q_106_41 rfl ?_
    refine PW.gR 1 q_106_42 (Or.inl t_ft_106_10) gF_0_0 kd_0 IM6.1 (by decide) rfl ?_
    refine PW.gI q_106_45 (Or.inr t_fN_106_85) gF_1_10 kd_1 IM6.1 (by decide) fun x7 fx7 hx7 kx7 => ?_
    clear hx7 kx7
    refine PW.pI q_106_48 (Or.inl t_ft_106_88) gF_0_10 gP_0_10 kd_0 (Stab6 G) IM6 (by decide) rfl (n_lo _) (n_hi _) fun M8 IM8 fM8 UM8 => ?_
    have FM8 := Fr.pu FM6 UM8.1 kd_0 (rfl : List.contains [0, 1, 5, 7, 9, 10, 11, 12, 13, 21, 23, 24, 25] 0 = true)
    refine PW.iload_n q_106_51 rfl ?_
    refine PW.jz_ne q_106_52 rfl (fun h9 => ?_) (fun h9 => ?_)
    · skip
      refine PW.aload_n q_106_66 rfl ?_
      refine PW.gR 272 q_106_67 (Or.inl t_ft_106_55) gF_0_7 kd_0 IM8.1 (by decide) rfl ?_
      refine PW.aload_n q_106_70 rfl ?_
      refine PW.gR 3 q_106_71 (Or.inl t_ft_106_19) gF_0_1 kd_0 IM8.1 (by decide) rfl ?_
      refine PW.gR 4 q_106_74 (Or.inr t_fN_106_94) gF_3_0 kd_3 IM8.1 (by decide) rfl ?_
      refine PW.aload_n q_106_77 rfl ?_
      refine PW.cV (as := []) (rest := [_, _]) q_106_78 t_mv_106_140 kd_0 IM8.1 (by decide) rfl (by decide) rfl rfl (Nat.le_of_ble_eq_true rfl) (Nat.le_of_ble_eq_true rfl) (by decide) (by decide) ?_
      refine PW.up (by decide) (c_X11_foreseen G _ M8 ⟨IM8.1, IM8.2.1⟩  fun M10 IM10 GM10 => ?_)
      have FM10 := Fr.trans FM8 GM10 (rfl)
      have LM10 : Iv (gT6 G) M10 := ⟨IM10.1, IM10.2, gS6.same IM8.2.2 (Fr.at GM10 kd_272 rfl) (Fr.at GM10 kd_273 rfl) (Fr.at GM10 kd_274 rfl)⟩
      refine PW.cV (as := [_, _]) (rest := []) q_106_81 t_mv_106_144 kd_272 LM10.1 (by decide) rfl (by decide) rfl rfl (Nat.le_of_ble_eq_true rfl) (Nat.le_of_ble_eq_true rfl) (by decide) (by decide) ?_
      refine PW.up (by decide) (c_X6_play G _ M10 LM10 4 kd_4 275 kd_275 fun x12 M11 IM11 GM11 => ?_)
      have FM11 := Fr.trans FM10 GM11 (rfl)
      refine PW.istore_n q_106_84 (by decide) ?_
      refine PW.iload_n q_106_85 rfl ?_
      refine PW.cI q_106_86 (by decide) fun c13 hc13 => ?_
      refine PW.jc_ne q_106_87 rfl (fun h14 => ?_) (fun h14 => ?_)
      · skip
        refine PW.iload_n q_106_118 rfl ?_
        refine PW.rI q_106_119 rfl (by decide) (by decide) ?_
        exact hK x12 M11 ⟨IM11.1, IM11.2.1⟩ FM11
      · skip
        refine PW.aload_n q_106_90 rfl ?_
        refine PW.gR 110 q_106_91 (Or.inl t_ft_106_34) gF_0_4 kd_0 IM11.1 (by decide) rfl ?_
        refine PW.aload_n q_106_94 rfl ?_
        refine PW.gR 3 q_106_95 (Or.inl t_ft_106_19) gF_0_1 kd_0 IM11.1 (by decide) rfl ?_
        refine PW.gR 15 q_106_98 (Or.inr t_fN_106_101) gF_3_1 kd_3 IM11.1 (by decide) rfl ?_
        refine PW.cV (as := [_]) (rest := []) q_106_101 t_mv_106_147 kd_110 IM11.1 (by decide) rfl (by decide) rfl rfl (Nat.le_of_ble_eq_true rfl) (Nat.le_of_ble_eq_true rfl) (by decide) (by decide) ?_
        refine PW.up (by decide) (c_X1_keep G _ M11 ⟨IM11.1, IM11.2.1⟩ 15 kd_15 fun M15 IM15 GM15 => ?_)
        have FM15 := Fr.trans FM11 GM15 (rfl)
        have LM15 : Iv (gT6 G) M15 := ⟨IM15.1, IM15.2, gS6.same IM11.2.2 (Fr.at GM15 kd_272 rfl) (Fr.at GM15 kd_273 rfl) (Fr.at GM15 kd_274 rfl)⟩
        refine PW.aload_n q_106_104 rfl ?_
        refine PW.gR 3 q_106_105 (Or.inl t_ft_106_19) gF_0_1 kd_0 LM15.1 (by decide) rfl ?_
        refine PW.gR 15 q_106_108 (Or.inr t_fN_106_101) gF_3_1 kd_3 LM15.1 (by decide) rfl ?_
        refine PW.aload_n q_106_111 rfl ?_
        refine PW.gR 275 q_106_112 (Or.inl t_ft_106_62) gF_0_8 kd_0 LM15.1 (by decide) rfl ?_
        refine PW.cV (as := [_]) (rest := []) q_106_115 t_mv_106_151 kd_15 LM15.1 (by decide) rfl (by decide) rfl rfl (Nat.le_of_ble_eq_true rfl) (Nat.le_of_ble_eq_true rfl) (by decide) (by decide) ?_
        refine PW.up (by decide) (c_X5_copyFrom G _ M15 ⟨LM15.1, LM15.2.1⟩ 15 kd_15 275 kd_275 fun M16 IM16 GM16 => ?_)
        have FM16 := Fr.trans FM15 GM16 (rfl)
        have LM16 : Iv (gT6 G) M16 := ⟨IM16.1, IM16.2, gS6.same LM15.2.2 (Fr.at GM16 kd_272 rfl) (Fr.at GM16 kd_273 rfl) (Fr.at GM16 kd_274 rfl)⟩
        refine PW.iload_n q_106_118 rfl ?_
        refine PW.rI q_106_119 rfl (by decide) (by decide) ?_
        exact hK x12 M16 ⟨LM16.1, LM16.2.1⟩ FM16
    · skip
      refine PW.cB q_106_55 (by decide) fun c17 hc17 => ?_
      refine PW.aload_n q_106_57 rfl ?_
      refine PW.gR 1 q_106_58 (Or.inl t_ft_106_10) gF_0_0 kd_0 IM8.1 (by decide) rfl ?_
      refine PW.gI q_106_61 (Or.inr t_fN_106_91) gF_1_11 kd_1 IM8.1 (by decide) fun x18 fx18 hx18 kx18 => ?_
      clear hx18 kx18
      refine PW.subH q_106_64 fun x19 => ?_
      refine PW.rI q_106_65 rfl (by decide) (by decide) ?_
      exact hK x19 M8 ⟨IM8.1, IM8.2.1⟩ FM8
  refine PW.jz_eq q_106_1 rfl (fun h1 => ?_) (fun h1 => ?_)
  · skip
    exact PW.lvS (lk1 rfl (lk1 rfl lk0)) (J13_2 M  I F )
  · skip
    refine PW.iload_n q_106_4 rfl ?_
    refine PW.cI q_106_5 (by decide) fun c20 hc20 => ?_
    refine PW.jc_eq q_106_6 rfl (fun h21 => ?_) (fun h21 => ?_)
    · skip
      exact PW.lvS (lk1 rfl (lk1 rfl lk0)) (J13_2 M  I F )
    · skip
      refine PW.cS q_106_9 (by decide) fun c22 hc22 => ?_
      refine PW.rI q_106_12 rfl (by decide) (by decide) ?_
      exact hK c22 M I F
theorem c_X11_logged (G : pG) (Kr : pK) (M : pM) (I : Iv gTT M) (a1 : Int32) (hK : ∀ (x : Int32) (M1 : pM), Iv gTT M1 → Fr [] M M1 → Kr.1 (some (.int x)) 311 M1) : PW G false 0 107 (p_mc 107) (p_msl 107) Kr 0 (lv_args 0 [.ref 0, .int a1]) [] 311 M 0 0 := by
  have F : Fr [] M M := Fr.refl
  refine PW.aload_n q_107_0 rfl ?_
  refine PW.gR 272 q_107_1 (Or.inl t_ft_107_55) gF_0_7 kd_0 I.1 (by decide) rfl ?_
  refine PW.gI q_107_4 (Or.inr t_fN_107_153) gF_23_3 kd_272 I.1 (by decide) fun x1 fx1 hx1 kx1 => ?_
  refine PW.jz_ne q_107_7 rfl (fun h2 => ?_) (fun h2 => ?_)
  · skip
    refine PW.iload_n q_107_12 rfl ?_
    have h3 : a1.toInt = 0 ∨ a1.toInt = 1 ∨ a1.toInt = 2 ∨ a1.toInt = 3 ∨ (a1.toInt < 0 ∨ 3 < a1.toInt) := by omega
    rcases h3 with h3 | h3 | h3 | h3 | h3
    · skip
      refine PW.sw1 (0) h3 q_107_13 (by decide) (by decide) rfl rfl ?_
      refine PW.aload_n q_107_44 rfl ?_
      refine PW.gR 272 q_107_45 (Or.inl t_ft_107_55) gF_0_7 kd_0 I.1 (by decide) rfl ?_
      refine PW.gI q_107_48 (Or.inr t_fN_107_157) gF_23_4 kd_272 I.1 (by decide) fun x4 fx4 hx4 kx4 => ?_
      clear hx4 kx4
      refine PW.rI q_107_51 rfl (by decide) (by decide) ?_
      exact hK x4 M I F
    · skip
      refine PW.sw1 (1) h3 q_107_13 (by decide) (by decide) rfl rfl ?_
      refine PW.aload_n q_107_52 rfl ?_
      refine PW.gR 272 q_107_53 (Or.inl t_ft_107_55) gF_0_7 kd_0 I.1 (by decide) rfl ?_
      refine PW.gI q_107_56 (Or.inr t_fN_107_160) gF_23_5 kd_272 I.1 (by decide) fun x5 fx5 hx5 kx5 => ?_
      clear hx5 kx5
      refine PW.rI q_107_59 rfl (by decide) (by decide) ?_
      exact hK x5 M I F
    · skip
      refine PW.sw1 (2) h3 q_107_13 (by decide) (by decide) rfl rfl ?_
      refine PW.aload_n q_107_60 rfl ?_
      refine PW.gR 272 q_107_61 (Or.inl t_ft_107_55) gF_0_7 kd_0 I.1 (by decide) rfl ?_
      refine PW.gI q_107_64 (Or.inr t_fN_107_163) gF_23_6 kd_272 I.1 (by decide) fun x6 fx6 hx6 kx6 => ?_
      clear hx6 kx6
      refine PW.rI q_107_67 rfl (by decide) (by decide) ?_
      exact hK x6 M I F
    · skip
      refine PW.sw1 (3) h3 q_107_13 (by decide) (by decide) rfl rfl ?_
      refine PW.aload_n q_107_68 rfl ?_
      refine PW.gR 272 q_107_69 (Or.inl t_ft_107_55) gF_0_7 kd_0 I.1 (by decide) rfl ?_
      refine PW.gI q_107_72 (Or.inr t_fN_107_166) gF_23_7 kd_272 I.1 (by decide) fun x7 fx7 hx7 kx7 => ?_
      clear hx7 kx7
      refine PW.rI q_107_75 rfl (by decide) (by decide) ?_
      exact hK x7 M I F
    · skip
      refine PW.tswO q_107_13 h3 rfl ?_
      refine PW.cI q_107_76 (by decide) fun c8 hc8 => ?_
      refine PW.rI q_107_77 rfl (by decide) (by decide) ?_
      exact hK c8 M I F
  · skip
    refine PW.cI q_107_10 (by decide) fun c9 hc9 => ?_
    refine PW.rI q_107_11 rfl (by decide) (by decide) ?_
    exact hK c9 M I F
