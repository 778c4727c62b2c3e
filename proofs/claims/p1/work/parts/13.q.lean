theorem q_50_0 : p_tb 50 0 = some (.iconst 0, 1) := by decide +kernel
theorem q_50_1 : p_tb 50 1 = some (.istore_n 1, 1) := by decide +kernel
theorem q_50_2 : p_tb 50 2 = some (.iconst 0, 1) := by decide +kernel
theorem q_50_3 : p_tb 50 3 = some (.istore_n 2, 1) := by decide +kernel
theorem q_50_4 : p_tb 50 4 = some (.iload_n 2, 1) := by decide +kernel
theorem q_50_5 : p_tb 50 5 = some (.bipush 6, 2) := by decide +kernel
theorem q_50_7 : p_tb 50 7 = some (.if_icmp .ge 27, 3) := by decide +kernel
theorem q_50_10 : p_tb 50 10 = some (.aload_n 0, 1) := by decide +kernel
theorem q_50_11 : p_tb 50 11 = some (.getfield 20, 3) := by decide +kernel
theorem q_50_14 : p_tb 50 14 = some (.iload_n 2, 1) := by decide +kernel
theorem q_50_15 : p_tb 50 15 = some (.aaload, 1) := by decide +kernel
theorem q_50_16 : p_tb 50 16 = some (.getfield 84, 3) := by decide +kernel
theorem q_50_19 : p_tb 50 19 = some (.ifCond .eq 9, 3) := by decide +kernel
theorem q_50_28 : p_tb 50 28 = some (.iinc 2 1, 3) := by decide +kernel
theorem q_50_31 : p_tb 50 31 = some (.goto (-27), 3) := by decide +kernel
theorem q_50_34 : p_tb 50 34 = some (.iload_n 1, 1) := by decide +kernel
theorem q_50_35 : p_tb 50 35 = some (.ireturn, 1) := by decide +kernel
theorem q_51_0 : p_tb 51 0 = some (.iconst 0, 1) := by decide +kernel
theorem q_51_1 : p_tb 51 1 = some (.istore_n 2, 1) := by decide +kernel
theorem q_51_2 : p_tb 51 2 = some (.iconst 0, 1) := by decide +kernel
theorem q_51_3 : p_tb 51 3 = some (.istore_n 3, 1) := by decide +kernel
theorem q_51_4 : p_tb 51 4 = some (.iload_n 3, 1) := by decide +kernel
theorem q_51_5 : p_tb 51 5 = some (.iload_n 1, 1) := by decide +kernel
theorem q_51_6 : p_tb 51 6 = some (.if_icmp .ge 27, 3) := by decide +kernel
theorem q_51_33 : p_tb 51 33 = some (.iload_n 2, 1) := by decide +kernel
theorem q_51_34 : p_tb 51 34 = some (.ireturn, 1) := by decide +kernel
theorem q_52_0 : p_tb 52 0 = some (.iconst 0, 1) := by decide +kernel
theorem q_52_1 : p_tb 52 1 = some (.istore_n 1, 1) := by decide +kernel
theorem q_52_2 : p_tb 52 2 = some (.iconst 0, 1) := by decide +kernel
theorem q_52_3 : p_tb 52 3 = some (.istore_n 2, 1) := by decide +kernel
theorem q_52_4 : p_tb 52 4 = some (.iload_n 2, 1) := by decide +kernel
theorem q_52_5 : p_tb 52 5 = some (.iconst 2, 1) := by decide +kernel
theorem q_52_6 : p_tb 52 6 = some (.if_icmp .ge 21, 3) := by decide +kernel
theorem q_52_9 : p_tb 52 9 = some (.iload_n 1, 1) := by decide +kernel
theorem q_52_10 : p_tb 52 10 = some (.aload_n 0, 1) := by decide +kernel
theorem q_52_11 : p_tb 52 11 = some (.getfield 27, 3) := by decide +kernel
theorem q_52_14 : p_tb 52 14 = some (.iload_n 2, 1) := by decide +kernel
theorem q_52_15 : p_tb 52 15 = some (.aaload, 1) := by decide +kernel
theorem q_52_16 : p_tb 52 16 = some (.getfield 91, 3) := by decide +kernel
theorem q_52_19 : p_tb 52 19 = some (.iadd, 1) := by decide +kernel
theorem q_52_20 : p_tb 52 20 = some (.istore_n 1, 1) := by decide +kernel
theorem q_52_21 : p_tb 52 21 = some (.iinc 2 1, 3) := by decide +kernel
theorem q_52_24 : p_tb 52 24 = some (.goto (-20), 3) := by decide +kernel
theorem q_52_27 : p_tb 52 27 = some (.iload_n 1, 1) := by decide +kernel
theorem q_52_28 : p_tb 52 28 = some (.ireturn, 1) := by decide +kernel
theorem q_74_0 : p_tb 74 0 = some (.bipush 24, 2) := by decide +kernel
theorem q_74_2 : p_tb 74 2 = some (.istore_n 2, 1) := by decide +kernel
theorem q_74_3 : p_tb 74 3 = some (.iload_n 2, 1) := by decide +kernel
theorem q_74_4 : p_tb 74 4 = some (.ifCond .lt 42, 3) := by decide +kernel
theorem q_74_7 : p_tb 74 7 = some (.aload_n 0, 1) := by decide +kernel
theorem q_74_8 : p_tb 74 8 = some (.getfield 26, 3) := by decide +kernel
theorem q_74_11 : p_tb 74 11 = some (.sipush 940, 3) := by decide +kernel
theorem q_74_14 : p_tb 74 14 = some (.if_icmp .ge 26, 3) := by decide +kernel
theorem q_74_17 : p_tb 74 17 = some (.aload_n 0, 1) := by decide +kernel
theorem q_74_18 : p_tb 74 18 = some (.getfield 9, 3) := by decide +kernel
theorem q_74_21 : p_tb 74 21 = some (.aload_n 0, 1) := by decide +kernel
theorem q_74_22 : p_tb 74 22 = some (.getfield 26, 3) := by decide +kernel
theorem q_74_25 : p_tb 74 25 = some (.iload_n 1, 1) := by decide +kernel
theorem q_74_26 : p_tb 74 26 = some (.iload_n 2, 1) := by decide +kernel
theorem q_74_27 : p_tb 74 27 = some (.ishr, 1) := by decide +kernel
theorem q_74_28 : p_tb 74 28 = some (.i2b, 1) := by decide +kernel
theorem q_74_29 : p_tb 74 29 = some (.bastore, 1) := by decide +kernel
theorem q_74_30 : p_tb 74 30 = some (.aload_n 0, 1) := by decide +kernel
theorem q_74_31 : p_tb 74 31 = some (.dup, 1) := by decide +kernel
theorem q_74_32 : p_tb 74 32 = some (.getfield 26, 3) := by decide +kernel
theorem q_74_35 : p_tb 74 35 = some (.iconst 1, 1) := by decide +kernel
theorem q_74_36 : p_tb 74 36 = some (.iadd, 1) := by decide +kernel
theorem q_74_37 : p_tb 74 37 = some (.putfield 26, 3) := by decide +kernel
theorem q_74_40 : p_tb 74 40 = some (.iinc 2 (-8), 3) := by decide +kernel
theorem q_74_43 : p_tb 74 43 = some (.goto (-40), 3) := by decide +kernel
theorem q_74_46 : p_tb 74 46 = some (.return_, 1) := by decide +kernel
theorem q_100_0 : p_tb 100 0 = some (.aload_n 0, 1) := by decide +kernel
theorem q_100_1 : p_tb 100 1 = some (.getfield 10, 3) := by decide +kernel
theorem q_100_4 : p_tb 100 4 = some (.getfield 73, 3) := by decide +kernel
theorem q_100_7 : p_tb 100 7 = some (.bipush 20, 2) := by decide +kernel
theorem q_100_9 : p_tb 100 9 = some (.iadd, 1) := by decide +kernel
theorem q_100_10 : p_tb 100 10 = some (.sipush 940, 3) := by decide +kernel
theorem q_100_13 : p_tb 100 13 = some (.if_icmp .le 5, 3) := by decide +kernel
theorem q_100_18 : p_tb 100 18 = some (.aload_n 0, 1) := by decide +kernel
theorem q_100_19 : p_tb 100 19 = some (.getfield 10, 3) := by decide +kernel
theorem q_100_22 : p_tb 100 22 = some (.iload_n 1, 1) := by decide +kernel
theorem q_100_23 : p_tb 100 23 = some (.invokevirtual 77, 3) := by decide +kernel
theorem q_100_26 : p_tb 100 26 = some (.aload_n 0, 1) := by decide +kernel
theorem q_100_27 : p_tb 100 27 = some (.getfield 10, 3) := by decide +kernel
theorem q_100_30 : p_tb 100 30 = some (.iload_n 2, 1) := by decide +kernel
theorem q_100_31 : p_tb 100 31 = some (.invokevirtual 77, 3) := by decide +kernel
theorem q_100_34 : p_tb 100 34 = some (.aload_n 0, 1) := by decide +kernel
theorem q_100_35 : p_tb 100 35 = some (.getfield 10, 3) := by decide +kernel
theorem q_100_38 : p_tb 100 38 = some (.iload_n 3, 1) := by decide +kernel
theorem q_100_39 : p_tb 100 39 = some (.invokevirtual 77, 3) := by decide +kernel
theorem q_100_42 : p_tb 100 42 = some (.aload_n 0, 1) := by decide +kernel
theorem q_100_43 : p_tb 100 43 = some (.getfield 10, 3) := by decide +kernel
theorem q_100_46 : p_tb 100 46 = some (.iload 4, 2) := by decide +kernel
theorem q_100_48 : p_tb 100 48 = some (.invokevirtual 77, 3) := by decide +kernel
theorem q_100_51 : p_tb 100 51 = some (.aload_n 0, 1) := by decide +kernel
theorem q_100_52 : p_tb 100 52 = some (.getfield 10, 3) := by decide +kernel
theorem q_100_55 : p_tb 100 55 = some (.iload 5, 2) := by decide +kernel
theorem q_100_57 : p_tb 100 57 = some (.invokevirtual 77, 3) := by decide +kernel
theorem q_100_60 : p_tb 100 60 = some (.aload_n 0, 1) := by decide +kernel
theorem q_100_61 : p_tb 100 61 = some (.getfield 10, 3) := by decide +kernel
theorem q_100_64 : p_tb 100 64 = some (.getfield 73, 3) := by decide +kernel
theorem q_100_67 : p_tb 100 67 = some (.ireturn, 1) := by decide +kernel
theorem q_101_0 : p_tb 101 0 = some (.iload_n 1, 1) := by decide +kernel
theorem q_101_1 : p_tb 101 1 = some (.ifCond .lt 14, 3) := by decide +kernel
theorem q_101_4 : p_tb 101 4 = some (.iload_n 1, 1) := by decide +kernel
theorem q_101_5 : p_tb 101 5 = some (.aload_n 0, 1) := by decide +kernel
theorem q_101_6 : p_tb 101 6 = some (.getfield 10, 3) := by decide +kernel
theorem q_101_9 : p_tb 101 9 = some (.getfield 73, 3) := by decide +kernel
theorem q_101_12 : p_tb 101 12 = some (.if_icmp .le 5, 3) := by decide +kernel
theorem q_101_15 : p_tb 101 15 = some (.iconst 0, 1) := by decide +kernel
theorem q_101_16 : p_tb 101 16 = some (.ireturn, 1) := by decide +kernel
theorem q_101_17 : p_tb 101 17 = some (.aload_n 0, 1) := by decide +kernel
theorem q_101_18 : p_tb 101 18 = some (.getfield 10, 3) := by decide +kernel
theorem q_101_21 : p_tb 101 21 = some (.iload_n 1, 1) := by decide +kernel
theorem q_101_22 : p_tb 101 22 = some (.putfield 73, 3) := by decide +kernel
theorem q_101_25 : p_tb 101 25 = some (.iconst 1, 1) := by decide +kernel
theorem q_101_26 : p_tb 101 26 = some (.ireturn, 1) := by decide +kernel
theorem q_105_0 : p_tb 105 0 = some (.aload_n 0, 1) := by decide +kernel
theorem q_105_1 : p_tb 105 1 = some (.getfield 19, 3) := by decide +kernel
theorem q_105_4 : p_tb 105 4 = some (.getfield 107, 3) := by decide +kernel
theorem q_105_7 : p_tb 105 7 = some (.getfield 123, 3) := by decide +kernel
theorem q_105_10 : p_tb 105 10 = some (.ifCond .ne 5, 3) := by decide +kernel
theorem q_105_13 : p_tb 105 13 = some (.iconst (-1), 1) := by decide +kernel
theorem q_105_14 : p_tb 105 14 = some (.ireturn, 1) := by decide +kernel
theorem q_106_0 : p_tb 106 0 = some (.iload_n 1, 1) := by decide +kernel
theorem q_106_1 : p_tb 106 1 = some (.ifCond .eq 12, 3) := by decide +kernel
theorem q_106_4 : p_tb 106 4 = some (.iload_n 1, 1) := by decide +kernel
theorem q_106_5 : p_tb 106 5 = some (.iconst 1, 1) := by decide +kernel
theorem q_106_6 : p_tb 106 6 = some (.if_icmp .eq 7, 3) := by decide +kernel
theorem q_106_9 : p_tb 106 9 = some (.sipush (-1000), 3) := by decide +kernel
theorem q_106_12 : p_tb 106 12 = some (.ireturn, 1) := by decide +kernel
theorem q_107_0 : p_tb 107 0 = some (.aload_n 0, 1) := by decide +kernel
theorem q_107_1 : p_tb 107 1 = some (.getfield 55, 3) := by decide +kernel
theorem q_107_4 : p_tb 107 4 = some (.getfield 153, 3) := by decide +kernel
theorem q_107_7 : p_tb 107 7 = some (.ifCond .ne 5, 3) := by decide +kernel
theorem q_107_10 : p_tb 107 10 = some (.iconst (-1), 1) := by decide +kernel
theorem q_107_11 : p_tb 107 11 = some (.ireturn, 1) := by decide +kernel
theorem q_110_0 : p_tb 110 0 = some (.iload_n 1, 1) := by decide +kernel
theorem q_110_1 : p_tb 110 1 = some (.tableswitch 115 0 5 #[39, 50, 61, 72, 83, 104], 39) := by decide +kernel
theorem q_110_40 : p_tb 110 40 = some (.aload_n 0, 1) := by decide +kernel
theorem q_110_41 : p_tb 110 41 = some (.getfield 19, 3) := by decide +kernel
theorem q_110_44 : p_tb 110 44 = some (.getfield 101, 3) := by decide +kernel
theorem q_110_47 : p_tb 110 47 = some (.getfield 230, 3) := by decide +kernel
theorem q_110_50 : p_tb 110 50 = some (.ireturn, 1) := by decide +kernel
theorem q_110_51 : p_tb 110 51 = some (.aload_n 0, 1) := by decide +kernel
theorem q_110_52 : p_tb 110 52 = some (.getfield 19, 3) := by decide +kernel
theorem q_110_55 : p_tb 110 55 = some (.getfield 101, 3) := by decide +kernel
theorem q_110_58 : p_tb 110 58 = some (.getfield 233, 3) := by decide +kernel
theorem q_110_61 : p_tb 110 61 = some (.ireturn, 1) := by decide +kernel
theorem q_110_62 : p_tb 110 62 = some (.aload_n 0, 1) := by decide +kernel
theorem q_110_63 : p_tb 110 63 = some (.getfield 19, 3) := by decide +kernel
theorem q_110_66 : p_tb 110 66 = some (.getfield 101, 3) := by decide +kernel
theorem q_110_69 : p_tb 110 69 = some (.getfield 236, 3) := by decide +kernel
theorem q_110_72 : p_tb 110 72 = some (.ireturn, 1) := by decide +kernel
theorem q_110_73 : p_tb 110 73 = some (.aload_n 0, 1) := by decide +kernel
theorem q_110_74 : p_tb 110 74 = some (.getfield 19, 3) := by decide +kernel
theorem q_110_77 : p_tb 110 77 = some (.getfield 101, 3) := by decide +kernel
theorem q_110_80 : p_tb 110 80 = some (.invokevirtual 239, 3) := by decide +kernel
theorem q_110_83 : p_tb 110 83 = some (.ireturn, 1) := by decide +kernel
theorem q_110_84 : p_tb 110 84 = some (.aload_n 0, 1) := by decide +kernel
theorem q_110_85 : p_tb 110 85 = some (.getfield 19, 3) := by decide +kernel
theorem q_110_88 : p_tb 110 88 = some (.getfield 101, 3) := by decide +kernel
theorem q_110_91 : p_tb 110 91 = some (.aload_n 0, 1) := by decide +kernel
theorem q_110_92 : p_tb 110 92 = some (.getfield 19, 3) := by decide +kernel
theorem q_110_95 : p_tb 110 95 = some (.getfield 94, 3) := by decide +kernel
theorem q_110_98 : p_tb 110 98 = some (.getfield 136, 3) := by decide +kernel
theorem q_110_101 : p_tb 110 101 = some (.invokevirtual 243, 3) := by decide +kernel
theorem q_110_104 : p_tb 110 104 = some (.ireturn, 1) := by decide +kernel
theorem q_110_105 : p_tb 110 105 = some (.aload_n 0, 1) := by decide +kernel
theorem q_110_106 : p_tb 110 106 = some (.getfield 19, 3) := by decide +kernel
theorem q_110_109 : p_tb 110 109 = some (.getfield 101, 3) := by decide +kernel
theorem q_110_112 : p_tb 110 112 = some (.invokevirtual 246, 3) := by decide +kernel
theorem q_110_115 : p_tb 110 115 = some (.ireturn, 1) := by decide +kernel
theorem q_110_116 : p_tb 110 116 = some (.iconst (-1), 1) := by decide +kernel
theorem q_110_117 : p_tb 110 117 = some (.ireturn, 1) := by decide +kernel
theorem q_111_0 : p_tb 111 0 = some (.iload_n 1, 1) := by decide +kernel
theorem q_111_1 : p_tb 111 1 = some (.tableswitch 102 0 5 #[39, 50, 61, 72, 83, 94], 39) := by decide +kernel
theorem q_111_40 : p_tb 111 40 = some (.aload_n 0, 1) := by decide +kernel
theorem q_111_41 : p_tb 111 41 = some (.getfield 19, 3) := by decide +kernel
theorem q_111_44 : p_tb 111 44 = some (.getfield 94, 3) := by decide +kernel
theorem q_111_47 : p_tb 111 47 = some (.getfield 136, 3) := by decide +kernel
theorem q_111_50 : p_tb 111 50 = some (.ireturn, 1) := by decide +kernel
theorem q_111_51 : p_tb 111 51 = some (.aload_n 0, 1) := by decide +kernel
theorem q_111_52 : p_tb 111 52 = some (.getfield 19, 3) := by decide +kernel
theorem q_111_55 : p_tb 111 55 = some (.getfield 94, 3) := by decide +kernel
theorem q_111_58 : p_tb 111 58 = some (.getfield 249, 3) := by decide +kernel
theorem q_111_61 : p_tb 111 61 = some (.ireturn, 1) := by decide +kernel
theorem q_111_62 : p_tb 111 62 = some (.aload_n 0, 1) := by decide +kernel
theorem q_111_63 : p_tb 111 63 = some (.getfield 19, 3) := by decide +kernel
theorem q_111_66 : p_tb 111 66 = some (.getfield 94, 3) := by decide +kernel
theorem q_111_69 : p_tb 111 69 = some (.getfield 251, 3) := by decide +kernel
theorem q_111_72 : p_tb 111 72 = some (.ireturn, 1) := by decide +kernel
theorem q_111_73 : p_tb 111 73 = some (.aload_n 0, 1) := by decide +kernel
theorem q_111_74 : p_tb 111 74 = some (.getfield 19, 3) := by decide +kernel
theorem q_111_77 : p_tb 111 77 = some (.getfield 94, 3) := by decide +kernel
theorem q_111_80 : p_tb 111 80 = some (.getfield 254, 3) := by decide +kernel
theorem q_111_83 : p_tb 111 83 = some (.ireturn, 1) := by decide +kernel
theorem q_111_84 : p_tb 111 84 = some (.aload_n 0, 1) := by decide +kernel
theorem q_111_85 : p_tb 111 85 = some (.getfield 19, 3) := by decide +kernel
theorem q_111_88 : p_tb 111 88 = some (.getfield 94, 3) := by decide +kernel
theorem q_111_91 : p_tb 111 91 = some (.getfield 257, 3) := by decide +kernel
theorem q_111_94 : p_tb 111 94 = some (.ireturn, 1) := by decide +kernel
theorem q_111_95 : p_tb 111 95 = some (.aload_n 0, 1) := by decide +kernel
theorem q_111_96 : p_tb 111 96 = some (.getfield 10, 3) := by decide +kernel
theorem q_111_99 : p_tb 111 99 = some (.getfield 73, 3) := by decide +kernel
theorem q_111_102 : p_tb 111 102 = some (.ireturn, 1) := by decide +kernel
theorem q_111_103 : p_tb 111 103 = some (.iconst (-1), 1) := by decide +kernel
theorem q_111_104 : p_tb 111 104 = some (.ireturn, 1) := by decide +kernel
theorem q_112_0 : p_tb 112 0 = some (.aload_n 0, 1) := by decide +kernel
theorem q_112_1 : p_tb 112 1 = some (.iload_n 1, 1) := by decide +kernel
theorem q_112_2 : p_tb 112 2 = some (.invokevirtual 169, 3) := by decide +kernel
theorem q_112_5 : p_tb 112 5 = some (.ifCond .eq 11, 3) := by decide +kernel
theorem q_112_16 : p_tb 112 16 = some (.iconst (-1), 1) := by decide +kernel
theorem q_112_17 : p_tb 112 17 = some (.ireturn, 1) := by decide +kernel
theorem q_113_0 : p_tb 113 0 = some (.aload_n 0, 1) := by decide +kernel
theorem q_113_1 : p_tb 113 1 = some (.iload_n 1, 1) := by decide +kernel
theorem q_113_2 : p_tb 113 2 = some (.invokevirtual 169, 3) := by decide +kernel
theorem q_113_5 : p_tb 113 5 = some (.ifCond .eq 11, 3) := by decide +kernel
theorem q_113_16 : p_tb 113 16 = some (.iconst (-1), 1) := by decide +kernel
theorem q_113_17 : p_tb 113 17 = some (.ireturn, 1) := by decide +kernel
theorem q_115_0 : p_tb 115 0 = some (.aload_n 0, 1) := by decide +kernel
theorem q_115_1 : p_tb 115 1 = some (.iload_n 1, 1) := by decide +kernel
theorem q_115_2 : p_tb 115 2 = some (.invokevirtual 203, 3) := by decide +kernel
theorem q_115_5 : p_tb 115 5 = some (.ifCond .eq 22, 3) := by decide +kernel
theorem q_115_27 : p_tb 115 27 = some (.iconst (-1), 1) := by decide +kernel
theorem q_115_28 : p_tb 115 28 = some (.ireturn, 1) := by decide +kernel
theorem q_116_0 : p_tb 116 0 = some (.aload_n 0, 1) := by decide +kernel
theorem q_116_1 : p_tb 116 1 = some (.iload_n 1, 1) := by decide +kernel
theorem q_116_2 : p_tb 116 2 = some (.invokevirtual 203, 3) := by decide +kernel
theorem q_116_5 : p_tb 116 5 = some (.ifCond .eq 22, 3) := by decide +kernel
theorem q_116_27 : p_tb 116 27 = some (.iconst (-1), 1) := by decide +kernel
theorem q_116_28 : p_tb 116 28 = some (.ireturn, 1) := by decide +kernel
theorem q_117_0 : p_tb 117 0 = some (.aload_n 0, 1) := by decide +kernel
theorem q_117_1 : p_tb 117 1 = some (.getstatic 273, 3) := by decide +kernel
theorem q_117_4 : p_tb 117 4 = some (.iload_n 1, 1) := by decide +kernel
theorem q_117_5 : p_tb 117 5 = some (.invokevirtual 279, 3) := by decide +kernel
theorem q_117_8 : p_tb 117 8 = some (.ireturn, 1) := by decide +kernel
theorem q_118_0 : p_tb 118 0 = some (.aload_n 0, 1) := by decide +kernel
theorem q_118_1 : p_tb 118 1 = some (.getstatic 283, 3) := by decide +kernel
theorem q_118_4 : p_tb 118 4 = some (.iload_n 1, 1) := by decide +kernel
theorem q_118_5 : p_tb 118 5 = some (.invokevirtual 279, 3) := by decide +kernel
theorem q_118_8 : p_tb 118 8 = some (.ireturn, 1) := by decide +kernel
theorem q_119_0 : p_tb 119 0 = some (.aload_n 0, 1) := by decide +kernel
theorem q_119_1 : p_tb 119 1 = some (.getstatic 286, 3) := by decide +kernel
theorem q_119_4 : p_tb 119 4 = some (.iload_n 1, 1) := by decide +kernel
theorem q_119_5 : p_tb 119 5 = some (.invokevirtual 279, 3) := by decide +kernel
theorem q_119_8 : p_tb 119 8 = some (.ireturn, 1) := by decide +kernel
theorem q_120_0 : p_tb 120 0 = some (.aload_n 0, 1) := by decide +kernel
theorem q_120_1 : p_tb 120 1 = some (.getstatic 289, 3) := by decide +kernel
theorem q_120_4 : p_tb 120 4 = some (.iload_n 1, 1) := by decide +kernel
theorem q_120_5 : p_tb 120 5 = some (.invokevirtual 279, 3) := by decide +kernel
theorem q_120_8 : p_tb 120 8 = some (.ireturn, 1) := by decide +kernel
theorem q_121_0 : p_tb 121 0 = some (.aload_n 0, 1) := by decide +kernel
theorem q_121_1 : p_tb 121 1 = some (.getstatic 292, 3) := by decide +kernel
theorem q_121_4 : p_tb 121 4 = some (.iload_n 1, 1) := by decide +kernel
theorem q_121_5 : p_tb 121 5 = some (.invokevirtual 279, 3) := by decide +kernel
theorem q_121_8 : p_tb 121 8 = some (.ireturn, 1) := by decide +kernel
theorem q_123_0 : p_tb 123 0 = some (.iload_n 1, 1) := by decide +kernel
theorem q_123_1 : p_tb 123 1 = some (.iconst 1, 1) := by decide +kernel
theorem q_123_2 : p_tb 123 2 = some (.if_icmp .lt 22, 3) := by decide +kernel
theorem q_123_5 : p_tb 123 5 = some (.iload_n 1, 1) := by decide +kernel
theorem q_123_6 : p_tb 123 6 = some (.bipush 60, 2) := by decide +kernel
theorem q_123_8 : p_tb 123 8 = some (.if_icmp .gt 16, 3) := by decide +kernel
theorem q_123_11 : p_tb 123 11 = some (.aload_n 0, 1) := by decide +kernel
theorem q_123_12 : p_tb 123 12 = some (.getfield 19, 3) := by decide +kernel
theorem q_123_15 : p_tb 123 15 = some (.getfield 94, 3) := by decide +kernel
theorem q_123_18 : p_tb 123 18 = some (.getfield 136, 3) := by decide +kernel
theorem q_123_21 : p_tb 123 21 = some (.ifCond .ne 5, 3) := by decide +kernel
theorem q_123_24 : p_tb 123 24 = some (.iconst (-1), 1) := by decide +kernel
theorem q_123_25 : p_tb 123 25 = some (.ireturn, 1) := by decide +kernel
theorem q_125_0 : p_tb 125 0 = some (.iload_n 1, 1) := by decide +kernel
theorem q_125_1 : p_tb 125 1 = some (.ifCond .lt 8, 3) := by decide +kernel
theorem q_125_4 : p_tb 125 4 = some (.iload_n 1, 1) := by decide +kernel
theorem q_125_5 : p_tb 125 5 = some (.iconst 2, 1) := by decide +kernel
theorem q_125_6 : p_tb 125 6 = some (.if_icmp .lt 5, 3) := by decide +kernel
theorem q_125_9 : p_tb 125 9 = some (.iconst 0, 1) := by decide +kernel
theorem q_125_10 : p_tb 125 10 = some (.ireturn, 1) := by decide +kernel
theorem q_126_0 : p_tb 126 0 = some (.iload_n 1, 1) := by decide +kernel
theorem q_126_1 : p_tb 126 1 = some (.ifCond .lt 17, 3) := by decide +kernel
theorem q_126_4 : p_tb 126 4 = some (.iload_n 1, 1) := by decide +kernel
theorem q_126_5 : p_tb 126 5 = some (.iconst 2, 1) := by decide +kernel
theorem q_126_6 : p_tb 126 6 = some (.if_icmp .ge 12, 3) := by decide +kernel
theorem q_126_9 : p_tb 126 9 = some (.aload_n 0, 1) := by decide +kernel
theorem q_126_10 : p_tb 126 10 = some (.getfield 27, 3) := by decide +kernel
theorem q_126_13 : p_tb 126 13 = some (.iload_n 1, 1) := by decide +kernel
theorem q_126_14 : p_tb 126 14 = some (.baload, 1) := by decide +kernel
theorem q_126_15 : p_tb 126 15 = some (.ifCond .ne 5, 3) := by decide +kernel
theorem q_126_18 : p_tb 126 18 = some (.iconst 0, 1) := by decide +kernel
theorem q_126_19 : p_tb 126 19 = some (.ireturn, 1) := by decide +kernel
theorem q_127_0 : p_tb 127 0 = some (.aload_n 0, 1) := by decide +kernel
theorem q_127_1 : p_tb 127 1 = some (.iload_n 1, 1) := by decide +kernel
theorem q_127_2 : p_tb 127 2 = some (.invokevirtual 169, 3) := by decide +kernel
theorem q_127_5 : p_tb 127 5 = some (.ifCond .eq 16, 3) := by decide +kernel
theorem q_127_21 : p_tb 127 21 = some (.iconst (-1), 1) := by decide +kernel
theorem q_127_22 : p_tb 127 22 = some (.ireturn, 1) := by decide +kernel
theorem q_128_0 : p_tb 128 0 = some (.aload_n 0, 1) := by decide +kernel
theorem q_128_1 : p_tb 128 1 = some (.iload_n 1, 1) := by decide +kernel
theorem q_128_2 : p_tb 128 2 = some (.invokevirtual 203, 3) := by decide +kernel
theorem q_128_5 : p_tb 128 5 = some (.ifCond .eq 14, 3) := by decide +kernel
theorem q_128_19 : p_tb 128 19 = some (.iconst (-1), 1) := by decide +kernel
theorem q_128_20 : p_tb 128 20 = some (.ireturn, 1) := by decide +kernel
theorem q_129_0 : p_tb 129 0 = some (.aload_n 0, 1) := by decide +kernel
theorem q_129_1 : p_tb 129 1 = some (.iload_n 1, 1) := by decide +kernel
theorem q_129_2 : p_tb 129 2 = some (.invokevirtual 203, 3) := by decide +kernel
theorem q_129_5 : p_tb 129 5 = some (.ifCond .eq 14, 3) := by decide +kernel
theorem q_129_19 : p_tb 129 19 = some (.iconst (-1), 1) := by decide +kernel
theorem q_129_20 : p_tb 129 20 = some (.ireturn, 1) := by decide +kernel
theorem q_130_0 : p_tb 130 0 = some (.aload_n 0, 1) := by decide +kernel
theorem q_130_1 : p_tb 130 1 = some (.iload_n 1, 1) := by decide +kernel
theorem q_130_2 : p_tb 130 2 = some (.invokevirtual 203, 3) := by decide +kernel
theorem q_130_5 : p_tb 130 5 = some (.ifCond .ne 5, 3) := by decide +kernel
theorem q_130_8 : p_tb 130 8 = some (.iconst (-1), 1) := by decide +kernel
theorem q_130_9 : p_tb 130 9 = some (.ireturn, 1) := by decide +kernel
theorem q_132_0 : p_tb 132 0 = some (.aload_n 0, 1) := by decide +kernel
theorem q_132_1 : p_tb 132 1 = some (.iload_n 1, 1) := by decide +kernel
theorem q_132_2 : p_tb 132 2 = some (.invokevirtual 169, 3) := by decide +kernel
theorem q_132_5 : p_tb 132 5 = some (.ifCond .eq 11, 3) := by decide +kernel
theorem q_132_16 : p_tb 132 16 = some (.iconst (-1), 1) := by decide +kernel
theorem q_132_17 : p_tb 132 17 = some (.ireturn, 1) := by decide +kernel
theorem q_133_0 : p_tb 133 0 = some (.aload_n 0, 1) := by decide +kernel
theorem q_133_1 : p_tb 133 1 = some (.iload_n 1, 1) := by decide +kernel
theorem q_133_2 : p_tb 133 2 = some (.invokevirtual 169, 3) := by decide +kernel
theorem q_133_5 : p_tb 133 5 = some (.ifCond .eq 11, 3) := by decide +kernel
theorem q_133_16 : p_tb 133 16 = some (.iconst (-1), 1) := by decide +kernel
theorem q_133_17 : p_tb 133 17 = some (.ireturn, 1) := by decide +kernel
theorem q_134_0 : p_tb 134 0 = some (.aload_n 0, 1) := by decide +kernel
theorem q_134_1 : p_tb 134 1 = some (.iload_n 1, 1) := by decide +kernel
theorem q_134_2 : p_tb 134 2 = some (.invokevirtual 169, 3) := by decide +kernel
theorem q_134_5 : p_tb 134 5 = some (.ifCond .eq 14, 3) := by decide +kernel
theorem q_134_19 : p_tb 134 19 = some (.iconst (-1), 1) := by decide +kernel
theorem q_134_20 : p_tb 134 20 = some (.ireturn, 1) := by decide +kernel
theorem q_136_0 : p_tb 136 0 = some (.aload_n 0, 1) := by decide +kernel
theorem q_136_1 : p_tb 136 1 = some (.iload_n 1, 1) := by decide +kernel
theorem q_136_2 : p_tb 136 2 = some (.invokevirtual 203, 3) := by decide +kernel
theorem q_136_5 : p_tb 136 5 = some (.ifCond .eq 11, 3) := by decide +kernel
theorem q_136_16 : p_tb 136 16 = some (.bipush (-2), 2) := by decide +kernel
theorem q_136_18 : p_tb 136 18 = some (.istore_n 2, 1) := by decide +kernel
theorem q_136_19 : p_tb 136 19 = some (.aload_n 0, 1) := by decide +kernel
theorem q_136_20 : p_tb 136 20 = some (.getfield 10, 3) := by decide +kernel
theorem q_136_23 : p_tb 136 23 = some (.iconst 0, 1) := by decide +kernel
theorem q_136_24 : p_tb 136 24 = some (.putfield 73, 3) := by decide +kernel
theorem q_136_27 : p_tb 136 27 = some (.iload_n 2, 1) := by decide +kernel
theorem q_136_28 : p_tb 136 28 = some (.ireturn, 1) := by decide +kernel
theorem q_141_0 : p_tb 141 0 = some (.aload_n 0, 1) := by decide +kernel
theorem q_141_1 : p_tb 141 1 = some (.iload_n 1, 1) := by decide +kernel
theorem q_141_2 : p_tb 141 2 = some (.invokevirtual 370, 3) := by decide +kernel
theorem q_141_5 : p_tb 141 5 = some (.ifCond .eq 14, 3) := by decide +kernel
theorem q_141_19 : p_tb 141 19 = some (.iconst (-1), 1) := by decide +kernel
theorem q_141_20 : p_tb 141 20 = some (.ireturn, 1) := by decide +kernel
theorem q_142_0 : p_tb 142 0 = some (.aload_n 0, 1) := by decide +kernel
theorem q_142_1 : p_tb 142 1 = some (.iload_n 1, 1) := by decide +kernel
theorem q_142_2 : p_tb 142 2 = some (.invokevirtual 370, 3) := by decide +kernel
theorem q_142_5 : p_tb 142 5 = some (.ifCond .eq 11, 3) := by decide +kernel
theorem q_142_16 : p_tb 142 16 = some (.iconst (-1), 1) := by decide +kernel
theorem q_142_17 : p_tb 142 17 = some (.ireturn, 1) := by decide +kernel
theorem q_143_0 : p_tb 143 0 = some (.iload_n 1, 1) := by decide +kernel
theorem q_143_1 : p_tb 143 1 = some (.ifCond .lt 21, 3) := by decide +kernel
theorem q_143_4 : p_tb 143 4 = some (.iload_n 1, 1) := by decide +kernel
theorem q_143_5 : p_tb 143 5 = some (.aload_n 0, 1) := by decide +kernel
theorem q_143_6 : p_tb 143 6 = some (.getfield 19, 3) := by decide +kernel
theorem q_143_9 : p_tb 143 9 = some (.getfield 94, 3) := by decide +kernel
theorem q_143_12 : p_tb 143 12 = some (.getfield 136, 3) := by decide +kernel
theorem q_143_15 : p_tb 143 15 = some (.if_icmp .ge 7, 3) := by decide +kernel
theorem q_143_22 : p_tb 143 22 = some (.iconst 0, 1) := by decide +kernel
theorem q_143_23 : p_tb 143 23 = some (.ireturn, 1) := by decide +kernel
theorem q_144_0 : p_tb 144 0 = some (.iload_n 1, 1) := by decide +kernel
theorem q_144_1 : p_tb 144 1 = some (.ifCond .lt 21, 3) := by decide +kernel
theorem q_144_4 : p_tb 144 4 = some (.iload_n 1, 1) := by decide +kernel
theorem q_144_5 : p_tb 144 5 = some (.aload_n 0, 1) := by decide +kernel
theorem q_144_6 : p_tb 144 6 = some (.getfield 19, 3) := by decide +kernel
theorem q_144_9 : p_tb 144 9 = some (.getfield 94, 3) := by decide +kernel
theorem q_144_12 : p_tb 144 12 = some (.getfield 249, 3) := by decide +kernel
theorem q_144_15 : p_tb 144 15 = some (.if_icmp .ge 7, 3) := by decide +kernel
theorem q_144_22 : p_tb 144 22 = some (.iconst 0, 1) := by decide +kernel
theorem q_144_23 : p_tb 144 23 = some (.ireturn, 1) := by decide +kernel
theorem q_145_0 : p_tb 145 0 = some (.aload_n 0, 1) := by decide +kernel
theorem q_145_1 : p_tb 145 1 = some (.iload_n 2, 1) := by decide +kernel
theorem q_145_2 : p_tb 145 2 = some (.invokevirtual 169, 3) := by decide +kernel
theorem q_145_5 : p_tb 145 5 = some (.ifCond .ne 5, 3) := by decide +kernel
theorem q_145_8 : p_tb 145 8 = some (.iconst (-1), 1) := by decide +kernel
theorem q_145_9 : p_tb 145 9 = some (.ireturn, 1) := by decide +kernel
theorem q_157_0 : p_tb 157 0 = some (.aload_n 0, 1) := by decide +kernel
theorem q_157_1 : p_tb 157 1 = some (.iload_n 1, 1) := by decide +kernel
theorem q_157_2 : p_tb 157 2 = some (.invokevirtual 203, 3) := by decide +kernel
theorem q_157_5 : p_tb 157 5 = some (.ifCond .eq 21, 3) := by decide +kernel
theorem q_157_26 : p_tb 157 26 = some (.iconst 0, 1) := by decide +kernel
theorem q_157_27 : p_tb 157 27 = some (.ireturn, 1) := by decide +kernel
theorem q_163_0 : p_tb 163 0 = some (.aload_n 0, 1) := by decide +kernel
theorem q_163_1 : p_tb 163 1 = some (.iconst 0, 1) := by decide +kernel
theorem q_163_2 : p_tb 163 2 = some (.putfield 1, 3) := by decide +kernel
theorem q_163_5 : p_tb 163 5 = some (.aload_n 0, 1) := by decide +kernel
theorem q_163_6 : p_tb 163 6 = some (.getfield 7, 3) := by decide +kernel
theorem q_163_9 : p_tb 163 9 = some (.bipush 20, 2) := by decide +kernel
theorem q_163_11 : p_tb 163 11 = some (.iadd, 1) := by decide +kernel
theorem q_163_12 : p_tb 163 12 = some (.sipush 940, 3) := by decide +kernel
theorem q_163_15 : p_tb 163 15 = some (.if_icmp .le 5, 3) := by decide +kernel
theorem q_163_20 : p_tb 163 20 = some (.aload_n 0, 1) := by decide +kernel
theorem q_163_21 : p_tb 163 21 = some (.iload_n 1, 1) := by decide +kernel
theorem q_163_22 : p_tb 163 22 = some (.invokevirtual 10, 3) := by decide +kernel
theorem q_163_25 : p_tb 163 25 = some (.aload_n 0, 1) := by decide +kernel
theorem q_163_26 : p_tb 163 26 = some (.iload_n 2, 1) := by decide +kernel
theorem q_163_27 : p_tb 163 27 = some (.invokevirtual 10, 3) := by decide +kernel
theorem q_163_30 : p_tb 163 30 = some (.aload_n 0, 1) := by decide +kernel
theorem q_163_31 : p_tb 163 31 = some (.iload_n 3, 1) := by decide +kernel
theorem q_163_32 : p_tb 163 32 = some (.invokevirtual 10, 3) := by decide +kernel
theorem q_163_35 : p_tb 163 35 = some (.aload_n 0, 1) := by decide +kernel
theorem q_163_36 : p_tb 163 36 = some (.iload 4, 2) := by decide +kernel
theorem q_163_38 : p_tb 163 38 = some (.invokevirtual 10, 3) := by decide +kernel
theorem q_163_41 : p_tb 163 41 = some (.aload_n 0, 1) := by decide +kernel
theorem q_163_42 : p_tb 163 42 = some (.iload 5, 2) := by decide +kernel
theorem q_163_44 : p_tb 163 44 = some (.invokevirtual 10, 3) := by decide +kernel
theorem q_163_47 : p_tb 163 47 = some (.aload_n 0, 1) := by decide +kernel
theorem q_163_48 : p_tb 163 48 = some (.getfield 7, 3) := by decide +kernel
theorem q_163_51 : p_tb 163 51 = some (.ireturn, 1) := by decide +kernel
theorem q_164_0 : p_tb 164 0 = some (.bipush 24, 2) := by decide +kernel
theorem q_164_2 : p_tb 164 2 = some (.istore_n 2, 1) := by decide +kernel
theorem q_164_3 : p_tb 164 3 = some (.iload_n 2, 1) := by decide +kernel
theorem q_164_4 : p_tb 164 4 = some (.ifCond .lt 32, 3) := by decide +kernel
theorem q_164_7 : p_tb 164 7 = some (.aload_n 0, 1) := by decide +kernel
theorem q_164_8 : p_tb 164 8 = some (.getfield 14, 3) := by decide +kernel
theorem q_164_11 : p_tb 164 11 = some (.aload_n 0, 1) := by decide +kernel
theorem q_164_12 : p_tb 164 12 = some (.getfield 7, 3) := by decide +kernel
theorem q_164_15 : p_tb 164 15 = some (.iload_n 1, 1) := by decide +kernel
theorem q_164_16 : p_tb 164 16 = some (.iload_n 2, 1) := by decide +kernel
theorem q_164_17 : p_tb 164 17 = some (.ishr, 1) := by decide +kernel
theorem q_164_18 : p_tb 164 18 = some (.i2b, 1) := by decide +kernel
theorem q_164_19 : p_tb 164 19 = some (.bastore, 1) := by decide +kernel
theorem q_164_20 : p_tb 164 20 = some (.aload_n 0, 1) := by decide +kernel
theorem q_164_21 : p_tb 164 21 = some (.dup, 1) := by decide +kernel
theorem q_164_22 : p_tb 164 22 = some (.getfield 7, 3) := by decide +kernel
theorem q_164_25 : p_tb 164 25 = some (.iconst 1, 1) := by decide +kernel
theorem q_164_26 : p_tb 164 26 = some (.iadd, 1) := by decide +kernel
theorem q_164_27 : p_tb 164 27 = some (.putfield 7, 3) := by decide +kernel
theorem q_164_30 : p_tb 164 30 = some (.iinc 2 (-8), 3) := by decide +kernel
theorem q_164_33 : p_tb 164 33 = some (.goto (-30), 3) := by decide +kernel
theorem q_164_36 : p_tb 164 36 = some (.return_, 1) := by decide +kernel
theorem q_165_0 : p_tb 165 0 = some (.aload_n 0, 1) := by decide +kernel
theorem q_165_1 : p_tb 165 1 = some (.iconst 0, 1) := by decide +kernel
theorem q_165_2 : p_tb 165 2 = some (.putfield 1, 3) := by decide +kernel
theorem q_165_5 : p_tb 165 5 = some (.iload_n 1, 1) := by decide +kernel
theorem q_165_6 : p_tb 165 6 = some (.ifCond .lt 11, 3) := by decide +kernel
theorem q_165_9 : p_tb 165 9 = some (.iload_n 1, 1) := by decide +kernel
theorem q_165_10 : p_tb 165 10 = some (.aload_n 0, 1) := by decide +kernel
theorem q_165_11 : p_tb 165 11 = some (.getfield 7, 3) := by decide +kernel
theorem q_165_14 : p_tb 165 14 = some (.if_icmp .le 5, 3) := by decide +kernel
theorem q_165_17 : p_tb 165 17 = some (.iconst 0, 1) := by decide +kernel
theorem q_165_18 : p_tb 165 18 = some (.ireturn, 1) := by decide +kernel
theorem q_165_19 : p_tb 165 19 = some (.aload_n 0, 1) := by decide +kernel
theorem q_165_20 : p_tb 165 20 = some (.iload_n 1, 1) := by decide +kernel
theorem q_165_21 : p_tb 165 21 = some (.putfield 7, 3) := by decide +kernel
theorem q_165_24 : p_tb 165 24 = some (.iconst 1, 1) := by decide +kernel
theorem q_165_25 : p_tb 165 25 = some (.ireturn, 1) := by decide +kernel
theorem q_166_0 : p_tb 166 0 = some (.aload_n 0, 1) := by decide +kernel
theorem q_166_1 : p_tb 166 1 = some (.aload_n 0, 1) := by decide +kernel
theorem q_166_2 : p_tb 166 2 = some (.getfield 7, 3) := by decide +kernel
theorem q_166_5 : p_tb 166 5 = some (.putfield 18, 3) := by decide +kernel
theorem q_166_8 : p_tb 166 8 = some (.aload_n 0, 1) := by decide +kernel
theorem q_166_9 : p_tb 166 9 = some (.iconst 0, 1) := by decide +kernel
theorem q_166_10 : p_tb 166 10 = some (.putfield 7, 3) := by decide +kernel
theorem q_166_13 : p_tb 166 13 = some (.aload_n 0, 1) := by decide +kernel
theorem q_166_14 : p_tb 166 14 = some (.iconst 0, 1) := by decide +kernel
theorem q_166_15 : p_tb 166 15 = some (.putfield 21, 3) := by decide +kernel
theorem q_166_18 : p_tb 166 18 = some (.aload_n 0, 1) := by decide +kernel
theorem q_166_19 : p_tb 166 19 = some (.iload_n 1, 1) := by decide +kernel
theorem q_166_20 : p_tb 166 20 = some (.putfield 24, 3) := by decide +kernel
theorem q_166_23 : p_tb 166 23 = some (.return_, 1) := by decide +kernel
theorem q_167_0 : p_tb 167 0 = some (.iload_n 0, 1) := by decide +kernel
theorem q_167_1 : p_tb 167 1 = some (.iload_n 1, 1) := by decide +kernel
theorem q_167_2 : p_tb 167 2 = some (.if_icmp .lt 12, 3) := by decide +kernel
theorem q_167_5 : p_tb 167 5 = some (.iload_n 0, 1) := by decide +kernel
theorem q_167_6 : p_tb 167 6 = some (.iload_n 2, 1) := by decide +kernel
theorem q_167_7 : p_tb 167 7 = some (.if_icmp .gt 7, 3) := by decide +kernel
theorem q_167_10 : p_tb 167 10 = some (.iconst 1, 1) := by decide +kernel
theorem q_167_11 : p_tb 167 11 = some (.goto 4, 3) := by decide +kernel
theorem q_167_14 : p_tb 167 14 = some (.iconst 0, 1) := by decide +kernel
theorem q_167_15 : p_tb 167 15 = some (.ireturn, 1) := by decide +kernel
theorem q_196_0 : p_tb 196 0 = some (.iload_n 1, 1) := by decide +kernel
theorem q_196_1 : p_tb 196 1 = some (.iconst 0, 1) := by decide +kernel
theorem q_196_2 : p_tb 196 2 = some (.aload_n 0, 1) := by decide +kernel
theorem q_196_3 : p_tb 196 3 = some (.getfield 33, 3) := by decide +kernel
theorem q_196_6 : p_tb 196 6 = some (.iconst 0, 1) := by decide +kernel
theorem q_196_7 : p_tb 196 7 = some (.iaload, 1) := by decide +kernel
theorem q_196_8 : p_tb 196 8 = some (.iconst 1, 1) := by decide +kernel
theorem q_196_9 : p_tb 196 9 = some (.isub, 1) := by decide +kernel
theorem q_196_10 : p_tb 196 10 = some (.invokestatic 176, 3) := by decide +kernel
theorem q_196_13 : p_tb 196 13 = some (.ireturn, 1) := by decide +kernel
theorem q_197_0 : p_tb 197 0 = some (.iload_n 1, 1) := by decide +kernel
theorem q_197_1 : p_tb 197 1 = some (.iconst 0, 1) := by decide +kernel
theorem q_197_2 : p_tb 197 2 = some (.aload_n 0, 1) := by decide +kernel
theorem q_197_3 : p_tb 197 3 = some (.getfield 33, 3) := by decide +kernel
theorem q_197_6 : p_tb 197 6 = some (.iconst 1, 1) := by decide +kernel
theorem q_197_7 : p_tb 197 7 = some (.iaload, 1) := by decide +kernel
theorem q_197_8 : p_tb 197 8 = some (.iconst 1, 1) := by decide +kernel
theorem q_197_9 : p_tb 197 9 = some (.isub, 1) := by decide +kernel
theorem q_197_10 : p_tb 197 10 = some (.invokestatic 176, 3) := by decide +kernel
theorem q_197_13 : p_tb 197 13 = some (.ireturn, 1) := by decide +kernel
theorem q_198_0 : p_tb 198 0 = some (.aload_n 0, 1) := by decide +kernel
theorem q_198_1 : p_tb 198 1 = some (.iload_n 1, 1) := by decide +kernel
theorem q_198_2 : p_tb 198 2 = some (.invokevirtual 241, 3) := by decide +kernel
theorem q_198_5 : p_tb 198 5 = some (.ifCond .eq 20, 3) := by decide +kernel
theorem q_198_25 : p_tb 198 25 = some (.iconst 0, 1) := by decide +kernel
theorem q_198_26 : p_tb 198 26 = some (.ireturn, 1) := by decide +kernel
theorem q_202_0 : p_tb 202 0 = some (.aload_n 0, 1) := by decide +kernel
theorem q_202_1 : p_tb 202 1 = some (.getfield 33, 3) := by decide +kernel
theorem q_202_4 : p_tb 202 4 = some (.bipush 80, 2) := by decide +kernel
theorem q_202_6 : p_tb 202 6 = some (.iaload, 1) := by decide +kernel
theorem q_202_7 : p_tb 202 7 = some (.aload_n 0, 1) := by decide +kernel
theorem q_202_8 : p_tb 202 8 = some (.getfield 33, 3) := by decide +kernel
theorem q_202_11 : p_tb 202 11 = some (.bipush 81, 2) := by decide +kernel
theorem q_202_13 : p_tb 202 13 = some (.iaload, 1) := by decide +kernel
theorem q_202_14 : p_tb 202 14 = some (.iadd, 1) := by decide +kernel
theorem q_202_15 : p_tb 202 15 = some (.ireturn, 1) := by decide +kernel
theorem q_203_0 : p_tb 203 0 = some (.aload_n 0, 1) := by decide +kernel
theorem q_203_1 : p_tb 203 1 = some (.iconst 0, 1) := by decide +kernel
theorem q_203_2 : p_tb 203 2 = some (.putfield 1, 3) := by decide +kernel
theorem q_203_5 : p_tb 203 5 = some (.iconst 0, 1) := by decide +kernel
theorem q_203_6 : p_tb 203 6 = some (.istore_n 2, 1) := by decide +kernel
theorem q_203_7 : p_tb 203 7 = some (.iconst 0, 1) := by decide +kernel
theorem q_203_8 : p_tb 203 8 = some (.istore_n 3, 1) := by decide +kernel
theorem q_203_9 : p_tb 203 9 = some (.iload_n 3, 1) := by decide +kernel
theorem q_203_10 : p_tb 203 10 = some (.aload_n 0, 1) := by decide +kernel
theorem q_203_11 : p_tb 203 11 = some (.getfield 33, 3) := by decide +kernel
theorem q_203_14 : p_tb 203 14 = some (.iconst 0, 1) := by decide +kernel
theorem q_203_15 : p_tb 203 15 = some (.iaload, 1) := by decide +kernel
theorem q_203_16 : p_tb 203 16 = some (.if_icmp .ge 23, 3) := by decide +kernel
theorem q_203_39 : p_tb 203 39 = some (.iload_n 1, 1) := by decide +kernel
theorem q_203_40 : p_tb 203 40 = some (.tableswitch 83 0 5 #[40, 48, 58, 68, 76, 78], 40) := by decide +kernel
theorem q_203_80 : p_tb 203 80 = some (.aload_n 0, 1) := by decide +kernel
theorem q_203_81 : p_tb 203 81 = some (.getfield 33, 3) := by decide +kernel
theorem q_203_84 : p_tb 203 84 = some (.bipush 33, 2) := by decide +kernel
theorem q_203_86 : p_tb 203 86 = some (.iaload, 1) := by decide +kernel
theorem q_203_87 : p_tb 203 87 = some (.ireturn, 1) := by decide +kernel
theorem q_203_88 : p_tb 203 88 = some (.aload_n 0, 1) := by decide +kernel
theorem q_203_89 : p_tb 203 89 = some (.getfield 33, 3) := by decide +kernel
theorem q_203_92 : p_tb 203 92 = some (.bipush 34, 2) := by decide +kernel
theorem q_203_94 : p_tb 203 94 = some (.iaload, 1) := by decide +kernel
theorem q_203_95 : p_tb 203 95 = some (.iconst 1, 1) := by decide +kernel
theorem q_203_96 : p_tb 203 96 = some (.isub, 1) := by decide +kernel
theorem q_203_97 : p_tb 203 97 = some (.ireturn, 1) := by decide +kernel
theorem q_203_98 : p_tb 203 98 = some (.aload_n 0, 1) := by decide +kernel
theorem q_203_99 : p_tb 203 99 = some (.getfield 33, 3) := by decide +kernel
theorem q_203_102 : p_tb 203 102 = some (.bipush 35, 2) := by decide +kernel
theorem q_203_104 : p_tb 203 104 = some (.iaload, 1) := by decide +kernel
theorem q_203_105 : p_tb 203 105 = some (.iconst 1, 1) := by decide +kernel
theorem q_203_106 : p_tb 203 106 = some (.isub, 1) := by decide +kernel
theorem q_203_107 : p_tb 203 107 = some (.ireturn, 1) := by decide +kernel
theorem q_203_108 : p_tb 203 108 = some (.aload_n 0, 1) := by decide +kernel
theorem q_203_109 : p_tb 203 109 = some (.getfield 33, 3) := by decide +kernel
theorem q_203_112 : p_tb 203 112 = some (.bipush 54, 2) := by decide +kernel
theorem q_203_114 : p_tb 203 114 = some (.iaload, 1) := by decide +kernel
theorem q_203_115 : p_tb 203 115 = some (.ireturn, 1) := by decide +kernel
theorem q_203_116 : p_tb 203 116 = some (.iload_n 2, 1) := by decide +kernel
theorem q_203_117 : p_tb 203 117 = some (.ireturn, 1) := by decide +kernel
theorem q_203_118 : p_tb 203 118 = some (.aload_n 0, 1) := by decide +kernel
theorem q_203_119 : p_tb 203 119 = some (.invokevirtual 254, 3) := by decide +kernel
theorem q_203_122 : p_tb 203 122 = some (.ireturn, 1) := by decide +kernel
theorem q_203_123 : p_tb 203 123 = some (.iconst (-1), 1) := by decide +kernel
theorem q_203_124 : p_tb 203 124 = some (.ireturn, 1) := by decide +kernel
theorem q_215_0 : p_tb 215 0 = some (.aload_n 0, 1) := by decide +kernel
theorem q_215_1 : p_tb 215 1 = some (.iconst 0, 1) := by decide +kernel
theorem q_215_2 : p_tb 215 2 = some (.putfield 1, 3) := by decide +kernel
theorem q_215_5 : p_tb 215 5 = some (.aload_n 0, 1) := by decide +kernel
theorem q_215_6 : p_tb 215 6 = some (.iload_n 1, 1) := by decide +kernel
theorem q_215_7 : p_tb 215 7 = some (.invokevirtual 241, 3) := by decide +kernel
theorem q_215_10 : p_tb 215 10 = some (.ifCond .ne 5, 3) := by decide +kernel
theorem q_215_13 : p_tb 215 13 = some (.iconst (-1), 1) := by decide +kernel
theorem q_215_14 : p_tb 215 14 = some (.ireturn, 1) := by decide +kernel
theorem q_216_0 : p_tb 216 0 = some (.aload_n 0, 1) := by decide +kernel
theorem q_216_1 : p_tb 216 1 = some (.iconst 0, 1) := by decide +kernel
theorem q_216_2 : p_tb 216 2 = some (.putfield 1, 3) := by decide +kernel
theorem q_216_5 : p_tb 216 5 = some (.aload_n 0, 1) := by decide +kernel
theorem q_216_6 : p_tb 216 6 = some (.iload_n 1, 1) := by decide +kernel
theorem q_216_7 : p_tb 216 7 = some (.invokevirtual 241, 3) := by decide +kernel
theorem q_216_10 : p_tb 216 10 = some (.ifCond .ne 5, 3) := by decide +kernel
theorem q_216_13 : p_tb 216 13 = some (.iconst (-1), 1) := by decide +kernel
theorem q_216_14 : p_tb 216 14 = some (.ireturn, 1) := by decide +kernel
theorem q_217_0 : p_tb 217 0 = some (.aload_n 0, 1) := by decide +kernel
theorem q_217_1 : p_tb 217 1 = some (.iconst 0, 1) := by decide +kernel
theorem q_217_2 : p_tb 217 2 = some (.putfield 1, 3) := by decide +kernel
theorem q_217_5 : p_tb 217 5 = some (.aload_n 0, 1) := by decide +kernel
theorem q_217_6 : p_tb 217 6 = some (.iload_n 1, 1) := by decide +kernel
theorem q_217_7 : p_tb 217 7 = some (.invokevirtual 241, 3) := by decide +kernel
theorem q_217_10 : p_tb 217 10 = some (.ifCond .ne 5, 3) := by decide +kernel
theorem q_217_13 : p_tb 217 13 = some (.iconst (-1), 1) := by decide +kernel
theorem q_217_14 : p_tb 217 14 = some (.ireturn, 1) := by decide +kernel
theorem q_218_0 : p_tb 218 0 = some (.aload_n 0, 1) := by decide +kernel
theorem q_218_1 : p_tb 218 1 = some (.iconst 0, 1) := by decide +kernel
theorem q_218_2 : p_tb 218 2 = some (.putfield 1, 3) := by decide +kernel
theorem q_218_5 : p_tb 218 5 = some (.aload_n 0, 1) := by decide +kernel
theorem q_218_6 : p_tb 218 6 = some (.iload_n 1, 1) := by decide +kernel
theorem q_218_7 : p_tb 218 7 = some (.invokevirtual 241, 3) := by decide +kernel
theorem q_218_10 : p_tb 218 10 = some (.ifCond .ne 5, 3) := by decide +kernel
theorem q_218_13 : p_tb 218 13 = some (.iconst (-1), 1) := by decide +kernel
theorem q_218_14 : p_tb 218 14 = some (.ireturn, 1) := by decide +kernel
theorem q_219_0 : p_tb 219 0 = some (.aload_n 0, 1) := by decide +kernel
theorem q_219_1 : p_tb 219 1 = some (.iconst 0, 1) := by decide +kernel
theorem q_219_2 : p_tb 219 2 = some (.putfield 1, 3) := by decide +kernel
theorem q_219_5 : p_tb 219 5 = some (.aload_n 0, 1) := by decide +kernel
theorem q_219_6 : p_tb 219 6 = some (.iload_n 1, 1) := by decide +kernel
theorem q_219_7 : p_tb 219 7 = some (.invokevirtual 241, 3) := by decide +kernel
theorem q_219_10 : p_tb 219 10 = some (.ifCond .ne 5, 3) := by decide +kernel
theorem q_219_13 : p_tb 219 13 = some (.iconst (-1), 1) := by decide +kernel
theorem q_219_14 : p_tb 219 14 = some (.ireturn, 1) := by decide +kernel
theorem q_225_0 : p_tb 225 0 = some (.aload_n 0, 1) := by decide +kernel
theorem q_225_1 : p_tb 225 1 = some (.iconst 0, 1) := by decide +kernel
theorem q_225_2 : p_tb 225 2 = some (.putfield 1, 3) := by decide +kernel
theorem q_225_5 : p_tb 225 5 = some (.aload_n 0, 1) := by decide +kernel
theorem q_225_6 : p_tb 225 6 = some (.iload_n 1, 1) := by decide +kernel
theorem q_225_7 : p_tb 225 7 = some (.invokevirtual 241, 3) := by decide +kernel
theorem q_225_10 : p_tb 225 10 = some (.ifCond .eq 20, 3) := by decide +kernel
theorem q_225_30 : p_tb 225 30 = some (.iconst (-1), 1) := by decide +kernel
theorem q_225_31 : p_tb 225 31 = some (.ireturn, 1) := by decide +kernel
theorem q_226_0 : p_tb 226 0 = some (.aload_n 0, 1) := by decide +kernel
theorem q_226_1 : p_tb 226 1 = some (.iconst 0, 1) := by decide +kernel
theorem q_226_2 : p_tb 226 2 = some (.putfield 1, 3) := by decide +kernel
theorem q_226_5 : p_tb 226 5 = some (.aload_n 0, 1) := by decide +kernel
theorem q_226_6 : p_tb 226 6 = some (.iload_n 1, 1) := by decide +kernel
theorem q_226_7 : p_tb 226 7 = some (.iload_n 2, 1) := by decide +kernel
theorem q_226_8 : p_tb 226 8 = some (.invokevirtual 305, 3) := by decide +kernel
theorem q_226_11 : p_tb 226 11 = some (.ifCond .ne 5, 3) := by decide +kernel
theorem q_226_14 : p_tb 226 14 = some (.iconst (-1), 1) := by decide +kernel
theorem q_226_15 : p_tb 226 15 = some (.ireturn, 1) := by decide +kernel
theorem q_227_0 : p_tb 227 0 = some (.aload_n 0, 1) := by decide +kernel
theorem q_227_1 : p_tb 227 1 = some (.iconst 0, 1) := by decide +kernel
theorem q_227_2 : p_tb 227 2 = some (.putfield 1, 3) := by decide +kernel
theorem q_227_5 : p_tb 227 5 = some (.aload_n 0, 1) := by decide +kernel
theorem q_227_6 : p_tb 227 6 = some (.iload_n 1, 1) := by decide +kernel
theorem q_227_7 : p_tb 227 7 = some (.invokevirtual 251, 3) := by decide +kernel
theorem q_227_10 : p_tb 227 10 = some (.ifCond .eq 13, 3) := by decide +kernel
theorem q_227_23 : p_tb 227 23 = some (.iconst (-1), 1) := by decide +kernel
theorem q_227_24 : p_tb 227 24 = some (.ireturn, 1) := by decide +kernel
theorem q_228_0 : p_tb 228 0 = some (.aload_n 0, 1) := by decide +kernel
theorem q_228_1 : p_tb 228 1 = some (.iconst 0, 1) := by decide +kernel
theorem q_228_2 : p_tb 228 2 = some (.putfield 1, 3) := by decide +kernel
theorem q_228_5 : p_tb 228 5 = some (.aload_n 0, 1) := by decide +kernel
theorem q_228_6 : p_tb 228 6 = some (.iload_n 1, 1) := by decide +kernel
theorem q_228_7 : p_tb 228 7 = some (.invokevirtual 251, 3) := by decide +kernel
theorem q_228_10 : p_tb 228 10 = some (.ifCond .eq 13, 3) := by decide +kernel
theorem q_228_23 : p_tb 228 23 = some (.iconst (-1), 1) := by decide +kernel
theorem q_228_24 : p_tb 228 24 = some (.ireturn, 1) := by decide +kernel
theorem q_229_0 : p_tb 229 0 = some (.aload_n 0, 1) := by decide +kernel
theorem q_229_1 : p_tb 229 1 = some (.iconst 0, 1) := by decide +kernel
theorem q_229_2 : p_tb 229 2 = some (.putfield 1, 3) := by decide +kernel
theorem q_229_5 : p_tb 229 5 = some (.aload_n 0, 1) := by decide +kernel
theorem q_229_6 : p_tb 229 6 = some (.iload_n 1, 1) := by decide +kernel
theorem q_229_7 : p_tb 229 7 = some (.invokevirtual 251, 3) := by decide +kernel
theorem q_229_10 : p_tb 229 10 = some (.ifCond .eq 11, 3) := by decide +kernel
theorem q_229_21 : p_tb 229 21 = some (.iconst (-1), 1) := by decide +kernel
theorem q_229_22 : p_tb 229 22 = some (.ireturn, 1) := by decide +kernel
theorem q_230_0 : p_tb 230 0 = some (.aload_n 0, 1) := by decide +kernel
theorem q_230_1 : p_tb 230 1 = some (.iconst 0, 1) := by decide +kernel
theorem q_230_2 : p_tb 230 2 = some (.putfield 1, 3) := by decide +kernel
theorem q_230_5 : p_tb 230 5 = some (.aload_n 0, 1) := by decide +kernel
theorem q_230_6 : p_tb 230 6 = some (.iload_n 1, 1) := by decide +kernel
theorem q_230_7 : p_tb 230 7 = some (.invokevirtual 241, 3) := by decide +kernel
theorem q_230_10 : p_tb 230 10 = some (.ifCond .eq 28, 3) := by decide +kernel
theorem q_230_38 : p_tb 230 38 = some (.iconst (-1), 1) := by decide +kernel
theorem q_230_39 : p_tb 230 39 = some (.ireturn, 1) := by decide +kernel
theorem q_240_0 : p_tb 240 0 = some (.aload_n 0, 1) := by decide +kernel
theorem q_240_1 : p_tb 240 1 = some (.iconst 0, 1) := by decide +kernel
theorem q_240_2 : p_tb 240 2 = some (.putfield 1, 3) := by decide +kernel
theorem q_240_5 : p_tb 240 5 = some (.aload_n 0, 1) := by decide +kernel
theorem q_240_6 : p_tb 240 6 = some (.iload_n 1, 1) := by decide +kernel
theorem q_240_7 : p_tb 240 7 = some (.invokevirtual 251, 3) := by decide +kernel
theorem q_240_10 : p_tb 240 10 = some (.ifCond .eq 13, 3) := by decide +kernel
theorem q_240_23 : p_tb 240 23 = some (.iconst (-1), 1) := by decide +kernel
theorem q_240_24 : p_tb 240 24 = some (.ireturn, 1) := by decide +kernel
theorem q_241_0 : p_tb 241 0 = some (.aload_n 0, 1) := by decide +kernel
theorem q_241_1 : p_tb 241 1 = some (.iconst 0, 1) := by decide +kernel
theorem q_241_2 : p_tb 241 2 = some (.putfield 1, 3) := by decide +kernel
theorem q_241_5 : p_tb 241 5 = some (.aload_n 0, 1) := by decide +kernel
theorem q_241_6 : p_tb 241 6 = some (.iload_n 1, 1) := by decide +kernel
theorem q_241_7 : p_tb 241 7 = some (.invokevirtual 251, 3) := by decide +kernel
theorem q_241_10 : p_tb 241 10 = some (.ifCond .eq 13, 3) := by decide +kernel
theorem q_241_23 : p_tb 241 23 = some (.iconst (-1), 1) := by decide +kernel
theorem q_241_24 : p_tb 241 24 = some (.ireturn, 1) := by decide +kernel
theorem q_244_0 : p_tb 244 0 = some (.aload_n 0, 1) := by decide +kernel
theorem q_244_1 : p_tb 244 1 = some (.iconst 0, 1) := by decide +kernel
theorem q_244_2 : p_tb 244 2 = some (.putfield 1, 3) := by decide +kernel
theorem q_244_5 : p_tb 244 5 = some (.aload_n 0, 1) := by decide +kernel
theorem q_244_6 : p_tb 244 6 = some (.iload_n 1, 1) := by decide +kernel
theorem q_244_7 : p_tb 244 7 = some (.invokevirtual 241, 3) := by decide +kernel
theorem q_244_10 : p_tb 244 10 = some (.ifCond .eq 20, 3) := by decide +kernel
theorem q_244_30 : p_tb 244 30 = some (.iconst (-1), 1) := by decide +kernel
theorem q_244_31 : p_tb 244 31 = some (.ireturn, 1) := by decide +kernel
theorem q_245_0 : p_tb 245 0 = some (.aload_n 0, 1) := by decide +kernel
theorem q_245_1 : p_tb 245 1 = some (.iconst 0, 1) := by decide +kernel
theorem q_245_2 : p_tb 245 2 = some (.putfield 1, 3) := by decide +kernel
theorem q_245_5 : p_tb 245 5 = some (.aload_n 0, 1) := by decide +kernel
theorem q_245_6 : p_tb 245 6 = some (.iload_n 1, 1) := by decide +kernel
theorem q_245_7 : p_tb 245 7 = some (.invokevirtual 241, 3) := by decide +kernel
theorem q_245_10 : p_tb 245 10 = some (.ifCond .eq 11, 3) := by decide +kernel
theorem q_245_21 : p_tb 245 21 = some (.iconst (-1), 1) := by decide +kernel
theorem q_245_22 : p_tb 245 22 = some (.ireturn, 1) := by decide +kernel
theorem q_247_0 : p_tb 247 0 = some (.aload_n 0, 1) := by decide +kernel
theorem q_247_1 : p_tb 247 1 = some (.iconst 0, 1) := by decide +kernel
theorem q_247_2 : p_tb 247 2 = some (.putfield 1, 3) := by decide +kernel
theorem q_247_5 : p_tb 247 5 = some (.aload_n 0, 1) := by decide +kernel
theorem q_247_6 : p_tb 247 6 = some (.sipush 940, 3) := by decide +kernel
theorem q_247_9 : p_tb 247 9 = some (.invokevirtual 226, 3) := by decide +kernel
theorem q_247_12 : p_tb 247 12 = some (.aload_n 0, 1) := by decide +kernel
theorem q_247_13 : p_tb 247 13 = some (.getfield 18, 3) := by decide +kernel
theorem q_247_16 : p_tb 247 16 = some (.iconst 1, 1) := by decide +kernel
theorem q_247_17 : p_tb 247 17 = some (.bipush 40, 2) := by decide +kernel
theorem q_247_19 : p_tb 247 19 = some (.invokestatic 176, 3) := by decide +kernel
theorem q_247_22 : p_tb 247 22 = some (.ifCond .eq 15, 3) := by decide +kernel
theorem q_247_37 : p_tb 247 37 = some (.iconst 0, 1) := by decide +kernel
theorem q_247_38 : p_tb 247 38 = some (.istore_n 2, 1) := by decide +kernel
theorem q_247_39 : p_tb 247 39 = some (.iconst 0, 1) := by decide +kernel
theorem q_247_40 : p_tb 247 40 = some (.istore_n 3, 1) := by decide +kernel
theorem q_247_41 : p_tb 247 41 = some (.iload_n 3, 1) := by decide +kernel
theorem q_247_42 : p_tb 247 42 = some (.aload_n 0, 1) := by decide +kernel
theorem q_247_43 : p_tb 247 43 = some (.getfield 18, 3) := by decide +kernel
theorem q_247_46 : p_tb 247 46 = some (.if_icmp .ge 23, 3) := by decide +kernel
theorem q_247_69 : p_tb 247 69 = some (.iload_n 2, 1) := by decide +kernel
theorem q_247_70 : p_tb 247 70 = some (.ifCond .ne 6, 3) := by decide +kernel
theorem q_247_73 : p_tb 247 73 = some (.bipush (-2), 2) := by decide +kernel
theorem q_247_75 : p_tb 247 75 = some (.ireturn, 1) := by decide +kernel
theorem q_250_0 : p_tb 250 0 = some (.aload_n 0, 1) := by decide +kernel
theorem q_250_1 : p_tb 250 1 = some (.iload_n 2, 1) := by decide +kernel
theorem q_250_2 : p_tb 250 2 = some (.invokevirtual 251, 3) := by decide +kernel
theorem q_250_5 : p_tb 250 5 = some (.ifCond .eq 27, 3) := by decide +kernel
theorem q_250_32 : p_tb 250 32 = some (.iconst (-1), 1) := by decide +kernel
theorem q_250_33 : p_tb 250 33 = some (.ireturn, 1) := by decide +kernel
theorem q_251_0 : p_tb 251 0 = some (.aload_n 0, 1) := by decide +kernel
theorem q_251_1 : p_tb 251 1 = some (.iconst 0, 1) := by decide +kernel
theorem q_251_2 : p_tb 251 2 = some (.putfield 1, 3) := by decide +kernel
theorem q_251_5 : p_tb 251 5 = some (.aload_n 0, 1) := by decide +kernel
theorem q_251_6 : p_tb 251 6 = some (.sipush 136, 3) := by decide +kernel
theorem q_251_9 : p_tb 251 9 = some (.iload_n 1, 1) := by decide +kernel
theorem q_251_10 : p_tb 251 10 = some (.iload_n 2, 1) := by decide +kernel
theorem q_251_11 : p_tb 251 11 = some (.invokevirtual 352, 3) := by decide +kernel
theorem q_251_14 : p_tb 251 14 = some (.ireturn, 1) := by decide +kernel
theorem q_252_0 : p_tb 252 0 = some (.aload_n 0, 1) := by decide +kernel
theorem q_252_1 : p_tb 252 1 = some (.iconst 0, 1) := by decide +kernel
theorem q_252_2 : p_tb 252 2 = some (.putfield 1, 3) := by decide +kernel
theorem q_252_5 : p_tb 252 5 = some (.aload_n 0, 1) := by decide +kernel
theorem q_252_6 : p_tb 252 6 = some (.sipush 176, 3) := by decide +kernel
theorem q_252_9 : p_tb 252 9 = some (.iload_n 1, 1) := by decide +kernel
theorem q_252_10 : p_tb 252 10 = some (.iload_n 2, 1) := by decide +kernel
theorem q_252_11 : p_tb 252 11 = some (.invokevirtual 352, 3) := by decide +kernel
theorem q_252_14 : p_tb 252 14 = some (.ireturn, 1) := by decide +kernel
theorem q_256_0 : p_tb 256 0 = some (.aload_n 0, 1) := by decide +kernel
theorem q_256_1 : p_tb 256 1 = some (.iconst 0, 1) := by decide +kernel
theorem q_256_2 : p_tb 256 2 = some (.putfield 1, 3) := by decide +kernel
theorem q_256_5 : p_tb 256 5 = some (.iload_n 1, 1) := by decide +kernel
theorem q_256_6 : p_tb 256 6 = some (.iconst 1, 1) := by decide +kernel
theorem q_256_7 : p_tb 256 7 = some (.bipush 60, 2) := by decide +kernel
theorem q_256_9 : p_tb 256 9 = some (.invokestatic 176, 3) := by decide +kernel
theorem q_256_12 : p_tb 256 12 = some (.ifCond .eq 12, 3) := by decide +kernel
theorem q_256_15 : p_tb 256 15 = some (.aload_n 0, 1) := by decide +kernel
theorem q_256_16 : p_tb 256 16 = some (.getfield 33, 3) := by decide +kernel
theorem q_256_19 : p_tb 256 19 = some (.iconst 0, 1) := by decide +kernel
theorem q_256_20 : p_tb 256 20 = some (.iaload, 1) := by decide +kernel
theorem q_256_21 : p_tb 256 21 = some (.ifCond .ne 5, 3) := by decide +kernel
theorem q_256_24 : p_tb 256 24 = some (.iconst (-1), 1) := by decide +kernel
theorem q_256_25 : p_tb 256 25 = some (.ireturn, 1) := by decide +kernel
theorem q_257_0 : p_tb 257 0 = some (.aload_n 0, 1) := by decide +kernel
theorem q_257_1 : p_tb 257 1 = some (.iconst 0, 1) := by decide +kernel
theorem q_257_2 : p_tb 257 2 = some (.putfield 1, 3) := by decide +kernel
theorem q_257_5 : p_tb 257 5 = some (.aload_n 0, 1) := by decide +kernel
theorem q_257_6 : p_tb 257 6 = some (.iload_n 1, 1) := by decide +kernel
theorem q_257_7 : p_tb 257 7 = some (.invokevirtual 241, 3) := by decide +kernel
theorem q_257_10 : p_tb 257 10 = some (.ifCond .eq 13, 3) := by decide +kernel
theorem q_257_23 : p_tb 257 23 = some (.iconst (-1), 1) := by decide +kernel
theorem q_257_24 : p_tb 257 24 = some (.ireturn, 1) := by decide +kernel
theorem q_260_0 : p_tb 260 0 = some (.aload_n 0, 1) := by decide +kernel
theorem q_260_1 : p_tb 260 1 = some (.iconst 0, 1) := by decide +kernel
theorem q_260_2 : p_tb 260 2 = some (.putfield 1, 3) := by decide +kernel
theorem q_260_5 : p_tb 260 5 = some (.iload_n 1, 1) := by decide +kernel
theorem q_260_6 : p_tb 260 6 = some (.iconst 0, 1) := by decide +kernel
theorem q_260_7 : p_tb 260 7 = some (.iconst 1, 1) := by decide +kernel
theorem q_260_8 : p_tb 260 8 = some (.invokestatic 176, 3) := by decide +kernel
theorem q_260_11 : p_tb 260 11 = some (.ifCond .ne 7, 3) := by decide +kernel
theorem q_260_14 : p_tb 260 14 = some (.sipush (-1000), 3) := by decide +kernel
theorem q_260_17 : p_tb 260 17 = some (.ireturn, 1) := by decide +kernel
theorem q_261_0 : p_tb 261 0 = some (.aload_n 0, 1) := by decide +kernel
theorem q_261_1 : p_tb 261 1 = some (.iconst 0, 1) := by decide +kernel
theorem q_261_2 : p_tb 261 2 = some (.putfield 1, 3) := by decide +kernel
theorem q_261_5 : p_tb 261 5 = some (.aload_n 0, 1) := by decide +kernel
theorem q_261_6 : p_tb 261 6 = some (.getfield 378, 3) := by decide +kernel
theorem q_261_9 : p_tb 261 9 = some (.ifCond .eq 21, 3) := by decide +kernel
theorem q_261_30 : p_tb 261 30 = some (.iconst (-1), 1) := by decide +kernel
theorem q_261_31 : p_tb 261 31 = some (.ireturn, 1) := by decide +kernel
theorem q_272_0 : p_tb 272 0 = some (.aload_n 0, 1) := by decide +kernel
theorem q_272_1 : p_tb 272 1 = some (.iconst 0, 1) := by decide +kernel
theorem q_272_2 : p_tb 272 2 = some (.putfield 1, 3) := by decide +kernel
theorem q_272_5 : p_tb 272 5 = some (.aload_n 0, 1) := by decide +kernel
theorem q_272_6 : p_tb 272 6 = some (.getfield 33, 3) := by decide +kernel
theorem q_272_9 : p_tb 272 9 = some (.sipush 216, 3) := by decide +kernel
theorem q_272_12 : p_tb 272 12 = some (.iaload, 1) := by decide +kernel
theorem q_272_13 : p_tb 272 13 = some (.ifCond .eq 8, 3) := by decide +kernel
theorem q_272_21 : p_tb 272 21 = some (.iconst (-1), 1) := by decide +kernel
theorem q_272_22 : p_tb 272 22 = some (.ireturn, 1) := by decide +kernel
theorem q_273_0 : p_tb 273 0 = some (.aload_n 0, 1) := by decide +kernel
theorem q_273_1 : p_tb 273 1 = some (.iconst 0, 1) := by decide +kernel
theorem q_273_2 : p_tb 273 2 = some (.putfield 1, 3) := by decide +kernel
theorem q_273_5 : p_tb 273 5 = some (.iload_n 1, 1) := by decide +kernel
theorem q_273_6 : p_tb 273 6 = some (.iconst 0, 1) := by decide +kernel
theorem q_273_7 : p_tb 273 7 = some (.iconst 1, 1) := by decide +kernel
theorem q_273_8 : p_tb 273 8 = some (.invokestatic 176, 3) := by decide +kernel
theorem q_273_11 : p_tb 273 11 = some (.ifCond .ne 5, 3) := by decide +kernel
theorem q_273_14 : p_tb 273 14 = some (.iconst 0, 1) := by decide +kernel
theorem q_273_15 : p_tb 273 15 = some (.ireturn, 1) := by decide +kernel
theorem q_274_0 : p_tb 274 0 = some (.aload_n 0, 1) := by decide +kernel
theorem q_274_1 : p_tb 274 1 = some (.iconst 0, 1) := by decide +kernel
theorem q_274_2 : p_tb 274 2 = some (.putfield 1, 3) := by decide +kernel
theorem q_274_5 : p_tb 274 5 = some (.iload_n 1, 1) := by decide +kernel
theorem q_274_6 : p_tb 274 6 = some (.iconst 0, 1) := by decide +kernel
theorem q_274_7 : p_tb 274 7 = some (.iconst 1, 1) := by decide +kernel
theorem q_274_8 : p_tb 274 8 = some (.invokestatic 176, 3) := by decide +kernel
theorem q_274_11 : p_tb 274 11 = some (.ifCond .eq 12, 3) := by decide +kernel
theorem q_274_14 : p_tb 274 14 = some (.aload_n 0, 1) := by decide +kernel
theorem q_274_15 : p_tb 274 15 = some (.getfield 75, 3) := by decide +kernel
theorem q_274_18 : p_tb 274 18 = some (.iload_n 1, 1) := by decide +kernel
theorem q_274_19 : p_tb 274 19 = some (.baload, 1) := by decide +kernel
theorem q_274_20 : p_tb 274 20 = some (.ifCond .ne 5, 3) := by decide +kernel
theorem q_274_23 : p_tb 274 23 = some (.iconst 0, 1) := by decide +kernel
theorem q_274_24 : p_tb 274 24 = some (.ireturn, 1) := by decide +kernel
theorem q_275_0 : p_tb 275 0 = some (.aload_n 0, 1) := by decide +kernel
theorem q_275_1 : p_tb 275 1 = some (.iconst 0, 1) := by decide +kernel
theorem q_275_2 : p_tb 275 2 = some (.putfield 1, 3) := by decide +kernel
theorem q_275_5 : p_tb 275 5 = some (.iload_n 1, 1) := by decide +kernel
theorem q_275_6 : p_tb 275 6 = some (.tableswitch 91 0 5 #[38, 45, 52, 59, 66, 86], 38) := by decide +kernel
theorem q_275_44 : p_tb 275 44 = some (.aload_n 0, 1) := by decide +kernel
theorem q_275_45 : p_tb 275 45 = some (.getfield 33, 3) := by decide +kernel
theorem q_275_48 : p_tb 275 48 = some (.iconst 0, 1) := by decide +kernel
theorem q_275_49 : p_tb 275 49 = some (.iaload, 1) := by decide +kernel
theorem q_275_50 : p_tb 275 50 = some (.ireturn, 1) := by decide +kernel
theorem q_275_51 : p_tb 275 51 = some (.aload_n 0, 1) := by decide +kernel
theorem q_275_52 : p_tb 275 52 = some (.getfield 33, 3) := by decide +kernel
theorem q_275_55 : p_tb 275 55 = some (.iconst 1, 1) := by decide +kernel
theorem q_275_56 : p_tb 275 56 = some (.iaload, 1) := by decide +kernel
theorem q_275_57 : p_tb 275 57 = some (.ireturn, 1) := by decide +kernel
theorem q_275_58 : p_tb 275 58 = some (.aload_n 0, 1) := by decide +kernel
theorem q_275_59 : p_tb 275 59 = some (.getfield 33, 3) := by decide +kernel
theorem q_275_62 : p_tb 275 62 = some (.iconst 2, 1) := by decide +kernel
theorem q_275_63 : p_tb 275 63 = some (.iaload, 1) := by decide +kernel
theorem q_275_64 : p_tb 275 64 = some (.ireturn, 1) := by decide +kernel
theorem q_275_65 : p_tb 275 65 = some (.aload_n 0, 1) := by decide +kernel
theorem q_275_66 : p_tb 275 66 = some (.getfield 33, 3) := by decide +kernel
theorem q_275_69 : p_tb 275 69 = some (.iconst 3, 1) := by decide +kernel
theorem q_275_70 : p_tb 275 70 = some (.iaload, 1) := by decide +kernel
theorem q_275_71 : p_tb 275 71 = some (.ireturn, 1) := by decide +kernel
theorem q_275_72 : p_tb 275 72 = some (.aload_n 0, 1) := by decide +kernel
theorem q_275_73 : p_tb 275 73 = some (.getfield 33, 3) := by decide +kernel
theorem q_275_76 : p_tb 275 76 = some (.iconst 4, 1) := by decide +kernel
theorem q_275_77 : p_tb 275 77 = some (.iaload, 1) := by decide +kernel
theorem q_275_78 : p_tb 275 78 = some (.ifCond .ne 7, 3) := by decide +kernel
theorem q_275_81 : p_tb 275 81 = some (.iconst (-1), 1) := by decide +kernel
theorem q_275_82 : p_tb 275 82 = some (.goto 9, 3) := by decide +kernel
theorem q_275_91 : p_tb 275 91 = some (.ireturn, 1) := by decide +kernel
theorem q_275_92 : p_tb 275 92 = some (.aload_n 0, 1) := by decide +kernel
theorem q_275_93 : p_tb 275 93 = some (.getfield 7, 3) := by decide +kernel
theorem q_275_96 : p_tb 275 96 = some (.ireturn, 1) := by decide +kernel
theorem q_275_97 : p_tb 275 97 = some (.iconst (-1), 1) := by decide +kernel
theorem q_275_98 : p_tb 275 98 = some (.ireturn, 1) := by decide +kernel
theorem q_285_23 : p_tb 285 23 = some (.iload 4, 2) := by decide +kernel
theorem q_285_25 : p_tb 285 25 = some (.aload_n 0, 1) := by decide +kernel
theorem q_285_26 : p_tb 285 26 = some (.arraylength, 1) := by decide +kernel
theorem q_285_27 : p_tb 285 27 = some (.bipush 6, 2) := by decide +kernel
theorem q_285_29 : p_tb 285 29 = some (.isub, 1) := by decide +kernel
theorem q_285_30 : p_tb 285 30 = some (.if_icmp .gt 1661, 3) := by decide +kernel
theorem q_285_33 : p_tb 285 33 = some (.aload_n 0, 1) := by decide +kernel
theorem q_285_34 : p_tb 285 34 = some (.iload 4, 2) := by decide +kernel
theorem q_285_36 : p_tb 285 36 = some (.iaload, 1) := by decide +kernel
theorem q_285_37 : p_tb 285 37 = some (.bipush 63, 2) := by decide +kernel
theorem q_285_39 : p_tb 285 39 = some (.iand, 1) := by decide +kernel
theorem q_285_40 : p_tb 285 40 = some (.tableswitch 1645 0 42 #[188, 261, 286, 299, 312, 380, 448, 473, 498, 523, 548, 573, 598, 623, 636, 673, 710, 747, 784, 809, 846, 859, 951, 1054, 1134, 1159, 1184, 1197, 1234, 1271, 1284, 1309, 1322, 1359, 1396, 1433, 1482, 1507, 1532, 1545, 1570, 1595, 1620], 188) := by decide +kernel
theorem q_285_228 : p_tb 285 228 = some (.aload_n 1, 1) := by decide +kernel
theorem q_285_229 : p_tb 285 229 = some (.aload_n 0, 1) := by decide +kernel
theorem q_285_230 : p_tb 285 230 = some (.iload 4, 2) := by decide +kernel
theorem q_285_232 : p_tb 285 232 = some (.iconst 1, 1) := by decide +kernel
theorem q_285_233 : p_tb 285 233 = some (.iadd, 1) := by decide +kernel
theorem q_285_234 : p_tb 285 234 = some (.iaload, 1) := by decide +kernel
theorem q_285_235 : p_tb 285 235 = some (.aload_n 0, 1) := by decide +kernel
theorem q_285_236 : p_tb 285 236 = some (.iload 4, 2) := by decide +kernel
theorem q_285_238 : p_tb 285 238 = some (.iconst 2, 1) := by decide +kernel
theorem q_285_239 : p_tb 285 239 = some (.iadd, 1) := by decide +kernel
theorem q_285_240 : p_tb 285 240 = some (.iaload, 1) := by decide +kernel
theorem q_285_241 : p_tb 285 241 = some (.aload_n 0, 1) := by decide +kernel
theorem q_285_242 : p_tb 285 242 = some (.iload 4, 2) := by decide +kernel
theorem q_285_244 : p_tb 285 244 = some (.iconst 3, 1) := by decide +kernel
theorem q_285_245 : p_tb 285 245 = some (.iadd, 1) := by decide +kernel
theorem q_285_246 : p_tb 285 246 = some (.iaload, 1) := by decide +kernel
theorem q_285_247 : p_tb 285 247 = some (.aload_n 0, 1) := by decide +kernel
theorem q_285_248 : p_tb 285 248 = some (.iload 4, 2) := by decide +kernel
theorem q_285_250 : p_tb 285 250 = some (.iconst 4, 1) := by decide +kernel
theorem q_285_251 : p_tb 285 251 = some (.iadd, 1) := by decide +kernel
theorem q_285_252 : p_tb 285 252 = some (.iaload, 1) := by decide +kernel
theorem q_285_253 : p_tb 285 253 = some (.aload_n 0, 1) := by decide +kernel
theorem q_285_254 : p_tb 285 254 = some (.iload 4, 2) := by decide +kernel
theorem q_285_256 : p_tb 285 256 = some (.iconst 5, 1) := by decide +kernel
theorem q_285_257 : p_tb 285 257 = some (.iadd, 1) := by decide +kernel
theorem q_285_258 : p_tb 285 258 = some (.iaload, 1) := by decide +kernel
theorem q_285_259 : p_tb 285 259 = some (.invokevirtual 34, 3) := by decide +kernel
theorem q_285_262 : p_tb 285 262 = some (.aload_n 2, 1) := by decide +kernel
theorem q_285_263 : p_tb 285 263 = some (.aload_n 0, 1) := by decide +kernel
theorem q_285_264 : p_tb 285 264 = some (.iload 4, 2) := by decide +kernel
theorem q_285_266 : p_tb 285 266 = some (.iconst 1, 1) := by decide +kernel
theorem q_285_267 : p_tb 285 267 = some (.iadd, 1) := by decide +kernel
theorem q_285_268 : p_tb 285 268 = some (.iaload, 1) := by decide +kernel
theorem q_285_269 : p_tb 285 269 = some (.aload_n 0, 1) := by decide +kernel
theorem q_285_270 : p_tb 285 270 = some (.iload 4, 2) := by decide +kernel
theorem q_285_272 : p_tb 285 272 = some (.iconst 2, 1) := by decide +kernel
theorem q_285_273 : p_tb 285 273 = some (.iadd, 1) := by decide +kernel
theorem q_285_274 : p_tb 285 274 = some (.iaload, 1) := by decide +kernel
theorem q_285_275 : p_tb 285 275 = some (.aload_n 0, 1) := by decide +kernel
theorem q_285_276 : p_tb 285 276 = some (.iload 4, 2) := by decide +kernel
theorem q_285_278 : p_tb 285 278 = some (.iconst 3, 1) := by decide +kernel
theorem q_285_279 : p_tb 285 279 = some (.iadd, 1) := by decide +kernel
theorem q_285_280 : p_tb 285 280 = some (.iaload, 1) := by decide +kernel
theorem q_285_281 : p_tb 285 281 = some (.aload_n 0, 1) := by decide +kernel
theorem q_285_282 : p_tb 285 282 = some (.iload 4, 2) := by decide +kernel
theorem q_285_284 : p_tb 285 284 = some (.iconst 4, 1) := by decide +kernel
theorem q_285_285 : p_tb 285 285 = some (.iadd, 1) := by decide +kernel
theorem q_285_286 : p_tb 285 286 = some (.iaload, 1) := by decide +kernel
theorem q_285_287 : p_tb 285 287 = some (.aload_n 0, 1) := by decide +kernel
theorem q_285_288 : p_tb 285 288 = some (.iload 4, 2) := by decide +kernel
theorem q_285_290 : p_tb 285 290 = some (.iconst 5, 1) := by decide +kernel
theorem q_285_291 : p_tb 285 291 = some (.iadd, 1) := by decide +kernel
theorem q_285_292 : p_tb 285 292 = some (.iaload, 1) := by decide +kernel
theorem q_285_293 : p_tb 285 293 = some (.invokevirtual 38, 3) := by decide +kernel
theorem q_285_296 : p_tb 285 296 = some (.if_icmp .eq 1389, 3) := by decide +kernel
theorem q_285_301 : p_tb 285 301 = some (.aload_n 1, 1) := by decide +kernel
theorem q_285_302 : p_tb 285 302 = some (.aload_n 0, 1) := by decide +kernel
theorem q_285_303 : p_tb 285 303 = some (.iload 4, 2) := by decide +kernel
theorem q_285_305 : p_tb 285 305 = some (.iconst 1, 1) := by decide +kernel
theorem q_285_306 : p_tb 285 306 = some (.iadd, 1) := by decide +kernel
theorem q_285_307 : p_tb 285 307 = some (.iaload, 1) := by decide +kernel
theorem q_285_308 : p_tb 285 308 = some (.invokevirtual 39, 3) := by decide +kernel
theorem q_285_311 : p_tb 285 311 = some (.aload_n 2, 1) := by decide +kernel
theorem q_285_312 : p_tb 285 312 = some (.aload_n 0, 1) := by decide +kernel
theorem q_285_313 : p_tb 285 313 = some (.iload 4, 2) := by decide +kernel
theorem q_285_315 : p_tb 285 315 = some (.iconst 1, 1) := by decide +kernel
theorem q_285_316 : p_tb 285 316 = some (.iadd, 1) := by decide +kernel
theorem q_285_317 : p_tb 285 317 = some (.iaload, 1) := by decide +kernel
theorem q_285_318 : p_tb 285 318 = some (.invokevirtual 43, 3) := by decide +kernel
theorem q_285_321 : p_tb 285 321 = some (.if_icmp .eq 1364, 3) := by decide +kernel
theorem q_285_326 : p_tb 285 326 = some (.aload_n 1, 1) := by decide +kernel
theorem q_285_327 : p_tb 285 327 = some (.invokevirtual 44, 3) := by decide +kernel
theorem q_285_330 : p_tb 285 330 = some (.aload_n 2, 1) := by decide +kernel
theorem q_285_331 : p_tb 285 331 = some (.invokevirtual 48, 3) := by decide +kernel
theorem q_285_334 : p_tb 285 334 = some (.if_icmp .eq 1351, 3) := by decide +kernel
theorem q_285_339 : p_tb 285 339 = some (.aload_n 1, 1) := by decide +kernel
theorem q_285_340 : p_tb 285 340 = some (.invokevirtual 49, 3) := by decide +kernel
theorem q_285_343 : p_tb 285 343 = some (.aload_n 2, 1) := by decide +kernel
theorem q_285_344 : p_tb 285 344 = some (.invokevirtual 52, 3) := by decide +kernel
theorem q_285_347 : p_tb 285 347 = some (.if_icmp .eq 1338, 3) := by decide +kernel
theorem q_285_488 : p_tb 285 488 = some (.aload_n 1, 1) := by decide +kernel
theorem q_285_489 : p_tb 285 489 = some (.aload_n 0, 1) := by decide +kernel
theorem q_285_490 : p_tb 285 490 = some (.iload 4, 2) := by decide +kernel
theorem q_285_492 : p_tb 285 492 = some (.iconst 1, 1) := by decide +kernel
theorem q_285_493 : p_tb 285 493 = some (.iadd, 1) := by decide +kernel
theorem q_285_494 : p_tb 285 494 = some (.iaload, 1) := by decide +kernel
theorem q_285_495 : p_tb 285 495 = some (.invokevirtual 65, 3) := by decide +kernel
theorem q_285_498 : p_tb 285 498 = some (.aload_n 2, 1) := by decide +kernel
theorem q_285_499 : p_tb 285 499 = some (.aload_n 0, 1) := by decide +kernel
theorem q_285_500 : p_tb 285 500 = some (.iload 4, 2) := by decide +kernel
theorem q_285_502 : p_tb 285 502 = some (.iconst 1, 1) := by decide +kernel
theorem q_285_503 : p_tb 285 503 = some (.iadd, 1) := by decide +kernel
theorem q_285_504 : p_tb 285 504 = some (.iaload, 1) := by decide +kernel
theorem q_285_505 : p_tb 285 505 = some (.invokevirtual 69, 3) := by decide +kernel
theorem q_285_508 : p_tb 285 508 = some (.if_icmp .eq 1177, 3) := by decide +kernel
theorem q_285_513 : p_tb 285 513 = some (.aload_n 1, 1) := by decide +kernel
theorem q_285_514 : p_tb 285 514 = some (.aload_n 0, 1) := by decide +kernel
theorem q_285_515 : p_tb 285 515 = some (.iload 4, 2) := by decide +kernel
theorem q_285_517 : p_tb 285 517 = some (.iconst 1, 1) := by decide +kernel
theorem q_285_518 : p_tb 285 518 = some (.iadd, 1) := by decide +kernel
theorem q_285_519 : p_tb 285 519 = some (.iaload, 1) := by decide +kernel
theorem q_285_520 : p_tb 285 520 = some (.invokevirtual 70, 3) := by decide +kernel
theorem q_285_523 : p_tb 285 523 = some (.aload_n 2, 1) := by decide +kernel
theorem q_285_524 : p_tb 285 524 = some (.aload_n 0, 1) := by decide +kernel
theorem q_285_525 : p_tb 285 525 = some (.iload 4, 2) := by decide +kernel
theorem q_285_527 : p_tb 285 527 = some (.iconst 1, 1) := by decide +kernel
theorem q_285_528 : p_tb 285 528 = some (.iadd, 1) := by decide +kernel
theorem q_285_529 : p_tb 285 529 = some (.iaload, 1) := by decide +kernel
theorem q_285_530 : p_tb 285 530 = some (.invokevirtual 73, 3) := by decide +kernel
theorem q_285_533 : p_tb 285 533 = some (.if_icmp .eq 1152, 3) := by decide +kernel
theorem q_285_538 : p_tb 285 538 = some (.aload_n 1, 1) := by decide +kernel
theorem q_285_539 : p_tb 285 539 = some (.aload_n 0, 1) := by decide +kernel
theorem q_285_540 : p_tb 285 540 = some (.iload 4, 2) := by decide +kernel
theorem q_285_542 : p_tb 285 542 = some (.iconst 1, 1) := by decide +kernel
theorem q_285_543 : p_tb 285 543 = some (.iadd, 1) := by decide +kernel
theorem q_285_544 : p_tb 285 544 = some (.iaload, 1) := by decide +kernel
theorem q_285_545 : p_tb 285 545 = some (.invokevirtual 74, 3) := by decide +kernel
theorem q_285_548 : p_tb 285 548 = some (.aload_n 2, 1) := by decide +kernel
theorem q_285_549 : p_tb 285 549 = some (.aload_n 0, 1) := by decide +kernel
theorem q_285_550 : p_tb 285 550 = some (.iload 4, 2) := by decide +kernel
theorem q_285_552 : p_tb 285 552 = some (.iconst 1, 1) := by decide +kernel
theorem q_285_553 : p_tb 285 553 = some (.iadd, 1) := by decide +kernel
theorem q_285_554 : p_tb 285 554 = some (.iaload, 1) := by decide +kernel
theorem q_285_555 : p_tb 285 555 = some (.invokevirtual 77, 3) := by decide +kernel
theorem q_285_558 : p_tb 285 558 = some (.if_icmp .eq 1127, 3) := by decide +kernel
theorem q_285_563 : p_tb 285 563 = some (.aload_n 1, 1) := by decide +kernel
theorem q_285_564 : p_tb 285 564 = some (.aload_n 0, 1) := by decide +kernel
theorem q_285_565 : p_tb 285 565 = some (.iload 4, 2) := by decide +kernel
theorem q_285_567 : p_tb 285 567 = some (.iconst 1, 1) := by decide +kernel
theorem q_285_568 : p_tb 285 568 = some (.iadd, 1) := by decide +kernel
theorem q_285_569 : p_tb 285 569 = some (.iaload, 1) := by decide +kernel
theorem q_285_570 : p_tb 285 570 = some (.invokevirtual 78, 3) := by decide +kernel
theorem q_285_573 : p_tb 285 573 = some (.aload_n 2, 1) := by decide +kernel
theorem q_285_574 : p_tb 285 574 = some (.aload_n 0, 1) := by decide +kernel
theorem q_285_575 : p_tb 285 575 = some (.iload 4, 2) := by decide +kernel
theorem q_285_577 : p_tb 285 577 = some (.iconst 1, 1) := by decide +kernel
theorem q_285_578 : p_tb 285 578 = some (.iadd, 1) := by decide +kernel
theorem q_285_579 : p_tb 285 579 = some (.iaload, 1) := by decide +kernel
theorem q_285_580 : p_tb 285 580 = some (.invokevirtual 81, 3) := by decide +kernel
theorem q_285_583 : p_tb 285 583 = some (.if_icmp .eq 1102, 3) := by decide +kernel
theorem q_285_588 : p_tb 285 588 = some (.aload_n 1, 1) := by decide +kernel
theorem q_285_589 : p_tb 285 589 = some (.aload_n 0, 1) := by decide +kernel
theorem q_285_590 : p_tb 285 590 = some (.iload 4, 2) := by decide +kernel
theorem q_285_592 : p_tb 285 592 = some (.iconst 1, 1) := by decide +kernel
theorem q_285_593 : p_tb 285 593 = some (.iadd, 1) := by decide +kernel
theorem q_285_594 : p_tb 285 594 = some (.iaload, 1) := by decide +kernel
theorem q_285_595 : p_tb 285 595 = some (.invokevirtual 82, 3) := by decide +kernel
theorem q_285_598 : p_tb 285 598 = some (.aload_n 2, 1) := by decide +kernel
theorem q_285_599 : p_tb 285 599 = some (.aload_n 0, 1) := by decide +kernel
theorem q_285_600 : p_tb 285 600 = some (.iload 4, 2) := by decide +kernel
theorem q_285_602 : p_tb 285 602 = some (.iconst 1, 1) := by decide +kernel
theorem q_285_603 : p_tb 285 603 = some (.iadd, 1) := by decide +kernel
theorem q_285_604 : p_tb 285 604 = some (.iaload, 1) := by decide +kernel
theorem q_285_605 : p_tb 285 605 = some (.invokevirtual 85, 3) := by decide +kernel
theorem q_285_608 : p_tb 285 608 = some (.if_icmp .eq 1077, 3) := by decide +kernel
theorem q_285_613 : p_tb 285 613 = some (.aload_n 1, 1) := by decide +kernel
theorem q_285_614 : p_tb 285 614 = some (.aload_n 0, 1) := by decide +kernel
theorem q_285_615 : p_tb 285 615 = some (.iload 4, 2) := by decide +kernel
theorem q_285_617 : p_tb 285 617 = some (.iconst 1, 1) := by decide +kernel
theorem q_285_618 : p_tb 285 618 = some (.iadd, 1) := by decide +kernel
theorem q_285_619 : p_tb 285 619 = some (.iaload, 1) := by decide +kernel
theorem q_285_620 : p_tb 285 620 = some (.invokevirtual 86, 3) := by decide +kernel
theorem q_285_623 : p_tb 285 623 = some (.aload_n 2, 1) := by decide +kernel
theorem q_285_624 : p_tb 285 624 = some (.aload_n 0, 1) := by decide +kernel
theorem q_285_625 : p_tb 285 625 = some (.iload 4, 2) := by decide +kernel
theorem q_285_627 : p_tb 285 627 = some (.iconst 1, 1) := by decide +kernel
theorem q_285_628 : p_tb 285 628 = some (.iadd, 1) := by decide +kernel
theorem q_285_629 : p_tb 285 629 = some (.iaload, 1) := by decide +kernel
theorem q_285_630 : p_tb 285 630 = some (.invokevirtual 89, 3) := by decide +kernel
theorem q_285_633 : p_tb 285 633 = some (.if_icmp .eq 1052, 3) := by decide +kernel
theorem q_285_663 : p_tb 285 663 = some (.aload_n 1, 1) := by decide +kernel
theorem q_285_664 : p_tb 285 664 = some (.invokevirtual 94, 3) := by decide +kernel
theorem q_285_667 : p_tb 285 667 = some (.aload_n 2, 1) := by decide +kernel
theorem q_285_668 : p_tb 285 668 = some (.invokevirtual 97, 3) := by decide +kernel
theorem q_285_671 : p_tb 285 671 = some (.if_icmp .eq 1014, 3) := by decide +kernel
theorem q_285_676 : p_tb 285 676 = some (.aload_n 1, 1) := by decide +kernel
theorem q_285_677 : p_tb 285 677 = some (.aload_n 0, 1) := by decide +kernel
theorem q_285_678 : p_tb 285 678 = some (.iload 4, 2) := by decide +kernel
theorem q_285_680 : p_tb 285 680 = some (.iconst 1, 1) := by decide +kernel
theorem q_285_681 : p_tb 285 681 = some (.iadd, 1) := by decide +kernel
theorem q_285_682 : p_tb 285 682 = some (.iaload, 1) := by decide +kernel
theorem q_285_683 : p_tb 285 683 = some (.aload_n 0, 1) := by decide +kernel
theorem q_285_684 : p_tb 285 684 = some (.iload 4, 2) := by decide +kernel
theorem q_285_686 : p_tb 285 686 = some (.iconst 2, 1) := by decide +kernel
theorem q_285_687 : p_tb 285 687 = some (.iadd, 1) := by decide +kernel
theorem q_285_688 : p_tb 285 688 = some (.iaload, 1) := by decide +kernel
theorem q_285_689 : p_tb 285 689 = some (.invokevirtual 98, 3) := by decide +kernel
theorem q_285_692 : p_tb 285 692 = some (.aload_n 2, 1) := by decide +kernel
theorem q_285_693 : p_tb 285 693 = some (.aload_n 0, 1) := by decide +kernel
theorem q_285_694 : p_tb 285 694 = some (.iload 4, 2) := by decide +kernel
theorem q_285_696 : p_tb 285 696 = some (.iconst 1, 1) := by decide +kernel
theorem q_285_697 : p_tb 285 697 = some (.iadd, 1) := by decide +kernel
theorem q_285_698 : p_tb 285 698 = some (.iaload, 1) := by decide +kernel
theorem q_285_699 : p_tb 285 699 = some (.aload_n 0, 1) := by decide +kernel
theorem q_285_700 : p_tb 285 700 = some (.iload 4, 2) := by decide +kernel
theorem q_285_702 : p_tb 285 702 = some (.iconst 2, 1) := by decide +kernel
theorem q_285_703 : p_tb 285 703 = some (.iadd, 1) := by decide +kernel
theorem q_285_704 : p_tb 285 704 = some (.iaload, 1) := by decide +kernel
theorem q_285_705 : p_tb 285 705 = some (.invokevirtual 101, 3) := by decide +kernel
theorem q_285_708 : p_tb 285 708 = some (.if_icmp .eq 977, 3) := by decide +kernel
theorem q_285_713 : p_tb 285 713 = some (.aload_n 1, 1) := by decide +kernel
theorem q_285_714 : p_tb 285 714 = some (.aload_n 0, 1) := by decide +kernel
theorem q_285_715 : p_tb 285 715 = some (.iload 4, 2) := by decide +kernel
theorem q_285_717 : p_tb 285 717 = some (.iconst 1, 1) := by decide +kernel
theorem q_285_718 : p_tb 285 718 = some (.iadd, 1) := by decide +kernel
theorem q_285_719 : p_tb 285 719 = some (.iaload, 1) := by decide +kernel
theorem q_285_720 : p_tb 285 720 = some (.aload_n 0, 1) := by decide +kernel
theorem q_285_721 : p_tb 285 721 = some (.iload 4, 2) := by decide +kernel
theorem q_285_723 : p_tb 285 723 = some (.iconst 2, 1) := by decide +kernel
theorem q_285_724 : p_tb 285 724 = some (.iadd, 1) := by decide +kernel
theorem q_285_725 : p_tb 285 725 = some (.iaload, 1) := by decide +kernel
theorem q_285_726 : p_tb 285 726 = some (.invokevirtual 102, 3) := by decide +kernel
theorem q_285_729 : p_tb 285 729 = some (.aload_n 2, 1) := by decide +kernel
theorem q_285_730 : p_tb 285 730 = some (.aload_n 0, 1) := by decide +kernel
theorem q_285_731 : p_tb 285 731 = some (.iload 4, 2) := by decide +kernel
theorem q_285_733 : p_tb 285 733 = some (.iconst 1, 1) := by decide +kernel
theorem q_285_734 : p_tb 285 734 = some (.iadd, 1) := by decide +kernel
theorem q_285_735 : p_tb 285 735 = some (.iaload, 1) := by decide +kernel
theorem q_285_736 : p_tb 285 736 = some (.aload_n 0, 1) := by decide +kernel
theorem q_285_737 : p_tb 285 737 = some (.iload 4, 2) := by decide +kernel
theorem q_285_739 : p_tb 285 739 = some (.iconst 2, 1) := by decide +kernel
theorem q_285_740 : p_tb 285 740 = some (.iadd, 1) := by decide +kernel
theorem q_285_741 : p_tb 285 741 = some (.iaload, 1) := by decide +kernel
theorem q_285_742 : p_tb 285 742 = some (.invokevirtual 105, 3) := by decide +kernel
theorem q_285_745 : p_tb 285 745 = some (.if_icmp .eq 940, 3) := by decide +kernel
theorem q_285_750 : p_tb 285 750 = some (.aload_n 1, 1) := by decide +kernel
theorem q_285_751 : p_tb 285 751 = some (.aload_n 0, 1) := by decide +kernel
theorem q_285_752 : p_tb 285 752 = some (.iload 4, 2) := by decide +kernel
theorem q_285_754 : p_tb 285 754 = some (.iconst 1, 1) := by decide +kernel
theorem q_285_755 : p_tb 285 755 = some (.iadd, 1) := by decide +kernel
theorem q_285_756 : p_tb 285 756 = some (.iaload, 1) := by decide +kernel
theorem q_285_757 : p_tb 285 757 = some (.aload_n 0, 1) := by decide +kernel
theorem q_285_758 : p_tb 285 758 = some (.iload 4, 2) := by decide +kernel
theorem q_285_760 : p_tb 285 760 = some (.iconst 2, 1) := by decide +kernel
theorem q_285_761 : p_tb 285 761 = some (.iadd, 1) := by decide +kernel
theorem q_285_762 : p_tb 285 762 = some (.iaload, 1) := by decide +kernel
theorem q_285_763 : p_tb 285 763 = some (.invokevirtual 106, 3) := by decide +kernel
theorem q_285_766 : p_tb 285 766 = some (.aload_n 2, 1) := by decide +kernel
theorem q_285_767 : p_tb 285 767 = some (.aload_n 0, 1) := by decide +kernel
theorem q_285_768 : p_tb 285 768 = some (.iload 4, 2) := by decide +kernel
theorem q_285_770 : p_tb 285 770 = some (.iconst 1, 1) := by decide +kernel
theorem q_285_771 : p_tb 285 771 = some (.iadd, 1) := by decide +kernel
theorem q_285_772 : p_tb 285 772 = some (.iaload, 1) := by decide +kernel
theorem q_285_773 : p_tb 285 773 = some (.aload_n 0, 1) := by decide +kernel
theorem q_285_774 : p_tb 285 774 = some (.iload 4, 2) := by decide +kernel
theorem q_285_776 : p_tb 285 776 = some (.iconst 2, 1) := by decide +kernel
theorem q_285_777 : p_tb 285 777 = some (.iadd, 1) := by decide +kernel
theorem q_285_778 : p_tb 285 778 = some (.iaload, 1) := by decide +kernel
theorem q_285_779 : p_tb 285 779 = some (.invokevirtual 109, 3) := by decide +kernel
theorem q_285_782 : p_tb 285 782 = some (.if_icmp .eq 903, 3) := by decide +kernel
theorem q_285_787 : p_tb 285 787 = some (.aload_n 1, 1) := by decide +kernel
theorem q_285_788 : p_tb 285 788 = some (.aload_n 0, 1) := by decide +kernel
theorem q_285_789 : p_tb 285 789 = some (.iload 4, 2) := by decide +kernel
theorem q_285_791 : p_tb 285 791 = some (.iconst 1, 1) := by decide +kernel
theorem q_285_792 : p_tb 285 792 = some (.iadd, 1) := by decide +kernel
theorem q_285_793 : p_tb 285 793 = some (.iaload, 1) := by decide +kernel
theorem q_285_794 : p_tb 285 794 = some (.aload_n 0, 1) := by decide +kernel
theorem q_285_795 : p_tb 285 795 = some (.iload 4, 2) := by decide +kernel
theorem q_285_797 : p_tb 285 797 = some (.iconst 2, 1) := by decide +kernel
theorem q_285_798 : p_tb 285 798 = some (.iadd, 1) := by decide +kernel
theorem q_285_799 : p_tb 285 799 = some (.iaload, 1) := by decide +kernel
theorem q_285_800 : p_tb 285 800 = some (.invokevirtual 110, 3) := by decide +kernel
theorem q_285_803 : p_tb 285 803 = some (.aload_n 2, 1) := by decide +kernel
theorem q_285_804 : p_tb 285 804 = some (.aload_n 0, 1) := by decide +kernel
theorem q_285_805 : p_tb 285 805 = some (.iload 4, 2) := by decide +kernel
theorem q_285_807 : p_tb 285 807 = some (.iconst 1, 1) := by decide +kernel
theorem q_285_808 : p_tb 285 808 = some (.iadd, 1) := by decide +kernel
theorem q_285_809 : p_tb 285 809 = some (.iaload, 1) := by decide +kernel
theorem q_285_810 : p_tb 285 810 = some (.aload_n 0, 1) := by decide +kernel
theorem q_285_811 : p_tb 285 811 = some (.iload 4, 2) := by decide +kernel
theorem q_285_813 : p_tb 285 813 = some (.iconst 2, 1) := by decide +kernel
theorem q_285_814 : p_tb 285 814 = some (.iadd, 1) := by decide +kernel
theorem q_285_815 : p_tb 285 815 = some (.iaload, 1) := by decide +kernel
theorem q_285_816 : p_tb 285 816 = some (.invokevirtual 113, 3) := by decide +kernel
theorem q_285_819 : p_tb 285 819 = some (.if_icmp .eq 866, 3) := by decide +kernel
theorem q_285_824 : p_tb 285 824 = some (.aload_n 1, 1) := by decide +kernel
theorem q_285_825 : p_tb 285 825 = some (.aload_n 0, 1) := by decide +kernel
theorem q_285_826 : p_tb 285 826 = some (.iload 4, 2) := by decide +kernel
theorem q_285_828 : p_tb 285 828 = some (.iconst 1, 1) := by decide +kernel
theorem q_285_829 : p_tb 285 829 = some (.iadd, 1) := by decide +kernel
theorem q_285_830 : p_tb 285 830 = some (.iaload, 1) := by decide +kernel
theorem q_285_831 : p_tb 285 831 = some (.invokevirtual 114, 3) := by decide +kernel
theorem q_285_834 : p_tb 285 834 = some (.aload_n 2, 1) := by decide +kernel
theorem q_285_835 : p_tb 285 835 = some (.aload_n 0, 1) := by decide +kernel
theorem q_285_836 : p_tb 285 836 = some (.iload 4, 2) := by decide +kernel
theorem q_285_838 : p_tb 285 838 = some (.iconst 1, 1) := by decide +kernel
theorem q_285_839 : p_tb 285 839 = some (.iadd, 1) := by decide +kernel
theorem q_285_840 : p_tb 285 840 = some (.iaload, 1) := by decide +kernel
theorem q_285_841 : p_tb 285 841 = some (.invokevirtual 117, 3) := by decide +kernel
theorem q_285_844 : p_tb 285 844 = some (.if_icmp .eq 841, 3) := by decide +kernel
theorem q_285_849 : p_tb 285 849 = some (.aload_n 1, 1) := by decide +kernel
theorem q_285_850 : p_tb 285 850 = some (.aload_n 0, 1) := by decide +kernel
theorem q_285_851 : p_tb 285 851 = some (.iload 4, 2) := by decide +kernel
theorem q_285_853 : p_tb 285 853 = some (.iconst 1, 1) := by decide +kernel
theorem q_285_854 : p_tb 285 854 = some (.iadd, 1) := by decide +kernel
theorem q_285_855 : p_tb 285 855 = some (.iaload, 1) := by decide +kernel
theorem q_285_856 : p_tb 285 856 = some (.aload_n 0, 1) := by decide +kernel
theorem q_285_857 : p_tb 285 857 = some (.iload 4, 2) := by decide +kernel
theorem q_285_859 : p_tb 285 859 = some (.iconst 2, 1) := by decide +kernel
theorem q_285_860 : p_tb 285 860 = some (.iadd, 1) := by decide +kernel
theorem q_285_861 : p_tb 285 861 = some (.iaload, 1) := by decide +kernel
theorem q_285_862 : p_tb 285 862 = some (.invokevirtual 118, 3) := by decide +kernel
theorem q_285_865 : p_tb 285 865 = some (.aload_n 2, 1) := by decide +kernel
theorem q_285_866 : p_tb 285 866 = some (.aload_n 0, 1) := by decide +kernel
theorem q_285_867 : p_tb 285 867 = some (.iload 4, 2) := by decide +kernel
theorem q_285_869 : p_tb 285 869 = some (.iconst 1, 1) := by decide +kernel
theorem q_285_870 : p_tb 285 870 = some (.iadd, 1) := by decide +kernel
theorem q_285_871 : p_tb 285 871 = some (.iaload, 1) := by decide +kernel
theorem q_285_872 : p_tb 285 872 = some (.aload_n 0, 1) := by decide +kernel
theorem q_285_873 : p_tb 285 873 = some (.iload 4, 2) := by decide +kernel
theorem q_285_875 : p_tb 285 875 = some (.iconst 2, 1) := by decide +kernel
theorem q_285_876 : p_tb 285 876 = some (.iadd, 1) := by decide +kernel
theorem q_285_877 : p_tb 285 877 = some (.iaload, 1) := by decide +kernel
theorem q_285_878 : p_tb 285 878 = some (.invokevirtual 121, 3) := by decide +kernel
theorem q_285_881 : p_tb 285 881 = some (.if_icmp .eq 804, 3) := by decide +kernel
theorem q_285_886 : p_tb 285 886 = some (.aload_n 1, 1) := by decide +kernel
theorem q_285_887 : p_tb 285 887 = some (.invokevirtual 122, 3) := by decide +kernel
theorem q_285_890 : p_tb 285 890 = some (.aload_n 2, 1) := by decide +kernel
theorem q_285_891 : p_tb 285 891 = some (.invokevirtual 125, 3) := by decide +kernel
theorem q_285_894 : p_tb 285 894 = some (.if_icmp .eq 791, 3) := by decide +kernel
theorem q_285_1174 : p_tb 285 1174 = some (.aload_n 1, 1) := by decide +kernel
theorem q_285_1175 : p_tb 285 1175 = some (.aload_n 0, 1) := by decide +kernel
theorem q_285_1176 : p_tb 285 1176 = some (.iload 4, 2) := by decide +kernel
theorem q_285_1178 : p_tb 285 1178 = some (.iconst 1, 1) := by decide +kernel
theorem q_285_1179 : p_tb 285 1179 = some (.iadd, 1) := by decide +kernel
theorem q_285_1180 : p_tb 285 1180 = some (.iaload, 1) := by decide +kernel
theorem q_285_1181 : p_tb 285 1181 = some (.invokevirtual 138, 3) := by decide +kernel
theorem q_285_1184 : p_tb 285 1184 = some (.aload_n 2, 1) := by decide +kernel
theorem q_285_1185 : p_tb 285 1185 = some (.aload_n 0, 1) := by decide +kernel
theorem q_285_1186 : p_tb 285 1186 = some (.iload 4, 2) := by decide +kernel
theorem q_285_1188 : p_tb 285 1188 = some (.iconst 1, 1) := by decide +kernel
theorem q_285_1189 : p_tb 285 1189 = some (.iadd, 1) := by decide +kernel
theorem q_285_1190 : p_tb 285 1190 = some (.iaload, 1) := by decide +kernel
theorem q_285_1191 : p_tb 285 1191 = some (.invokevirtual 141, 3) := by decide +kernel
theorem q_285_1194 : p_tb 285 1194 = some (.if_icmp .eq 491, 3) := by decide +kernel
theorem q_285_1199 : p_tb 285 1199 = some (.aload_n 1, 1) := by decide +kernel
theorem q_285_1200 : p_tb 285 1200 = some (.aload_n 0, 1) := by decide +kernel
theorem q_285_1201 : p_tb 285 1201 = some (.iload 4, 2) := by decide +kernel
theorem q_285_1203 : p_tb 285 1203 = some (.iconst 1, 1) := by decide +kernel
theorem q_285_1204 : p_tb 285 1204 = some (.iadd, 1) := by decide +kernel
theorem q_285_1205 : p_tb 285 1205 = some (.iaload, 1) := by decide +kernel
theorem q_285_1206 : p_tb 285 1206 = some (.invokevirtual 142, 3) := by decide +kernel
theorem q_285_1209 : p_tb 285 1209 = some (.aload_n 2, 1) := by decide +kernel
theorem q_285_1210 : p_tb 285 1210 = some (.aload_n 0, 1) := by decide +kernel
theorem q_285_1211 : p_tb 285 1211 = some (.iload 4, 2) := by decide +kernel
theorem q_285_1213 : p_tb 285 1213 = some (.iconst 1, 1) := by decide +kernel
theorem q_285_1214 : p_tb 285 1214 = some (.iadd, 1) := by decide +kernel
theorem q_285_1215 : p_tb 285 1215 = some (.iaload, 1) := by decide +kernel
theorem q_285_1216 : p_tb 285 1216 = some (.invokevirtual 145, 3) := by decide +kernel
theorem q_285_1219 : p_tb 285 1219 = some (.if_icmp .eq 466, 3) := by decide +kernel
theorem q_285_1224 : p_tb 285 1224 = some (.aload_n 1, 1) := by decide +kernel
theorem q_285_1225 : p_tb 285 1225 = some (.invokevirtual 146, 3) := by decide +kernel
theorem q_285_1228 : p_tb 285 1228 = some (.aload_n 2, 1) := by decide +kernel
theorem q_285_1229 : p_tb 285 1229 = some (.invokevirtual 149, 3) := by decide +kernel
theorem q_285_1232 : p_tb 285 1232 = some (.if_icmp .eq 453, 3) := by decide +kernel
theorem q_285_1237 : p_tb 285 1237 = some (.aload_n 1, 1) := by decide +kernel
theorem q_285_1238 : p_tb 285 1238 = some (.aload_n 0, 1) := by decide +kernel
theorem q_285_1239 : p_tb 285 1239 = some (.iload 4, 2) := by decide +kernel
theorem q_285_1241 : p_tb 285 1241 = some (.iconst 1, 1) := by decide +kernel
theorem q_285_1242 : p_tb 285 1242 = some (.iadd, 1) := by decide +kernel
theorem q_285_1243 : p_tb 285 1243 = some (.iaload, 1) := by decide +kernel
theorem q_285_1244 : p_tb 285 1244 = some (.aload_n 0, 1) := by decide +kernel
theorem q_285_1245 : p_tb 285 1245 = some (.iload 4, 2) := by decide +kernel
theorem q_285_1247 : p_tb 285 1247 = some (.iconst 2, 1) := by decide +kernel
theorem q_285_1248 : p_tb 285 1248 = some (.iadd, 1) := by decide +kernel
theorem q_285_1249 : p_tb 285 1249 = some (.iaload, 1) := by decide +kernel
theorem q_285_1250 : p_tb 285 1250 = some (.invokevirtual 150, 3) := by decide +kernel
theorem q_285_1253 : p_tb 285 1253 = some (.aload_n 2, 1) := by decide +kernel
theorem q_285_1254 : p_tb 285 1254 = some (.aload_n 0, 1) := by decide +kernel
theorem q_285_1255 : p_tb 285 1255 = some (.iload 4, 2) := by decide +kernel
theorem q_285_1257 : p_tb 285 1257 = some (.iconst 1, 1) := by decide +kernel
theorem q_285_1258 : p_tb 285 1258 = some (.iadd, 1) := by decide +kernel
theorem q_285_1259 : p_tb 285 1259 = some (.iaload, 1) := by decide +kernel
theorem q_285_1260 : p_tb 285 1260 = some (.aload_n 0, 1) := by decide +kernel
theorem q_285_1261 : p_tb 285 1261 = some (.iload 4, 2) := by decide +kernel
theorem q_285_1263 : p_tb 285 1263 = some (.iconst 2, 1) := by decide +kernel
theorem q_285_1264 : p_tb 285 1264 = some (.iadd, 1) := by decide +kernel
theorem q_285_1265 : p_tb 285 1265 = some (.iaload, 1) := by decide +kernel
theorem q_285_1266 : p_tb 285 1266 = some (.invokevirtual 153, 3) := by decide +kernel
theorem q_285_1269 : p_tb 285 1269 = some (.if_icmp .eq 416, 3) := by decide +kernel
theorem q_285_1274 : p_tb 285 1274 = some (.aload_n 1, 1) := by decide +kernel
theorem q_285_1275 : p_tb 285 1275 = some (.aload_n 0, 1) := by decide +kernel
theorem q_285_1276 : p_tb 285 1276 = some (.iload 4, 2) := by decide +kernel
theorem q_285_1278 : p_tb 285 1278 = some (.iconst 1, 1) := by decide +kernel
theorem q_285_1279 : p_tb 285 1279 = some (.iadd, 1) := by decide +kernel
theorem q_285_1280 : p_tb 285 1280 = some (.iaload, 1) := by decide +kernel
theorem q_285_1281 : p_tb 285 1281 = some (.aload_n 0, 1) := by decide +kernel
theorem q_285_1282 : p_tb 285 1282 = some (.iload 4, 2) := by decide +kernel
theorem q_285_1284 : p_tb 285 1284 = some (.iconst 2, 1) := by decide +kernel
theorem q_285_1285 : p_tb 285 1285 = some (.iadd, 1) := by decide +kernel
theorem q_285_1286 : p_tb 285 1286 = some (.iaload, 1) := by decide +kernel
theorem q_285_1287 : p_tb 285 1287 = some (.invokevirtual 154, 3) := by decide +kernel
theorem q_285_1290 : p_tb 285 1290 = some (.aload_n 2, 1) := by decide +kernel
theorem q_285_1291 : p_tb 285 1291 = some (.aload_n 0, 1) := by decide +kernel
theorem q_285_1292 : p_tb 285 1292 = some (.iload 4, 2) := by decide +kernel
theorem q_285_1294 : p_tb 285 1294 = some (.iconst 1, 1) := by decide +kernel
theorem q_285_1295 : p_tb 285 1295 = some (.iadd, 1) := by decide +kernel
theorem q_285_1296 : p_tb 285 1296 = some (.iaload, 1) := by decide +kernel
theorem q_285_1297 : p_tb 285 1297 = some (.aload_n 0, 1) := by decide +kernel
theorem q_285_1298 : p_tb 285 1298 = some (.iload 4, 2) := by decide +kernel
theorem q_285_1300 : p_tb 285 1300 = some (.iconst 2, 1) := by decide +kernel
theorem q_285_1301 : p_tb 285 1301 = some (.iadd, 1) := by decide +kernel
theorem q_285_1302 : p_tb 285 1302 = some (.iaload, 1) := by decide +kernel
theorem q_285_1303 : p_tb 285 1303 = some (.invokevirtual 157, 3) := by decide +kernel
theorem q_285_1306 : p_tb 285 1306 = some (.if_icmp .eq 379, 3) := by decide +kernel
theorem q_285_1311 : p_tb 285 1311 = some (.aload_n 1, 1) := by decide +kernel
theorem q_285_1312 : p_tb 285 1312 = some (.invokevirtual 158, 3) := by decide +kernel
theorem q_285_1315 : p_tb 285 1315 = some (.aload_n 2, 1) := by decide +kernel
theorem q_285_1316 : p_tb 285 1316 = some (.invokevirtual 161, 3) := by decide +kernel
theorem q_285_1319 : p_tb 285 1319 = some (.if_icmp .eq 366, 3) := by decide +kernel
theorem q_285_1324 : p_tb 285 1324 = some (.aload_n 1, 1) := by decide +kernel
theorem q_285_1325 : p_tb 285 1325 = some (.aload_n 0, 1) := by decide +kernel
theorem q_285_1326 : p_tb 285 1326 = some (.iload 4, 2) := by decide +kernel
theorem q_285_1328 : p_tb 285 1328 = some (.iconst 1, 1) := by decide +kernel
theorem q_285_1329 : p_tb 285 1329 = some (.iadd, 1) := by decide +kernel
theorem q_285_1330 : p_tb 285 1330 = some (.iaload, 1) := by decide +kernel
theorem q_285_1331 : p_tb 285 1331 = some (.invokevirtual 162, 3) := by decide +kernel
theorem q_285_1334 : p_tb 285 1334 = some (.aload_n 2, 1) := by decide +kernel
theorem q_285_1335 : p_tb 285 1335 = some (.aload_n 0, 1) := by decide +kernel
theorem q_285_1336 : p_tb 285 1336 = some (.iload 4, 2) := by decide +kernel
theorem q_285_1338 : p_tb 285 1338 = some (.iconst 1, 1) := by decide +kernel
theorem q_285_1339 : p_tb 285 1339 = some (.iadd, 1) := by decide +kernel
theorem q_285_1340 : p_tb 285 1340 = some (.iaload, 1) := by decide +kernel
theorem q_285_1341 : p_tb 285 1341 = some (.invokevirtual 165, 3) := by decide +kernel
theorem q_285_1344 : p_tb 285 1344 = some (.if_icmp .eq 341, 3) := by decide +kernel
theorem q_285_1349 : p_tb 285 1349 = some (.aload_n 1, 1) := by decide +kernel
theorem q_285_1350 : p_tb 285 1350 = some (.invokevirtual 166, 3) := by decide +kernel
theorem q_285_1353 : p_tb 285 1353 = some (.aload_n 2, 1) := by decide +kernel
theorem q_285_1354 : p_tb 285 1354 = some (.invokevirtual 169, 3) := by decide +kernel
theorem q_285_1357 : p_tb 285 1357 = some (.if_icmp .eq 328, 3) := by decide +kernel
theorem q_285_1362 : p_tb 285 1362 = some (.aload_n 1, 1) := by decide +kernel
theorem q_285_1363 : p_tb 285 1363 = some (.aload_n 0, 1) := by decide +kernel
theorem q_285_1364 : p_tb 285 1364 = some (.iload 4, 2) := by decide +kernel
theorem q_285_1366 : p_tb 285 1366 = some (.iconst 1, 1) := by decide +kernel
theorem q_285_1367 : p_tb 285 1367 = some (.iadd, 1) := by decide +kernel
theorem q_285_1368 : p_tb 285 1368 = some (.iaload, 1) := by decide +kernel
theorem q_285_1369 : p_tb 285 1369 = some (.aload_n 0, 1) := by decide +kernel
theorem q_285_1370 : p_tb 285 1370 = some (.iload 4, 2) := by decide +kernel
theorem q_285_1372 : p_tb 285 1372 = some (.iconst 2, 1) := by decide +kernel
theorem q_285_1373 : p_tb 285 1373 = some (.iadd, 1) := by decide +kernel
theorem q_285_1374 : p_tb 285 1374 = some (.iaload, 1) := by decide +kernel
theorem q_285_1375 : p_tb 285 1375 = some (.invokevirtual 170, 3) := by decide +kernel
theorem q_285_1378 : p_tb 285 1378 = some (.aload_n 2, 1) := by decide +kernel
theorem q_285_1379 : p_tb 285 1379 = some (.aload_n 0, 1) := by decide +kernel
theorem q_285_1380 : p_tb 285 1380 = some (.iload 4, 2) := by decide +kernel
theorem q_285_1382 : p_tb 285 1382 = some (.iconst 1, 1) := by decide +kernel
theorem q_285_1383 : p_tb 285 1383 = some (.iadd, 1) := by decide +kernel
theorem q_285_1384 : p_tb 285 1384 = some (.iaload, 1) := by decide +kernel
theorem q_285_1385 : p_tb 285 1385 = some (.aload_n 0, 1) := by decide +kernel
theorem q_285_1386 : p_tb 285 1386 = some (.iload 4, 2) := by decide +kernel
theorem q_285_1388 : p_tb 285 1388 = some (.iconst 2, 1) := by decide +kernel
theorem q_285_1389 : p_tb 285 1389 = some (.iadd, 1) := by decide +kernel
theorem q_285_1390 : p_tb 285 1390 = some (.iaload, 1) := by decide +kernel
theorem q_285_1391 : p_tb 285 1391 = some (.invokevirtual 173, 3) := by decide +kernel
theorem q_285_1394 : p_tb 285 1394 = some (.if_icmp .eq 291, 3) := by decide +kernel
theorem q_285_1399 : p_tb 285 1399 = some (.aload_n 1, 1) := by decide +kernel
theorem q_285_1400 : p_tb 285 1400 = some (.aload_n 0, 1) := by decide +kernel
theorem q_285_1401 : p_tb 285 1401 = some (.iload 4, 2) := by decide +kernel
theorem q_285_1403 : p_tb 285 1403 = some (.iconst 1, 1) := by decide +kernel
theorem q_285_1404 : p_tb 285 1404 = some (.iadd, 1) := by decide +kernel
theorem q_285_1405 : p_tb 285 1405 = some (.iaload, 1) := by decide +kernel
theorem q_285_1406 : p_tb 285 1406 = some (.aload_n 0, 1) := by decide +kernel
theorem q_285_1407 : p_tb 285 1407 = some (.iload 4, 2) := by decide +kernel
theorem q_285_1409 : p_tb 285 1409 = some (.iconst 2, 1) := by decide +kernel
theorem q_285_1410 : p_tb 285 1410 = some (.iadd, 1) := by decide +kernel
theorem q_285_1411 : p_tb 285 1411 = some (.iaload, 1) := by decide +kernel
theorem q_285_1412 : p_tb 285 1412 = some (.invokevirtual 174, 3) := by decide +kernel
theorem q_285_1415 : p_tb 285 1415 = some (.aload_n 2, 1) := by decide +kernel
theorem q_285_1416 : p_tb 285 1416 = some (.aload_n 0, 1) := by decide +kernel
theorem q_285_1417 : p_tb 285 1417 = some (.iload 4, 2) := by decide +kernel
theorem q_285_1419 : p_tb 285 1419 = some (.iconst 1, 1) := by decide +kernel
theorem q_285_1420 : p_tb 285 1420 = some (.iadd, 1) := by decide +kernel
theorem q_285_1421 : p_tb 285 1421 = some (.iaload, 1) := by decide +kernel
theorem q_285_1422 : p_tb 285 1422 = some (.aload_n 0, 1) := by decide +kernel
theorem q_285_1423 : p_tb 285 1423 = some (.iload 4, 2) := by decide +kernel
theorem q_285_1425 : p_tb 285 1425 = some (.iconst 2, 1) := by decide +kernel
theorem q_285_1426 : p_tb 285 1426 = some (.iadd, 1) := by decide +kernel
theorem q_285_1427 : p_tb 285 1427 = some (.iaload, 1) := by decide +kernel
theorem q_285_1428 : p_tb 285 1428 = some (.invokevirtual 177, 3) := by decide +kernel
theorem q_285_1431 : p_tb 285 1431 = some (.if_icmp .eq 254, 3) := by decide +kernel
theorem q_285_1436 : p_tb 285 1436 = some (.aload_n 1, 1) := by decide +kernel
theorem q_285_1437 : p_tb 285 1437 = some (.aload_n 0, 1) := by decide +kernel
theorem q_285_1438 : p_tb 285 1438 = some (.iload 4, 2) := by decide +kernel
theorem q_285_1440 : p_tb 285 1440 = some (.iconst 1, 1) := by decide +kernel
theorem q_285_1441 : p_tb 285 1441 = some (.iadd, 1) := by decide +kernel
theorem q_285_1442 : p_tb 285 1442 = some (.iaload, 1) := by decide +kernel
theorem q_285_1443 : p_tb 285 1443 = some (.aload_n 0, 1) := by decide +kernel
theorem q_285_1444 : p_tb 285 1444 = some (.iload 4, 2) := by decide +kernel
theorem q_285_1446 : p_tb 285 1446 = some (.iconst 2, 1) := by decide +kernel
theorem q_285_1447 : p_tb 285 1447 = some (.iadd, 1) := by decide +kernel
theorem q_285_1448 : p_tb 285 1448 = some (.iaload, 1) := by decide +kernel
theorem q_285_1449 : p_tb 285 1449 = some (.invokevirtual 178, 3) := by decide +kernel
theorem q_285_1452 : p_tb 285 1452 = some (.aload_n 2, 1) := by decide +kernel
theorem q_285_1453 : p_tb 285 1453 = some (.aload_n 0, 1) := by decide +kernel
theorem q_285_1454 : p_tb 285 1454 = some (.iload 4, 2) := by decide +kernel
theorem q_285_1456 : p_tb 285 1456 = some (.iconst 1, 1) := by decide +kernel
theorem q_285_1457 : p_tb 285 1457 = some (.iadd, 1) := by decide +kernel
theorem q_285_1458 : p_tb 285 1458 = some (.iaload, 1) := by decide +kernel
theorem q_285_1459 : p_tb 285 1459 = some (.aload_n 0, 1) := by decide +kernel
theorem q_285_1460 : p_tb 285 1460 = some (.iload 4, 2) := by decide +kernel
theorem q_285_1462 : p_tb 285 1462 = some (.iconst 2, 1) := by decide +kernel
theorem q_285_1463 : p_tb 285 1463 = some (.iadd, 1) := by decide +kernel
theorem q_285_1464 : p_tb 285 1464 = some (.iaload, 1) := by decide +kernel
theorem q_285_1465 : p_tb 285 1465 = some (.invokevirtual 181, 3) := by decide +kernel
theorem q_285_1468 : p_tb 285 1468 = some (.if_icmp .eq 217, 3) := by decide +kernel
theorem q_285_1473 : p_tb 285 1473 = some (.aload_n 1, 1) := by decide +kernel
theorem q_285_1474 : p_tb 285 1474 = some (.aload_n 0, 1) := by decide +kernel
theorem q_285_1475 : p_tb 285 1475 = some (.iload 4, 2) := by decide +kernel
theorem q_285_1477 : p_tb 285 1477 = some (.iconst 1, 1) := by decide +kernel
theorem q_285_1478 : p_tb 285 1478 = some (.iadd, 1) := by decide +kernel
theorem q_285_1479 : p_tb 285 1479 = some (.iaload, 1) := by decide +kernel
theorem q_285_1480 : p_tb 285 1480 = some (.aload_n 0, 1) := by decide +kernel
theorem q_285_1481 : p_tb 285 1481 = some (.iload 4, 2) := by decide +kernel
theorem q_285_1483 : p_tb 285 1483 = some (.iconst 2, 1) := by decide +kernel
theorem q_285_1484 : p_tb 285 1484 = some (.iadd, 1) := by decide +kernel
theorem q_285_1485 : p_tb 285 1485 = some (.iaload, 1) := by decide +kernel
theorem q_285_1486 : p_tb 285 1486 = some (.aload_n 0, 1) := by decide +kernel
theorem q_285_1487 : p_tb 285 1487 = some (.iload 4, 2) := by decide +kernel
theorem q_285_1489 : p_tb 285 1489 = some (.iconst 3, 1) := by decide +kernel
theorem q_285_1490 : p_tb 285 1490 = some (.iadd, 1) := by decide +kernel
theorem q_285_1491 : p_tb 285 1491 = some (.iaload, 1) := by decide +kernel
theorem q_285_1492 : p_tb 285 1492 = some (.invokevirtual 182, 3) := by decide +kernel
theorem q_285_1495 : p_tb 285 1495 = some (.aload_n 2, 1) := by decide +kernel
theorem q_285_1496 : p_tb 285 1496 = some (.aload_n 0, 1) := by decide +kernel
theorem q_285_1497 : p_tb 285 1497 = some (.iload 4, 2) := by decide +kernel
theorem q_285_1499 : p_tb 285 1499 = some (.iconst 1, 1) := by decide +kernel
theorem q_285_1500 : p_tb 285 1500 = some (.iadd, 1) := by decide +kernel
theorem q_285_1501 : p_tb 285 1501 = some (.iaload, 1) := by decide +kernel
theorem q_285_1502 : p_tb 285 1502 = some (.aload_n 0, 1) := by decide +kernel
theorem q_285_1503 : p_tb 285 1503 = some (.iload 4, 2) := by decide +kernel
theorem q_285_1505 : p_tb 285 1505 = some (.iconst 2, 1) := by decide +kernel
theorem q_285_1506 : p_tb 285 1506 = some (.iadd, 1) := by decide +kernel
theorem q_285_1507 : p_tb 285 1507 = some (.iaload, 1) := by decide +kernel
theorem q_285_1508 : p_tb 285 1508 = some (.aload_n 0, 1) := by decide +kernel
theorem q_285_1509 : p_tb 285 1509 = some (.iload 4, 2) := by decide +kernel
theorem q_285_1511 : p_tb 285 1511 = some (.iconst 3, 1) := by decide +kernel
theorem q_285_1512 : p_tb 285 1512 = some (.iadd, 1) := by decide +kernel
theorem q_285_1513 : p_tb 285 1513 = some (.iaload, 1) := by decide +kernel
theorem q_285_1514 : p_tb 285 1514 = some (.invokevirtual 185, 3) := by decide +kernel
theorem q_285_1517 : p_tb 285 1517 = some (.if_icmp .eq 168, 3) := by decide +kernel
theorem q_285_1522 : p_tb 285 1522 = some (.aload_n 1, 1) := by decide +kernel
theorem q_285_1523 : p_tb 285 1523 = some (.aload_n 0, 1) := by decide +kernel
theorem q_285_1524 : p_tb 285 1524 = some (.iload 4, 2) := by decide +kernel
theorem q_285_1526 : p_tb 285 1526 = some (.iconst 1, 1) := by decide +kernel
theorem q_285_1527 : p_tb 285 1527 = some (.iadd, 1) := by decide +kernel
theorem q_285_1528 : p_tb 285 1528 = some (.iaload, 1) := by decide +kernel
theorem q_285_1529 : p_tb 285 1529 = some (.invokevirtual 186, 3) := by decide +kernel
theorem q_285_1532 : p_tb 285 1532 = some (.aload_n 2, 1) := by decide +kernel
theorem q_285_1533 : p_tb 285 1533 = some (.aload_n 0, 1) := by decide +kernel
theorem q_285_1534 : p_tb 285 1534 = some (.iload 4, 2) := by decide +kernel
theorem q_285_1536 : p_tb 285 1536 = some (.iconst 1, 1) := by decide +kernel
theorem q_285_1537 : p_tb 285 1537 = some (.iadd, 1) := by decide +kernel
theorem q_285_1538 : p_tb 285 1538 = some (.iaload, 1) := by decide +kernel
theorem q_285_1539 : p_tb 285 1539 = some (.invokevirtual 189, 3) := by decide +kernel
theorem q_285_1542 : p_tb 285 1542 = some (.if_icmp .eq 143, 3) := by decide +kernel
theorem q_285_1547 : p_tb 285 1547 = some (.aload_n 1, 1) := by decide +kernel
theorem q_285_1548 : p_tb 285 1548 = some (.aload_n 0, 1) := by decide +kernel
theorem q_285_1549 : p_tb 285 1549 = some (.iload 4, 2) := by decide +kernel
theorem q_285_1551 : p_tb 285 1551 = some (.iconst 1, 1) := by decide +kernel
theorem q_285_1552 : p_tb 285 1552 = some (.iadd, 1) := by decide +kernel
theorem q_285_1553 : p_tb 285 1553 = some (.iaload, 1) := by decide +kernel
theorem q_285_1554 : p_tb 285 1554 = some (.invokevirtual 190, 3) := by decide +kernel
theorem q_285_1557 : p_tb 285 1557 = some (.aload_n 2, 1) := by decide +kernel
theorem q_285_1558 : p_tb 285 1558 = some (.aload_n 0, 1) := by decide +kernel
theorem q_285_1559 : p_tb 285 1559 = some (.iload 4, 2) := by decide +kernel
theorem q_285_1561 : p_tb 285 1561 = some (.iconst 1, 1) := by decide +kernel
theorem q_285_1562 : p_tb 285 1562 = some (.iadd, 1) := by decide +kernel
theorem q_285_1563 : p_tb 285 1563 = some (.iaload, 1) := by decide +kernel
theorem q_285_1564 : p_tb 285 1564 = some (.invokevirtual 193, 3) := by decide +kernel
theorem q_285_1567 : p_tb 285 1567 = some (.if_icmp .eq 118, 3) := by decide +kernel
theorem q_285_1572 : p_tb 285 1572 = some (.aload_n 1, 1) := by decide +kernel
theorem q_285_1573 : p_tb 285 1573 = some (.invokevirtual 194, 3) := by decide +kernel
theorem q_285_1576 : p_tb 285 1576 = some (.aload_n 2, 1) := by decide +kernel
theorem q_285_1577 : p_tb 285 1577 = some (.invokevirtual 197, 3) := by decide +kernel
theorem q_285_1580 : p_tb 285 1580 = some (.if_icmp .eq 105, 3) := by decide +kernel
theorem q_285_1585 : p_tb 285 1585 = some (.aload_n 1, 1) := by decide +kernel
theorem q_285_1586 : p_tb 285 1586 = some (.aload_n 0, 1) := by decide +kernel
theorem q_285_1587 : p_tb 285 1587 = some (.iload 4, 2) := by decide +kernel
theorem q_285_1589 : p_tb 285 1589 = some (.iconst 1, 1) := by decide +kernel
theorem q_285_1590 : p_tb 285 1590 = some (.iadd, 1) := by decide +kernel
theorem q_285_1591 : p_tb 285 1591 = some (.iaload, 1) := by decide +kernel
theorem q_285_1592 : p_tb 285 1592 = some (.invokevirtual 198, 3) := by decide +kernel
theorem q_285_1595 : p_tb 285 1595 = some (.aload_n 2, 1) := by decide +kernel
theorem q_285_1596 : p_tb 285 1596 = some (.aload_n 0, 1) := by decide +kernel
theorem q_285_1597 : p_tb 285 1597 = some (.iload 4, 2) := by decide +kernel
theorem q_285_1599 : p_tb 285 1599 = some (.iconst 1, 1) := by decide +kernel
theorem q_285_1600 : p_tb 285 1600 = some (.iadd, 1) := by decide +kernel
theorem q_285_1601 : p_tb 285 1601 = some (.iaload, 1) := by decide +kernel
theorem q_285_1602 : p_tb 285 1602 = some (.invokevirtual 201, 3) := by decide +kernel
theorem q_285_1605 : p_tb 285 1605 = some (.if_icmp .eq 80, 3) := by decide +kernel
theorem q_285_1610 : p_tb 285 1610 = some (.aload_n 1, 1) := by decide +kernel
theorem q_285_1611 : p_tb 285 1611 = some (.aload_n 0, 1) := by decide +kernel
theorem q_285_1612 : p_tb 285 1612 = some (.iload 4, 2) := by decide +kernel
theorem q_285_1614 : p_tb 285 1614 = some (.iconst 1, 1) := by decide +kernel
theorem q_285_1615 : p_tb 285 1615 = some (.iadd, 1) := by decide +kernel
theorem q_285_1616 : p_tb 285 1616 = some (.iaload, 1) := by decide +kernel
theorem q_285_1617 : p_tb 285 1617 = some (.invokevirtual 202, 3) := by decide +kernel
theorem q_285_1620 : p_tb 285 1620 = some (.aload_n 2, 1) := by decide +kernel
theorem q_285_1621 : p_tb 285 1621 = some (.aload_n 0, 1) := by decide +kernel
theorem q_285_1622 : p_tb 285 1622 = some (.iload 4, 2) := by decide +kernel
theorem q_285_1624 : p_tb 285 1624 = some (.iconst 1, 1) := by decide +kernel
theorem q_285_1625 : p_tb 285 1625 = some (.iadd, 1) := by decide +kernel
theorem q_285_1626 : p_tb 285 1626 = some (.iaload, 1) := by decide +kernel
theorem q_285_1627 : p_tb 285 1627 = some (.invokevirtual 205, 3) := by decide +kernel
theorem q_285_1630 : p_tb 285 1630 = some (.if_icmp .eq 55, 3) := by decide +kernel
theorem q_285_1635 : p_tb 285 1635 = some (.aload_n 1, 1) := by decide +kernel
theorem q_285_1636 : p_tb 285 1636 = some (.aload_n 0, 1) := by decide +kernel
theorem q_285_1637 : p_tb 285 1637 = some (.iload 4, 2) := by decide +kernel
theorem q_285_1639 : p_tb 285 1639 = some (.iconst 1, 1) := by decide +kernel
theorem q_285_1640 : p_tb 285 1640 = some (.iadd, 1) := by decide +kernel
theorem q_285_1641 : p_tb 285 1641 = some (.iaload, 1) := by decide +kernel
theorem q_285_1642 : p_tb 285 1642 = some (.invokevirtual 206, 3) := by decide +kernel
theorem q_285_1645 : p_tb 285 1645 = some (.aload_n 2, 1) := by decide +kernel
theorem q_285_1646 : p_tb 285 1646 = some (.aload_n 0, 1) := by decide +kernel
theorem q_285_1647 : p_tb 285 1647 = some (.iload 4, 2) := by decide +kernel
theorem q_285_1649 : p_tb 285 1649 = some (.iconst 1, 1) := by decide +kernel
theorem q_285_1650 : p_tb 285 1650 = some (.iadd, 1) := by decide +kernel
theorem q_285_1651 : p_tb 285 1651 = some (.iaload, 1) := by decide +kernel
theorem q_285_1652 : p_tb 285 1652 = some (.invokevirtual 209, 3) := by decide +kernel
theorem q_285_1655 : p_tb 285 1655 = some (.if_icmp .eq 30, 3) := by decide +kernel
theorem q_285_1660 : p_tb 285 1660 = some (.aload_n 1, 1) := by decide +kernel
theorem q_285_1661 : p_tb 285 1661 = some (.aload_n 0, 1) := by decide +kernel
theorem q_285_1662 : p_tb 285 1662 = some (.iload 4, 2) := by decide +kernel
theorem q_285_1664 : p_tb 285 1664 = some (.iconst 1, 1) := by decide +kernel
theorem q_285_1665 : p_tb 285 1665 = some (.iadd, 1) := by decide +kernel
theorem q_285_1666 : p_tb 285 1666 = some (.iaload, 1) := by decide +kernel
theorem q_285_1667 : p_tb 285 1667 = some (.invokevirtual 210, 3) := by decide +kernel
theorem q_285_1670 : p_tb 285 1670 = some (.aload_n 2, 1) := by decide +kernel
theorem q_285_1671 : p_tb 285 1671 = some (.aload_n 0, 1) := by decide +kernel
theorem q_285_1672 : p_tb 285 1672 = some (.iload 4, 2) := by decide +kernel
theorem q_285_1674 : p_tb 285 1674 = some (.iconst 1, 1) := by decide +kernel
theorem q_285_1675 : p_tb 285 1675 = some (.iadd, 1) := by decide +kernel
theorem q_285_1676 : p_tb 285 1676 = some (.iaload, 1) := by decide +kernel
theorem q_285_1677 : p_tb 285 1677 = some (.invokevirtual 213, 3) := by decide +kernel
theorem q_285_1680 : p_tb 285 1680 = some (.if_icmp .eq 5, 3) := by decide +kernel
theorem q_285_1685 : p_tb 285 1685 = some (.iinc 4 6, 3) := by decide +kernel
theorem q_285_1688 : p_tb 285 1688 = some (.goto (-1665), 3) := by decide +kernel
theorem q_285_1691 : p_tb 285 1691 = some (.iconst 1, 1) := by decide +kernel
theorem q_285_1692 : p_tb 285 1692 = some (.ireturn, 1) := by decide +kernel
