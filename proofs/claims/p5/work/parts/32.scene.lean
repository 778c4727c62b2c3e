theorem q_49_0 : p_tb 49 0 = some (.aload_n 0, 1) := by decide +kernel
theorem q_49_1 : p_tb 49 1 = some (.getfield 20, 3) := by decide +kernel
theorem q_49_4 : p_tb 49 4 = some (.iload_n 1, 1) := by decide +kernel
theorem q_49_5 : p_tb 49 5 = some (.aaload, 1) := by decide +kernel
theorem q_49_6 : p_tb 49 6 = some (.getfield 76, 3) := by decide +kernel
theorem q_49_9 : p_tb 49 9 = some (.aload_n 0, 1) := by decide +kernel
theorem q_49_10 : p_tb 49 10 = some (.getfield 20, 3) := by decide +kernel
theorem q_49_13 : p_tb 49 13 = some (.iload_n 2, 1) := by decide +kernel
theorem q_49_14 : p_tb 49 14 = some (.aaload, 1) := by decide +kernel
theorem q_49_15 : p_tb 49 15 = some (.getfield 76, 3) := by decide +kernel
theorem q_49_18 : p_tb 49 18 = some (.isub, 1) := by decide +kernel
theorem q_49_19 : p_tb 49 19 = some (.invokestatic 78, 3) := by decide +kernel
theorem q_49_22 : p_tb 49 22 = some (.ireturn, 1) := by decide +kernel
theorem t_fN_49_76 : p_f2 p_fN (p_mK 49) 76 = some (8, 0) := by decide +kernel
theorem t_ft_49_20 : p_f2 p_ft (p_mK 49) 20 = some (5, 3) := by decide +kernel
theorem t_mj_49_78 : p_f2 p_mj (p_mK 49) 78 = some 3 := by decide +kernel
theorem q_50_0 : p_tb 50 0 = some (.iconst 0, 1) := by decide +kernel
theorem q_50_1 : p_tb 50 1 = some (.istore_n 1, 1) := by decide +kernel
theorem q_50_2 : p_tb 50 2 = some (.iconst 0, 1) := by decide +kernel
theorem q_50_3 : p_tb 50 3 = some (.istore_n 2, 1) := by decide +kernel
theorem q_50_4 : p_tb 50 4 = some (.iload_n 2, 1) := by decide +kernel
theorem q_50_5 : p_tb 50 5 = some (.bipush 6, 2) := by decide +kernel
theorem q_50_7 : p_tb 50 7 = some (.if_icmp .ge 27, 3) := by decide +kernel
theorem q_50_10 : p_tb 50 10 = some (.aload_n 0, 1) := by decide +kernel
theorem q_50_11 : p_tb 50 11 = some (.getfield 20, 3) := by decide +kernel
theorem q_50_14 : p_tb 50 14 = some (.iload_n 2, 1) := by decide +kernel
theorem q_50_15 : p_tb 50 15 = some (.aaload, 1) := by decide +kernel
theorem q_50_16 : p_tb 50 16 = some (.getfield 84, 3) := by decide +kernel
theorem q_50_19 : p_tb 50 19 = some (.ifCond .eq 9, 3) := by decide +kernel
theorem q_50_22 : p_tb 50 22 = some (.iload_n 1, 1) := by decide +kernel
theorem q_50_23 : p_tb 50 23 = some (.iconst 1, 1) := by decide +kernel
theorem q_50_24 : p_tb 50 24 = some (.iload_n 2, 1) := by decide +kernel
theorem q_50_25 : p_tb 50 25 = some (.ishl, 1) := by decide +kernel
theorem q_50_26 : p_tb 50 26 = some (.ior, 1) := by decide +kernel
theorem q_50_27 : p_tb 50 27 = some (.istore_n 1, 1) := by decide +kernel
theorem q_50_28 : p_tb 50 28 = some (.iinc 2 1, 3) := by decide +kernel
theorem q_50_31 : p_tb 50 31 = some (.goto (-27), 3) := by decide +kernel
theorem q_50_34 : p_tb 50 34 = some (.iload_n 1, 1) := by decide +kernel
theorem q_50_35 : p_tb 50 35 = some (.ireturn, 1) := by decide +kernel
theorem t_fN_50_84 : p_f2 p_fN (p_mK 50) 84 = some (8, 3) := by decide +kernel
theorem t_ft_50_20 : p_f2 p_ft (p_mK 50) 20 = some (5, 3) := by decide +kernel
theorem q_51_0 : p_tb 51 0 = some (.iconst 0, 1) := by decide +kernel
theorem q_51_1 : p_tb 51 1 = some (.istore_n 2, 1) := by decide +kernel
theorem q_51_2 : p_tb 51 2 = some (.iconst 0, 1) := by decide +kernel
theorem q_51_3 : p_tb 51 3 = some (.istore_n 3, 1) := by decide +kernel
theorem q_51_4 : p_tb 51 4 = some (.iload_n 3, 1) := by decide +kernel
theorem q_51_5 : p_tb 51 5 = some (.iload_n 1, 1) := by decide +kernel
theorem q_51_6 : p_tb 51 6 = some (.if_icmp .ge 27, 3) := by decide +kernel
theorem q_51_9 : p_tb 51 9 = some (.aload_n 0, 1) := by decide +kernel
theorem q_51_10 : p_tb 51 10 = some (.getfield 20, 3) := by decide +kernel
theorem q_51_13 : p_tb 51 13 = some (.iload_n 3, 1) := by decide +kernel
theorem q_51_14 : p_tb 51 14 = some (.aaload, 1) := by decide +kernel
theorem q_51_15 : p_tb 51 15 = some (.getfield 88, 3) := by decide +kernel
theorem q_51_18 : p_tb 51 18 = some (.ifCond .eq 9, 3) := by decide +kernel
theorem q_51_21 : p_tb 51 21 = some (.iload_n 2, 1) := by decide +kernel
theorem q_51_22 : p_tb 51 22 = some (.iconst 1, 1) := by decide +kernel
theorem q_51_23 : p_tb 51 23 = some (.iload_n 3, 1) := by decide +kernel
theorem q_51_24 : p_tb 51 24 = some (.ishl, 1) := by decide +kernel
theorem q_51_25 : p_tb 51 25 = some (.ior, 1) := by decide +kernel
theorem q_51_26 : p_tb 51 26 = some (.istore_n 2, 1) := by decide +kernel
theorem q_51_27 : p_tb 51 27 = some (.iinc 3 1, 3) := by decide +kernel
theorem q_51_30 : p_tb 51 30 = some (.goto (-26), 3) := by decide +kernel
theorem q_51_33 : p_tb 51 33 = some (.iload_n 2, 1) := by decide +kernel
theorem q_51_34 : p_tb 51 34 = some (.ireturn, 1) := by decide +kernel
theorem t_fN_51_88 : p_f2 p_fN (p_mK 51) 88 = some (8, 2) := by decide +kernel
theorem t_ft_51_20 : p_f2 p_ft (p_mK 51) 20 = some (5, 3) := by decide +kernel
theorem q_52_0 : p_tb 52 0 = some (.iconst 0, 1) := by decide +kernel
theorem q_52_1 : p_tb 52 1 = some (.istore_n 1, 1) := by decide +kernel
theorem q_52_2 : p_tb 52 2 = some (.iconst 0, 1) := by decide +kernel
theorem q_52_3 : p_tb 52 3 = some (.istore_n 2, 1) := by decide +kernel
theorem q_52_4 : p_tb 52 4 = some (.iload_n 2, 1) := by decide +kernel
theorem q_52_5 : p_tb 52 5 = some (.iconst 2, 1) := by decide +kernel
theorem q_52_6 : p_tb 52 6 = some (.if_icmp .ge 21, 3) := by decide +kernel
theorem q_52_9 : p_tb 52 9 = some (.iload_n 1, 1) := by decide +kernel
theorem q_52_10 : p_tb 52 10 = some (.aload_n 0, 1) := by decide +kernel
theorem q_52_11 : p_tb 52 11 = some (.getfield 27, 3) := by decide +kernel
theorem q_52_14 : p_tb 52 14 = some (.iload_n 2, 1) := by decide +kernel
theorem q_52_15 : p_tb 52 15 = some (.aaload, 1) := by decide +kernel
theorem q_52_16 : p_tb 52 16 = some (.getfield 91, 3) := by decide +kernel
theorem q_52_19 : p_tb 52 19 = some (.iadd, 1) := by decide +kernel
theorem q_52_20 : p_tb 52 20 = some (.istore_n 1, 1) := by decide +kernel
theorem q_52_21 : p_tb 52 21 = some (.iinc 2 1, 3) := by decide +kernel
theorem q_52_24 : p_tb 52 24 = some (.goto (-20), 3) := by decide +kernel
theorem q_52_27 : p_tb 52 27 = some (.iload_n 1, 1) := by decide +kernel
theorem q_52_28 : p_tb 52 28 = some (.ireturn, 1) := by decide +kernel
theorem t_fN_52_91 : p_f2 p_fN (p_mK 52) 91 = some (0, 3) := by decide +kernel
theorem t_ft_52_27 : p_f2 p_ft (p_mK 52) 27 = some (5, 4) := by decide +kernel
theorem q_53_0 : p_tb 53 0 = some (.iconst 0, 1) := by decide +kernel
theorem q_53_1 : p_tb 53 1 = some (.istore_n 2, 1) := by decide +kernel
theorem q_53_2 : p_tb 53 2 = some (.iload_n 2, 1) := by decide +kernel
theorem q_53_3 : p_tb 53 3 = some (.iconst 2, 1) := by decide +kernel
theorem q_53_4 : p_tb 53 4 = some (.if_icmp .ge 24, 3) := by decide +kernel
theorem q_53_7 : p_tb 53 7 = some (.aload_n 0, 1) := by decide +kernel
theorem q_53_8 : p_tb 53 8 = some (.getfield 27, 3) := by decide +kernel
theorem q_53_11 : p_tb 53 11 = some (.iload_n 2, 1) := by decide +kernel
theorem q_53_12 : p_tb 53 12 = some (.aaload, 1) := by decide +kernel
theorem q_53_13 : p_tb 53 13 = some (.getfield 94, 3) := by decide +kernel
theorem q_53_16 : p_tb 53 16 = some (.iload_n 1, 1) := by decide +kernel
theorem q_53_17 : p_tb 53 17 = some (.if_icmp .ne 5, 3) := by decide +kernel
theorem q_53_20 : p_tb 53 20 = some (.iconst 1, 1) := by decide +kernel
theorem q_53_21 : p_tb 53 21 = some (.ireturn, 1) := by decide +kernel
theorem q_53_22 : p_tb 53 22 = some (.iinc 2 1, 3) := by decide +kernel
theorem q_53_25 : p_tb 53 25 = some (.goto (-23), 3) := by decide +kernel
theorem q_53_28 : p_tb 53 28 = some (.iconst 0, 1) := by decide +kernel
theorem q_53_29 : p_tb 53 29 = some (.ireturn, 1) := by decide +kernel
theorem t_fN_53_94 : p_f2 p_fN (p_mK 53) 94 = some (0, 4) := by decide +kernel
theorem t_ft_53_27 : p_f2 p_ft (p_mK 53) 27 = some (5, 4) := by decide +kernel
theorem q_54_0 : p_tb 54 0 = some (.aload_n 1, 1) := by decide +kernel
theorem q_54_1 : p_tb 54 1 = some (.getstatic 97, 3) := by decide +kernel
theorem q_54_4 : p_tb 54 4 = some (.if_acmp .ne 21, 3) := by decide +kernel
theorem q_54_7 : p_tb 54 7 = some (.aload_n 0, 1) := by decide +kernel
theorem q_54_8 : p_tb 54 8 = some (.getfield 20, 3) := by decide +kernel
theorem q_54_11 : p_tb 54 11 = some (.iload_n 2, 1) := by decide +kernel
theorem q_54_12 : p_tb 54 12 = some (.aaload, 1) := by decide +kernel
theorem q_54_13 : p_tb 54 13 = some (.getfield 88, 3) := by decide +kernel
theorem q_54_16 : p_tb 54 16 = some (.ifCond .eq 7, 3) := by decide +kernel
theorem q_54_19 : p_tb 54 19 = some (.iconst 0, 1) := by decide +kernel
theorem q_54_20 : p_tb 54 20 = some (.goto 4, 3) := by decide +kernel
theorem q_54_23 : p_tb 54 23 = some (.iconst 1, 1) := by decide +kernel
theorem q_54_24 : p_tb 54 24 = some (.ireturn, 1) := by decide +kernel
theorem q_54_25 : p_tb 54 25 = some (.aload_n 1, 1) := by decide +kernel
theorem q_54_26 : p_tb 54 26 = some (.getstatic 103, 3) := by decide +kernel
theorem q_54_29 : p_tb 54 29 = some (.if_acmp .ne 21, 3) := by decide +kernel
theorem q_54_32 : p_tb 54 32 = some (.aload_n 0, 1) := by decide +kernel
theorem q_54_33 : p_tb 54 33 = some (.getfield 20, 3) := by decide +kernel
theorem q_54_36 : p_tb 54 36 = some (.iload_n 2, 1) := by decide +kernel
theorem q_54_37 : p_tb 54 37 = some (.aaload, 1) := by decide +kernel
theorem q_54_38 : p_tb 54 38 = some (.getfield 88, 3) := by decide +kernel
theorem q_54_41 : p_tb 54 41 = some (.ifCond .eq 7, 3) := by decide +kernel
theorem q_54_44 : p_tb 54 44 = some (.iconst 1, 1) := by decide +kernel
theorem q_54_45 : p_tb 54 45 = some (.goto 4, 3) := by decide +kernel
theorem q_54_48 : p_tb 54 48 = some (.iconst 0, 1) := by decide +kernel
theorem q_54_49 : p_tb 54 49 = some (.ireturn, 1) := by decide +kernel
theorem q_54_50 : p_tb 54 50 = some (.aload_n 1, 1) := by decide +kernel
theorem q_54_51 : p_tb 54 51 = some (.getstatic 106, 3) := by decide +kernel
theorem q_54_54 : p_tb 54 54 = some (.if_acmp .ne 15, 3) := by decide +kernel
theorem q_54_57 : p_tb 54 57 = some (.aload_n 0, 1) := by decide +kernel
theorem q_54_58 : p_tb 54 58 = some (.getfield 9, 3) := by decide +kernel
theorem q_54_61 : p_tb 54 61 = some (.iload_n 2, 1) := by decide +kernel
theorem q_54_62 : p_tb 54 62 = some (.if_icmp .ne 7, 3) := by decide +kernel
theorem q_54_65 : p_tb 54 65 = some (.iconst 1, 1) := by decide +kernel
theorem q_54_66 : p_tb 54 66 = some (.goto 4, 3) := by decide +kernel
theorem q_54_69 : p_tb 54 69 = some (.iconst 0, 1) := by decide +kernel
theorem q_54_70 : p_tb 54 70 = some (.ireturn, 1) := by decide +kernel
theorem t_fN_54_88 : p_f2 p_fN (p_mK 54) 88 = some (8, 2) := by decide +kernel
theorem t_ft_54_20 : p_f2 p_ft (p_mK 54) 20 = some (5, 3) := by decide +kernel
theorem t_ft_54_9 : p_f2 p_ft (p_mK 54) 9 = some (5, 1) := by decide +kernel
theorem t_st_54_103 : p_f2 p_st (p_mK 54) 103 = some 12 := by decide +kernel
theorem t_st_54_106 : p_f2 p_st (p_mK 54) 106 = some 15 := by decide +kernel
theorem t_st_54_97 : p_f2 p_st (p_mK 54) 97 = some 11 := by decide +kernel
theorem q_55_0 : p_tb 55 0 = some (.aload_n 1, 1) := by decide +kernel
theorem q_55_1 : p_tb 55 1 = some (.getstatic 97, 3) := by decide +kernel
theorem q_55_4 : p_tb 55 4 = some (.if_acmp .ne 16, 3) := by decide +kernel
theorem q_55_7 : p_tb 55 7 = some (.aload_n 0, 1) := by decide +kernel
theorem q_55_8 : p_tb 55 8 = some (.getfield 20, 3) := by decide +kernel
theorem q_55_11 : p_tb 55 11 = some (.iload_n 2, 1) := by decide +kernel
theorem q_55_12 : p_tb 55 12 = some (.aaload, 1) := by decide +kernel
theorem q_55_13 : p_tb 55 13 = some (.iconst 0, 1) := by decide +kernel
theorem q_55_14 : p_tb 55 14 = some (.putfield 88, 3) := by decide +kernel
theorem q_55_17 : p_tb 55 17 = some (.goto 86, 3) := by decide +kernel
theorem q_55_20 : p_tb 55 20 = some (.aload_n 1, 1) := by decide +kernel
theorem q_55_21 : p_tb 55 21 = some (.getstatic 103, 3) := by decide +kernel
theorem q_55_24 : p_tb 55 24 = some (.if_acmp .ne 16, 3) := by decide +kernel
theorem q_55_27 : p_tb 55 27 = some (.aload_n 0, 1) := by decide +kernel
theorem q_55_28 : p_tb 55 28 = some (.getfield 20, 3) := by decide +kernel
theorem q_55_31 : p_tb 55 31 = some (.iload_n 2, 1) := by decide +kernel
theorem q_55_32 : p_tb 55 32 = some (.aaload, 1) := by decide +kernel
theorem q_55_33 : p_tb 55 33 = some (.iconst 1, 1) := by decide +kernel
theorem q_55_34 : p_tb 55 34 = some (.putfield 88, 3) := by decide +kernel
theorem q_55_37 : p_tb 55 37 = some (.goto 66, 3) := by decide +kernel
theorem q_55_40 : p_tb 55 40 = some (.aload_n 1, 1) := by decide +kernel
theorem q_55_41 : p_tb 55 41 = some (.getstatic 109, 3) := by decide +kernel
theorem q_55_44 : p_tb 55 44 = some (.if_acmp .ne 32, 3) := by decide +kernel
theorem q_55_47 : p_tb 55 47 = some (.aload_n 0, 1) := by decide +kernel
theorem q_55_48 : p_tb 55 48 = some (.getfield 20, 3) := by decide +kernel
theorem q_55_51 : p_tb 55 51 = some (.iload_n 2, 1) := by decide +kernel
theorem q_55_52 : p_tb 55 52 = some (.aaload, 1) := by decide +kernel
theorem q_55_53 : p_tb 55 53 = some (.aload_n 0, 1) := by decide +kernel
theorem q_55_54 : p_tb 55 54 = some (.getfield 20, 3) := by decide +kernel
theorem q_55_57 : p_tb 55 57 = some (.iload_n 2, 1) := by decide +kernel
theorem q_55_58 : p_tb 55 58 = some (.aaload, 1) := by decide +kernel
theorem q_55_59 : p_tb 55 59 = some (.getfield 112, 3) := by decide +kernel
theorem q_55_62 : p_tb 55 62 = some (.ifCond .ne 7, 3) := by decide +kernel
theorem q_55_65 : p_tb 55 65 = some (.iconst 1, 1) := by decide +kernel
theorem q_55_66 : p_tb 55 66 = some (.goto 4, 3) := by decide +kernel
theorem q_55_69 : p_tb 55 69 = some (.iconst 0, 1) := by decide +kernel
theorem q_55_70 : p_tb 55 70 = some (.putfield 112, 3) := by decide +kernel
theorem q_55_73 : p_tb 55 73 = some (.goto 30, 3) := by decide +kernel
theorem q_55_76 : p_tb 55 76 = some (.aload_n 1, 1) := by decide +kernel
theorem q_55_77 : p_tb 55 77 = some (.getstatic 114, 3) := by decide +kernel
theorem q_55_80 : p_tb 55 80 = some (.if_acmp .ne 11, 3) := by decide +kernel
theorem q_55_83 : p_tb 55 83 = some (.aload_n 0, 1) := by decide +kernel
theorem q_55_84 : p_tb 55 84 = some (.iload_n 2, 1) := by decide +kernel
theorem q_55_85 : p_tb 55 85 = some (.putfield 15, 3) := by decide +kernel
theorem q_55_88 : p_tb 55 88 = some (.goto 15, 3) := by decide +kernel
theorem q_55_91 : p_tb 55 91 = some (.aload_n 1, 1) := by decide +kernel
theorem q_55_92 : p_tb 55 92 = some (.getstatic 106, 3) := by decide +kernel
theorem q_55_95 : p_tb 55 95 = some (.if_acmp .ne 8, 3) := by decide +kernel
theorem q_55_98 : p_tb 55 98 = some (.aload_n 0, 1) := by decide +kernel
theorem q_55_99 : p_tb 55 99 = some (.iload_n 2, 1) := by decide +kernel
theorem q_55_100 : p_tb 55 100 = some (.putfield 9, 3) := by decide +kernel
theorem q_55_103 : p_tb 55 103 = some (.return_, 1) := by decide +kernel
theorem t_fN_55_112 : p_f2 p_fN (p_mK 55) 112 = some (8, 1) := by decide +kernel
theorem t_fN_55_88 : p_f2 p_fN (p_mK 55) 88 = some (8, 2) := by decide +kernel
theorem t_ft_55_15 : p_f2 p_ft (p_mK 55) 15 = some (5, 2) := by decide +kernel
theorem t_ft_55_20 : p_f2 p_ft (p_mK 55) 20 = some (5, 3) := by decide +kernel
theorem t_ft_55_9 : p_f2 p_ft (p_mK 55) 9 = some (5, 1) := by decide +kernel
theorem t_st_55_103 : p_f2 p_st (p_mK 55) 103 = some 12 := by decide +kernel
theorem t_st_55_106 : p_f2 p_st (p_mK 55) 106 = some 15 := by decide +kernel
theorem t_st_55_109 : p_f2 p_st (p_mK 55) 109 = some 13 := by decide +kernel
theorem t_st_55_114 : p_f2 p_st (p_mK 55) 114 = some 14 := by decide +kernel
theorem t_st_55_97 : p_f2 p_st (p_mK 55) 97 = some 11 := by decide +kernel
theorem q_59_0 : p_tb 59 0 = some (.iload_n 1, 1) := by decide +kernel
theorem q_59_1 : p_tb 59 1 = some (.ifCond .ne 32, 3) := by decide +kernel
theorem q_59_4 : p_tb 59 4 = some (.aload_n 0, 1) := by decide +kernel
theorem q_59_5 : p_tb 59 5 = some (.aload_n 0, 1) := by decide +kernel
theorem q_59_6 : p_tb 59 6 = some (.getfield 20, 3) := by decide +kernel
theorem q_59_9 : p_tb 59 9 = some (.iload_n 2, 1) := by decide +kernel
theorem q_59_10 : p_tb 59 10 = some (.aaload, 1) := by decide +kernel
theorem q_59_11 : p_tb 59 11 = some (.getfield 88, 3) := by decide +kernel
theorem q_59_14 : p_tb 59 14 = some (.ifCond .eq 9, 3) := by decide +kernel
theorem q_59_17 : p_tb 59 17 = some (.getstatic 97, 3) := by decide +kernel
theorem q_59_20 : p_tb 59 20 = some (.goto 6, 3) := by decide +kernel
theorem q_59_23 : p_tb 59 23 = some (.getstatic 103, 3) := by decide +kernel
theorem q_59_26 : p_tb 59 26 = some (.iload_n 2, 1) := by decide +kernel
theorem q_59_27 : p_tb 59 27 = some (.invokevirtual 147, 3) := by decide +kernel
theorem q_59_30 : p_tb 59 30 = some (.goto 48, 3) := by decide +kernel
theorem q_59_33 : p_tb 59 33 = some (.iload_n 1, 1) := by decide +kernel
theorem q_59_34 : p_tb 59 34 = some (.iconst 1, 1) := by decide +kernel
theorem q_59_35 : p_tb 59 35 = some (.if_icmp .ne 14, 3) := by decide +kernel
theorem q_59_38 : p_tb 59 38 = some (.aload_n 0, 1) := by decide +kernel
theorem q_59_39 : p_tb 59 39 = some (.getstatic 109, 3) := by decide +kernel
theorem q_59_42 : p_tb 59 42 = some (.iload_n 2, 1) := by decide +kernel
theorem q_59_43 : p_tb 59 43 = some (.invokevirtual 147, 3) := by decide +kernel
theorem q_59_46 : p_tb 59 46 = some (.goto 32, 3) := by decide +kernel
theorem q_59_49 : p_tb 59 49 = some (.iload_n 1, 1) := by decide +kernel
theorem q_59_50 : p_tb 59 50 = some (.iconst 2, 1) := by decide +kernel
theorem q_59_51 : p_tb 59 51 = some (.if_icmp .ne 14, 3) := by decide +kernel
theorem q_59_54 : p_tb 59 54 = some (.aload_n 0, 1) := by decide +kernel
theorem q_59_55 : p_tb 59 55 = some (.getstatic 114, 3) := by decide +kernel
theorem q_59_58 : p_tb 59 58 = some (.iload_n 2, 1) := by decide +kernel
theorem q_59_59 : p_tb 59 59 = some (.invokevirtual 147, 3) := by decide +kernel
theorem q_59_62 : p_tb 59 62 = some (.goto 16, 3) := by decide +kernel
theorem q_59_65 : p_tb 59 65 = some (.iload_n 1, 1) := by decide +kernel
theorem q_59_66 : p_tb 59 66 = some (.iconst 3, 1) := by decide +kernel
theorem q_59_67 : p_tb 59 67 = some (.if_icmp .ne 11, 3) := by decide +kernel
theorem q_59_70 : p_tb 59 70 = some (.aload_n 0, 1) := by decide +kernel
theorem q_59_71 : p_tb 59 71 = some (.getstatic 106, 3) := by decide +kernel
theorem q_59_74 : p_tb 59 74 = some (.iload_n 2, 1) := by decide +kernel
theorem q_59_75 : p_tb 59 75 = some (.invokevirtual 147, 3) := by decide +kernel
theorem q_59_78 : p_tb 59 78 = some (.return_, 1) := by decide +kernel
theorem t_fN_59_88 : p_f2 p_fN (p_mK 59) 88 = some (8, 2) := by decide +kernel
theorem t_ft_59_20 : p_f2 p_ft (p_mK 59) 20 = some (5, 3) := by decide +kernel
theorem t_mv_59_147 : p_f2 p_mv (p_mK 59) 147 = some 55 := by decide +kernel
theorem t_st_59_103 : p_f2 p_st (p_mK 59) 103 = some 12 := by decide +kernel
theorem t_st_59_106 : p_f2 p_st (p_mK 59) 106 = some 15 := by decide +kernel
theorem t_st_59_109 : p_f2 p_st (p_mK 59) 109 = some 13 := by decide +kernel
theorem t_st_59_114 : p_f2 p_st (p_mK 59) 114 = some 14 := by decide +kernel
theorem t_st_59_97 : p_f2 p_st (p_mK 59) 97 = some 11 := by decide +kernel
theorem q_62_0 : p_tb 62 0 = some (.iconst (-1), 1) := by decide +kernel
theorem q_62_1 : p_tb 62 1 = some (.istore_n 3, 1) := by decide +kernel
theorem q_62_2 : p_tb 62 2 = some (.iconst 0, 1) := by decide +kernel
theorem q_62_3 : p_tb 62 3 = some (.istore 4, 2) := by decide +kernel
theorem q_62_5 : p_tb 62 5 = some (.iconst 0, 1) := by decide +kernel
theorem q_62_6 : p_tb 62 6 = some (.istore 5, 2) := by decide +kernel
theorem q_62_8 : p_tb 62 8 = some (.iload 5, 2) := by decide +kernel
theorem q_62_10 : p_tb 62 10 = some (.iload_n 1, 1) := by decide +kernel
theorem q_62_11 : p_tb 62 11 = some (.if_icmp .ge 57, 3) := by decide +kernel
theorem q_62_14 : p_tb 62 14 = some (.aload_n 0, 1) := by decide +kernel
theorem q_62_15 : p_tb 62 15 = some (.getfield 20, 3) := by decide +kernel
theorem q_62_18 : p_tb 62 18 = some (.iload 5, 2) := by decide +kernel
theorem q_62_20 : p_tb 62 20 = some (.aaload, 1) := by decide +kernel
theorem q_62_21 : p_tb 62 21 = some (.getfield 76, 3) := by decide +kernel
theorem q_62_24 : p_tb 62 24 = some (.aload_n 2, 1) := by decide +kernel
theorem q_62_25 : p_tb 62 25 = some (.getfield 191, 3) := by decide +kernel
theorem q_62_28 : p_tb 62 28 = some (.isub, 1) := by decide +kernel
theorem q_62_29 : p_tb 62 29 = some (.invokestatic 78, 3) := by decide +kernel
theorem q_62_32 : p_tb 62 32 = some (.istore 6, 2) := by decide +kernel
theorem q_62_34 : p_tb 62 34 = some (.iload 5, 2) := by decide +kernel
theorem q_62_36 : p_tb 62 36 = some (.aload_n 2, 1) := by decide +kernel
theorem q_62_37 : p_tb 62 37 = some (.getfield 165, 3) := by decide +kernel
theorem q_62_40 : p_tb 62 40 = some (.if_icmp .eq 22, 3) := by decide +kernel
theorem q_62_43 : p_tb 62 43 = some (.iload_n 3, 1) := by decide +kernel
theorem q_62_44 : p_tb 62 44 = some (.iconst (-1), 1) := by decide +kernel
theorem q_62_45 : p_tb 62 45 = some (.if_icmp .eq 10, 3) := by decide +kernel
theorem q_62_48 : p_tb 62 48 = some (.iload 6, 2) := by decide +kernel
theorem q_62_50 : p_tb 62 50 = some (.iload 4, 2) := by decide +kernel
theorem q_62_52 : p_tb 62 52 = some (.if_icmp .ge 10, 3) := by decide +kernel
theorem q_62_55 : p_tb 62 55 = some (.iload 5, 2) := by decide +kernel
theorem q_62_57 : p_tb 62 57 = some (.istore_n 3, 1) := by decide +kernel
theorem q_62_58 : p_tb 62 58 = some (.iload 6, 2) := by decide +kernel
theorem q_62_60 : p_tb 62 60 = some (.istore 4, 2) := by decide +kernel
theorem q_62_62 : p_tb 62 62 = some (.iinc 5 1, 3) := by decide +kernel
theorem q_62_65 : p_tb 62 65 = some (.goto (-57), 3) := by decide +kernel
theorem q_62_68 : p_tb 62 68 = some (.iload_n 3, 1) := by decide +kernel
theorem q_62_69 : p_tb 62 69 = some (.ireturn, 1) := by decide +kernel
theorem t_fN_62_165 : p_f2 p_fN (p_mK 62) 165 = some (0, 6) := by decide +kernel
theorem t_fN_62_191 : p_f2 p_fN (p_mK 62) 191 = some (0, 0) := by decide +kernel
theorem t_fN_62_76 : p_f2 p_fN (p_mK 62) 76 = some (8, 0) := by decide +kernel
theorem t_ft_62_20 : p_f2 p_ft (p_mK 62) 20 = some (5, 3) := by decide +kernel
theorem t_mj_62_78 : p_f2 p_mj (p_mK 62) 78 = some 3 := by decide +kernel
theorem q_63_0 : p_tb 63 0 = some (.iconst (-1), 1) := by decide +kernel
theorem q_63_1 : p_tb 63 1 = some (.istore_n 2, 1) := by decide +kernel
theorem q_63_2 : p_tb 63 2 = some (.iconst 0, 1) := by decide +kernel
theorem q_63_3 : p_tb 63 3 = some (.istore_n 3, 1) := by decide +kernel
theorem q_63_4 : p_tb 63 4 = some (.iconst 0, 1) := by decide +kernel
theorem q_63_5 : p_tb 63 5 = some (.istore 4, 2) := by decide +kernel
theorem q_63_7 : p_tb 63 7 = some (.iload 4, 2) := by decide +kernel
theorem q_63_9 : p_tb 63 9 = some (.iload_n 0, 1) := by decide +kernel
theorem q_63_10 : p_tb 63 10 = some (.if_icmp .ge 45, 3) := by decide +kernel
theorem q_63_13 : p_tb 63 13 = some (.iload 4, 2) := by decide +kernel
theorem q_63_15 : p_tb 63 15 = some (.aload_n 1, 1) := by decide +kernel
theorem q_63_16 : p_tb 63 16 = some (.getfield 165, 3) := by decide +kernel
theorem q_63_19 : p_tb 63 19 = some (.if_icmp .eq 30, 3) := by decide +kernel
theorem q_63_22 : p_tb 63 22 = some (.iload_n 2, 1) := by decide +kernel
theorem q_63_23 : p_tb 63 23 = some (.iconst (-1), 1) := by decide +kernel
theorem q_63_24 : p_tb 63 24 = some (.if_icmp .eq 14, 3) := by decide +kernel
theorem q_63_27 : p_tb 63 27 = some (.aload_n 1, 1) := by decide +kernel
theorem q_63_28 : p_tb 63 28 = some (.getfield 192, 3) := by decide +kernel
theorem q_63_31 : p_tb 63 31 = some (.iload 4, 2) := by decide +kernel
theorem q_63_33 : p_tb 63 33 = some (.iaload, 1) := by decide +kernel
theorem q_63_34 : p_tb 63 34 = some (.iload_n 3, 1) := by decide +kernel
theorem q_63_35 : p_tb 63 35 = some (.if_icmp .ge 14, 3) := by decide +kernel
theorem q_63_38 : p_tb 63 38 = some (.iload 4, 2) := by decide +kernel
theorem q_63_40 : p_tb 63 40 = some (.istore_n 2, 1) := by decide +kernel
theorem q_63_41 : p_tb 63 41 = some (.aload_n 1, 1) := by decide +kernel
theorem q_63_42 : p_tb 63 42 = some (.getfield 192, 3) := by decide +kernel
theorem q_63_45 : p_tb 63 45 = some (.iload 4, 2) := by decide +kernel
theorem q_63_47 : p_tb 63 47 = some (.iaload, 1) := by decide +kernel
theorem q_63_48 : p_tb 63 48 = some (.istore_n 3, 1) := by decide +kernel
theorem q_63_49 : p_tb 63 49 = some (.iinc 4 1, 3) := by decide +kernel
theorem q_63_52 : p_tb 63 52 = some (.goto (-45), 3) := by decide +kernel
theorem q_63_55 : p_tb 63 55 = some (.iload_n 2, 1) := by decide +kernel
theorem q_63_56 : p_tb 63 56 = some (.ireturn, 1) := by decide +kernel
theorem t_fN_63_165 : p_f2 p_fN (p_mK 63) 165 = some (0, 6) := by decide +kernel
theorem t_fN_63_192 : p_f2 p_fN (p_mK 63) 192 = some (0, 7) := by decide +kernel
theorem q_61_0 : p_tb 61 0 = some (.iload_n 1, 1) := by decide +kernel
theorem q_61_1 : p_tb 61 1 = some (.iconst 2, 1) := by decide +kernel
theorem q_61_2 : p_tb 61 2 = some (.if_icmp .ge 5, 3) := by decide +kernel
theorem q_61_5 : p_tb 61 5 = some (.iconst (-1), 1) := by decide +kernel
theorem q_61_6 : p_tb 61 6 = some (.ireturn, 1) := by decide +kernel
theorem q_61_7 : p_tb 61 7 = some (.aload_n 0, 1) := by decide +kernel
theorem q_61_8 : p_tb 61 8 = some (.getfield 9, 3) := by decide +kernel
theorem q_61_11 : p_tb 61 11 = some (.iconst (-1), 1) := by decide +kernel
theorem q_61_12 : p_tb 61 12 = some (.if_icmp .eq 19, 3) := by decide +kernel
theorem q_61_15 : p_tb 61 15 = some (.aload_n 0, 1) := by decide +kernel
theorem q_61_16 : p_tb 61 16 = some (.getfield 9, 3) := by decide +kernel
theorem q_61_19 : p_tb 61 19 = some (.aload_n 2, 1) := by decide +kernel
theorem q_61_20 : p_tb 61 20 = some (.getfield 165, 3) := by decide +kernel
theorem q_61_23 : p_tb 61 23 = some (.if_icmp .eq 8, 3) := by decide +kernel
theorem q_61_26 : p_tb 61 26 = some (.aload_n 0, 1) := by decide +kernel
theorem q_61_27 : p_tb 61 27 = some (.getfield 9, 3) := by decide +kernel
theorem q_61_30 : p_tb 61 30 = some (.ireturn, 1) := by decide +kernel
theorem q_61_31 : p_tb 61 31 = some (.iload_n 3, 1) := by decide +kernel
theorem q_61_32 : p_tb 61 32 = some (.iconst 1, 1) := by decide +kernel
theorem q_61_33 : p_tb 61 33 = some (.if_icmp .ne 10, 3) := by decide +kernel
theorem q_61_36 : p_tb 61 36 = some (.aload_n 0, 1) := by decide +kernel
theorem q_61_37 : p_tb 61 37 = some (.iload_n 1, 1) := by decide +kernel
theorem q_61_38 : p_tb 61 38 = some (.aload_n 2, 1) := by decide +kernel
theorem q_61_39 : p_tb 61 39 = some (.invokevirtual 184, 3) := by decide +kernel
theorem q_61_42 : p_tb 61 42 = some (.ireturn, 1) := by decide +kernel
theorem q_61_43 : p_tb 61 43 = some (.iload_n 3, 1) := by decide +kernel
theorem q_61_44 : p_tb 61 44 = some (.iconst 2, 1) := by decide +kernel
theorem q_61_45 : p_tb 61 45 = some (.if_icmp .ne 9, 3) := by decide +kernel
theorem q_61_48 : p_tb 61 48 = some (.iload_n 1, 1) := by decide +kernel
theorem q_61_49 : p_tb 61 49 = some (.aload_n 2, 1) := by decide +kernel
theorem q_61_50 : p_tb 61 50 = some (.invokestatic 188, 3) := by decide +kernel
theorem q_61_53 : p_tb 61 53 = some (.ireturn, 1) := by decide +kernel
theorem q_61_54 : p_tb 61 54 = some (.iload_n 3, 1) := by decide +kernel
theorem q_61_55 : p_tb 61 55 = some (.iconst 3, 1) := by decide +kernel
theorem q_61_56 : p_tb 61 56 = some (.if_icmp .ne 27, 3) := by decide +kernel
theorem q_61_59 : p_tb 61 59 = some (.aload_n 0, 1) := by decide +kernel
theorem q_61_60 : p_tb 61 60 = some (.getfield 15, 3) := by decide +kernel
theorem q_61_63 : p_tb 61 63 = some (.iconst (-1), 1) := by decide +kernel
theorem q_61_64 : p_tb 61 64 = some (.if_icmp .eq 19, 3) := by decide +kernel
theorem q_61_67 : p_tb 61 67 = some (.aload_n 0, 1) := by decide +kernel
theorem q_61_68 : p_tb 61 68 = some (.getfield 15, 3) := by decide +kernel
theorem q_61_71 : p_tb 61 71 = some (.aload_n 2, 1) := by decide +kernel
theorem q_61_72 : p_tb 61 72 = some (.getfield 165, 3) := by decide +kernel
theorem q_61_75 : p_tb 61 75 = some (.if_icmp .eq 8, 3) := by decide +kernel
theorem q_61_78 : p_tb 61 78 = some (.aload_n 0, 1) := by decide +kernel
theorem q_61_79 : p_tb 61 79 = some (.getfield 15, 3) := by decide +kernel
theorem q_61_82 : p_tb 61 82 = some (.ireturn, 1) := by decide +kernel
theorem q_61_83 : p_tb 61 83 = some (.aload_n 2, 1) := by decide +kernel
theorem q_61_84 : p_tb 61 84 = some (.getfield 165, 3) := by decide +kernel
theorem q_61_87 : p_tb 61 87 = some (.iconst 1, 1) := by decide +kernel
theorem q_61_88 : p_tb 61 88 = some (.iadd, 1) := by decide +kernel
theorem q_61_89 : p_tb 61 89 = some (.iload_n 1, 1) := by decide +kernel
theorem q_61_90 : p_tb 61 90 = some (.if_icmp .ge 12, 3) := by decide +kernel
theorem q_61_93 : p_tb 61 93 = some (.aload_n 2, 1) := by decide +kernel
theorem q_61_94 : p_tb 61 94 = some (.getfield 165, 3) := by decide +kernel
theorem q_61_97 : p_tb 61 97 = some (.iconst 1, 1) := by decide +kernel
theorem q_61_98 : p_tb 61 98 = some (.iadd, 1) := by decide +kernel
theorem q_61_99 : p_tb 61 99 = some (.goto 4, 3) := by decide +kernel
theorem q_61_102 : p_tb 61 102 = some (.iconst 0, 1) := by decide +kernel
theorem q_61_103 : p_tb 61 103 = some (.ireturn, 1) := by decide +kernel
theorem t_fN_61_165 : p_f2 p_fN (p_mK 61) 165 = some (0, 6) := by decide +kernel
theorem t_ft_61_15 : p_f2 p_ft (p_mK 61) 15 = some (5, 2) := by decide +kernel
theorem t_ft_61_9 : p_f2 p_ft (p_mK 61) 9 = some (5, 1) := by decide +kernel
theorem t_ms_61_188 : p_f2 p_ms (p_mK 61) 188 = some 63 := by decide +kernel
theorem t_mv_61_184 : p_f2 p_mv (p_mK 61) 184 = some 62 := by decide +kernel
theorem q_64_0 : p_tb 64 0 = some (.aload_n 2, 1) := by decide +kernel
theorem q_64_1 : p_tb 64 1 = some (.aload_n 0, 1) := by decide +kernel
theorem q_64_2 : p_tb 64 2 = some (.getfield 20, 3) := by decide +kernel
theorem q_64_5 : p_tb 64 5 = some (.aload_n 2, 1) := by decide +kernel
theorem q_64_6 : p_tb 64 6 = some (.getfield 165, 3) := by decide +kernel
theorem q_64_9 : p_tb 64 9 = some (.aaload, 1) := by decide +kernel
theorem q_64_10 : p_tb 64 10 = some (.getfield 76, 3) := by decide +kernel
theorem q_64_13 : p_tb 64 13 = some (.putfield 191, 3) := by decide +kernel
theorem q_64_16 : p_tb 64 16 = some (.aload_n 0, 1) := by decide +kernel
theorem q_64_17 : p_tb 64 17 = some (.iload_n 1, 1) := by decide +kernel
theorem q_64_18 : p_tb 64 18 = some (.aload_n 2, 1) := by decide +kernel
theorem q_64_19 : p_tb 64 19 = some (.iload_n 3, 1) := by decide +kernel
theorem q_64_20 : p_tb 64 20 = some (.invokevirtual 157, 3) := by decide +kernel
theorem q_64_23 : p_tb 64 23 = some (.istore 5, 2) := by decide +kernel
theorem q_64_25 : p_tb 64 25 = some (.aload_n 2, 1) := by decide +kernel
theorem q_64_26 : p_tb 64 26 = some (.iload 5, 2) := by decide +kernel
theorem q_64_28 : p_tb 64 28 = some (.iload 4, 2) := by decide +kernel
theorem q_64_30 : p_tb 64 30 = some (.invokevirtual 195, 3) := by decide +kernel
theorem q_64_33 : p_tb 64 33 = some (.iload 5, 2) := by decide +kernel
theorem q_64_35 : p_tb 64 35 = some (.ireturn, 1) := by decide +kernel
theorem t_fN_64_165 : p_f2 p_fN (p_mK 64) 165 = some (0, 6) := by decide +kernel
theorem t_fN_64_191 : p_f2 p_fN (p_mK 64) 191 = some (0, 0) := by decide +kernel
theorem t_fN_64_76 : p_f2 p_fN (p_mK 64) 76 = some (8, 0) := by decide +kernel
theorem t_ft_64_20 : p_f2 p_ft (p_mK 64) 20 = some (5, 3) := by decide +kernel
theorem t_mv_64_157 : p_f2 p_mv (p_mK 64) 157 = some 61 := by decide +kernel
theorem t_mv_64_195 : p_f2 p_mv (p_mK 64) 195 = some 6 := by decide +kernel
theorem c_X5_apart (V : pM → Prop) (hV : Stab V) (G : pG) (Kr : pK) (M : pM) (I : Iv V M) (k0 : Nat) (hk_k0 : g_kd k0 = 5) (a1 : Int32) (a2 : Int32) (hl_a1 : 0 ≤ a1.toInt) (hh_a1 : a1.toInt ≤ 5) (hl_a2 : 0 ≤ a2.toInt) (hh_a2 : a2.toInt ≤ 5) (hK : ∀ (x : Int32) (M1 : pM), Iv V M1 → Fr [] M M1 → Kr.1 (some (.int x)) 311 M1) : PW G false 1 49 (p_mc 49) (p_msl 49) Kr 0 (lv_args 0 [.ref k0, .int a1, .int a2]) [] 311 M 0 0 := by
  have F : Fr [] M M := Fr.refl
  refine PW.aload_n q_49_0 rfl ?_
  refine PW.gRk q_49_1 (Or.inl t_ft_49_20) gF_5_3 hk_k0 I.1 (by decide) fun b1 hk_b1 e_b1 => ?_
  refine PW.iload_n q_49_4 rfl ?_
  refine PW.aRk q_49_5 rfl (by decide) (by decide) hk_b1 I.1 (by decide) (by omega) (by omega) fun b2 hk_b2 e_b2 => ?_
  refine PW.gI q_49_6 (Or.inr t_fN_49_76) gF_7_0 hk_b2 I.1 (by decide) fun x3 fx3 hx3 kx3 => ?_
  clear hx3 kx3
  refine PW.aload_n q_49_9 rfl ?_
  refine PW.gRk q_49_10 (Or.inl t_ft_49_20) gF_5_3 hk_k0 I.1 (by decide) fun b4 hk_b4 e_b4 => ?_
  refine PW.iload_n q_49_13 rfl ?_
  refine PW.aRk q_49_14 rfl (by decide) (by decide) hk_b4 I.1 (by decide) (by omega) (by omega) fun b5 hk_b5 e_b5 => ?_
  refine PW.gI q_49_15 (Or.inr t_fN_49_76) gF_7_0 hk_b5 I.1 (by decide) fun x6 fx6 hx6 kx6 => ?_
  clear hx6 kx6
  refine PW.subH q_49_18 fun x7 => ?_
  refine PW.absH q_49_19 t_mj_49_78 (by decide) (Nat.le_of_ble_eq_true rfl) (by decide) (by decide) fun x8 => ?_
  refine PW.rI q_49_22 rfl (by decide) (by decide) ?_
  exact hK x8 M I F
theorem c_X5_hangingBits (V : pM → Prop) (hV : Stab V) (G : pG) (Kr : pK) (M : pM) (I : Iv V M) (k0 : Nat) (hk_k0 : g_kd k0 = 5) (hK : ∀ (x : Int32) (M1 : pM), Iv V M1 → Fr [] M M1 → Kr.1 (some (.int x)) 311 M1) : PW G false 0 50 (p_mc 50) (p_msl 50) Kr 0 (lv_args 0 [.ref k0]) [] 311 M 0 0 := by
  have F : Fr [] M M := Fr.refl
  refine PW.cI q_50_0 (by decide) fun c1 hc1 => ?_
  refine PW.istore_n q_50_1 (by decide) ?_
  refine PW.cI q_50_2 (by decide) fun c2 hc2 => ?_
  refine PW.istore_n q_50_3 (by decide) ?_
  have L50_4_3 : ∀ (n : Nat) (ML50_4_3 : pM) (v4 v5 : Int32), Iv (V) ML50_4_3 → Fr [] M ML50_4_3 → 0 ≤ v5.toInt → v5.toInt ≤ 6 → (6 - v5.toInt).toNat = n → PW G false 0 50 (p_mc 50) (p_msl 50) Kr 4 [(0, .ref k0), (1, .int v4), (2, .int v5)] [] 311 ML50_4_3 0 0 := by
    intro n
    induction n using Nat.strongRecOn with
    | ind n ih_L50_4_3 =>
    intro ML50_4_3 v4 v5 IML50_4_3 FML50_4_3 hbL50_4_30 hbL50_4_31 hmL50_4_3
    refine PW.iload_n q_50_4 rfl ?_
    refine PW.cB q_50_5 (by decide) fun c6 hc6 => ?_
    refine PW.jc_ge q_50_7 rfl (fun h7 => ?_) (fun h7 => ?_)
    · skip
      refine PW.iload_n q_50_34 rfl ?_
      refine PW.rI q_50_35 rfl (by decide) (by decide) ?_
      exact hK v4 ML50_4_3 IML50_4_3 FML50_4_3
    · skip
      refine PW.aload_n q_50_10 rfl ?_
      refine PW.gRk q_50_11 (Or.inl t_ft_50_20) gF_5_3 hk_k0 IML50_4_3.1 (by decide) fun b8 hk_b8 e_b8 => ?_
      refine PW.iload_n q_50_14 rfl ?_
      refine PW.aRk q_50_15 rfl (by decide) (by decide) hk_b8 IML50_4_3.1 (by decide) (by omega) (by omega) fun b9 hk_b9 e_b9 => ?_
      refine PW.gI q_50_16 (Or.inr t_fN_50_84) gF_7_3 hk_b9 IML50_4_3.1 (by decide) fun x10 fx10 hx10 kx10 => ?_
      have J28_12 : ∀ (MJ28_12 : pM) (v13 : Int32), Iv (V) MJ28_12 → Fr [] M MJ28_12 → o_f (MJ28_12 b9) 3 = .int x10 → PW G false 0 50 (p_mc 50) (p_msl 50) Kr 28 [(0, .ref k0), (1, .int v13), (2, .int v5)] [] 311 MJ28_12 0 0 := by
        intro MJ28_12 v13 IMJ28_12 FMJ28_12 hbJ28_120
        refine PW.incN q_50_28 rfl (by decide) (by decide) (by omega) (by omega) fun x14 hx14 => ?_
        refine PW.goto q_50_31 rfl ?_
        refine PW.lvS (lk1 rfl (lk1 rfl (lk1 rfl lk0))) (ih_L50_4_3 _ ?_ MJ28_12 v13 x14 IMJ28_12 FMJ28_12 (by omega) (by omega) rfl)
        omega
      refine PW.jz_eq q_50_19 rfl (fun h11 => ?_) (fun h11 => ?_)
      · skip
        exact PW.lvS (lk1 rfl (lk1 rfl (lk1 rfl lk0))) (J28_12 ML50_4_3 v4 IML50_4_3 FML50_4_3 fx10)
      · skip
        refine PW.iload_n q_50_22 rfl ?_
        refine PW.cI q_50_23 (by decide) fun c15 hc15 => ?_
        refine PW.iload_n q_50_24 rfl ?_
        refine PW.shlH q_50_25 fun x16 => ?_
        refine PW.orH q_50_26 fun x17 => ?_
        refine PW.istore_n q_50_27 (by decide) ?_
        exact PW.lvS (lk1 rfl (lk1 rfl (lk1 rfl lk0))) (J28_12 ML50_4_3 x17 IML50_4_3 FML50_4_3 fx10)
  exact PW.lvS (lk1 rfl (lk1 rfl (lk1 rfl lk0))) (L50_4_3 _ M c1 c2 I F (by omega) (by omega) rfl)
theorem c_X5_walkingBits (V : pM → Prop) (hV : Stab V) (G : pG) (Kr : pK) (M : pM) (I : Iv V M) (k0 : Nat) (hk_k0 : g_kd k0 = 5) (a1 : Int32) (hl_a1 : 0 ≤ a1.toInt) (hh_a1 : a1.toInt ≤ 6) (hK : ∀ (x : Int32) (M1 : pM), Iv V M1 → Fr [] M M1 → Kr.1 (some (.int x)) 311 M1) : PW G false 0 51 (p_mc 51) (p_msl 51) Kr 0 (lv_args 0 [.ref k0, .int a1]) [] 311 M 0 0 := by
  have F : Fr [] M M := Fr.refl
  refine PW.cI q_51_0 (by decide) fun c1 hc1 => ?_
  refine PW.istore_n q_51_1 (by decide) ?_
  refine PW.cI q_51_2 (by decide) fun c2 hc2 => ?_
  refine PW.istore_n q_51_3 (by decide) ?_
  have L51_4_3 : ∀ (n : Nat) (ML51_4_3 : pM) (v4 v5 : Int32), Iv (V) ML51_4_3 → Fr [] M ML51_4_3 → 0 ≤ v5.toInt → v5.toInt ≤ 6 → (6 - v5.toInt).toNat = n → PW G false 0 51 (p_mc 51) (p_msl 51) Kr 4 [(0, .ref k0), (1, .int a1), (2, .int v4), (3, .int v5)] [] 311 ML51_4_3 0 0 := by
    intro n
    induction n using Nat.strongRecOn with
    | ind n ih_L51_4_3 =>
    intro ML51_4_3 v4 v5 IML51_4_3 FML51_4_3 hbL51_4_30 hbL51_4_31 hmL51_4_3
    refine PW.iload_n q_51_4 rfl ?_
    refine PW.iload_n q_51_5 rfl ?_
    refine PW.jc_ge q_51_6 rfl (fun h6 => ?_) (fun h6 => ?_)
    · skip
      refine PW.iload_n q_51_33 rfl ?_
      refine PW.rI q_51_34 rfl (by decide) (by decide) ?_
      exact hK v4 ML51_4_3 IML51_4_3 FML51_4_3
    · skip
      refine PW.aload_n q_51_9 rfl ?_
      refine PW.gRk q_51_10 (Or.inl t_ft_51_20) gF_5_3 hk_k0 IML51_4_3.1 (by decide) fun b7 hk_b7 e_b7 => ?_
      refine PW.iload_n q_51_13 rfl ?_
      refine PW.aRk q_51_14 rfl (by decide) (by decide) hk_b7 IML51_4_3.1 (by decide) (by omega) (by omega) fun b8 hk_b8 e_b8 => ?_
      refine PW.gI q_51_15 (Or.inr t_fN_51_88) gF_7_2 hk_b8 IML51_4_3.1 (by decide) fun x9 fx9 hx9 kx9 => ?_
      have J27_11 : ∀ (MJ27_11 : pM) (v12 : Int32), Iv (V) MJ27_11 → Fr [] M MJ27_11 → o_f (MJ27_11 b8) 2 = .int x9 → PW G false 0 51 (p_mc 51) (p_msl 51) Kr 27 [(0, .ref k0), (1, .int a1), (2, .int v12), (3, .int v5)] [] 311 MJ27_11 0 0 := by
        intro MJ27_11 v12 IMJ27_11 FMJ27_11 hbJ27_110
        refine PW.incN q_51_27 rfl (by decide) (by decide) (by omega) (by omega) fun x13 hx13 => ?_
        refine PW.goto q_51_30 rfl ?_
        refine PW.lvS (lk1 rfl (lk1 rfl (lk1 rfl (lk1 rfl lk0)))) (ih_L51_4_3 _ ?_ MJ27_11 v12 x13 IMJ27_11 FMJ27_11 (by omega) (by omega) rfl)
        omega
      refine PW.jz_eq q_51_18 rfl (fun h10 => ?_) (fun h10 => ?_)
      · skip
        exact PW.lvS (lk1 rfl (lk1 rfl (lk1 rfl (lk1 rfl lk0)))) (J27_11 ML51_4_3 v4 IML51_4_3 FML51_4_3 fx9)
      · skip
        refine PW.iload_n q_51_21 rfl ?_
        refine PW.cI q_51_22 (by decide) fun c14 hc14 => ?_
        refine PW.iload_n q_51_23 rfl ?_
        refine PW.shlH q_51_24 fun x15 => ?_
        refine PW.orH q_51_25 fun x16 => ?_
        refine PW.istore_n q_51_26 (by decide) ?_
        exact PW.lvS (lk1 rfl (lk1 rfl (lk1 rfl (lk1 rfl lk0)))) (J27_11 ML51_4_3 x16 IML51_4_3 FML51_4_3 fx9)
  exact PW.lvS (lk1 rfl (lk1 rfl (lk1 rfl (lk1 rfl lk0)))) (L51_4_3 _ M c1 c2 I F (by omega) (by omega) rfl)
theorem c_X5_allTurns (V : pM → Prop) (hV : Stab V) (G : pG) (Kr : pK) (M : pM) (I : Iv V M) (k0 : Nat) (hk_k0 : g_kd k0 = 5) (hK : ∀ (x : Int32) (M1 : pM), Iv V M1 → Fr [] M M1 → Kr.1 (some (.int x)) 311 M1) : PW G false 0 52 (p_mc 52) (p_msl 52) Kr 0 (lv_args 0 [.ref k0]) [] 311 M 0 0 := by
  have F : Fr [] M M := Fr.refl
  refine PW.cI q_52_0 (by decide) fun c1 hc1 => ?_
  refine PW.istore_n q_52_1 (by decide) ?_
  refine PW.cI q_52_2 (by decide) fun c2 hc2 => ?_
  refine PW.istore_n q_52_3 (by decide) ?_
  have L52_4_3 : ∀ (n : Nat) (ML52_4_3 : pM) (v4 v5 : Int32), Iv (V) ML52_4_3 → Fr [] M ML52_4_3 → 0 ≤ v5.toInt → v5.toInt ≤ 2 → (2 - v5.toInt).toNat = n → PW G false 0 52 (p_mc 52) (p_msl 52) Kr 4 [(0, .ref k0), (1, .int v4), (2, .int v5)] [] 311 ML52_4_3 0 0 := by
    intro n
    induction n using Nat.strongRecOn with
    | ind n ih_L52_4_3 =>
    intro ML52_4_3 v4 v5 IML52_4_3 FML52_4_3 hbL52_4_30 hbL52_4_31 hmL52_4_3
    refine PW.iload_n q_52_4 rfl ?_
    refine PW.cI q_52_5 (by decide) fun c6 hc6 => ?_
    refine PW.jc_ge q_52_6 rfl (fun h7 => ?_) (fun h7 => ?_)
    · skip
      refine PW.iload_n q_52_27 rfl ?_
      refine PW.rI q_52_28 rfl (by decide) (by decide) ?_
      exact hK v4 ML52_4_3 IML52_4_3 FML52_4_3
    · skip
      refine PW.iload_n q_52_9 rfl ?_
      refine PW.aload_n q_52_10 rfl ?_
      refine PW.gRk q_52_11 (Or.inl t_ft_52_27) gF_5_4 hk_k0 IML52_4_3.1 (by decide) fun b8 hk_b8 e_b8 => ?_
      refine PW.iload_n q_52_14 rfl ?_
      refine PW.aRk q_52_15 rfl (by decide) (by decide) hk_b8 IML52_4_3.1 (by decide) (by omega) (by omega) fun b9 hk_b9 e_b9 => ?_
      refine PW.gI q_52_16 (Or.inr t_fN_52_91) gF_9_3 hk_b9 IML52_4_3.1 (by decide) fun x10 fx10 hx10 kx10 => ?_
      refine PW.addH q_52_19 fun x11 => ?_
      refine PW.istore_n q_52_20 (by decide) ?_
      refine PW.incN q_52_21 rfl (by decide) (by decide) (by omega) (by omega) fun x12 hx12 => ?_
      refine PW.goto q_52_24 rfl ?_
      refine PW.lvS (lk1 rfl (lk1 rfl (lk1 rfl lk0))) (ih_L52_4_3 _ ?_ ML52_4_3 x11 x12 IML52_4_3 FML52_4_3 (by omega) (by omega) rfl)
      omega
  exact PW.lvS (lk1 rfl (lk1 rfl (lk1 rfl lk0))) (L52_4_3 _ M c1 c2 I F (by omega) (by omega) rfl)
theorem c_X5_isSought (V : pM → Prop) (hV : Stab V) (G : pG) (Kr : pK) (M : pM) (I : Iv V M) (k0 : Nat) (hk_k0 : g_kd k0 = 5) (a1 : Int32) (hK : ∀ (x : Int32) (M1 : pM), Iv V M1 → Fr [] M M1 → 0 ≤ x.toInt → x.toInt ≤ 1 → Kr.1 (some (.int x)) 311 M1) : PW G false 0 53 (p_mc 53) (p_msl 53) Kr 0 (lv_args 0 [.ref k0, .int a1]) [] 311 M 0 0 := by
  have F : Fr [] M M := Fr.refl
  refine PW.cI q_53_0 (by decide) fun c1 hc1 => ?_
  refine PW.istore_n q_53_1 (by decide) ?_
  have L53_2_2 : ∀ (n : Nat) (ML53_2_2 : pM) (v3 : Int32), Iv (V) ML53_2_2 → Fr [] M ML53_2_2 → 0 ≤ v3.toInt → v3.toInt ≤ 2 → (2 - v3.toInt).toNat = n → PW G false 0 53 (p_mc 53) (p_msl 53) Kr 2 [(0, .ref k0), (1, .int a1), (2, .int v3)] [] 311 ML53_2_2 0 0 := by
    intro n
    induction n using Nat.strongRecOn with
    | ind n ih_L53_2_2 =>
    intro ML53_2_2 v3 IML53_2_2 FML53_2_2 hbL53_2_20 hbL53_2_21 hmL53_2_2
    refine PW.iload_n q_53_2 rfl ?_
    refine PW.cI q_53_3 (by decide) fun c4 hc4 => ?_
    refine PW.jc_ge q_53_4 rfl (fun h5 => ?_) (fun h5 => ?_)
    · skip
      refine PW.cI q_53_28 (by decide) fun c6 hc6 => ?_
      refine PW.rZ q_53_29 rfl (by omega) (by omega) (by decide) (by decide) ?_
      exact hK c6 ML53_2_2 IML53_2_2 FML53_2_2 (by omega) (by omega)
    · skip
      refine PW.aload_n q_53_7 rfl ?_
      refine PW.gRk q_53_8 (Or.inl t_ft_53_27) gF_5_4 hk_k0 IML53_2_2.1 (by decide) fun b7 hk_b7 e_b7 => ?_
      refine PW.iload_n q_53_11 rfl ?_
      refine PW.aRk q_53_12 rfl (by decide) (by decide) hk_b7 IML53_2_2.1 (by decide) (by omega) (by omega) fun b8 hk_b8 e_b8 => ?_
      refine PW.gI q_53_13 (Or.inr t_fN_53_94) gF_9_4 hk_b8 IML53_2_2.1 (by decide) fun x9 fx9 hx9 kx9 => ?_
      clear hx9 kx9
      refine PW.iload_n q_53_16 rfl ?_
      refine PW.jc_ne q_53_17 rfl (fun h10 => ?_) (fun h10 => ?_)
      · skip
        refine PW.incN q_53_22 rfl (by decide) (by decide) (by omega) (by omega) fun x11 hx11 => ?_
        refine PW.goto q_53_25 rfl ?_
        refine PW.lvS (lk1 rfl (lk1 rfl (lk1 rfl lk0))) (ih_L53_2_2 _ ?_ ML53_2_2 x11 IML53_2_2 FML53_2_2 (by omega) (by omega) rfl)
        omega
      · skip
        refine PW.cI q_53_20 (by decide) fun c12 hc12 => ?_
        refine PW.rZ q_53_21 rfl (by omega) (by omega) (by decide) (by decide) ?_
        exact hK c12 ML53_2_2 IML53_2_2 FML53_2_2 (by omega) (by omega)
  exact PW.lvS (lk1 rfl (lk1 rfl (lk1 rfl lk0))) (L53_2_2 _ M c1 I F (by omega) (by omega) rfl)
theorem c_X5_whyNot (V : pM → Prop) (hV : Stab V) (G : pG) (Kr : pK) (M : pM) (I : Iv V M) (k0 : Nat) (hk_k0 : g_kd k0 = 5) (r1 : Nat) (hr1 : r1 < 28) (a2 : Int32) (hl_a2 : 0 ≤ a2.toInt) (hh_a2 : a2.toInt ≤ 5) (hK : ∀ (x : Int32) (M1 : pM), Iv V M1 → Fr [] M M1 → 0 ≤ x.toInt → x.toInt ≤ 1 → Kr.1 (some (.int x)) 311 M1) : PW G false 0 54 (p_mc 54) (p_msl 54) Kr 0 (lv_args 0 [.ref k0, .ref (65536 + r1), .int a2]) [] 311 M 0 0 := by
  have F : Fr [] M M := Fr.refl
  refine PW.aload_n q_54_0 rfl ?_
  refine PW.gets q_54_1 t_st_54_97 ?_
  refine PW.ja_ne (rx := (some (65536 + r1))) (ry := (some (65536 + 11))) q_54_4 rfl (fun h1 => ?_) (fun h1 => ?_)
  · skip
    refine PW.aload_n q_54_25 rfl ?_
    refine PW.gets q_54_26 t_st_54_103 ?_
    refine PW.ja_ne (rx := (some (65536 + r1))) (ry := (some (65536 + 12))) q_54_29 rfl (fun h2 => ?_) (fun h2 => ?_)
    · skip
      refine PW.aload_n q_54_50 rfl ?_
      refine PW.gets q_54_51 t_st_54_106 ?_
      refine PW.ja_ne (rx := (some (65536 + r1))) (ry := (some (65536 + 15))) q_54_54 rfl (fun h3 => ?_) (fun h3 => ?_)
      · skip
        refine PW.cI q_54_69 (by decide) fun c4 hc4 => ?_
        refine PW.rI q_54_70 rfl (by decide) (by decide) ?_
        exact hK c4 M I F (by omega) (by omega)
      · skip
        refine PW.aload_n q_54_57 rfl ?_
        refine PW.gI q_54_58 (Or.inl t_ft_54_9) gF_5_1 hk_k0 I.1 (by decide) fun x5 fx5 hx5 kx5 => ?_
        clear hx5 kx5
        refine PW.iload_n q_54_61 rfl ?_
        refine PW.jc_ne q_54_62 rfl (fun h6 => ?_) (fun h6 => ?_)
        · skip
          refine PW.cI q_54_69 (by decide) fun c7 hc7 => ?_
          refine PW.rI q_54_70 rfl (by decide) (by decide) ?_
          exact hK c7 M I F (by omega) (by omega)
        · skip
          refine PW.cI q_54_65 (by decide) fun c8 hc8 => ?_
          refine PW.goto q_54_66 rfl ?_
          refine PW.rI q_54_70 rfl (by decide) (by decide) ?_
          exact hK c8 M I F (by omega) (by omega)
    · skip
      refine PW.aload_n q_54_32 rfl ?_
      refine PW.gRk q_54_33 (Or.inl t_ft_54_20) gF_5_3 hk_k0 I.1 (by decide) fun b9 hk_b9 e_b9 => ?_
      refine PW.iload_n q_54_36 rfl ?_
      refine PW.aRk q_54_37 rfl (by decide) (by decide) hk_b9 I.1 (by decide) (by omega) (by omega) fun b10 hk_b10 e_b10 => ?_
      refine PW.gI q_54_38 (Or.inr t_fN_54_88) gF_7_2 hk_b10 I.1 (by decide) fun x11 fx11 hx11 kx11 => ?_
      refine PW.jz_eq q_54_41 rfl (fun h12 => ?_) (fun h12 => ?_)
      · skip
        refine PW.cI q_54_48 (by decide) fun c13 hc13 => ?_
        refine PW.rI q_54_49 rfl (by decide) (by decide) ?_
        exact hK c13 M I F (by omega) (by omega)
      · skip
        refine PW.cI q_54_44 (by decide) fun c14 hc14 => ?_
        refine PW.goto q_54_45 rfl ?_
        refine PW.rI q_54_49 rfl (by decide) (by decide) ?_
        exact hK c14 M I F (by omega) (by omega)
  · skip
    refine PW.aload_n q_54_7 rfl ?_
    refine PW.gRk q_54_8 (Or.inl t_ft_54_20) gF_5_3 hk_k0 I.1 (by decide) fun b15 hk_b15 e_b15 => ?_
    refine PW.iload_n q_54_11 rfl ?_
    refine PW.aRk q_54_12 rfl (by decide) (by decide) hk_b15 I.1 (by decide) (by omega) (by omega) fun b16 hk_b16 e_b16 => ?_
    refine PW.gI q_54_13 (Or.inr t_fN_54_88) gF_7_2 hk_b16 I.1 (by decide) fun x17 fx17 hx17 kx17 => ?_
    refine PW.jz_eq q_54_16 rfl (fun h18 => ?_) (fun h18 => ?_)
    · skip
      refine PW.cI q_54_23 (by decide) fun c19 hc19 => ?_
      refine PW.rI q_54_24 rfl (by decide) (by decide) ?_
      exact hK c19 M I F (by omega) (by omega)
    · skip
      refine PW.cI q_54_19 (by decide) fun c20 hc20 => ?_
      refine PW.goto q_54_20 rfl ?_
      refine PW.rI q_54_24 rfl (by decide) (by decide) ?_
      exact hK c20 M I F (by omega) (by omega)
theorem c_X5_perform (V : pM → Prop) (hV : Stab V) (G : pG) (Kr : pK) (M : pM) (I : Iv V M) (k0 : Nat) (hk_k0 : g_kd k0 = 5) (r1 : Nat) (hr1 : r1 < 28) (a2 : Int32) (hl_a2 : 0 ≤ a2.toInt) (hh_a2 : a2.toInt ≤ 5) (hK : ∀ (M1 : pM), Iv V M1 → Fr [5, 7] M M1 → Kr.1 none 311 M1) : PW G false 0 55 (p_mc 55) (p_msl 55) Kr 0 (lv_args 0 [.ref k0, .ref (65536 + r1), .int a2]) [] 311 M 0 0 := by
  have F : Fr [5, 7] M M := Fr.refl
  refine PW.aload_n q_55_0 rfl ?_
  refine PW.gets q_55_1 t_st_55_97 ?_
  refine PW.ja_ne (rx := (some (65536 + r1))) (ry := (some (65536 + 11))) q_55_4 rfl (fun h1 => ?_) (fun h1 => ?_)
  · skip
    refine PW.aload_n q_55_20 rfl ?_
    refine PW.gets q_55_21 t_st_55_103 ?_
    refine PW.ja_ne (rx := (some (65536 + r1))) (ry := (some (65536 + 12))) q_55_24 rfl (fun h2 => ?_) (fun h2 => ?_)
    · skip
      refine PW.aload_n q_55_40 rfl ?_
      refine PW.gets q_55_41 t_st_55_109 ?_
      refine PW.ja_ne (rx := (some (65536 + r1))) (ry := (some (65536 + 13))) q_55_44 rfl (fun h3 => ?_) (fun h3 => ?_)
      · skip
        refine PW.aload_n q_55_76 rfl ?_
        refine PW.gets q_55_77 t_st_55_114 ?_
        refine PW.ja_ne (rx := (some (65536 + r1))) (ry := (some (65536 + 14))) q_55_80 rfl (fun h4 => ?_) (fun h4 => ?_)
        · skip
          refine PW.aload_n q_55_91 rfl ?_
          refine PW.gets q_55_92 t_st_55_106 ?_
          refine PW.ja_ne (rx := (some (65536 + r1))) (ry := (some (65536 + 15))) q_55_95 rfl (fun h5 => ?_) (fun h5 => ?_)
          · skip
            refine PW.vret q_55_103 rfl (by decide) (by decide) ?_
            exact hK M I F
          · skip
            refine PW.aload_n q_55_98 rfl ?_
            refine PW.iload_n q_55_99 rfl ?_
            refine PW.pI q_55_100 (Or.inl t_ft_55_9) gF_5_1 gP_5_1 hk_k0 hV I (by decide) rfl (n_lo _) (n_hi _) fun M6 IM6 fM6 UM6 => ?_
            have FM6 := Fr.pu F UM6.1 hk_k0 (rfl : List.contains [5, 7] 5 = true)
            refine PW.vret q_55_103 rfl (by decide) (by decide) ?_
            exact hK M6 IM6 FM6
        · skip
          refine PW.aload_n q_55_83 rfl ?_
          refine PW.iload_n q_55_84 rfl ?_
          refine PW.pI q_55_85 (Or.inl t_ft_55_15) gF_5_2 gP_5_2 hk_k0 hV I (by decide) rfl (n_lo _) (n_hi _) fun M7 IM7 fM7 UM7 => ?_
          have FM7 := Fr.pu F UM7.1 hk_k0 (rfl : List.contains [5, 7] 5 = true)
          refine PW.goto q_55_88 rfl ?_
          refine PW.vret q_55_103 rfl (by decide) (by decide) ?_
          exact hK M7 IM7 FM7
      · skip
        refine PW.aload_n q_55_47 rfl ?_
        refine PW.gRk q_55_48 (Or.inl t_ft_55_20) gF_5_3 hk_k0 I.1 (by decide) fun b8 hk_b8 e_b8 => ?_
        refine PW.iload_n q_55_51 rfl ?_
        refine PW.aRk q_55_52 rfl (by decide) (by decide) hk_b8 I.1 (by decide) (by omega) (by omega) fun b9 hk_b9 e_b9 => ?_
        refine PW.aload_n q_55_53 rfl ?_
        refine PW.gRk q_55_54 (Or.inl t_ft_55_20) gF_5_3 hk_k0 I.1 (by decide) fun b10 hk_b10 e_b10 => ?_
        refine PW.iload_n q_55_57 rfl ?_
        refine PW.aRk q_55_58 rfl (by decide) (by decide) hk_b10 I.1 (by decide) (by omega) (by omega) fun b11 hk_b11 e_b11 => ?_
        refine PW.gI q_55_59 (Or.inr t_fN_55_112) gF_7_1 hk_b11 I.1 (by decide) fun x12 fx12 hx12 kx12 => ?_
        refine PW.jz_ne q_55_62 rfl (fun h13 => ?_) (fun h13 => ?_)
        · skip
          refine PW.cI q_55_69 (by decide) fun c14 hc14 => ?_
          refine PW.pI q_55_70 (Or.inr t_fN_55_112) gF_7_1 gP_7_1 hk_b9 hV I (by decide) rfl (by omega) (by omega) fun M15 IM15 fM15 UM15 => ?_
          have FM15 := Fr.pu F UM15.1 hk_b9 (rfl : List.contains [5, 7] 7 = true)
          refine PW.goto q_55_73 rfl ?_
          refine PW.vret q_55_103 rfl (by decide) (by decide) ?_
          exact hK M15 IM15 FM15
        · skip
          refine PW.cI q_55_65 (by decide) fun c16 hc16 => ?_
          refine PW.goto q_55_66 rfl ?_
          refine PW.pI q_55_70 (Or.inr t_fN_55_112) gF_7_1 gP_7_1 hk_b9 hV I (by decide) rfl (by omega) (by omega) fun M17 IM17 fM17 UM17 => ?_
          have FM17 := Fr.pu F UM17.1 hk_b9 (rfl : List.contains [5, 7] 7 = true)
          refine PW.goto q_55_73 rfl ?_
          refine PW.vret q_55_103 rfl (by decide) (by decide) ?_
          exact hK M17 IM17 FM17
    · skip
      refine PW.aload_n q_55_27 rfl ?_
      refine PW.gRk q_55_28 (Or.inl t_ft_55_20) gF_5_3 hk_k0 I.1 (by decide) fun b18 hk_b18 e_b18 => ?_
      refine PW.iload_n q_55_31 rfl ?_
      refine PW.aRk q_55_32 rfl (by decide) (by decide) hk_b18 I.1 (by decide) (by omega) (by omega) fun b19 hk_b19 e_b19 => ?_
      refine PW.cI q_55_33 (by decide) fun c20 hc20 => ?_
      refine PW.pI q_55_34 (Or.inr t_fN_55_88) gF_7_2 gP_7_2 hk_b19 hV I (by decide) rfl (by omega) (by omega) fun M21 IM21 fM21 UM21 => ?_
      have FM21 := Fr.pu F UM21.1 hk_b19 (rfl : List.contains [5, 7] 7 = true)
      refine PW.goto q_55_37 rfl ?_
      refine PW.vret q_55_103 rfl (by decide) (by decide) ?_
      exact hK M21 IM21 FM21
  · skip
    refine PW.aload_n q_55_7 rfl ?_
    refine PW.gRk q_55_8 (Or.inl t_ft_55_20) gF_5_3 hk_k0 I.1 (by decide) fun b22 hk_b22 e_b22 => ?_
    refine PW.iload_n q_55_11 rfl ?_
    refine PW.aRk q_55_12 rfl (by decide) (by decide) hk_b22 I.1 (by decide) (by omega) (by omega) fun b23 hk_b23 e_b23 => ?_
    refine PW.cI q_55_13 (by decide) fun c24 hc24 => ?_
    refine PW.pI q_55_14 (Or.inr t_fN_55_88) gF_7_2 gP_7_2 hk_b23 hV I (by decide) rfl (by omega) (by omega) fun M25 IM25 fM25 UM25 => ?_
    have FM25 := Fr.pu F UM25.1 hk_b23 (rfl : List.contains [5, 7] 7 = true)
    refine PW.goto q_55_17 rfl ?_
    refine PW.vret q_55_103 rfl (by decide) (by decide) ?_
    exact hK M25 IM25 FM25
theorem c_X5_performDrawn (V : pM → Prop) (hV : Stab V) (G : pG) (Kr : pK) (M : pM) (I : Iv V M) (k0 : Nat) (hk_k0 : g_kd k0 = 5) (a1 : Int32) (a2 : Int32) (hl_a2 : 0 ≤ a2.toInt) (hh_a2 : a2.toInt ≤ 5) (hK : ∀ (M1 : pM), Iv V M1 → Fr [5, 7] M M1 → Kr.1 none 311 M1) : PW G false 1 59 (p_mc 59) (p_msl 59) Kr 0 (lv_args 0 [.ref k0, .int a1, .int a2]) [] 311 M 0 0 := by
  have F : Fr [5, 7] M M := Fr.refl
  refine PW.iload_n q_59_0 rfl ?_
  refine PW.jz_ne q_59_1 rfl (fun h1 => ?_) (fun h1 => ?_)
  · skip
    refine PW.iload_n q_59_33 rfl ?_
    refine PW.cI q_59_34 (by decide) fun c2 hc2 => ?_
    refine PW.jc_ne q_59_35 rfl (fun h3 => ?_) (fun h3 => ?_)
    · skip
      refine PW.iload_n q_59_49 rfl ?_
      refine PW.cI q_59_50 (by decide) fun c4 hc4 => ?_
      refine PW.jc_ne q_59_51 rfl (fun h5 => ?_) (fun h5 => ?_)
      · skip
        refine PW.iload_n q_59_65 rfl ?_
        refine PW.cI q_59_66 (by decide) fun c6 hc6 => ?_
        refine PW.jc_ne q_59_67 rfl (fun h7 => ?_) (fun h7 => ?_)
        · skip
          refine PW.vret q_59_78 rfl (by decide) (by decide) ?_
          exact hK M I F
        · skip
          refine PW.aload_n q_59_70 rfl ?_
          refine PW.gets q_59_71 t_st_59_106 ?_
          refine PW.iload_n q_59_74 rfl ?_
          refine PW.cV (as := [_, _]) (rest := []) q_59_75 t_mv_59_147 hk_k0 I.1 (by decide) rfl (by decide) rfl rfl (Nat.le_of_ble_eq_true rfl) (Nat.le_of_ble_eq_true rfl) (by decide) (by decide) ?_
          refine PW.up (by decide) (c_X5_perform (V) (hV) G _ M I k0 hk_k0 15 (by decide) a2 (by omega) (by omega) fun M8 IM8 GM8 => ?_)
          have FM8 := Fr.trans F GM8 (rfl)
          refine PW.vret q_59_78 rfl (by decide) (by decide) ?_
          exact hK M8 IM8 FM8
      · skip
        refine PW.aload_n q_59_54 rfl ?_
        refine PW.gets q_59_55 t_st_59_114 ?_
        refine PW.iload_n q_59_58 rfl ?_
        refine PW.cV (as := [_, _]) (rest := []) q_59_59 t_mv_59_147 hk_k0 I.1 (by decide) rfl (by decide) rfl rfl (Nat.le_of_ble_eq_true rfl) (Nat.le_of_ble_eq_true rfl) (by decide) (by decide) ?_
        refine PW.up (by decide) (c_X5_perform (V) (hV) G _ M I k0 hk_k0 14 (by decide) a2 (by omega) (by omega) fun M9 IM9 GM9 => ?_)
        have FM9 := Fr.trans F GM9 (rfl)
        refine PW.goto q_59_62 rfl ?_
        refine PW.vret q_59_78 rfl (by decide) (by decide) ?_
        exact hK M9 IM9 FM9
    · skip
      refine PW.aload_n q_59_38 rfl ?_
      refine PW.gets q_59_39 t_st_59_109 ?_
      refine PW.iload_n q_59_42 rfl ?_
      refine PW.cV (as := [_, _]) (rest := []) q_59_43 t_mv_59_147 hk_k0 I.1 (by decide) rfl (by decide) rfl rfl (Nat.le_of_ble_eq_true rfl) (Nat.le_of_ble_eq_true rfl) (by decide) (by decide) ?_
      refine PW.up (by decide) (c_X5_perform (V) (hV) G _ M I k0 hk_k0 13 (by decide) a2 (by omega) (by omega) fun M10 IM10 GM10 => ?_)
      have FM10 := Fr.trans F GM10 (rfl)
      refine PW.goto q_59_46 rfl ?_
      refine PW.vret q_59_78 rfl (by decide) (by decide) ?_
      exact hK M10 IM10 FM10
  · skip
    refine PW.aload_n q_59_4 rfl ?_
    refine PW.aload_n q_59_5 rfl ?_
    refine PW.gRk q_59_6 (Or.inl t_ft_59_20) gF_5_3 hk_k0 I.1 (by decide) fun b11 hk_b11 e_b11 => ?_
    refine PW.iload_n q_59_9 rfl ?_
    refine PW.aRk q_59_10 rfl (by decide) (by decide) hk_b11 I.1 (by decide) (by omega) (by omega) fun b12 hk_b12 e_b12 => ?_
    refine PW.gI q_59_11 (Or.inr t_fN_59_88) gF_7_2 hk_b12 I.1 (by decide) fun x13 fx13 hx13 kx13 => ?_
    refine PW.jz_eq q_59_14 rfl (fun h14 => ?_) (fun h14 => ?_)
    · skip
      refine PW.gets q_59_23 t_st_59_103 ?_
      refine PW.iload_n q_59_26 rfl ?_
      refine PW.cV (as := [_, _]) (rest := []) q_59_27 t_mv_59_147 hk_k0 I.1 (by decide) rfl (by decide) rfl rfl (Nat.le_of_ble_eq_true rfl) (Nat.le_of_ble_eq_true rfl) (by decide) (by decide) ?_
      refine PW.up (by decide) (c_X5_perform (V) (hV) G _ M I k0 hk_k0 12 (by decide) a2 (by omega) (by omega) fun M15 IM15 GM15 => ?_)
      have FM15 := Fr.trans F GM15 (rfl)
      refine PW.goto q_59_30 rfl ?_
      refine PW.vret q_59_78 rfl (by decide) (by decide) ?_
      exact hK M15 IM15 FM15
    · skip
      refine PW.gets q_59_17 t_st_59_97 ?_
      refine PW.goto q_59_20 rfl ?_
      refine PW.iload_n q_59_26 rfl ?_
      refine PW.cV (as := [_, _]) (rest := []) q_59_27 t_mv_59_147 hk_k0 I.1 (by decide) rfl (by decide) rfl rfl (Nat.le_of_ble_eq_true rfl) (Nat.le_of_ble_eq_true rfl) (by decide) (by decide) ?_
      refine PW.up (by decide) (c_X5_perform (V) (hV) G _ M I k0 hk_k0 11 (by decide) a2 (by omega) (by omega) fun M16 IM16 GM16 => ?_)
      have FM16 := Fr.trans F GM16 (rfl)
      refine PW.goto q_59_30 rfl ?_
      refine PW.vret q_59_78 rfl (by decide) (by decide) ?_
      exact hK M16 IM16 FM16
theorem c_X5_nearestTo (V : pM → Prop) (hV : Stab V) (G : pG) (Kr : pK) (M : pM) (I : Iv V M) (k0 : Nat) (hk_k0 : g_kd k0 = 5) (a1 : Int32) (k2 : Nat) (hk_k2 : g_kd k2 = 9) (hl_a1 : 0 ≤ a1.toInt) (hh_a1 : a1.toInt ≤ 6) (hK : ∀ (x : Int32) (M1 : pM), Iv V M1 → Fr [] M M1 → Kr.1 (some (.int x)) 311 M1) : PW G false 1 62 (p_mc 62) (p_msl 62) Kr 0 (lv_args 0 [.ref k0, .int a1, .ref k2]) [] 311 M 0 0 := by
  have F : Fr [] M M := Fr.refl
  refine PW.cI q_62_0 (by decide) fun c1 hc1 => ?_
  refine PW.istore_n q_62_1 (by decide) ?_
  refine PW.cI q_62_2 (by decide) fun c2 hc2 => ?_
  refine PW.istore q_62_3 (by decide) ?_
  refine PW.cI q_62_5 (by decide) fun c3 hc3 => ?_
  refine PW.istore q_62_6 (by decide) ?_
  have L62_8_4 : ∀ (n : Nat) (ML62_8_4 : pM) (v5 v6 v7 : Int32), Iv (V) ML62_8_4 → Fr [] M ML62_8_4 → -1 ≤ v5.toInt → v5.toInt ≤ 6 → 0 ≤ v7.toInt → v7.toInt ≤ 6 → (6 - v7.toInt).toNat = n → PW G false 1 62 (p_mc 62) (p_msl 62) Kr 8 [(0, .ref k0), (1, .int a1), (2, .ref k2), (3, .int v5), (4, .int v6), (5, .int v7)] [] 311 ML62_8_4 0 0 := by
    intro n
    induction n using Nat.strongRecOn with
    | ind n ih_L62_8_4 =>
    intro ML62_8_4 v5 v6 v7 IML62_8_4 FML62_8_4 hbL62_8_40 hbL62_8_41 hbL62_8_42 hbL62_8_43 hmL62_8_4
    refine PW.iload q_62_8 rfl ?_
    refine PW.iload_n q_62_10 rfl ?_
    refine PW.jc_ge q_62_11 rfl (fun h8 => ?_) (fun h8 => ?_)
    · skip
      refine PW.iload_n q_62_68 rfl ?_
      refine PW.rI q_62_69 rfl (by decide) (by decide) ?_
      exact hK v5 ML62_8_4 IML62_8_4 FML62_8_4
    · skip
      refine PW.aload_n q_62_14 rfl ?_
      refine PW.gRk q_62_15 (Or.inl t_ft_62_20) gF_5_3 hk_k0 IML62_8_4.1 (by decide) fun b9 hk_b9 e_b9 => ?_
      refine PW.iload q_62_18 rfl ?_
      refine PW.aRk q_62_20 rfl (by decide) (by decide) hk_b9 IML62_8_4.1 (by decide) (by omega) (by omega) fun b10 hk_b10 e_b10 => ?_
      refine PW.gI q_62_21 (Or.inr t_fN_62_76) gF_7_0 hk_b10 IML62_8_4.1 (by decide) fun x11 fx11 hx11 kx11 => ?_
      clear hx11 kx11
      refine PW.aload_n q_62_24 rfl ?_
      refine PW.gI q_62_25 (Or.inr t_fN_62_191) gF_9_0 hk_k2 IML62_8_4.1 (by decide) fun x12 fx12 hx12 kx12 => ?_
      clear hx12 kx12
      refine PW.subH q_62_28 fun x13 => ?_
      refine PW.absH q_62_29 t_mj_62_78 (by decide) (Nat.le_of_ble_eq_true rfl) (by decide) (by decide) fun x14 => ?_
      refine PW.istore q_62_32 (by decide) ?_
      refine PW.iload q_62_34 rfl ?_
      refine PW.aload_n q_62_36 rfl ?_
      refine PW.gI q_62_37 (Or.inr t_fN_62_165) gF_9_6 hk_k2 IML62_8_4.1 (by decide) fun x15 fx15 hx15 kx15 => ?_
      have J62_17 : ∀ (MJ62_17 : pM) (v18 v19 : Int32), Iv (V) MJ62_17 → Fr [] M MJ62_17 → -1 ≤ v18.toInt → v18.toInt ≤ 6 → o_f (MJ62_17 b10) 0 = .int x11 → o_f (MJ62_17 k2) 0 = .int x12 → o_f (MJ62_17 k2) 6 = .int x15 → PW G false 1 62 (p_mc 62) (p_msl 62) Kr 62 [(0, .ref k0), (1, .int a1), (2, .ref k2), (3, .int v18), (4, .int v19), (5, .int v7), (6, .int x14)] [] 311 MJ62_17 0 0 := by
        intro MJ62_17 v18 v19 IMJ62_17 FMJ62_17 hbJ62_170 hbJ62_171 hbJ62_172 hbJ62_173 hbJ62_174
        refine PW.incN q_62_62 rfl (by decide) (by decide) (by omega) (by omega) fun x20 hx20 => ?_
        refine PW.goto q_62_65 rfl ?_
        refine PW.lvS (lk1 rfl (lk1 rfl (lk1 rfl (lk1 rfl (lk1 rfl (lk1 rfl lk0)))))) (ih_L62_8_4 _ ?_ MJ62_17 v18 v19 x20 IMJ62_17 FMJ62_17 (by omega) (by omega) (by omega) (by omega) rfl)
        omega
      refine PW.jc_eq q_62_40 rfl (fun h16 => ?_) (fun h16 => ?_)
      · skip
        exact PW.lvS (lk1 rfl (lk1 rfl (lk1 rfl (lk1 rfl (lk1 rfl (lk1 rfl (lk1 rfl lk0))))))) (J62_17 ML62_8_4 v5 v6 IML62_8_4 FML62_8_4 (by omega) (by omega) fx11 fx12 fx15)
      · skip
        refine PW.iload_n q_62_43 rfl ?_
        refine PW.cI q_62_44 (by decide) fun c21 hc21 => ?_
        refine PW.jc_eq q_62_45 rfl (fun h22 => ?_) (fun h22 => ?_)
        · skip
          refine PW.iload q_62_55 rfl ?_
          refine PW.istore_n q_62_57 (by decide) ?_
          refine PW.iload q_62_58 rfl ?_
          refine PW.istore q_62_60 (by decide) ?_
          exact PW.lvS (lk1 rfl (lk1 rfl (lk1 rfl (lk1 rfl (lk1 rfl (lk1 rfl (lk1 rfl lk0))))))) (J62_17 ML62_8_4 v7 x14 IML62_8_4 FML62_8_4 (by omega) (by omega) fx11 fx12 fx15)
        · skip
          refine PW.iload q_62_48 rfl ?_
          refine PW.iload q_62_50 rfl ?_
          refine PW.jc_ge q_62_52 rfl (fun h23 => ?_) (fun h23 => ?_)
          · skip
            exact PW.lvS (lk1 rfl (lk1 rfl (lk1 rfl (lk1 rfl (lk1 rfl (lk1 rfl (lk1 rfl lk0))))))) (J62_17 ML62_8_4 v5 v6 IML62_8_4 FML62_8_4 (by omega) (by omega) fx11 fx12 fx15)
          · skip
            refine PW.iload q_62_55 rfl ?_
            refine PW.istore_n q_62_57 (by decide) ?_
            refine PW.iload q_62_58 rfl ?_
            refine PW.istore q_62_60 (by decide) ?_
            exact PW.lvS (lk1 rfl (lk1 rfl (lk1 rfl (lk1 rfl (lk1 rfl (lk1 rfl (lk1 rfl lk0))))))) (J62_17 ML62_8_4 v7 x14 IML62_8_4 FML62_8_4 (by omega) (by omega) fx11 fx12 fx15)
  exact PW.lvS (lk1 rfl (lk1 rfl (lk1 rfl (lk1 rfl (lk1 rfl (lk1 rfl lk0)))))) (L62_8_4 _ M c1 c2 c3 I F (by omega) (by omega) (by omega) (by omega) rfl)
theorem c_X5_longestUnseen (V : pM → Prop) (hV : Stab V) (G : pG) (Kr : pK) (M : pM) (I : Iv V M) (a0 : Int32) (k1 : Nat) (hk_k1 : g_kd k1 = 9) (hl_a0 : 0 ≤ a0.toInt) (hh_a0 : a0.toInt ≤ 6) (hK : ∀ (x : Int32) (M1 : pM), Iv V M1 → Fr [] M M1 → Kr.1 (some (.int x)) 311 M1) : PW G false 0 63 (p_mc 63) (p_msl 63) Kr 0 (lv_args 0 [.int a0, .ref k1]) [] 311 M 0 0 := by
  have F : Fr [] M M := Fr.refl
  refine PW.cI q_63_0 (by decide) fun c1 hc1 => ?_
  refine PW.istore_n q_63_1 (by decide) ?_
  refine PW.cI q_63_2 (by decide) fun c2 hc2 => ?_
  refine PW.istore_n q_63_3 (by decide) ?_
  refine PW.cI q_63_4 (by decide) fun c3 hc3 => ?_
  refine PW.istore q_63_5 (by decide) ?_
  have L63_7_4 : ∀ (n : Nat) (ML63_7_4 : pM) (v5 v6 v7 : Int32), Iv (V) ML63_7_4 → Fr [] M ML63_7_4 → -1 ≤ v5.toInt → v5.toInt ≤ 6 → 0 ≤ v7.toInt → v7.toInt ≤ 6 → (6 - v7.toInt).toNat = n → PW G false 0 63 (p_mc 63) (p_msl 63) Kr 7 [(0, .int a0), (1, .ref k1), (2, .int v5), (3, .int v6), (4, .int v7)] [] 311 ML63_7_4 0 0 := by
    intro n
    induction n using Nat.strongRecOn with
    | ind n ih_L63_7_4 =>
    intro ML63_7_4 v5 v6 v7 IML63_7_4 FML63_7_4 hbL63_7_40 hbL63_7_41 hbL63_7_42 hbL63_7_43 hmL63_7_4
    refine PW.iload q_63_7 rfl ?_
    refine PW.iload_n q_63_9 rfl ?_
    refine PW.jc_ge q_63_10 rfl (fun h8 => ?_) (fun h8 => ?_)
    · skip
      refine PW.iload_n q_63_55 rfl ?_
      refine PW.rI q_63_56 rfl (by decide) (by decide) ?_
      exact hK v5 ML63_7_4 IML63_7_4 FML63_7_4
    · skip
      refine PW.iload q_63_13 rfl ?_
      refine PW.aload_n q_63_15 rfl ?_
      refine PW.gI q_63_16 (Or.inr t_fN_63_165) gF_9_6 hk_k1 IML63_7_4.1 (by decide) fun x9 fx9 hx9 kx9 => ?_
      have J49_11 : ∀ (MJ49_11 : pM) (v12 v13 : Int32), Iv (V) MJ49_11 → Fr [] M MJ49_11 → -1 ≤ v12.toInt → v12.toInt ≤ 6 → o_f (MJ49_11 k1) 6 = .int x9 → PW G false 0 63 (p_mc 63) (p_msl 63) Kr 49 [(0, .int a0), (1, .ref k1), (2, .int v12), (3, .int v13), (4, .int v7)] [] 311 MJ49_11 0 0 := by
        intro MJ49_11 v12 v13 IMJ49_11 FMJ49_11 hbJ49_110 hbJ49_111 hbJ49_112
        refine PW.incN q_63_49 rfl (by decide) (by decide) (by omega) (by omega) fun x14 hx14 => ?_
        refine PW.goto q_63_52 rfl ?_
        refine PW.lvS (lk1 rfl (lk1 rfl (lk1 rfl (lk1 rfl (lk1 rfl lk0))))) (ih_L63_7_4 _ ?_ MJ49_11 v12 v13 x14 IMJ49_11 FMJ49_11 (by omega) (by omega) (by omega) (by omega) rfl)
        omega
      refine PW.jc_eq q_63_19 rfl (fun h10 => ?_) (fun h10 => ?_)
      · skip
        exact PW.lvS (lk1 rfl (lk1 rfl (lk1 rfl (lk1 rfl (lk1 rfl lk0))))) (J49_11 ML63_7_4 v5 v6 IML63_7_4 FML63_7_4 (by omega) (by omega) fx9)
      · skip
        refine PW.iload_n q_63_22 rfl ?_
        refine PW.cI q_63_23 (by decide) fun c15 hc15 => ?_
        refine PW.jc_eq q_63_24 rfl (fun h16 => ?_) (fun h16 => ?_)
        · skip
          refine PW.iload q_63_38 rfl ?_
          refine PW.istore_n q_63_40 (by decide) ?_
          refine PW.aload_n q_63_41 rfl ?_
          refine PW.gRk q_63_42 (Or.inr t_fN_63_192) gF_9_7 hk_k1 IML63_7_4.1 (by decide) fun b17 hk_b17 e_b17 => ?_
          refine PW.iload q_63_45 rfl ?_
          refine PW.aH q_63_47 gA_10 hk_b17 IML63_7_4.1 (by decide) (by omega) (by omega) fun x18 fx18 => ?_
          refine PW.istore_n q_63_48 (by decide) ?_
          exact PW.lvS (lk1 rfl (lk1 rfl (lk1 rfl (lk1 rfl (lk1 rfl lk0))))) (J49_11 ML63_7_4 v7 x18 IML63_7_4 FML63_7_4 (by omega) (by omega) fx9)
        · skip
          refine PW.aload_n q_63_27 rfl ?_
          refine PW.gRk q_63_28 (Or.inr t_fN_63_192) gF_9_7 hk_k1 IML63_7_4.1 (by decide) fun b19 hk_b19 e_b19 => ?_
          refine PW.iload q_63_31 rfl ?_
          refine PW.aH q_63_33 gA_10 hk_b19 IML63_7_4.1 (by decide) (by omega) (by omega) fun x20 fx20 => ?_
          refine PW.iload_n q_63_34 rfl ?_
          refine PW.jc_ge q_63_35 rfl (fun h21 => ?_) (fun h21 => ?_)
          · skip
            exact PW.lvS (lk1 rfl (lk1 rfl (lk1 rfl (lk1 rfl (lk1 rfl lk0))))) (J49_11 ML63_7_4 v5 v6 IML63_7_4 FML63_7_4 (by omega) (by omega) fx9)
          · skip
            refine PW.iload q_63_38 rfl ?_
            refine PW.istore_n q_63_40 (by decide) ?_
            refine PW.aload_n q_63_41 rfl ?_
            refine PW.gRk q_63_42 (Or.inr t_fN_63_192) gF_9_7 hk_k1 IML63_7_4.1 (by decide) fun b22 hk_b22 e_b22 => ?_
            refine PW.iload q_63_45 rfl ?_
            refine PW.aH q_63_47 gA_10 hk_b22 IML63_7_4.1 (by decide) (by omega) (by omega) fun x23 fx23 => ?_
            refine PW.istore_n q_63_48 (by decide) ?_
            exact PW.lvS (lk1 rfl (lk1 rfl (lk1 rfl (lk1 rfl (lk1 rfl lk0))))) (J49_11 ML63_7_4 v7 x23 IML63_7_4 FML63_7_4 (by omega) (by omega) fx9)
  exact PW.lvS (lk1 rfl (lk1 rfl (lk1 rfl (lk1 rfl (lk1 rfl lk0))))) (L63_7_4 _ M c1 c2 c3 I F (by omega) (by omega) (by omega) (by omega) rfl)
theorem c_X5_choice (V : pM → Prop) (hV : Stab V) (G : pG) (Kr : pK) (M : pM) (I : Iv V M) (k0 : Nat) (hk_k0 : g_kd k0 = 5) (a1 : Int32) (k2 : Nat) (hk_k2 : g_kd k2 = 9) (a3 : Int32) (hl_a1 : 0 ≤ a1.toInt) (hh_a1 : a1.toInt ≤ 6) (hK : ∀ (x : Int32) (M1 : pM), Iv V M1 → Fr [] M M1 → Kr.1 (some (.int x)) 311 M1) : PW G false 2 61 (p_mc 61) (p_msl 61) Kr 0 (lv_args 0 [.ref k0, .int a1, .ref k2, .int a3]) [] 311 M 0 0 := by
  have F : Fr [] M M := Fr.refl
  refine PW.iload_n q_61_0 rfl ?_
  refine PW.cI q_61_1 (by decide) fun c1 hc1 => ?_
  refine PW.jc_ge q_61_2 rfl (fun h2 => ?_) (fun h2 => ?_)
  · skip
    refine PW.aload_n q_61_7 rfl ?_
    refine PW.gI q_61_8 (Or.inl t_ft_61_9) gF_5_1 hk_k0 I.1 (by decide) fun x3 fx3 hx3 kx3 => ?_
    clear hx3 kx3
    refine PW.cI q_61_11 (by decide) fun c4 hc4 => ?_
    refine PW.jc_eq q_61_12 rfl (fun h5 => ?_) (fun h5 => ?_)
    · skip
      refine PW.iload_n q_61_31 rfl ?_
      refine PW.cI q_61_32 (by decide) fun c6 hc6 => ?_
      refine PW.jc_ne q_61_33 rfl (fun h7 => ?_) (fun h7 => ?_)
      · skip
        refine PW.iload_n q_61_43 rfl ?_
        refine PW.cI q_61_44 (by decide) fun c8 hc8 => ?_
        refine PW.jc_ne q_61_45 rfl (fun h9 => ?_) (fun h9 => ?_)
        · skip
          refine PW.iload_n q_61_54 rfl ?_
          refine PW.cI q_61_55 (by decide) fun c10 hc10 => ?_
          refine PW.jc_ne q_61_56 rfl (fun h11 => ?_) (fun h11 => ?_)
          · skip
            refine PW.aload_n q_61_83 rfl ?_
            refine PW.gI q_61_84 (Or.inr t_fN_61_165) gF_9_6 hk_k2 I.1 (by decide) fun x12 fx12 hx12 kx12 => ?_
            refine PW.cI q_61_87 (by decide) fun c13 hc13 => ?_
            refine PW.addN q_61_88 (by omega) (by omega) fun x14 hx14 => ?_
            refine PW.iload_n q_61_89 rfl ?_
            refine PW.jc_ge q_61_90 rfl (fun h15 => ?_) (fun h15 => ?_)
            · skip
              refine PW.cI q_61_102 (by decide) fun c16 hc16 => ?_
              refine PW.rI q_61_103 rfl (by decide) (by decide) ?_
              exact hK c16 M I F
            · skip
              refine PW.aload_n q_61_93 rfl ?_
              refine PW.gE q_61_94 (Or.inr t_fN_61_165) gF_9_6 hk_k2 I.1 (by decide) fx12 ?_
              refine PW.cI q_61_97 (by decide) fun c17 hc17 => ?_
              refine PW.addN q_61_98 (by omega) (by omega) fun x18 hx18 => ?_
              refine PW.goto q_61_99 rfl ?_
              refine PW.rI q_61_103 rfl (by decide) (by decide) ?_
              exact hK x18 M I F
          · skip
            refine PW.aload_n q_61_59 rfl ?_
            refine PW.gI q_61_60 (Or.inl t_ft_61_15) gF_5_2 hk_k0 I.1 (by decide) fun x19 fx19 hx19 kx19 => ?_
            clear hx19 kx19
            refine PW.cI q_61_63 (by decide) fun c20 hc20 => ?_
            refine PW.jc_eq q_61_64 rfl (fun h21 => ?_) (fun h21 => ?_)
            · skip
              refine PW.aload_n q_61_83 rfl ?_
              refine PW.gI q_61_84 (Or.inr t_fN_61_165) gF_9_6 hk_k2 I.1 (by decide) fun x22 fx22 hx22 kx22 => ?_
              refine PW.cI q_61_87 (by decide) fun c23 hc23 => ?_
              refine PW.addN q_61_88 (by omega) (by omega) fun x24 hx24 => ?_
              refine PW.iload_n q_61_89 rfl ?_
              refine PW.jc_ge q_61_90 rfl (fun h25 => ?_) (fun h25 => ?_)
              · skip
                refine PW.cI q_61_102 (by decide) fun c26 hc26 => ?_
                refine PW.rI q_61_103 rfl (by decide) (by decide) ?_
                exact hK c26 M I F
              · skip
                refine PW.aload_n q_61_93 rfl ?_
                refine PW.gE q_61_94 (Or.inr t_fN_61_165) gF_9_6 hk_k2 I.1 (by decide) fx22 ?_
                refine PW.cI q_61_97 (by decide) fun c27 hc27 => ?_
                refine PW.addN q_61_98 (by omega) (by omega) fun x28 hx28 => ?_
                refine PW.goto q_61_99 rfl ?_
                refine PW.rI q_61_103 rfl (by decide) (by decide) ?_
                exact hK x28 M I F
            · skip
              refine PW.aload_n q_61_67 rfl ?_
              refine PW.gE q_61_68 (Or.inl t_ft_61_15) gF_5_2 hk_k0 I.1 (by decide) fx19 ?_
              refine PW.aload_n q_61_71 rfl ?_
              refine PW.gI q_61_72 (Or.inr t_fN_61_165) gF_9_6 hk_k2 I.1 (by decide) fun x29 fx29 hx29 kx29 => ?_
              refine PW.jc_eq q_61_75 rfl (fun h30 => ?_) (fun h30 => ?_)
              · skip
                refine PW.aload_n q_61_83 rfl ?_
                refine PW.gE q_61_84 (Or.inr t_fN_61_165) gF_9_6 hk_k2 I.1 (by decide) fx29 ?_
                refine PW.cI q_61_87 (by decide) fun c31 hc31 => ?_
                refine PW.addN q_61_88 (by omega) (by omega) fun x32 hx32 => ?_
                refine PW.iload_n q_61_89 rfl ?_
                refine PW.jc_ge q_61_90 rfl (fun h33 => ?_) (fun h33 => ?_)
                · skip
                  refine PW.cI q_61_102 (by decide) fun c34 hc34 => ?_
                  refine PW.rI q_61_103 rfl (by decide) (by decide) ?_
                  exact hK c34 M I F
                · skip
                  refine PW.aload_n q_61_93 rfl ?_
                  refine PW.gE q_61_94 (Or.inr t_fN_61_165) gF_9_6 hk_k2 I.1 (by decide) fx29 ?_
                  refine PW.cI q_61_97 (by decide) fun c35 hc35 => ?_
                  refine PW.addN q_61_98 (by omega) (by omega) fun x36 hx36 => ?_
                  refine PW.goto q_61_99 rfl ?_
                  refine PW.rI q_61_103 rfl (by decide) (by decide) ?_
                  exact hK x36 M I F
              · skip
                refine PW.aload_n q_61_78 rfl ?_
                refine PW.gE q_61_79 (Or.inl t_ft_61_15) gF_5_2 hk_k0 I.1 (by decide) fx19 ?_
                refine PW.rI q_61_82 rfl (by decide) (by decide) ?_
                exact hK x19 M I F
        · skip
          refine PW.iload_n q_61_48 rfl ?_
          refine PW.aload_n q_61_49 rfl ?_
          refine PW.callS (as := [_, _]) (rest := []) q_61_50 t_ms_61_188 (by decide) rfl (Nat.le_of_ble_eq_true rfl) (Nat.le_of_ble_eq_true rfl) (by decide) (by decide) ?_
          refine PW.up (by decide) (c_X5_longestUnseen (V) (hV) G _ M I a1 k2 hk_k2 (by omega) (by omega) fun x38 M37 IM37 GM37 => ?_)
          have FM37 := Fr.trans F GM37 (rfl)
          refine PW.rI q_61_53 rfl (by decide) (by decide) ?_
          exact hK x38 M37 IM37 FM37
      · skip
        refine PW.aload_n q_61_36 rfl ?_
        refine PW.iload_n q_61_37 rfl ?_
        refine PW.aload_n q_61_38 rfl ?_
        refine PW.cV (as := [_, _]) (rest := []) q_61_39 t_mv_61_184 hk_k0 I.1 (by decide) rfl (by decide) rfl rfl (Nat.le_of_ble_eq_true rfl) (Nat.le_of_ble_eq_true rfl) (by decide) (by decide) ?_
        refine PW.up (by decide) (c_X5_nearestTo (V) (hV) G _ M I k0 hk_k0 a1 k2 hk_k2 (by omega) (by omega) fun x40 M39 IM39 GM39 => ?_)
        have FM39 := Fr.trans F GM39 (rfl)
        refine PW.rI q_61_42 rfl (by decide) (by decide) ?_
        exact hK x40 M39 IM39 FM39
    · skip
      refine PW.aload_n q_61_15 rfl ?_
      refine PW.gE q_61_16 (Or.inl t_ft_61_9) gF_5_1 hk_k0 I.1 (by decide) fx3 ?_
      refine PW.aload_n q_61_19 rfl ?_
      refine PW.gI q_61_20 (Or.inr t_fN_61_165) gF_9_6 hk_k2 I.1 (by decide) fun x41 fx41 hx41 kx41 => ?_
      refine PW.jc_eq q_61_23 rfl (fun h42 => ?_) (fun h42 => ?_)
      · skip
        refine PW.iload_n q_61_31 rfl ?_
        refine PW.cI q_61_32 (by decide) fun c43 hc43 => ?_
        refine PW.jc_ne q_61_33 rfl (fun h44 => ?_) (fun h44 => ?_)
        · skip
          refine PW.iload_n q_61_43 rfl ?_
          refine PW.cI q_61_44 (by decide) fun c45 hc45 => ?_
          refine PW.jc_ne q_61_45 rfl (fun h46 => ?_) (fun h46 => ?_)
          · skip
            refine PW.iload_n q_61_54 rfl ?_
            refine PW.cI q_61_55 (by decide) fun c47 hc47 => ?_
            refine PW.jc_ne q_61_56 rfl (fun h48 => ?_) (fun h48 => ?_)
            · skip
              refine PW.aload_n q_61_83 rfl ?_
              refine PW.gE q_61_84 (Or.inr t_fN_61_165) gF_9_6 hk_k2 I.1 (by decide) fx41 ?_
              refine PW.cI q_61_87 (by decide) fun c49 hc49 => ?_
              refine PW.addN q_61_88 (by omega) (by omega) fun x50 hx50 => ?_
              refine PW.iload_n q_61_89 rfl ?_
              refine PW.jc_ge q_61_90 rfl (fun h51 => ?_) (fun h51 => ?_)
              · skip
                refine PW.cI q_61_102 (by decide) fun c52 hc52 => ?_
                refine PW.rI q_61_103 rfl (by decide) (by decide) ?_
                exact hK c52 M I F
              · skip
                refine PW.aload_n q_61_93 rfl ?_
                refine PW.gE q_61_94 (Or.inr t_fN_61_165) gF_9_6 hk_k2 I.1 (by decide) fx41 ?_
                refine PW.cI q_61_97 (by decide) fun c53 hc53 => ?_
                refine PW.addN q_61_98 (by omega) (by omega) fun x54 hx54 => ?_
                refine PW.goto q_61_99 rfl ?_
                refine PW.rI q_61_103 rfl (by decide) (by decide) ?_
                exact hK x54 M I F
            · skip
              refine PW.aload_n q_61_59 rfl ?_
              refine PW.gI q_61_60 (Or.inl t_ft_61_15) gF_5_2 hk_k0 I.1 (by decide) fun x55 fx55 hx55 kx55 => ?_
              clear hx55 kx55
              refine PW.cI q_61_63 (by decide) fun c56 hc56 => ?_
              refine PW.jc_eq q_61_64 rfl (fun h57 => ?_) (fun h57 => ?_)
              · skip
                refine PW.aload_n q_61_83 rfl ?_
                refine PW.gE q_61_84 (Or.inr t_fN_61_165) gF_9_6 hk_k2 I.1 (by decide) fx41 ?_
                refine PW.cI q_61_87 (by decide) fun c58 hc58 => ?_
                refine PW.addN q_61_88 (by omega) (by omega) fun x59 hx59 => ?_
                refine PW.iload_n q_61_89 rfl ?_
                refine PW.jc_ge q_61_90 rfl (fun h60 => ?_) (fun h60 => ?_)
                · skip
                  refine PW.cI q_61_102 (by decide) fun c61 hc61 => ?_
                  refine PW.rI q_61_103 rfl (by decide) (by decide) ?_
                  exact hK c61 M I F
                · skip
                  refine PW.aload_n q_61_93 rfl ?_
                  refine PW.gE q_61_94 (Or.inr t_fN_61_165) gF_9_6 hk_k2 I.1 (by decide) fx41 ?_
                  refine PW.cI q_61_97 (by decide) fun c62 hc62 => ?_
                  refine PW.addN q_61_98 (by omega) (by omega) fun x63 hx63 => ?_
                  refine PW.goto q_61_99 rfl ?_
                  refine PW.rI q_61_103 rfl (by decide) (by decide) ?_
                  exact hK x63 M I F
              · skip
                refine PW.aload_n q_61_67 rfl ?_
                refine PW.gE q_61_68 (Or.inl t_ft_61_15) gF_5_2 hk_k0 I.1 (by decide) fx55 ?_
                refine PW.aload_n q_61_71 rfl ?_
                refine PW.gE q_61_72 (Or.inr t_fN_61_165) gF_9_6 hk_k2 I.1 (by decide) fx41 ?_
                refine PW.jc_eq q_61_75 rfl (fun h64 => ?_) (fun h64 => ?_)
                · skip
                  refine PW.aload_n q_61_83 rfl ?_
                  refine PW.gE q_61_84 (Or.inr t_fN_61_165) gF_9_6 hk_k2 I.1 (by decide) fx41 ?_
                  refine PW.cI q_61_87 (by decide) fun c65 hc65 => ?_
                  refine PW.addN q_61_88 (by omega) (by omega) fun x66 hx66 => ?_
                  refine PW.iload_n q_61_89 rfl ?_
                  refine PW.jc_ge q_61_90 rfl (fun h67 => ?_) (fun h67 => ?_)
                  · skip
                    refine PW.cI q_61_102 (by decide) fun c68 hc68 => ?_
                    refine PW.rI q_61_103 rfl (by decide) (by decide) ?_
                    exact hK c68 M I F
                  · skip
                    refine PW.aload_n q_61_93 rfl ?_
                    refine PW.gE q_61_94 (Or.inr t_fN_61_165) gF_9_6 hk_k2 I.1 (by decide) fx41 ?_
                    refine PW.cI q_61_97 (by decide) fun c69 hc69 => ?_
                    refine PW.addN q_61_98 (by omega) (by omega) fun x70 hx70 => ?_
                    refine PW.goto q_61_99 rfl ?_
                    refine PW.rI q_61_103 rfl (by decide) (by decide) ?_
                    exact hK x70 M I F
                · skip
                  refine PW.aload_n q_61_78 rfl ?_
                  refine PW.gE q_61_79 (Or.inl t_ft_61_15) gF_5_2 hk_k0 I.1 (by decide) fx55 ?_
                  refine PW.rI q_61_82 rfl (by decide) (by decide) ?_
                  exact hK x55 M I F
          · skip
            refine PW.iload_n q_61_48 rfl ?_
            refine PW.aload_n q_61_49 rfl ?_
            refine PW.callS (as := [_, _]) (rest := []) q_61_50 t_ms_61_188 (by decide) rfl (Nat.le_of_ble_eq_true rfl) (Nat.le_of_ble_eq_true rfl) (by decide) (by decide) ?_
            refine PW.up (by decide) (c_X5_longestUnseen (V) (hV) G _ M I a1 k2 hk_k2 (by omega) (by omega) fun x72 M71 IM71 GM71 => ?_)
            have FM71 := Fr.trans F GM71 (rfl)
            refine PW.rI q_61_53 rfl (by decide) (by decide) ?_
            exact hK x72 M71 IM71 FM71
        · skip
          refine PW.aload_n q_61_36 rfl ?_
          refine PW.iload_n q_61_37 rfl ?_
          refine PW.aload_n q_61_38 rfl ?_
          refine PW.cV (as := [_, _]) (rest := []) q_61_39 t_mv_61_184 hk_k0 I.1 (by decide) rfl (by decide) rfl rfl (Nat.le_of_ble_eq_true rfl) (Nat.le_of_ble_eq_true rfl) (by decide) (by decide) ?_
          refine PW.up (by decide) (c_X5_nearestTo (V) (hV) G _ M I k0 hk_k0 a1 k2 hk_k2 (by omega) (by omega) fun x74 M73 IM73 GM73 => ?_)
          have FM73 := Fr.trans F GM73 (rfl)
          refine PW.rI q_61_42 rfl (by decide) (by decide) ?_
          exact hK x74 M73 IM73 FM73
      · skip
        refine PW.aload_n q_61_26 rfl ?_
        refine PW.gE q_61_27 (Or.inl t_ft_61_9) gF_5_1 hk_k0 I.1 (by decide) fx3 ?_
        refine PW.rI q_61_30 rfl (by decide) (by decide) ?_
        exact hK x3 M I F
  · skip
    refine PW.cI q_61_5 (by decide) fun c75 hc75 => ?_
    refine PW.rI q_61_6 rfl (by decide) (by decide) ?_
    exact hK c75 M I F
theorem c_X5_leap (V : pM → Prop) (hV : Stab V) (G : pG) (Kr : pK) (M : pM) (I : Iv V M) (k0 : Nat) (hk_k0 : g_kd k0 = 5) (a1 : Int32) (k2 : Nat) (hk_k2 : g_kd k2 = 9) (a3 : Int32) (a4 : Int32) (hl_a1 : 0 ≤ a1.toInt) (hh_a1 : a1.toInt ≤ 6) (hK : ∀ (x : Int32) (M1 : pM), Iv V M1 → Fr [9, 10] M M1 → Kr.1 (some (.int x)) 311 M1) : PW G false 3 64 (p_mc 64) (p_msl 64) Kr 0 (lv_args 0 [.ref k0, .int a1, .ref k2, .int a3, .int a4]) [] 311 M 0 0 := by
  have F : Fr [9, 10] M M := Fr.refl
  refine PW.aload_n q_64_0 rfl ?_
  refine PW.aload_n q_64_1 rfl ?_
  refine PW.gRk q_64_2 (Or.inl t_ft_64_20) gF_5_3 hk_k0 I.1 (by decide) fun b1 hk_b1 e_b1 => ?_
  refine PW.aload_n q_64_5 rfl ?_
  refine PW.gI q_64_6 (Or.inr t_fN_64_165) gF_9_6 hk_k2 I.1 (by decide) fun x2 fx2 hx2 kx2 => ?_
  refine PW.aRk q_64_9 rfl (by decide) (by decide) hk_b1 I.1 (by decide) (by omega) (by omega) fun b3 hk_b3 e_b3 => ?_
  refine PW.gI q_64_10 (Or.inr t_fN_64_76) gF_7_0 hk_b3 I.1 (by decide) fun x4 fx4 hx4 kx4 => ?_
  clear hx4 kx4
  refine PW.pI q_64_13 (Or.inr t_fN_64_191) gF_9_0 gP_9_0 hk_k2 hV I (by decide) rfl (n_lo _) (n_hi _) fun M5 IM5 fM5 UM5 => ?_
  have FM5 := Fr.pu F UM5.1 hk_k2 (rfl : List.contains [9, 10] 9 = true)
  refine PW.aload_n q_64_16 rfl ?_
  refine PW.iload_n q_64_17 rfl ?_
  refine PW.aload_n q_64_18 rfl ?_
  refine PW.iload_n q_64_19 rfl ?_
  refine PW.cV (as := [_, _, _]) (rest := []) q_64_20 t_mv_64_157 hk_k0 IM5.1 (by decide) rfl (by decide) rfl rfl (Nat.le_of_ble_eq_true rfl) (Nat.le_of_ble_eq_true rfl) (by decide) (by decide) ?_
  refine PW.up (by decide) (c_X5_choice (V) (hV) G _ M5 IM5 k0 hk_k0 a1 k2 hk_k2 a3 (by omega) (by omega) fun x7 M6 IM6 GM6 => ?_)
  have FM6 := Fr.trans FM5 GM6 (rfl)
  refine PW.istore q_64_23 (by decide) ?_
  refine PW.aload_n q_64_25 rfl ?_
  refine PW.iload q_64_26 rfl ?_
  refine PW.iload q_64_28 rfl ?_
  refine PW.cV (as := [_, _]) (rest := []) q_64_30 t_mv_64_195 hk_k2 IM6.1 (by decide) rfl (by decide) rfl rfl (Nat.le_of_ble_eq_true rfl) (Nat.le_of_ble_eq_true rfl) (by decide) (by decide) ?_
  refine PW.up (by decide) (c_X0_remember (V) (hV) G _ M6 IM6 k2 hk_k2 x7 a4 fun M8 IM8 GM8 => ?_)
  have FM8 := Fr.trans FM6 GM8 (rfl)
  refine PW.iload q_64_33 rfl ?_
  refine PW.rI q_64_35 rfl (by decide) (by decide) ?_
  exact hK x7 M8 IM8 FM8
