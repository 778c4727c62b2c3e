theorem q_69_0 : p_tb 69 0 = some (.aload_n 0, 1) := by decide +kernel
theorem q_69_1 : p_tb 69 1 = some (.getstatic 87, 3) := by decide +kernel
theorem q_69_4 : p_tb 69 4 = some (.invokevirtual 39, 3) := by decide +kernel
theorem q_69_7 : p_tb 69 7 = some (.ifCond .ne 43, 3) := by decide +kernel
theorem q_69_10 : p_tb 69 10 = some (.aload_n 0, 1) := by decide +kernel
theorem q_69_11 : p_tb 69 11 = some (.getstatic 90, 3) := by decide +kernel
theorem q_69_14 : p_tb 69 14 = some (.invokevirtual 39, 3) := by decide +kernel
theorem q_69_17 : p_tb 69 17 = some (.ifCond .ne 33, 3) := by decide +kernel
theorem q_69_20 : p_tb 69 20 = some (.aload_n 0, 1) := by decide +kernel
theorem q_69_21 : p_tb 69 21 = some (.getstatic 93, 3) := by decide +kernel
theorem q_69_24 : p_tb 69 24 = some (.invokevirtual 39, 3) := by decide +kernel
theorem q_69_27 : p_tb 69 27 = some (.ifCond .ne 23, 3) := by decide +kernel
theorem q_69_30 : p_tb 69 30 = some (.aload_n 0, 1) := by decide +kernel
theorem q_69_31 : p_tb 69 31 = some (.getstatic 96, 3) := by decide +kernel
theorem q_69_34 : p_tb 69 34 = some (.invokevirtual 39, 3) := by decide +kernel
theorem q_69_37 : p_tb 69 37 = some (.ifCond .ne 13, 3) := by decide +kernel
theorem q_69_40 : p_tb 69 40 = some (.aload_n 0, 1) := by decide +kernel
theorem q_69_41 : p_tb 69 41 = some (.getstatic 99, 3) := by decide +kernel
theorem q_69_44 : p_tb 69 44 = some (.invokevirtual 39, 3) := by decide +kernel
theorem q_69_47 : p_tb 69 47 = some (.ifCond .eq 7, 3) := by decide +kernel
theorem q_69_50 : p_tb 69 50 = some (.iconst 1, 1) := by decide +kernel
theorem q_69_51 : p_tb 69 51 = some (.goto 4, 3) := by decide +kernel
theorem q_69_54 : p_tb 69 54 = some (.iconst 0, 1) := by decide +kernel
theorem q_69_55 : p_tb 69 55 = some (.ireturn, 1) := by decide +kernel
theorem t_mv_69_39 : p_f2 p_mv (p_mK 69) 39 = some 86 := by decide +kernel
theorem t_st_69_87 : p_f2 p_st (p_mK 69) 87 = some 11 := by decide +kernel
theorem t_st_69_90 : p_f2 p_st (p_mK 69) 90 = some 12 := by decide +kernel
theorem t_st_69_93 : p_f2 p_st (p_mK 69) 93 = some 13 := by decide +kernel
theorem t_st_69_96 : p_f2 p_st (p_mK 69) 96 = some 14 := by decide +kernel
theorem t_st_69_99 : p_f2 p_st (p_mK 69) 99 = some 15 := by decide +kernel
theorem q_66_0 : p_tb 66 0 = some (.aload_n 0, 1) := by decide +kernel
theorem q_66_1 : p_tb 66 1 = some (.iconst 0, 1) := by decide +kernel
theorem q_66_2 : p_tb 66 2 = some (.putfield 21, 3) := by decide +kernel
theorem q_66_5 : p_tb 66 5 = some (.aload_n 1, 1) := by decide +kernel
theorem q_66_6 : p_tb 66 6 = some (.sipush 400, 3) := by decide +kernel
theorem q_66_9 : p_tb 66 9 = some (.invokevirtual 25, 3) := by decide +kernel
theorem q_66_12 : p_tb 66 12 = some (.iconst 0, 1) := by decide +kernel
theorem q_66_13 : p_tb 66 13 = some (.istore_n 3, 1) := by decide +kernel
theorem q_66_14 : p_tb 66 14 = some (.iload_n 3, 1) := by decide +kernel
theorem q_66_15 : p_tb 66 15 = some (.bipush 40, 2) := by decide +kernel
theorem q_66_17 : p_tb 66 17 = some (.if_icmp .gt 68, 3) := by decide +kernel
theorem q_66_20 : p_tb 66 20 = some (.aload_n 1, 1) := by decide +kernel
theorem q_66_21 : p_tb 66 21 = some (.invokevirtual 31, 3) := by decide +kernel
theorem q_66_24 : p_tb 66 24 = some (.ifCond .ne 61, 3) := by decide +kernel
theorem q_66_27 : p_tb 66 27 = some (.aload_n 1, 1) := by decide +kernel
theorem q_66_28 : p_tb 66 28 = some (.getstatic 35, 3) := by decide +kernel
theorem q_66_31 : p_tb 66 31 = some (.invokevirtual 39, 3) := by decide +kernel
theorem q_66_34 : p_tb 66 34 = some (.ifCond .eq 11, 3) := by decide +kernel
theorem q_66_37 : p_tb 66 37 = some (.aload_n 0, 1) := by decide +kernel
theorem q_66_38 : p_tb 66 38 = some (.aload_n 1, 1) := by decide +kernel
theorem q_66_39 : p_tb 66 39 = some (.invokevirtual 43, 3) := by decide +kernel
theorem q_66_42 : p_tb 66 42 = some (.goto 9, 3) := by decide +kernel
theorem q_66_45 : p_tb 66 45 = some (.aload_n 0, 1) := by decide +kernel
theorem q_66_46 : p_tb 66 46 = some (.aload_n 1, 1) := by decide +kernel
theorem q_66_47 : p_tb 66 47 = some (.aload_n 2, 1) := by decide +kernel
theorem q_66_48 : p_tb 66 48 = some (.invokevirtual 47, 3) := by decide +kernel
theorem q_66_51 : p_tb 66 51 = some (.istore 4, 2) := by decide +kernel
theorem q_66_53 : p_tb 66 53 = some (.iload 4, 2) := by decide +kernel
theorem q_66_55 : p_tb 66 55 = some (.ifCond .eq 12, 3) := by decide +kernel
theorem q_66_58 : p_tb 66 58 = some (.aload_n 1, 1) := by decide +kernel
theorem q_66_59 : p_tb 66 59 = some (.bipush 59, 2) := by decide +kernel
theorem q_66_61 : p_tb 66 61 = some (.invokevirtual 51, 3) := by decide +kernel
theorem q_66_64 : p_tb 66 64 = some (.ifCond .ne 5, 3) := by decide +kernel
theorem q_66_67 : p_tb 66 67 = some (.iconst 0, 1) := by decide +kernel
theorem q_66_68 : p_tb 66 68 = some (.ireturn, 1) := by decide +kernel
theorem q_66_69 : p_tb 66 69 = some (.aload_n 0, 1) := by decide +kernel
theorem q_66_70 : p_tb 66 70 = some (.dup, 1) := by decide +kernel
theorem q_66_71 : p_tb 66 71 = some (.getfield 21, 3) := by decide +kernel
theorem q_66_74 : p_tb 66 74 = some (.iconst 1, 1) := by decide +kernel
theorem q_66_75 : p_tb 66 75 = some (.iadd, 1) := by decide +kernel
theorem q_66_76 : p_tb 66 76 = some (.putfield 21, 3) := by decide +kernel
theorem q_66_79 : p_tb 66 79 = some (.iinc 3 1, 3) := by decide +kernel
theorem q_66_82 : p_tb 66 82 = some (.goto (-68), 3) := by decide +kernel
theorem q_66_85 : p_tb 66 85 = some (.aload_n 1, 1) := by decide +kernel
theorem q_66_86 : p_tb 66 86 = some (.invokevirtual 55, 3) := by decide +kernel
theorem q_66_89 : p_tb 66 89 = some (.ireturn, 1) := by decide +kernel
theorem q_67_0 : p_tb 67 0 = some (.aload_n 0, 1) := by decide +kernel
theorem q_67_1 : p_tb 67 1 = some (.getfield 21, 3) := by decide +kernel
theorem q_67_4 : p_tb 67 4 = some (.bipush 40, 2) := by decide +kernel
theorem q_67_6 : p_tb 67 6 = some (.if_icmp .lt 9, 3) := by decide +kernel
theorem q_67_9 : p_tb 67 9 = some (.aload_n 1, 1) := by decide +kernel
theorem q_67_10 : p_tb 67 10 = some (.iconst 4, 1) := by decide +kernel
theorem q_67_11 : p_tb 67 11 = some (.invokevirtual 58, 3) := by decide +kernel
theorem q_67_14 : p_tb 67 14 = some (.ireturn, 1) := by decide +kernel
theorem q_67_15 : p_tb 67 15 = some (.aload_n 1, 1) := by decide +kernel
theorem q_67_16 : p_tb 67 16 = some (.invokevirtual 61, 3) := by decide +kernel
theorem q_67_19 : p_tb 67 19 = some (.aload_n 0, 1) := by decide +kernel
theorem q_67_20 : p_tb 67 20 = some (.getfield 11, 3) := by decide +kernel
theorem q_67_23 : p_tb 67 23 = some (.aload_n 0, 1) := by decide +kernel
theorem q_67_24 : p_tb 67 24 = some (.getfield 21, 3) := by decide +kernel
theorem q_67_27 : p_tb 67 27 = some (.getstatic 35, 3) := by decide +kernel
theorem q_67_30 : p_tb 67 30 = some (.aastore, 1) := by decide +kernel
theorem q_67_31 : p_tb 67 31 = some (.aload_n 0, 1) := by decide +kernel
theorem q_67_32 : p_tb 67 32 = some (.getfield 17, 3) := by decide +kernel
theorem q_67_35 : p_tb 67 35 = some (.aload_n 0, 1) := by decide +kernel
theorem q_67_36 : p_tb 67 36 = some (.getfield 21, 3) := by decide +kernel
theorem q_67_39 : p_tb 67 39 = some (.aload_n 1, 1) := by decide +kernel
theorem q_67_40 : p_tb 67 40 = some (.iconst 1, 1) := by decide +kernel
theorem q_67_41 : p_tb 67 41 = some (.bipush 60, 2) := by decide +kernel
theorem q_67_43 : p_tb 67 43 = some (.invokevirtual 64, 3) := by decide +kernel
theorem q_67_46 : p_tb 67 46 = some (.iastore, 1) := by decide +kernel
theorem q_67_47 : p_tb 67 47 = some (.aload_n 0, 1) := by decide +kernel
theorem q_67_48 : p_tb 67 48 = some (.getfield 17, 3) := by decide +kernel
theorem q_67_51 : p_tb 67 51 = some (.aload_n 0, 1) := by decide +kernel
theorem q_67_52 : p_tb 67 52 = some (.getfield 21, 3) := by decide +kernel
theorem q_67_55 : p_tb 67 55 = some (.iaload, 1) := by decide +kernel
theorem q_67_56 : p_tb 67 56 = some (.iconst (-1), 1) := by decide +kernel
theorem q_67_57 : p_tb 67 57 = some (.if_icmp .eq 7, 3) := by decide +kernel
theorem q_67_60 : p_tb 67 60 = some (.iconst 1, 1) := by decide +kernel
theorem q_67_61 : p_tb 67 61 = some (.goto 4, 3) := by decide +kernel
theorem q_67_64 : p_tb 67 64 = some (.iconst 0, 1) := by decide +kernel
theorem q_67_65 : p_tb 67 65 = some (.ireturn, 1) := by decide +kernel
theorem q_68_0 : p_tb 68 0 = some (.aload_n 1, 1) := by decide +kernel
theorem q_68_1 : p_tb 68 1 = some (.aload_n 2, 1) := by decide +kernel
theorem q_68_2 : p_tb 68 2 = some (.getfield 68, 3) := by decide +kernel
theorem q_68_5 : p_tb 68 5 = some (.aload_n 2, 1) := by decide +kernel
theorem q_68_6 : p_tb 68 6 = some (.getfield 74, 3) := by decide +kernel
theorem q_68_9 : p_tb 68 9 = some (.invokevirtual 77, 3) := by decide +kernel
theorem q_68_12 : p_tb 68 12 = some (.istore_n 3, 1) := by decide +kernel
theorem q_68_13 : p_tb 68 13 = some (.iload_n 3, 1) := by decide +kernel
theorem q_68_14 : p_tb 68 14 = some (.iconst (-1), 1) := by decide +kernel
theorem q_68_15 : p_tb 68 15 = some (.if_icmp .ne 5, 3) := by decide +kernel
theorem q_68_18 : p_tb 68 18 = some (.iconst 0, 1) := by decide +kernel
theorem q_68_19 : p_tb 68 19 = some (.ireturn, 1) := by decide +kernel
theorem q_68_20 : p_tb 68 20 = some (.aload_n 0, 1) := by decide +kernel
theorem q_68_21 : p_tb 68 21 = some (.getfield 21, 3) := by decide +kernel
theorem q_68_24 : p_tb 68 24 = some (.bipush 40, 2) := by decide +kernel
theorem q_68_26 : p_tb 68 26 = some (.if_icmp .lt 9, 3) := by decide +kernel
theorem q_68_29 : p_tb 68 29 = some (.aload_n 1, 1) := by decide +kernel
theorem q_68_30 : p_tb 68 30 = some (.iconst 4, 1) := by decide +kernel
theorem q_68_31 : p_tb 68 31 = some (.invokevirtual 58, 3) := by decide +kernel
theorem q_68_34 : p_tb 68 34 = some (.ireturn, 1) := by decide +kernel
theorem q_68_35 : p_tb 68 35 = some (.aload_n 1, 1) := by decide +kernel
theorem q_68_36 : p_tb 68 36 = some (.invokevirtual 61, 3) := by decide +kernel
theorem q_68_39 : p_tb 68 39 = some (.aload_n 1, 1) := by decide +kernel
theorem q_68_40 : p_tb 68 40 = some (.invokestatic 81, 3) := by decide +kernel
theorem q_68_43 : p_tb 68 43 = some (.ifCond .ne 9, 3) := by decide +kernel
theorem q_68_46 : p_tb 68 46 = some (.aload_n 1, 1) := by decide +kernel
theorem q_68_47 : p_tb 68 47 = some (.iconst 1, 1) := by decide +kernel
theorem q_68_48 : p_tb 68 48 = some (.invokevirtual 58, 3) := by decide +kernel
theorem q_68_51 : p_tb 68 51 = some (.ireturn, 1) := by decide +kernel
theorem q_68_52 : p_tb 68 52 = some (.aload_n 0, 1) := by decide +kernel
theorem q_68_53 : p_tb 68 53 = some (.getfield 11, 3) := by decide +kernel
theorem q_68_56 : p_tb 68 56 = some (.aload_n 0, 1) := by decide +kernel
theorem q_68_57 : p_tb 68 57 = some (.getfield 21, 3) := by decide +kernel
theorem q_68_60 : p_tb 68 60 = some (.aload_n 1, 1) := by decide +kernel
theorem q_68_61 : p_tb 68 61 = some (.getfield 84, 3) := by decide +kernel
theorem q_68_64 : p_tb 68 64 = some (.aastore, 1) := by decide +kernel
theorem q_68_65 : p_tb 68 65 = some (.aload_n 0, 1) := by decide +kernel
theorem q_68_66 : p_tb 68 66 = some (.getfield 17, 3) := by decide +kernel
theorem q_68_69 : p_tb 68 69 = some (.aload_n 0, 1) := by decide +kernel
theorem q_68_70 : p_tb 68 70 = some (.getfield 21, 3) := by decide +kernel
theorem q_68_73 : p_tb 68 73 = some (.iload_n 3, 1) := by decide +kernel
theorem q_68_74 : p_tb 68 74 = some (.iastore, 1) := by decide +kernel
theorem q_68_75 : p_tb 68 75 = some (.aload_n 1, 1) := by decide +kernel
theorem q_68_76 : p_tb 68 76 = some (.invokevirtual 61, 3) := by decide +kernel
theorem q_68_79 : p_tb 68 79 = some (.iconst 1, 1) := by decide +kernel
theorem q_68_80 : p_tb 68 80 = some (.ireturn, 1) := by decide +kernel
theorem t_fN_68_68 : p_f2 p_fN (p_mK 68) 68 = some (3, 8) := by decide +kernel
theorem t_fN_68_74 : p_f2 p_fN (p_mK 68) 74 = some (3, 6) := by decide +kernel
theorem t_fN_68_84 : p_f2 p_fN (p_mK 68) 84 = some (7, 6) := by decide +kernel
theorem t_ft_66_21 : p_f2 p_ft (p_mK 66) 21 = some (6, 0) := by decide +kernel
theorem t_ft_67_11 : p_f2 p_ft (p_mK 67) 11 = some (6, 1) := by decide +kernel
theorem t_ft_67_17 : p_f2 p_ft (p_mK 67) 17 = some (6, 2) := by decide +kernel
theorem t_ft_67_21 : p_f2 p_ft (p_mK 67) 21 = some (6, 0) := by decide +kernel
theorem t_ft_68_11 : p_f2 p_ft (p_mK 68) 11 = some (6, 1) := by decide +kernel
theorem t_ft_68_17 : p_f2 p_ft (p_mK 68) 17 = some (6, 2) := by decide +kernel
theorem t_ft_68_21 : p_f2 p_ft (p_mK 68) 21 = some (6, 0) := by decide +kernel
theorem t_ms_68_81 : p_f2 p_ms (p_mK 68) 81 = some 69 := by decide +kernel
theorem t_mv_66_25 : p_f2 p_mv (p_mK 66) 25 = some 76 := by decide +kernel
theorem t_mv_66_31 : p_f2 p_mv (p_mK 66) 31 = some 84 := by decide +kernel
theorem t_mv_66_39 : p_f2 p_mv (p_mK 66) 39 = some 86 := by decide +kernel
theorem t_mv_66_43 : p_f2 p_mv (p_mK 66) 43 = some 67 := by decide +kernel
theorem t_mv_66_47 : p_f2 p_mv (p_mK 66) 47 = some 68 := by decide +kernel
theorem t_mv_66_51 : p_f2 p_mv (p_mK 66) 51 = some 89 := by decide +kernel
theorem t_mv_66_55 : p_f2 p_mv (p_mK 66) 55 = some 85 := by decide +kernel
theorem t_mv_67_58 : p_f2 p_mv (p_mK 67) 58 = some 83 := by decide +kernel
theorem t_mv_67_61 : p_f2 p_mv (p_mK 67) 61 = some 77 := by decide +kernel
theorem t_mv_67_64 : p_f2 p_mv (p_mK 67) 64 = some 90 := by decide +kernel
theorem t_mv_68_58 : p_f2 p_mv (p_mK 68) 58 = some 83 := by decide +kernel
theorem t_mv_68_61 : p_f2 p_mv (p_mK 68) 61 = some 77 := by decide +kernel
theorem t_mv_68_77 : p_f2 p_mv (p_mK 68) 77 = some 91 := by decide +kernel
theorem t_st_66_35 : p_f2 p_st (p_mK 66) 35 = some 16 := by decide +kernel
theorem t_st_67_35 : p_f2 p_st (p_mK 67) 35 = some 16 := by decide +kernel
theorem q_71_0 : p_tb 71 0 = some (.aload_n 0, 1) := by decide +kernel
theorem q_71_1 : p_tb 71 1 = some (.getfield 11, 3) := by decide +kernel
theorem q_71_4 : p_tb 71 4 = some (.iload_n 1, 1) := by decide +kernel
theorem q_71_5 : p_tb 71 5 = some (.aaload, 1) := by decide +kernel
theorem q_71_6 : p_tb 71 6 = some (.getstatic 35, 3) := by decide +kernel
theorem q_71_9 : p_tb 71 9 = some (.if_acmp .ne 51, 3) := by decide +kernel
theorem q_71_12 : p_tb 71 12 = some (.aload_n 0, 1) := by decide +kernel
theorem q_71_13 : p_tb 71 13 = some (.getfield 17, 3) := by decide +kernel
theorem q_71_16 : p_tb 71 16 = some (.iload_n 1, 1) := by decide +kernel
theorem q_71_17 : p_tb 71 17 = some (.iaload, 1) := by decide +kernel
theorem q_71_18 : p_tb 71 18 = some (.sipush 600, 3) := by decide +kernel
theorem q_71_21 : p_tb 71 21 = some (.aload_n 3, 1) := by decide +kernel
theorem q_71_22 : p_tb 71 22 = some (.getfield 122, 3) := by decide +kernel
theorem q_71_25 : p_tb 71 25 = some (.isub, 1) := by decide +kernel
theorem q_71_26 : p_tb 71 26 = some (.if_icmp .le 6, 3) := by decide +kernel
theorem q_71_29 : p_tb 71 29 = some (.bipush 41, 2) := by decide +kernel
theorem q_71_31 : p_tb 71 31 = some (.ireturn, 1) := by decide +kernel
theorem q_71_32 : p_tb 71 32 = some (.iconst 0, 1) := by decide +kernel
theorem q_71_33 : p_tb 71 33 = some (.istore 4, 2) := by decide +kernel
theorem q_71_35 : p_tb 71 35 = some (.iload 4, 2) := by decide +kernel
theorem q_71_37 : p_tb 71 37 = some (.aload_n 0, 1) := by decide +kernel
theorem q_71_38 : p_tb 71 38 = some (.getfield 17, 3) := by decide +kernel
theorem q_71_41 : p_tb 71 41 = some (.iload_n 1, 1) := by decide +kernel
theorem q_71_42 : p_tb 71 42 = some (.iaload, 1) := by decide +kernel
theorem q_71_43 : p_tb 71 43 = some (.if_icmp .ge 15, 3) := by decide +kernel
theorem q_71_46 : p_tb 71 46 = some (.aload_n 3, 1) := by decide +kernel
theorem q_71_47 : p_tb 71 47 = some (.aload_n 2, 1) := by decide +kernel
theorem q_71_48 : p_tb 71 48 = some (.invokevirtual 131, 3) := by decide +kernel
theorem q_71_51 : p_tb 71 51 = some (.pop, 1) := by decide +kernel
theorem q_71_52 : p_tb 71 52 = some (.iinc 4 1, 3) := by decide +kernel
theorem q_71_55 : p_tb 71 55 = some (.goto (-20), 3) := by decide +kernel
theorem q_71_58 : p_tb 71 58 = some (.iconst 0, 1) := by decide +kernel
theorem q_71_59 : p_tb 71 59 = some (.ireturn, 1) := by decide +kernel
theorem q_71_60 : p_tb 71 60 = some (.aload_n 3, 1) := by decide +kernel
theorem q_71_61 : p_tb 71 61 = some (.aload_n 0, 1) := by decide +kernel
theorem q_71_62 : p_tb 71 62 = some (.getfield 11, 3) := by decide +kernel
theorem q_71_65 : p_tb 71 65 = some (.iload_n 1, 1) := by decide +kernel
theorem q_71_66 : p_tb 71 66 = some (.aaload, 1) := by decide +kernel
theorem q_71_67 : p_tb 71 67 = some (.aload_n 0, 1) := by decide +kernel
theorem q_71_68 : p_tb 71 68 = some (.getfield 17, 3) := by decide +kernel
theorem q_71_71 : p_tb 71 71 = some (.iload_n 1, 1) := by decide +kernel
theorem q_71_72 : p_tb 71 72 = some (.iaload, 1) := by decide +kernel
theorem q_71_73 : p_tb 71 73 = some (.invokevirtual 135, 3) := by decide +kernel
theorem q_71_76 : p_tb 71 76 = some (.istore 4, 2) := by decide +kernel
theorem q_71_78 : p_tb 71 78 = some (.iload 4, 2) := by decide +kernel
theorem q_71_80 : p_tb 71 80 = some (.ifCond .ne 21, 3) := by decide +kernel
theorem q_71_83 : p_tb 71 83 = some (.aload_n 3, 1) := by decide +kernel
theorem q_71_84 : p_tb 71 84 = some (.aload_n 0, 1) := by decide +kernel
theorem q_71_85 : p_tb 71 85 = some (.getfield 11, 3) := by decide +kernel
theorem q_71_88 : p_tb 71 88 = some (.iload_n 1, 1) := by decide +kernel
theorem q_71_89 : p_tb 71 89 = some (.aaload, 1) := by decide +kernel
theorem q_71_90 : p_tb 71 90 = some (.aload_n 0, 1) := by decide +kernel
theorem q_71_91 : p_tb 71 91 = some (.getfield 17, 3) := by decide +kernel
theorem q_71_94 : p_tb 71 94 = some (.iload_n 1, 1) := by decide +kernel
theorem q_71_95 : p_tb 71 95 = some (.iaload, 1) := by decide +kernel
theorem q_71_96 : p_tb 71 96 = some (.invokevirtual 139, 3) := by decide +kernel
theorem q_71_99 : p_tb 71 99 = some (.iconst 0, 1) := by decide +kernel
theorem q_71_100 : p_tb 71 100 = some (.ireturn, 1) := by decide +kernel
theorem q_71_101 : p_tb 71 101 = some (.aload_n 0, 1) := by decide +kernel
theorem q_71_102 : p_tb 71 102 = some (.getfield 11, 3) := by decide +kernel
theorem q_71_105 : p_tb 71 105 = some (.iload_n 1, 1) := by decide +kernel
theorem q_71_106 : p_tb 71 106 = some (.aaload, 1) := by decide +kernel
theorem q_71_107 : p_tb 71 107 = some (.getstatic 87, 3) := by decide +kernel
theorem q_71_110 : p_tb 71 110 = some (.if_acmp .ne 6, 3) := by decide +kernel
theorem q_71_113 : p_tb 71 113 = some (.iload 4, 2) := by decide +kernel
theorem q_71_115 : p_tb 71 115 = some (.ireturn, 1) := by decide +kernel
theorem q_71_116 : p_tb 71 116 = some (.iload 4, 2) := by decide +kernel
theorem q_71_118 : p_tb 71 118 = some (.aload_n 0, 1) := by decide +kernel
theorem q_71_119 : p_tb 71 119 = some (.getfield 11, 3) := by decide +kernel
theorem q_71_122 : p_tb 71 122 = some (.iload_n 1, 1) := by decide +kernel
theorem q_71_123 : p_tb 71 123 = some (.aaload, 1) := by decide +kernel
theorem q_71_124 : p_tb 71 124 = some (.getstatic 90, 3) := by decide +kernel
theorem q_71_127 : p_tb 71 127 = some (.if_acmp .ne 8, 3) := by decide +kernel
theorem q_71_130 : p_tb 71 130 = some (.bipush 10, 2) := by decide +kernel
theorem q_71_132 : p_tb 71 132 = some (.goto 5, 3) := by decide +kernel
theorem q_71_135 : p_tb 71 135 = some (.bipush 20, 2) := by decide +kernel
theorem q_71_137 : p_tb 71 137 = some (.iadd, 1) := by decide +kernel
theorem q_71_138 : p_tb 71 138 = some (.ireturn, 1) := by decide +kernel
theorem t_fN_71_122 : p_f2 p_fN (p_mK 71) 122 = some (5, 0) := by decide +kernel
theorem t_ft_71_11 : p_f2 p_ft (p_mK 71) 11 = some (6, 1) := by decide +kernel
theorem t_ft_71_17 : p_f2 p_ft (p_mK 71) 17 = some (6, 2) := by decide +kernel
theorem t_mv_71_131 : p_f2 p_mv (p_mK 71) 131 = some 56 := by decide +kernel
theorem t_mv_71_135 : p_f2 p_mv (p_mK 71) 135 = some 54 := by decide +kernel
theorem t_mv_71_139 : p_f2 p_mv (p_mK 71) 139 = some 55 := by decide +kernel
theorem t_st_71_35 : p_f2 p_st (p_mK 71) 35 = some 16 := by decide +kernel
theorem t_st_71_87 : p_f2 p_st (p_mK 71) 87 = some 11 := by decide +kernel
theorem t_st_71_90 : p_f2 p_st (p_mK 71) 90 = some 12 := by decide +kernel
theorem q_70_0 : p_tb 70 0 = some (.aload_n 2, 1) := by decide +kernel
theorem q_70_1 : p_tb 70 1 = some (.invokevirtual 102, 3) := by decide +kernel
theorem q_70_4 : p_tb 70 4 = some (.istore_n 3, 1) := by decide +kernel
theorem q_70_5 : p_tb 70 5 = some (.aload_n 0, 1) := by decide +kernel
theorem q_70_6 : p_tb 70 6 = some (.iconst 0, 1) := by decide +kernel
theorem q_70_7 : p_tb 70 7 = some (.putfield 108, 3) := by decide +kernel
theorem q_70_10 : p_tb 70 10 = some (.aload_n 0, 1) := by decide +kernel
theorem q_70_11 : p_tb 70 11 = some (.iconst 0, 1) := by decide +kernel
theorem q_70_12 : p_tb 70 12 = some (.putfield 111, 3) := by decide +kernel
theorem q_70_15 : p_tb 70 15 = some (.iconst 0, 1) := by decide +kernel
theorem q_70_16 : p_tb 70 16 = some (.istore 4, 2) := by decide +kernel
theorem q_70_18 : p_tb 70 18 = some (.iload 4, 2) := by decide +kernel
theorem q_70_20 : p_tb 70 20 = some (.aload_n 0, 1) := by decide +kernel
theorem q_70_21 : p_tb 70 21 = some (.getfield 21, 3) := by decide +kernel
theorem q_70_24 : p_tb 70 24 = some (.if_icmp .ge 45, 3) := by decide +kernel
theorem q_70_27 : p_tb 70 27 = some (.aload_n 0, 1) := by decide +kernel
theorem q_70_28 : p_tb 70 28 = some (.getfield 108, 3) := by decide +kernel
theorem q_70_31 : p_tb 70 31 = some (.ifCond .ne 38, 3) := by decide +kernel
theorem q_70_34 : p_tb 70 34 = some (.aload_n 0, 1) := by decide +kernel
theorem q_70_35 : p_tb 70 35 = some (.aload_n 0, 1) := by decide +kernel
theorem q_70_36 : p_tb 70 36 = some (.iload 4, 2) := by decide +kernel
theorem q_70_38 : p_tb 70 38 = some (.aload_n 1, 1) := by decide +kernel
theorem q_70_39 : p_tb 70 39 = some (.aload_n 2, 1) := by decide +kernel
theorem q_70_40 : p_tb 70 40 = some (.invokevirtual 114, 3) := by decide +kernel
theorem q_70_43 : p_tb 70 43 = some (.putfield 108, 3) := by decide +kernel
theorem q_70_46 : p_tb 70 46 = some (.aload_n 0, 1) := by decide +kernel
theorem q_70_47 : p_tb 70 47 = some (.getfield 108, 3) := by decide +kernel
theorem q_70_50 : p_tb 70 50 = some (.ifCond .ne 13, 3) := by decide +kernel
theorem q_70_53 : p_tb 70 53 = some (.aload_n 0, 1) := by decide +kernel
theorem q_70_54 : p_tb 70 54 = some (.dup, 1) := by decide +kernel
theorem q_70_55 : p_tb 70 55 = some (.getfield 111, 3) := by decide +kernel
theorem q_70_58 : p_tb 70 58 = some (.iconst 1, 1) := by decide +kernel
theorem q_70_59 : p_tb 70 59 = some (.iadd, 1) := by decide +kernel
theorem q_70_60 : p_tb 70 60 = some (.putfield 111, 3) := by decide +kernel
theorem q_70_63 : p_tb 70 63 = some (.iinc 4 1, 3) := by decide +kernel
theorem q_70_66 : p_tb 70 66 = some (.goto (-48), 3) := by decide +kernel
theorem q_70_69 : p_tb 70 69 = some (.aload_n 0, 1) := by decide +kernel
theorem q_70_70 : p_tb 70 70 = some (.iconst 1, 1) := by decide +kernel
theorem q_70_71 : p_tb 70 71 = some (.putfield 118, 3) := by decide +kernel
theorem q_70_74 : p_tb 70 74 = some (.aload_n 0, 1) := by decide +kernel
theorem q_70_75 : p_tb 70 75 = some (.aload_n 2, 1) := by decide +kernel
theorem q_70_76 : p_tb 70 76 = some (.getfield 122, 3) := by decide +kernel
theorem q_70_79 : p_tb 70 79 = some (.putfield 125, 3) := by decide +kernel
theorem q_70_82 : p_tb 70 82 = some (.aload_n 0, 1) := by decide +kernel
theorem q_70_83 : p_tb 70 83 = some (.aload_n 2, 1) := by decide +kernel
theorem q_70_84 : p_tb 70 84 = some (.invokevirtual 102, 3) := by decide +kernel
theorem q_70_87 : p_tb 70 87 = some (.iload_n 3, 1) := by decide +kernel
theorem q_70_88 : p_tb 70 88 = some (.isub, 1) := by decide +kernel
theorem q_70_89 : p_tb 70 89 = some (.putfield 128, 3) := by decide +kernel
theorem q_70_92 : p_tb 70 92 = some (.aload_n 0, 1) := by decide +kernel
theorem q_70_93 : p_tb 70 93 = some (.getfield 108, 3) := by decide +kernel
theorem q_70_96 : p_tb 70 96 = some (.ifCond .ne 7, 3) := by decide +kernel
theorem q_70_99 : p_tb 70 99 = some (.iconst (-1), 1) := by decide +kernel
theorem q_70_100 : p_tb 70 100 = some (.goto 7, 3) := by decide +kernel
theorem q_70_103 : p_tb 70 103 = some (.aload_n 0, 1) := by decide +kernel
theorem q_70_104 : p_tb 70 104 = some (.getfield 111, 3) := by decide +kernel
theorem q_70_107 : p_tb 70 107 = some (.ireturn, 1) := by decide +kernel
theorem t_fN_70_122 : p_f2 p_fN (p_mK 70) 122 = some (5, 0) := by decide +kernel
theorem t_ft_70_108 : p_f2 p_ft (p_mK 70) 108 = some (6, 4) := by decide +kernel
theorem t_ft_70_111 : p_f2 p_ft (p_mK 70) 111 = some (6, 5) := by decide +kernel
theorem t_ft_70_118 : p_f2 p_ft (p_mK 70) 118 = some (6, 3) := by decide +kernel
theorem t_ft_70_125 : p_f2 p_ft (p_mK 70) 125 = some (6, 6) := by decide +kernel
theorem t_ft_70_128 : p_f2 p_ft (p_mK 70) 128 = some (6, 7) := by decide +kernel
theorem t_ft_70_21 : p_f2 p_ft (p_mK 70) 21 = some (6, 0) := by decide +kernel
theorem t_mv_70_102 : p_f2 p_mv (p_mK 70) 102 = some 52 := by decide +kernel
theorem t_mv_70_114 : p_f2 p_mv (p_mK 70) 114 = some 71 := by decide +kernel
/-- each line of a log is a second's, or tells a walker -/
def gS6 (G : pG) (M : pM) : Prop := ∀ i : Nat, (i : Int) < o_i (M 272) 0 → ∃ r, r < 28 ∧ o_r (M 273) i = some (65536 + r) ∧ (G.2.1 r = G.2.1 16 ∨ (0 ≤ (o_a (M 274) i).toInt ∧ (o_a (M 274) i).toInt ≤ 5))
def gT6 (G : pG) (M : pM) : Prop := gTT M ∧ gS6 G M
theorem gS6.w {G : pG} {M M1 : pM} {q : Nat} (h : gS6 G M) (e : M1 272 = M 272) (e1 : ∀ z, z ≠ q → o_r (M1 273) z = o_r (M 273) z) (e2 : ∀ z, z ≠ q → o_a (M1 274) z = o_a (M 274) z) (hq : o_i (M 272) 0 ≤ (q : Int)) : gS6 G M1 := fun i hi => by
  rw [e] at hi
  rw [e1 i (by omega), e2 i (by omega)]
  exact h i hi
theorem gS6.inc {G : pG} {M M1 : pM} {z d : Int32} (h : gS6 G M) (U : gU M M1 272 0) (f : o_f (M1 272) 0 = .int z) (hd : o_i (M 272) 0 = d.toInt) (hz : z.toInt = d.toInt + 1) (h0 : 0 ≤ d.toInt) (he : ∃ r, r < 28 ∧ o_r (M 273) d.toInt.toNat = some (65536 + r) ∧ (G.2.1 r = G.2.1 16 ∨ (0 ≤ (o_a (M 274) d.toInt.toNat).toInt ∧ (o_a (M 274) d.toInt.toNat).toInt ≤ 5))) : gS6 G M1 := fun i hi => by
  rw [o_i_of f] at hi
  rw [U.1 273 (by decide), U.1 274 (by decide)]
  by_cases e : i = d.toInt.toNat
  · rw [e]; exact he
  · exact h i (by omega)
theorem gS6.same {G : pG} {M M1 : pM} (h : gS6 G M) (e : M1 272 = M 272) (e1 : M1 273 = M 273) (e2 : M1 274 = M 274) : gS6 G M1 := fun i hi => by
  rw [e] at hi
  rw [e1, e2]
  exact h i hi
theorem Stab6 (G : pG) : Stab (gT6 G) := by
  refine ⟨fun M M1 a i K h U hk hs hs2 => ⟨Stab0.1 M M1 a i K h.1 U hk hs hs2, fun z hz => ?_⟩, fun M M1 a K h U hk hs hs2 => ⟨Stab0.2.1 M M1 a K h.1 U hk hs hs2, h.2.same (U 272 fun e => hs (by rw [← hk, ← e, kd_272]; rfl)) (U 273 fun e => by subst e; rw [kd_273] at hk; subst hk; cases hs2) (U 274 fun e => by subst e; rw [kd_274] at hk; subst hk; cases hs2)⟩, fun M M1 q h U hn => ⟨Stab0.2.2 M M1 q h.1 U hn, h.2.same (U.1 272 (by decide)) (U.1 273 (by decide)) (U.1 274 (by decide))⟩⟩
  have e1 : M1 273 = M 273 := U.1 273 fun e => by subst e; rw [kd_273] at hk; subst hk; cases hs2
  have e2 : M1 274 = M 274 := U.1 274 fun e => by subst e; rw [kd_274] at hk; subst hk; cases hs2
  rw [U.i (by
    by_cases e : 272 = a
    · refine Or.inr fun e3 => ?_
      subst e; subst e3; rw [kd_272] at hk; subst hk; cases hs
    · exact Or.inl e)] at hz
  rw [e1, e2]
  exact h.2 z hz
theorem c_X6_seesDeed (V : pM → Prop) (hV : Stab V) (G : pG) (Kr : pK) (M : pM) (I : Iv V M)  (hK : ∀ (x : Int32) (M1 : pM), Iv V M1 → Fr [] M M1 → 0 ≤ x.toInt → x.toInt ≤ 1 → Kr.1 (some (.int x)) 311 M1) : PW G false 1 69 (p_mc 69) (p_msl 69) Kr 0 (lv_args 0 [.ref 1]) [] 311 M 0 0 := by
  have F : Fr [] M M := Fr.refl
  refine PW.aload_n q_69_0 rfl ?_
  refine PW.gets q_69_1 t_st_69_87 ?_
  refine PW.cV (as := [_]) (rest := []) q_69_4 t_mv_69_39 kd_1 I.1 (by decide) rfl (by decide) rfl rfl (Nat.le_of_ble_eq_true rfl) (Nat.le_of_ble_eq_true rfl) (by decide) (by decide) ?_
  refine PW.up (by decide) (c_X7_sees (V) (hV) G _ M I 11 (by decide) fun x2 M1 IM1 GM1 hx2 kx2 => ?_)
  have FM1 := Fr.trans F GM1 (rfl)
  refine PW.jz_ne q_69_7 rfl (fun h3 => ?_) (fun h3 => ?_)
  · skip
    refine PW.cI q_69_50 (by decide) fun c4 hc4 => ?_
    refine PW.goto q_69_51 rfl ?_
    refine PW.rZ q_69_55 rfl (by omega) (by omega) (by decide) (by decide) ?_
    exact hK c4 M1 IM1 FM1 (by omega) (by omega)
  · skip
    refine PW.aload_n q_69_10 rfl ?_
    refine PW.gets q_69_11 t_st_69_90 ?_
    refine PW.cV (as := [_]) (rest := []) q_69_14 t_mv_69_39 kd_1 IM1.1 (by decide) rfl (by decide) rfl rfl (Nat.le_of_ble_eq_true rfl) (Nat.le_of_ble_eq_true rfl) (by decide) (by decide) ?_
    refine PW.up (by decide) (c_X7_sees (V) (hV) G _ M1 IM1 12 (by decide) fun x6 M5 IM5 GM5 hx6 kx6 => ?_)
    have FM5 := Fr.trans FM1 GM5 (rfl)
    refine PW.jz_ne q_69_17 rfl (fun h7 => ?_) (fun h7 => ?_)
    · skip
      refine PW.cI q_69_50 (by decide) fun c8 hc8 => ?_
      refine PW.goto q_69_51 rfl ?_
      refine PW.rZ q_69_55 rfl (by omega) (by omega) (by decide) (by decide) ?_
      exact hK c8 M5 IM5 FM5 (by omega) (by omega)
    · skip
      refine PW.aload_n q_69_20 rfl ?_
      refine PW.gets q_69_21 t_st_69_93 ?_
      refine PW.cV (as := [_]) (rest := []) q_69_24 t_mv_69_39 kd_1 IM5.1 (by decide) rfl (by decide) rfl rfl (Nat.le_of_ble_eq_true rfl) (Nat.le_of_ble_eq_true rfl) (by decide) (by decide) ?_
      refine PW.up (by decide) (c_X7_sees (V) (hV) G _ M5 IM5 13 (by decide) fun x10 M9 IM9 GM9 hx10 kx10 => ?_)
      have FM9 := Fr.trans FM5 GM9 (rfl)
      refine PW.jz_ne q_69_27 rfl (fun h11 => ?_) (fun h11 => ?_)
      · skip
        refine PW.cI q_69_50 (by decide) fun c12 hc12 => ?_
        refine PW.goto q_69_51 rfl ?_
        refine PW.rZ q_69_55 rfl (by omega) (by omega) (by decide) (by decide) ?_
        exact hK c12 M9 IM9 FM9 (by omega) (by omega)
      · skip
        refine PW.aload_n q_69_30 rfl ?_
        refine PW.gets q_69_31 t_st_69_96 ?_
        refine PW.cV (as := [_]) (rest := []) q_69_34 t_mv_69_39 kd_1 IM9.1 (by decide) rfl (by decide) rfl rfl (Nat.le_of_ble_eq_true rfl) (Nat.le_of_ble_eq_true rfl) (by decide) (by decide) ?_
        refine PW.up (by decide) (c_X7_sees (V) (hV) G _ M9 IM9 14 (by decide) fun x14 M13 IM13 GM13 hx14 kx14 => ?_)
        have FM13 := Fr.trans FM9 GM13 (rfl)
        refine PW.jz_ne q_69_37 rfl (fun h15 => ?_) (fun h15 => ?_)
        · skip
          refine PW.cI q_69_50 (by decide) fun c16 hc16 => ?_
          refine PW.goto q_69_51 rfl ?_
          refine PW.rZ q_69_55 rfl (by omega) (by omega) (by decide) (by decide) ?_
          exact hK c16 M13 IM13 FM13 (by omega) (by omega)
        · skip
          refine PW.aload_n q_69_40 rfl ?_
          refine PW.gets q_69_41 t_st_69_99 ?_
          refine PW.cV (as := [_]) (rest := []) q_69_44 t_mv_69_39 kd_1 IM13.1 (by decide) rfl (by decide) rfl rfl (Nat.le_of_ble_eq_true rfl) (Nat.le_of_ble_eq_true rfl) (by decide) (by decide) ?_
          refine PW.up (by decide) (c_X7_sees (V) (hV) G _ M13 IM13 15 (by decide) fun x18 M17 IM17 GM17 hx18 kx18 => ?_)
          have FM17 := Fr.trans FM13 GM17 (rfl)
          refine PW.jz_eq q_69_47 rfl (fun h19 => ?_) (fun h19 => ?_)
          · skip
            refine PW.cI q_69_54 (by decide) fun c20 hc20 => ?_
            refine PW.rZ q_69_55 rfl (by omega) (by omega) (by decide) (by decide) ?_
            exact hK c20 M17 IM17 FM17 (by omega) (by omega)
          · skip
            refine PW.cI q_69_50 (by decide) fun c21 hc21 => ?_
            refine PW.goto q_69_51 rfl ?_
            refine PW.rZ q_69_55 rfl (by omega) (by omega) (by decide) (by decide) ?_
            exact hK c21 M17 IM17 FM17 (by omega) (by omega)
theorem c_X6_read (G : pG) (Kr : pK) (M : pM) (I : Iv gTT M) (k2 : Nat) (hk_k2 : g_kd k2 = 4) (hK : ∀ (x : Int32) (M1 : pM), Iv (gT6 G) M1 → Fr [1, 23, 24, 25] M M1 → 0 ≤ x.toInt → x.toInt ≤ 1 → Kr.1 (some (.int x)) 311 M1) : PW G false 5 66 (p_mc 66) (p_msl 66) Kr 0 (lv_args 0 [.ref 272, .ref 1, .ref k2]) [] 311 M 0 0 := by
  have F : Fr [1, 23, 24, 25] M M := Fr.refl
  refine PW.aload_n q_66_0 rfl ?_
  refine PW.cI q_66_1 (by decide) fun c1 hc1 => ?_
  refine PW.pT q_66_2 (Or.inl t_ft_66_21) gF_23_0 gP_23_0 kd_272 I (by decide) rfl (by omega) (by omega) fun M2 IM2 fM2 UM2 => ?_
  have FM2 := Fr.pu F UM2.1 kd_272 (rfl : List.contains [1, 23, 24, 25] 23 = true)
  have L3 : Iv (gT6 G) M2 := ⟨IM2.1, IM2.2, fun i hi => by rw [o_i_of fM2] at hi; omega⟩
  refine PW.aload_n q_66_5 rfl ?_
  refine PW.cS q_66_6 (by decide) fun c4 hc4 => ?_
  refine PW.cV (as := [_]) (rest := []) q_66_9 t_mv_66_25 kd_1 L3.1 (by decide) rfl (by decide) rfl rfl (Nat.le_of_ble_eq_true rfl) (Nat.le_of_ble_eq_true rfl) (by decide) (by decide) ?_
  refine PW.up (by decide) (c_X7_startText (gT6 G) ((Stab6 G)) G _ M2 L3 c4 fun M5 IM5 GM5 => ?_)
  have FM5 := Fr.trans FM2 GM5 (rfl)
  refine PW.cI q_66_12 (by decide) fun c6 hc6 => ?_
  refine PW.istore_n q_66_13 (by decide) ?_
  have L66_14_7 : ∀ (n : Nat) (ML66_14_7 : pM) (v8 : Int32), Iv (gT6 G) ML66_14_7 → Fr [1, 23, 24, 25] M ML66_14_7 → 0 ≤ v8.toInt → v8.toInt ≤ 41 → (41 - v8.toInt).toNat = n → PW G false 5 66 (p_mc 66) (p_msl 66) Kr 14 [(0, .ref 272), (1, .ref 1), (2, .ref k2), (3, .int v8)] [] 311 ML66_14_7 0 0 := by
    intro n
    induction n using Nat.strongRecOn with
    | ind n ih_L66_14_7 =>
    intro ML66_14_7 v8 IML66_14_7 FML66_14_7 hbL66_14_70 hbL66_14_71 hmL66_14_7
    refine PW.iload_n q_66_14 rfl ?_
    refine PW.cB q_66_15 (by decide) fun c9 hc9 => ?_
    refine PW.jc_gt q_66_17 rfl (fun h10 => ?_) (fun h10 => ?_)
    · skip
      refine PW.aload_n q_66_85 rfl ?_
      refine PW.cV (as := []) (rest := []) q_66_86 t_mv_66_55 kd_1 IML66_14_7.1 (by decide) rfl (by decide) rfl rfl (Nat.le_of_ble_eq_true rfl) (Nat.le_of_ble_eq_true rfl) (by decide) (by decide) ?_
      refine PW.up (by decide) (c_X7_closes (gT6 G) ((Stab6 G)) G _ ML66_14_7 IML66_14_7  fun x12 M11 IM11 GM11 hx12 kx12 => ?_)
      have FM11 := Fr.trans FML66_14_7 GM11 (rfl)
      refine PW.rZ q_66_89 rfl (by omega) (by omega) (by decide) (by decide) ?_
      exact hK x12 M11 IM11 FM11 (by omega) (by omega)
    · skip
      refine PW.aload_n q_66_20 rfl ?_
      refine PW.cV (as := []) (rest := []) q_66_21 t_mv_66_31 kd_1 IML66_14_7.1 (by decide) rfl (by decide) rfl rfl (Nat.le_of_ble_eq_true rfl) (Nat.le_of_ble_eq_true rfl) (by decide) (by decide) ?_
      refine PW.up (by decide) (c_X7_atEnd (gT6 G) ((Stab6 G)) G _ ML66_14_7 IML66_14_7  fun x14 M13 IM13 GM13 hx14 kx14 => ?_)
      have FM13 := Fr.trans FML66_14_7 GM13 (rfl)
      refine PW.jz_ne q_66_24 rfl (fun h15 => ?_) (fun h15 => ?_)
      · skip
        refine PW.aload_n q_66_85 rfl ?_
        refine PW.cV (as := []) (rest := []) q_66_86 t_mv_66_55 kd_1 IM13.1 (by decide) rfl (by decide) rfl rfl (Nat.le_of_ble_eq_true rfl) (Nat.le_of_ble_eq_true rfl) (by decide) (by decide) ?_
        refine PW.up (by decide) (c_X7_closes (gT6 G) ((Stab6 G)) G _ M13 IM13  fun x17 M16 IM16 GM16 hx17 kx17 => ?_)
        have FM16 := Fr.trans FM13 GM16 (rfl)
        refine PW.rZ q_66_89 rfl (by omega) (by omega) (by decide) (by decide) ?_
        exact hK x17 M16 IM16 FM16 (by omega) (by omega)
      · skip
        refine PW.aload_n q_66_27 rfl ?_
        refine PW.gets q_66_28 t_st_66_35 ?_
        refine PW.cV (as := [_]) (rest := []) q_66_31 t_mv_66_39 kd_1 IM13.1 (by decide) rfl (by decide) rfl rfl (Nat.le_of_ble_eq_true rfl) (Nat.le_of_ble_eq_true rfl) (by decide) (by decide) ?_
        refine PW.up (by decide) (c_X7_sees (gT6 G) ((Stab6 G)) G _ M13 IM13 16 (by decide) fun x19 M18 IM18 GM18 hx19 kx19 => ?_)
        have FM18 := Fr.trans FM13 GM18 (rfl)
        refine PW.jz_eq q_66_34 rfl (fun h20 => ?_) (fun h20 => ?_)
        · skip
          refine PW.aload_n q_66_45 rfl ?_
          refine PW.aload_n q_66_46 rfl ?_
          refine PW.aload_n q_66_47 rfl ?_
          refine PW.cV (as := [_, _]) (rest := []) q_66_48 t_mv_66_47 kd_272 IM18.1 (by decide) rfl (by decide) rfl rfl (Nat.le_of_ble_eq_true rfl) (Nat.le_of_ble_eq_true rfl) (by decide) (by decide) ?_
          refine PW.aload_n q_68_0 rfl ?_
          refine PW.aload_n q_68_1 rfl ?_
          refine PW.gRk q_68_2 (Or.inr t_fN_68_68) gF_4_8 hk_k2 IM18.1 (by decide) fun b21 hk_b21 e_b21 => ?_
          refine PW.aload_n q_68_5 rfl ?_
          refine PW.gI q_68_6 (Or.inr t_fN_68_74) gF_4_6 hk_k2 IM18.1 (by decide) fun x22 fx22 hx22 kx22 => ?_
          refine PW.cV (as := [_, _]) (rest := []) q_68_9 t_mv_68_77 kd_1 IM18.1 (by decide) rfl (by decide) rfl rfl (Nat.le_of_ble_eq_true rfl) (Nat.le_of_ble_eq_true rfl) (by decide) (by decide) ?_
          refine PW.up (by decide) (c_X7_needsKnown (gT6 G) ((Stab6 G)) G _ M18 IM18 b21 hk_b21 x22 fun x24 M23 IM23 GM23 hx24 kx24 => ?_)
          have FM23 := Fr.trans FM18 GM23 (rfl)
          refine PW.istore_n q_68_12 (by decide) ?_
          refine PW.iload_n q_68_13 rfl ?_
          refine PW.cI q_68_14 (by decide) fun c25 hc25 => ?_
          refine PW.jc_ne q_68_15 rfl (fun h26 => ?_) (fun h26 => ?_)
          · skip
            refine PW.aload_n q_68_20 rfl ?_
            refine PW.gI q_68_21 (Or.inl t_ft_68_21) gF_23_0 kd_272 IM23.1 (by decide) fun x27 fx27 hx27 kx27 => ?_
            refine PW.cB q_68_24 (by decide) fun c28 hc28 => ?_
            refine PW.jc_lt q_68_26 rfl (fun h29 => ?_) (fun h29 => ?_)
            · skip
              refine PW.aload_n q_68_35 rfl ?_
              refine PW.cV (as := []) (rest := []) q_68_36 t_mv_68_61 kd_1 IM23.1 (by decide) rfl (by decide) rfl rfl (Nat.le_of_ble_eq_true rfl) (Nat.le_of_ble_eq_true rfl) (by decide) (by decide) ?_
              refine PW.up (by decide) (c_X7_advance (gT6 G) ((Stab6 G)) G _ M23 IM23  fun M30 IM30 GM30 => ?_)
              have FM30 := Fr.trans FM23 GM30 (rfl)
              refine PW.aload_n q_68_39 rfl ?_
              refine PW.callS (as := [_]) (rest := []) q_68_40 t_ms_68_81 (by decide) rfl (Nat.le_of_ble_eq_true rfl) (Nat.le_of_ble_eq_true rfl) (by decide) (by decide) ?_
              refine PW.up (by decide) (c_X6_seesDeed (gT6 G) ((Stab6 G)) G _ M30 IM30  fun x32 M31 IM31 GM31 hx32 kx32 => ?_)
              have FM31 := Fr.trans FM30 GM31 (rfl)
              refine PW.jz_ne q_68_43 rfl (fun h33 => ?_) (fun h33 => ?_)
              · skip
                refine PW.aload_n q_68_52 rfl ?_
                refine PW.gR 273 q_68_53 (Or.inl t_ft_68_11) gF_23_1 kd_272 IM31.1 (by decide) rfl ?_
                refine PW.aload_n q_68_56 rfl ?_
                refine PW.gE q_68_57 (Or.inl t_ft_68_21) gF_23_0 kd_272 IM31.1 (by decide) ((congrArg (fun e => o_f e 0) (Fr.at GM31 kd_272 (by decide))).trans ((congrArg (fun e => o_f e 0) (Fr.at GM30 kd_272 (by decide))).trans fx27)) ?_
                refine PW.aload_n q_68_60 rfl ?_
                refine PW.gW q_68_61 (Or.inr t_fN_68_84) gF_1_6 kd_1 IM31.1 (by decide) fun r34 hr34 fr34 => ?_
                have hdM35 := o_i_of ((congrArg (fun e => o_f e 0) (Fr.at GM31 kd_272 (by decide))).trans ((congrArg (fun e => o_f e 0) (Fr.at GM30 kd_272 (by decide))).trans fx27))
                refine PW.wWB (r := some (65536 + r34)) q_68_64 (rfl : g_sh 24 = (4, 8, 40)) kd_273 IM31.1 (by decide) (by omega) (by omega) (Or.inr ⟨r34, hr34, rfl⟩) fun M35 JM35 UM35 fM35 gM35 => ?_
                have IM35 : Iv (gT6 G) M35 := ⟨JM35, gAT UM35 kd_273 (by decide) rfl IM31.2.1, gS6.w (q := x27.toInt.toNat) IM31.2.2 (UM35 272 (by decide)) gM35 (fun z _ => by rw [UM35 274 (by decide)]) (by omega)⟩
                have FM35 := Fr.pu FM31 UM35 kd_273 (rfl : List.contains [1, 23, 24, 25] 24 = true)
                refine PW.aload_n q_68_65 rfl ?_
                refine PW.gR 274 q_68_66 (Or.inl t_ft_68_17) gF_23_2 kd_272 IM35.1 (by decide) rfl ?_
                refine PW.aload_n q_68_69 rfl ?_
                refine PW.gE q_68_70 (Or.inl t_ft_68_21) gF_23_0 kd_272 IM35.1 (by decide) ((congrArg (fun e => o_f e 0) (UM35 _ (g_ne kd_272 kd_273 (by decide)))).trans ((congrArg (fun e => o_f e 0) (Fr.at GM31 kd_272 (by decide))).trans ((congrArg (fun e => o_f e 0) (Fr.at GM30 kd_272 (by decide))).trans fx27))) ?_
                refine PW.iload_n q_68_73 rfl ?_
                have hdM36 := o_i_of ((congrArg (fun e => o_f e 0) (UM35 _ (g_ne kd_272 kd_273 (by decide)))).trans ((congrArg (fun e => o_f e 0) (Fr.at GM31 kd_272 (by decide))).trans ((congrArg (fun e => o_f e 0) (Fr.at GM30 kd_272 (by decide))).trans fx27)))
                refine PW.wB q_68_74 gA_25 kd_274 IM35.1 (by decide) (by omega) (by omega) ⟨n_lo _, n_hi _⟩ fun M36 JM36 fM36 UM36 => ?_
                have IM36 : Iv (gT6 G) M36 := ⟨JM36, gAT UM36.1 kd_274 (by decide) rfl IM35.2.1, gS6.w (q := x27.toInt.toNat) IM35.2.2 (UM36.1 272 (by decide)) (fun z _ => by rw [UM36.1 273 (by decide)]) UM36.2 (by omega)⟩
                have FM36 := Fr.pu FM35 UM36.1 kd_274 (rfl : List.contains [1, 23, 24, 25] 25 = true)
                refine PW.aload_n q_68_75 rfl ?_
                refine PW.cV (as := []) (rest := []) q_68_76 t_mv_68_61 kd_1 IM36.1 (by decide) rfl (by decide) rfl rfl (Nat.le_of_ble_eq_true rfl) (Nat.le_of_ble_eq_true rfl) (by decide) (by decide) ?_
                refine PW.up (by decide) (c_X7_advance (gT6 G) ((Stab6 G)) G _ M36 IM36  fun M37 IM37 GM37 => ?_)
                have FM37 := Fr.trans FM36 GM37 (rfl)
                refine PW.cI q_68_79 (by decide) fun c38 hc38 => ?_
                refine PW.rZ q_68_80 rfl (by omega) (by omega) (by decide) (by decide) ?_
                refine PW.istore q_66_51 (by decide) ?_
                refine PW.iload q_66_53 rfl ?_
                refine PW.jz_eq q_66_55 rfl (fun h39 => False.elim (by omega)) (fun h39 => ?_)
                refine PW.aload_n q_66_58 rfl ?_
                refine PW.cB q_66_59 (by decide) fun c40 hc40 => ?_
                refine PW.cV (as := [_]) (rest := []) q_66_61 t_mv_66_51 kd_1 IM37.1 (by decide) rfl (by decide) rfl rfl (Nat.le_of_ble_eq_true rfl) (Nat.le_of_ble_eq_true rfl) (by decide) (by decide) ?_
                refine PW.up (by decide) (c_X7_needsSign (gT6 G) ((Stab6 G)) G _ M37 IM37 c40 fun x42 M41 IM41 GM41 hx42 kx42 => ?_)
                have FM41 := Fr.trans FM37 GM41 (rfl)
                refine PW.jz_ne q_66_64 rfl (fun h43 => ?_) (fun h43 => ?_)
                · skip
                  refine PW.aload_n q_66_69 rfl ?_
                  refine PW.dup q_66_70 rfl ?_
                  refine PW.gE q_66_71 (Or.inl t_ft_66_21) gF_23_0 kd_272 IM41.1 (by decide) ((congrArg (fun e => o_f e 0) (Fr.at GM41 kd_272 (by decide))).trans ((congrArg (fun e => o_f e 0) (Fr.at GM37 kd_272 (by decide))).trans ((congrArg (fun e => o_f e 0) (UM36.1 _ (g_ne kd_272 kd_274 (by decide)))).trans ((congrArg (fun e => o_f e 0) (UM35 _ (g_ne kd_272 kd_273 (by decide)))).trans ((congrArg (fun e => o_f e 0) (Fr.at GM31 kd_272 (by decide))).trans ((congrArg (fun e => o_f e 0) (Fr.at GM30 kd_272 (by decide))).trans fx27)))))) ?_
                  refine PW.cI q_66_74 (by decide) fun c44 hc44 => ?_
                  refine PW.addN q_66_75 (by omega) (by omega) fun x45 hx45 => ?_
                  have hdM46 := o_i_of ((congrArg (fun e => o_f e 0) (Fr.at GM41 kd_272 (by decide))).trans ((congrArg (fun e => o_f e 0) (Fr.at GM37 kd_272 (by decide))).trans ((congrArg (fun e => o_f e 0) (UM36.1 _ (g_ne kd_272 kd_274 (by decide)))).trans ((congrArg (fun e => o_f e 0) (UM35 _ (g_ne kd_272 kd_273 (by decide)))).trans ((congrArg (fun e => o_f e 0) (Fr.at GM31 kd_272 (by decide))).trans ((congrArg (fun e => o_f e 0) (Fr.at GM30 kd_272 (by decide))).trans fx27))))))
                  refine PW.pB q_66_76 (Or.inl t_ft_66_21) gF_23_0 gP_23_0 kd_272 IM41.1 (by decide) (by omega) (by omega) fun M46 JM46 fM46 UM46 => ?_
                  have IM46 : Iv (gT6 G) M46 := ⟨JM46, UM46.TT kd_272 rfl rfl IM41.2.1, gS6.inc IM41.2.2 UM46 fM46 hdM46 (by omega) (by omega) ⟨r34, hr34, by rw [((Fr.at GM41 kd_273 (by decide)).trans ((Fr.at GM37 kd_273 (by decide)).trans (UM36.1 _ (g_ne kd_273 kd_274 (by decide)))))]; exact fM35, Or.inr (by rw [((Fr.at GM41 kd_274 (by decide)).trans (Fr.at GM37 kd_274 (by decide))), fM36]; exact ⟨by omega, by omega⟩)⟩⟩
                  have FM46 := Fr.pu FM41 UM46.1 kd_272 (rfl : List.contains [1, 23, 24, 25] 23 = true)
                  refine PW.incN q_66_79 rfl (by decide) (by decide) (by omega) (by omega) fun x47 hx47 => ?_
                  refine PW.goto q_66_82 rfl ?_
                  refine PW.lvS (lk1 rfl (lk1 rfl (lk1 rfl (lk1 rfl lk0)))) (ih_L66_14_7 _ ?_ M46 x47 IM46 FM46 (by omega) (by omega) rfl)
                  omega
                · skip
                  refine PW.cI q_66_67 (by decide) fun c48 hc48 => ?_
                  refine PW.rZ q_66_68 rfl (by omega) (by omega) (by decide) (by decide) ?_
                  exact hK c48 M41 IM41 FM41 (by omega) (by omega)
              · skip
                refine PW.aload_n q_68_46 rfl ?_
                refine PW.cI q_68_47 (by decide) fun c49 hc49 => ?_
                refine PW.cV (as := [_]) (rest := []) q_68_48 t_mv_68_58 kd_1 IM31.1 (by decide) rfl (by decide) rfl rfl (Nat.le_of_ble_eq_true rfl) (Nat.le_of_ble_eq_true rfl) (by decide) (by decide) ?_
                refine PW.up (by decide) (c_X7_fail (gT6 G) ((Stab6 G)) G _ M31 IM31 c49 fun x51 M50 IM50 GM50 hx51 kx51 => ?_)
                have FM50 := Fr.trans FM31 GM50 (rfl)
                refine PW.rZ q_68_51 rfl (by omega) (by omega) (by decide) (by decide) ?_
                refine PW.istore q_66_51 (by decide) ?_
                refine PW.iload q_66_53 rfl ?_
                refine PW.jz_eq q_66_55 rfl (fun h52 => ?_) (fun h52 => False.elim (by omega))
                refine PW.cI q_66_67 (by decide) fun c53 hc53 => ?_
                refine PW.rZ q_66_68 rfl (by omega) (by omega) (by decide) (by decide) ?_
                exact hK c53 M50 IM50 FM50 (by omega) (by omega)
            · skip
              refine PW.aload_n q_68_29 rfl ?_
              refine PW.cI q_68_30 (by decide) fun c54 hc54 => ?_
              refine PW.cV (as := [_]) (rest := []) q_68_31 t_mv_68_58 kd_1 IM23.1 (by decide) rfl (by decide) rfl rfl (Nat.le_of_ble_eq_true rfl) (Nat.le_of_ble_eq_true rfl) (by decide) (by decide) ?_
              refine PW.up (by decide) (c_X7_fail (gT6 G) ((Stab6 G)) G _ M23 IM23 c54 fun x56 M55 IM55 GM55 hx56 kx56 => ?_)
              have FM55 := Fr.trans FM23 GM55 (rfl)
              refine PW.rZ q_68_34 rfl (by omega) (by omega) (by decide) (by decide) ?_
              refine PW.istore q_66_51 (by decide) ?_
              refine PW.iload q_66_53 rfl ?_
              refine PW.jz_eq q_66_55 rfl (fun h57 => ?_) (fun h57 => False.elim (by omega))
              refine PW.cI q_66_67 (by decide) fun c58 hc58 => ?_
              refine PW.rZ q_66_68 rfl (by omega) (by omega) (by decide) (by decide) ?_
              exact hK c58 M55 IM55 FM55 (by omega) (by omega)
          · skip
            refine PW.cI q_68_18 (by decide) fun c59 hc59 => ?_
            refine PW.rZ q_68_19 rfl (by omega) (by omega) (by decide) (by decide) ?_
            refine PW.istore q_66_51 (by decide) ?_
            refine PW.iload q_66_53 rfl ?_
            refine PW.jz_eq q_66_55 rfl (fun h60 => ?_) (fun h60 => False.elim (by omega))
            refine PW.cI q_66_67 (by decide) fun c61 hc61 => ?_
            refine PW.rZ q_66_68 rfl (by omega) (by omega) (by decide) (by decide) ?_
            exact hK c61 M23 IM23 FM23 (by omega) (by omega)
        · skip
          refine PW.aload_n q_66_37 rfl ?_
          refine PW.aload_n q_66_38 rfl ?_
          refine PW.cV (as := [_]) (rest := []) q_66_39 t_mv_66_43 kd_272 IM18.1 (by decide) rfl (by decide) rfl rfl (Nat.le_of_ble_eq_true rfl) (Nat.le_of_ble_eq_true rfl) (by decide) (by decide) ?_
          refine PW.aload_n q_67_0 rfl ?_
          refine PW.gI q_67_1 (Or.inl t_ft_67_21) gF_23_0 kd_272 IM18.1 (by decide) fun x62 fx62 hx62 kx62 => ?_
          refine PW.cB q_67_4 (by decide) fun c63 hc63 => ?_
          refine PW.jc_lt q_67_6 rfl (fun h64 => ?_) (fun h64 => ?_)
          · skip
            refine PW.aload_n q_67_15 rfl ?_
            refine PW.cV (as := []) (rest := []) q_67_16 t_mv_67_61 kd_1 IM18.1 (by decide) rfl (by decide) rfl rfl (Nat.le_of_ble_eq_true rfl) (Nat.le_of_ble_eq_true rfl) (by decide) (by decide) ?_
            refine PW.up (by decide) (c_X7_advance (gT6 G) ((Stab6 G)) G _ M18 IM18  fun M65 IM65 GM65 => ?_)
            have FM65 := Fr.trans FM18 GM65 (rfl)
            refine PW.aload_n q_67_19 rfl ?_
            refine PW.gR 273 q_67_20 (Or.inl t_ft_67_11) gF_23_1 kd_272 IM65.1 (by decide) rfl ?_
            refine PW.aload_n q_67_23 rfl ?_
            refine PW.gE q_67_24 (Or.inl t_ft_67_21) gF_23_0 kd_272 IM65.1 (by decide) ((congrArg (fun e => o_f e 0) (Fr.at GM65 kd_272 (by decide))).trans fx62) ?_
            refine PW.gets q_67_27 t_st_67_35 ?_
            have hdM66 := o_i_of ((congrArg (fun e => o_f e 0) (Fr.at GM65 kd_272 (by decide))).trans fx62)
            refine PW.wWB (r := some (65536 + 16)) q_67_30 (rfl : g_sh 24 = (4, 8, 40)) kd_273 IM65.1 (by decide) (by omega) (by omega) (Or.inr ⟨16, (by decide), rfl⟩) fun M66 JM66 UM66 fM66 gM66 => ?_
            have IM66 : Iv (gT6 G) M66 := ⟨JM66, gAT UM66 kd_273 (by decide) rfl IM65.2.1, gS6.w (q := x62.toInt.toNat) IM65.2.2 (UM66 272 (by decide)) gM66 (fun z _ => by rw [UM66 274 (by decide)]) (by omega)⟩
            have FM66 := Fr.pu FM65 UM66 kd_273 (rfl : List.contains [1, 23, 24, 25] 24 = true)
            refine PW.aload_n q_67_31 rfl ?_
            refine PW.gR 274 q_67_32 (Or.inl t_ft_67_17) gF_23_2 kd_272 IM66.1 (by decide) rfl ?_
            refine PW.aload_n q_67_35 rfl ?_
            refine PW.gE q_67_36 (Or.inl t_ft_67_21) gF_23_0 kd_272 IM66.1 (by decide) ((congrArg (fun e => o_f e 0) (UM66 _ (g_ne kd_272 kd_273 (by decide)))).trans ((congrArg (fun e => o_f e 0) (Fr.at GM65 kd_272 (by decide))).trans fx62)) ?_
            refine PW.aload_n q_67_39 rfl ?_
            refine PW.cI q_67_40 (by decide) fun c67 hc67 => ?_
            refine PW.cB q_67_41 (by decide) fun c68 hc68 => ?_
            refine PW.cV (as := [_, _]) (rest := [_, _]) q_67_43 t_mv_67_64 kd_1 IM66.1 (by decide) rfl (by decide) rfl rfl (Nat.le_of_ble_eq_true rfl) (Nat.le_of_ble_eq_true rfl) (by decide) (by decide) ?_
            refine PW.up (by decide) (c_X7_needsNumber (gT6 G) ((Stab6 G)) G _ M66 IM66 c67 c68 fun x70 M69 IM69 GM69 PM69 => ?_)
            have FM69 := Fr.trans FM66 GM69 (rfl)
            have hdM71 := o_i_of ((congrArg (fun e => o_f e 0) (Fr.at GM69 kd_272 (by decide))).trans ((congrArg (fun e => o_f e 0) (UM66 _ (g_ne kd_272 kd_273 (by decide)))).trans ((congrArg (fun e => o_f e 0) (Fr.at GM65 kd_272 (by decide))).trans fx62)))
            refine PW.wB q_67_46 gA_25 kd_274 IM69.1 (by decide) (by omega) (by omega) ⟨n_lo _, n_hi _⟩ fun M71 JM71 fM71 UM71 => ?_
            have IM71 : Iv (gT6 G) M71 := ⟨JM71, gAT UM71.1 kd_274 (by decide) rfl IM69.2.1, gS6.w (q := x62.toInt.toNat) IM69.2.2 (UM71.1 272 (by decide)) (fun z _ => by rw [UM71.1 273 (by decide)]) UM71.2 (by omega)⟩
            have FM71 := Fr.pu FM69 UM71.1 kd_274 (rfl : List.contains [1, 23, 24, 25] 25 = true)
            refine PW.aload_n q_67_47 rfl ?_
            refine PW.gR 274 q_67_48 (Or.inl t_ft_67_17) gF_23_2 kd_272 IM71.1 (by decide) rfl ?_
            refine PW.aload_n q_67_51 rfl ?_
            refine PW.gE q_67_52 (Or.inl t_ft_67_21) gF_23_0 kd_272 IM71.1 (by decide) ((congrArg (fun e => o_f e 0) (UM71.1 _ (g_ne kd_272 kd_274 (by decide)))).trans ((congrArg (fun e => o_f e 0) (Fr.at GM69 kd_272 (by decide))).trans ((congrArg (fun e => o_f e 0) (UM66 _ (g_ne kd_272 kd_273 (by decide)))).trans ((congrArg (fun e => o_f e 0) (Fr.at GM65 kd_272 (by decide))).trans fx62)))) ?_
            refine PW.aH q_67_55 gA_25 kd_274 IM71.1 (by decide) (by omega) (by omega) fun x72 fx72 => ?_
            refine PW.cI q_67_56 (by decide) fun c73 hc73 => ?_
            refine PW.jc_eq q_67_57 rfl (fun h74 => ?_) (fun h74 => ?_)
            · skip
              refine PW.cI q_67_64 (by decide) fun c75 hc75 => ?_
              refine PW.rZ q_67_65 rfl (by omega) (by omega) (by decide) (by decide) ?_
              refine PW.goto q_66_42 rfl ?_
              refine PW.istore q_66_51 (by decide) ?_
              refine PW.iload q_66_53 rfl ?_
              refine PW.jz_eq q_66_55 rfl (fun h76 => ?_) (fun h76 => False.elim (by omega))
              refine PW.cI q_66_67 (by decide) fun c77 hc77 => ?_
              refine PW.rZ q_66_68 rfl (by omega) (by omega) (by decide) (by decide) ?_
              exact hK c77 M71 IM71 FM71 (by omega) (by omega)
            · skip
              refine PW.cI q_67_60 (by decide) fun c78 hc78 => ?_
              refine PW.goto q_67_61 rfl ?_
              refine PW.rZ q_67_65 rfl (by omega) (by omega) (by decide) (by decide) ?_
              refine PW.goto q_66_42 rfl ?_
              refine PW.istore q_66_51 (by decide) ?_
              refine PW.iload q_66_53 rfl ?_
              refine PW.jz_eq q_66_55 rfl (fun h79 => False.elim (by omega)) (fun h79 => ?_)
              refine PW.aload_n q_66_58 rfl ?_
              refine PW.cB q_66_59 (by decide) fun c80 hc80 => ?_
              refine PW.cV (as := [_]) (rest := []) q_66_61 t_mv_66_51 kd_1 IM71.1 (by decide) rfl (by decide) rfl rfl (Nat.le_of_ble_eq_true rfl) (Nat.le_of_ble_eq_true rfl) (by decide) (by decide) ?_
              refine PW.up (by decide) (c_X7_needsSign (gT6 G) ((Stab6 G)) G _ M71 IM71 c80 fun x82 M81 IM81 GM81 hx82 kx82 => ?_)
              have FM81 := Fr.trans FM71 GM81 (rfl)
              refine PW.jz_ne q_66_64 rfl (fun h83 => ?_) (fun h83 => ?_)
              · skip
                refine PW.aload_n q_66_69 rfl ?_
                refine PW.dup q_66_70 rfl ?_
                refine PW.gE q_66_71 (Or.inl t_ft_66_21) gF_23_0 kd_272 IM81.1 (by decide) ((congrArg (fun e => o_f e 0) (Fr.at GM81 kd_272 (by decide))).trans ((congrArg (fun e => o_f e 0) (UM71.1 _ (g_ne kd_272 kd_274 (by decide)))).trans ((congrArg (fun e => o_f e 0) (Fr.at GM69 kd_272 (by decide))).trans ((congrArg (fun e => o_f e 0) (UM66 _ (g_ne kd_272 kd_273 (by decide)))).trans ((congrArg (fun e => o_f e 0) (Fr.at GM65 kd_272 (by decide))).trans fx62))))) ?_
                refine PW.cI q_66_74 (by decide) fun c84 hc84 => ?_
                refine PW.addN q_66_75 (by omega) (by omega) fun x85 hx85 => ?_
                have hdM86 := o_i_of ((congrArg (fun e => o_f e 0) (Fr.at GM81 kd_272 (by decide))).trans ((congrArg (fun e => o_f e 0) (UM71.1 _ (g_ne kd_272 kd_274 (by decide)))).trans ((congrArg (fun e => o_f e 0) (Fr.at GM69 kd_272 (by decide))).trans ((congrArg (fun e => o_f e 0) (UM66 _ (g_ne kd_272 kd_273 (by decide)))).trans ((congrArg (fun e => o_f e 0) (Fr.at GM65 kd_272 (by decide))).trans fx62)))))
                refine PW.pB q_66_76 (Or.inl t_ft_66_21) gF_23_0 gP_23_0 kd_272 IM81.1 (by decide) (by omega) (by omega) fun M86 JM86 fM86 UM86 => ?_
                have IM86 : Iv (gT6 G) M86 := ⟨JM86, UM86.TT kd_272 rfl rfl IM81.2.1, gS6.inc IM81.2.2 UM86 fM86 hdM86 (by omega) (by omega) ⟨16, (by decide), by rw [((Fr.at GM81 kd_273 (by decide)).trans ((UM71.1 _ (g_ne kd_273 kd_274 (by decide))).trans (Fr.at GM69 kd_273 (by decide))))]; exact fM66, Or.inl rfl⟩⟩
                have FM86 := Fr.pu FM81 UM86.1 kd_272 (rfl : List.contains [1, 23, 24, 25] 23 = true)
                refine PW.incN q_66_79 rfl (by decide) (by decide) (by omega) (by omega) fun x87 hx87 => ?_
                refine PW.goto q_66_82 rfl ?_
                refine PW.lvS (lk1 rfl (lk1 rfl (lk1 rfl (lk1 rfl lk0)))) (ih_L66_14_7 _ ?_ M86 x87 IM86 FM86 (by omega) (by omega) rfl)
                omega
              · skip
                refine PW.cI q_66_67 (by decide) fun c88 hc88 => ?_
                refine PW.rZ q_66_68 rfl (by omega) (by omega) (by decide) (by decide) ?_
                exact hK c88 M81 IM81 FM81 (by omega) (by omega)
          · skip
            refine PW.aload_n q_67_9 rfl ?_
            refine PW.cI q_67_10 (by decide) fun c89 hc89 => ?_
            refine PW.cV (as := [_]) (rest := []) q_67_11 t_mv_67_58 kd_1 IM18.1 (by decide) rfl (by decide) rfl rfl (Nat.le_of_ble_eq_true rfl) (Nat.le_of_ble_eq_true rfl) (by decide) (by decide) ?_
            refine PW.up (by decide) (c_X7_fail (gT6 G) ((Stab6 G)) G _ M18 IM18 c89 fun x91 M90 IM90 GM90 hx91 kx91 => ?_)
            have FM90 := Fr.trans FM18 GM90 (rfl)
            refine PW.rZ q_67_14 rfl (by omega) (by omega) (by decide) (by decide) ?_
            refine PW.goto q_66_42 rfl ?_
            refine PW.istore q_66_51 (by decide) ?_
            refine PW.iload q_66_53 rfl ?_
            refine PW.jz_eq q_66_55 rfl (fun h92 => ?_) (fun h92 => False.elim (by omega))
            refine PW.cI q_66_67 (by decide) fun c93 hc93 => ?_
            refine PW.rZ q_66_68 rfl (by omega) (by omega) (by decide) (by decide) ?_
            exact hK c93 M90 IM90 FM90 (by omega) (by omega)
  exact PW.lvS (lk1 rfl (lk1 rfl (lk1 rfl (lk1 rfl lk0)))) (L66_14_7 _ M5 c6 IM5 FM5 (by omega) (by omega) rfl)
theorem c_X6_playLine (G : pG) (Kr : pK) (M : pM) (I : Iv (gT6 G) M) (a1 : Int32) (k2 : Nat) (hk_k2 : g_kd k2 = 4) (k3 : Nat) (hk_k3 : g_kd k3 = 5) (hl_a1 : 0 ≤ a1.toInt) (hh_a1 : a1.toInt ≤ 39) (hp_0 : a1.toInt < o_i (M 272) 0) (hK : ∀ (x : Int32) (M1 : pM), Iv (gT6 G) M1 → Fr [5, 7, 9, 10, 11, 12, 13] M M1 → Kr.1 (some (.int x)) 311 M1) : PW G false 5 71 (p_mc 71) (p_msl 71) Kr 0 (lv_args 0 [.ref 272, .int a1, .ref k2, .ref k3]) [] 311 M 0 0 := by
  have F : Fr [5, 7, 9, 10, 11, 12, 13] M M := Fr.refl
  refine PW.aload_n q_71_0 rfl ?_
  refine PW.gR 273 q_71_1 (Or.inl t_ft_71_11) gF_23_1 kd_272 I.1 (by decide) rfl ?_
  refine PW.iload_n q_71_4 rfl ?_
  refine PW.aW q_71_5 rfl (by decide) (by decide) kd_273 I.1 (by decide) (by omega) (by omega) fun r1 hr1 fr1 => ?_
  obtain ⟨r2, hr2, err2, hcr2⟩ := I.2.2 a1.toInt.toNat (by rw [Fr.at F kd_272 rfl]; omega)
  obtain rfl : r1 = some (65536 + r2) := fr1.symm.trans err2
  refine PW.gets q_71_6 t_st_71_35 ?_
  refine PW.ja_ne (rx := (some (65536 + r2))) (ry := (some (65536 + 16))) q_71_9 rfl (fun h3 => ?_) (fun h3 => ?_)
  · skip
    have hn5 := hcr2.resolve_left (fun q => h3 (by show (some (p_r G _)) = some (p_r G _); rw [p_wr, p_wr, q]))
    refine PW.aload_n q_71_60 rfl ?_
    refine PW.aload_n q_71_61 rfl ?_
    refine PW.gR 273 q_71_62 (Or.inl t_ft_71_11) gF_23_1 kd_272 I.1 (by decide) rfl ?_
    refine PW.iload_n q_71_65 rfl ?_
    refine PW.aW q_71_66 rfl (by decide) (by decide) kd_273 I.1 (by decide) (by omega) (by omega) fun r4 hr4 fr4 => ?_
    obtain ⟨r5, hr5, err5, hcr5⟩ := I.2.2 a1.toInt.toNat (by rw [Fr.at F kd_272 rfl]; omega)
    obtain rfl : r4 = some (65536 + r5) := fr4.symm.trans err5
    refine PW.aload_n q_71_67 rfl ?_
    refine PW.gR 274 q_71_68 (Or.inl t_ft_71_17) gF_23_2 kd_272 I.1 (by decide) rfl ?_
    refine PW.iload_n q_71_71 rfl ?_
    refine PW.aH q_71_72 gA_25 kd_274 I.1 (by decide) (by omega) (by omega) fun x6 fx6 => ?_
    have hxx6 : x6.toInt = (o_a (M 274) a1.toInt.toNat).toInt := by rw [← Fr.at F kd_274 rfl]; exact congrArg Int32.toInt fx6.symm
    have hwx6 := hn5.1
    have hvx6 := hn5.2
    refine PW.cV (as := [_, _]) (rest := []) q_71_73 t_mv_71_135 hk_k3 I.1 (by decide) rfl (by decide) rfl rfl (Nat.le_of_ble_eq_true rfl) (Nat.le_of_ble_eq_true rfl) (by decide) (by decide) ?_
    refine PW.up (by decide) (c_X5_whyNot (gT6 G) ((Stab6 G)) G _ M I k3 hk_k3 r5 hr5 x6 (by omega) (by omega) fun x8 M7 IM7 GM7 hx8 kx8 => ?_)
    have FM7 := Fr.trans F GM7 (rfl)
    refine PW.istore q_71_76 (by decide) ?_
    refine PW.iload q_71_78 rfl ?_
    refine PW.jz_ne q_71_80 rfl (fun h9 => ?_) (fun h9 => ?_)
    · skip
      refine PW.aload_n q_71_101 rfl ?_
      refine PW.gR 273 q_71_102 (Or.inl t_ft_71_11) gF_23_1 kd_272 IM7.1 (by decide) rfl ?_
      refine PW.iload_n q_71_105 rfl ?_
      refine PW.aW q_71_106 rfl (by decide) (by decide) kd_273 IM7.1 (by decide) (by omega) (by omega) fun r10 hr10 fr10 => ?_
      obtain ⟨r11, hr11, err11, hcr11⟩ := IM7.2.2 a1.toInt.toNat (by rw [Fr.at FM7 kd_272 rfl]; omega)
      obtain rfl : r10 = some (65536 + r11) := fr10.symm.trans err11
      refine PW.gets q_71_107 t_st_71_87 ?_
      refine PW.ja_ne (rx := (some (65536 + r11))) (ry := (some (65536 + 11))) q_71_110 rfl (fun h12 => ?_) (fun h12 => ?_)
      · skip
        refine PW.iload q_71_116 rfl ?_
        refine PW.aload_n q_71_118 rfl ?_
        refine PW.gR 273 q_71_119 (Or.inl t_ft_71_11) gF_23_1 kd_272 IM7.1 (by decide) rfl ?_
        refine PW.iload_n q_71_122 rfl ?_
        refine PW.aW q_71_123 rfl (by decide) (by decide) kd_273 IM7.1 (by decide) (by omega) (by omega) fun r13 hr13 fr13 => ?_
        obtain ⟨r14, hr14, err14, hcr14⟩ := IM7.2.2 a1.toInt.toNat (by rw [Fr.at FM7 kd_272 rfl]; omega)
        obtain rfl : r13 = some (65536 + r14) := fr13.symm.trans err14
        refine PW.gets q_71_124 t_st_71_90 ?_
        refine PW.ja_ne (rx := (some (65536 + r14))) (ry := (some (65536 + 12))) q_71_127 rfl (fun h15 => ?_) (fun h15 => ?_)
        · skip
          refine PW.cB q_71_135 (by decide) fun c16 hc16 => ?_
          refine PW.addN q_71_137 (by omega) (by omega) fun x17 hx17 => ?_
          refine PW.rI q_71_138 rfl (by decide) (by decide) ?_
          exact hK x17 M7 IM7 FM7
        · skip
          refine PW.cB q_71_130 (by decide) fun c18 hc18 => ?_
          refine PW.goto q_71_132 rfl ?_
          refine PW.addN q_71_137 (by omega) (by omega) fun x19 hx19 => ?_
          refine PW.rI q_71_138 rfl (by decide) (by decide) ?_
          exact hK x19 M7 IM7 FM7
      · skip
        refine PW.iload q_71_113 rfl ?_
        refine PW.rI q_71_115 rfl (by decide) (by decide) ?_
        exact hK x8 M7 IM7 FM7
    · skip
      refine PW.aload_n q_71_83 rfl ?_
      refine PW.aload_n q_71_84 rfl ?_
      refine PW.gR 273 q_71_85 (Or.inl t_ft_71_11) gF_23_1 kd_272 IM7.1 (by decide) rfl ?_
      refine PW.iload_n q_71_88 rfl ?_
      refine PW.aW q_71_89 rfl (by decide) (by decide) kd_273 IM7.1 (by decide) (by omega) (by omega) fun r20 hr20 fr20 => ?_
      obtain ⟨r21, hr21, err21, hcr21⟩ := IM7.2.2 a1.toInt.toNat (by rw [Fr.at FM7 kd_272 rfl]; omega)
      obtain rfl : r20 = some (65536 + r21) := fr20.symm.trans err21
      refine PW.aload_n q_71_90 rfl ?_
      refine PW.gR 274 q_71_91 (Or.inl t_ft_71_17) gF_23_2 kd_272 IM7.1 (by decide) rfl ?_
      refine PW.iload_n q_71_94 rfl ?_
      refine PW.aH q_71_95 gA_25 kd_274 IM7.1 (by decide) (by omega) (by omega) fun x22 fx22 => ?_
      have hxx22 : x22.toInt = (o_a (M 274) a1.toInt.toNat).toInt := by rw [← Fr.at FM7 kd_274 rfl]; exact congrArg Int32.toInt fx22.symm
      have hwx22 := hn5.1
      have hvx22 := hn5.2
      refine PW.cV (as := [_, _]) (rest := []) q_71_96 t_mv_71_139 hk_k3 IM7.1 (by decide) rfl (by decide) rfl rfl (Nat.le_of_ble_eq_true rfl) (Nat.le_of_ble_eq_true rfl) (by decide) (by decide) ?_
      refine PW.up (by decide) (c_X5_perform (gT6 G) ((Stab6 G)) G _ M7 IM7 k3 hk_k3 r21 hr21 x22 (by omega) (by omega) fun M23 IM23 GM23 => ?_)
      have FM23 := Fr.trans FM7 GM23 (rfl)
      refine PW.cI q_71_99 (by decide) fun c24 hc24 => ?_
      refine PW.rI q_71_100 rfl (by decide) (by decide) ?_
      exact hK c24 M23 IM23 FM23
  · skip
    refine PW.aload_n q_71_12 rfl ?_
    refine PW.gR 274 q_71_13 (Or.inl t_ft_71_17) gF_23_2 kd_272 I.1 (by decide) rfl ?_
    refine PW.iload_n q_71_16 rfl ?_
    refine PW.aH q_71_17 gA_25 kd_274 I.1 (by decide) (by omega) (by omega) fun x25 fx25 => ?_
    refine PW.cS q_71_18 (by decide) fun c26 hc26 => ?_
    refine PW.aload_n q_71_21 rfl ?_
    refine PW.gI q_71_22 (Or.inr t_fN_71_122) gF_5_0 hk_k3 I.1 (by decide) fun x27 fx27 hx27 kx27 => ?_
    refine PW.subN q_71_25 (by omega) (by omega) fun x28 hx28 => ?_
    refine PW.jc_le q_71_26 rfl (fun h29 => ?_) (fun h29 => ?_)
    · skip
      refine PW.cI q_71_32 (by decide) fun c30 hc30 => ?_
      refine PW.istore q_71_33 (by decide) ?_
      have L71_35_31 : ∀ (n : Nat) (ML71_35_31 : pM) (v32 : Int32), Iv (gT6 G) ML71_35_31 → Fr [5, 7, 9, 10, 11, 12, 13] M ML71_35_31 → 0 ≤ v32.toInt → ((o_a (M 274) a1.toInt.toNat).toInt - v32.toInt).toNat = n → PW G false 5 71 (p_mc 71) (p_msl 71) Kr 35 [(0, .ref 272), (1, .int a1), (2, .ref k2), (3, .ref k3), (4, .int v32)] [] 311 ML71_35_31 0 0 := by
        intro n
        induction n using Nat.strongRecOn with
        | ind n ih_L71_35_31 =>
        intro ML71_35_31 v32 IML71_35_31 FML71_35_31 hbL71_35_310 hmL71_35_31
        refine PW.iload q_71_35 rfl ?_
        refine PW.aload_n q_71_37 rfl ?_
        refine PW.gR 274 q_71_38 (Or.inl t_ft_71_17) gF_23_2 kd_272 IML71_35_31.1 (by decide) rfl ?_
        refine PW.iload_n q_71_41 rfl ?_
        refine PW.aH q_71_42 gA_25 kd_274 IML71_35_31.1 (by decide) (by omega) (by omega) fun x33 fx33 => ?_
        have hxx33 : o_a (M 274) a1.toInt.toNat = x33 := by rw [← Fr.at FML71_35_31 kd_274 rfl]; exact fx33
        have hyx33 : (o_a (M 274) a1.toInt.toNat).toInt = x33.toInt := by rw [hxx33]
        have hhx33 := n_hi x33
        refine PW.jc_ge q_71_43 rfl (fun h34 => ?_) (fun h34 => ?_)
        · skip
          refine PW.cI q_71_58 (by decide) fun c35 hc35 => ?_
          refine PW.rI q_71_59 rfl (by decide) (by decide) ?_
          exact hK c35 ML71_35_31 IML71_35_31 FML71_35_31
        · skip
          refine PW.aload_n q_71_46 rfl ?_
          refine PW.aload_n q_71_47 rfl ?_
          refine PW.cV (as := [_]) (rest := []) q_71_48 t_mv_71_131 hk_k3 IML71_35_31.1 (by decide) rfl (by decide) rfl rfl (Nat.le_of_ble_eq_true rfl) (Nat.le_of_ble_eq_true rfl) (by decide) (by decide) ?_
          refine PW.up (by decide) (c_X5_pass G _ ML71_35_31 ⟨IML71_35_31.1, IML71_35_31.2.1⟩ k3 hk_k3 k2 hk_k2 fun x37 M36 IM36 GM36 hx37 kx37 => ?_)
          have FM36 := Fr.trans FML71_35_31 GM36 (rfl)
          have LM36 : Iv (gT6 G) M36 := ⟨IM36.1, IM36.2, gS6.same IML71_35_31.2.2 (Fr.at GM36 kd_272 rfl) (Fr.at GM36 kd_273 rfl) (Fr.at GM36 kd_274 rfl)⟩
          refine PW.pop q_71_51 rfl ?_
          refine PW.incN q_71_52 rfl (by decide) (by decide) (by have := n_lo v32; have := n_hi v32; omega) (by have := n_lo v32; have := n_hi v32; omega) fun x38 hx38 => ?_
          refine PW.goto q_71_55 rfl ?_
          refine PW.lvS (lk1 rfl (lk1 rfl (lk1 rfl (lk1 rfl (lk1 rfl lk0))))) (ih_L71_35_31 _ ?_ M36 x38 LM36 FM36 (by omega) rfl)
          omega
      exact PW.lvS (lk1 rfl (lk1 rfl (lk1 rfl (lk1 rfl (lk1 rfl lk0))))) (L71_35_31 _ M c30 I F (by omega) rfl)
    · skip
      refine PW.cB q_71_29 (by decide) fun c39 hc39 => ?_
      refine PW.rI q_71_31 rfl (by decide) (by decide) ?_
      exact hK c39 M I F
theorem c_X6_play (G : pG) (Kr : pK) (M : pM) (I : Iv (gT6 G) M) (k1 : Nat) (hk_k1 : g_kd k1 = 4) (k2 : Nat) (hk_k2 : g_kd k2 = 5) (hK : ∀ (x : Int32) (M1 : pM), Iv (gT6 G) M1 → Fr [5, 7, 9, 10, 11, 12, 13, 23] M M1 → Kr.1 (some (.int x)) 311 M1) : PW G false 6 70 (p_mc 70) (p_msl 70) Kr 0 (lv_args 0 [.ref 272, .ref k1, .ref k2]) [] 311 M 0 0 := by
  have F : Fr [5, 7, 9, 10, 11, 12, 13, 23] M M := Fr.refl
  refine PW.aload_n q_70_0 rfl ?_
  refine PW.cV (as := []) (rest := []) q_70_1 t_mv_70_102 hk_k2 I.1 (by decide) rfl (by decide) rfl rfl (Nat.le_of_ble_eq_true rfl) (Nat.le_of_ble_eq_true rfl) (by decide) (by decide) ?_
  refine PW.up (by decide) (c_X5_allTurns (gT6 G) ((Stab6 G)) G _ M I k2 hk_k2 fun x2 M1 IM1 GM1 => ?_)
  have FM1 := Fr.trans F GM1 (rfl)
  refine PW.istore_n q_70_4 (by decide) ?_
  refine PW.aload_n q_70_5 rfl ?_
  refine PW.cI q_70_6 (by decide) fun c3 hc3 => ?_
  refine PW.pI q_70_7 (Or.inl t_ft_70_108) gF_23_4 gP_23_4 kd_272 (Stab6 G) IM1 (by decide) rfl (n_lo _) (n_hi _) fun M4 IM4 fM4 UM4 => ?_
  have FM4 := Fr.pu FM1 UM4.1 kd_272 (rfl : List.contains [5, 7, 9, 10, 11, 12, 13, 23] 23 = true)
  refine PW.aload_n q_70_10 rfl ?_
  refine PW.cI q_70_11 (by decide) fun c5 hc5 => ?_
  refine PW.pI q_70_12 (Or.inl t_ft_70_111) gF_23_5 gP_23_5 kd_272 (Stab6 G) IM4 (by decide) rfl (n_lo _) (n_hi _) fun M6 IM6 fM6 UM6 => ?_
  have FM6 := Fr.pu FM4 UM6.1 kd_272 (rfl : List.contains [5, 7, 9, 10, 11, 12, 13, 23] 23 = true)
  refine PW.cI q_70_15 (by decide) fun c7 hc7 => ?_
  refine PW.istore q_70_16 (by decide) ?_
  have L70_18_8 : ∀ (n : Nat) (ML70_18_8 : pM) (v9 : Int32), Iv (gT6 G) ML70_18_8 → Fr [5, 7, 9, 10, 11, 12, 13, 23] M ML70_18_8 → 0 ≤ v9.toInt → v9.toInt ≤ 40 → (40 - v9.toInt).toNat = n → PW G false 6 70 (p_mc 70) (p_msl 70) Kr 18 [(0, .ref 272), (1, .ref k1), (2, .ref k2), (3, .int x2), (4, .int v9)] [] 311 ML70_18_8 0 0 := by
    intro n
    induction n using Nat.strongRecOn with
    | ind n ih_L70_18_8 =>
    intro ML70_18_8 v9 IML70_18_8 FML70_18_8 hbL70_18_80 hbL70_18_81 hmL70_18_8
    refine PW.iload q_70_18 rfl ?_
    refine PW.aload_n q_70_20 rfl ?_
    refine PW.gI q_70_21 (Or.inl t_ft_70_21) gF_23_0 kd_272 IML70_18_8.1 (by decide) fun x10 fx10 hx10 kx10 => ?_
    have J69_12 : ∀ (MJ69_12 : pM), Iv (gT6 G) MJ69_12 → Fr [5, 7, 9, 10, 11, 12, 13, 23] M MJ69_12 → o_f (MJ69_12 272) 0 = .int x10 → PW G false 6 70 (p_mc 70) (p_msl 70) Kr 69 [(0, .ref 272), (1, .ref k1), (2, .ref k2), (3, .int x2), (4, .int v9)] [] 311 MJ69_12 0 0 := by
      intro MJ69_12  IMJ69_12 FMJ69_12 hbJ69_120
      refine PW.aload_n q_70_69 rfl ?_
      refine PW.cI q_70_70 (by decide) fun c13 hc13 => ?_
      refine PW.pI q_70_71 (Or.inl t_ft_70_118) gF_23_3 gP_23_3 kd_272 (Stab6 G) IMJ69_12 (by decide) rfl (by omega) (by omega) fun M14 IM14 fM14 UM14 => ?_
      have FM14 := Fr.pu FMJ69_12 UM14.1 kd_272 (rfl : List.contains [5, 7, 9, 10, 11, 12, 13, 23] 23 = true)
      refine PW.aload_n q_70_74 rfl ?_
      refine PW.aload_n q_70_75 rfl ?_
      refine PW.gI q_70_76 (Or.inr t_fN_70_122) gF_5_0 hk_k2 IM14.1 (by decide) fun x15 fx15 hx15 kx15 => ?_
      refine PW.pI q_70_79 (Or.inl t_ft_70_125) gF_23_6 gP_23_6 kd_272 (Stab6 G) IM14 (by decide) rfl (n_lo _) (n_hi _) fun M16 IM16 fM16 UM16 => ?_
      have FM16 := Fr.pu FM14 UM16.1 kd_272 (rfl : List.contains [5, 7, 9, 10, 11, 12, 13, 23] 23 = true)
      refine PW.aload_n q_70_82 rfl ?_
      refine PW.aload_n q_70_83 rfl ?_
      refine PW.cV (as := []) (rest := [_]) q_70_84 t_mv_70_102 hk_k2 IM16.1 (by decide) rfl (by decide) rfl rfl (Nat.le_of_ble_eq_true rfl) (Nat.le_of_ble_eq_true rfl) (by decide) (by decide) ?_
      refine PW.up (by decide) (c_X5_allTurns (gT6 G) ((Stab6 G)) G _ M16 IM16 k2 hk_k2 fun x18 M17 IM17 GM17 => ?_)
      have FM17 := Fr.trans FM16 GM17 (rfl)
      refine PW.iload_n q_70_87 rfl ?_
      refine PW.subH q_70_88 fun x19 => ?_
      refine PW.pI q_70_89 (Or.inl t_ft_70_128) gF_23_7 gP_23_7 kd_272 (Stab6 G) IM17 (by decide) rfl (n_lo _) (n_hi _) fun M20 IM20 fM20 UM20 => ?_
      have FM20 := Fr.pu FM17 UM20.1 kd_272 (rfl : List.contains [5, 7, 9, 10, 11, 12, 13, 23] 23 = true)
      refine PW.aload_n q_70_92 rfl ?_
      refine PW.gI q_70_93 (Or.inl t_ft_70_108) gF_23_4 kd_272 IM20.1 (by decide) fun x21 fx21 hx21 kx21 => ?_
      clear hx21 kx21
      refine PW.jz_ne q_70_96 rfl (fun h22 => ?_) (fun h22 => ?_)
      · skip
        refine PW.aload_n q_70_103 rfl ?_
        refine PW.gI q_70_104 (Or.inl t_ft_70_111) gF_23_5 kd_272 IM20.1 (by decide) fun x23 fx23 hx23 kx23 => ?_
        clear hx23 kx23
        refine PW.rI q_70_107 rfl (by decide) (by decide) ?_
        exact hK x23 M20 IM20 FM20
      · skip
        refine PW.cI q_70_99 (by decide) fun c24 hc24 => ?_
        refine PW.goto q_70_100 rfl ?_
        refine PW.rI q_70_107 rfl (by decide) (by decide) ?_
        exact hK c24 M20 IM20 FM20
    refine PW.jc_ge q_70_24 rfl (fun h11 => ?_) (fun h11 => ?_)
    · skip
      exact PW.lvS (lk1 rfl (lk1 rfl (lk1 rfl (lk1 rfl (lk1 rfl lk0))))) (J69_12 ML70_18_8  IML70_18_8 FML70_18_8 fx10)
    · skip
      refine PW.aload_n q_70_27 rfl ?_
      refine PW.gI q_70_28 (Or.inl t_ft_70_108) gF_23_4 kd_272 IML70_18_8.1 (by decide) fun x25 fx25 hx25 kx25 => ?_
      clear hx25 kx25
      refine PW.jz_ne q_70_31 rfl (fun h26 => ?_) (fun h26 => ?_)
      · skip
        exact PW.lvS (lk1 rfl (lk1 rfl (lk1 rfl (lk1 rfl (lk1 rfl lk0))))) (J69_12 ML70_18_8  IML70_18_8 FML70_18_8 fx10)
      · skip
        refine PW.aload_n q_70_34 rfl ?_
        refine PW.aload_n q_70_35 rfl ?_
        refine PW.iload q_70_36 rfl ?_
        refine PW.aload_n q_70_38 rfl ?_
        refine PW.aload_n q_70_39 rfl ?_
        refine PW.cV (as := [_, _, _]) (rest := [_]) q_70_40 t_mv_70_114 kd_272 IML70_18_8.1 (by decide) rfl (by decide) rfl rfl (Nat.le_of_ble_eq_true rfl) (Nat.le_of_ble_eq_true rfl) (by decide) (by decide) ?_
        have hl26 := o_i_of fx10
        refine PW.up (by decide) (c_X6_playLine G _ ML70_18_8 IML70_18_8 v9 k1 hk_k1 k2 hk_k2 (by omega) (by omega) (by omega) fun x29 M28 IM28 GM28 => ?_)
        have FM28 := Fr.trans FML70_18_8 GM28 (rfl)
        refine PW.pI q_70_43 (Or.inl t_ft_70_108) gF_23_4 gP_23_4 kd_272 (Stab6 G) IM28 (by decide) rfl (n_lo _) (n_hi _) fun M30 IM30 fM30 UM30 => ?_
        have FM30 := Fr.pu FM28 UM30.1 kd_272 (rfl : List.contains [5, 7, 9, 10, 11, 12, 13, 23] 23 = true)
        refine PW.aload_n q_70_46 rfl ?_
        refine PW.gE q_70_47 (Or.inl t_ft_70_108) gF_23_4 kd_272 IM30.1 (by decide) fM30 ?_
        have J63_32 : ∀ (MJ63_32 : pM), Iv (gT6 G) MJ63_32 → Fr [5, 7, 9, 10, 11, 12, 13, 23] M MJ63_32 → o_f (MJ63_32 272) 0 = .int x10 → o_f (MJ63_32 272) 4 = .int x29 → PW G false 6 70 (p_mc 70) (p_msl 70) Kr 63 [(0, .ref 272), (1, .ref k1), (2, .ref k2), (3, .int x2), (4, .int v9)] [] 311 MJ63_32 0 0 := by
          intro MJ63_32  IMJ63_32 FMJ63_32 hbJ63_320 hbJ63_321
          refine PW.incN q_70_63 rfl (by decide) (by decide) (by omega) (by omega) fun x33 hx33 => ?_
          refine PW.goto q_70_66 rfl ?_
          refine PW.lvS (lk1 rfl (lk1 rfl (lk1 rfl (lk1 rfl (lk1 rfl lk0))))) (ih_L70_18_8 _ ?_ MJ63_32 x33 IMJ63_32 FMJ63_32 (by omega) (by omega) rfl)
          omega
        refine PW.jz_ne q_70_50 rfl (fun h31 => ?_) (fun h31 => ?_)
        · skip
          exact PW.lvS (lk1 rfl (lk1 rfl (lk1 rfl (lk1 rfl (lk1 rfl lk0))))) (J63_32 M30  IM30 FM30 ((UM30.f (Or.inr (by decide))).trans ((congrArg (fun e => o_f e 0) (Fr.at GM28 kd_272 (by decide))).trans fx10)) fM30)
        · skip
          refine PW.aload_n q_70_53 rfl ?_
          refine PW.dup q_70_54 rfl ?_
          refine PW.gI q_70_55 (Or.inl t_ft_70_111) gF_23_5 kd_272 IM30.1 (by decide) fun x34 fx34 hx34 kx34 => ?_
          clear hx34 kx34
          refine PW.cI q_70_58 (by decide) fun c35 hc35 => ?_
          refine PW.addH q_70_59 fun x36 => ?_
          refine PW.pI q_70_60 (Or.inl t_ft_70_111) gF_23_5 gP_23_5 kd_272 (Stab6 G) IM30 (by decide) rfl (n_lo _) (n_hi _) fun M37 IM37 fM37 UM37 => ?_
          have FM37 := Fr.pu FM30 UM37.1 kd_272 (rfl : List.contains [5, 7, 9, 10, 11, 12, 13, 23] 23 = true)
          exact PW.lvS (lk1 rfl (lk1 rfl (lk1 rfl (lk1 rfl (lk1 rfl lk0))))) (J63_32 M37  IM37 FM37 ((UM37.f (Or.inr (by decide))).trans ((UM30.f (Or.inr (by decide))).trans ((congrArg (fun e => o_f e 0) (Fr.at GM28 kd_272 (by decide))).trans fx10))) ((UM37.f (Or.inr (by decide))).trans fM30))
  exact PW.lvS (lk1 rfl (lk1 rfl (lk1 rfl (lk1 rfl (lk1 rfl lk0))))) (L70_18_8 _ M6 c7 IM6 FM6 (by omega) (by omega) rfl)
