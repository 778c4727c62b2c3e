theorem q_45_0 : p_tb 45 0 = some (.aload_n 0, 1) := by decide +kernel
theorem q_45_1 : p_tb 45 1 = some (.getfield 17, 3) := by decide +kernel
theorem q_45_4 : p_tb 45 4 = some (.iload_n 2, 1) := by decide +kernel
theorem q_45_5 : p_tb 45 5 = some (.iaload, 1) := by decide +kernel
theorem q_45_6 : p_tb 45 6 = some (.bipush 60, 2) := by decide +kernel
theorem q_45_8 : p_tb 45 8 = some (.if_icmp .ne 19, 3) := by decide +kernel
theorem q_45_11 : p_tb 45 11 = some (.iload_n 1, 1) := by decide +kernel
theorem q_45_12 : p_tb 45 12 = some (.aload_n 0, 1) := by decide +kernel
theorem q_45_13 : p_tb 45 13 = some (.getfield 21, 3) := by decide +kernel
theorem q_45_16 : p_tb 45 16 = some (.iload_n 2, 1) := by decide +kernel
theorem q_45_17 : p_tb 45 17 = some (.iaload, 1) := by decide +kernel
theorem q_45_18 : p_tb 45 18 = some (.if_icmp .ge 7, 3) := by decide +kernel
theorem q_45_21 : p_tb 45 21 = some (.iconst 1, 1) := by decide +kernel
theorem q_45_22 : p_tb 45 22 = some (.goto 4, 3) := by decide +kernel
theorem q_45_25 : p_tb 45 25 = some (.iconst 0, 1) := by decide +kernel
theorem q_45_26 : p_tb 45 26 = some (.ireturn, 1) := by decide +kernel
theorem q_45_27 : p_tb 45 27 = some (.aload_n 0, 1) := by decide +kernel
theorem q_45_28 : p_tb 45 28 = some (.getfield 17, 3) := by decide +kernel
theorem q_45_31 : p_tb 45 31 = some (.iload_n 2, 1) := by decide +kernel
theorem q_45_32 : p_tb 45 32 = some (.iaload, 1) := by decide +kernel
theorem q_45_33 : p_tb 45 33 = some (.bipush 62, 2) := by decide +kernel
theorem q_45_35 : p_tb 45 35 = some (.if_icmp .ne 21, 3) := by decide +kernel
theorem q_45_38 : p_tb 45 38 = some (.iload_n 1, 1) := by decide +kernel
theorem q_45_39 : p_tb 45 39 = some (.aload_n 0, 1) := by decide +kernel
theorem q_45_40 : p_tb 45 40 = some (.getfield 21, 3) := by decide +kernel
theorem q_45_43 : p_tb 45 43 = some (.iload_n 2, 1) := by decide +kernel
theorem q_45_44 : p_tb 45 44 = some (.iaload, 1) := by decide +kernel
theorem q_45_45 : p_tb 45 45 = some (.if_icmp .le 7, 3) := by decide +kernel
theorem q_45_48 : p_tb 45 48 = some (.iconst 1, 1) := by decide +kernel
theorem q_45_49 : p_tb 45 49 = some (.goto 22, 3) := by decide +kernel
theorem q_45_52 : p_tb 45 52 = some (.iconst 0, 1) := by decide +kernel
theorem q_45_53 : p_tb 45 53 = some (.goto 18, 3) := by decide +kernel
theorem q_45_56 : p_tb 45 56 = some (.iload_n 1, 1) := by decide +kernel
theorem q_45_57 : p_tb 45 57 = some (.aload_n 0, 1) := by decide +kernel
theorem q_45_58 : p_tb 45 58 = some (.getfield 21, 3) := by decide +kernel
theorem q_45_61 : p_tb 45 61 = some (.iload_n 2, 1) := by decide +kernel
theorem q_45_62 : p_tb 45 62 = some (.iaload, 1) := by decide +kernel
theorem q_45_63 : p_tb 45 63 = some (.if_icmp .ne 7, 3) := by decide +kernel
theorem q_45_66 : p_tb 45 66 = some (.iconst 1, 1) := by decide +kernel
theorem q_45_67 : p_tb 45 67 = some (.goto 4, 3) := by decide +kernel
theorem q_45_70 : p_tb 45 70 = some (.iconst 0, 1) := by decide +kernel
theorem q_45_71 : p_tb 45 71 = some (.ireturn, 1) := by decide +kernel
theorem t_ft_45_17 : p_f2 p_ft (p_mK 45) 17 = some (4, 3) := by decide +kernel
theorem t_ft_45_21 : p_f2 p_ft (p_mK 45) 21 = some (4, 4) := by decide +kernel
theorem q_44_0 : p_tb 44 0 = some (.aload 4, 2) := by decide +kernel
theorem q_44_2 : p_tb 44 2 = some (.getfield 153, 3) := by decide +kernel
theorem q_44_5 : p_tb 44 5 = some (.iload_n 2, 1) := by decide +kernel
theorem q_44_6 : p_tb 44 6 = some (.aaload, 1) := by decide +kernel
theorem q_44_7 : p_tb 44 7 = some (.astore 5, 2) := by decide +kernel
theorem q_44_9 : p_tb 44 9 = some (.aload_n 0, 1) := by decide +kernel
theorem q_44_10 : p_tb 44 10 = some (.getfield 13, 3) := by decide +kernel
theorem q_44_13 : p_tb 44 13 = some (.iload_n 1, 1) := by decide +kernel
theorem q_44_14 : p_tb 44 14 = some (.aaload, 1) := by decide +kernel
theorem q_44_15 : p_tb 44 15 = some (.getstatic 102, 3) := by decide +kernel
theorem q_44_18 : p_tb 44 18 = some (.if_acmp .ne 17, 3) := by decide +kernel
theorem q_44_21 : p_tb 44 21 = some (.aload 5, 2) := by decide +kernel
theorem q_44_23 : p_tb 44 23 = some (.getfield 158, 3) := by decide +kernel
theorem q_44_26 : p_tb 44 26 = some (.ifCond .ne 7, 3) := by decide +kernel
theorem q_44_29 : p_tb 44 29 = some (.iconst 1, 1) := by decide +kernel
theorem q_44_30 : p_tb 44 30 = some (.goto 4, 3) := by decide +kernel
theorem q_44_33 : p_tb 44 33 = some (.iconst 0, 1) := by decide +kernel
theorem q_44_34 : p_tb 44 34 = some (.ireturn, 1) := by decide +kernel
theorem q_44_35 : p_tb 44 35 = some (.aload_n 0, 1) := by decide +kernel
theorem q_44_36 : p_tb 44 36 = some (.getfield 13, 3) := by decide +kernel
theorem q_44_39 : p_tb 44 39 = some (.iload_n 1, 1) := by decide +kernel
theorem q_44_40 : p_tb 44 40 = some (.aaload, 1) := by decide +kernel
theorem q_44_41 : p_tb 44 41 = some (.getstatic 105, 3) := by decide +kernel
theorem q_44_44 : p_tb 44 44 = some (.if_acmp .ne 9, 3) := by decide +kernel
theorem q_44_47 : p_tb 44 47 = some (.aload 5, 2) := by decide +kernel
theorem q_44_49 : p_tb 44 49 = some (.getfield 164, 3) := by decide +kernel
theorem q_44_52 : p_tb 44 52 = some (.ireturn, 1) := by decide +kernel
theorem q_44_53 : p_tb 44 53 = some (.aload_n 0, 1) := by decide +kernel
theorem q_44_54 : p_tb 44 54 = some (.getfield 13, 3) := by decide +kernel
theorem q_44_57 : p_tb 44 57 = some (.iload_n 1, 1) := by decide +kernel
theorem q_44_58 : p_tb 44 58 = some (.aaload, 1) := by decide +kernel
theorem q_44_59 : p_tb 44 59 = some (.getstatic 108, 3) := by decide +kernel
theorem q_44_62 : p_tb 44 62 = some (.if_acmp .ne 10, 3) := by decide +kernel
theorem q_44_65 : p_tb 44 65 = some (.aload 4, 2) := by decide +kernel
theorem q_44_67 : p_tb 44 67 = some (.iload_n 2, 1) := by decide +kernel
theorem q_44_68 : p_tb 44 68 = some (.invokevirtual 167, 3) := by decide +kernel
theorem q_44_71 : p_tb 44 71 = some (.ireturn, 1) := by decide +kernel
theorem q_44_72 : p_tb 44 72 = some (.aload_n 0, 1) := by decide +kernel
theorem q_44_73 : p_tb 44 73 = some (.getfield 13, 3) := by decide +kernel
theorem q_44_76 : p_tb 44 76 = some (.iload_n 1, 1) := by decide +kernel
theorem q_44_77 : p_tb 44 77 = some (.aaload, 1) := by decide +kernel
theorem q_44_78 : p_tb 44 78 = some (.getstatic 99, 3) := by decide +kernel
theorem q_44_81 : p_tb 44 81 = some (.if_acmp .ne 41, 3) := by decide +kernel
theorem q_44_84 : p_tb 44 84 = some (.aload_n 0, 1) := by decide +kernel
theorem q_44_85 : p_tb 44 85 = some (.getfield 21, 3) := by decide +kernel
theorem q_44_88 : p_tb 44 88 = some (.iload_n 1, 1) := by decide +kernel
theorem q_44_89 : p_tb 44 89 = some (.iaload, 1) := by decide +kernel
theorem q_44_90 : p_tb 44 90 = some (.aload_n 3, 1) := by decide +kernel
theorem q_44_91 : p_tb 44 91 = some (.getfield 132, 3) := by decide +kernel
theorem q_44_94 : p_tb 44 94 = some (.if_icmp .ge 26, 3) := by decide +kernel
theorem q_44_97 : p_tb 44 97 = some (.aload 4, 2) := by decide +kernel
theorem q_44_99 : p_tb 44 99 = some (.iload_n 2, 1) := by decide +kernel
theorem q_44_100 : p_tb 44 100 = some (.aload_n 0, 1) := by decide +kernel
theorem q_44_101 : p_tb 44 101 = some (.getfield 21, 3) := by decide +kernel
theorem q_44_104 : p_tb 44 104 = some (.iload_n 1, 1) := by decide +kernel
theorem q_44_105 : p_tb 44 105 = some (.iaload, 1) := by decide +kernel
theorem q_44_106 : p_tb 44 106 = some (.invokevirtual 170, 3) := by decide +kernel
theorem q_44_109 : p_tb 44 109 = some (.aload_n 3, 1) := by decide +kernel
theorem q_44_110 : p_tb 44 110 = some (.getfield 173, 3) := by decide +kernel
theorem q_44_113 : p_tb 44 113 = some (.if_icmp .gt 7, 3) := by decide +kernel
theorem q_44_116 : p_tb 44 116 = some (.iconst 1, 1) := by decide +kernel
theorem q_44_117 : p_tb 44 117 = some (.goto 4, 3) := by decide +kernel
theorem q_44_120 : p_tb 44 120 = some (.iconst 0, 1) := by decide +kernel
theorem q_44_121 : p_tb 44 121 = some (.ireturn, 1) := by decide +kernel
theorem q_44_122 : p_tb 44 122 = some (.aload_n 0, 1) := by decide +kernel
theorem q_44_123 : p_tb 44 123 = some (.getfield 13, 3) := by decide +kernel
theorem q_44_126 : p_tb 44 126 = some (.iload_n 1, 1) := by decide +kernel
theorem q_44_127 : p_tb 44 127 = some (.aaload, 1) := by decide +kernel
theorem q_44_128 : p_tb 44 128 = some (.getstatic 111, 3) := by decide +kernel
theorem q_44_131 : p_tb 44 131 = some (.if_acmp .ne 14, 3) := by decide +kernel
theorem q_44_134 : p_tb 44 134 = some (.aload_n 0, 1) := by decide +kernel
theorem q_44_135 : p_tb 44 135 = some (.aload 5, 2) := by decide +kernel
theorem q_44_137 : p_tb 44 137 = some (.getfield 176, 3) := by decide +kernel
theorem q_44_140 : p_tb 44 140 = some (.iload_n 1, 1) := by decide +kernel
theorem q_44_141 : p_tb 44 141 = some (.invokevirtual 179, 3) := by decide +kernel
theorem q_44_144 : p_tb 44 144 = some (.ireturn, 1) := by decide +kernel
theorem q_44_145 : p_tb 44 145 = some (.aload_n 0, 1) := by decide +kernel
theorem q_44_146 : p_tb 44 146 = some (.getfield 13, 3) := by decide +kernel
theorem q_44_149 : p_tb 44 149 = some (.iload_n 1, 1) := by decide +kernel
theorem q_44_150 : p_tb 44 150 = some (.aaload, 1) := by decide +kernel
theorem q_44_151 : p_tb 44 151 = some (.getstatic 114, 3) := by decide +kernel
theorem q_44_154 : p_tb 44 154 = some (.if_acmp .ne 15, 3) := by decide +kernel
theorem q_44_157 : p_tb 44 157 = some (.aload_n 0, 1) := by decide +kernel
theorem q_44_158 : p_tb 44 158 = some (.aload_n 3, 1) := by decide +kernel
theorem q_44_159 : p_tb 44 159 = some (.getfield 183, 3) := by decide +kernel
theorem q_44_162 : p_tb 44 162 = some (.iload_n 2, 1) := by decide +kernel
theorem q_44_163 : p_tb 44 163 = some (.iaload, 1) := by decide +kernel
theorem q_44_164 : p_tb 44 164 = some (.iload_n 1, 1) := by decide +kernel
theorem q_44_165 : p_tb 44 165 = some (.invokevirtual 179, 3) := by decide +kernel
theorem q_44_168 : p_tb 44 168 = some (.ireturn, 1) := by decide +kernel
theorem q_44_169 : p_tb 44 169 = some (.aload_n 0, 1) := by decide +kernel
theorem q_44_170 : p_tb 44 170 = some (.aload_n 0, 1) := by decide +kernel
theorem q_44_171 : p_tb 44 171 = some (.getfield 13, 3) := by decide +kernel
theorem q_44_174 : p_tb 44 174 = some (.iload_n 1, 1) := by decide +kernel
theorem q_44_175 : p_tb 44 175 = some (.aaload, 1) := by decide +kernel
theorem q_44_176 : p_tb 44 176 = some (.getstatic 117, 3) := by decide +kernel
theorem q_44_179 : p_tb 44 179 = some (.if_acmp .ne 11, 3) := by decide +kernel
theorem q_44_182 : p_tb 44 182 = some (.aload 5, 2) := by decide +kernel
theorem q_44_184 : p_tb 44 184 = some (.getfield 186, 3) := by decide +kernel
theorem q_44_187 : p_tb 44 187 = some (.goto 4, 3) := by decide +kernel
theorem q_44_190 : p_tb 44 190 = some (.iload_n 2, 1) := by decide +kernel
theorem q_44_191 : p_tb 44 191 = some (.iload_n 1, 1) := by decide +kernel
theorem q_44_192 : p_tb 44 192 = some (.invokevirtual 179, 3) := by decide +kernel
theorem q_44_195 : p_tb 44 195 = some (.ireturn, 1) := by decide +kernel
theorem t_fN_44_132 : p_f2 p_fN (p_mK 44) 132 = some (3, 6) := by decide +kernel
theorem t_fN_44_153 : p_f2 p_fN (p_mK 44) 153 = some (5, 3) := by decide +kernel
theorem t_fN_44_158 : p_f2 p_fN (p_mK 44) 158 = some (8, 4) := by decide +kernel
theorem t_fN_44_164 : p_f2 p_fN (p_mK 44) 164 = some (8, 3) := by decide +kernel
theorem t_fN_44_173 : p_f2 p_fN (p_mK 44) 173 = some (3, 2) := by decide +kernel
theorem t_fN_44_176 : p_f2 p_fN (p_mK 44) 176 = some (8, 0) := by decide +kernel
theorem t_fN_44_183 : p_f2 p_fN (p_mK 44) 183 = some (3, 10) := by decide +kernel
theorem t_fN_44_186 : p_f2 p_fN (p_mK 44) 186 = some (8, 5) := by decide +kernel
theorem t_ft_44_13 : p_f2 p_ft (p_mK 44) 13 = some (4, 2) := by decide +kernel
theorem t_ft_44_21 : p_f2 p_ft (p_mK 44) 21 = some (4, 4) := by decide +kernel
theorem t_mv_44_167 : p_f2 p_mv (p_mK 44) 167 = some 53 := by decide +kernel
theorem t_mv_44_170 : p_f2 p_mv (p_mK 44) 170 = some 49 := by decide +kernel
theorem t_mv_44_179 : p_f2 p_mv (p_mK 44) 179 = some 45 := by decide +kernel
theorem t_st_44_102 : p_f2 p_st (p_mK 44) 102 = some 20 := by decide +kernel
theorem t_st_44_105 : p_f2 p_st (p_mK 44) 105 = some 21 := by decide +kernel
theorem t_st_44_108 : p_f2 p_st (p_mK 44) 108 = some 22 := by decide +kernel
theorem t_st_44_111 : p_f2 p_st (p_mK 44) 111 = some 24 := by decide +kernel
theorem t_st_44_114 : p_f2 p_st (p_mK 44) 114 = some 25 := by decide +kernel
theorem t_st_44_117 : p_f2 p_st (p_mK 44) 117 = some 26 := by decide +kernel
theorem t_st_44_99 : p_f2 p_st (p_mK 44) 99 = some 23 := by decide +kernel
theorem q_43_0 : p_tb 43 0 = some (.iconst 0, 1) := by decide +kernel
theorem q_43_1 : p_tb 43 1 = some (.istore 4, 2) := by decide +kernel
theorem q_43_3 : p_tb 43 3 = some (.iconst 0, 1) := by decide +kernel
theorem q_43_4 : p_tb 43 4 = some (.istore 5, 2) := by decide +kernel
theorem q_43_6 : p_tb 43 6 = some (.iload 5, 2) := by decide +kernel
theorem q_43_8 : p_tb 43 8 = some (.aload_n 2, 1) := by decide +kernel
theorem q_43_9 : p_tb 43 9 = some (.getfield 132, 3) := by decide +kernel
theorem q_43_12 : p_tb 43 12 = some (.if_icmp .ge 30, 3) := by decide +kernel
theorem q_43_15 : p_tb 43 15 = some (.aload_n 0, 1) := by decide +kernel
theorem q_43_16 : p_tb 43 16 = some (.iload_n 1, 1) := by decide +kernel
theorem q_43_17 : p_tb 43 17 = some (.iload 5, 2) := by decide +kernel
theorem q_43_19 : p_tb 43 19 = some (.aload_n 2, 1) := by decide +kernel
theorem q_43_20 : p_tb 43 20 = some (.aload_n 3, 1) := by decide +kernel
theorem q_43_21 : p_tb 43 21 = some (.invokevirtual 149, 3) := by decide +kernel
theorem q_43_24 : p_tb 43 24 = some (.ifCond .eq 12, 3) := by decide +kernel
theorem q_43_27 : p_tb 43 27 = some (.iload 4, 2) := by decide +kernel
theorem q_43_29 : p_tb 43 29 = some (.iconst 1, 1) := by decide +kernel
theorem q_43_30 : p_tb 43 30 = some (.iload 5, 2) := by decide +kernel
theorem q_43_32 : p_tb 43 32 = some (.ishl, 1) := by decide +kernel
theorem q_43_33 : p_tb 43 33 = some (.ior, 1) := by decide +kernel
theorem q_43_34 : p_tb 43 34 = some (.istore 4, 2) := by decide +kernel
theorem q_43_36 : p_tb 43 36 = some (.iinc 5 1, 3) := by decide +kernel
theorem q_43_39 : p_tb 43 39 = some (.goto (-33), 3) := by decide +kernel
theorem q_43_42 : p_tb 43 42 = some (.iload 4, 2) := by decide +kernel
theorem q_43_44 : p_tb 43 44 = some (.ireturn, 1) := by decide +kernel
theorem t_fN_43_132 : p_f2 p_fN (p_mK 43) 132 = some (3, 6) := by decide +kernel
theorem t_mv_43_149 : p_f2 p_mv (p_mK 43) 149 = some 44 := by decide +kernel
theorem q_42_0 : p_tb 42 0 = some (.iconst 1, 1) := by decide +kernel
theorem q_42_1 : p_tb 42 1 = some (.aload_n 1, 1) := by decide +kernel
theorem q_42_2 : p_tb 42 2 = some (.getfield 132, 3) := by decide +kernel
theorem q_42_5 : p_tb 42 5 = some (.ishl, 1) := by decide +kernel
theorem q_42_6 : p_tb 42 6 = some (.iconst 1, 1) := by decide +kernel
theorem q_42_7 : p_tb 42 7 = some (.isub, 1) := by decide +kernel
theorem q_42_8 : p_tb 42 8 = some (.istore_n 3, 1) := by decide +kernel
theorem q_42_9 : p_tb 42 9 = some (.iconst 0, 1) := by decide +kernel
theorem q_42_10 : p_tb 42 10 = some (.istore 4, 2) := by decide +kernel
theorem q_42_12 : p_tb 42 12 = some (.iconst 0, 1) := by decide +kernel
theorem q_42_13 : p_tb 42 13 = some (.istore 5, 2) := by decide +kernel
theorem q_42_15 : p_tb 42 15 = some (.iload 5, 2) := by decide +kernel
theorem q_42_17 : p_tb 42 17 = some (.aload_n 0, 1) := by decide +kernel
theorem q_42_18 : p_tb 42 18 = some (.getfield 31, 3) := by decide +kernel
theorem q_42_21 : p_tb 42 21 = some (.if_icmp .ge 157, 3) := by decide +kernel
theorem q_42_24 : p_tb 42 24 = some (.aload_n 0, 1) := by decide +kernel
theorem q_42_25 : p_tb 42 25 = some (.getfield 13, 3) := by decide +kernel
theorem q_42_28 : p_tb 42 28 = some (.iload 5, 2) := by decide +kernel
theorem q_42_30 : p_tb 42 30 = some (.aaload, 1) := by decide +kernel
theorem q_42_31 : p_tb 42 31 = some (.getstatic 80, 3) := by decide +kernel
theorem q_42_34 : p_tb 42 34 = some (.if_acmp .ne 25, 3) := by decide +kernel
theorem q_42_37 : p_tb 42 37 = some (.iload 4, 2) := by decide +kernel
theorem q_42_39 : p_tb 42 39 = some (.iconst 1, 1) := by decide +kernel
theorem q_42_40 : p_tb 42 40 = some (.if_icmp .lt 19, 3) := by decide +kernel
theorem q_42_43 : p_tb 42 43 = some (.aload_n 0, 1) := by decide +kernel
theorem q_42_44 : p_tb 42 44 = some (.getfield 24, 3) := by decide +kernel
theorem q_42_47 : p_tb 42 47 = some (.iload 4, 2) := by decide +kernel
theorem q_42_49 : p_tb 42 49 = some (.iconst 1, 1) := by decide +kernel
theorem q_42_50 : p_tb 42 50 = some (.isub, 1) := by decide +kernel
theorem q_42_51 : p_tb 42 51 = some (.dup2, 1) := by decide +kernel
theorem q_42_52 : p_tb 42 52 = some (.iaload, 1) := by decide +kernel
theorem q_42_53 : p_tb 42 53 = some (.iload_n 3, 1) := by decide +kernel
theorem q_42_54 : p_tb 42 54 = some (.ixor, 1) := by decide +kernel
theorem q_42_55 : p_tb 42 55 = some (.iastore, 1) := by decide +kernel
theorem q_42_56 : p_tb 42 56 = some (.goto 116, 3) := by decide +kernel
theorem q_42_59 : p_tb 42 59 = some (.aload_n 0, 1) := by decide +kernel
theorem q_42_60 : p_tb 42 60 = some (.getfield 13, 3) := by decide +kernel
theorem q_42_63 : p_tb 42 63 = some (.iload 5, 2) := by decide +kernel
theorem q_42_65 : p_tb 42 65 = some (.aaload, 1) := by decide +kernel
theorem q_42_66 : p_tb 42 66 = some (.getstatic 69, 3) := by decide +kernel
theorem q_42_69 : p_tb 42 69 = some (.if_acmp .ne 34, 3) := by decide +kernel
theorem q_42_72 : p_tb 42 72 = some (.iload 4, 2) := by decide +kernel
theorem q_42_74 : p_tb 42 74 = some (.iconst 2, 1) := by decide +kernel
theorem q_42_75 : p_tb 42 75 = some (.if_icmp .lt 28, 3) := by decide +kernel
theorem q_42_78 : p_tb 42 78 = some (.iinc 4 (-1), 3) := by decide +kernel
theorem q_42_81 : p_tb 42 81 = some (.aload_n 0, 1) := by decide +kernel
theorem q_42_82 : p_tb 42 82 = some (.getfield 24, 3) := by decide +kernel
theorem q_42_85 : p_tb 42 85 = some (.iload 4, 2) := by decide +kernel
theorem q_42_87 : p_tb 42 87 = some (.iconst 1, 1) := by decide +kernel
theorem q_42_88 : p_tb 42 88 = some (.isub, 1) := by decide +kernel
theorem q_42_89 : p_tb 42 89 = some (.dup2, 1) := by decide +kernel
theorem q_42_90 : p_tb 42 90 = some (.iaload, 1) := by decide +kernel
theorem q_42_91 : p_tb 42 91 = some (.aload_n 0, 1) := by decide +kernel
theorem q_42_92 : p_tb 42 92 = some (.getfield 24, 3) := by decide +kernel
theorem q_42_95 : p_tb 42 95 = some (.iload 4, 2) := by decide +kernel
theorem q_42_97 : p_tb 42 97 = some (.iaload, 1) := by decide +kernel
theorem q_42_98 : p_tb 42 98 = some (.iand, 1) := by decide +kernel
theorem q_42_99 : p_tb 42 99 = some (.iastore, 1) := by decide +kernel
theorem q_42_100 : p_tb 42 100 = some (.goto 72, 3) := by decide +kernel
theorem q_42_103 : p_tb 42 103 = some (.aload_n 0, 1) := by decide +kernel
theorem q_42_104 : p_tb 42 104 = some (.getfield 13, 3) := by decide +kernel
theorem q_42_107 : p_tb 42 107 = some (.iload 5, 2) := by decide +kernel
theorem q_42_109 : p_tb 42 109 = some (.aaload, 1) := by decide +kernel
theorem q_42_110 : p_tb 42 110 = some (.getstatic 54, 3) := by decide +kernel
theorem q_42_113 : p_tb 42 113 = some (.if_acmp .ne 34, 3) := by decide +kernel
theorem q_42_116 : p_tb 42 116 = some (.iload 4, 2) := by decide +kernel
theorem q_42_118 : p_tb 42 118 = some (.iconst 2, 1) := by decide +kernel
theorem q_42_119 : p_tb 42 119 = some (.if_icmp .lt 28, 3) := by decide +kernel
theorem q_42_122 : p_tb 42 122 = some (.iinc 4 (-1), 3) := by decide +kernel
theorem q_42_125 : p_tb 42 125 = some (.aload_n 0, 1) := by decide +kernel
theorem q_42_126 : p_tb 42 126 = some (.getfield 24, 3) := by decide +kernel
theorem q_42_129 : p_tb 42 129 = some (.iload 4, 2) := by decide +kernel
theorem q_42_131 : p_tb 42 131 = some (.iconst 1, 1) := by decide +kernel
theorem q_42_132 : p_tb 42 132 = some (.isub, 1) := by decide +kernel
theorem q_42_133 : p_tb 42 133 = some (.dup2, 1) := by decide +kernel
theorem q_42_134 : p_tb 42 134 = some (.iaload, 1) := by decide +kernel
theorem q_42_135 : p_tb 42 135 = some (.aload_n 0, 1) := by decide +kernel
theorem q_42_136 : p_tb 42 136 = some (.getfield 24, 3) := by decide +kernel
theorem q_42_139 : p_tb 42 139 = some (.iload 4, 2) := by decide +kernel
theorem q_42_141 : p_tb 42 141 = some (.iaload, 1) := by decide +kernel
theorem q_42_142 : p_tb 42 142 = some (.ior, 1) := by decide +kernel
theorem q_42_143 : p_tb 42 143 = some (.iastore, 1) := by decide +kernel
theorem q_42_144 : p_tb 42 144 = some (.goto 28, 3) := by decide +kernel
theorem q_42_147 : p_tb 42 147 = some (.iload 4, 2) := by decide +kernel
theorem q_42_149 : p_tb 42 149 = some (.bipush 40, 2) := by decide +kernel
theorem q_42_151 : p_tb 42 151 = some (.if_icmp .ge 21, 3) := by decide +kernel
theorem q_42_154 : p_tb 42 154 = some (.aload_n 0, 1) := by decide +kernel
theorem q_42_155 : p_tb 42 155 = some (.getfield 24, 3) := by decide +kernel
theorem q_42_158 : p_tb 42 158 = some (.iload 4, 2) := by decide +kernel
theorem q_42_160 : p_tb 42 160 = some (.aload_n 0, 1) := by decide +kernel
theorem q_42_161 : p_tb 42 161 = some (.iload 5, 2) := by decide +kernel
theorem q_42_163 : p_tb 42 163 = some (.aload_n 1, 1) := by decide +kernel
theorem q_42_164 : p_tb 42 164 = some (.aload_n 2, 1) := by decide +kernel
theorem q_42_165 : p_tb 42 165 = some (.invokevirtual 145, 3) := by decide +kernel
theorem q_42_168 : p_tb 42 168 = some (.iastore, 1) := by decide +kernel
theorem q_42_169 : p_tb 42 169 = some (.iinc 4 1, 3) := by decide +kernel
theorem q_42_172 : p_tb 42 172 = some (.iinc 5 1, 3) := by decide +kernel
theorem q_42_175 : p_tb 42 175 = some (.goto (-160), 3) := by decide +kernel
theorem q_42_178 : p_tb 42 178 = some (.iload 4, 2) := by decide +kernel
theorem q_42_180 : p_tb 42 180 = some (.ifCond .le 12, 3) := by decide +kernel
theorem q_42_183 : p_tb 42 183 = some (.aload_n 0, 1) := by decide +kernel
theorem q_42_184 : p_tb 42 184 = some (.getfield 24, 3) := by decide +kernel
theorem q_42_187 : p_tb 42 187 = some (.iconst 0, 1) := by decide +kernel
theorem q_42_188 : p_tb 42 188 = some (.iaload, 1) := by decide +kernel
theorem q_42_189 : p_tb 42 189 = some (.goto 4, 3) := by decide +kernel
theorem q_42_192 : p_tb 42 192 = some (.iconst 0, 1) := by decide +kernel
theorem q_42_193 : p_tb 42 193 = some (.ireturn, 1) := by decide +kernel
theorem t_fN_42_132 : p_f2 p_fN (p_mK 42) 132 = some (3, 6) := by decide +kernel
theorem t_ft_42_13 : p_f2 p_ft (p_mK 42) 13 = some (4, 2) := by decide +kernel
theorem t_ft_42_24 : p_f2 p_ft (p_mK 42) 24 = some (4, 5) := by decide +kernel
theorem t_ft_42_31 : p_f2 p_ft (p_mK 42) 31 = some (4, 1) := by decide +kernel
theorem t_mv_42_145 : p_f2 p_mv (p_mK 42) 145 = some 43 := by decide +kernel
theorem t_st_42_54 : p_f2 p_st (p_mK 42) 54 = some 17 := by decide +kernel
theorem t_st_42_69 : p_f2 p_st (p_mK 42) 69 = some 18 := by decide +kernel
theorem t_st_42_80 : p_f2 p_st (p_mK 42) 80 = some 19 := by decide +kernel
theorem gC_18_0_0 : gC 18 0 0 (-2147483648) 2147483647 := gC.of (by decide +kernel)
theorem gC_18_0_1 : gC 18 0 1 (-2147483648) 2147483647 := gC.of (by decide +kernel)
theorem gC_18_0_38 : gC 18 0 38 (-2147483648) 2147483647 := gC.of (by decide +kernel)
theorem gC_18_0_39 : gC 18 0 39 (-2147483648) 2147483647 := gC.of (by decide +kernel)
theorem c_X4_forget (V : pM → Prop) (hV : Stab V) (G : pG) (Kr : pK) (M : pM) (I : Iv V M) (k0 : Nat) (hk_k0 : g_kd k0 = 14) (hK : ∀ (M1 : pM), Iv V M1 → Fr [14] M M1 → Kr.1 none 311 M1) : PW G false 0 33 (p_mc 33) (p_msl 33) Kr 0 (lv_args 0 [.ref k0]) [] 311 M 0 0 := by
  have F : Fr [14] M M := Fr.refl
  refine PW.aload_n q_33_0 rfl ?_
  refine PW.cI q_33_1 (by decide) fun c1 hc1 => ?_
  refine PW.pI q_33_2 (Or.inl t_ft_33_27) gF_14_0 gP_14_0 hk_k0 hV I (by decide) rfl (n_lo _) (n_hi _) fun M2 IM2 fM2 UM2 => ?_
  have FM2 := Fr.pu F UM2.1 hk_k0 (rfl : List.contains [14] 14 = true)
  refine PW.aload_n q_33_5 rfl ?_
  refine PW.cI q_33_6 (by decide) fun c3 hc3 => ?_
  refine PW.pI q_33_7 (Or.inl t_ft_33_31) gF_14_1 gP_14_1 hk_k0 hV IM2 (by decide) rfl (by omega) (by omega) fun M4 IM4 fM4 UM4 => ?_
  have FM4 := Fr.pu FM2 UM4.1 hk_k0 (rfl : List.contains [14] 14 = true)
  refine PW.vret q_33_10 rfl (by decide) (by decide) ?_
  exact hK M4 IM4 FM4
theorem c_X4_copyFrom (V : pM → Prop) (hV : Stab V) (G : pG) (Kr : pK) (M : pM) (I : Iv V M) (k0 : Nat) (hk_k0 : g_kd k0 = 14) (k1 : Nat) (hk_k1 : g_kd k1 = 14) (hK : ∀ (M1 : pM), Iv V M1 → Fr [14, 15, 16, 17] M M1 → Kr.1 none 311 M1) : PW G false 0 34 (p_mc 34) (p_msl 34) Kr 0 (lv_args 0 [.ref k0, .ref k1]) [] 311 M 0 0 := by
  have F : Fr [14, 15, 16, 17] M M := Fr.refl
  refine PW.aload_n q_34_0 rfl ?_
  refine PW.aload_n q_34_1 rfl ?_
  refine PW.gI q_34_2 (Or.inl t_ft_34_27) gF_14_0 hk_k1 I.1 (by decide) fun x1 fx1 hx1 kx1 => ?_
  clear hx1 kx1
  refine PW.pI q_34_5 (Or.inl t_ft_34_27) gF_14_0 gP_14_0 hk_k0 hV I (by decide) rfl (n_lo _) (n_hi _) fun M2 IM2 fM2 UM2 => ?_
  have FM2 := Fr.pu F UM2.1 hk_k0 (rfl : List.contains [14, 15, 16, 17] 14 = true)
  refine PW.aload_n q_34_8 rfl ?_
  refine PW.aload_n q_34_9 rfl ?_
  refine PW.gI q_34_10 (Or.inl t_ft_34_31) gF_14_1 hk_k1 IM2.1 (by decide) fun x3 fx3 hx3 kx3 => ?_
  refine PW.pI q_34_13 (Or.inl t_ft_34_31) gF_14_1 gP_14_1 hk_k0 hV IM2 (by decide) rfl (by omega) (by omega) fun M4 IM4 fM4 UM4 => ?_
  have FM4 := Fr.pu FM2 UM4.1 hk_k0 (rfl : List.contains [14, 15, 16, 17] 14 = true)
  refine PW.cI q_34_16 (by decide) fun c5 hc5 => ?_
  refine PW.istore_n q_34_17 (by decide) ?_
  have L34_18_6 : ∀ (n : Nat) (ML34_18_6 : pM) (v7 : Int32), Iv (V) ML34_18_6 → Fr [14, 15, 16, 17] M ML34_18_6 → 0 ≤ v7.toInt → v7.toInt ≤ 40 → (40 - v7.toInt).toNat = n → PW G false 0 34 (p_mc 34) (p_msl 34) Kr 18 [(0, .ref k0), (1, .ref k1), (2, .int v7)] [] 311 ML34_18_6 0 0 := by
    intro n
    induction n using Nat.strongRecOn with
    | ind n ih_L34_18_6 =>
    intro ML34_18_6 v7 IML34_18_6 FML34_18_6 hbL34_18_60 hbL34_18_61 hmL34_18_6
    refine PW.iload_n q_34_18 rfl ?_
    refine PW.cB q_34_19 (by decide) fun c8 hc8 => ?_
    refine PW.jc_ge q_34_21 rfl (fun h9 => ?_) (fun h9 => ?_)
    · skip
      refine PW.vret q_34_66 rfl (by decide) (by decide) ?_
      exact hK ML34_18_6 IML34_18_6 FML34_18_6
    · skip
      refine PW.aload_n q_34_24 rfl ?_
      refine PW.gRk q_34_25 (Or.inl t_ft_34_13) gF_14_2 hk_k0 IML34_18_6.1 (by decide) fun b10 hk_b10 e_b10 => ?_
      refine PW.iload_n q_34_28 rfl ?_
      refine PW.aload_n q_34_29 rfl ?_
      refine PW.gRk q_34_30 (Or.inl t_ft_34_13) gF_14_2 hk_k1 IML34_18_6.1 (by decide) fun b11 hk_b11 e_b11 => ?_
      refine PW.iload_n q_34_33 rfl ?_
      refine PW.aW q_34_34 rfl (by decide) (by decide) hk_b11 IML34_18_6.1 (by decide) (by omega) (by omega) fun r12 hr12 fr12 => ?_
      refine PW.wWo q_34_35 rfl hk_b10 hV IML34_18_6 (by decide) (by omega) (by omega) hr12 fun M13 IM13 UM13 => ?_
      have FM13 := Fr.pu FML34_18_6 UM13 hk_b10 (rfl : List.contains [14, 15, 16, 17] 15 = true)
      refine PW.aload_n q_34_36 rfl ?_
      refine PW.gRk q_34_37 (Or.inl t_ft_34_17) gF_14_3 hk_k0 IM13.1 (by decide) fun b14 hk_b14 e_b14 => ?_
      refine PW.iload_n q_34_40 rfl ?_
      refine PW.aload_n q_34_41 rfl ?_
      refine PW.gRk q_34_42 (Or.inl t_ft_34_17) gF_14_3 hk_k1 IM13.1 (by decide) fun b15 hk_b15 e_b15 => ?_
      refine PW.iload_n q_34_45 rfl ?_
      refine PW.aH q_34_46 gA_16 hk_b15 IM13.1 (by decide) (by omega) (by omega) fun x16 fx16 => ?_
      refine PW.wI q_34_47 gA_16 hk_b14 hV IM13 (by decide) rfl gC_16_0_39 (by decide) (by omega) (by omega) (n_lo _) (n_hi _) fun M17 IM17 fM17 UM17 => ?_
      have FM17 := Fr.pu FM13 UM17.1 hk_b14 (rfl : List.contains [14, 15, 16, 17] 16 = true)
      refine PW.aload_n q_34_48 rfl ?_
      refine PW.gRk q_34_49 (Or.inl t_ft_34_21) gF_14_4 hk_k0 IM17.1 (by decide) fun b18 hk_b18 e_b18 => ?_
      refine PW.iload_n q_34_52 rfl ?_
      refine PW.aload_n q_34_53 rfl ?_
      refine PW.gRk q_34_54 (Or.inl t_ft_34_21) gF_14_4 hk_k1 IM17.1 (by decide) fun b19 hk_b19 e_b19 => ?_
      refine PW.iload_n q_34_57 rfl ?_
      refine PW.aI q_34_58 gA_17 hk_b19 IM17.1 (by decide) gB_17_0_39 (by decide) (by omega) (by omega) fun x20 fx20 hx20 kx20 => ?_
      refine PW.wI q_34_59 gA_17 hk_b18 hV IM17 (by decide) rfl gC_17_0_39 (by decide) (by omega) (by omega) (by omega) (by omega) fun M21 IM21 fM21 UM21 => ?_
      have FM21 := Fr.pu FM17 UM21.1 hk_b18 (rfl : List.contains [14, 15, 16, 17] 17 = true)
      refine PW.incN q_34_60 rfl (by decide) (by decide) (by omega) (by omega) fun x22 hx22 => ?_
      refine PW.goto q_34_63 rfl ?_
      refine PW.lvS (lk1 rfl (lk1 rfl (lk1 rfl lk0))) (ih_L34_18_6 _ ?_ M21 x22 IM21 FM21 (by omega) (by omega) rfl)
      omega
  exact PW.lvS (lk1 rfl (lk1 rfl (lk1 rfl lk0))) (L34_18_6 _ M4 c5 IM4 FM4 (by omega) (by omega) rfl)
theorem c_X4_add (V : pM → Prop) (hV : Stab V) (G : pG) (Kr : pK) (M : pM) (I : Iv V M) (r1 : Nat) (hr1 : r1 < 28) (a2 : Int32) (a3 : Int32) (hl_a3 : 0 ≤ a3.toInt) (hh_a3 : a3.toInt ≤ 999) (hK : ∀ (x : Int32) (M1 : pM), Iv V M1 → Fr [14, 15, 16, 17] M M1 → 1 ≤ x.toInt → x.toInt ≤ 1 → Kr.1 (some (.int x)) 311 M1) : PW G false 0 41 (p_mc 41) (p_msl 41) Kr 0 (lv_args 0 [.ref 267, .ref (65536 + r1), .int a2, .int a3]) [] 311 M 0 0 := by
  have F : Fr [14, 15, 16, 17] M M := Fr.refl
  refine PW.aload_n q_41_0 rfl ?_
  refine PW.gI q_41_1 (Or.inl t_ft_41_31) gF_14_1 kd_267 I.1 (by decide) fun x1 fx1 hx1 kx1 => ?_
  refine PW.cB q_41_4 (by decide) fun c2 hc2 => ?_
  refine PW.jc_ge q_41_6 rfl (fun h3 => ?_) (fun h3 => ?_)
  · skip
    refine PW.cI q_41_49 (by decide) fun c4 hc4 => ?_
    refine PW.rZ q_41_50 rfl (by omega) (by omega) (by decide) (by decide) ?_
    exact hK c4 M I F (by omega) (by omega)
  · skip
    refine PW.aload_n q_41_9 rfl ?_
    refine PW.gR 268 q_41_10 (Or.inl t_ft_41_13) gF_14_2 kd_267 I.1 (by decide) rfl ?_
    refine PW.aload_n q_41_13 rfl ?_
    refine PW.gE q_41_14 (Or.inl t_ft_41_31) gF_14_1 kd_267 I.1 (by decide) fx1 ?_
    refine PW.aload_n q_41_17 rfl ?_
    refine PW.wWw q_41_18 rfl kd_268 hV I (by decide) (by omega) (by omega) hr1 fun M5 IM5 UM5 => ?_
    have FM5 := Fr.pu F UM5 kd_268 (rfl : List.contains [14, 15, 16, 17] 15 = true)
    refine PW.aload_n q_41_19 rfl ?_
    refine PW.gR 269 q_41_20 (Or.inl t_ft_41_17) gF_14_3 kd_267 IM5.1 (by decide) rfl ?_
    refine PW.aload_n q_41_23 rfl ?_
    refine PW.gE q_41_24 (Or.inl t_ft_41_31) gF_14_1 kd_267 IM5.1 (by decide) ((congrArg (fun e => o_f e 1) (UM5 _ (g_ne kd_267 kd_268 (by decide)))).trans fx1) ?_
    refine PW.iload_n q_41_27 rfl ?_
    refine PW.wI q_41_28 gA_16 kd_269 hV IM5 (by decide) rfl gC_16_0_39 (by decide) (by omega) (by omega) (n_lo _) (n_hi _) fun M6 IM6 fM6 UM6 => ?_
    have FM6 := Fr.pu FM5 UM6.1 kd_269 (rfl : List.contains [14, 15, 16, 17] 16 = true)
    refine PW.aload_n q_41_29 rfl ?_
    refine PW.gR 270 q_41_30 (Or.inl t_ft_41_21) gF_14_4 kd_267 IM6.1 (by decide) rfl ?_
    refine PW.aload_n q_41_33 rfl ?_
    refine PW.gE q_41_34 (Or.inl t_ft_41_31) gF_14_1 kd_267 IM6.1 (by decide) ((congrArg (fun e => o_f e 1) (UM6.1 _ (g_ne kd_267 kd_269 (by decide)))).trans ((congrArg (fun e => o_f e 1) (UM5 _ (g_ne kd_267 kd_268 (by decide)))).trans fx1)) ?_
    refine PW.iload_n q_41_37 rfl ?_
    refine PW.wI q_41_38 gA_17 kd_270 hV IM6 (by decide) rfl gC_17_0_39 (by decide) (by omega) (by omega) (by omega) (by omega) fun M7 IM7 fM7 UM7 => ?_
    have FM7 := Fr.pu FM6 UM7.1 kd_270 (rfl : List.contains [14, 15, 16, 17] 17 = true)
    refine PW.aload_n q_41_39 rfl ?_
    refine PW.dup q_41_40 rfl ?_
    refine PW.gE q_41_41 (Or.inl t_ft_41_31) gF_14_1 kd_267 IM7.1 (by decide) ((congrArg (fun e => o_f e 1) (UM7.1 _ (g_ne kd_267 kd_270 (by decide)))).trans ((congrArg (fun e => o_f e 1) (UM6.1 _ (g_ne kd_267 kd_269 (by decide)))).trans ((congrArg (fun e => o_f e 1) (UM5 _ (g_ne kd_267 kd_268 (by decide)))).trans fx1))) ?_
    refine PW.cI q_41_44 (by decide) fun c8 hc8 => ?_
    refine PW.addN q_41_45 (by omega) (by omega) fun x9 hx9 => ?_
    refine PW.pI q_41_46 (Or.inl t_ft_41_31) gF_14_1 gP_14_1 kd_267 hV IM7 (by decide) rfl (by omega) (by omega) fun M10 IM10 fM10 UM10 => ?_
    have FM10 := Fr.pu FM7 UM10.1 kd_267 (rfl : List.contains [14, 15, 16, 17] 14 = true)
    refine PW.cI q_41_49 (by decide) fun c11 hc11 => ?_
    refine PW.rZ q_41_50 rfl (by omega) (by omega) (by decide) (by decide) ?_
    exact hK c11 M10 IM10 FM10 (by omega) (by omega)
theorem c_X4_beginsOne (V : pM → Prop) (hV : Stab V) (G : pG) (Kr : pK) (M : pM) (I : Iv V M)  (hK : ∀ (x : Int32) (M1 : pM), Iv V M1 → Fr [] M M1 → 0 ≤ x.toInt → x.toInt ≤ 1 → Kr.1 (some (.int x)) 311 M1) : PW G false 1 39 (p_mc 39) (p_msl 39) Kr 0 (lv_args 0 [.ref 1]) [] 311 M 0 0 := by
  have F : Fr [] M M := Fr.refl
  refine PW.aload_n q_39_0 rfl ?_
  refine PW.cB q_39_1 (by decide) fun c1 hc1 => ?_
  refine PW.cV (as := [_]) (rest := []) q_39_3 t_mv_39_83 kd_1 I.1 (by decide) rfl (by decide) rfl rfl (Nat.le_of_ble_eq_true rfl) (Nat.le_of_ble_eq_true rfl) (by decide) (by decide) ?_
  refine PW.up (by decide) (c_X7_seesSign (V) (hV) G _ M I c1 fun x3 M2 IM2 GM2 hx3 kx3 => ?_)
  have FM2 := Fr.trans F GM2 (rfl)
  refine PW.jz_ne q_39_6 rfl (fun h4 => ?_) (fun h4 => ?_)
  · skip
    refine PW.cI q_39_99 (by decide) fun c5 hc5 => ?_
    refine PW.goto q_39_100 rfl ?_
    refine PW.rZ q_39_104 rfl (by omega) (by omega) (by decide) (by decide) ?_
    exact hK c5 M2 IM2 FM2 (by omega) (by omega)
  · skip
    refine PW.aload_n q_39_9 rfl ?_
    refine PW.gets q_39_10 t_st_39_80 ?_
    refine PW.cV (as := [_]) (rest := []) q_39_13 t_mv_39_96 kd_1 IM2.1 (by decide) rfl (by decide) rfl rfl (Nat.le_of_ble_eq_true rfl) (Nat.le_of_ble_eq_true rfl) (by decide) (by decide) ?_
    refine PW.up (by decide) (c_X7_sees (V) (hV) G _ M2 IM2 19 (by decide) fun x7 M6 IM6 GM6 hx7 kx7 => ?_)
    have FM6 := Fr.trans FM2 GM6 (rfl)
    refine PW.jz_ne q_39_16 rfl (fun h8 => ?_) (fun h8 => ?_)
    · skip
      refine PW.cI q_39_99 (by decide) fun c9 hc9 => ?_
      refine PW.goto q_39_100 rfl ?_
      refine PW.rZ q_39_104 rfl (by omega) (by omega) (by decide) (by decide) ?_
      exact hK c9 M6 IM6 FM6 (by omega) (by omega)
    · skip
      refine PW.aload_n q_39_19 rfl ?_
      refine PW.gets q_39_20 t_st_39_99 ?_
      refine PW.cV (as := [_]) (rest := []) q_39_23 t_mv_39_96 kd_1 IM6.1 (by decide) rfl (by decide) rfl rfl (Nat.le_of_ble_eq_true rfl) (Nat.le_of_ble_eq_true rfl) (by decide) (by decide) ?_
      refine PW.up (by decide) (c_X7_sees (V) (hV) G _ M6 IM6 23 (by decide) fun x11 M10 IM10 GM10 hx11 kx11 => ?_)
      have FM10 := Fr.trans FM6 GM10 (rfl)
      refine PW.jz_ne q_39_26 rfl (fun h12 => ?_) (fun h12 => ?_)
      · skip
        refine PW.cI q_39_99 (by decide) fun c13 hc13 => ?_
        refine PW.goto q_39_100 rfl ?_
        refine PW.rZ q_39_104 rfl (by omega) (by omega) (by decide) (by decide) ?_
        exact hK c13 M10 IM10 FM10 (by omega) (by omega)
      · skip
        refine PW.aload_n q_39_29 rfl ?_
        refine PW.gets q_39_30 t_st_39_102 ?_
        refine PW.cV (as := [_]) (rest := []) q_39_33 t_mv_39_96 kd_1 IM10.1 (by decide) rfl (by decide) rfl rfl (Nat.le_of_ble_eq_true rfl) (Nat.le_of_ble_eq_true rfl) (by decide) (by decide) ?_
        refine PW.up (by decide) (c_X7_sees (V) (hV) G _ M10 IM10 20 (by decide) fun x15 M14 IM14 GM14 hx15 kx15 => ?_)
        have FM14 := Fr.trans FM10 GM14 (rfl)
        refine PW.jz_ne q_39_36 rfl (fun h16 => ?_) (fun h16 => ?_)
        · skip
          refine PW.cI q_39_99 (by decide) fun c17 hc17 => ?_
          refine PW.goto q_39_100 rfl ?_
          refine PW.rZ q_39_104 rfl (by omega) (by omega) (by decide) (by decide) ?_
          exact hK c17 M14 IM14 FM14 (by omega) (by omega)
        · skip
          refine PW.aload_n q_39_39 rfl ?_
          refine PW.gets q_39_40 t_st_39_105 ?_
          refine PW.cV (as := [_]) (rest := []) q_39_43 t_mv_39_96 kd_1 IM14.1 (by decide) rfl (by decide) rfl rfl (Nat.le_of_ble_eq_true rfl) (Nat.le_of_ble_eq_true rfl) (by decide) (by decide) ?_
          refine PW.up (by decide) (c_X7_sees (V) (hV) G _ M14 IM14 21 (by decide) fun x19 M18 IM18 GM18 hx19 kx19 => ?_)
          have FM18 := Fr.trans FM14 GM18 (rfl)
          refine PW.jz_ne q_39_46 rfl (fun h20 => ?_) (fun h20 => ?_)
          · skip
            refine PW.cI q_39_99 (by decide) fun c21 hc21 => ?_
            refine PW.goto q_39_100 rfl ?_
            refine PW.rZ q_39_104 rfl (by omega) (by omega) (by decide) (by decide) ?_
            exact hK c21 M18 IM18 FM18 (by omega) (by omega)
          · skip
            refine PW.aload_n q_39_49 rfl ?_
            refine PW.gets q_39_50 t_st_39_108 ?_
            refine PW.cV (as := [_]) (rest := []) q_39_53 t_mv_39_96 kd_1 IM18.1 (by decide) rfl (by decide) rfl rfl (Nat.le_of_ble_eq_true rfl) (Nat.le_of_ble_eq_true rfl) (by decide) (by decide) ?_
            refine PW.up (by decide) (c_X7_sees (V) (hV) G _ M18 IM18 22 (by decide) fun x23 M22 IM22 GM22 hx23 kx23 => ?_)
            have FM22 := Fr.trans FM18 GM22 (rfl)
            refine PW.jz_ne q_39_56 rfl (fun h24 => ?_) (fun h24 => ?_)
            · skip
              refine PW.cI q_39_99 (by decide) fun c25 hc25 => ?_
              refine PW.goto q_39_100 rfl ?_
              refine PW.rZ q_39_104 rfl (by omega) (by omega) (by decide) (by decide) ?_
              exact hK c25 M22 IM22 FM22 (by omega) (by omega)
            · skip
              refine PW.aload_n q_39_59 rfl ?_
              refine PW.gets q_39_60 t_st_39_111 ?_
              refine PW.cV (as := [_]) (rest := []) q_39_63 t_mv_39_96 kd_1 IM22.1 (by decide) rfl (by decide) rfl rfl (Nat.le_of_ble_eq_true rfl) (Nat.le_of_ble_eq_true rfl) (by decide) (by decide) ?_
              refine PW.up (by decide) (c_X7_sees (V) (hV) G _ M22 IM22 24 (by decide) fun x27 M26 IM26 GM26 hx27 kx27 => ?_)
              have FM26 := Fr.trans FM22 GM26 (rfl)
              refine PW.jz_ne q_39_66 rfl (fun h28 => ?_) (fun h28 => ?_)
              · skip
                refine PW.cI q_39_99 (by decide) fun c29 hc29 => ?_
                refine PW.goto q_39_100 rfl ?_
                refine PW.rZ q_39_104 rfl (by omega) (by omega) (by decide) (by decide) ?_
                exact hK c29 M26 IM26 FM26 (by omega) (by omega)
              · skip
                refine PW.aload_n q_39_69 rfl ?_
                refine PW.gets q_39_70 t_st_39_114 ?_
                refine PW.cV (as := [_]) (rest := []) q_39_73 t_mv_39_96 kd_1 IM26.1 (by decide) rfl (by decide) rfl rfl (Nat.le_of_ble_eq_true rfl) (Nat.le_of_ble_eq_true rfl) (by decide) (by decide) ?_
                refine PW.up (by decide) (c_X7_sees (V) (hV) G _ M26 IM26 25 (by decide) fun x31 M30 IM30 GM30 hx31 kx31 => ?_)
                have FM30 := Fr.trans FM26 GM30 (rfl)
                refine PW.jz_ne q_39_76 rfl (fun h32 => ?_) (fun h32 => ?_)
                · skip
                  refine PW.cI q_39_99 (by decide) fun c33 hc33 => ?_
                  refine PW.goto q_39_100 rfl ?_
                  refine PW.rZ q_39_104 rfl (by omega) (by omega) (by decide) (by decide) ?_
                  exact hK c33 M30 IM30 FM30 (by omega) (by omega)
                · skip
                  refine PW.aload_n q_39_79 rfl ?_
                  refine PW.gets q_39_80 t_st_39_117 ?_
                  refine PW.cV (as := [_]) (rest := []) q_39_83 t_mv_39_96 kd_1 IM30.1 (by decide) rfl (by decide) rfl rfl (Nat.le_of_ble_eq_true rfl) (Nat.le_of_ble_eq_true rfl) (by decide) (by decide) ?_
                  refine PW.up (by decide) (c_X7_sees (V) (hV) G _ M30 IM30 26 (by decide) fun x35 M34 IM34 GM34 hx35 kx35 => ?_)
                  have FM34 := Fr.trans FM30 GM34 (rfl)
                  refine PW.jz_ne q_39_86 rfl (fun h36 => ?_) (fun h36 => ?_)
                  · skip
                    refine PW.cI q_39_99 (by decide) fun c37 hc37 => ?_
                    refine PW.goto q_39_100 rfl ?_
                    refine PW.rZ q_39_104 rfl (by omega) (by omega) (by decide) (by decide) ?_
                    exact hK c37 M34 IM34 FM34 (by omega) (by omega)
                  · skip
                    refine PW.aload_n q_39_89 rfl ?_
                    refine PW.gets q_39_90 t_st_39_120 ?_
                    refine PW.cV (as := [_]) (rest := []) q_39_93 t_mv_39_96 kd_1 IM34.1 (by decide) rfl (by decide) rfl rfl (Nat.le_of_ble_eq_true rfl) (Nat.le_of_ble_eq_true rfl) (by decide) (by decide) ?_
                    refine PW.up (by decide) (c_X7_sees (V) (hV) G _ M34 IM34 27 (by decide) fun x39 M38 IM38 GM38 hx39 kx39 => ?_)
                    have FM38 := Fr.trans FM34 GM38 (rfl)
                    refine PW.jz_eq q_39_96 rfl (fun h40 => ?_) (fun h40 => ?_)
                    · skip
                      refine PW.cI q_39_103 (by decide) fun c41 hc41 => ?_
                      refine PW.rZ q_39_104 rfl (by omega) (by omega) (by decide) (by decide) ?_
                      exact hK c41 M38 IM38 FM38 (by omega) (by omega)
                    · skip
                      refine PW.cI q_39_99 (by decide) fun c42 hc42 => ?_
                      refine PW.goto q_39_100 rfl ?_
                      refine PW.rZ q_39_104 rfl (by omega) (by omega) (by decide) (by decide) ?_
                      exact hK c42 M38 IM38 FM38 (by omega) (by omega)
theorem c_X4_readPlain (V : pM → Prop) (hV : Stab V) (G : pG) (Kr : pK) (M : pM) (I : Iv V M) (k2 : Nat) (hk_k2 : g_kd k2 = 4) (hK : ∀ (x : Int32) (M1 : pM), Iv V M1 → Fr [1, 14, 15, 16, 17] M M1 → 0 ≤ x.toInt → x.toInt ≤ 1 → Kr.1 (some (.int x)) 311 M1) : PW G false 4 40 (p_mc 40) (p_msl 40) Kr 0 (lv_args 0 [.ref 267, .ref 1, .ref k2]) [] 311 M 0 0 := by
  have F : Fr [1, 14, 15, 16, 17] M M := Fr.refl
  refine PW.aload_n q_40_0 rfl ?_
  refine PW.gW q_40_1 (Or.inr t_fN_40_123) gF_1_6 kd_1 I.1 (by decide) fun r1 hr1 fr1 => ?_
  refine PW.astore_n q_40_4 (by decide) ?_
  refine PW.aload_n q_40_5 rfl ?_
  refine PW.cV (as := []) (rest := []) q_40_6 t_mv_40_86 kd_1 I.1 (by decide) rfl (by decide) rfl rfl (Nat.le_of_ble_eq_true rfl) (Nat.le_of_ble_eq_true rfl) (by decide) (by decide) ?_
  refine PW.up (by decide) (c_X7_advance (V) (hV) G _ M I  fun M2 IM2 GM2 => ?_)
  have FM2 := Fr.trans F GM2 (rfl)
  refine PW.aload_n q_40_9 rfl ?_
  refine PW.gets q_40_10 t_st_40_102 ?_
  refine PW.ja_eq (rx := (some (65536 + r1))) (ry := (some (65536 + 20))) q_40_13 rfl (fun h3 => ?_) (fun h3 => ?_)
  · skip
    refine PW.aload_n q_40_30 rfl ?_
    refine PW.aload_n q_40_31 rfl ?_
    refine PW.cI q_40_32 (by decide) fun c4 hc4 => ?_
    refine PW.cI q_40_33 (by decide) fun c5 hc5 => ?_
    refine PW.cV (as := [_, _, _]) (rest := []) q_40_34 t_mv_40_62 kd_267 IM2.1 (by decide) rfl (by decide) rfl rfl (Nat.le_of_ble_eq_true rfl) (Nat.le_of_ble_eq_true rfl) (by decide) (by decide) ?_
    refine PW.up (by decide) (c_X4_add (V) (hV) G _ M2 IM2 r1 hr1 c4 c5 (by omega) (by omega) fun x7 M6 IM6 GM6 hx7 kx7 => ?_)
    have FM6 := Fr.trans FM2 GM6 (rfl)
    refine PW.rZ q_40_37 rfl (by omega) (by omega) (by decide) (by decide) ?_
    exact hK x7 M6 IM6 FM6 (by omega) (by omega)
  · skip
    refine PW.aload_n q_40_16 rfl ?_
    refine PW.gets q_40_17 t_st_40_105 ?_
    refine PW.ja_eq (rx := (some (65536 + r1))) (ry := (some (65536 + 21))) q_40_20 rfl (fun h8 => ?_) (fun h8 => ?_)
    · skip
      refine PW.aload_n q_40_30 rfl ?_
      refine PW.aload_n q_40_31 rfl ?_
      refine PW.cI q_40_32 (by decide) fun c9 hc9 => ?_
      refine PW.cI q_40_33 (by decide) fun c10 hc10 => ?_
      refine PW.cV (as := [_, _, _]) (rest := []) q_40_34 t_mv_40_62 kd_267 IM2.1 (by decide) rfl (by decide) rfl rfl (Nat.le_of_ble_eq_true rfl) (Nat.le_of_ble_eq_true rfl) (by decide) (by decide) ?_
      refine PW.up (by decide) (c_X4_add (V) (hV) G _ M2 IM2 r1 hr1 c9 c10 (by omega) (by omega) fun x12 M11 IM11 GM11 hx12 kx12 => ?_)
      have FM11 := Fr.trans FM2 GM11 (rfl)
      refine PW.rZ q_40_37 rfl (by omega) (by omega) (by decide) (by decide) ?_
      exact hK x12 M11 IM11 FM11 (by omega) (by omega)
    · skip
      refine PW.aload_n q_40_23 rfl ?_
      refine PW.gets q_40_24 t_st_40_108 ?_
      refine PW.ja_ne (rx := (some (65536 + r1))) (ry := (some (65536 + 22))) q_40_27 rfl (fun h13 => ?_) (fun h13 => ?_)
      · skip
        refine PW.aload_n q_40_38 rfl ?_
        refine PW.gets q_40_39 t_st_40_99 ?_
        refine PW.ja_ne (rx := (some (65536 + r1))) (ry := (some (65536 + 23))) q_40_42 rfl (fun h14 => ?_) (fun h14 => ?_)
        · skip
          refine PW.aload_n q_40_80 rfl ?_
          refine PW.cB q_40_81 (by decide) fun c15 hc15 => ?_
          refine PW.cV (as := [_]) (rest := []) q_40_83 t_mv_40_83 kd_1 IM2.1 (by decide) rfl (by decide) rfl rfl (Nat.le_of_ble_eq_true rfl) (Nat.le_of_ble_eq_true rfl) (by decide) (by decide) ?_
          refine PW.up (by decide) (c_X7_seesSign (V) (hV) G _ M2 IM2 c15 fun x17 M16 IM16 GM16 hx17 kx17 => ?_)
          have FM16 := Fr.trans FM2 GM16 (rfl)
          refine PW.jz_ne q_40_86 rfl (fun h18 => ?_) (fun h18 => ?_)
          · skip
            refine PW.aload_n q_40_113 rfl ?_
            refine PW.gI q_40_114 (Or.inr t_fN_40_139) gF_1_9 kd_1 IM16.1 (by decide) fun x19 fx19 hx19 kx19 => ?_
            clear hx19 kx19
            refine PW.istore q_40_117 (by decide) ?_
            refine PW.aload_n q_40_119 rfl ?_
            refine PW.cV (as := []) (rest := []) q_40_120 t_mv_40_86 kd_1 IM16.1 (by decide) rfl (by decide) rfl rfl (Nat.le_of_ble_eq_true rfl) (Nat.le_of_ble_eq_true rfl) (by decide) (by decide) ?_
            refine PW.up (by decide) (c_X7_advance (V) (hV) G _ M16 IM16  fun M20 IM20 GM20 => ?_)
            have FM20 := Fr.trans FM16 GM20 (rfl)
            refine PW.aload_n q_40_123 rfl ?_
            refine PW.cI q_40_124 (by decide) fun c21 hc21 => ?_
            refine PW.cS q_40_125 (by decide) fun c22 hc22 => ?_
            refine PW.cV (as := [_, _]) (rest := []) q_40_128 t_mv_40_141 kd_1 IM20.1 (by decide) rfl (by decide) rfl rfl (Nat.le_of_ble_eq_true rfl) (Nat.le_of_ble_eq_true rfl) (by decide) (by decide) ?_
            refine PW.up (by decide) (c_X7_needsNumber (V) (hV) G _ M20 IM20 c21 c22 fun x24 M23 IM23 GM23 PM23 => ?_)
            have FM23 := Fr.trans FM20 GM23 (rfl)
            refine PW.istore q_40_131 (by decide) ?_
            refine PW.iload q_40_133 rfl ?_
            refine PW.cI q_40_135 (by decide) fun c25 hc25 => ?_
            refine PW.jc_eq q_40_136 rfl (fun h26 => ?_) (fun h26 => ?_)
            · skip
              refine PW.cI q_40_155 (by decide) fun c27 hc27 => ?_
              refine PW.rZ q_40_156 rfl (by omega) (by omega) (by decide) (by decide) ?_
              exact hK c27 M23 IM23 FM23 (by omega) (by omega)
            · skip
              refine PW.aload_n q_40_139 rfl ?_
              refine PW.aload_n q_40_140 rfl ?_
              refine PW.iload q_40_141 rfl ?_
              refine PW.iload q_40_143 rfl ?_
              refine PW.cV (as := [_, _, _]) (rest := []) q_40_145 t_mv_40_62 kd_267 IM23.1 (by decide) rfl (by decide) rfl rfl (Nat.le_of_ble_eq_true rfl) (Nat.le_of_ble_eq_true rfl) (by decide) (by decide) ?_
              refine PW.up (by decide) (c_X4_add (V) (hV) G _ M23 IM23 r1 hr1 x19 x24 (by omega) (by omega) fun x29 M28 IM28 GM28 hx29 kx29 => ?_)
              have FM28 := Fr.trans FM23 GM28 (rfl)
              refine PW.jz_eq q_40_148 rfl (fun h30 => False.elim (by omega)) (fun h30 => ?_)
              refine PW.cI q_40_151 (by decide) fun c31 hc31 => ?_
              refine PW.goto q_40_152 rfl ?_
              refine PW.rZ q_40_156 rfl (by omega) (by omega) (by decide) (by decide) ?_
              exact hK c31 M28 IM28 FM28 (by omega) (by omega)
          · skip
            refine PW.aload_n q_40_89 rfl ?_
            refine PW.cB q_40_90 (by decide) fun c32 hc32 => ?_
            refine PW.cV (as := [_]) (rest := []) q_40_92 t_mv_40_83 kd_1 IM16.1 (by decide) rfl (by decide) rfl rfl (Nat.le_of_ble_eq_true rfl) (Nat.le_of_ble_eq_true rfl) (by decide) (by decide) ?_
            refine PW.up (by decide) (c_X7_seesSign (V) (hV) G _ M16 IM16 c32 fun x34 M33 IM33 GM33 hx34 kx34 => ?_)
            have FM33 := Fr.trans FM16 GM33 (rfl)
            refine PW.jz_ne q_40_95 rfl (fun h35 => ?_) (fun h35 => ?_)
            · skip
              refine PW.aload_n q_40_113 rfl ?_
              refine PW.gI q_40_114 (Or.inr t_fN_40_139) gF_1_9 kd_1 IM33.1 (by decide) fun x36 fx36 hx36 kx36 => ?_
              clear hx36 kx36
              refine PW.istore q_40_117 (by decide) ?_
              refine PW.aload_n q_40_119 rfl ?_
              refine PW.cV (as := []) (rest := []) q_40_120 t_mv_40_86 kd_1 IM33.1 (by decide) rfl (by decide) rfl rfl (Nat.le_of_ble_eq_true rfl) (Nat.le_of_ble_eq_true rfl) (by decide) (by decide) ?_
              refine PW.up (by decide) (c_X7_advance (V) (hV) G _ M33 IM33  fun M37 IM37 GM37 => ?_)
              have FM37 := Fr.trans FM33 GM37 (rfl)
              refine PW.aload_n q_40_123 rfl ?_
              refine PW.cI q_40_124 (by decide) fun c38 hc38 => ?_
              refine PW.cS q_40_125 (by decide) fun c39 hc39 => ?_
              refine PW.cV (as := [_, _]) (rest := []) q_40_128 t_mv_40_141 kd_1 IM37.1 (by decide) rfl (by decide) rfl rfl (Nat.le_of_ble_eq_true rfl) (Nat.le_of_ble_eq_true rfl) (by decide) (by decide) ?_
              refine PW.up (by decide) (c_X7_needsNumber (V) (hV) G _ M37 IM37 c38 c39 fun x41 M40 IM40 GM40 PM40 => ?_)
              have FM40 := Fr.trans FM37 GM40 (rfl)
              refine PW.istore q_40_131 (by decide) ?_
              refine PW.iload q_40_133 rfl ?_
              refine PW.cI q_40_135 (by decide) fun c42 hc42 => ?_
              refine PW.jc_eq q_40_136 rfl (fun h43 => ?_) (fun h43 => ?_)
              · skip
                refine PW.cI q_40_155 (by decide) fun c44 hc44 => ?_
                refine PW.rZ q_40_156 rfl (by omega) (by omega) (by decide) (by decide) ?_
                exact hK c44 M40 IM40 FM40 (by omega) (by omega)
              · skip
                refine PW.aload_n q_40_139 rfl ?_
                refine PW.aload_n q_40_140 rfl ?_
                refine PW.iload q_40_141 rfl ?_
                refine PW.iload q_40_143 rfl ?_
                refine PW.cV (as := [_, _, _]) (rest := []) q_40_145 t_mv_40_62 kd_267 IM40.1 (by decide) rfl (by decide) rfl rfl (Nat.le_of_ble_eq_true rfl) (Nat.le_of_ble_eq_true rfl) (by decide) (by decide) ?_
                refine PW.up (by decide) (c_X4_add (V) (hV) G _ M40 IM40 r1 hr1 x36 x41 (by omega) (by omega) fun x46 M45 IM45 GM45 hx46 kx46 => ?_)
                have FM45 := Fr.trans FM40 GM45 (rfl)
                refine PW.jz_eq q_40_148 rfl (fun h47 => False.elim (by omega)) (fun h47 => ?_)
                refine PW.cI q_40_151 (by decide) fun c48 hc48 => ?_
                refine PW.goto q_40_152 rfl ?_
                refine PW.rZ q_40_156 rfl (by omega) (by omega) (by decide) (by decide) ?_
                exact hK c48 M45 IM45 FM45 (by omega) (by omega)
            · skip
              refine PW.aload_n q_40_98 rfl ?_
              refine PW.cB q_40_99 (by decide) fun c49 hc49 => ?_
              refine PW.cV (as := [_]) (rest := []) q_40_101 t_mv_40_83 kd_1 IM33.1 (by decide) rfl (by decide) rfl rfl (Nat.le_of_ble_eq_true rfl) (Nat.le_of_ble_eq_true rfl) (by decide) (by decide) ?_
              refine PW.up (by decide) (c_X7_seesSign (V) (hV) G _ M33 IM33 c49 fun x51 M50 IM50 GM50 hx51 kx51 => ?_)
              have FM50 := Fr.trans FM33 GM50 (rfl)
              refine PW.jz_ne q_40_104 rfl (fun h52 => ?_) (fun h52 => ?_)
              · skip
                refine PW.aload_n q_40_113 rfl ?_
                refine PW.gI q_40_114 (Or.inr t_fN_40_139) gF_1_9 kd_1 IM50.1 (by decide) fun x53 fx53 hx53 kx53 => ?_
                clear hx53 kx53
                refine PW.istore q_40_117 (by decide) ?_
                refine PW.aload_n q_40_119 rfl ?_
                refine PW.cV (as := []) (rest := []) q_40_120 t_mv_40_86 kd_1 IM50.1 (by decide) rfl (by decide) rfl rfl (Nat.le_of_ble_eq_true rfl) (Nat.le_of_ble_eq_true rfl) (by decide) (by decide) ?_
                refine PW.up (by decide) (c_X7_advance (V) (hV) G _ M50 IM50  fun M54 IM54 GM54 => ?_)
                have FM54 := Fr.trans FM50 GM54 (rfl)
                refine PW.aload_n q_40_123 rfl ?_
                refine PW.cI q_40_124 (by decide) fun c55 hc55 => ?_
                refine PW.cS q_40_125 (by decide) fun c56 hc56 => ?_
                refine PW.cV (as := [_, _]) (rest := []) q_40_128 t_mv_40_141 kd_1 IM54.1 (by decide) rfl (by decide) rfl rfl (Nat.le_of_ble_eq_true rfl) (Nat.le_of_ble_eq_true rfl) (by decide) (by decide) ?_
                refine PW.up (by decide) (c_X7_needsNumber (V) (hV) G _ M54 IM54 c55 c56 fun x58 M57 IM57 GM57 PM57 => ?_)
                have FM57 := Fr.trans FM54 GM57 (rfl)
                refine PW.istore q_40_131 (by decide) ?_
                refine PW.iload q_40_133 rfl ?_
                refine PW.cI q_40_135 (by decide) fun c59 hc59 => ?_
                refine PW.jc_eq q_40_136 rfl (fun h60 => ?_) (fun h60 => ?_)
                · skip
                  refine PW.cI q_40_155 (by decide) fun c61 hc61 => ?_
                  refine PW.rZ q_40_156 rfl (by omega) (by omega) (by decide) (by decide) ?_
                  exact hK c61 M57 IM57 FM57 (by omega) (by omega)
                · skip
                  refine PW.aload_n q_40_139 rfl ?_
                  refine PW.aload_n q_40_140 rfl ?_
                  refine PW.iload q_40_141 rfl ?_
                  refine PW.iload q_40_143 rfl ?_
                  refine PW.cV (as := [_, _, _]) (rest := []) q_40_145 t_mv_40_62 kd_267 IM57.1 (by decide) rfl (by decide) rfl rfl (Nat.le_of_ble_eq_true rfl) (Nat.le_of_ble_eq_true rfl) (by decide) (by decide) ?_
                  refine PW.up (by decide) (c_X4_add (V) (hV) G _ M57 IM57 r1 hr1 x53 x58 (by omega) (by omega) fun x63 M62 IM62 GM62 hx63 kx63 => ?_)
                  have FM62 := Fr.trans FM57 GM62 (rfl)
                  refine PW.jz_eq q_40_148 rfl (fun h64 => False.elim (by omega)) (fun h64 => ?_)
                  refine PW.cI q_40_151 (by decide) fun c65 hc65 => ?_
                  refine PW.goto q_40_152 rfl ?_
                  refine PW.rZ q_40_156 rfl (by omega) (by omega) (by decide) (by decide) ?_
                  exact hK c65 M62 IM62 FM62 (by omega) (by omega)
              · skip
                refine PW.aload_n q_40_107 rfl ?_
                refine PW.cI q_40_108 (by decide) fun c66 hc66 => ?_
                refine PW.cV (as := [_]) (rest := []) q_40_109 t_mv_40_76 kd_1 IM50.1 (by decide) rfl (by decide) rfl rfl (Nat.le_of_ble_eq_true rfl) (Nat.le_of_ble_eq_true rfl) (by decide) (by decide) ?_
                refine PW.up (by decide) (c_X7_fail (V) (hV) G _ M50 IM50 c66 fun x68 M67 IM67 GM67 hx68 kx68 => ?_)
                have FM67 := Fr.trans FM50 GM67 (rfl)
                refine PW.rZ q_40_112 rfl (by omega) (by omega) (by decide) (by decide) ?_
                exact hK x68 M67 IM67 FM67 (by omega) (by omega)
        · skip
          refine PW.aload_n q_40_45 rfl ?_
          refine PW.aload_n q_40_46 rfl ?_
          refine PW.gRk q_40_47 (Or.inr t_fN_40_126) gF_4_8 hk_k2 IM2.1 (by decide) fun b69 hk_b69 e_b69 => ?_
          refine PW.aload_n q_40_50 rfl ?_
          refine PW.gI q_40_51 (Or.inr t_fN_40_132) gF_4_6 hk_k2 IM2.1 (by decide) fun x70 fx70 hx70 kx70 => ?_
          refine PW.cV (as := [_, _]) (rest := []) q_40_54 t_mv_40_135 kd_1 IM2.1 (by decide) rfl (by decide) rfl rfl (Nat.le_of_ble_eq_true rfl) (Nat.le_of_ble_eq_true rfl) (by decide) (by decide) ?_
          refine PW.up (by decide) (c_X7_needsKnown (V) (hV) G _ M2 IM2 b69 hk_b69 x70 fun x72 M71 IM71 GM71 hx72 kx72 => ?_)
          have FM71 := Fr.trans FM2 GM71 (rfl)
          refine PW.istore q_40_57 (by decide) ?_
          refine PW.iload q_40_59 rfl ?_
          refine PW.cI q_40_61 (by decide) fun c73 hc73 => ?_
          refine PW.jc_ne q_40_62 rfl (fun h74 => ?_) (fun h74 => ?_)
          · skip
            refine PW.aload_n q_40_67 rfl ?_
            refine PW.cV (as := []) (rest := []) q_40_68 t_mv_40_86 kd_1 IM71.1 (by decide) rfl (by decide) rfl rfl (Nat.le_of_ble_eq_true rfl) (Nat.le_of_ble_eq_true rfl) (by decide) (by decide) ?_
            refine PW.up (by decide) (c_X7_advance (V) (hV) G _ M71 IM71  fun M75 IM75 GM75 => ?_)
            have FM75 := Fr.trans FM71 GM75 (rfl)
            refine PW.aload_n q_40_71 rfl ?_
            refine PW.aload_n q_40_72 rfl ?_
            refine PW.cI q_40_73 (by decide) fun c76 hc76 => ?_
            refine PW.iload q_40_74 rfl ?_
            refine PW.cV (as := [_, _, _]) (rest := []) q_40_76 t_mv_40_62 kd_267 IM75.1 (by decide) rfl (by decide) rfl rfl (Nat.le_of_ble_eq_true rfl) (Nat.le_of_ble_eq_true rfl) (by decide) (by decide) ?_
            refine PW.up (by decide) (c_X4_add (V) (hV) G _ M75 IM75 r1 hr1 c76 x72 (by omega) (by omega) fun x78 M77 IM77 GM77 hx78 kx78 => ?_)
            have FM77 := Fr.trans FM75 GM77 (rfl)
            refine PW.rZ q_40_79 rfl (by omega) (by omega) (by decide) (by decide) ?_
            exact hK x78 M77 IM77 FM77 (by omega) (by omega)
          · skip
            refine PW.cI q_40_65 (by decide) fun c79 hc79 => ?_
            refine PW.rZ q_40_66 rfl (by omega) (by omega) (by decide) (by decide) ?_
            exact hK c79 M71 IM71 FM71 (by omega) (by omega)
      · skip
        refine PW.aload_n q_40_30 rfl ?_
        refine PW.aload_n q_40_31 rfl ?_
        refine PW.cI q_40_32 (by decide) fun c80 hc80 => ?_
        refine PW.cI q_40_33 (by decide) fun c81 hc81 => ?_
        refine PW.cV (as := [_, _, _]) (rest := []) q_40_34 t_mv_40_62 kd_267 IM2.1 (by decide) rfl (by decide) rfl rfl (Nat.le_of_ble_eq_true rfl) (Nat.le_of_ble_eq_true rfl) (by decide) (by decide) ?_
        refine PW.up (by decide) (c_X4_add (V) (hV) G _ M2 IM2 r1 hr1 c80 c81 (by omega) (by omega) fun x83 M82 IM82 GM82 hx83 kx83 => ?_)
        have FM82 := Fr.trans FM2 GM82 (rfl)
        refine PW.rZ q_40_37 rfl (by omega) (by omega) (by decide) (by decide) ?_
        exact hK x83 M82 IM82 FM82 (by omega) (by omega)
theorem c_X4_readOne_9 (V : pM → Prop) (hV : Stab V) (G : pG) (Kr : pK) (M : pM) (I : Iv V M) (k2 : Nat) (hk_k2 : g_kd k2 = 4) (a3 : Int32) (hl_a3 : 9 ≤ a3.toInt) (hh_a3 : a3.toInt ≤ 9) (hK : ∀ (x : Int32) (M1 : pM), Iv V M1 → Fr [1] M M1 → 0 ≤ x.toInt → x.toInt ≤ 1 → Kr.1 (some (.int x)) 311 M1) : PW G false 2 38 (p_mc 38) (p_msl 38) Kr 0 (lv_args 0 [.ref 267, .ref 1, .ref k2, .int a3]) [] 311 M 0 0 := by
  have F : Fr [1] M M := Fr.refl
  refine PW.aload_n q_38_0 rfl ?_
  refine PW.callS (as := [_]) (rest := []) q_38_1 t_ms_38_72 (by decide) rfl (Nat.le_of_ble_eq_true rfl) (Nat.le_of_ble_eq_true rfl) (by decide) (by decide) ?_
  refine PW.up (by decide) (c_X4_beginsOne (V) (hV) G _ M I  fun x2 M1 IM1 GM1 hx2 kx2 => ?_)
  have FM1 := Fr.trans F GM1 (rfl)
  refine PW.jz_ne q_38_4 rfl (fun h3 => ?_) (fun h3 => ?_)
  · skip
    refine PW.aload_n q_38_13 rfl ?_
    refine PW.gI q_38_14 (Or.inl t_ft_38_27) gF_14_0 kd_267 IM1.1 (by decide) fun x4 fx4 hx4 kx4 => ?_
    clear hx4 kx4
    refine PW.cB q_38_17 (by decide) fun c5 hc5 => ?_
    refine PW.jc_ge q_38_19 rfl (fun h6 => ?_) (fun h6 => ?_)
    · skip
      refine PW.aload_n q_38_28 rfl ?_
      refine PW.cI q_38_29 (by decide) fun c7 hc7 => ?_
      refine PW.cV (as := [_]) (rest := []) q_38_30 t_mv_38_76 kd_1 IM1.1 (by decide) rfl (by decide) rfl rfl (Nat.le_of_ble_eq_true rfl) (Nat.le_of_ble_eq_true rfl) (by decide) (by decide) ?_
      refine PW.up (by decide) (c_X7_fail (V) (hV) G _ M1 IM1 c7 fun x9 M8 IM8 GM8 hx9 kx9 => ?_)
      have FM8 := Fr.trans FM1 GM8 (rfl)
      refine PW.rZ q_38_33 rfl (by omega) (by omega) (by decide) (by decide) ?_
      exact hK x9 M8 IM8 FM8 (by omega) (by omega)
    · skip
      refine PW.iload_n q_38_22 rfl ?_
      refine PW.cB q_38_23 (by decide) fun c10 hc10 => ?_
      refine PW.jc_le q_38_25 rfl (fun h11 => False.elim (by omega)) (fun h11 => ?_)
      refine PW.aload_n q_38_28 rfl ?_
      refine PW.cI q_38_29 (by decide) fun c12 hc12 => ?_
      refine PW.cV (as := [_]) (rest := []) q_38_30 t_mv_38_76 kd_1 IM1.1 (by decide) rfl (by decide) rfl rfl (Nat.le_of_ble_eq_true rfl) (Nat.le_of_ble_eq_true rfl) (by decide) (by decide) ?_
      refine PW.up (by decide) (c_X7_fail (V) (hV) G _ M1 IM1 c12 fun x14 M13 IM13 GM13 hx14 kx14 => ?_)
      have FM13 := Fr.trans FM1 GM13 (rfl)
      refine PW.rZ q_38_33 rfl (by omega) (by omega) (by decide) (by decide) ?_
      exact hK x14 M13 IM13 FM13 (by omega) (by omega)
  · skip
    refine PW.aload_n q_38_7 rfl ?_
    refine PW.cI q_38_8 (by decide) fun c15 hc15 => ?_
    refine PW.cV (as := [_]) (rest := []) q_38_9 t_mv_38_76 kd_1 IM1.1 (by decide) rfl (by decide) rfl rfl (Nat.le_of_ble_eq_true rfl) (Nat.le_of_ble_eq_true rfl) (by decide) (by decide) ?_
    refine PW.up (by decide) (c_X7_fail (V) (hV) G _ M1 IM1 c15 fun x17 M16 IM16 GM16 hx17 kx17 => ?_)
    have FM16 := Fr.trans FM1 GM16 (rfl)
    refine PW.rZ q_38_12 rfl (by omega) (by omega) (by decide) (by decide) ?_
    exact hK x17 M16 IM16 FM16 (by omega) (by omega)
theorem c_X4_readAll_9 (V : pM → Prop) (hV : Stab V) (G : pG) (Kr : pK) (M : pM) (I : Iv V M) (k2 : Nat) (hk_k2 : g_kd k2 = 4) (a3 : Int32) (hl_a3 : 9 ≤ a3.toInt) (hh_a3 : a3.toInt ≤ 9) (hK : ∀ (x : Int32) (M1 : pM), Iv V M1 → Fr [1, 14, 15, 16, 17] M M1 → 0 ≤ x.toInt → x.toInt ≤ 1 → Kr.1 (some (.int x)) 311 M1) : PW G false 4 37 (p_mc 37) (p_msl 37) Kr 0 (lv_args 0 [.ref 267, .ref 1, .ref k2, .int a3]) [] 311 M 0 0 := by
  have F : Fr [1, 14, 15, 16, 17] M M := Fr.refl
  refine PW.aload_n q_37_0 rfl ?_
  refine PW.aload_n q_37_1 rfl ?_
  refine PW.aload_n q_37_2 rfl ?_
  refine PW.iload_n q_37_3 rfl ?_
  refine PW.cV (as := [_, _, _]) (rest := []) q_37_4 t_mv_37_66 kd_267 I.1 (by decide) rfl (by decide) rfl rfl (Nat.le_of_ble_eq_true rfl) (Nat.le_of_ble_eq_true rfl) (by decide) (by decide) ?_
  refine PW.up (by decide) (c_X4_readOne_9 (V) (hV) G _ M I k2 hk_k2 a3 (by omega) (by omega) fun x2 M1 IM1 GM1 hx2 kx2 => ?_)
  have FM1 := Fr.trans F GM1 (rfl)
  refine PW.istore q_37_7 (by decide) ?_
  refine PW.cI q_37_9 (by decide) fun c3 hc3 => ?_
  refine PW.istore q_37_10 (by decide) ?_
  have L37_12_4 : ∀ (n : Nat) (ML37_12_4 : pM) (v5 v6 : Int32), Iv (V) ML37_12_4 → Fr [1, 14, 15, 16, 17] M ML37_12_4 → 0 ≤ v5.toInt → v5.toInt ≤ 1 → 0 ≤ v6.toInt → v6.toInt ≤ 20 → (20 - v6.toInt).toNat = n → PW G false 4 37 (p_mc 37) (p_msl 37) Kr 12 [(0, .ref 267), (1, .ref 1), (2, .ref k2), (3, .int a3), (4, .int v5), (5, .int v6)] [] 311 ML37_12_4 0 0 := by
    intro n
    induction n using Nat.strongRecOn with
    | ind n ih_L37_12_4 =>
    intro ML37_12_4 v5 v6 IML37_12_4 FML37_12_4 hbL37_12_40 hbL37_12_41 hbL37_12_42 hbL37_12_43 hmL37_12_4
    refine PW.iload q_37_12 rfl ?_
    refine PW.cB q_37_14 (by decide) fun c7 hc7 => ?_
    refine PW.jc_ge q_37_16 rfl (fun h8 => ?_) (fun h8 => ?_)
    · skip
      refine PW.iload q_37_69 rfl ?_
      refine PW.rZ q_37_71 rfl (by omega) (by omega) (by decide) (by decide) ?_
      exact hK v5 ML37_12_4 IML37_12_4 FML37_12_4 (by omega) (by omega)
    · skip
      refine PW.iload q_37_19 rfl ?_
      refine PW.jz_eq q_37_21 rfl (fun h9 => ?_) (fun h9 => ?_)
      · skip
        refine PW.iload q_37_69 rfl ?_
        refine PW.rZ q_37_71 rfl (by omega) (by omega) (by decide) (by decide) ?_
        exact hK v5 ML37_12_4 IML37_12_4 FML37_12_4 (by omega) (by omega)
      · skip
        refine PW.aload_n q_37_24 rfl ?_
        refine PW.gets q_37_25 t_st_37_69 ?_
        refine PW.cV (as := [_]) (rest := []) q_37_28 t_mv_37_58 kd_1 IML37_12_4.1 (by decide) rfl (by decide) rfl rfl (Nat.le_of_ble_eq_true rfl) (Nat.le_of_ble_eq_true rfl) (by decide) (by decide) ?_
        refine PW.up (by decide) (c_X7_takes (V) (hV) G _ ML37_12_4 IML37_12_4 18 (by decide) fun x11 M10 IM10 GM10 hx11 kx11 => ?_)
        have FM10 := Fr.trans FML37_12_4 GM10 (rfl)
        refine PW.jz_eq q_37_31 rfl (fun h12 => ?_) (fun h12 => ?_)
        · skip
          refine PW.iload q_37_69 rfl ?_
          refine PW.rZ q_37_71 rfl (by omega) (by omega) (by decide) (by decide) ?_
          exact hK v5 M10 IM10 FM10 (by omega) (by omega)
        · skip
          refine PW.aload_n q_37_34 rfl ?_
          refine PW.aload_n q_37_35 rfl ?_
          refine PW.aload_n q_37_36 rfl ?_
          refine PW.iload_n q_37_37 rfl ?_
          refine PW.cV (as := [_, _, _]) (rest := []) q_37_38 t_mv_37_66 kd_267 IM10.1 (by decide) rfl (by decide) rfl rfl (Nat.le_of_ble_eq_true rfl) (Nat.le_of_ble_eq_true rfl) (by decide) (by decide) ?_
          refine PW.up (by decide) (c_X4_readOne_9 (V) (hV) G _ M10 IM10 k2 hk_k2 a3 (by omega) (by omega) fun x14 M13 IM13 GM13 hx14 kx14 => ?_)
          have FM13 := Fr.trans FM10 GM13 (rfl)
          have J61_16 : ∀ (MJ61_16 : pM) (s17 : Int32), Iv (V) MJ61_16 → Fr [1, 14, 15, 16, 17] M MJ61_16 → 0 ≤ s17.toInt → s17.toInt ≤ 1 → PW G false 4 37 (p_mc 37) (p_msl 37) Kr 61 [(0, .ref 267), (1, .ref 1), (2, .ref k2), (3, .int a3), (4, .int v5), (5, .int v6)] [.int s17] 311 MJ61_16 0 0 := by
            intro MJ61_16 s17 IMJ61_16 FMJ61_16 hbJ61_160 hbJ61_161
            refine PW.istore q_37_61 (by decide) ?_
            refine PW.incN q_37_63 rfl (by decide) (by decide) (by omega) (by omega) fun x18 hx18 => ?_
            refine PW.goto q_37_66 rfl ?_
            refine PW.lvS (lk1 rfl (lk1 rfl (lk1 rfl (lk1 rfl (lk1 rfl (lk1 rfl lk0)))))) (ih_L37_12_4 _ ?_ MJ61_16 s17 x18 IMJ61_16 FMJ61_16 (by omega) (by omega) (by omega) (by omega) rfl)
            omega
          refine PW.jz_eq q_37_41 rfl (fun h15 => ?_) (fun h15 => ?_)
          · skip
            refine PW.cI q_37_60 (by decide) fun c19 hc19 => ?_
            exact PW.lvS (lk1 rfl (lk1 rfl (lk1 rfl (lk1 rfl (lk1 rfl (lk1 rfl lk0)))))) (J61_16 M13 c19 IM13 FM13 (by omega) (by omega))
          · skip
            refine PW.aload_n q_37_44 rfl ?_
            refine PW.gets q_37_45 t_st_37_69 ?_
            refine PW.cI q_37_48 (by decide) fun c20 hc20 => ?_
            refine PW.cI q_37_49 (by decide) fun c21 hc21 => ?_
            refine PW.cV (as := [_, _, _]) (rest := []) q_37_50 t_mv_37_62 kd_267 IM13.1 (by decide) rfl (by decide) rfl rfl (Nat.le_of_ble_eq_true rfl) (Nat.le_of_ble_eq_true rfl) (by decide) (by decide) ?_
            refine PW.up (by decide) (c_X4_add (V) (hV) G _ M13 IM13 18 (by decide) c20 c21 (by omega) (by omega) fun x23 M22 IM22 GM22 hx23 kx23 => ?_)
            have FM22 := Fr.trans FM13 GM22 (rfl)
            refine PW.jz_eq q_37_53 rfl (fun h24 => False.elim (by omega)) (fun h24 => ?_)
            refine PW.cI q_37_56 (by decide) fun c25 hc25 => ?_
            refine PW.goto q_37_57 rfl ?_
            exact PW.lvS (lk1 rfl (lk1 rfl (lk1 rfl (lk1 rfl (lk1 rfl (lk1 rfl lk0)))))) (J61_16 M22 c25 IM22 FM22 (by omega) (by omega))
  exact PW.lvS (lk1 rfl (lk1 rfl (lk1 rfl (lk1 rfl (lk1 rfl (lk1 rfl lk0)))))) (L37_12_4 _ M1 x2 c3 IM1 FM1 (by omega) (by omega) (by omega) (by omega) rfl)
theorem c_X4_readAny_9 (V : pM → Prop) (hV : Stab V) (G : pG) (Kr : pK) (M : pM) (I : Iv V M) (k2 : Nat) (hk_k2 : g_kd k2 = 4) (a3 : Int32) (hl_a3 : 9 ≤ a3.toInt) (hh_a3 : a3.toInt ≤ 9) (hK : ∀ (x : Int32) (M1 : pM), Iv V M1 → Fr [1, 14, 15, 16, 17] M M1 → 0 ≤ x.toInt → x.toInt ≤ 1 → Kr.1 (some (.int x)) 311 M1) : PW G false 5 36 (p_mc 36) (p_msl 36) Kr 0 (lv_args 0 [.ref 267, .ref 1, .ref k2, .int a3]) [] 311 M 0 0 := by
  have F : Fr [1, 14, 15, 16, 17] M M := Fr.refl
  refine PW.aload_n q_36_0 rfl ?_
  refine PW.aload_n q_36_1 rfl ?_
  refine PW.aload_n q_36_2 rfl ?_
  refine PW.iload_n q_36_3 rfl ?_
  refine PW.cV (as := [_, _, _]) (rest := []) q_36_4 t_mv_36_51 kd_267 I.1 (by decide) rfl (by decide) rfl rfl (Nat.le_of_ble_eq_true rfl) (Nat.le_of_ble_eq_true rfl) (by decide) (by decide) ?_
  refine PW.up (by decide) (c_X4_readAll_9 (V) (hV) G _ M I k2 hk_k2 a3 (by omega) (by omega) fun x2 M1 IM1 GM1 hx2 kx2 => ?_)
  have FM1 := Fr.trans F GM1 (rfl)
  refine PW.istore q_36_7 (by decide) ?_
  refine PW.cI q_36_9 (by decide) fun c3 hc3 => ?_
  refine PW.istore q_36_10 (by decide) ?_
  have L36_12_4 : ∀ (n : Nat) (ML36_12_4 : pM) (v5 v6 : Int32), Iv (V) ML36_12_4 → Fr [1, 14, 15, 16, 17] M ML36_12_4 → 0 ≤ v5.toInt → v5.toInt ≤ 1 → 0 ≤ v6.toInt → v6.toInt ≤ 20 → (20 - v6.toInt).toNat = n → PW G false 5 36 (p_mc 36) (p_msl 36) Kr 12 [(0, .ref 267), (1, .ref 1), (2, .ref k2), (3, .int a3), (4, .int v5), (5, .int v6)] [] 311 ML36_12_4 0 0 := by
    intro n
    induction n using Nat.strongRecOn with
    | ind n ih_L36_12_4 =>
    intro ML36_12_4 v5 v6 IML36_12_4 FML36_12_4 hbL36_12_40 hbL36_12_41 hbL36_12_42 hbL36_12_43 hmL36_12_4
    refine PW.iload q_36_12 rfl ?_
    refine PW.cB q_36_14 (by decide) fun c7 hc7 => ?_
    refine PW.jc_ge q_36_16 rfl (fun h8 => ?_) (fun h8 => ?_)
    · skip
      refine PW.iload q_36_69 rfl ?_
      refine PW.rZ q_36_71 rfl (by omega) (by omega) (by decide) (by decide) ?_
      exact hK v5 ML36_12_4 IML36_12_4 FML36_12_4 (by omega) (by omega)
    · skip
      refine PW.iload q_36_19 rfl ?_
      refine PW.jz_eq q_36_21 rfl (fun h9 => ?_) (fun h9 => ?_)
      · skip
        refine PW.iload q_36_69 rfl ?_
        refine PW.rZ q_36_71 rfl (by omega) (by omega) (by decide) (by decide) ?_
        exact hK v5 ML36_12_4 IML36_12_4 FML36_12_4 (by omega) (by omega)
      · skip
        refine PW.aload_n q_36_24 rfl ?_
        refine PW.gets q_36_25 t_st_36_54 ?_
        refine PW.cV (as := [_]) (rest := []) q_36_28 t_mv_36_58 kd_1 IML36_12_4.1 (by decide) rfl (by decide) rfl rfl (Nat.le_of_ble_eq_true rfl) (Nat.le_of_ble_eq_true rfl) (by decide) (by decide) ?_
        refine PW.up (by decide) (c_X7_takes (V) (hV) G _ ML36_12_4 IML36_12_4 17 (by decide) fun x11 M10 IM10 GM10 hx11 kx11 => ?_)
        have FM10 := Fr.trans FML36_12_4 GM10 (rfl)
        refine PW.jz_eq q_36_31 rfl (fun h12 => ?_) (fun h12 => ?_)
        · skip
          refine PW.iload q_36_69 rfl ?_
          refine PW.rZ q_36_71 rfl (by omega) (by omega) (by decide) (by decide) ?_
          exact hK v5 M10 IM10 FM10 (by omega) (by omega)
        · skip
          refine PW.aload_n q_36_34 rfl ?_
          refine PW.aload_n q_36_35 rfl ?_
          refine PW.aload_n q_36_36 rfl ?_
          refine PW.iload_n q_36_37 rfl ?_
          refine PW.cV (as := [_, _, _]) (rest := []) q_36_38 t_mv_36_51 kd_267 IM10.1 (by decide) rfl (by decide) rfl rfl (Nat.le_of_ble_eq_true rfl) (Nat.le_of_ble_eq_true rfl) (by decide) (by decide) ?_
          refine PW.up (by decide) (c_X4_readAll_9 (V) (hV) G _ M10 IM10 k2 hk_k2 a3 (by omega) (by omega) fun x14 M13 IM13 GM13 hx14 kx14 => ?_)
          have FM13 := Fr.trans FM10 GM13 (rfl)
          have J61_16 : ∀ (MJ61_16 : pM) (s17 : Int32), Iv (V) MJ61_16 → Fr [1, 14, 15, 16, 17] M MJ61_16 → 0 ≤ s17.toInt → s17.toInt ≤ 1 → PW G false 5 36 (p_mc 36) (p_msl 36) Kr 61 [(0, .ref 267), (1, .ref 1), (2, .ref k2), (3, .int a3), (4, .int v5), (5, .int v6)] [.int s17] 311 MJ61_16 0 0 := by
            intro MJ61_16 s17 IMJ61_16 FMJ61_16 hbJ61_160 hbJ61_161
            refine PW.istore q_36_61 (by decide) ?_
            refine PW.incN q_36_63 rfl (by decide) (by decide) (by omega) (by omega) fun x18 hx18 => ?_
            refine PW.goto q_36_66 rfl ?_
            refine PW.lvS (lk1 rfl (lk1 rfl (lk1 rfl (lk1 rfl (lk1 rfl (lk1 rfl lk0)))))) (ih_L36_12_4 _ ?_ MJ61_16 s17 x18 IMJ61_16 FMJ61_16 (by omega) (by omega) (by omega) (by omega) rfl)
            omega
          refine PW.jz_eq q_36_41 rfl (fun h15 => ?_) (fun h15 => ?_)
          · skip
            refine PW.cI q_36_60 (by decide) fun c19 hc19 => ?_
            exact PW.lvS (lk1 rfl (lk1 rfl (lk1 rfl (lk1 rfl (lk1 rfl (lk1 rfl lk0)))))) (J61_16 M13 c19 IM13 FM13 (by omega) (by omega))
          · skip
            refine PW.aload_n q_36_44 rfl ?_
            refine PW.gets q_36_45 t_st_36_54 ?_
            refine PW.cI q_36_48 (by decide) fun c20 hc20 => ?_
            refine PW.cI q_36_49 (by decide) fun c21 hc21 => ?_
            refine PW.cV (as := [_, _, _]) (rest := []) q_36_50 t_mv_36_62 kd_267 IM13.1 (by decide) rfl (by decide) rfl rfl (Nat.le_of_ble_eq_true rfl) (Nat.le_of_ble_eq_true rfl) (by decide) (by decide) ?_
            refine PW.up (by decide) (c_X4_add (V) (hV) G _ M13 IM13 17 (by decide) c20 c21 (by omega) (by omega) fun x23 M22 IM22 GM22 hx23 kx23 => ?_)
            have FM22 := Fr.trans FM13 GM22 (rfl)
            refine PW.jz_eq q_36_53 rfl (fun h24 => False.elim (by omega)) (fun h24 => ?_)
            refine PW.cI q_36_56 (by decide) fun c25 hc25 => ?_
            refine PW.goto q_36_57 rfl ?_
            exact PW.lvS (lk1 rfl (lk1 rfl (lk1 rfl (lk1 rfl (lk1 rfl (lk1 rfl lk0)))))) (J61_16 M22 c25 IM22 FM22 (by omega) (by omega))
  exact PW.lvS (lk1 rfl (lk1 rfl (lk1 rfl (lk1 rfl (lk1 rfl (lk1 rfl lk0)))))) (L36_12_4 _ M1 x2 c3 IM1 FM1 (by omega) (by omega) (by omega) (by omega) rfl)
theorem c_X4_readOne_8 (V : pM → Prop) (hV : Stab V) (G : pG) (Kr : pK) (M : pM) (I : Iv V M) (k2 : Nat) (hk_k2 : g_kd k2 = 4) (a3 : Int32) (hl_a3 : 8 ≤ a3.toInt) (hh_a3 : a3.toInt ≤ 8) (hK : ∀ (x : Int32) (M1 : pM), Iv V M1 → Fr [1, 14, 15, 16, 17] M M1 → 0 ≤ x.toInt → x.toInt ≤ 1 → Kr.1 (some (.int x)) 311 M1) : PW G false 6 38 (p_mc 38) (p_msl 38) Kr 0 (lv_args 0 [.ref 267, .ref 1, .ref k2, .int a3]) [] 311 M 0 0 := by
  have F : Fr [1, 14, 15, 16, 17] M M := Fr.refl
  refine PW.aload_n q_38_0 rfl ?_
  refine PW.callS (as := [_]) (rest := []) q_38_1 t_ms_38_72 (by decide) rfl (Nat.le_of_ble_eq_true rfl) (Nat.le_of_ble_eq_true rfl) (by decide) (by decide) ?_
  refine PW.up (by decide) (c_X4_beginsOne (V) (hV) G _ M I  fun x2 M1 IM1 GM1 hx2 kx2 => ?_)
  have FM1 := Fr.trans F GM1 (rfl)
  refine PW.jz_ne q_38_4 rfl (fun h3 => ?_) (fun h3 => ?_)
  · skip
    refine PW.aload_n q_38_13 rfl ?_
    refine PW.gI q_38_14 (Or.inl t_ft_38_27) gF_14_0 kd_267 IM1.1 (by decide) fun x4 fx4 hx4 kx4 => ?_
    clear hx4 kx4
    refine PW.cB q_38_17 (by decide) fun c5 hc5 => ?_
    refine PW.jc_ge q_38_19 rfl (fun h6 => ?_) (fun h6 => ?_)
    · skip
      refine PW.aload_n q_38_28 rfl ?_
      refine PW.cI q_38_29 (by decide) fun c7 hc7 => ?_
      refine PW.cV (as := [_]) (rest := []) q_38_30 t_mv_38_76 kd_1 IM1.1 (by decide) rfl (by decide) rfl rfl (Nat.le_of_ble_eq_true rfl) (Nat.le_of_ble_eq_true rfl) (by decide) (by decide) ?_
      refine PW.up (by decide) (c_X7_fail (V) (hV) G _ M1 IM1 c7 fun x9 M8 IM8 GM8 hx9 kx9 => ?_)
      have FM8 := Fr.trans FM1 GM8 (rfl)
      refine PW.rZ q_38_33 rfl (by omega) (by omega) (by decide) (by decide) ?_
      exact hK x9 M8 IM8 FM8 (by omega) (by omega)
    · skip
      refine PW.iload_n q_38_22 rfl ?_
      refine PW.cB q_38_23 (by decide) fun c10 hc10 => ?_
      refine PW.jc_le q_38_25 rfl (fun h11 => ?_) (fun h11 => False.elim (by omega))
      refine PW.aload_n q_38_34 rfl ?_
      refine PW.dup q_38_35 rfl ?_
      refine PW.gE q_38_36 (Or.inl t_ft_38_27) gF_14_0 kd_267 IM1.1 (by decide) fx4 ?_
      refine PW.cI q_38_39 (by decide) fun c12 hc12 => ?_
      refine PW.addN q_38_40 (by have := n_lo x4; have := n_hi x4; omega) (by have := n_lo x4; have := n_hi x4; omega) fun x13 hx13 => ?_
      refine PW.pI q_38_41 (Or.inl t_ft_38_27) gF_14_0 gP_14_0 kd_267 hV IM1 (by decide) rfl (n_lo _) (n_hi _) fun M14 IM14 fM14 UM14 => ?_
      have FM14 := Fr.pu FM1 UM14.1 kd_267 (rfl : List.contains [1, 14, 15, 16, 17] 14 = true)
      refine PW.aload_n q_38_44 rfl ?_
      refine PW.gets q_38_45 t_st_38_80 ?_
      refine PW.cV (as := [_]) (rest := []) q_38_48 t_mv_38_58 kd_1 IM14.1 (by decide) rfl (by decide) rfl rfl (Nat.le_of_ble_eq_true rfl) (Nat.le_of_ble_eq_true rfl) (by decide) (by decide) ?_
      refine PW.up (by decide) (c_X7_takes (V) (hV) G _ M14 IM14 19 (by decide) fun x16 M15 IM15 GM15 hx16 kx16 => ?_)
      have FM15 := Fr.trans FM14 GM15 (rfl)
      refine PW.jz_eq q_38_51 rfl (fun h17 => ?_) (fun h17 => ?_)
      · skip
        refine PW.aload_n q_38_84 rfl ?_
        refine PW.cB q_38_85 (by decide) fun c18 hc18 => ?_
        refine PW.cV (as := [_]) (rest := []) q_38_87 t_mv_38_83 kd_1 IM15.1 (by decide) rfl (by decide) rfl rfl (Nat.le_of_ble_eq_true rfl) (Nat.le_of_ble_eq_true rfl) (by decide) (by decide) ?_
        refine PW.up (by decide) (c_X7_seesSign (V) (hV) G _ M15 IM15 c18 fun x20 M19 IM19 GM19 hx20 kx20 => ?_)
        have FM19 := Fr.trans FM15 GM19 (rfl)
        refine PW.jz_eq q_38_90 rfl (fun h21 => ?_) (fun h21 => ?_)
        · skip
          refine PW.aload_n q_38_124 rfl ?_
          refine PW.aload_n q_38_125 rfl ?_
          refine PW.aload_n q_38_126 rfl ?_
          refine PW.cV (as := [_, _]) (rest := []) q_38_127 t_mv_38_92 kd_267 IM19.1 (by decide) rfl (by decide) rfl rfl (Nat.le_of_ble_eq_true rfl) (Nat.le_of_ble_eq_true rfl) (by decide) (by decide) ?_
          refine PW.up (by decide) (c_X4_readPlain (V) (hV) G _ M19 IM19 k2 hk_k2 fun x23 M22 IM22 GM22 hx23 kx23 => ?_)
          have FM22 := Fr.trans FM19 GM22 (rfl)
          refine PW.rZ q_38_130 rfl (by omega) (by omega) (by decide) (by decide) ?_
          exact hK x23 M22 IM22 FM22 (by omega) (by omega)
        · skip
          refine PW.aload_n q_38_93 rfl ?_
          refine PW.cV (as := []) (rest := []) q_38_94 t_mv_38_86 kd_1 IM19.1 (by decide) rfl (by decide) rfl rfl (Nat.le_of_ble_eq_true rfl) (Nat.le_of_ble_eq_true rfl) (by decide) (by decide) ?_
          refine PW.up (by decide) (c_X7_advance (V) (hV) G _ M19 IM19  fun M24 IM24 GM24 => ?_)
          have FM24 := Fr.trans FM19 GM24 (rfl)
          refine PW.aload_n q_38_97 rfl ?_
          refine PW.aload_n q_38_98 rfl ?_
          refine PW.aload_n q_38_99 rfl ?_
          refine PW.iload_n q_38_100 rfl ?_
          refine PW.cI q_38_101 (by decide) fun c25 hc25 => ?_
          refine PW.addN q_38_102 (by omega) (by omega) fun x26 hx26 => ?_
          refine PW.cV (as := [_, _, _]) (rest := []) q_38_103 t_mv_38_43 kd_267 IM24.1 (by decide) rfl (by decide) rfl rfl (Nat.le_of_ble_eq_true rfl) (Nat.le_of_ble_eq_true rfl) (by decide) (by decide) ?_
          refine PW.up (by decide) (c_X4_readAny_9 (V) (hV) G _ M24 IM24 k2 hk_k2 x26 (by omega) (by omega) fun x28 M27 IM27 GM27 hx28 kx28 => ?_)
          have FM27 := Fr.trans FM24 GM27 (rfl)
          refine PW.jz_eq q_38_106 rfl (fun h29 => ?_) (fun h29 => ?_)
          · skip
            refine PW.cI q_38_122 (by decide) fun c30 hc30 => ?_
            refine PW.rZ q_38_123 rfl (by omega) (by omega) (by decide) (by decide) ?_
            exact hK c30 M27 IM27 FM27 (by omega) (by omega)
          · skip
            refine PW.aload_n q_38_109 rfl ?_
            refine PW.cB q_38_110 (by decide) fun c31 hc31 => ?_
            refine PW.cV (as := [_]) (rest := []) q_38_112 t_mv_38_89 kd_1 IM27.1 (by decide) rfl (by decide) rfl rfl (Nat.le_of_ble_eq_true rfl) (Nat.le_of_ble_eq_true rfl) (by decide) (by decide) ?_
            refine PW.up (by decide) (c_X7_needsSign (V) (hV) G _ M27 IM27 c31 fun x33 M32 IM32 GM32 hx33 kx33 => ?_)
            have FM32 := Fr.trans FM27 GM32 (rfl)
            refine PW.jz_eq q_38_115 rfl (fun h34 => ?_) (fun h34 => ?_)
            · skip
              refine PW.cI q_38_122 (by decide) fun c35 hc35 => ?_
              refine PW.rZ q_38_123 rfl (by omega) (by omega) (by decide) (by decide) ?_
              exact hK c35 M32 IM32 FM32 (by omega) (by omega)
            · skip
              refine PW.cI q_38_118 (by decide) fun c36 hc36 => ?_
              refine PW.goto q_38_119 rfl ?_
              refine PW.rZ q_38_123 rfl (by omega) (by omega) (by decide) (by decide) ?_
              exact hK c36 M32 IM32 FM32 (by omega) (by omega)
      · skip
        refine PW.aload_n q_38_54 rfl ?_
        refine PW.aload_n q_38_55 rfl ?_
        refine PW.aload_n q_38_56 rfl ?_
        refine PW.iload_n q_38_57 rfl ?_
        refine PW.cI q_38_58 (by decide) fun c37 hc37 => ?_
        refine PW.addN q_38_59 (by omega) (by omega) fun x38 hx38 => ?_
        refine PW.cV (as := [_, _, _]) (rest := []) q_38_60 t_mv_38_66 kd_267 IM15.1 (by decide) rfl (by decide) rfl rfl (Nat.le_of_ble_eq_true rfl) (Nat.le_of_ble_eq_true rfl) (by decide) (by decide) ?_
        refine PW.up (by decide) (c_X4_readOne_9 (V) (hV) G _ M15 IM15 k2 hk_k2 x38 (by omega) (by omega) fun x40 M39 IM39 GM39 hx40 kx40 => ?_)
        have FM39 := Fr.trans FM15 GM39 (rfl)
        refine PW.jz_eq q_38_63 rfl (fun h41 => ?_) (fun h41 => ?_)
        · skip
          refine PW.cI q_38_82 (by decide) fun c42 hc42 => ?_
          refine PW.rZ q_38_83 rfl (by omega) (by omega) (by decide) (by decide) ?_
          exact hK c42 M39 IM39 FM39 (by omega) (by omega)
        · skip
          refine PW.aload_n q_38_66 rfl ?_
          refine PW.gets q_38_67 t_st_38_80 ?_
          refine PW.cI q_38_70 (by decide) fun c43 hc43 => ?_
          refine PW.cI q_38_71 (by decide) fun c44 hc44 => ?_
          refine PW.cV (as := [_, _, _]) (rest := []) q_38_72 t_mv_38_62 kd_267 IM39.1 (by decide) rfl (by decide) rfl rfl (Nat.le_of_ble_eq_true rfl) (Nat.le_of_ble_eq_true rfl) (by decide) (by decide) ?_
          refine PW.up (by decide) (c_X4_add (V) (hV) G _ M39 IM39 19 (by decide) c43 c44 (by omega) (by omega) fun x46 M45 IM45 GM45 hx46 kx46 => ?_)
          have FM45 := Fr.trans FM39 GM45 (rfl)
          refine PW.jz_eq q_38_75 rfl (fun h47 => False.elim (by omega)) (fun h47 => ?_)
          refine PW.cI q_38_78 (by decide) fun c48 hc48 => ?_
          refine PW.goto q_38_79 rfl ?_
          refine PW.rZ q_38_83 rfl (by omega) (by omega) (by decide) (by decide) ?_
          exact hK c48 M45 IM45 FM45 (by omega) (by omega)
  · skip
    refine PW.aload_n q_38_7 rfl ?_
    refine PW.cI q_38_8 (by decide) fun c49 hc49 => ?_
    refine PW.cV (as := [_]) (rest := []) q_38_9 t_mv_38_76 kd_1 IM1.1 (by decide) rfl (by decide) rfl rfl (Nat.le_of_ble_eq_true rfl) (Nat.le_of_ble_eq_true rfl) (by decide) (by decide) ?_
    refine PW.up (by decide) (c_X7_fail (V) (hV) G _ M1 IM1 c49 fun x51 M50 IM50 GM50 hx51 kx51 => ?_)
    have FM50 := Fr.trans FM1 GM50 (rfl)
    refine PW.rZ q_38_12 rfl (by omega) (by omega) (by decide) (by decide) ?_
    exact hK x51 M50 IM50 FM50 (by omega) (by omega)
theorem c_X4_readAll_8 (V : pM → Prop) (hV : Stab V) (G : pG) (Kr : pK) (M : pM) (I : Iv V M) (k2 : Nat) (hk_k2 : g_kd k2 = 4) (a3 : Int32) (hl_a3 : 8 ≤ a3.toInt) (hh_a3 : a3.toInt ≤ 8) (hK : ∀ (x : Int32) (M1 : pM), Iv V M1 → Fr [1, 14, 15, 16, 17] M M1 → 0 ≤ x.toInt → x.toInt ≤ 1 → Kr.1 (some (.int x)) 311 M1) : PW G false 7 37 (p_mc 37) (p_msl 37) Kr 0 (lv_args 0 [.ref 267, .ref 1, .ref k2, .int a3]) [] 311 M 0 0 := by
  have F : Fr [1, 14, 15, 16, 17] M M := Fr.refl
  refine PW.aload_n q_37_0 rfl ?_
  refine PW.aload_n q_37_1 rfl ?_
  refine PW.aload_n q_37_2 rfl ?_
  refine PW.iload_n q_37_3 rfl ?_
  refine PW.cV (as := [_, _, _]) (rest := []) q_37_4 t_mv_37_66 kd_267 I.1 (by decide) rfl (by decide) rfl rfl (Nat.le_of_ble_eq_true rfl) (Nat.le_of_ble_eq_true rfl) (by decide) (by decide) ?_
  refine PW.up (by decide) (c_X4_readOne_8 (V) (hV) G _ M I k2 hk_k2 a3 (by omega) (by omega) fun x2 M1 IM1 GM1 hx2 kx2 => ?_)
  have FM1 := Fr.trans F GM1 (rfl)
  refine PW.istore q_37_7 (by decide) ?_
  refine PW.cI q_37_9 (by decide) fun c3 hc3 => ?_
  refine PW.istore q_37_10 (by decide) ?_
  have L37_12_4 : ∀ (n : Nat) (ML37_12_4 : pM) (v5 v6 : Int32), Iv (V) ML37_12_4 → Fr [1, 14, 15, 16, 17] M ML37_12_4 → 0 ≤ v5.toInt → v5.toInt ≤ 1 → 0 ≤ v6.toInt → v6.toInt ≤ 20 → (20 - v6.toInt).toNat = n → PW G false 7 37 (p_mc 37) (p_msl 37) Kr 12 [(0, .ref 267), (1, .ref 1), (2, .ref k2), (3, .int a3), (4, .int v5), (5, .int v6)] [] 311 ML37_12_4 0 0 := by
    intro n
    induction n using Nat.strongRecOn with
    | ind n ih_L37_12_4 =>
    intro ML37_12_4 v5 v6 IML37_12_4 FML37_12_4 hbL37_12_40 hbL37_12_41 hbL37_12_42 hbL37_12_43 hmL37_12_4
    refine PW.iload q_37_12 rfl ?_
    refine PW.cB q_37_14 (by decide) fun c7 hc7 => ?_
    refine PW.jc_ge q_37_16 rfl (fun h8 => ?_) (fun h8 => ?_)
    · skip
      refine PW.iload q_37_69 rfl ?_
      refine PW.rZ q_37_71 rfl (by omega) (by omega) (by decide) (by decide) ?_
      exact hK v5 ML37_12_4 IML37_12_4 FML37_12_4 (by omega) (by omega)
    · skip
      refine PW.iload q_37_19 rfl ?_
      refine PW.jz_eq q_37_21 rfl (fun h9 => ?_) (fun h9 => ?_)
      · skip
        refine PW.iload q_37_69 rfl ?_
        refine PW.rZ q_37_71 rfl (by omega) (by omega) (by decide) (by decide) ?_
        exact hK v5 ML37_12_4 IML37_12_4 FML37_12_4 (by omega) (by omega)
      · skip
        refine PW.aload_n q_37_24 rfl ?_
        refine PW.gets q_37_25 t_st_37_69 ?_
        refine PW.cV (as := [_]) (rest := []) q_37_28 t_mv_37_58 kd_1 IML37_12_4.1 (by decide) rfl (by decide) rfl rfl (Nat.le_of_ble_eq_true rfl) (Nat.le_of_ble_eq_true rfl) (by decide) (by decide) ?_
        refine PW.up (by decide) (c_X7_takes (V) (hV) G _ ML37_12_4 IML37_12_4 18 (by decide) fun x11 M10 IM10 GM10 hx11 kx11 => ?_)
        have FM10 := Fr.trans FML37_12_4 GM10 (rfl)
        refine PW.jz_eq q_37_31 rfl (fun h12 => ?_) (fun h12 => ?_)
        · skip
          refine PW.iload q_37_69 rfl ?_
          refine PW.rZ q_37_71 rfl (by omega) (by omega) (by decide) (by decide) ?_
          exact hK v5 M10 IM10 FM10 (by omega) (by omega)
        · skip
          refine PW.aload_n q_37_34 rfl ?_
          refine PW.aload_n q_37_35 rfl ?_
          refine PW.aload_n q_37_36 rfl ?_
          refine PW.iload_n q_37_37 rfl ?_
          refine PW.cV (as := [_, _, _]) (rest := []) q_37_38 t_mv_37_66 kd_267 IM10.1 (by decide) rfl (by decide) rfl rfl (Nat.le_of_ble_eq_true rfl) (Nat.le_of_ble_eq_true rfl) (by decide) (by decide) ?_
          refine PW.up (by decide) (c_X4_readOne_8 (V) (hV) G _ M10 IM10 k2 hk_k2 a3 (by omega) (by omega) fun x14 M13 IM13 GM13 hx14 kx14 => ?_)
          have FM13 := Fr.trans FM10 GM13 (rfl)
          have J61_16 : ∀ (MJ61_16 : pM) (s17 : Int32), Iv (V) MJ61_16 → Fr [1, 14, 15, 16, 17] M MJ61_16 → 0 ≤ s17.toInt → s17.toInt ≤ 1 → PW G false 7 37 (p_mc 37) (p_msl 37) Kr 61 [(0, .ref 267), (1, .ref 1), (2, .ref k2), (3, .int a3), (4, .int v5), (5, .int v6)] [.int s17] 311 MJ61_16 0 0 := by
            intro MJ61_16 s17 IMJ61_16 FMJ61_16 hbJ61_160 hbJ61_161
            refine PW.istore q_37_61 (by decide) ?_
            refine PW.incN q_37_63 rfl (by decide) (by decide) (by omega) (by omega) fun x18 hx18 => ?_
            refine PW.goto q_37_66 rfl ?_
            refine PW.lvS (lk1 rfl (lk1 rfl (lk1 rfl (lk1 rfl (lk1 rfl (lk1 rfl lk0)))))) (ih_L37_12_4 _ ?_ MJ61_16 s17 x18 IMJ61_16 FMJ61_16 (by omega) (by omega) (by omega) (by omega) rfl)
            omega
          refine PW.jz_eq q_37_41 rfl (fun h15 => ?_) (fun h15 => ?_)
          · skip
            refine PW.cI q_37_60 (by decide) fun c19 hc19 => ?_
            exact PW.lvS (lk1 rfl (lk1 rfl (lk1 rfl (lk1 rfl (lk1 rfl (lk1 rfl lk0)))))) (J61_16 M13 c19 IM13 FM13 (by omega) (by omega))
          · skip
            refine PW.aload_n q_37_44 rfl ?_
            refine PW.gets q_37_45 t_st_37_69 ?_
            refine PW.cI q_37_48 (by decide) fun c20 hc20 => ?_
            refine PW.cI q_37_49 (by decide) fun c21 hc21 => ?_
            refine PW.cV (as := [_, _, _]) (rest := []) q_37_50 t_mv_37_62 kd_267 IM13.1 (by decide) rfl (by decide) rfl rfl (Nat.le_of_ble_eq_true rfl) (Nat.le_of_ble_eq_true rfl) (by decide) (by decide) ?_
            refine PW.up (by decide) (c_X4_add (V) (hV) G _ M13 IM13 18 (by decide) c20 c21 (by omega) (by omega) fun x23 M22 IM22 GM22 hx23 kx23 => ?_)
            have FM22 := Fr.trans FM13 GM22 (rfl)
            refine PW.jz_eq q_37_53 rfl (fun h24 => False.elim (by omega)) (fun h24 => ?_)
            refine PW.cI q_37_56 (by decide) fun c25 hc25 => ?_
            refine PW.goto q_37_57 rfl ?_
            exact PW.lvS (lk1 rfl (lk1 rfl (lk1 rfl (lk1 rfl (lk1 rfl (lk1 rfl lk0)))))) (J61_16 M22 c25 IM22 FM22 (by omega) (by omega))
  exact PW.lvS (lk1 rfl (lk1 rfl (lk1 rfl (lk1 rfl (lk1 rfl (lk1 rfl lk0)))))) (L37_12_4 _ M1 x2 c3 IM1 FM1 (by omega) (by omega) (by omega) (by omega) rfl)
theorem c_X4_readAny_8 (V : pM → Prop) (hV : Stab V) (G : pG) (Kr : pK) (M : pM) (I : Iv V M) (k2 : Nat) (hk_k2 : g_kd k2 = 4) (a3 : Int32) (hl_a3 : 8 ≤ a3.toInt) (hh_a3 : a3.toInt ≤ 8) (hK : ∀ (x : Int32) (M1 : pM), Iv V M1 → Fr [1, 14, 15, 16, 17] M M1 → 0 ≤ x.toInt → x.toInt ≤ 1 → Kr.1 (some (.int x)) 311 M1) : PW G false 8 36 (p_mc 36) (p_msl 36) Kr 0 (lv_args 0 [.ref 267, .ref 1, .ref k2, .int a3]) [] 311 M 0 0 := by
  have F : Fr [1, 14, 15, 16, 17] M M := Fr.refl
  refine PW.aload_n q_36_0 rfl ?_
  refine PW.aload_n q_36_1 rfl ?_
  refine PW.aload_n q_36_2 rfl ?_
  refine PW.iload_n q_36_3 rfl ?_
  refine PW.cV (as := [_, _, _]) (rest := []) q_36_4 t_mv_36_51 kd_267 I.1 (by decide) rfl (by decide) rfl rfl (Nat.le_of_ble_eq_true rfl) (Nat.le_of_ble_eq_true rfl) (by decide) (by decide) ?_
  refine PW.up (by decide) (c_X4_readAll_8 (V) (hV) G _ M I k2 hk_k2 a3 (by omega) (by omega) fun x2 M1 IM1 GM1 hx2 kx2 => ?_)
  have FM1 := Fr.trans F GM1 (rfl)
  refine PW.istore q_36_7 (by decide) ?_
  refine PW.cI q_36_9 (by decide) fun c3 hc3 => ?_
  refine PW.istore q_36_10 (by decide) ?_
  have L36_12_4 : ∀ (n : Nat) (ML36_12_4 : pM) (v5 v6 : Int32), Iv (V) ML36_12_4 → Fr [1, 14, 15, 16, 17] M ML36_12_4 → 0 ≤ v5.toInt → v5.toInt ≤ 1 → 0 ≤ v6.toInt → v6.toInt ≤ 20 → (20 - v6.toInt).toNat = n → PW G false 8 36 (p_mc 36) (p_msl 36) Kr 12 [(0, .ref 267), (1, .ref 1), (2, .ref k2), (3, .int a3), (4, .int v5), (5, .int v6)] [] 311 ML36_12_4 0 0 := by
    intro n
    induction n using Nat.strongRecOn with
    | ind n ih_L36_12_4 =>
    intro ML36_12_4 v5 v6 IML36_12_4 FML36_12_4 hbL36_12_40 hbL36_12_41 hbL36_12_42 hbL36_12_43 hmL36_12_4
    refine PW.iload q_36_12 rfl ?_
    refine PW.cB q_36_14 (by decide) fun c7 hc7 => ?_
    refine PW.jc_ge q_36_16 rfl (fun h8 => ?_) (fun h8 => ?_)
    · skip
      refine PW.iload q_36_69 rfl ?_
      refine PW.rZ q_36_71 rfl (by omega) (by omega) (by decide) (by decide) ?_
      exact hK v5 ML36_12_4 IML36_12_4 FML36_12_4 (by omega) (by omega)
    · skip
      refine PW.iload q_36_19 rfl ?_
      refine PW.jz_eq q_36_21 rfl (fun h9 => ?_) (fun h9 => ?_)
      · skip
        refine PW.iload q_36_69 rfl ?_
        refine PW.rZ q_36_71 rfl (by omega) (by omega) (by decide) (by decide) ?_
        exact hK v5 ML36_12_4 IML36_12_4 FML36_12_4 (by omega) (by omega)
      · skip
        refine PW.aload_n q_36_24 rfl ?_
        refine PW.gets q_36_25 t_st_36_54 ?_
        refine PW.cV (as := [_]) (rest := []) q_36_28 t_mv_36_58 kd_1 IML36_12_4.1 (by decide) rfl (by decide) rfl rfl (Nat.le_of_ble_eq_true rfl) (Nat.le_of_ble_eq_true rfl) (by decide) (by decide) ?_
        refine PW.up (by decide) (c_X7_takes (V) (hV) G _ ML36_12_4 IML36_12_4 17 (by decide) fun x11 M10 IM10 GM10 hx11 kx11 => ?_)
        have FM10 := Fr.trans FML36_12_4 GM10 (rfl)
        refine PW.jz_eq q_36_31 rfl (fun h12 => ?_) (fun h12 => ?_)
        · skip
          refine PW.iload q_36_69 rfl ?_
          refine PW.rZ q_36_71 rfl (by omega) (by omega) (by decide) (by decide) ?_
          exact hK v5 M10 IM10 FM10 (by omega) (by omega)
        · skip
          refine PW.aload_n q_36_34 rfl ?_
          refine PW.aload_n q_36_35 rfl ?_
          refine PW.aload_n q_36_36 rfl ?_
          refine PW.iload_n q_36_37 rfl ?_
          refine PW.cV (as := [_, _, _]) (rest := []) q_36_38 t_mv_36_51 kd_267 IM10.1 (by decide) rfl (by decide) rfl rfl (Nat.le_of_ble_eq_true rfl) (Nat.le_of_ble_eq_true rfl) (by decide) (by decide) ?_
          refine PW.up (by decide) (c_X4_readAll_8 (V) (hV) G _ M10 IM10 k2 hk_k2 a3 (by omega) (by omega) fun x14 M13 IM13 GM13 hx14 kx14 => ?_)
          have FM13 := Fr.trans FM10 GM13 (rfl)
          have J61_16 : ∀ (MJ61_16 : pM) (s17 : Int32), Iv (V) MJ61_16 → Fr [1, 14, 15, 16, 17] M MJ61_16 → 0 ≤ s17.toInt → s17.toInt ≤ 1 → PW G false 8 36 (p_mc 36) (p_msl 36) Kr 61 [(0, .ref 267), (1, .ref 1), (2, .ref k2), (3, .int a3), (4, .int v5), (5, .int v6)] [.int s17] 311 MJ61_16 0 0 := by
            intro MJ61_16 s17 IMJ61_16 FMJ61_16 hbJ61_160 hbJ61_161
            refine PW.istore q_36_61 (by decide) ?_
            refine PW.incN q_36_63 rfl (by decide) (by decide) (by omega) (by omega) fun x18 hx18 => ?_
            refine PW.goto q_36_66 rfl ?_
            refine PW.lvS (lk1 rfl (lk1 rfl (lk1 rfl (lk1 rfl (lk1 rfl (lk1 rfl lk0)))))) (ih_L36_12_4 _ ?_ MJ61_16 s17 x18 IMJ61_16 FMJ61_16 (by omega) (by omega) (by omega) (by omega) rfl)
            omega
          refine PW.jz_eq q_36_41 rfl (fun h15 => ?_) (fun h15 => ?_)
          · skip
            refine PW.cI q_36_60 (by decide) fun c19 hc19 => ?_
            exact PW.lvS (lk1 rfl (lk1 rfl (lk1 rfl (lk1 rfl (lk1 rfl (lk1 rfl lk0)))))) (J61_16 M13 c19 IM13 FM13 (by omega) (by omega))
          · skip
            refine PW.aload_n q_36_44 rfl ?_
            refine PW.gets q_36_45 t_st_36_54 ?_
            refine PW.cI q_36_48 (by decide) fun c20 hc20 => ?_
            refine PW.cI q_36_49 (by decide) fun c21 hc21 => ?_
            refine PW.cV (as := [_, _, _]) (rest := []) q_36_50 t_mv_36_62 kd_267 IM13.1 (by decide) rfl (by decide) rfl rfl (Nat.le_of_ble_eq_true rfl) (Nat.le_of_ble_eq_true rfl) (by decide) (by decide) ?_
            refine PW.up (by decide) (c_X4_add (V) (hV) G _ M13 IM13 17 (by decide) c20 c21 (by omega) (by omega) fun x23 M22 IM22 GM22 hx23 kx23 => ?_)
            have FM22 := Fr.trans FM13 GM22 (rfl)
            refine PW.jz_eq q_36_53 rfl (fun h24 => False.elim (by omega)) (fun h24 => ?_)
            refine PW.cI q_36_56 (by decide) fun c25 hc25 => ?_
            refine PW.goto q_36_57 rfl ?_
            exact PW.lvS (lk1 rfl (lk1 rfl (lk1 rfl (lk1 rfl (lk1 rfl (lk1 rfl lk0)))))) (J61_16 M22 c25 IM22 FM22 (by omega) (by omega))
  exact PW.lvS (lk1 rfl (lk1 rfl (lk1 rfl (lk1 rfl (lk1 rfl (lk1 rfl lk0)))))) (L36_12_4 _ M1 x2 c3 IM1 FM1 (by omega) (by omega) (by omega) (by omega) rfl)
theorem c_X4_readOne_7 (V : pM → Prop) (hV : Stab V) (G : pG) (Kr : pK) (M : pM) (I : Iv V M) (k2 : Nat) (hk_k2 : g_kd k2 = 4) (a3 : Int32) (hl_a3 : 7 ≤ a3.toInt) (hh_a3 : a3.toInt ≤ 7) (hK : ∀ (x : Int32) (M1 : pM), Iv V M1 → Fr [1, 14, 15, 16, 17] M M1 → 0 ≤ x.toInt → x.toInt ≤ 1 → Kr.1 (some (.int x)) 311 M1) : PW G false 9 38 (p_mc 38) (p_msl 38) Kr 0 (lv_args 0 [.ref 267, .ref 1, .ref k2, .int a3]) [] 311 M 0 0 := by
  have F : Fr [1, 14, 15, 16, 17] M M := Fr.refl
  refine PW.aload_n q_38_0 rfl ?_
  refine PW.callS (as := [_]) (rest := []) q_38_1 t_ms_38_72 (by decide) rfl (Nat.le_of_ble_eq_true rfl) (Nat.le_of_ble_eq_true rfl) (by decide) (by decide) ?_
  refine PW.up (by decide) (c_X4_beginsOne (V) (hV) G _ M I  fun x2 M1 IM1 GM1 hx2 kx2 => ?_)
  have FM1 := Fr.trans F GM1 (rfl)
  refine PW.jz_ne q_38_4 rfl (fun h3 => ?_) (fun h3 => ?_)
  · skip
    refine PW.aload_n q_38_13 rfl ?_
    refine PW.gI q_38_14 (Or.inl t_ft_38_27) gF_14_0 kd_267 IM1.1 (by decide) fun x4 fx4 hx4 kx4 => ?_
    clear hx4 kx4
    refine PW.cB q_38_17 (by decide) fun c5 hc5 => ?_
    refine PW.jc_ge q_38_19 rfl (fun h6 => ?_) (fun h6 => ?_)
    · skip
      refine PW.aload_n q_38_28 rfl ?_
      refine PW.cI q_38_29 (by decide) fun c7 hc7 => ?_
      refine PW.cV (as := [_]) (rest := []) q_38_30 t_mv_38_76 kd_1 IM1.1 (by decide) rfl (by decide) rfl rfl (Nat.le_of_ble_eq_true rfl) (Nat.le_of_ble_eq_true rfl) (by decide) (by decide) ?_
      refine PW.up (by decide) (c_X7_fail (V) (hV) G _ M1 IM1 c7 fun x9 M8 IM8 GM8 hx9 kx9 => ?_)
      have FM8 := Fr.trans FM1 GM8 (rfl)
      refine PW.rZ q_38_33 rfl (by omega) (by omega) (by decide) (by decide) ?_
      exact hK x9 M8 IM8 FM8 (by omega) (by omega)
    · skip
      refine PW.iload_n q_38_22 rfl ?_
      refine PW.cB q_38_23 (by decide) fun c10 hc10 => ?_
      refine PW.jc_le q_38_25 rfl (fun h11 => ?_) (fun h11 => False.elim (by omega))
      refine PW.aload_n q_38_34 rfl ?_
      refine PW.dup q_38_35 rfl ?_
      refine PW.gE q_38_36 (Or.inl t_ft_38_27) gF_14_0 kd_267 IM1.1 (by decide) fx4 ?_
      refine PW.cI q_38_39 (by decide) fun c12 hc12 => ?_
      refine PW.addN q_38_40 (by have := n_lo x4; have := n_hi x4; omega) (by have := n_lo x4; have := n_hi x4; omega) fun x13 hx13 => ?_
      refine PW.pI q_38_41 (Or.inl t_ft_38_27) gF_14_0 gP_14_0 kd_267 hV IM1 (by decide) rfl (n_lo _) (n_hi _) fun M14 IM14 fM14 UM14 => ?_
      have FM14 := Fr.pu FM1 UM14.1 kd_267 (rfl : List.contains [1, 14, 15, 16, 17] 14 = true)
      refine PW.aload_n q_38_44 rfl ?_
      refine PW.gets q_38_45 t_st_38_80 ?_
      refine PW.cV (as := [_]) (rest := []) q_38_48 t_mv_38_58 kd_1 IM14.1 (by decide) rfl (by decide) rfl rfl (Nat.le_of_ble_eq_true rfl) (Nat.le_of_ble_eq_true rfl) (by decide) (by decide) ?_
      refine PW.up (by decide) (c_X7_takes (V) (hV) G _ M14 IM14 19 (by decide) fun x16 M15 IM15 GM15 hx16 kx16 => ?_)
      have FM15 := Fr.trans FM14 GM15 (rfl)
      refine PW.jz_eq q_38_51 rfl (fun h17 => ?_) (fun h17 => ?_)
      · skip
        refine PW.aload_n q_38_84 rfl ?_
        refine PW.cB q_38_85 (by decide) fun c18 hc18 => ?_
        refine PW.cV (as := [_]) (rest := []) q_38_87 t_mv_38_83 kd_1 IM15.1 (by decide) rfl (by decide) rfl rfl (Nat.le_of_ble_eq_true rfl) (Nat.le_of_ble_eq_true rfl) (by decide) (by decide) ?_
        refine PW.up (by decide) (c_X7_seesSign (V) (hV) G _ M15 IM15 c18 fun x20 M19 IM19 GM19 hx20 kx20 => ?_)
        have FM19 := Fr.trans FM15 GM19 (rfl)
        refine PW.jz_eq q_38_90 rfl (fun h21 => ?_) (fun h21 => ?_)
        · skip
          refine PW.aload_n q_38_124 rfl ?_
          refine PW.aload_n q_38_125 rfl ?_
          refine PW.aload_n q_38_126 rfl ?_
          refine PW.cV (as := [_, _]) (rest := []) q_38_127 t_mv_38_92 kd_267 IM19.1 (by decide) rfl (by decide) rfl rfl (Nat.le_of_ble_eq_true rfl) (Nat.le_of_ble_eq_true rfl) (by decide) (by decide) ?_
          refine PW.up (by decide) (c_X4_readPlain (V) (hV) G _ M19 IM19 k2 hk_k2 fun x23 M22 IM22 GM22 hx23 kx23 => ?_)
          have FM22 := Fr.trans FM19 GM22 (rfl)
          refine PW.rZ q_38_130 rfl (by omega) (by omega) (by decide) (by decide) ?_
          exact hK x23 M22 IM22 FM22 (by omega) (by omega)
        · skip
          refine PW.aload_n q_38_93 rfl ?_
          refine PW.cV (as := []) (rest := []) q_38_94 t_mv_38_86 kd_1 IM19.1 (by decide) rfl (by decide) rfl rfl (Nat.le_of_ble_eq_true rfl) (Nat.le_of_ble_eq_true rfl) (by decide) (by decide) ?_
          refine PW.up (by decide) (c_X7_advance (V) (hV) G _ M19 IM19  fun M24 IM24 GM24 => ?_)
          have FM24 := Fr.trans FM19 GM24 (rfl)
          refine PW.aload_n q_38_97 rfl ?_
          refine PW.aload_n q_38_98 rfl ?_
          refine PW.aload_n q_38_99 rfl ?_
          refine PW.iload_n q_38_100 rfl ?_
          refine PW.cI q_38_101 (by decide) fun c25 hc25 => ?_
          refine PW.addN q_38_102 (by omega) (by omega) fun x26 hx26 => ?_
          refine PW.cV (as := [_, _, _]) (rest := []) q_38_103 t_mv_38_43 kd_267 IM24.1 (by decide) rfl (by decide) rfl rfl (Nat.le_of_ble_eq_true rfl) (Nat.le_of_ble_eq_true rfl) (by decide) (by decide) ?_
          refine PW.up (by decide) (c_X4_readAny_8 (V) (hV) G _ M24 IM24 k2 hk_k2 x26 (by omega) (by omega) fun x28 M27 IM27 GM27 hx28 kx28 => ?_)
          have FM27 := Fr.trans FM24 GM27 (rfl)
          refine PW.jz_eq q_38_106 rfl (fun h29 => ?_) (fun h29 => ?_)
          · skip
            refine PW.cI q_38_122 (by decide) fun c30 hc30 => ?_
            refine PW.rZ q_38_123 rfl (by omega) (by omega) (by decide) (by decide) ?_
            exact hK c30 M27 IM27 FM27 (by omega) (by omega)
          · skip
            refine PW.aload_n q_38_109 rfl ?_
            refine PW.cB q_38_110 (by decide) fun c31 hc31 => ?_
            refine PW.cV (as := [_]) (rest := []) q_38_112 t_mv_38_89 kd_1 IM27.1 (by decide) rfl (by decide) rfl rfl (Nat.le_of_ble_eq_true rfl) (Nat.le_of_ble_eq_true rfl) (by decide) (by decide) ?_
            refine PW.up (by decide) (c_X7_needsSign (V) (hV) G _ M27 IM27 c31 fun x33 M32 IM32 GM32 hx33 kx33 => ?_)
            have FM32 := Fr.trans FM27 GM32 (rfl)
            refine PW.jz_eq q_38_115 rfl (fun h34 => ?_) (fun h34 => ?_)
            · skip
              refine PW.cI q_38_122 (by decide) fun c35 hc35 => ?_
              refine PW.rZ q_38_123 rfl (by omega) (by omega) (by decide) (by decide) ?_
              exact hK c35 M32 IM32 FM32 (by omega) (by omega)
            · skip
              refine PW.cI q_38_118 (by decide) fun c36 hc36 => ?_
              refine PW.goto q_38_119 rfl ?_
              refine PW.rZ q_38_123 rfl (by omega) (by omega) (by decide) (by decide) ?_
              exact hK c36 M32 IM32 FM32 (by omega) (by omega)
      · skip
        refine PW.aload_n q_38_54 rfl ?_
        refine PW.aload_n q_38_55 rfl ?_
        refine PW.aload_n q_38_56 rfl ?_
        refine PW.iload_n q_38_57 rfl ?_
        refine PW.cI q_38_58 (by decide) fun c37 hc37 => ?_
        refine PW.addN q_38_59 (by omega) (by omega) fun x38 hx38 => ?_
        refine PW.cV (as := [_, _, _]) (rest := []) q_38_60 t_mv_38_66 kd_267 IM15.1 (by decide) rfl (by decide) rfl rfl (Nat.le_of_ble_eq_true rfl) (Nat.le_of_ble_eq_true rfl) (by decide) (by decide) ?_
        refine PW.up (by decide) (c_X4_readOne_8 (V) (hV) G _ M15 IM15 k2 hk_k2 x38 (by omega) (by omega) fun x40 M39 IM39 GM39 hx40 kx40 => ?_)
        have FM39 := Fr.trans FM15 GM39 (rfl)
        refine PW.jz_eq q_38_63 rfl (fun h41 => ?_) (fun h41 => ?_)
        · skip
          refine PW.cI q_38_82 (by decide) fun c42 hc42 => ?_
          refine PW.rZ q_38_83 rfl (by omega) (by omega) (by decide) (by decide) ?_
          exact hK c42 M39 IM39 FM39 (by omega) (by omega)
        · skip
          refine PW.aload_n q_38_66 rfl ?_
          refine PW.gets q_38_67 t_st_38_80 ?_
          refine PW.cI q_38_70 (by decide) fun c43 hc43 => ?_
          refine PW.cI q_38_71 (by decide) fun c44 hc44 => ?_
          refine PW.cV (as := [_, _, _]) (rest := []) q_38_72 t_mv_38_62 kd_267 IM39.1 (by decide) rfl (by decide) rfl rfl (Nat.le_of_ble_eq_true rfl) (Nat.le_of_ble_eq_true rfl) (by decide) (by decide) ?_
          refine PW.up (by decide) (c_X4_add (V) (hV) G _ M39 IM39 19 (by decide) c43 c44 (by omega) (by omega) fun x46 M45 IM45 GM45 hx46 kx46 => ?_)
          have FM45 := Fr.trans FM39 GM45 (rfl)
          refine PW.jz_eq q_38_75 rfl (fun h47 => False.elim (by omega)) (fun h47 => ?_)
          refine PW.cI q_38_78 (by decide) fun c48 hc48 => ?_
          refine PW.goto q_38_79 rfl ?_
          refine PW.rZ q_38_83 rfl (by omega) (by omega) (by decide) (by decide) ?_
          exact hK c48 M45 IM45 FM45 (by omega) (by omega)
  · skip
    refine PW.aload_n q_38_7 rfl ?_
    refine PW.cI q_38_8 (by decide) fun c49 hc49 => ?_
    refine PW.cV (as := [_]) (rest := []) q_38_9 t_mv_38_76 kd_1 IM1.1 (by decide) rfl (by decide) rfl rfl (Nat.le_of_ble_eq_true rfl) (Nat.le_of_ble_eq_true rfl) (by decide) (by decide) ?_
    refine PW.up (by decide) (c_X7_fail (V) (hV) G _ M1 IM1 c49 fun x51 M50 IM50 GM50 hx51 kx51 => ?_)
    have FM50 := Fr.trans FM1 GM50 (rfl)
    refine PW.rZ q_38_12 rfl (by omega) (by omega) (by decide) (by decide) ?_
    exact hK x51 M50 IM50 FM50 (by omega) (by omega)
theorem c_X4_readAll_7 (V : pM → Prop) (hV : Stab V) (G : pG) (Kr : pK) (M : pM) (I : Iv V M) (k2 : Nat) (hk_k2 : g_kd k2 = 4) (a3 : Int32) (hl_a3 : 7 ≤ a3.toInt) (hh_a3 : a3.toInt ≤ 7) (hK : ∀ (x : Int32) (M1 : pM), Iv V M1 → Fr [1, 14, 15, 16, 17] M M1 → 0 ≤ x.toInt → x.toInt ≤ 1 → Kr.1 (some (.int x)) 311 M1) : PW G false 10 37 (p_mc 37) (p_msl 37) Kr 0 (lv_args 0 [.ref 267, .ref 1, .ref k2, .int a3]) [] 311 M 0 0 := by
  have F : Fr [1, 14, 15, 16, 17] M M := Fr.refl
  refine PW.aload_n q_37_0 rfl ?_
  refine PW.aload_n q_37_1 rfl ?_
  refine PW.aload_n q_37_2 rfl ?_
  refine PW.iload_n q_37_3 rfl ?_
  refine PW.cV (as := [_, _, _]) (rest := []) q_37_4 t_mv_37_66 kd_267 I.1 (by decide) rfl (by decide) rfl rfl (Nat.le_of_ble_eq_true rfl) (Nat.le_of_ble_eq_true rfl) (by decide) (by decide) ?_
  refine PW.up (by decide) (c_X4_readOne_7 (V) (hV) G _ M I k2 hk_k2 a3 (by omega) (by omega) fun x2 M1 IM1 GM1 hx2 kx2 => ?_)
  have FM1 := Fr.trans F GM1 (rfl)
  refine PW.istore q_37_7 (by decide) ?_
  refine PW.cI q_37_9 (by decide) fun c3 hc3 => ?_
  refine PW.istore q_37_10 (by decide) ?_
  have L37_12_4 : ∀ (n : Nat) (ML37_12_4 : pM) (v5 v6 : Int32), Iv (V) ML37_12_4 → Fr [1, 14, 15, 16, 17] M ML37_12_4 → 0 ≤ v5.toInt → v5.toInt ≤ 1 → 0 ≤ v6.toInt → v6.toInt ≤ 20 → (20 - v6.toInt).toNat = n → PW G false 10 37 (p_mc 37) (p_msl 37) Kr 12 [(0, .ref 267), (1, .ref 1), (2, .ref k2), (3, .int a3), (4, .int v5), (5, .int v6)] [] 311 ML37_12_4 0 0 := by
    intro n
    induction n using Nat.strongRecOn with
    | ind n ih_L37_12_4 =>
    intro ML37_12_4 v5 v6 IML37_12_4 FML37_12_4 hbL37_12_40 hbL37_12_41 hbL37_12_42 hbL37_12_43 hmL37_12_4
    refine PW.iload q_37_12 rfl ?_
    refine PW.cB q_37_14 (by decide) fun c7 hc7 => ?_
    refine PW.jc_ge q_37_16 rfl (fun h8 => ?_) (fun h8 => ?_)
    · skip
      refine PW.iload q_37_69 rfl ?_
      refine PW.rZ q_37_71 rfl (by omega) (by omega) (by decide) (by decide) ?_
      exact hK v5 ML37_12_4 IML37_12_4 FML37_12_4 (by omega) (by omega)
    · skip
      refine PW.iload q_37_19 rfl ?_
      refine PW.jz_eq q_37_21 rfl (fun h9 => ?_) (fun h9 => ?_)
      · skip
        refine PW.iload q_37_69 rfl ?_
        refine PW.rZ q_37_71 rfl (by omega) (by omega) (by decide) (by decide) ?_
        exact hK v5 ML37_12_4 IML37_12_4 FML37_12_4 (by omega) (by omega)
      · skip
        refine PW.aload_n q_37_24 rfl ?_
        refine PW.gets q_37_25 t_st_37_69 ?_
        refine PW.cV (as := [_]) (rest := []) q_37_28 t_mv_37_58 kd_1 IML37_12_4.1 (by decide) rfl (by decide) rfl rfl (Nat.le_of_ble_eq_true rfl) (Nat.le_of_ble_eq_true rfl) (by decide) (by decide) ?_
        refine PW.up (by decide) (c_X7_takes (V) (hV) G _ ML37_12_4 IML37_12_4 18 (by decide) fun x11 M10 IM10 GM10 hx11 kx11 => ?_)
        have FM10 := Fr.trans FML37_12_4 GM10 (rfl)
        refine PW.jz_eq q_37_31 rfl (fun h12 => ?_) (fun h12 => ?_)
        · skip
          refine PW.iload q_37_69 rfl ?_
          refine PW.rZ q_37_71 rfl (by omega) (by omega) (by decide) (by decide) ?_
          exact hK v5 M10 IM10 FM10 (by omega) (by omega)
        · skip
          refine PW.aload_n q_37_34 rfl ?_
          refine PW.aload_n q_37_35 rfl ?_
          refine PW.aload_n q_37_36 rfl ?_
          refine PW.iload_n q_37_37 rfl ?_
          refine PW.cV (as := [_, _, _]) (rest := []) q_37_38 t_mv_37_66 kd_267 IM10.1 (by decide) rfl (by decide) rfl rfl (Nat.le_of_ble_eq_true rfl) (Nat.le_of_ble_eq_true rfl) (by decide) (by decide) ?_
          refine PW.up (by decide) (c_X4_readOne_7 (V) (hV) G _ M10 IM10 k2 hk_k2 a3 (by omega) (by omega) fun x14 M13 IM13 GM13 hx14 kx14 => ?_)
          have FM13 := Fr.trans FM10 GM13 (rfl)
          have J61_16 : ∀ (MJ61_16 : pM) (s17 : Int32), Iv (V) MJ61_16 → Fr [1, 14, 15, 16, 17] M MJ61_16 → 0 ≤ s17.toInt → s17.toInt ≤ 1 → PW G false 10 37 (p_mc 37) (p_msl 37) Kr 61 [(0, .ref 267), (1, .ref 1), (2, .ref k2), (3, .int a3), (4, .int v5), (5, .int v6)] [.int s17] 311 MJ61_16 0 0 := by
            intro MJ61_16 s17 IMJ61_16 FMJ61_16 hbJ61_160 hbJ61_161
            refine PW.istore q_37_61 (by decide) ?_
            refine PW.incN q_37_63 rfl (by decide) (by decide) (by omega) (by omega) fun x18 hx18 => ?_
            refine PW.goto q_37_66 rfl ?_
            refine PW.lvS (lk1 rfl (lk1 rfl (lk1 rfl (lk1 rfl (lk1 rfl (lk1 rfl lk0)))))) (ih_L37_12_4 _ ?_ MJ61_16 s17 x18 IMJ61_16 FMJ61_16 (by omega) (by omega) (by omega) (by omega) rfl)
            omega
          refine PW.jz_eq q_37_41 rfl (fun h15 => ?_) (fun h15 => ?_)
          · skip
            refine PW.cI q_37_60 (by decide) fun c19 hc19 => ?_
            exact PW.lvS (lk1 rfl (lk1 rfl (lk1 rfl (lk1 rfl (lk1 rfl (lk1 rfl lk0)))))) (J61_16 M13 c19 IM13 FM13 (by omega) (by omega))
          · skip
            refine PW.aload_n q_37_44 rfl ?_
            refine PW.gets q_37_45 t_st_37_69 ?_
            refine PW.cI q_37_48 (by decide) fun c20 hc20 => ?_
            refine PW.cI q_37_49 (by decide) fun c21 hc21 => ?_
            refine PW.cV (as := [_, _, _]) (rest := []) q_37_50 t_mv_37_62 kd_267 IM13.1 (by decide) rfl (by decide) rfl rfl (Nat.le_of_ble_eq_true rfl) (Nat.le_of_ble_eq_true rfl) (by decide) (by decide) ?_
            refine PW.up (by decide) (c_X4_add (V) (hV) G _ M13 IM13 18 (by decide) c20 c21 (by omega) (by omega) fun x23 M22 IM22 GM22 hx23 kx23 => ?_)
            have FM22 := Fr.trans FM13 GM22 (rfl)
            refine PW.jz_eq q_37_53 rfl (fun h24 => False.elim (by omega)) (fun h24 => ?_)
            refine PW.cI q_37_56 (by decide) fun c25 hc25 => ?_
            refine PW.goto q_37_57 rfl ?_
            exact PW.lvS (lk1 rfl (lk1 rfl (lk1 rfl (lk1 rfl (lk1 rfl (lk1 rfl lk0)))))) (J61_16 M22 c25 IM22 FM22 (by omega) (by omega))
  exact PW.lvS (lk1 rfl (lk1 rfl (lk1 rfl (lk1 rfl (lk1 rfl (lk1 rfl lk0)))))) (L37_12_4 _ M1 x2 c3 IM1 FM1 (by omega) (by omega) (by omega) (by omega) rfl)
theorem c_X4_readAny_7 (V : pM → Prop) (hV : Stab V) (G : pG) (Kr : pK) (M : pM) (I : Iv V M) (k2 : Nat) (hk_k2 : g_kd k2 = 4) (a3 : Int32) (hl_a3 : 7 ≤ a3.toInt) (hh_a3 : a3.toInt ≤ 7) (hK : ∀ (x : Int32) (M1 : pM), Iv V M1 → Fr [1, 14, 15, 16, 17] M M1 → 0 ≤ x.toInt → x.toInt ≤ 1 → Kr.1 (some (.int x)) 311 M1) : PW G false 11 36 (p_mc 36) (p_msl 36) Kr 0 (lv_args 0 [.ref 267, .ref 1, .ref k2, .int a3]) [] 311 M 0 0 := by
  have F : Fr [1, 14, 15, 16, 17] M M := Fr.refl
  refine PW.aload_n q_36_0 rfl ?_
  refine PW.aload_n q_36_1 rfl ?_
  refine PW.aload_n q_36_2 rfl ?_
  refine PW.iload_n q_36_3 rfl ?_
  refine PW.cV (as := [_, _, _]) (rest := []) q_36_4 t_mv_36_51 kd_267 I.1 (by decide) rfl (by decide) rfl rfl (Nat.le_of_ble_eq_true rfl) (Nat.le_of_ble_eq_true rfl) (by decide) (by decide) ?_
  refine PW.up (by decide) (c_X4_readAll_7 (V) (hV) G _ M I k2 hk_k2 a3 (by omega) (by omega) fun x2 M1 IM1 GM1 hx2 kx2 => ?_)
  have FM1 := Fr.trans F GM1 (rfl)
  refine PW.istore q_36_7 (by decide) ?_
  refine PW.cI q_36_9 (by decide) fun c3 hc3 => ?_
  refine PW.istore q_36_10 (by decide) ?_
  have L36_12_4 : ∀ (n : Nat) (ML36_12_4 : pM) (v5 v6 : Int32), Iv (V) ML36_12_4 → Fr [1, 14, 15, 16, 17] M ML36_12_4 → 0 ≤ v5.toInt → v5.toInt ≤ 1 → 0 ≤ v6.toInt → v6.toInt ≤ 20 → (20 - v6.toInt).toNat = n → PW G false 11 36 (p_mc 36) (p_msl 36) Kr 12 [(0, .ref 267), (1, .ref 1), (2, .ref k2), (3, .int a3), (4, .int v5), (5, .int v6)] [] 311 ML36_12_4 0 0 := by
    intro n
    induction n using Nat.strongRecOn with
    | ind n ih_L36_12_4 =>
    intro ML36_12_4 v5 v6 IML36_12_4 FML36_12_4 hbL36_12_40 hbL36_12_41 hbL36_12_42 hbL36_12_43 hmL36_12_4
    refine PW.iload q_36_12 rfl ?_
    refine PW.cB q_36_14 (by decide) fun c7 hc7 => ?_
    refine PW.jc_ge q_36_16 rfl (fun h8 => ?_) (fun h8 => ?_)
    · skip
      refine PW.iload q_36_69 rfl ?_
      refine PW.rZ q_36_71 rfl (by omega) (by omega) (by decide) (by decide) ?_
      exact hK v5 ML36_12_4 IML36_12_4 FML36_12_4 (by omega) (by omega)
    · skip
      refine PW.iload q_36_19 rfl ?_
      refine PW.jz_eq q_36_21 rfl (fun h9 => ?_) (fun h9 => ?_)
      · skip
        refine PW.iload q_36_69 rfl ?_
        refine PW.rZ q_36_71 rfl (by omega) (by omega) (by decide) (by decide) ?_
        exact hK v5 ML36_12_4 IML36_12_4 FML36_12_4 (by omega) (by omega)
      · skip
        refine PW.aload_n q_36_24 rfl ?_
        refine PW.gets q_36_25 t_st_36_54 ?_
        refine PW.cV (as := [_]) (rest := []) q_36_28 t_mv_36_58 kd_1 IML36_12_4.1 (by decide) rfl (by decide) rfl rfl (Nat.le_of_ble_eq_true rfl) (Nat.le_of_ble_eq_true rfl) (by decide) (by decide) ?_
        refine PW.up (by decide) (c_X7_takes (V) (hV) G _ ML36_12_4 IML36_12_4 17 (by decide) fun x11 M10 IM10 GM10 hx11 kx11 => ?_)
        have FM10 := Fr.trans FML36_12_4 GM10 (rfl)
        refine PW.jz_eq q_36_31 rfl (fun h12 => ?_) (fun h12 => ?_)
        · skip
          refine PW.iload q_36_69 rfl ?_
          refine PW.rZ q_36_71 rfl (by omega) (by omega) (by decide) (by decide) ?_
          exact hK v5 M10 IM10 FM10 (by omega) (by omega)
        · skip
          refine PW.aload_n q_36_34 rfl ?_
          refine PW.aload_n q_36_35 rfl ?_
          refine PW.aload_n q_36_36 rfl ?_
          refine PW.iload_n q_36_37 rfl ?_
          refine PW.cV (as := [_, _, _]) (rest := []) q_36_38 t_mv_36_51 kd_267 IM10.1 (by decide) rfl (by decide) rfl rfl (Nat.le_of_ble_eq_true rfl) (Nat.le_of_ble_eq_true rfl) (by decide) (by decide) ?_
          refine PW.up (by decide) (c_X4_readAll_7 (V) (hV) G _ M10 IM10 k2 hk_k2 a3 (by omega) (by omega) fun x14 M13 IM13 GM13 hx14 kx14 => ?_)
          have FM13 := Fr.trans FM10 GM13 (rfl)
          have J61_16 : ∀ (MJ61_16 : pM) (s17 : Int32), Iv (V) MJ61_16 → Fr [1, 14, 15, 16, 17] M MJ61_16 → 0 ≤ s17.toInt → s17.toInt ≤ 1 → PW G false 11 36 (p_mc 36) (p_msl 36) Kr 61 [(0, .ref 267), (1, .ref 1), (2, .ref k2), (3, .int a3), (4, .int v5), (5, .int v6)] [.int s17] 311 MJ61_16 0 0 := by
            intro MJ61_16 s17 IMJ61_16 FMJ61_16 hbJ61_160 hbJ61_161
            refine PW.istore q_36_61 (by decide) ?_
            refine PW.incN q_36_63 rfl (by decide) (by decide) (by omega) (by omega) fun x18 hx18 => ?_
            refine PW.goto q_36_66 rfl ?_
            refine PW.lvS (lk1 rfl (lk1 rfl (lk1 rfl (lk1 rfl (lk1 rfl (lk1 rfl lk0)))))) (ih_L36_12_4 _ ?_ MJ61_16 s17 x18 IMJ61_16 FMJ61_16 (by omega) (by omega) (by omega) (by omega) rfl)
            omega
          refine PW.jz_eq q_36_41 rfl (fun h15 => ?_) (fun h15 => ?_)
          · skip
            refine PW.cI q_36_60 (by decide) fun c19 hc19 => ?_
            exact PW.lvS (lk1 rfl (lk1 rfl (lk1 rfl (lk1 rfl (lk1 rfl (lk1 rfl lk0)))))) (J61_16 M13 c19 IM13 FM13 (by omega) (by omega))
          · skip
            refine PW.aload_n q_36_44 rfl ?_
            refine PW.gets q_36_45 t_st_36_54 ?_
            refine PW.cI q_36_48 (by decide) fun c20 hc20 => ?_
            refine PW.cI q_36_49 (by decide) fun c21 hc21 => ?_
            refine PW.cV (as := [_, _, _]) (rest := []) q_36_50 t_mv_36_62 kd_267 IM13.1 (by decide) rfl (by decide) rfl rfl (Nat.le_of_ble_eq_true rfl) (Nat.le_of_ble_eq_true rfl) (by decide) (by decide) ?_
            refine PW.up (by decide) (c_X4_add (V) (hV) G _ M13 IM13 17 (by decide) c20 c21 (by omega) (by omega) fun x23 M22 IM22 GM22 hx23 kx23 => ?_)
            have FM22 := Fr.trans FM13 GM22 (rfl)
            refine PW.jz_eq q_36_53 rfl (fun h24 => False.elim (by omega)) (fun h24 => ?_)
            refine PW.cI q_36_56 (by decide) fun c25 hc25 => ?_
            refine PW.goto q_36_57 rfl ?_
            exact PW.lvS (lk1 rfl (lk1 rfl (lk1 rfl (lk1 rfl (lk1 rfl (lk1 rfl lk0)))))) (J61_16 M22 c25 IM22 FM22 (by omega) (by omega))
  exact PW.lvS (lk1 rfl (lk1 rfl (lk1 rfl (lk1 rfl (lk1 rfl (lk1 rfl lk0)))))) (L36_12_4 _ M1 x2 c3 IM1 FM1 (by omega) (by omega) (by omega) (by omega) rfl)
theorem c_X4_readOne_6 (V : pM → Prop) (hV : Stab V) (G : pG) (Kr : pK) (M : pM) (I : Iv V M) (k2 : Nat) (hk_k2 : g_kd k2 = 4) (a3 : Int32) (hl_a3 : 6 ≤ a3.toInt) (hh_a3 : a3.toInt ≤ 6) (hK : ∀ (x : Int32) (M1 : pM), Iv V M1 → Fr [1, 14, 15, 16, 17] M M1 → 0 ≤ x.toInt → x.toInt ≤ 1 → Kr.1 (some (.int x)) 311 M1) : PW G false 12 38 (p_mc 38) (p_msl 38) Kr 0 (lv_args 0 [.ref 267, .ref 1, .ref k2, .int a3]) [] 311 M 0 0 := by
  have F : Fr [1, 14, 15, 16, 17] M M := Fr.refl
  refine PW.aload_n q_38_0 rfl ?_
  refine PW.callS (as := [_]) (rest := []) q_38_1 t_ms_38_72 (by decide) rfl (Nat.le_of_ble_eq_true rfl) (Nat.le_of_ble_eq_true rfl) (by decide) (by decide) ?_
  refine PW.up (by decide) (c_X4_beginsOne (V) (hV) G _ M I  fun x2 M1 IM1 GM1 hx2 kx2 => ?_)
  have FM1 := Fr.trans F GM1 (rfl)
  refine PW.jz_ne q_38_4 rfl (fun h3 => ?_) (fun h3 => ?_)
  · skip
    refine PW.aload_n q_38_13 rfl ?_
    refine PW.gI q_38_14 (Or.inl t_ft_38_27) gF_14_0 kd_267 IM1.1 (by decide) fun x4 fx4 hx4 kx4 => ?_
    clear hx4 kx4
    refine PW.cB q_38_17 (by decide) fun c5 hc5 => ?_
    refine PW.jc_ge q_38_19 rfl (fun h6 => ?_) (fun h6 => ?_)
    · skip
      refine PW.aload_n q_38_28 rfl ?_
      refine PW.cI q_38_29 (by decide) fun c7 hc7 => ?_
      refine PW.cV (as := [_]) (rest := []) q_38_30 t_mv_38_76 kd_1 IM1.1 (by decide) rfl (by decide) rfl rfl (Nat.le_of_ble_eq_true rfl) (Nat.le_of_ble_eq_true rfl) (by decide) (by decide) ?_
      refine PW.up (by decide) (c_X7_fail (V) (hV) G _ M1 IM1 c7 fun x9 M8 IM8 GM8 hx9 kx9 => ?_)
      have FM8 := Fr.trans FM1 GM8 (rfl)
      refine PW.rZ q_38_33 rfl (by omega) (by omega) (by decide) (by decide) ?_
      exact hK x9 M8 IM8 FM8 (by omega) (by omega)
    · skip
      refine PW.iload_n q_38_22 rfl ?_
      refine PW.cB q_38_23 (by decide) fun c10 hc10 => ?_
      refine PW.jc_le q_38_25 rfl (fun h11 => ?_) (fun h11 => False.elim (by omega))
      refine PW.aload_n q_38_34 rfl ?_
      refine PW.dup q_38_35 rfl ?_
      refine PW.gE q_38_36 (Or.inl t_ft_38_27) gF_14_0 kd_267 IM1.1 (by decide) fx4 ?_
      refine PW.cI q_38_39 (by decide) fun c12 hc12 => ?_
      refine PW.addN q_38_40 (by have := n_lo x4; have := n_hi x4; omega) (by have := n_lo x4; have := n_hi x4; omega) fun x13 hx13 => ?_
      refine PW.pI q_38_41 (Or.inl t_ft_38_27) gF_14_0 gP_14_0 kd_267 hV IM1 (by decide) rfl (n_lo _) (n_hi _) fun M14 IM14 fM14 UM14 => ?_
      have FM14 := Fr.pu FM1 UM14.1 kd_267 (rfl : List.contains [1, 14, 15, 16, 17] 14 = true)
      refine PW.aload_n q_38_44 rfl ?_
      refine PW.gets q_38_45 t_st_38_80 ?_
      refine PW.cV (as := [_]) (rest := []) q_38_48 t_mv_38_58 kd_1 IM14.1 (by decide) rfl (by decide) rfl rfl (Nat.le_of_ble_eq_true rfl) (Nat.le_of_ble_eq_true rfl) (by decide) (by decide) ?_
      refine PW.up (by decide) (c_X7_takes (V) (hV) G _ M14 IM14 19 (by decide) fun x16 M15 IM15 GM15 hx16 kx16 => ?_)
      have FM15 := Fr.trans FM14 GM15 (rfl)
      refine PW.jz_eq q_38_51 rfl (fun h17 => ?_) (fun h17 => ?_)
      · skip
        refine PW.aload_n q_38_84 rfl ?_
        refine PW.cB q_38_85 (by decide) fun c18 hc18 => ?_
        refine PW.cV (as := [_]) (rest := []) q_38_87 t_mv_38_83 kd_1 IM15.1 (by decide) rfl (by decide) rfl rfl (Nat.le_of_ble_eq_true rfl) (Nat.le_of_ble_eq_true rfl) (by decide) (by decide) ?_
        refine PW.up (by decide) (c_X7_seesSign (V) (hV) G _ M15 IM15 c18 fun x20 M19 IM19 GM19 hx20 kx20 => ?_)
        have FM19 := Fr.trans FM15 GM19 (rfl)
        refine PW.jz_eq q_38_90 rfl (fun h21 => ?_) (fun h21 => ?_)
        · skip
          refine PW.aload_n q_38_124 rfl ?_
          refine PW.aload_n q_38_125 rfl ?_
          refine PW.aload_n q_38_126 rfl ?_
          refine PW.cV (as := [_, _]) (rest := []) q_38_127 t_mv_38_92 kd_267 IM19.1 (by decide) rfl (by decide) rfl rfl (Nat.le_of_ble_eq_true rfl) (Nat.le_of_ble_eq_true rfl) (by decide) (by decide) ?_
          refine PW.up (by decide) (c_X4_readPlain (V) (hV) G _ M19 IM19 k2 hk_k2 fun x23 M22 IM22 GM22 hx23 kx23 => ?_)
          have FM22 := Fr.trans FM19 GM22 (rfl)
          refine PW.rZ q_38_130 rfl (by omega) (by omega) (by decide) (by decide) ?_
          exact hK x23 M22 IM22 FM22 (by omega) (by omega)
        · skip
          refine PW.aload_n q_38_93 rfl ?_
          refine PW.cV (as := []) (rest := []) q_38_94 t_mv_38_86 kd_1 IM19.1 (by decide) rfl (by decide) rfl rfl (Nat.le_of_ble_eq_true rfl) (Nat.le_of_ble_eq_true rfl) (by decide) (by decide) ?_
          refine PW.up (by decide) (c_X7_advance (V) (hV) G _ M19 IM19  fun M24 IM24 GM24 => ?_)
          have FM24 := Fr.trans FM19 GM24 (rfl)
          refine PW.aload_n q_38_97 rfl ?_
          refine PW.aload_n q_38_98 rfl ?_
          refine PW.aload_n q_38_99 rfl ?_
          refine PW.iload_n q_38_100 rfl ?_
          refine PW.cI q_38_101 (by decide) fun c25 hc25 => ?_
          refine PW.addN q_38_102 (by omega) (by omega) fun x26 hx26 => ?_
          refine PW.cV (as := [_, _, _]) (rest := []) q_38_103 t_mv_38_43 kd_267 IM24.1 (by decide) rfl (by decide) rfl rfl (Nat.le_of_ble_eq_true rfl) (Nat.le_of_ble_eq_true rfl) (by decide) (by decide) ?_
          refine PW.up (by decide) (c_X4_readAny_7 (V) (hV) G _ M24 IM24 k2 hk_k2 x26 (by omega) (by omega) fun x28 M27 IM27 GM27 hx28 kx28 => ?_)
          have FM27 := Fr.trans FM24 GM27 (rfl)
          refine PW.jz_eq q_38_106 rfl (fun h29 => ?_) (fun h29 => ?_)
          · skip
            refine PW.cI q_38_122 (by decide) fun c30 hc30 => ?_
            refine PW.rZ q_38_123 rfl (by omega) (by omega) (by decide) (by decide) ?_
            exact hK c30 M27 IM27 FM27 (by omega) (by omega)
          · skip
            refine PW.aload_n q_38_109 rfl ?_
            refine PW.cB q_38_110 (by decide) fun c31 hc31 => ?_
            refine PW.cV (as := [_]) (rest := []) q_38_112 t_mv_38_89 kd_1 IM27.1 (by decide) rfl (by decide) rfl rfl (Nat.le_of_ble_eq_true rfl) (Nat.le_of_ble_eq_true rfl) (by decide) (by decide) ?_
            refine PW.up (by decide) (c_X7_needsSign (V) (hV) G _ M27 IM27 c31 fun x33 M32 IM32 GM32 hx33 kx33 => ?_)
            have FM32 := Fr.trans FM27 GM32 (rfl)
            refine PW.jz_eq q_38_115 rfl (fun h34 => ?_) (fun h34 => ?_)
            · skip
              refine PW.cI q_38_122 (by decide) fun c35 hc35 => ?_
              refine PW.rZ q_38_123 rfl (by omega) (by omega) (by decide) (by decide) ?_
              exact hK c35 M32 IM32 FM32 (by omega) (by omega)
            · skip
              refine PW.cI q_38_118 (by decide) fun c36 hc36 => ?_
              refine PW.goto q_38_119 rfl ?_
              refine PW.rZ q_38_123 rfl (by omega) (by omega) (by decide) (by decide) ?_
              exact hK c36 M32 IM32 FM32 (by omega) (by omega)
      · skip
        refine PW.aload_n q_38_54 rfl ?_
        refine PW.aload_n q_38_55 rfl ?_
        refine PW.aload_n q_38_56 rfl ?_
        refine PW.iload_n q_38_57 rfl ?_
        refine PW.cI q_38_58 (by decide) fun c37 hc37 => ?_
        refine PW.addN q_38_59 (by omega) (by omega) fun x38 hx38 => ?_
        refine PW.cV (as := [_, _, _]) (rest := []) q_38_60 t_mv_38_66 kd_267 IM15.1 (by decide) rfl (by decide) rfl rfl (Nat.le_of_ble_eq_true rfl) (Nat.le_of_ble_eq_true rfl) (by decide) (by decide) ?_
        refine PW.up (by decide) (c_X4_readOne_7 (V) (hV) G _ M15 IM15 k2 hk_k2 x38 (by omega) (by omega) fun x40 M39 IM39 GM39 hx40 kx40 => ?_)
        have FM39 := Fr.trans FM15 GM39 (rfl)
        refine PW.jz_eq q_38_63 rfl (fun h41 => ?_) (fun h41 => ?_)
        · skip
          refine PW.cI q_38_82 (by decide) fun c42 hc42 => ?_
          refine PW.rZ q_38_83 rfl (by omega) (by omega) (by decide) (by decide) ?_
          exact hK c42 M39 IM39 FM39 (by omega) (by omega)
        · skip
          refine PW.aload_n q_38_66 rfl ?_
          refine PW.gets q_38_67 t_st_38_80 ?_
          refine PW.cI q_38_70 (by decide) fun c43 hc43 => ?_
          refine PW.cI q_38_71 (by decide) fun c44 hc44 => ?_
          refine PW.cV (as := [_, _, _]) (rest := []) q_38_72 t_mv_38_62 kd_267 IM39.1 (by decide) rfl (by decide) rfl rfl (Nat.le_of_ble_eq_true rfl) (Nat.le_of_ble_eq_true rfl) (by decide) (by decide) ?_
          refine PW.up (by decide) (c_X4_add (V) (hV) G _ M39 IM39 19 (by decide) c43 c44 (by omega) (by omega) fun x46 M45 IM45 GM45 hx46 kx46 => ?_)
          have FM45 := Fr.trans FM39 GM45 (rfl)
          refine PW.jz_eq q_38_75 rfl (fun h47 => False.elim (by omega)) (fun h47 => ?_)
          refine PW.cI q_38_78 (by decide) fun c48 hc48 => ?_
          refine PW.goto q_38_79 rfl ?_
          refine PW.rZ q_38_83 rfl (by omega) (by omega) (by decide) (by decide) ?_
          exact hK c48 M45 IM45 FM45 (by omega) (by omega)
  · skip
    refine PW.aload_n q_38_7 rfl ?_
    refine PW.cI q_38_8 (by decide) fun c49 hc49 => ?_
    refine PW.cV (as := [_]) (rest := []) q_38_9 t_mv_38_76 kd_1 IM1.1 (by decide) rfl (by decide) rfl rfl (Nat.le_of_ble_eq_true rfl) (Nat.le_of_ble_eq_true rfl) (by decide) (by decide) ?_
    refine PW.up (by decide) (c_X7_fail (V) (hV) G _ M1 IM1 c49 fun x51 M50 IM50 GM50 hx51 kx51 => ?_)
    have FM50 := Fr.trans FM1 GM50 (rfl)
    refine PW.rZ q_38_12 rfl (by omega) (by omega) (by decide) (by decide) ?_
    exact hK x51 M50 IM50 FM50 (by omega) (by omega)
theorem c_X4_readAll_6 (V : pM → Prop) (hV : Stab V) (G : pG) (Kr : pK) (M : pM) (I : Iv V M) (k2 : Nat) (hk_k2 : g_kd k2 = 4) (a3 : Int32) (hl_a3 : 6 ≤ a3.toInt) (hh_a3 : a3.toInt ≤ 6) (hK : ∀ (x : Int32) (M1 : pM), Iv V M1 → Fr [1, 14, 15, 16, 17] M M1 → 0 ≤ x.toInt → x.toInt ≤ 1 → Kr.1 (some (.int x)) 311 M1) : PW G false 13 37 (p_mc 37) (p_msl 37) Kr 0 (lv_args 0 [.ref 267, .ref 1, .ref k2, .int a3]) [] 311 M 0 0 := by
  have F : Fr [1, 14, 15, 16, 17] M M := Fr.refl
  refine PW.aload_n q_37_0 rfl ?_
  refine PW.aload_n q_37_1 rfl ?_
  refine PW.aload_n q_37_2 rfl ?_
  refine PW.iload_n q_37_3 rfl ?_
  refine PW.cV (as := [_, _, _]) (rest := []) q_37_4 t_mv_37_66 kd_267 I.1 (by decide) rfl (by decide) rfl rfl (Nat.le_of_ble_eq_true rfl) (Nat.le_of_ble_eq_true rfl) (by decide) (by decide) ?_
  refine PW.up (by decide) (c_X4_readOne_6 (V) (hV) G _ M I k2 hk_k2 a3 (by omega) (by omega) fun x2 M1 IM1 GM1 hx2 kx2 => ?_)
  have FM1 := Fr.trans F GM1 (rfl)
  refine PW.istore q_37_7 (by decide) ?_
  refine PW.cI q_37_9 (by decide) fun c3 hc3 => ?_
  refine PW.istore q_37_10 (by decide) ?_
  have L37_12_4 : ∀ (n : Nat) (ML37_12_4 : pM) (v5 v6 : Int32), Iv (V) ML37_12_4 → Fr [1, 14, 15, 16, 17] M ML37_12_4 → 0 ≤ v5.toInt → v5.toInt ≤ 1 → 0 ≤ v6.toInt → v6.toInt ≤ 20 → (20 - v6.toInt).toNat = n → PW G false 13 37 (p_mc 37) (p_msl 37) Kr 12 [(0, .ref 267), (1, .ref 1), (2, .ref k2), (3, .int a3), (4, .int v5), (5, .int v6)] [] 311 ML37_12_4 0 0 := by
    intro n
    induction n using Nat.strongRecOn with
    | ind n ih_L37_12_4 =>
    intro ML37_12_4 v5 v6 IML37_12_4 FML37_12_4 hbL37_12_40 hbL37_12_41 hbL37_12_42 hbL37_12_43 hmL37_12_4
    refine PW.iload q_37_12 rfl ?_
    refine PW.cB q_37_14 (by decide) fun c7 hc7 => ?_
    refine PW.jc_ge q_37_16 rfl (fun h8 => ?_) (fun h8 => ?_)
    · skip
      refine PW.iload q_37_69 rfl ?_
      refine PW.rZ q_37_71 rfl (by omega) (by omega) (by decide) (by decide) ?_
      exact hK v5 ML37_12_4 IML37_12_4 FML37_12_4 (by omega) (by omega)
    · skip
      refine PW.iload q_37_19 rfl ?_
      refine PW.jz_eq q_37_21 rfl (fun h9 => ?_) (fun h9 => ?_)
      · skip
        refine PW.iload q_37_69 rfl ?_
        refine PW.rZ q_37_71 rfl (by omega) (by omega) (by decide) (by decide) ?_
        exact hK v5 ML37_12_4 IML37_12_4 FML37_12_4 (by omega) (by omega)
      · skip
        refine PW.aload_n q_37_24 rfl ?_
        refine PW.gets q_37_25 t_st_37_69 ?_
        refine PW.cV (as := [_]) (rest := []) q_37_28 t_mv_37_58 kd_1 IML37_12_4.1 (by decide) rfl (by decide) rfl rfl (Nat.le_of_ble_eq_true rfl) (Nat.le_of_ble_eq_true rfl) (by decide) (by decide) ?_
        refine PW.up (by decide) (c_X7_takes (V) (hV) G _ ML37_12_4 IML37_12_4 18 (by decide) fun x11 M10 IM10 GM10 hx11 kx11 => ?_)
        have FM10 := Fr.trans FML37_12_4 GM10 (rfl)
        refine PW.jz_eq q_37_31 rfl (fun h12 => ?_) (fun h12 => ?_)
        · skip
          refine PW.iload q_37_69 rfl ?_
          refine PW.rZ q_37_71 rfl (by omega) (by omega) (by decide) (by decide) ?_
          exact hK v5 M10 IM10 FM10 (by omega) (by omega)
        · skip
          refine PW.aload_n q_37_34 rfl ?_
          refine PW.aload_n q_37_35 rfl ?_
          refine PW.aload_n q_37_36 rfl ?_
          refine PW.iload_n q_37_37 rfl ?_
          refine PW.cV (as := [_, _, _]) (rest := []) q_37_38 t_mv_37_66 kd_267 IM10.1 (by decide) rfl (by decide) rfl rfl (Nat.le_of_ble_eq_true rfl) (Nat.le_of_ble_eq_true rfl) (by decide) (by decide) ?_
          refine PW.up (by decide) (c_X4_readOne_6 (V) (hV) G _ M10 IM10 k2 hk_k2 a3 (by omega) (by omega) fun x14 M13 IM13 GM13 hx14 kx14 => ?_)
          have FM13 := Fr.trans FM10 GM13 (rfl)
          have J61_16 : ∀ (MJ61_16 : pM) (s17 : Int32), Iv (V) MJ61_16 → Fr [1, 14, 15, 16, 17] M MJ61_16 → 0 ≤ s17.toInt → s17.toInt ≤ 1 → PW G false 13 37 (p_mc 37) (p_msl 37) Kr 61 [(0, .ref 267), (1, .ref 1), (2, .ref k2), (3, .int a3), (4, .int v5), (5, .int v6)] [.int s17] 311 MJ61_16 0 0 := by
            intro MJ61_16 s17 IMJ61_16 FMJ61_16 hbJ61_160 hbJ61_161
            refine PW.istore q_37_61 (by decide) ?_
            refine PW.incN q_37_63 rfl (by decide) (by decide) (by omega) (by omega) fun x18 hx18 => ?_
            refine PW.goto q_37_66 rfl ?_
            refine PW.lvS (lk1 rfl (lk1 rfl (lk1 rfl (lk1 rfl (lk1 rfl (lk1 rfl lk0)))))) (ih_L37_12_4 _ ?_ MJ61_16 s17 x18 IMJ61_16 FMJ61_16 (by omega) (by omega) (by omega) (by omega) rfl)
            omega
          refine PW.jz_eq q_37_41 rfl (fun h15 => ?_) (fun h15 => ?_)
          · skip
            refine PW.cI q_37_60 (by decide) fun c19 hc19 => ?_
            exact PW.lvS (lk1 rfl (lk1 rfl (lk1 rfl (lk1 rfl (lk1 rfl (lk1 rfl lk0)))))) (J61_16 M13 c19 IM13 FM13 (by omega) (by omega))
          · skip
            refine PW.aload_n q_37_44 rfl ?_
            refine PW.gets q_37_45 t_st_37_69 ?_
            refine PW.cI q_37_48 (by decide) fun c20 hc20 => ?_
            refine PW.cI q_37_49 (by decide) fun c21 hc21 => ?_
            refine PW.cV (as := [_, _, _]) (rest := []) q_37_50 t_mv_37_62 kd_267 IM13.1 (by decide) rfl (by decide) rfl rfl (Nat.le_of_ble_eq_true rfl) (Nat.le_of_ble_eq_true rfl) (by decide) (by decide) ?_
            refine PW.up (by decide) (c_X4_add (V) (hV) G _ M13 IM13 18 (by decide) c20 c21 (by omega) (by omega) fun x23 M22 IM22 GM22 hx23 kx23 => ?_)
            have FM22 := Fr.trans FM13 GM22 (rfl)
            refine PW.jz_eq q_37_53 rfl (fun h24 => False.elim (by omega)) (fun h24 => ?_)
            refine PW.cI q_37_56 (by decide) fun c25 hc25 => ?_
            refine PW.goto q_37_57 rfl ?_
            exact PW.lvS (lk1 rfl (lk1 rfl (lk1 rfl (lk1 rfl (lk1 rfl (lk1 rfl lk0)))))) (J61_16 M22 c25 IM22 FM22 (by omega) (by omega))
  exact PW.lvS (lk1 rfl (lk1 rfl (lk1 rfl (lk1 rfl (lk1 rfl (lk1 rfl lk0)))))) (L37_12_4 _ M1 x2 c3 IM1 FM1 (by omega) (by omega) (by omega) (by omega) rfl)
theorem c_X4_readAny_6 (V : pM → Prop) (hV : Stab V) (G : pG) (Kr : pK) (M : pM) (I : Iv V M) (k2 : Nat) (hk_k2 : g_kd k2 = 4) (a3 : Int32) (hl_a3 : 6 ≤ a3.toInt) (hh_a3 : a3.toInt ≤ 6) (hK : ∀ (x : Int32) (M1 : pM), Iv V M1 → Fr [1, 14, 15, 16, 17] M M1 → 0 ≤ x.toInt → x.toInt ≤ 1 → Kr.1 (some (.int x)) 311 M1) : PW G false 14 36 (p_mc 36) (p_msl 36) Kr 0 (lv_args 0 [.ref 267, .ref 1, .ref k2, .int a3]) [] 311 M 0 0 := by
  have F : Fr [1, 14, 15, 16, 17] M M := Fr.refl
  refine PW.aload_n q_36_0 rfl ?_
  refine PW.aload_n q_36_1 rfl ?_
  refine PW.aload_n q_36_2 rfl ?_
  refine PW.iload_n q_36_3 rfl ?_
  refine PW.cV (as := [_, _, _]) (rest := []) q_36_4 t_mv_36_51 kd_267 I.1 (by decide) rfl (by decide) rfl rfl (Nat.le_of_ble_eq_true rfl) (Nat.le_of_ble_eq_true rfl) (by decide) (by decide) ?_
  refine PW.up (by decide) (c_X4_readAll_6 (V) (hV) G _ M I k2 hk_k2 a3 (by omega) (by omega) fun x2 M1 IM1 GM1 hx2 kx2 => ?_)
  have FM1 := Fr.trans F GM1 (rfl)
  refine PW.istore q_36_7 (by decide) ?_
  refine PW.cI q_36_9 (by decide) fun c3 hc3 => ?_
  refine PW.istore q_36_10 (by decide) ?_
  have L36_12_4 : ∀ (n : Nat) (ML36_12_4 : pM) (v5 v6 : Int32), Iv (V) ML36_12_4 → Fr [1, 14, 15, 16, 17] M ML36_12_4 → 0 ≤ v5.toInt → v5.toInt ≤ 1 → 0 ≤ v6.toInt → v6.toInt ≤ 20 → (20 - v6.toInt).toNat = n → PW G false 14 36 (p_mc 36) (p_msl 36) Kr 12 [(0, .ref 267), (1, .ref 1), (2, .ref k2), (3, .int a3), (4, .int v5), (5, .int v6)] [] 311 ML36_12_4 0 0 := by
    intro n
    induction n using Nat.strongRecOn with
    | ind n ih_L36_12_4 =>
    intro ML36_12_4 v5 v6 IML36_12_4 FML36_12_4 hbL36_12_40 hbL36_12_41 hbL36_12_42 hbL36_12_43 hmL36_12_4
    refine PW.iload q_36_12 rfl ?_
    refine PW.cB q_36_14 (by decide) fun c7 hc7 => ?_
    refine PW.jc_ge q_36_16 rfl (fun h8 => ?_) (fun h8 => ?_)
    · skip
      refine PW.iload q_36_69 rfl ?_
      refine PW.rZ q_36_71 rfl (by omega) (by omega) (by decide) (by decide) ?_
      exact hK v5 ML36_12_4 IML36_12_4 FML36_12_4 (by omega) (by omega)
    · skip
      refine PW.iload q_36_19 rfl ?_
      refine PW.jz_eq q_36_21 rfl (fun h9 => ?_) (fun h9 => ?_)
      · skip
        refine PW.iload q_36_69 rfl ?_
        refine PW.rZ q_36_71 rfl (by omega) (by omega) (by decide) (by decide) ?_
        exact hK v5 ML36_12_4 IML36_12_4 FML36_12_4 (by omega) (by omega)
      · skip
        refine PW.aload_n q_36_24 rfl ?_
        refine PW.gets q_36_25 t_st_36_54 ?_
        refine PW.cV (as := [_]) (rest := []) q_36_28 t_mv_36_58 kd_1 IML36_12_4.1 (by decide) rfl (by decide) rfl rfl (Nat.le_of_ble_eq_true rfl) (Nat.le_of_ble_eq_true rfl) (by decide) (by decide) ?_
        refine PW.up (by decide) (c_X7_takes (V) (hV) G _ ML36_12_4 IML36_12_4 17 (by decide) fun x11 M10 IM10 GM10 hx11 kx11 => ?_)
        have FM10 := Fr.trans FML36_12_4 GM10 (rfl)
        refine PW.jz_eq q_36_31 rfl (fun h12 => ?_) (fun h12 => ?_)
        · skip
          refine PW.iload q_36_69 rfl ?_
          refine PW.rZ q_36_71 rfl (by omega) (by omega) (by decide) (by decide) ?_
          exact hK v5 M10 IM10 FM10 (by omega) (by omega)
        · skip
          refine PW.aload_n q_36_34 rfl ?_
          refine PW.aload_n q_36_35 rfl ?_
          refine PW.aload_n q_36_36 rfl ?_
          refine PW.iload_n q_36_37 rfl ?_
          refine PW.cV (as := [_, _, _]) (rest := []) q_36_38 t_mv_36_51 kd_267 IM10.1 (by decide) rfl (by decide) rfl rfl (Nat.le_of_ble_eq_true rfl) (Nat.le_of_ble_eq_true rfl) (by decide) (by decide) ?_
          refine PW.up (by decide) (c_X4_readAll_6 (V) (hV) G _ M10 IM10 k2 hk_k2 a3 (by omega) (by omega) fun x14 M13 IM13 GM13 hx14 kx14 => ?_)
          have FM13 := Fr.trans FM10 GM13 (rfl)
          have J61_16 : ∀ (MJ61_16 : pM) (s17 : Int32), Iv (V) MJ61_16 → Fr [1, 14, 15, 16, 17] M MJ61_16 → 0 ≤ s17.toInt → s17.toInt ≤ 1 → PW G false 14 36 (p_mc 36) (p_msl 36) Kr 61 [(0, .ref 267), (1, .ref 1), (2, .ref k2), (3, .int a3), (4, .int v5), (5, .int v6)] [.int s17] 311 MJ61_16 0 0 := by
            intro MJ61_16 s17 IMJ61_16 FMJ61_16 hbJ61_160 hbJ61_161
            refine PW.istore q_36_61 (by decide) ?_
            refine PW.incN q_36_63 rfl (by decide) (by decide) (by omega) (by omega) fun x18 hx18 => ?_
            refine PW.goto q_36_66 rfl ?_
            refine PW.lvS (lk1 rfl (lk1 rfl (lk1 rfl (lk1 rfl (lk1 rfl (lk1 rfl lk0)))))) (ih_L36_12_4 _ ?_ MJ61_16 s17 x18 IMJ61_16 FMJ61_16 (by omega) (by omega) (by omega) (by omega) rfl)
            omega
          refine PW.jz_eq q_36_41 rfl (fun h15 => ?_) (fun h15 => ?_)
          · skip
            refine PW.cI q_36_60 (by decide) fun c19 hc19 => ?_
            exact PW.lvS (lk1 rfl (lk1 rfl (lk1 rfl (lk1 rfl (lk1 rfl (lk1 rfl lk0)))))) (J61_16 M13 c19 IM13 FM13 (by omega) (by omega))
          · skip
            refine PW.aload_n q_36_44 rfl ?_
            refine PW.gets q_36_45 t_st_36_54 ?_
            refine PW.cI q_36_48 (by decide) fun c20 hc20 => ?_
            refine PW.cI q_36_49 (by decide) fun c21 hc21 => ?_
            refine PW.cV (as := [_, _, _]) (rest := []) q_36_50 t_mv_36_62 kd_267 IM13.1 (by decide) rfl (by decide) rfl rfl (Nat.le_of_ble_eq_true rfl) (Nat.le_of_ble_eq_true rfl) (by decide) (by decide) ?_
            refine PW.up (by decide) (c_X4_add (V) (hV) G _ M13 IM13 17 (by decide) c20 c21 (by omega) (by omega) fun x23 M22 IM22 GM22 hx23 kx23 => ?_)
            have FM22 := Fr.trans FM13 GM22 (rfl)
            refine PW.jz_eq q_36_53 rfl (fun h24 => False.elim (by omega)) (fun h24 => ?_)
            refine PW.cI q_36_56 (by decide) fun c25 hc25 => ?_
            refine PW.goto q_36_57 rfl ?_
            exact PW.lvS (lk1 rfl (lk1 rfl (lk1 rfl (lk1 rfl (lk1 rfl (lk1 rfl lk0)))))) (J61_16 M22 c25 IM22 FM22 (by omega) (by omega))
  exact PW.lvS (lk1 rfl (lk1 rfl (lk1 rfl (lk1 rfl (lk1 rfl (lk1 rfl lk0)))))) (L36_12_4 _ M1 x2 c3 IM1 FM1 (by omega) (by omega) (by omega) (by omega) rfl)
theorem c_X4_readOne_5 (V : pM → Prop) (hV : Stab V) (G : pG) (Kr : pK) (M : pM) (I : Iv V M) (k2 : Nat) (hk_k2 : g_kd k2 = 4) (a3 : Int32) (hl_a3 : 5 ≤ a3.toInt) (hh_a3 : a3.toInt ≤ 5) (hK : ∀ (x : Int32) (M1 : pM), Iv V M1 → Fr [1, 14, 15, 16, 17] M M1 → 0 ≤ x.toInt → x.toInt ≤ 1 → Kr.1 (some (.int x)) 311 M1) : PW G false 15 38 (p_mc 38) (p_msl 38) Kr 0 (lv_args 0 [.ref 267, .ref 1, .ref k2, .int a3]) [] 311 M 0 0 := by
  have F : Fr [1, 14, 15, 16, 17] M M := Fr.refl
  refine PW.aload_n q_38_0 rfl ?_
  refine PW.callS (as := [_]) (rest := []) q_38_1 t_ms_38_72 (by decide) rfl (Nat.le_of_ble_eq_true rfl) (Nat.le_of_ble_eq_true rfl) (by decide) (by decide) ?_
  refine PW.up (by decide) (c_X4_beginsOne (V) (hV) G _ M I  fun x2 M1 IM1 GM1 hx2 kx2 => ?_)
  have FM1 := Fr.trans F GM1 (rfl)
  refine PW.jz_ne q_38_4 rfl (fun h3 => ?_) (fun h3 => ?_)
  · skip
    refine PW.aload_n q_38_13 rfl ?_
    refine PW.gI q_38_14 (Or.inl t_ft_38_27) gF_14_0 kd_267 IM1.1 (by decide) fun x4 fx4 hx4 kx4 => ?_
    clear hx4 kx4
    refine PW.cB q_38_17 (by decide) fun c5 hc5 => ?_
    refine PW.jc_ge q_38_19 rfl (fun h6 => ?_) (fun h6 => ?_)
    · skip
      refine PW.aload_n q_38_28 rfl ?_
      refine PW.cI q_38_29 (by decide) fun c7 hc7 => ?_
      refine PW.cV (as := [_]) (rest := []) q_38_30 t_mv_38_76 kd_1 IM1.1 (by decide) rfl (by decide) rfl rfl (Nat.le_of_ble_eq_true rfl) (Nat.le_of_ble_eq_true rfl) (by decide) (by decide) ?_
      refine PW.up (by decide) (c_X7_fail (V) (hV) G _ M1 IM1 c7 fun x9 M8 IM8 GM8 hx9 kx9 => ?_)
      have FM8 := Fr.trans FM1 GM8 (rfl)
      refine PW.rZ q_38_33 rfl (by omega) (by omega) (by decide) (by decide) ?_
      exact hK x9 M8 IM8 FM8 (by omega) (by omega)
    · skip
      refine PW.iload_n q_38_22 rfl ?_
      refine PW.cB q_38_23 (by decide) fun c10 hc10 => ?_
      refine PW.jc_le q_38_25 rfl (fun h11 => ?_) (fun h11 => False.elim (by omega))
      refine PW.aload_n q_38_34 rfl ?_
      refine PW.dup q_38_35 rfl ?_
      refine PW.gE q_38_36 (Or.inl t_ft_38_27) gF_14_0 kd_267 IM1.1 (by decide) fx4 ?_
      refine PW.cI q_38_39 (by decide) fun c12 hc12 => ?_
      refine PW.addN q_38_40 (by have := n_lo x4; have := n_hi x4; omega) (by have := n_lo x4; have := n_hi x4; omega) fun x13 hx13 => ?_
      refine PW.pI q_38_41 (Or.inl t_ft_38_27) gF_14_0 gP_14_0 kd_267 hV IM1 (by decide) rfl (n_lo _) (n_hi _) fun M14 IM14 fM14 UM14 => ?_
      have FM14 := Fr.pu FM1 UM14.1 kd_267 (rfl : List.contains [1, 14, 15, 16, 17] 14 = true)
      refine PW.aload_n q_38_44 rfl ?_
      refine PW.gets q_38_45 t_st_38_80 ?_
      refine PW.cV (as := [_]) (rest := []) q_38_48 t_mv_38_58 kd_1 IM14.1 (by decide) rfl (by decide) rfl rfl (Nat.le_of_ble_eq_true rfl) (Nat.le_of_ble_eq_true rfl) (by decide) (by decide) ?_
      refine PW.up (by decide) (c_X7_takes (V) (hV) G _ M14 IM14 19 (by decide) fun x16 M15 IM15 GM15 hx16 kx16 => ?_)
      have FM15 := Fr.trans FM14 GM15 (rfl)
      refine PW.jz_eq q_38_51 rfl (fun h17 => ?_) (fun h17 => ?_)
      · skip
        refine PW.aload_n q_38_84 rfl ?_
        refine PW.cB q_38_85 (by decide) fun c18 hc18 => ?_
        refine PW.cV (as := [_]) (rest := []) q_38_87 t_mv_38_83 kd_1 IM15.1 (by decide) rfl (by decide) rfl rfl (Nat.le_of_ble_eq_true rfl) (Nat.le_of_ble_eq_true rfl) (by decide) (by decide) ?_
        refine PW.up (by decide) (c_X7_seesSign (V) (hV) G _ M15 IM15 c18 fun x20 M19 IM19 GM19 hx20 kx20 => ?_)
        have FM19 := Fr.trans FM15 GM19 (rfl)
        refine PW.jz_eq q_38_90 rfl (fun h21 => ?_) (fun h21 => ?_)
        · skip
          refine PW.aload_n q_38_124 rfl ?_
          refine PW.aload_n q_38_125 rfl ?_
          refine PW.aload_n q_38_126 rfl ?_
          refine PW.cV (as := [_, _]) (rest := []) q_38_127 t_mv_38_92 kd_267 IM19.1 (by decide) rfl (by decide) rfl rfl (Nat.le_of_ble_eq_true rfl) (Nat.le_of_ble_eq_true rfl) (by decide) (by decide) ?_
          refine PW.up (by decide) (c_X4_readPlain (V) (hV) G _ M19 IM19 k2 hk_k2 fun x23 M22 IM22 GM22 hx23 kx23 => ?_)
          have FM22 := Fr.trans FM19 GM22 (rfl)
          refine PW.rZ q_38_130 rfl (by omega) (by omega) (by decide) (by decide) ?_
          exact hK x23 M22 IM22 FM22 (by omega) (by omega)
        · skip
          refine PW.aload_n q_38_93 rfl ?_
          refine PW.cV (as := []) (rest := []) q_38_94 t_mv_38_86 kd_1 IM19.1 (by decide) rfl (by decide) rfl rfl (Nat.le_of_ble_eq_true rfl) (Nat.le_of_ble_eq_true rfl) (by decide) (by decide) ?_
          refine PW.up (by decide) (c_X7_advance (V) (hV) G _ M19 IM19  fun M24 IM24 GM24 => ?_)
          have FM24 := Fr.trans FM19 GM24 (rfl)
          refine PW.aload_n q_38_97 rfl ?_
          refine PW.aload_n q_38_98 rfl ?_
          refine PW.aload_n q_38_99 rfl ?_
          refine PW.iload_n q_38_100 rfl ?_
          refine PW.cI q_38_101 (by decide) fun c25 hc25 => ?_
          refine PW.addN q_38_102 (by omega) (by omega) fun x26 hx26 => ?_
          refine PW.cV (as := [_, _, _]) (rest := []) q_38_103 t_mv_38_43 kd_267 IM24.1 (by decide) rfl (by decide) rfl rfl (Nat.le_of_ble_eq_true rfl) (Nat.le_of_ble_eq_true rfl) (by decide) (by decide) ?_
          refine PW.up (by decide) (c_X4_readAny_6 (V) (hV) G _ M24 IM24 k2 hk_k2 x26 (by omega) (by omega) fun x28 M27 IM27 GM27 hx28 kx28 => ?_)
          have FM27 := Fr.trans FM24 GM27 (rfl)
          refine PW.jz_eq q_38_106 rfl (fun h29 => ?_) (fun h29 => ?_)
          · skip
            refine PW.cI q_38_122 (by decide) fun c30 hc30 => ?_
            refine PW.rZ q_38_123 rfl (by omega) (by omega) (by decide) (by decide) ?_
            exact hK c30 M27 IM27 FM27 (by omega) (by omega)
          · skip
            refine PW.aload_n q_38_109 rfl ?_
            refine PW.cB q_38_110 (by decide) fun c31 hc31 => ?_
            refine PW.cV (as := [_]) (rest := []) q_38_112 t_mv_38_89 kd_1 IM27.1 (by decide) rfl (by decide) rfl rfl (Nat.le_of_ble_eq_true rfl) (Nat.le_of_ble_eq_true rfl) (by decide) (by decide) ?_
            refine PW.up (by decide) (c_X7_needsSign (V) (hV) G _ M27 IM27 c31 fun x33 M32 IM32 GM32 hx33 kx33 => ?_)
            have FM32 := Fr.trans FM27 GM32 (rfl)
            refine PW.jz_eq q_38_115 rfl (fun h34 => ?_) (fun h34 => ?_)
            · skip
              refine PW.cI q_38_122 (by decide) fun c35 hc35 => ?_
              refine PW.rZ q_38_123 rfl (by omega) (by omega) (by decide) (by decide) ?_
              exact hK c35 M32 IM32 FM32 (by omega) (by omega)
            · skip
              refine PW.cI q_38_118 (by decide) fun c36 hc36 => ?_
              refine PW.goto q_38_119 rfl ?_
              refine PW.rZ q_38_123 rfl (by omega) (by omega) (by decide) (by decide) ?_
              exact hK c36 M32 IM32 FM32 (by omega) (by omega)
      · skip
        refine PW.aload_n q_38_54 rfl ?_
        refine PW.aload_n q_38_55 rfl ?_
        refine PW.aload_n q_38_56 rfl ?_
        refine PW.iload_n q_38_57 rfl ?_
        refine PW.cI q_38_58 (by decide) fun c37 hc37 => ?_
        refine PW.addN q_38_59 (by omega) (by omega) fun x38 hx38 => ?_
        refine PW.cV (as := [_, _, _]) (rest := []) q_38_60 t_mv_38_66 kd_267 IM15.1 (by decide) rfl (by decide) rfl rfl (Nat.le_of_ble_eq_true rfl) (Nat.le_of_ble_eq_true rfl) (by decide) (by decide) ?_
        refine PW.up (by decide) (c_X4_readOne_6 (V) (hV) G _ M15 IM15 k2 hk_k2 x38 (by omega) (by omega) fun x40 M39 IM39 GM39 hx40 kx40 => ?_)
        have FM39 := Fr.trans FM15 GM39 (rfl)
        refine PW.jz_eq q_38_63 rfl (fun h41 => ?_) (fun h41 => ?_)
        · skip
          refine PW.cI q_38_82 (by decide) fun c42 hc42 => ?_
          refine PW.rZ q_38_83 rfl (by omega) (by omega) (by decide) (by decide) ?_
          exact hK c42 M39 IM39 FM39 (by omega) (by omega)
        · skip
          refine PW.aload_n q_38_66 rfl ?_
          refine PW.gets q_38_67 t_st_38_80 ?_
          refine PW.cI q_38_70 (by decide) fun c43 hc43 => ?_
          refine PW.cI q_38_71 (by decide) fun c44 hc44 => ?_
          refine PW.cV (as := [_, _, _]) (rest := []) q_38_72 t_mv_38_62 kd_267 IM39.1 (by decide) rfl (by decide) rfl rfl (Nat.le_of_ble_eq_true rfl) (Nat.le_of_ble_eq_true rfl) (by decide) (by decide) ?_
          refine PW.up (by decide) (c_X4_add (V) (hV) G _ M39 IM39 19 (by decide) c43 c44 (by omega) (by omega) fun x46 M45 IM45 GM45 hx46 kx46 => ?_)
          have FM45 := Fr.trans FM39 GM45 (rfl)
          refine PW.jz_eq q_38_75 rfl (fun h47 => False.elim (by omega)) (fun h47 => ?_)
          refine PW.cI q_38_78 (by decide) fun c48 hc48 => ?_
          refine PW.goto q_38_79 rfl ?_
          refine PW.rZ q_38_83 rfl (by omega) (by omega) (by decide) (by decide) ?_
          exact hK c48 M45 IM45 FM45 (by omega) (by omega)
  · skip
    refine PW.aload_n q_38_7 rfl ?_
    refine PW.cI q_38_8 (by decide) fun c49 hc49 => ?_
    refine PW.cV (as := [_]) (rest := []) q_38_9 t_mv_38_76 kd_1 IM1.1 (by decide) rfl (by decide) rfl rfl (Nat.le_of_ble_eq_true rfl) (Nat.le_of_ble_eq_true rfl) (by decide) (by decide) ?_
    refine PW.up (by decide) (c_X7_fail (V) (hV) G _ M1 IM1 c49 fun x51 M50 IM50 GM50 hx51 kx51 => ?_)
    have FM50 := Fr.trans FM1 GM50 (rfl)
    refine PW.rZ q_38_12 rfl (by omega) (by omega) (by decide) (by decide) ?_
    exact hK x51 M50 IM50 FM50 (by omega) (by omega)
theorem c_X4_readAll_5 (V : pM → Prop) (hV : Stab V) (G : pG) (Kr : pK) (M : pM) (I : Iv V M) (k2 : Nat) (hk_k2 : g_kd k2 = 4) (a3 : Int32) (hl_a3 : 5 ≤ a3.toInt) (hh_a3 : a3.toInt ≤ 5) (hK : ∀ (x : Int32) (M1 : pM), Iv V M1 → Fr [1, 14, 15, 16, 17] M M1 → 0 ≤ x.toInt → x.toInt ≤ 1 → Kr.1 (some (.int x)) 311 M1) : PW G false 16 37 (p_mc 37) (p_msl 37) Kr 0 (lv_args 0 [.ref 267, .ref 1, .ref k2, .int a3]) [] 311 M 0 0 := by
  have F : Fr [1, 14, 15, 16, 17] M M := Fr.refl
  refine PW.aload_n q_37_0 rfl ?_
  refine PW.aload_n q_37_1 rfl ?_
  refine PW.aload_n q_37_2 rfl ?_
  refine PW.iload_n q_37_3 rfl ?_
  refine PW.cV (as := [_, _, _]) (rest := []) q_37_4 t_mv_37_66 kd_267 I.1 (by decide) rfl (by decide) rfl rfl (Nat.le_of_ble_eq_true rfl) (Nat.le_of_ble_eq_true rfl) (by decide) (by decide) ?_
  refine PW.up (by decide) (c_X4_readOne_5 (V) (hV) G _ M I k2 hk_k2 a3 (by omega) (by omega) fun x2 M1 IM1 GM1 hx2 kx2 => ?_)
  have FM1 := Fr.trans F GM1 (rfl)
  refine PW.istore q_37_7 (by decide) ?_
  refine PW.cI q_37_9 (by decide) fun c3 hc3 => ?_
  refine PW.istore q_37_10 (by decide) ?_
  have L37_12_4 : ∀ (n : Nat) (ML37_12_4 : pM) (v5 v6 : Int32), Iv (V) ML37_12_4 → Fr [1, 14, 15, 16, 17] M ML37_12_4 → 0 ≤ v5.toInt → v5.toInt ≤ 1 → 0 ≤ v6.toInt → v6.toInt ≤ 20 → (20 - v6.toInt).toNat = n → PW G false 16 37 (p_mc 37) (p_msl 37) Kr 12 [(0, .ref 267), (1, .ref 1), (2, .ref k2), (3, .int a3), (4, .int v5), (5, .int v6)] [] 311 ML37_12_4 0 0 := by
    intro n
    induction n using Nat.strongRecOn with
    | ind n ih_L37_12_4 =>
    intro ML37_12_4 v5 v6 IML37_12_4 FML37_12_4 hbL37_12_40 hbL37_12_41 hbL37_12_42 hbL37_12_43 hmL37_12_4
    refine PW.iload q_37_12 rfl ?_
    refine PW.cB q_37_14 (by decide) fun c7 hc7 => ?_
    refine PW.jc_ge q_37_16 rfl (fun h8 => ?_) (fun h8 => ?_)
    · skip
      refine PW.iload q_37_69 rfl ?_
      refine PW.rZ q_37_71 rfl (by omega) (by omega) (by decide) (by decide) ?_
      exact hK v5 ML37_12_4 IML37_12_4 FML37_12_4 (by omega) (by omega)
    · skip
      refine PW.iload q_37_19 rfl ?_
      refine PW.jz_eq q_37_21 rfl (fun h9 => ?_) (fun h9 => ?_)
      · skip
        refine PW.iload q_37_69 rfl ?_
        refine PW.rZ q_37_71 rfl (by omega) (by omega) (by decide) (by decide) ?_
        exact hK v5 ML37_12_4 IML37_12_4 FML37_12_4 (by omega) (by omega)
      · skip
        refine PW.aload_n q_37_24 rfl ?_
        refine PW.gets q_37_25 t_st_37_69 ?_
        refine PW.cV (as := [_]) (rest := []) q_37_28 t_mv_37_58 kd_1 IML37_12_4.1 (by decide) rfl (by decide) rfl rfl (Nat.le_of_ble_eq_true rfl) (Nat.le_of_ble_eq_true rfl) (by decide) (by decide) ?_
        refine PW.up (by decide) (c_X7_takes (V) (hV) G _ ML37_12_4 IML37_12_4 18 (by decide) fun x11 M10 IM10 GM10 hx11 kx11 => ?_)
        have FM10 := Fr.trans FML37_12_4 GM10 (rfl)
        refine PW.jz_eq q_37_31 rfl (fun h12 => ?_) (fun h12 => ?_)
        · skip
          refine PW.iload q_37_69 rfl ?_
          refine PW.rZ q_37_71 rfl (by omega) (by omega) (by decide) (by decide) ?_
          exact hK v5 M10 IM10 FM10 (by omega) (by omega)
        · skip
          refine PW.aload_n q_37_34 rfl ?_
          refine PW.aload_n q_37_35 rfl ?_
          refine PW.aload_n q_37_36 rfl ?_
          refine PW.iload_n q_37_37 rfl ?_
          refine PW.cV (as := [_, _, _]) (rest := []) q_37_38 t_mv_37_66 kd_267 IM10.1 (by decide) rfl (by decide) rfl rfl (Nat.le_of_ble_eq_true rfl) (Nat.le_of_ble_eq_true rfl) (by decide) (by decide) ?_
          refine PW.up (by decide) (c_X4_readOne_5 (V) (hV) G _ M10 IM10 k2 hk_k2 a3 (by omega) (by omega) fun x14 M13 IM13 GM13 hx14 kx14 => ?_)
          have FM13 := Fr.trans FM10 GM13 (rfl)
          have J61_16 : ∀ (MJ61_16 : pM) (s17 : Int32), Iv (V) MJ61_16 → Fr [1, 14, 15, 16, 17] M MJ61_16 → 0 ≤ s17.toInt → s17.toInt ≤ 1 → PW G false 16 37 (p_mc 37) (p_msl 37) Kr 61 [(0, .ref 267), (1, .ref 1), (2, .ref k2), (3, .int a3), (4, .int v5), (5, .int v6)] [.int s17] 311 MJ61_16 0 0 := by
            intro MJ61_16 s17 IMJ61_16 FMJ61_16 hbJ61_160 hbJ61_161
            refine PW.istore q_37_61 (by decide) ?_
            refine PW.incN q_37_63 rfl (by decide) (by decide) (by omega) (by omega) fun x18 hx18 => ?_
            refine PW.goto q_37_66 rfl ?_
            refine PW.lvS (lk1 rfl (lk1 rfl (lk1 rfl (lk1 rfl (lk1 rfl (lk1 rfl lk0)))))) (ih_L37_12_4 _ ?_ MJ61_16 s17 x18 IMJ61_16 FMJ61_16 (by omega) (by omega) (by omega) (by omega) rfl)
            omega
          refine PW.jz_eq q_37_41 rfl (fun h15 => ?_) (fun h15 => ?_)
          · skip
            refine PW.cI q_37_60 (by decide) fun c19 hc19 => ?_
            exact PW.lvS (lk1 rfl (lk1 rfl (lk1 rfl (lk1 rfl (lk1 rfl (lk1 rfl lk0)))))) (J61_16 M13 c19 IM13 FM13 (by omega) (by omega))
          · skip
            refine PW.aload_n q_37_44 rfl ?_
            refine PW.gets q_37_45 t_st_37_69 ?_
            refine PW.cI q_37_48 (by decide) fun c20 hc20 => ?_
            refine PW.cI q_37_49 (by decide) fun c21 hc21 => ?_
            refine PW.cV (as := [_, _, _]) (rest := []) q_37_50 t_mv_37_62 kd_267 IM13.1 (by decide) rfl (by decide) rfl rfl (Nat.le_of_ble_eq_true rfl) (Nat.le_of_ble_eq_true rfl) (by decide) (by decide) ?_
            refine PW.up (by decide) (c_X4_add (V) (hV) G _ M13 IM13 18 (by decide) c20 c21 (by omega) (by omega) fun x23 M22 IM22 GM22 hx23 kx23 => ?_)
            have FM22 := Fr.trans FM13 GM22 (rfl)
            refine PW.jz_eq q_37_53 rfl (fun h24 => False.elim (by omega)) (fun h24 => ?_)
            refine PW.cI q_37_56 (by decide) fun c25 hc25 => ?_
            refine PW.goto q_37_57 rfl ?_
            exact PW.lvS (lk1 rfl (lk1 rfl (lk1 rfl (lk1 rfl (lk1 rfl (lk1 rfl lk0)))))) (J61_16 M22 c25 IM22 FM22 (by omega) (by omega))
  exact PW.lvS (lk1 rfl (lk1 rfl (lk1 rfl (lk1 rfl (lk1 rfl (lk1 rfl lk0)))))) (L37_12_4 _ M1 x2 c3 IM1 FM1 (by omega) (by omega) (by omega) (by omega) rfl)
theorem c_X4_readAny_5 (V : pM → Prop) (hV : Stab V) (G : pG) (Kr : pK) (M : pM) (I : Iv V M) (k2 : Nat) (hk_k2 : g_kd k2 = 4) (a3 : Int32) (hl_a3 : 5 ≤ a3.toInt) (hh_a3 : a3.toInt ≤ 5) (hK : ∀ (x : Int32) (M1 : pM), Iv V M1 → Fr [1, 14, 15, 16, 17] M M1 → 0 ≤ x.toInt → x.toInt ≤ 1 → Kr.1 (some (.int x)) 311 M1) : PW G false 17 36 (p_mc 36) (p_msl 36) Kr 0 (lv_args 0 [.ref 267, .ref 1, .ref k2, .int a3]) [] 311 M 0 0 := by
  have F : Fr [1, 14, 15, 16, 17] M M := Fr.refl
  refine PW.aload_n q_36_0 rfl ?_
  refine PW.aload_n q_36_1 rfl ?_
  refine PW.aload_n q_36_2 rfl ?_
  refine PW.iload_n q_36_3 rfl ?_
  refine PW.cV (as := [_, _, _]) (rest := []) q_36_4 t_mv_36_51 kd_267 I.1 (by decide) rfl (by decide) rfl rfl (Nat.le_of_ble_eq_true rfl) (Nat.le_of_ble_eq_true rfl) (by decide) (by decide) ?_
  refine PW.up (by decide) (c_X4_readAll_5 (V) (hV) G _ M I k2 hk_k2 a3 (by omega) (by omega) fun x2 M1 IM1 GM1 hx2 kx2 => ?_)
  have FM1 := Fr.trans F GM1 (rfl)
  refine PW.istore q_36_7 (by decide) ?_
  refine PW.cI q_36_9 (by decide) fun c3 hc3 => ?_
  refine PW.istore q_36_10 (by decide) ?_
  have L36_12_4 : ∀ (n : Nat) (ML36_12_4 : pM) (v5 v6 : Int32), Iv (V) ML36_12_4 → Fr [1, 14, 15, 16, 17] M ML36_12_4 → 0 ≤ v5.toInt → v5.toInt ≤ 1 → 0 ≤ v6.toInt → v6.toInt ≤ 20 → (20 - v6.toInt).toNat = n → PW G false 17 36 (p_mc 36) (p_msl 36) Kr 12 [(0, .ref 267), (1, .ref 1), (2, .ref k2), (3, .int a3), (4, .int v5), (5, .int v6)] [] 311 ML36_12_4 0 0 := by
    intro n
    induction n using Nat.strongRecOn with
    | ind n ih_L36_12_4 =>
    intro ML36_12_4 v5 v6 IML36_12_4 FML36_12_4 hbL36_12_40 hbL36_12_41 hbL36_12_42 hbL36_12_43 hmL36_12_4
    refine PW.iload q_36_12 rfl ?_
    refine PW.cB q_36_14 (by decide) fun c7 hc7 => ?_
    refine PW.jc_ge q_36_16 rfl (fun h8 => ?_) (fun h8 => ?_)
    · skip
      refine PW.iload q_36_69 rfl ?_
      refine PW.rZ q_36_71 rfl (by omega) (by omega) (by decide) (by decide) ?_
      exact hK v5 ML36_12_4 IML36_12_4 FML36_12_4 (by omega) (by omega)
    · skip
      refine PW.iload q_36_19 rfl ?_
      refine PW.jz_eq q_36_21 rfl (fun h9 => ?_) (fun h9 => ?_)
      · skip
        refine PW.iload q_36_69 rfl ?_
        refine PW.rZ q_36_71 rfl (by omega) (by omega) (by decide) (by decide) ?_
        exact hK v5 ML36_12_4 IML36_12_4 FML36_12_4 (by omega) (by omega)
      · skip
        refine PW.aload_n q_36_24 rfl ?_
        refine PW.gets q_36_25 t_st_36_54 ?_
        refine PW.cV (as := [_]) (rest := []) q_36_28 t_mv_36_58 kd_1 IML36_12_4.1 (by decide) rfl (by decide) rfl rfl (Nat.le_of_ble_eq_true rfl) (Nat.le_of_ble_eq_true rfl) (by decide) (by decide) ?_
        refine PW.up (by decide) (c_X7_takes (V) (hV) G _ ML36_12_4 IML36_12_4 17 (by decide) fun x11 M10 IM10 GM10 hx11 kx11 => ?_)
        have FM10 := Fr.trans FML36_12_4 GM10 (rfl)
        refine PW.jz_eq q_36_31 rfl (fun h12 => ?_) (fun h12 => ?_)
        · skip
          refine PW.iload q_36_69 rfl ?_
          refine PW.rZ q_36_71 rfl (by omega) (by omega) (by decide) (by decide) ?_
          exact hK v5 M10 IM10 FM10 (by omega) (by omega)
        · skip
          refine PW.aload_n q_36_34 rfl ?_
          refine PW.aload_n q_36_35 rfl ?_
          refine PW.aload_n q_36_36 rfl ?_
          refine PW.iload_n q_36_37 rfl ?_
          refine PW.cV (as := [_, _, _]) (rest := []) q_36_38 t_mv_36_51 kd_267 IM10.1 (by decide) rfl (by decide) rfl rfl (Nat.le_of_ble_eq_true rfl) (Nat.le_of_ble_eq_true rfl) (by decide) (by decide) ?_
          refine PW.up (by decide) (c_X4_readAll_5 (V) (hV) G _ M10 IM10 k2 hk_k2 a3 (by omega) (by omega) fun x14 M13 IM13 GM13 hx14 kx14 => ?_)
          have FM13 := Fr.trans FM10 GM13 (rfl)
          have J61_16 : ∀ (MJ61_16 : pM) (s17 : Int32), Iv (V) MJ61_16 → Fr [1, 14, 15, 16, 17] M MJ61_16 → 0 ≤ s17.toInt → s17.toInt ≤ 1 → PW G false 17 36 (p_mc 36) (p_msl 36) Kr 61 [(0, .ref 267), (1, .ref 1), (2, .ref k2), (3, .int a3), (4, .int v5), (5, .int v6)] [.int s17] 311 MJ61_16 0 0 := by
            intro MJ61_16 s17 IMJ61_16 FMJ61_16 hbJ61_160 hbJ61_161
            refine PW.istore q_36_61 (by decide) ?_
            refine PW.incN q_36_63 rfl (by decide) (by decide) (by omega) (by omega) fun x18 hx18 => ?_
            refine PW.goto q_36_66 rfl ?_
            refine PW.lvS (lk1 rfl (lk1 rfl (lk1 rfl (lk1 rfl (lk1 rfl (lk1 rfl lk0)))))) (ih_L36_12_4 _ ?_ MJ61_16 s17 x18 IMJ61_16 FMJ61_16 (by omega) (by omega) (by omega) (by omega) rfl)
            omega
          refine PW.jz_eq q_36_41 rfl (fun h15 => ?_) (fun h15 => ?_)
          · skip
            refine PW.cI q_36_60 (by decide) fun c19 hc19 => ?_
            exact PW.lvS (lk1 rfl (lk1 rfl (lk1 rfl (lk1 rfl (lk1 rfl (lk1 rfl lk0)))))) (J61_16 M13 c19 IM13 FM13 (by omega) (by omega))
          · skip
            refine PW.aload_n q_36_44 rfl ?_
            refine PW.gets q_36_45 t_st_36_54 ?_
            refine PW.cI q_36_48 (by decide) fun c20 hc20 => ?_
            refine PW.cI q_36_49 (by decide) fun c21 hc21 => ?_
            refine PW.cV (as := [_, _, _]) (rest := []) q_36_50 t_mv_36_62 kd_267 IM13.1 (by decide) rfl (by decide) rfl rfl (Nat.le_of_ble_eq_true rfl) (Nat.le_of_ble_eq_true rfl) (by decide) (by decide) ?_
            refine PW.up (by decide) (c_X4_add (V) (hV) G _ M13 IM13 17 (by decide) c20 c21 (by omega) (by omega) fun x23 M22 IM22 GM22 hx23 kx23 => ?_)
            have FM22 := Fr.trans FM13 GM22 (rfl)
            refine PW.jz_eq q_36_53 rfl (fun h24 => False.elim (by omega)) (fun h24 => ?_)
            refine PW.cI q_36_56 (by decide) fun c25 hc25 => ?_
            refine PW.goto q_36_57 rfl ?_
            exact PW.lvS (lk1 rfl (lk1 rfl (lk1 rfl (lk1 rfl (lk1 rfl (lk1 rfl lk0)))))) (J61_16 M22 c25 IM22 FM22 (by omega) (by omega))
  exact PW.lvS (lk1 rfl (lk1 rfl (lk1 rfl (lk1 rfl (lk1 rfl (lk1 rfl lk0)))))) (L36_12_4 _ M1 x2 c3 IM1 FM1 (by omega) (by omega) (by omega) (by omega) rfl)
theorem c_X4_readOne_4 (V : pM → Prop) (hV : Stab V) (G : pG) (Kr : pK) (M : pM) (I : Iv V M) (k2 : Nat) (hk_k2 : g_kd k2 = 4) (a3 : Int32) (hl_a3 : 4 ≤ a3.toInt) (hh_a3 : a3.toInt ≤ 4) (hK : ∀ (x : Int32) (M1 : pM), Iv V M1 → Fr [1, 14, 15, 16, 17] M M1 → 0 ≤ x.toInt → x.toInt ≤ 1 → Kr.1 (some (.int x)) 311 M1) : PW G false 18 38 (p_mc 38) (p_msl 38) Kr 0 (lv_args 0 [.ref 267, .ref 1, .ref k2, .int a3]) [] 311 M 0 0 := by
  have F : Fr [1, 14, 15, 16, 17] M M := Fr.refl
  refine PW.aload_n q_38_0 rfl ?_
  refine PW.callS (as := [_]) (rest := []) q_38_1 t_ms_38_72 (by decide) rfl (Nat.le_of_ble_eq_true rfl) (Nat.le_of_ble_eq_true rfl) (by decide) (by decide) ?_
  refine PW.up (by decide) (c_X4_beginsOne (V) (hV) G _ M I  fun x2 M1 IM1 GM1 hx2 kx2 => ?_)
  have FM1 := Fr.trans F GM1 (rfl)
  refine PW.jz_ne q_38_4 rfl (fun h3 => ?_) (fun h3 => ?_)
  · skip
    refine PW.aload_n q_38_13 rfl ?_
    refine PW.gI q_38_14 (Or.inl t_ft_38_27) gF_14_0 kd_267 IM1.1 (by decide) fun x4 fx4 hx4 kx4 => ?_
    clear hx4 kx4
    refine PW.cB q_38_17 (by decide) fun c5 hc5 => ?_
    refine PW.jc_ge q_38_19 rfl (fun h6 => ?_) (fun h6 => ?_)
    · skip
      refine PW.aload_n q_38_28 rfl ?_
      refine PW.cI q_38_29 (by decide) fun c7 hc7 => ?_
      refine PW.cV (as := [_]) (rest := []) q_38_30 t_mv_38_76 kd_1 IM1.1 (by decide) rfl (by decide) rfl rfl (Nat.le_of_ble_eq_true rfl) (Nat.le_of_ble_eq_true rfl) (by decide) (by decide) ?_
      refine PW.up (by decide) (c_X7_fail (V) (hV) G _ M1 IM1 c7 fun x9 M8 IM8 GM8 hx9 kx9 => ?_)
      have FM8 := Fr.trans FM1 GM8 (rfl)
      refine PW.rZ q_38_33 rfl (by omega) (by omega) (by decide) (by decide) ?_
      exact hK x9 M8 IM8 FM8 (by omega) (by omega)
    · skip
      refine PW.iload_n q_38_22 rfl ?_
      refine PW.cB q_38_23 (by decide) fun c10 hc10 => ?_
      refine PW.jc_le q_38_25 rfl (fun h11 => ?_) (fun h11 => False.elim (by omega))
      refine PW.aload_n q_38_34 rfl ?_
      refine PW.dup q_38_35 rfl ?_
      refine PW.gE q_38_36 (Or.inl t_ft_38_27) gF_14_0 kd_267 IM1.1 (by decide) fx4 ?_
      refine PW.cI q_38_39 (by decide) fun c12 hc12 => ?_
      refine PW.addN q_38_40 (by have := n_lo x4; have := n_hi x4; omega) (by have := n_lo x4; have := n_hi x4; omega) fun x13 hx13 => ?_
      refine PW.pI q_38_41 (Or.inl t_ft_38_27) gF_14_0 gP_14_0 kd_267 hV IM1 (by decide) rfl (n_lo _) (n_hi _) fun M14 IM14 fM14 UM14 => ?_
      have FM14 := Fr.pu FM1 UM14.1 kd_267 (rfl : List.contains [1, 14, 15, 16, 17] 14 = true)
      refine PW.aload_n q_38_44 rfl ?_
      refine PW.gets q_38_45 t_st_38_80 ?_
      refine PW.cV (as := [_]) (rest := []) q_38_48 t_mv_38_58 kd_1 IM14.1 (by decide) rfl (by decide) rfl rfl (Nat.le_of_ble_eq_true rfl) (Nat.le_of_ble_eq_true rfl) (by decide) (by decide) ?_
      refine PW.up (by decide) (c_X7_takes (V) (hV) G _ M14 IM14 19 (by decide) fun x16 M15 IM15 GM15 hx16 kx16 => ?_)
      have FM15 := Fr.trans FM14 GM15 (rfl)
      refine PW.jz_eq q_38_51 rfl (fun h17 => ?_) (fun h17 => ?_)
      · skip
        refine PW.aload_n q_38_84 rfl ?_
        refine PW.cB q_38_85 (by decide) fun c18 hc18 => ?_
        refine PW.cV (as := [_]) (rest := []) q_38_87 t_mv_38_83 kd_1 IM15.1 (by decide) rfl (by decide) rfl rfl (Nat.le_of_ble_eq_true rfl) (Nat.le_of_ble_eq_true rfl) (by decide) (by decide) ?_
        refine PW.up (by decide) (c_X7_seesSign (V) (hV) G _ M15 IM15 c18 fun x20 M19 IM19 GM19 hx20 kx20 => ?_)
        have FM19 := Fr.trans FM15 GM19 (rfl)
        refine PW.jz_eq q_38_90 rfl (fun h21 => ?_) (fun h21 => ?_)
        · skip
          refine PW.aload_n q_38_124 rfl ?_
          refine PW.aload_n q_38_125 rfl ?_
          refine PW.aload_n q_38_126 rfl ?_
          refine PW.cV (as := [_, _]) (rest := []) q_38_127 t_mv_38_92 kd_267 IM19.1 (by decide) rfl (by decide) rfl rfl (Nat.le_of_ble_eq_true rfl) (Nat.le_of_ble_eq_true rfl) (by decide) (by decide) ?_
          refine PW.up (by decide) (c_X4_readPlain (V) (hV) G _ M19 IM19 k2 hk_k2 fun x23 M22 IM22 GM22 hx23 kx23 => ?_)
          have FM22 := Fr.trans FM19 GM22 (rfl)
          refine PW.rZ q_38_130 rfl (by omega) (by omega) (by decide) (by decide) ?_
          exact hK x23 M22 IM22 FM22 (by omega) (by omega)
        · skip
          refine PW.aload_n q_38_93 rfl ?_
          refine PW.cV (as := []) (rest := []) q_38_94 t_mv_38_86 kd_1 IM19.1 (by decide) rfl (by decide) rfl rfl (Nat.le_of_ble_eq_true rfl) (Nat.le_of_ble_eq_true rfl) (by decide) (by decide) ?_
          refine PW.up (by decide) (c_X7_advance (V) (hV) G _ M19 IM19  fun M24 IM24 GM24 => ?_)
          have FM24 := Fr.trans FM19 GM24 (rfl)
          refine PW.aload_n q_38_97 rfl ?_
          refine PW.aload_n q_38_98 rfl ?_
          refine PW.aload_n q_38_99 rfl ?_
          refine PW.iload_n q_38_100 rfl ?_
          refine PW.cI q_38_101 (by decide) fun c25 hc25 => ?_
          refine PW.addN q_38_102 (by omega) (by omega) fun x26 hx26 => ?_
          refine PW.cV (as := [_, _, _]) (rest := []) q_38_103 t_mv_38_43 kd_267 IM24.1 (by decide) rfl (by decide) rfl rfl (Nat.le_of_ble_eq_true rfl) (Nat.le_of_ble_eq_true rfl) (by decide) (by decide) ?_
          refine PW.up (by decide) (c_X4_readAny_5 (V) (hV) G _ M24 IM24 k2 hk_k2 x26 (by omega) (by omega) fun x28 M27 IM27 GM27 hx28 kx28 => ?_)
          have FM27 := Fr.trans FM24 GM27 (rfl)
          refine PW.jz_eq q_38_106 rfl (fun h29 => ?_) (fun h29 => ?_)
          · skip
            refine PW.cI q_38_122 (by decide) fun c30 hc30 => ?_
            refine PW.rZ q_38_123 rfl (by omega) (by omega) (by decide) (by decide) ?_
            exact hK c30 M27 IM27 FM27 (by omega) (by omega)
          · skip
            refine PW.aload_n q_38_109 rfl ?_
            refine PW.cB q_38_110 (by decide) fun c31 hc31 => ?_
            refine PW.cV (as := [_]) (rest := []) q_38_112 t_mv_38_89 kd_1 IM27.1 (by decide) rfl (by decide) rfl rfl (Nat.le_of_ble_eq_true rfl) (Nat.le_of_ble_eq_true rfl) (by decide) (by decide) ?_
            refine PW.up (by decide) (c_X7_needsSign (V) (hV) G _ M27 IM27 c31 fun x33 M32 IM32 GM32 hx33 kx33 => ?_)
            have FM32 := Fr.trans FM27 GM32 (rfl)
            refine PW.jz_eq q_38_115 rfl (fun h34 => ?_) (fun h34 => ?_)
            · skip
              refine PW.cI q_38_122 (by decide) fun c35 hc35 => ?_
              refine PW.rZ q_38_123 rfl (by omega) (by omega) (by decide) (by decide) ?_
              exact hK c35 M32 IM32 FM32 (by omega) (by omega)
            · skip
              refine PW.cI q_38_118 (by decide) fun c36 hc36 => ?_
              refine PW.goto q_38_119 rfl ?_
              refine PW.rZ q_38_123 rfl (by omega) (by omega) (by decide) (by decide) ?_
              exact hK c36 M32 IM32 FM32 (by omega) (by omega)
      · skip
        refine PW.aload_n q_38_54 rfl ?_
        refine PW.aload_n q_38_55 rfl ?_
        refine PW.aload_n q_38_56 rfl ?_
        refine PW.iload_n q_38_57 rfl ?_
        refine PW.cI q_38_58 (by decide) fun c37 hc37 => ?_
        refine PW.addN q_38_59 (by omega) (by omega) fun x38 hx38 => ?_
        refine PW.cV (as := [_, _, _]) (rest := []) q_38_60 t_mv_38_66 kd_267 IM15.1 (by decide) rfl (by decide) rfl rfl (Nat.le_of_ble_eq_true rfl) (Nat.le_of_ble_eq_true rfl) (by decide) (by decide) ?_
        refine PW.up (by decide) (c_X4_readOne_5 (V) (hV) G _ M15 IM15 k2 hk_k2 x38 (by omega) (by omega) fun x40 M39 IM39 GM39 hx40 kx40 => ?_)
        have FM39 := Fr.trans FM15 GM39 (rfl)
        refine PW.jz_eq q_38_63 rfl (fun h41 => ?_) (fun h41 => ?_)
        · skip
          refine PW.cI q_38_82 (by decide) fun c42 hc42 => ?_
          refine PW.rZ q_38_83 rfl (by omega) (by omega) (by decide) (by decide) ?_
          exact hK c42 M39 IM39 FM39 (by omega) (by omega)
        · skip
          refine PW.aload_n q_38_66 rfl ?_
          refine PW.gets q_38_67 t_st_38_80 ?_
          refine PW.cI q_38_70 (by decide) fun c43 hc43 => ?_
          refine PW.cI q_38_71 (by decide) fun c44 hc44 => ?_
          refine PW.cV (as := [_, _, _]) (rest := []) q_38_72 t_mv_38_62 kd_267 IM39.1 (by decide) rfl (by decide) rfl rfl (Nat.le_of_ble_eq_true rfl) (Nat.le_of_ble_eq_true rfl) (by decide) (by decide) ?_
          refine PW.up (by decide) (c_X4_add (V) (hV) G _ M39 IM39 19 (by decide) c43 c44 (by omega) (by omega) fun x46 M45 IM45 GM45 hx46 kx46 => ?_)
          have FM45 := Fr.trans FM39 GM45 (rfl)
          refine PW.jz_eq q_38_75 rfl (fun h47 => False.elim (by omega)) (fun h47 => ?_)
          refine PW.cI q_38_78 (by decide) fun c48 hc48 => ?_
          refine PW.goto q_38_79 rfl ?_
          refine PW.rZ q_38_83 rfl (by omega) (by omega) (by decide) (by decide) ?_
          exact hK c48 M45 IM45 FM45 (by omega) (by omega)
  · skip
    refine PW.aload_n q_38_7 rfl ?_
    refine PW.cI q_38_8 (by decide) fun c49 hc49 => ?_
    refine PW.cV (as := [_]) (rest := []) q_38_9 t_mv_38_76 kd_1 IM1.1 (by decide) rfl (by decide) rfl rfl (Nat.le_of_ble_eq_true rfl) (Nat.le_of_ble_eq_true rfl) (by decide) (by decide) ?_
    refine PW.up (by decide) (c_X7_fail (V) (hV) G _ M1 IM1 c49 fun x51 M50 IM50 GM50 hx51 kx51 => ?_)
    have FM50 := Fr.trans FM1 GM50 (rfl)
    refine PW.rZ q_38_12 rfl (by omega) (by omega) (by decide) (by decide) ?_
    exact hK x51 M50 IM50 FM50 (by omega) (by omega)
theorem c_X4_readAll_4 (V : pM → Prop) (hV : Stab V) (G : pG) (Kr : pK) (M : pM) (I : Iv V M) (k2 : Nat) (hk_k2 : g_kd k2 = 4) (a3 : Int32) (hl_a3 : 4 ≤ a3.toInt) (hh_a3 : a3.toInt ≤ 4) (hK : ∀ (x : Int32) (M1 : pM), Iv V M1 → Fr [1, 14, 15, 16, 17] M M1 → 0 ≤ x.toInt → x.toInt ≤ 1 → Kr.1 (some (.int x)) 311 M1) : PW G false 19 37 (p_mc 37) (p_msl 37) Kr 0 (lv_args 0 [.ref 267, .ref 1, .ref k2, .int a3]) [] 311 M 0 0 := by
  have F : Fr [1, 14, 15, 16, 17] M M := Fr.refl
  refine PW.aload_n q_37_0 rfl ?_
  refine PW.aload_n q_37_1 rfl ?_
  refine PW.aload_n q_37_2 rfl ?_
  refine PW.iload_n q_37_3 rfl ?_
  refine PW.cV (as := [_, _, _]) (rest := []) q_37_4 t_mv_37_66 kd_267 I.1 (by decide) rfl (by decide) rfl rfl (Nat.le_of_ble_eq_true rfl) (Nat.le_of_ble_eq_true rfl) (by decide) (by decide) ?_
  refine PW.up (by decide) (c_X4_readOne_4 (V) (hV) G _ M I k2 hk_k2 a3 (by omega) (by omega) fun x2 M1 IM1 GM1 hx2 kx2 => ?_)
  have FM1 := Fr.trans F GM1 (rfl)
  refine PW.istore q_37_7 (by decide) ?_
  refine PW.cI q_37_9 (by decide) fun c3 hc3 => ?_
  refine PW.istore q_37_10 (by decide) ?_
  have L37_12_4 : ∀ (n : Nat) (ML37_12_4 : pM) (v5 v6 : Int32), Iv (V) ML37_12_4 → Fr [1, 14, 15, 16, 17] M ML37_12_4 → 0 ≤ v5.toInt → v5.toInt ≤ 1 → 0 ≤ v6.toInt → v6.toInt ≤ 20 → (20 - v6.toInt).toNat = n → PW G false 19 37 (p_mc 37) (p_msl 37) Kr 12 [(0, .ref 267), (1, .ref 1), (2, .ref k2), (3, .int a3), (4, .int v5), (5, .int v6)] [] 311 ML37_12_4 0 0 := by
    intro n
    induction n using Nat.strongRecOn with
    | ind n ih_L37_12_4 =>
    intro ML37_12_4 v5 v6 IML37_12_4 FML37_12_4 hbL37_12_40 hbL37_12_41 hbL37_12_42 hbL37_12_43 hmL37_12_4
    refine PW.iload q_37_12 rfl ?_
    refine PW.cB q_37_14 (by decide) fun c7 hc7 => ?_
    refine PW.jc_ge q_37_16 rfl (fun h8 => ?_) (fun h8 => ?_)
    · skip
      refine PW.iload q_37_69 rfl ?_
      refine PW.rZ q_37_71 rfl (by omega) (by omega) (by decide) (by decide) ?_
      exact hK v5 ML37_12_4 IML37_12_4 FML37_12_4 (by omega) (by omega)
    · skip
      refine PW.iload q_37_19 rfl ?_
      refine PW.jz_eq q_37_21 rfl (fun h9 => ?_) (fun h9 => ?_)
      · skip
        refine PW.iload q_37_69 rfl ?_
        refine PW.rZ q_37_71 rfl (by omega) (by omega) (by decide) (by decide) ?_
        exact hK v5 ML37_12_4 IML37_12_4 FML37_12_4 (by omega) (by omega)
      · skip
        refine PW.aload_n q_37_24 rfl ?_
        refine PW.gets q_37_25 t_st_37_69 ?_
        refine PW.cV (as := [_]) (rest := []) q_37_28 t_mv_37_58 kd_1 IML37_12_4.1 (by decide) rfl (by decide) rfl rfl (Nat.le_of_ble_eq_true rfl) (Nat.le_of_ble_eq_true rfl) (by decide) (by decide) ?_
        refine PW.up (by decide) (c_X7_takes (V) (hV) G _ ML37_12_4 IML37_12_4 18 (by decide) fun x11 M10 IM10 GM10 hx11 kx11 => ?_)
        have FM10 := Fr.trans FML37_12_4 GM10 (rfl)
        refine PW.jz_eq q_37_31 rfl (fun h12 => ?_) (fun h12 => ?_)
        · skip
          refine PW.iload q_37_69 rfl ?_
          refine PW.rZ q_37_71 rfl (by omega) (by omega) (by decide) (by decide) ?_
          exact hK v5 M10 IM10 FM10 (by omega) (by omega)
        · skip
          refine PW.aload_n q_37_34 rfl ?_
          refine PW.aload_n q_37_35 rfl ?_
          refine PW.aload_n q_37_36 rfl ?_
          refine PW.iload_n q_37_37 rfl ?_
          refine PW.cV (as := [_, _, _]) (rest := []) q_37_38 t_mv_37_66 kd_267 IM10.1 (by decide) rfl (by decide) rfl rfl (Nat.le_of_ble_eq_true rfl) (Nat.le_of_ble_eq_true rfl) (by decide) (by decide) ?_
          refine PW.up (by decide) (c_X4_readOne_4 (V) (hV) G _ M10 IM10 k2 hk_k2 a3 (by omega) (by omega) fun x14 M13 IM13 GM13 hx14 kx14 => ?_)
          have FM13 := Fr.trans FM10 GM13 (rfl)
          have J61_16 : ∀ (MJ61_16 : pM) (s17 : Int32), Iv (V) MJ61_16 → Fr [1, 14, 15, 16, 17] M MJ61_16 → 0 ≤ s17.toInt → s17.toInt ≤ 1 → PW G false 19 37 (p_mc 37) (p_msl 37) Kr 61 [(0, .ref 267), (1, .ref 1), (2, .ref k2), (3, .int a3), (4, .int v5), (5, .int v6)] [.int s17] 311 MJ61_16 0 0 := by
            intro MJ61_16 s17 IMJ61_16 FMJ61_16 hbJ61_160 hbJ61_161
            refine PW.istore q_37_61 (by decide) ?_
            refine PW.incN q_37_63 rfl (by decide) (by decide) (by omega) (by omega) fun x18 hx18 => ?_
            refine PW.goto q_37_66 rfl ?_
            refine PW.lvS (lk1 rfl (lk1 rfl (lk1 rfl (lk1 rfl (lk1 rfl (lk1 rfl lk0)))))) (ih_L37_12_4 _ ?_ MJ61_16 s17 x18 IMJ61_16 FMJ61_16 (by omega) (by omega) (by omega) (by omega) rfl)
            omega
          refine PW.jz_eq q_37_41 rfl (fun h15 => ?_) (fun h15 => ?_)
          · skip
            refine PW.cI q_37_60 (by decide) fun c19 hc19 => ?_
            exact PW.lvS (lk1 rfl (lk1 rfl (lk1 rfl (lk1 rfl (lk1 rfl (lk1 rfl lk0)))))) (J61_16 M13 c19 IM13 FM13 (by omega) (by omega))
          · skip
            refine PW.aload_n q_37_44 rfl ?_
            refine PW.gets q_37_45 t_st_37_69 ?_
            refine PW.cI q_37_48 (by decide) fun c20 hc20 => ?_
            refine PW.cI q_37_49 (by decide) fun c21 hc21 => ?_
            refine PW.cV (as := [_, _, _]) (rest := []) q_37_50 t_mv_37_62 kd_267 IM13.1 (by decide) rfl (by decide) rfl rfl (Nat.le_of_ble_eq_true rfl) (Nat.le_of_ble_eq_true rfl) (by decide) (by decide) ?_
            refine PW.up (by decide) (c_X4_add (V) (hV) G _ M13 IM13 18 (by decide) c20 c21 (by omega) (by omega) fun x23 M22 IM22 GM22 hx23 kx23 => ?_)
            have FM22 := Fr.trans FM13 GM22 (rfl)
            refine PW.jz_eq q_37_53 rfl (fun h24 => False.elim (by omega)) (fun h24 => ?_)
            refine PW.cI q_37_56 (by decide) fun c25 hc25 => ?_
            refine PW.goto q_37_57 rfl ?_
            exact PW.lvS (lk1 rfl (lk1 rfl (lk1 rfl (lk1 rfl (lk1 rfl (lk1 rfl lk0)))))) (J61_16 M22 c25 IM22 FM22 (by omega) (by omega))
  exact PW.lvS (lk1 rfl (lk1 rfl (lk1 rfl (lk1 rfl (lk1 rfl (lk1 rfl lk0)))))) (L37_12_4 _ M1 x2 c3 IM1 FM1 (by omega) (by omega) (by omega) (by omega) rfl)
theorem c_X4_readAny_4 (V : pM → Prop) (hV : Stab V) (G : pG) (Kr : pK) (M : pM) (I : Iv V M) (k2 : Nat) (hk_k2 : g_kd k2 = 4) (a3 : Int32) (hl_a3 : 4 ≤ a3.toInt) (hh_a3 : a3.toInt ≤ 4) (hK : ∀ (x : Int32) (M1 : pM), Iv V M1 → Fr [1, 14, 15, 16, 17] M M1 → 0 ≤ x.toInt → x.toInt ≤ 1 → Kr.1 (some (.int x)) 311 M1) : PW G false 20 36 (p_mc 36) (p_msl 36) Kr 0 (lv_args 0 [.ref 267, .ref 1, .ref k2, .int a3]) [] 311 M 0 0 := by
  have F : Fr [1, 14, 15, 16, 17] M M := Fr.refl
  refine PW.aload_n q_36_0 rfl ?_
  refine PW.aload_n q_36_1 rfl ?_
  refine PW.aload_n q_36_2 rfl ?_
  refine PW.iload_n q_36_3 rfl ?_
  refine PW.cV (as := [_, _, _]) (rest := []) q_36_4 t_mv_36_51 kd_267 I.1 (by decide) rfl (by decide) rfl rfl (Nat.le_of_ble_eq_true rfl) (Nat.le_of_ble_eq_true rfl) (by decide) (by decide) ?_
  refine PW.up (by decide) (c_X4_readAll_4 (V) (hV) G _ M I k2 hk_k2 a3 (by omega) (by omega) fun x2 M1 IM1 GM1 hx2 kx2 => ?_)
  have FM1 := Fr.trans F GM1 (rfl)
  refine PW.istore q_36_7 (by decide) ?_
  refine PW.cI q_36_9 (by decide) fun c3 hc3 => ?_
  refine PW.istore q_36_10 (by decide) ?_
  have L36_12_4 : ∀ (n : Nat) (ML36_12_4 : pM) (v5 v6 : Int32), Iv (V) ML36_12_4 → Fr [1, 14, 15, 16, 17] M ML36_12_4 → 0 ≤ v5.toInt → v5.toInt ≤ 1 → 0 ≤ v6.toInt → v6.toInt ≤ 20 → (20 - v6.toInt).toNat = n → PW G false 20 36 (p_mc 36) (p_msl 36) Kr 12 [(0, .ref 267), (1, .ref 1), (2, .ref k2), (3, .int a3), (4, .int v5), (5, .int v6)] [] 311 ML36_12_4 0 0 := by
    intro n
    induction n using Nat.strongRecOn with
    | ind n ih_L36_12_4 =>
    intro ML36_12_4 v5 v6 IML36_12_4 FML36_12_4 hbL36_12_40 hbL36_12_41 hbL36_12_42 hbL36_12_43 hmL36_12_4
    refine PW.iload q_36_12 rfl ?_
    refine PW.cB q_36_14 (by decide) fun c7 hc7 => ?_
    refine PW.jc_ge q_36_16 rfl (fun h8 => ?_) (fun h8 => ?_)
    · skip
      refine PW.iload q_36_69 rfl ?_
      refine PW.rZ q_36_71 rfl (by omega) (by omega) (by decide) (by decide) ?_
      exact hK v5 ML36_12_4 IML36_12_4 FML36_12_4 (by omega) (by omega)
    · skip
      refine PW.iload q_36_19 rfl ?_
      refine PW.jz_eq q_36_21 rfl (fun h9 => ?_) (fun h9 => ?_)
      · skip
        refine PW.iload q_36_69 rfl ?_
        refine PW.rZ q_36_71 rfl (by omega) (by omega) (by decide) (by decide) ?_
        exact hK v5 ML36_12_4 IML36_12_4 FML36_12_4 (by omega) (by omega)
      · skip
        refine PW.aload_n q_36_24 rfl ?_
        refine PW.gets q_36_25 t_st_36_54 ?_
        refine PW.cV (as := [_]) (rest := []) q_36_28 t_mv_36_58 kd_1 IML36_12_4.1 (by decide) rfl (by decide) rfl rfl (Nat.le_of_ble_eq_true rfl) (Nat.le_of_ble_eq_true rfl) (by decide) (by decide) ?_
        refine PW.up (by decide) (c_X7_takes (V) (hV) G _ ML36_12_4 IML36_12_4 17 (by decide) fun x11 M10 IM10 GM10 hx11 kx11 => ?_)
        have FM10 := Fr.trans FML36_12_4 GM10 (rfl)
        refine PW.jz_eq q_36_31 rfl (fun h12 => ?_) (fun h12 => ?_)
        · skip
          refine PW.iload q_36_69 rfl ?_
          refine PW.rZ q_36_71 rfl (by omega) (by omega) (by decide) (by decide) ?_
          exact hK v5 M10 IM10 FM10 (by omega) (by omega)
        · skip
          refine PW.aload_n q_36_34 rfl ?_
          refine PW.aload_n q_36_35 rfl ?_
          refine PW.aload_n q_36_36 rfl ?_
          refine PW.iload_n q_36_37 rfl ?_
          refine PW.cV (as := [_, _, _]) (rest := []) q_36_38 t_mv_36_51 kd_267 IM10.1 (by decide) rfl (by decide) rfl rfl (Nat.le_of_ble_eq_true rfl) (Nat.le_of_ble_eq_true rfl) (by decide) (by decide) ?_
          refine PW.up (by decide) (c_X4_readAll_4 (V) (hV) G _ M10 IM10 k2 hk_k2 a3 (by omega) (by omega) fun x14 M13 IM13 GM13 hx14 kx14 => ?_)
          have FM13 := Fr.trans FM10 GM13 (rfl)
          have J61_16 : ∀ (MJ61_16 : pM) (s17 : Int32), Iv (V) MJ61_16 → Fr [1, 14, 15, 16, 17] M MJ61_16 → 0 ≤ s17.toInt → s17.toInt ≤ 1 → PW G false 20 36 (p_mc 36) (p_msl 36) Kr 61 [(0, .ref 267), (1, .ref 1), (2, .ref k2), (3, .int a3), (4, .int v5), (5, .int v6)] [.int s17] 311 MJ61_16 0 0 := by
            intro MJ61_16 s17 IMJ61_16 FMJ61_16 hbJ61_160 hbJ61_161
            refine PW.istore q_36_61 (by decide) ?_
            refine PW.incN q_36_63 rfl (by decide) (by decide) (by omega) (by omega) fun x18 hx18 => ?_
            refine PW.goto q_36_66 rfl ?_
            refine PW.lvS (lk1 rfl (lk1 rfl (lk1 rfl (lk1 rfl (lk1 rfl (lk1 rfl lk0)))))) (ih_L36_12_4 _ ?_ MJ61_16 s17 x18 IMJ61_16 FMJ61_16 (by omega) (by omega) (by omega) (by omega) rfl)
            omega
          refine PW.jz_eq q_36_41 rfl (fun h15 => ?_) (fun h15 => ?_)
          · skip
            refine PW.cI q_36_60 (by decide) fun c19 hc19 => ?_
            exact PW.lvS (lk1 rfl (lk1 rfl (lk1 rfl (lk1 rfl (lk1 rfl (lk1 rfl lk0)))))) (J61_16 M13 c19 IM13 FM13 (by omega) (by omega))
          · skip
            refine PW.aload_n q_36_44 rfl ?_
            refine PW.gets q_36_45 t_st_36_54 ?_
            refine PW.cI q_36_48 (by decide) fun c20 hc20 => ?_
            refine PW.cI q_36_49 (by decide) fun c21 hc21 => ?_
            refine PW.cV (as := [_, _, _]) (rest := []) q_36_50 t_mv_36_62 kd_267 IM13.1 (by decide) rfl (by decide) rfl rfl (Nat.le_of_ble_eq_true rfl) (Nat.le_of_ble_eq_true rfl) (by decide) (by decide) ?_
            refine PW.up (by decide) (c_X4_add (V) (hV) G _ M13 IM13 17 (by decide) c20 c21 (by omega) (by omega) fun x23 M22 IM22 GM22 hx23 kx23 => ?_)
            have FM22 := Fr.trans FM13 GM22 (rfl)
            refine PW.jz_eq q_36_53 rfl (fun h24 => False.elim (by omega)) (fun h24 => ?_)
            refine PW.cI q_36_56 (by decide) fun c25 hc25 => ?_
            refine PW.goto q_36_57 rfl ?_
            exact PW.lvS (lk1 rfl (lk1 rfl (lk1 rfl (lk1 rfl (lk1 rfl (lk1 rfl lk0)))))) (J61_16 M22 c25 IM22 FM22 (by omega) (by omega))
  exact PW.lvS (lk1 rfl (lk1 rfl (lk1 rfl (lk1 rfl (lk1 rfl (lk1 rfl lk0)))))) (L36_12_4 _ M1 x2 c3 IM1 FM1 (by omega) (by omega) (by omega) (by omega) rfl)
theorem c_X4_readOne_3 (V : pM → Prop) (hV : Stab V) (G : pG) (Kr : pK) (M : pM) (I : Iv V M) (k2 : Nat) (hk_k2 : g_kd k2 = 4) (a3 : Int32) (hl_a3 : 3 ≤ a3.toInt) (hh_a3 : a3.toInt ≤ 3) (hK : ∀ (x : Int32) (M1 : pM), Iv V M1 → Fr [1, 14, 15, 16, 17] M M1 → 0 ≤ x.toInt → x.toInt ≤ 1 → Kr.1 (some (.int x)) 311 M1) : PW G false 21 38 (p_mc 38) (p_msl 38) Kr 0 (lv_args 0 [.ref 267, .ref 1, .ref k2, .int a3]) [] 311 M 0 0 := by
  have F : Fr [1, 14, 15, 16, 17] M M := Fr.refl
  refine PW.aload_n q_38_0 rfl ?_
  refine PW.callS (as := [_]) (rest := []) q_38_1 t_ms_38_72 (by decide) rfl (Nat.le_of_ble_eq_true rfl) (Nat.le_of_ble_eq_true rfl) (by decide) (by decide) ?_
  refine PW.up (by decide) (c_X4_beginsOne (V) (hV) G _ M I  fun x2 M1 IM1 GM1 hx2 kx2 => ?_)
  have FM1 := Fr.trans F GM1 (rfl)
  refine PW.jz_ne q_38_4 rfl (fun h3 => ?_) (fun h3 => ?_)
  · skip
    refine PW.aload_n q_38_13 rfl ?_
    refine PW.gI q_38_14 (Or.inl t_ft_38_27) gF_14_0 kd_267 IM1.1 (by decide) fun x4 fx4 hx4 kx4 => ?_
    clear hx4 kx4
    refine PW.cB q_38_17 (by decide) fun c5 hc5 => ?_
    refine PW.jc_ge q_38_19 rfl (fun h6 => ?_) (fun h6 => ?_)
    · skip
      refine PW.aload_n q_38_28 rfl ?_
      refine PW.cI q_38_29 (by decide) fun c7 hc7 => ?_
      refine PW.cV (as := [_]) (rest := []) q_38_30 t_mv_38_76 kd_1 IM1.1 (by decide) rfl (by decide) rfl rfl (Nat.le_of_ble_eq_true rfl) (Nat.le_of_ble_eq_true rfl) (by decide) (by decide) ?_
      refine PW.up (by decide) (c_X7_fail (V) (hV) G _ M1 IM1 c7 fun x9 M8 IM8 GM8 hx9 kx9 => ?_)
      have FM8 := Fr.trans FM1 GM8 (rfl)
      refine PW.rZ q_38_33 rfl (by omega) (by omega) (by decide) (by decide) ?_
      exact hK x9 M8 IM8 FM8 (by omega) (by omega)
    · skip
      refine PW.iload_n q_38_22 rfl ?_
      refine PW.cB q_38_23 (by decide) fun c10 hc10 => ?_
      refine PW.jc_le q_38_25 rfl (fun h11 => ?_) (fun h11 => False.elim (by omega))
      refine PW.aload_n q_38_34 rfl ?_
      refine PW.dup q_38_35 rfl ?_
      refine PW.gE q_38_36 (Or.inl t_ft_38_27) gF_14_0 kd_267 IM1.1 (by decide) fx4 ?_
      refine PW.cI q_38_39 (by decide) fun c12 hc12 => ?_
      refine PW.addN q_38_40 (by have := n_lo x4; have := n_hi x4; omega) (by have := n_lo x4; have := n_hi x4; omega) fun x13 hx13 => ?_
      refine PW.pI q_38_41 (Or.inl t_ft_38_27) gF_14_0 gP_14_0 kd_267 hV IM1 (by decide) rfl (n_lo _) (n_hi _) fun M14 IM14 fM14 UM14 => ?_
      have FM14 := Fr.pu FM1 UM14.1 kd_267 (rfl : List.contains [1, 14, 15, 16, 17] 14 = true)
      refine PW.aload_n q_38_44 rfl ?_
      refine PW.gets q_38_45 t_st_38_80 ?_
      refine PW.cV (as := [_]) (rest := []) q_38_48 t_mv_38_58 kd_1 IM14.1 (by decide) rfl (by decide) rfl rfl (Nat.le_of_ble_eq_true rfl) (Nat.le_of_ble_eq_true rfl) (by decide) (by decide) ?_
      refine PW.up (by decide) (c_X7_takes (V) (hV) G _ M14 IM14 19 (by decide) fun x16 M15 IM15 GM15 hx16 kx16 => ?_)
      have FM15 := Fr.trans FM14 GM15 (rfl)
      refine PW.jz_eq q_38_51 rfl (fun h17 => ?_) (fun h17 => ?_)
      · skip
        refine PW.aload_n q_38_84 rfl ?_
        refine PW.cB q_38_85 (by decide) fun c18 hc18 => ?_
        refine PW.cV (as := [_]) (rest := []) q_38_87 t_mv_38_83 kd_1 IM15.1 (by decide) rfl (by decide) rfl rfl (Nat.le_of_ble_eq_true rfl) (Nat.le_of_ble_eq_true rfl) (by decide) (by decide) ?_
        refine PW.up (by decide) (c_X7_seesSign (V) (hV) G _ M15 IM15 c18 fun x20 M19 IM19 GM19 hx20 kx20 => ?_)
        have FM19 := Fr.trans FM15 GM19 (rfl)
        refine PW.jz_eq q_38_90 rfl (fun h21 => ?_) (fun h21 => ?_)
        · skip
          refine PW.aload_n q_38_124 rfl ?_
          refine PW.aload_n q_38_125 rfl ?_
          refine PW.aload_n q_38_126 rfl ?_
          refine PW.cV (as := [_, _]) (rest := []) q_38_127 t_mv_38_92 kd_267 IM19.1 (by decide) rfl (by decide) rfl rfl (Nat.le_of_ble_eq_true rfl) (Nat.le_of_ble_eq_true rfl) (by decide) (by decide) ?_
          refine PW.up (by decide) (c_X4_readPlain (V) (hV) G _ M19 IM19 k2 hk_k2 fun x23 M22 IM22 GM22 hx23 kx23 => ?_)
          have FM22 := Fr.trans FM19 GM22 (rfl)
          refine PW.rZ q_38_130 rfl (by omega) (by omega) (by decide) (by decide) ?_
          exact hK x23 M22 IM22 FM22 (by omega) (by omega)
        · skip
          refine PW.aload_n q_38_93 rfl ?_
          refine PW.cV (as := []) (rest := []) q_38_94 t_mv_38_86 kd_1 IM19.1 (by decide) rfl (by decide) rfl rfl (Nat.le_of_ble_eq_true rfl) (Nat.le_of_ble_eq_true rfl) (by decide) (by decide) ?_
          refine PW.up (by decide) (c_X7_advance (V) (hV) G _ M19 IM19  fun M24 IM24 GM24 => ?_)
          have FM24 := Fr.trans FM19 GM24 (rfl)
          refine PW.aload_n q_38_97 rfl ?_
          refine PW.aload_n q_38_98 rfl ?_
          refine PW.aload_n q_38_99 rfl ?_
          refine PW.iload_n q_38_100 rfl ?_
          refine PW.cI q_38_101 (by decide) fun c25 hc25 => ?_
          refine PW.addN q_38_102 (by omega) (by omega) fun x26 hx26 => ?_
          refine PW.cV (as := [_, _, _]) (rest := []) q_38_103 t_mv_38_43 kd_267 IM24.1 (by decide) rfl (by decide) rfl rfl (Nat.le_of_ble_eq_true rfl) (Nat.le_of_ble_eq_true rfl) (by decide) (by decide) ?_
          refine PW.up (by decide) (c_X4_readAny_4 (V) (hV) G _ M24 IM24 k2 hk_k2 x26 (by omega) (by omega) fun x28 M27 IM27 GM27 hx28 kx28 => ?_)
          have FM27 := Fr.trans FM24 GM27 (rfl)
          refine PW.jz_eq q_38_106 rfl (fun h29 => ?_) (fun h29 => ?_)
          · skip
            refine PW.cI q_38_122 (by decide) fun c30 hc30 => ?_
            refine PW.rZ q_38_123 rfl (by omega) (by omega) (by decide) (by decide) ?_
            exact hK c30 M27 IM27 FM27 (by omega) (by omega)
          · skip
            refine PW.aload_n q_38_109 rfl ?_
            refine PW.cB q_38_110 (by decide) fun c31 hc31 => ?_
            refine PW.cV (as := [_]) (rest := []) q_38_112 t_mv_38_89 kd_1 IM27.1 (by decide) rfl (by decide) rfl rfl (Nat.le_of_ble_eq_true rfl) (Nat.le_of_ble_eq_true rfl) (by decide) (by decide) ?_
            refine PW.up (by decide) (c_X7_needsSign (V) (hV) G _ M27 IM27 c31 fun x33 M32 IM32 GM32 hx33 kx33 => ?_)
            have FM32 := Fr.trans FM27 GM32 (rfl)
            refine PW.jz_eq q_38_115 rfl (fun h34 => ?_) (fun h34 => ?_)
            · skip
              refine PW.cI q_38_122 (by decide) fun c35 hc35 => ?_
              refine PW.rZ q_38_123 rfl (by omega) (by omega) (by decide) (by decide) ?_
              exact hK c35 M32 IM32 FM32 (by omega) (by omega)
            · skip
              refine PW.cI q_38_118 (by decide) fun c36 hc36 => ?_
              refine PW.goto q_38_119 rfl ?_
              refine PW.rZ q_38_123 rfl (by omega) (by omega) (by decide) (by decide) ?_
              exact hK c36 M32 IM32 FM32 (by omega) (by omega)
      · skip
        refine PW.aload_n q_38_54 rfl ?_
        refine PW.aload_n q_38_55 rfl ?_
        refine PW.aload_n q_38_56 rfl ?_
        refine PW.iload_n q_38_57 rfl ?_
        refine PW.cI q_38_58 (by decide) fun c37 hc37 => ?_
        refine PW.addN q_38_59 (by omega) (by omega) fun x38 hx38 => ?_
        refine PW.cV (as := [_, _, _]) (rest := []) q_38_60 t_mv_38_66 kd_267 IM15.1 (by decide) rfl (by decide) rfl rfl (Nat.le_of_ble_eq_true rfl) (Nat.le_of_ble_eq_true rfl) (by decide) (by decide) ?_
        refine PW.up (by decide) (c_X4_readOne_4 (V) (hV) G _ M15 IM15 k2 hk_k2 x38 (by omega) (by omega) fun x40 M39 IM39 GM39 hx40 kx40 => ?_)
        have FM39 := Fr.trans FM15 GM39 (rfl)
        refine PW.jz_eq q_38_63 rfl (fun h41 => ?_) (fun h41 => ?_)
        · skip
          refine PW.cI q_38_82 (by decide) fun c42 hc42 => ?_
          refine PW.rZ q_38_83 rfl (by omega) (by omega) (by decide) (by decide) ?_
          exact hK c42 M39 IM39 FM39 (by omega) (by omega)
        · skip
          refine PW.aload_n q_38_66 rfl ?_
          refine PW.gets q_38_67 t_st_38_80 ?_
          refine PW.cI q_38_70 (by decide) fun c43 hc43 => ?_
          refine PW.cI q_38_71 (by decide) fun c44 hc44 => ?_
          refine PW.cV (as := [_, _, _]) (rest := []) q_38_72 t_mv_38_62 kd_267 IM39.1 (by decide) rfl (by decide) rfl rfl (Nat.le_of_ble_eq_true rfl) (Nat.le_of_ble_eq_true rfl) (by decide) (by decide) ?_
          refine PW.up (by decide) (c_X4_add (V) (hV) G _ M39 IM39 19 (by decide) c43 c44 (by omega) (by omega) fun x46 M45 IM45 GM45 hx46 kx46 => ?_)
          have FM45 := Fr.trans FM39 GM45 (rfl)
          refine PW.jz_eq q_38_75 rfl (fun h47 => False.elim (by omega)) (fun h47 => ?_)
          refine PW.cI q_38_78 (by decide) fun c48 hc48 => ?_
          refine PW.goto q_38_79 rfl ?_
          refine PW.rZ q_38_83 rfl (by omega) (by omega) (by decide) (by decide) ?_
          exact hK c48 M45 IM45 FM45 (by omega) (by omega)
  · skip
    refine PW.aload_n q_38_7 rfl ?_
    refine PW.cI q_38_8 (by decide) fun c49 hc49 => ?_
    refine PW.cV (as := [_]) (rest := []) q_38_9 t_mv_38_76 kd_1 IM1.1 (by decide) rfl (by decide) rfl rfl (Nat.le_of_ble_eq_true rfl) (Nat.le_of_ble_eq_true rfl) (by decide) (by decide) ?_
    refine PW.up (by decide) (c_X7_fail (V) (hV) G _ M1 IM1 c49 fun x51 M50 IM50 GM50 hx51 kx51 => ?_)
    have FM50 := Fr.trans FM1 GM50 (rfl)
    refine PW.rZ q_38_12 rfl (by omega) (by omega) (by decide) (by decide) ?_
    exact hK x51 M50 IM50 FM50 (by omega) (by omega)
theorem c_X4_readAll_3 (V : pM → Prop) (hV : Stab V) (G : pG) (Kr : pK) (M : pM) (I : Iv V M) (k2 : Nat) (hk_k2 : g_kd k2 = 4) (a3 : Int32) (hl_a3 : 3 ≤ a3.toInt) (hh_a3 : a3.toInt ≤ 3) (hK : ∀ (x : Int32) (M1 : pM), Iv V M1 → Fr [1, 14, 15, 16, 17] M M1 → 0 ≤ x.toInt → x.toInt ≤ 1 → Kr.1 (some (.int x)) 311 M1) : PW G false 22 37 (p_mc 37) (p_msl 37) Kr 0 (lv_args 0 [.ref 267, .ref 1, .ref k2, .int a3]) [] 311 M 0 0 := by
  have F : Fr [1, 14, 15, 16, 17] M M := Fr.refl
  refine PW.aload_n q_37_0 rfl ?_
  refine PW.aload_n q_37_1 rfl ?_
  refine PW.aload_n q_37_2 rfl ?_
  refine PW.iload_n q_37_3 rfl ?_
  refine PW.cV (as := [_, _, _]) (rest := []) q_37_4 t_mv_37_66 kd_267 I.1 (by decide) rfl (by decide) rfl rfl (Nat.le_of_ble_eq_true rfl) (Nat.le_of_ble_eq_true rfl) (by decide) (by decide) ?_
  refine PW.up (by decide) (c_X4_readOne_3 (V) (hV) G _ M I k2 hk_k2 a3 (by omega) (by omega) fun x2 M1 IM1 GM1 hx2 kx2 => ?_)
  have FM1 := Fr.trans F GM1 (rfl)
  refine PW.istore q_37_7 (by decide) ?_
  refine PW.cI q_37_9 (by decide) fun c3 hc3 => ?_
  refine PW.istore q_37_10 (by decide) ?_
  have L37_12_4 : ∀ (n : Nat) (ML37_12_4 : pM) (v5 v6 : Int32), Iv (V) ML37_12_4 → Fr [1, 14, 15, 16, 17] M ML37_12_4 → 0 ≤ v5.toInt → v5.toInt ≤ 1 → 0 ≤ v6.toInt → v6.toInt ≤ 20 → (20 - v6.toInt).toNat = n → PW G false 22 37 (p_mc 37) (p_msl 37) Kr 12 [(0, .ref 267), (1, .ref 1), (2, .ref k2), (3, .int a3), (4, .int v5), (5, .int v6)] [] 311 ML37_12_4 0 0 := by
    intro n
    induction n using Nat.strongRecOn with
    | ind n ih_L37_12_4 =>
    intro ML37_12_4 v5 v6 IML37_12_4 FML37_12_4 hbL37_12_40 hbL37_12_41 hbL37_12_42 hbL37_12_43 hmL37_12_4
    refine PW.iload q_37_12 rfl ?_
    refine PW.cB q_37_14 (by decide) fun c7 hc7 => ?_
    refine PW.jc_ge q_37_16 rfl (fun h8 => ?_) (fun h8 => ?_)
    · skip
      refine PW.iload q_37_69 rfl ?_
      refine PW.rZ q_37_71 rfl (by omega) (by omega) (by decide) (by decide) ?_
      exact hK v5 ML37_12_4 IML37_12_4 FML37_12_4 (by omega) (by omega)
    · skip
      refine PW.iload q_37_19 rfl ?_
      refine PW.jz_eq q_37_21 rfl (fun h9 => ?_) (fun h9 => ?_)
      · skip
        refine PW.iload q_37_69 rfl ?_
        refine PW.rZ q_37_71 rfl (by omega) (by omega) (by decide) (by decide) ?_
        exact hK v5 ML37_12_4 IML37_12_4 FML37_12_4 (by omega) (by omega)
      · skip
        refine PW.aload_n q_37_24 rfl ?_
        refine PW.gets q_37_25 t_st_37_69 ?_
        refine PW.cV (as := [_]) (rest := []) q_37_28 t_mv_37_58 kd_1 IML37_12_4.1 (by decide) rfl (by decide) rfl rfl (Nat.le_of_ble_eq_true rfl) (Nat.le_of_ble_eq_true rfl) (by decide) (by decide) ?_
        refine PW.up (by decide) (c_X7_takes (V) (hV) G _ ML37_12_4 IML37_12_4 18 (by decide) fun x11 M10 IM10 GM10 hx11 kx11 => ?_)
        have FM10 := Fr.trans FML37_12_4 GM10 (rfl)
        refine PW.jz_eq q_37_31 rfl (fun h12 => ?_) (fun h12 => ?_)
        · skip
          refine PW.iload q_37_69 rfl ?_
          refine PW.rZ q_37_71 rfl (by omega) (by omega) (by decide) (by decide) ?_
          exact hK v5 M10 IM10 FM10 (by omega) (by omega)
        · skip
          refine PW.aload_n q_37_34 rfl ?_
          refine PW.aload_n q_37_35 rfl ?_
          refine PW.aload_n q_37_36 rfl ?_
          refine PW.iload_n q_37_37 rfl ?_
          refine PW.cV (as := [_, _, _]) (rest := []) q_37_38 t_mv_37_66 kd_267 IM10.1 (by decide) rfl (by decide) rfl rfl (Nat.le_of_ble_eq_true rfl) (Nat.le_of_ble_eq_true rfl) (by decide) (by decide) ?_
          refine PW.up (by decide) (c_X4_readOne_3 (V) (hV) G _ M10 IM10 k2 hk_k2 a3 (by omega) (by omega) fun x14 M13 IM13 GM13 hx14 kx14 => ?_)
          have FM13 := Fr.trans FM10 GM13 (rfl)
          have J61_16 : ∀ (MJ61_16 : pM) (s17 : Int32), Iv (V) MJ61_16 → Fr [1, 14, 15, 16, 17] M MJ61_16 → 0 ≤ s17.toInt → s17.toInt ≤ 1 → PW G false 22 37 (p_mc 37) (p_msl 37) Kr 61 [(0, .ref 267), (1, .ref 1), (2, .ref k2), (3, .int a3), (4, .int v5), (5, .int v6)] [.int s17] 311 MJ61_16 0 0 := by
            intro MJ61_16 s17 IMJ61_16 FMJ61_16 hbJ61_160 hbJ61_161
            refine PW.istore q_37_61 (by decide) ?_
            refine PW.incN q_37_63 rfl (by decide) (by decide) (by omega) (by omega) fun x18 hx18 => ?_
            refine PW.goto q_37_66 rfl ?_
            refine PW.lvS (lk1 rfl (lk1 rfl (lk1 rfl (lk1 rfl (lk1 rfl (lk1 rfl lk0)))))) (ih_L37_12_4 _ ?_ MJ61_16 s17 x18 IMJ61_16 FMJ61_16 (by omega) (by omega) (by omega) (by omega) rfl)
            omega
          refine PW.jz_eq q_37_41 rfl (fun h15 => ?_) (fun h15 => ?_)
          · skip
            refine PW.cI q_37_60 (by decide) fun c19 hc19 => ?_
            exact PW.lvS (lk1 rfl (lk1 rfl (lk1 rfl (lk1 rfl (lk1 rfl (lk1 rfl lk0)))))) (J61_16 M13 c19 IM13 FM13 (by omega) (by omega))
          · skip
            refine PW.aload_n q_37_44 rfl ?_
            refine PW.gets q_37_45 t_st_37_69 ?_
            refine PW.cI q_37_48 (by decide) fun c20 hc20 => ?_
            refine PW.cI q_37_49 (by decide) fun c21 hc21 => ?_
            refine PW.cV (as := [_, _, _]) (rest := []) q_37_50 t_mv_37_62 kd_267 IM13.1 (by decide) rfl (by decide) rfl rfl (Nat.le_of_ble_eq_true rfl) (Nat.le_of_ble_eq_true rfl) (by decide) (by decide) ?_
            refine PW.up (by decide) (c_X4_add (V) (hV) G _ M13 IM13 18 (by decide) c20 c21 (by omega) (by omega) fun x23 M22 IM22 GM22 hx23 kx23 => ?_)
            have FM22 := Fr.trans FM13 GM22 (rfl)
            refine PW.jz_eq q_37_53 rfl (fun h24 => False.elim (by omega)) (fun h24 => ?_)
            refine PW.cI q_37_56 (by decide) fun c25 hc25 => ?_
            refine PW.goto q_37_57 rfl ?_
            exact PW.lvS (lk1 rfl (lk1 rfl (lk1 rfl (lk1 rfl (lk1 rfl (lk1 rfl lk0)))))) (J61_16 M22 c25 IM22 FM22 (by omega) (by omega))
  exact PW.lvS (lk1 rfl (lk1 rfl (lk1 rfl (lk1 rfl (lk1 rfl (lk1 rfl lk0)))))) (L37_12_4 _ M1 x2 c3 IM1 FM1 (by omega) (by omega) (by omega) (by omega) rfl)
theorem c_X4_readAny_3 (V : pM → Prop) (hV : Stab V) (G : pG) (Kr : pK) (M : pM) (I : Iv V M) (k2 : Nat) (hk_k2 : g_kd k2 = 4) (a3 : Int32) (hl_a3 : 3 ≤ a3.toInt) (hh_a3 : a3.toInt ≤ 3) (hK : ∀ (x : Int32) (M1 : pM), Iv V M1 → Fr [1, 14, 15, 16, 17] M M1 → 0 ≤ x.toInt → x.toInt ≤ 1 → Kr.1 (some (.int x)) 311 M1) : PW G false 23 36 (p_mc 36) (p_msl 36) Kr 0 (lv_args 0 [.ref 267, .ref 1, .ref k2, .int a3]) [] 311 M 0 0 := by
  have F : Fr [1, 14, 15, 16, 17] M M := Fr.refl
  refine PW.aload_n q_36_0 rfl ?_
  refine PW.aload_n q_36_1 rfl ?_
  refine PW.aload_n q_36_2 rfl ?_
  refine PW.iload_n q_36_3 rfl ?_
  refine PW.cV (as := [_, _, _]) (rest := []) q_36_4 t_mv_36_51 kd_267 I.1 (by decide) rfl (by decide) rfl rfl (Nat.le_of_ble_eq_true rfl) (Nat.le_of_ble_eq_true rfl) (by decide) (by decide) ?_
  refine PW.up (by decide) (c_X4_readAll_3 (V) (hV) G _ M I k2 hk_k2 a3 (by omega) (by omega) fun x2 M1 IM1 GM1 hx2 kx2 => ?_)
  have FM1 := Fr.trans F GM1 (rfl)
  refine PW.istore q_36_7 (by decide) ?_
  refine PW.cI q_36_9 (by decide) fun c3 hc3 => ?_
  refine PW.istore q_36_10 (by decide) ?_
  have L36_12_4 : ∀ (n : Nat) (ML36_12_4 : pM) (v5 v6 : Int32), Iv (V) ML36_12_4 → Fr [1, 14, 15, 16, 17] M ML36_12_4 → 0 ≤ v5.toInt → v5.toInt ≤ 1 → 0 ≤ v6.toInt → v6.toInt ≤ 20 → (20 - v6.toInt).toNat = n → PW G false 23 36 (p_mc 36) (p_msl 36) Kr 12 [(0, .ref 267), (1, .ref 1), (2, .ref k2), (3, .int a3), (4, .int v5), (5, .int v6)] [] 311 ML36_12_4 0 0 := by
    intro n
    induction n using Nat.strongRecOn with
    | ind n ih_L36_12_4 =>
    intro ML36_12_4 v5 v6 IML36_12_4 FML36_12_4 hbL36_12_40 hbL36_12_41 hbL36_12_42 hbL36_12_43 hmL36_12_4
    refine PW.iload q_36_12 rfl ?_
    refine PW.cB q_36_14 (by decide) fun c7 hc7 => ?_
    refine PW.jc_ge q_36_16 rfl (fun h8 => ?_) (fun h8 => ?_)
    · skip
      refine PW.iload q_36_69 rfl ?_
      refine PW.rZ q_36_71 rfl (by omega) (by omega) (by decide) (by decide) ?_
      exact hK v5 ML36_12_4 IML36_12_4 FML36_12_4 (by omega) (by omega)
    · skip
      refine PW.iload q_36_19 rfl ?_
      refine PW.jz_eq q_36_21 rfl (fun h9 => ?_) (fun h9 => ?_)
      · skip
        refine PW.iload q_36_69 rfl ?_
        refine PW.rZ q_36_71 rfl (by omega) (by omega) (by decide) (by decide) ?_
        exact hK v5 ML36_12_4 IML36_12_4 FML36_12_4 (by omega) (by omega)
      · skip
        refine PW.aload_n q_36_24 rfl ?_
        refine PW.gets q_36_25 t_st_36_54 ?_
        refine PW.cV (as := [_]) (rest := []) q_36_28 t_mv_36_58 kd_1 IML36_12_4.1 (by decide) rfl (by decide) rfl rfl (Nat.le_of_ble_eq_true rfl) (Nat.le_of_ble_eq_true rfl) (by decide) (by decide) ?_
        refine PW.up (by decide) (c_X7_takes (V) (hV) G _ ML36_12_4 IML36_12_4 17 (by decide) fun x11 M10 IM10 GM10 hx11 kx11 => ?_)
        have FM10 := Fr.trans FML36_12_4 GM10 (rfl)
        refine PW.jz_eq q_36_31 rfl (fun h12 => ?_) (fun h12 => ?_)
        · skip
          refine PW.iload q_36_69 rfl ?_
          refine PW.rZ q_36_71 rfl (by omega) (by omega) (by decide) (by decide) ?_
          exact hK v5 M10 IM10 FM10 (by omega) (by omega)
        · skip
          refine PW.aload_n q_36_34 rfl ?_
          refine PW.aload_n q_36_35 rfl ?_
          refine PW.aload_n q_36_36 rfl ?_
          refine PW.iload_n q_36_37 rfl ?_
          refine PW.cV (as := [_, _, _]) (rest := []) q_36_38 t_mv_36_51 kd_267 IM10.1 (by decide) rfl (by decide) rfl rfl (Nat.le_of_ble_eq_true rfl) (Nat.le_of_ble_eq_true rfl) (by decide) (by decide) ?_
          refine PW.up (by decide) (c_X4_readAll_3 (V) (hV) G _ M10 IM10 k2 hk_k2 a3 (by omega) (by omega) fun x14 M13 IM13 GM13 hx14 kx14 => ?_)
          have FM13 := Fr.trans FM10 GM13 (rfl)
          have J61_16 : ∀ (MJ61_16 : pM) (s17 : Int32), Iv (V) MJ61_16 → Fr [1, 14, 15, 16, 17] M MJ61_16 → 0 ≤ s17.toInt → s17.toInt ≤ 1 → PW G false 23 36 (p_mc 36) (p_msl 36) Kr 61 [(0, .ref 267), (1, .ref 1), (2, .ref k2), (3, .int a3), (4, .int v5), (5, .int v6)] [.int s17] 311 MJ61_16 0 0 := by
            intro MJ61_16 s17 IMJ61_16 FMJ61_16 hbJ61_160 hbJ61_161
            refine PW.istore q_36_61 (by decide) ?_
            refine PW.incN q_36_63 rfl (by decide) (by decide) (by omega) (by omega) fun x18 hx18 => ?_
            refine PW.goto q_36_66 rfl ?_
            refine PW.lvS (lk1 rfl (lk1 rfl (lk1 rfl (lk1 rfl (lk1 rfl (lk1 rfl lk0)))))) (ih_L36_12_4 _ ?_ MJ61_16 s17 x18 IMJ61_16 FMJ61_16 (by omega) (by omega) (by omega) (by omega) rfl)
            omega
          refine PW.jz_eq q_36_41 rfl (fun h15 => ?_) (fun h15 => ?_)
          · skip
            refine PW.cI q_36_60 (by decide) fun c19 hc19 => ?_
            exact PW.lvS (lk1 rfl (lk1 rfl (lk1 rfl (lk1 rfl (lk1 rfl (lk1 rfl lk0)))))) (J61_16 M13 c19 IM13 FM13 (by omega) (by omega))
          · skip
            refine PW.aload_n q_36_44 rfl ?_
            refine PW.gets q_36_45 t_st_36_54 ?_
            refine PW.cI q_36_48 (by decide) fun c20 hc20 => ?_
            refine PW.cI q_36_49 (by decide) fun c21 hc21 => ?_
            refine PW.cV (as := [_, _, _]) (rest := []) q_36_50 t_mv_36_62 kd_267 IM13.1 (by decide) rfl (by decide) rfl rfl (Nat.le_of_ble_eq_true rfl) (Nat.le_of_ble_eq_true rfl) (by decide) (by decide) ?_
            refine PW.up (by decide) (c_X4_add (V) (hV) G _ M13 IM13 17 (by decide) c20 c21 (by omega) (by omega) fun x23 M22 IM22 GM22 hx23 kx23 => ?_)
            have FM22 := Fr.trans FM13 GM22 (rfl)
            refine PW.jz_eq q_36_53 rfl (fun h24 => False.elim (by omega)) (fun h24 => ?_)
            refine PW.cI q_36_56 (by decide) fun c25 hc25 => ?_
            refine PW.goto q_36_57 rfl ?_
            exact PW.lvS (lk1 rfl (lk1 rfl (lk1 rfl (lk1 rfl (lk1 rfl (lk1 rfl lk0)))))) (J61_16 M22 c25 IM22 FM22 (by omega) (by omega))
  exact PW.lvS (lk1 rfl (lk1 rfl (lk1 rfl (lk1 rfl (lk1 rfl (lk1 rfl lk0)))))) (L36_12_4 _ M1 x2 c3 IM1 FM1 (by omega) (by omega) (by omega) (by omega) rfl)
theorem c_X4_readOne_2 (V : pM → Prop) (hV : Stab V) (G : pG) (Kr : pK) (M : pM) (I : Iv V M) (k2 : Nat) (hk_k2 : g_kd k2 = 4) (a3 : Int32) (hl_a3 : 2 ≤ a3.toInt) (hh_a3 : a3.toInt ≤ 2) (hK : ∀ (x : Int32) (M1 : pM), Iv V M1 → Fr [1, 14, 15, 16, 17] M M1 → 0 ≤ x.toInt → x.toInt ≤ 1 → Kr.1 (some (.int x)) 311 M1) : PW G false 24 38 (p_mc 38) (p_msl 38) Kr 0 (lv_args 0 [.ref 267, .ref 1, .ref k2, .int a3]) [] 311 M 0 0 := by
  have F : Fr [1, 14, 15, 16, 17] M M := Fr.refl
  refine PW.aload_n q_38_0 rfl ?_
  refine PW.callS (as := [_]) (rest := []) q_38_1 t_ms_38_72 (by decide) rfl (Nat.le_of_ble_eq_true rfl) (Nat.le_of_ble_eq_true rfl) (by decide) (by decide) ?_
  refine PW.up (by decide) (c_X4_beginsOne (V) (hV) G _ M I  fun x2 M1 IM1 GM1 hx2 kx2 => ?_)
  have FM1 := Fr.trans F GM1 (rfl)
  refine PW.jz_ne q_38_4 rfl (fun h3 => ?_) (fun h3 => ?_)
  · skip
    refine PW.aload_n q_38_13 rfl ?_
    refine PW.gI q_38_14 (Or.inl t_ft_38_27) gF_14_0 kd_267 IM1.1 (by decide) fun x4 fx4 hx4 kx4 => ?_
    clear hx4 kx4
    refine PW.cB q_38_17 (by decide) fun c5 hc5 => ?_
    refine PW.jc_ge q_38_19 rfl (fun h6 => ?_) (fun h6 => ?_)
    · skip
      refine PW.aload_n q_38_28 rfl ?_
      refine PW.cI q_38_29 (by decide) fun c7 hc7 => ?_
      refine PW.cV (as := [_]) (rest := []) q_38_30 t_mv_38_76 kd_1 IM1.1 (by decide) rfl (by decide) rfl rfl (Nat.le_of_ble_eq_true rfl) (Nat.le_of_ble_eq_true rfl) (by decide) (by decide) ?_
      refine PW.up (by decide) (c_X7_fail (V) (hV) G _ M1 IM1 c7 fun x9 M8 IM8 GM8 hx9 kx9 => ?_)
      have FM8 := Fr.trans FM1 GM8 (rfl)
      refine PW.rZ q_38_33 rfl (by omega) (by omega) (by decide) (by decide) ?_
      exact hK x9 M8 IM8 FM8 (by omega) (by omega)
    · skip
      refine PW.iload_n q_38_22 rfl ?_
      refine PW.cB q_38_23 (by decide) fun c10 hc10 => ?_
      refine PW.jc_le q_38_25 rfl (fun h11 => ?_) (fun h11 => False.elim (by omega))
      refine PW.aload_n q_38_34 rfl ?_
      refine PW.dup q_38_35 rfl ?_
      refine PW.gE q_38_36 (Or.inl t_ft_38_27) gF_14_0 kd_267 IM1.1 (by decide) fx4 ?_
      refine PW.cI q_38_39 (by decide) fun c12 hc12 => ?_
      refine PW.addN q_38_40 (by have := n_lo x4; have := n_hi x4; omega) (by have := n_lo x4; have := n_hi x4; omega) fun x13 hx13 => ?_
      refine PW.pI q_38_41 (Or.inl t_ft_38_27) gF_14_0 gP_14_0 kd_267 hV IM1 (by decide) rfl (n_lo _) (n_hi _) fun M14 IM14 fM14 UM14 => ?_
      have FM14 := Fr.pu FM1 UM14.1 kd_267 (rfl : List.contains [1, 14, 15, 16, 17] 14 = true)
      refine PW.aload_n q_38_44 rfl ?_
      refine PW.gets q_38_45 t_st_38_80 ?_
      refine PW.cV (as := [_]) (rest := []) q_38_48 t_mv_38_58 kd_1 IM14.1 (by decide) rfl (by decide) rfl rfl (Nat.le_of_ble_eq_true rfl) (Nat.le_of_ble_eq_true rfl) (by decide) (by decide) ?_
      refine PW.up (by decide) (c_X7_takes (V) (hV) G _ M14 IM14 19 (by decide) fun x16 M15 IM15 GM15 hx16 kx16 => ?_)
      have FM15 := Fr.trans FM14 GM15 (rfl)
      refine PW.jz_eq q_38_51 rfl (fun h17 => ?_) (fun h17 => ?_)
      · skip
        refine PW.aload_n q_38_84 rfl ?_
        refine PW.cB q_38_85 (by decide) fun c18 hc18 => ?_
        refine PW.cV (as := [_]) (rest := []) q_38_87 t_mv_38_83 kd_1 IM15.1 (by decide) rfl (by decide) rfl rfl (Nat.le_of_ble_eq_true rfl) (Nat.le_of_ble_eq_true rfl) (by decide) (by decide) ?_
        refine PW.up (by decide) (c_X7_seesSign (V) (hV) G _ M15 IM15 c18 fun x20 M19 IM19 GM19 hx20 kx20 => ?_)
        have FM19 := Fr.trans FM15 GM19 (rfl)
        refine PW.jz_eq q_38_90 rfl (fun h21 => ?_) (fun h21 => ?_)
        · skip
          refine PW.aload_n q_38_124 rfl ?_
          refine PW.aload_n q_38_125 rfl ?_
          refine PW.aload_n q_38_126 rfl ?_
          refine PW.cV (as := [_, _]) (rest := []) q_38_127 t_mv_38_92 kd_267 IM19.1 (by decide) rfl (by decide) rfl rfl (Nat.le_of_ble_eq_true rfl) (Nat.le_of_ble_eq_true rfl) (by decide) (by decide) ?_
          refine PW.up (by decide) (c_X4_readPlain (V) (hV) G _ M19 IM19 k2 hk_k2 fun x23 M22 IM22 GM22 hx23 kx23 => ?_)
          have FM22 := Fr.trans FM19 GM22 (rfl)
          refine PW.rZ q_38_130 rfl (by omega) (by omega) (by decide) (by decide) ?_
          exact hK x23 M22 IM22 FM22 (by omega) (by omega)
        · skip
          refine PW.aload_n q_38_93 rfl ?_
          refine PW.cV (as := []) (rest := []) q_38_94 t_mv_38_86 kd_1 IM19.1 (by decide) rfl (by decide) rfl rfl (Nat.le_of_ble_eq_true rfl) (Nat.le_of_ble_eq_true rfl) (by decide) (by decide) ?_
          refine PW.up (by decide) (c_X7_advance (V) (hV) G _ M19 IM19  fun M24 IM24 GM24 => ?_)
          have FM24 := Fr.trans FM19 GM24 (rfl)
          refine PW.aload_n q_38_97 rfl ?_
          refine PW.aload_n q_38_98 rfl ?_
          refine PW.aload_n q_38_99 rfl ?_
          refine PW.iload_n q_38_100 rfl ?_
          refine PW.cI q_38_101 (by decide) fun c25 hc25 => ?_
          refine PW.addN q_38_102 (by omega) (by omega) fun x26 hx26 => ?_
          refine PW.cV (as := [_, _, _]) (rest := []) q_38_103 t_mv_38_43 kd_267 IM24.1 (by decide) rfl (by decide) rfl rfl (Nat.le_of_ble_eq_true rfl) (Nat.le_of_ble_eq_true rfl) (by decide) (by decide) ?_
          refine PW.up (by decide) (c_X4_readAny_3 (V) (hV) G _ M24 IM24 k2 hk_k2 x26 (by omega) (by omega) fun x28 M27 IM27 GM27 hx28 kx28 => ?_)
          have FM27 := Fr.trans FM24 GM27 (rfl)
          refine PW.jz_eq q_38_106 rfl (fun h29 => ?_) (fun h29 => ?_)
          · skip
            refine PW.cI q_38_122 (by decide) fun c30 hc30 => ?_
            refine PW.rZ q_38_123 rfl (by omega) (by omega) (by decide) (by decide) ?_
            exact hK c30 M27 IM27 FM27 (by omega) (by omega)
          · skip
            refine PW.aload_n q_38_109 rfl ?_
            refine PW.cB q_38_110 (by decide) fun c31 hc31 => ?_
            refine PW.cV (as := [_]) (rest := []) q_38_112 t_mv_38_89 kd_1 IM27.1 (by decide) rfl (by decide) rfl rfl (Nat.le_of_ble_eq_true rfl) (Nat.le_of_ble_eq_true rfl) (by decide) (by decide) ?_
            refine PW.up (by decide) (c_X7_needsSign (V) (hV) G _ M27 IM27 c31 fun x33 M32 IM32 GM32 hx33 kx33 => ?_)
            have FM32 := Fr.trans FM27 GM32 (rfl)
            refine PW.jz_eq q_38_115 rfl (fun h34 => ?_) (fun h34 => ?_)
            · skip
              refine PW.cI q_38_122 (by decide) fun c35 hc35 => ?_
              refine PW.rZ q_38_123 rfl (by omega) (by omega) (by decide) (by decide) ?_
              exact hK c35 M32 IM32 FM32 (by omega) (by omega)
            · skip
              refine PW.cI q_38_118 (by decide) fun c36 hc36 => ?_
              refine PW.goto q_38_119 rfl ?_
              refine PW.rZ q_38_123 rfl (by omega) (by omega) (by decide) (by decide) ?_
              exact hK c36 M32 IM32 FM32 (by omega) (by omega)
      · skip
        refine PW.aload_n q_38_54 rfl ?_
        refine PW.aload_n q_38_55 rfl ?_
        refine PW.aload_n q_38_56 rfl ?_
        refine PW.iload_n q_38_57 rfl ?_
        refine PW.cI q_38_58 (by decide) fun c37 hc37 => ?_
        refine PW.addN q_38_59 (by omega) (by omega) fun x38 hx38 => ?_
        refine PW.cV (as := [_, _, _]) (rest := []) q_38_60 t_mv_38_66 kd_267 IM15.1 (by decide) rfl (by decide) rfl rfl (Nat.le_of_ble_eq_true rfl) (Nat.le_of_ble_eq_true rfl) (by decide) (by decide) ?_
        refine PW.up (by decide) (c_X4_readOne_3 (V) (hV) G _ M15 IM15 k2 hk_k2 x38 (by omega) (by omega) fun x40 M39 IM39 GM39 hx40 kx40 => ?_)
        have FM39 := Fr.trans FM15 GM39 (rfl)
        refine PW.jz_eq q_38_63 rfl (fun h41 => ?_) (fun h41 => ?_)
        · skip
          refine PW.cI q_38_82 (by decide) fun c42 hc42 => ?_
          refine PW.rZ q_38_83 rfl (by omega) (by omega) (by decide) (by decide) ?_
          exact hK c42 M39 IM39 FM39 (by omega) (by omega)
        · skip
          refine PW.aload_n q_38_66 rfl ?_
          refine PW.gets q_38_67 t_st_38_80 ?_
          refine PW.cI q_38_70 (by decide) fun c43 hc43 => ?_
          refine PW.cI q_38_71 (by decide) fun c44 hc44 => ?_
          refine PW.cV (as := [_, _, _]) (rest := []) q_38_72 t_mv_38_62 kd_267 IM39.1 (by decide) rfl (by decide) rfl rfl (Nat.le_of_ble_eq_true rfl) (Nat.le_of_ble_eq_true rfl) (by decide) (by decide) ?_
          refine PW.up (by decide) (c_X4_add (V) (hV) G _ M39 IM39 19 (by decide) c43 c44 (by omega) (by omega) fun x46 M45 IM45 GM45 hx46 kx46 => ?_)
          have FM45 := Fr.trans FM39 GM45 (rfl)
          refine PW.jz_eq q_38_75 rfl (fun h47 => False.elim (by omega)) (fun h47 => ?_)
          refine PW.cI q_38_78 (by decide) fun c48 hc48 => ?_
          refine PW.goto q_38_79 rfl ?_
          refine PW.rZ q_38_83 rfl (by omega) (by omega) (by decide) (by decide) ?_
          exact hK c48 M45 IM45 FM45 (by omega) (by omega)
  · skip
    refine PW.aload_n q_38_7 rfl ?_
    refine PW.cI q_38_8 (by decide) fun c49 hc49 => ?_
    refine PW.cV (as := [_]) (rest := []) q_38_9 t_mv_38_76 kd_1 IM1.1 (by decide) rfl (by decide) rfl rfl (Nat.le_of_ble_eq_true rfl) (Nat.le_of_ble_eq_true rfl) (by decide) (by decide) ?_
    refine PW.up (by decide) (c_X7_fail (V) (hV) G _ M1 IM1 c49 fun x51 M50 IM50 GM50 hx51 kx51 => ?_)
    have FM50 := Fr.trans FM1 GM50 (rfl)
    refine PW.rZ q_38_12 rfl (by omega) (by omega) (by decide) (by decide) ?_
    exact hK x51 M50 IM50 FM50 (by omega) (by omega)
theorem c_X4_readAll_2 (V : pM → Prop) (hV : Stab V) (G : pG) (Kr : pK) (M : pM) (I : Iv V M) (k2 : Nat) (hk_k2 : g_kd k2 = 4) (a3 : Int32) (hl_a3 : 2 ≤ a3.toInt) (hh_a3 : a3.toInt ≤ 2) (hK : ∀ (x : Int32) (M1 : pM), Iv V M1 → Fr [1, 14, 15, 16, 17] M M1 → 0 ≤ x.toInt → x.toInt ≤ 1 → Kr.1 (some (.int x)) 311 M1) : PW G false 25 37 (p_mc 37) (p_msl 37) Kr 0 (lv_args 0 [.ref 267, .ref 1, .ref k2, .int a3]) [] 311 M 0 0 := by
  have F : Fr [1, 14, 15, 16, 17] M M := Fr.refl
  refine PW.aload_n q_37_0 rfl ?_
  refine PW.aload_n q_37_1 rfl ?_
  refine PW.aload_n q_37_2 rfl ?_
  refine PW.iload_n q_37_3 rfl ?_
  refine PW.cV (as := [_, _, _]) (rest := []) q_37_4 t_mv_37_66 kd_267 I.1 (by decide) rfl (by decide) rfl rfl (Nat.le_of_ble_eq_true rfl) (Nat.le_of_ble_eq_true rfl) (by decide) (by decide) ?_
  refine PW.up (by decide) (c_X4_readOne_2 (V) (hV) G _ M I k2 hk_k2 a3 (by omega) (by omega) fun x2 M1 IM1 GM1 hx2 kx2 => ?_)
  have FM1 := Fr.trans F GM1 (rfl)
  refine PW.istore q_37_7 (by decide) ?_
  refine PW.cI q_37_9 (by decide) fun c3 hc3 => ?_
  refine PW.istore q_37_10 (by decide) ?_
  have L37_12_4 : ∀ (n : Nat) (ML37_12_4 : pM) (v5 v6 : Int32), Iv (V) ML37_12_4 → Fr [1, 14, 15, 16, 17] M ML37_12_4 → 0 ≤ v5.toInt → v5.toInt ≤ 1 → 0 ≤ v6.toInt → v6.toInt ≤ 20 → (20 - v6.toInt).toNat = n → PW G false 25 37 (p_mc 37) (p_msl 37) Kr 12 [(0, .ref 267), (1, .ref 1), (2, .ref k2), (3, .int a3), (4, .int v5), (5, .int v6)] [] 311 ML37_12_4 0 0 := by
    intro n
    induction n using Nat.strongRecOn with
    | ind n ih_L37_12_4 =>
    intro ML37_12_4 v5 v6 IML37_12_4 FML37_12_4 hbL37_12_40 hbL37_12_41 hbL37_12_42 hbL37_12_43 hmL37_12_4
    refine PW.iload q_37_12 rfl ?_
    refine PW.cB q_37_14 (by decide) fun c7 hc7 => ?_
    refine PW.jc_ge q_37_16 rfl (fun h8 => ?_) (fun h8 => ?_)
    · skip
      refine PW.iload q_37_69 rfl ?_
      refine PW.rZ q_37_71 rfl (by omega) (by omega) (by decide) (by decide) ?_
      exact hK v5 ML37_12_4 IML37_12_4 FML37_12_4 (by omega) (by omega)
    · skip
      refine PW.iload q_37_19 rfl ?_
      refine PW.jz_eq q_37_21 rfl (fun h9 => ?_) (fun h9 => ?_)
      · skip
        refine PW.iload q_37_69 rfl ?_
        refine PW.rZ q_37_71 rfl (by omega) (by omega) (by decide) (by decide) ?_
        exact hK v5 ML37_12_4 IML37_12_4 FML37_12_4 (by omega) (by omega)
      · skip
        refine PW.aload_n q_37_24 rfl ?_
        refine PW.gets q_37_25 t_st_37_69 ?_
        refine PW.cV (as := [_]) (rest := []) q_37_28 t_mv_37_58 kd_1 IML37_12_4.1 (by decide) rfl (by decide) rfl rfl (Nat.le_of_ble_eq_true rfl) (Nat.le_of_ble_eq_true rfl) (by decide) (by decide) ?_
        refine PW.up (by decide) (c_X7_takes (V) (hV) G _ ML37_12_4 IML37_12_4 18 (by decide) fun x11 M10 IM10 GM10 hx11 kx11 => ?_)
        have FM10 := Fr.trans FML37_12_4 GM10 (rfl)
        refine PW.jz_eq q_37_31 rfl (fun h12 => ?_) (fun h12 => ?_)
        · skip
          refine PW.iload q_37_69 rfl ?_
          refine PW.rZ q_37_71 rfl (by omega) (by omega) (by decide) (by decide) ?_
          exact hK v5 M10 IM10 FM10 (by omega) (by omega)
        · skip
          refine PW.aload_n q_37_34 rfl ?_
          refine PW.aload_n q_37_35 rfl ?_
          refine PW.aload_n q_37_36 rfl ?_
          refine PW.iload_n q_37_37 rfl ?_
          refine PW.cV (as := [_, _, _]) (rest := []) q_37_38 t_mv_37_66 kd_267 IM10.1 (by decide) rfl (by decide) rfl rfl (Nat.le_of_ble_eq_true rfl) (Nat.le_of_ble_eq_true rfl) (by decide) (by decide) ?_
          refine PW.up (by decide) (c_X4_readOne_2 (V) (hV) G _ M10 IM10 k2 hk_k2 a3 (by omega) (by omega) fun x14 M13 IM13 GM13 hx14 kx14 => ?_)
          have FM13 := Fr.trans FM10 GM13 (rfl)
          have J61_16 : ∀ (MJ61_16 : pM) (s17 : Int32), Iv (V) MJ61_16 → Fr [1, 14, 15, 16, 17] M MJ61_16 → 0 ≤ s17.toInt → s17.toInt ≤ 1 → PW G false 25 37 (p_mc 37) (p_msl 37) Kr 61 [(0, .ref 267), (1, .ref 1), (2, .ref k2), (3, .int a3), (4, .int v5), (5, .int v6)] [.int s17] 311 MJ61_16 0 0 := by
            intro MJ61_16 s17 IMJ61_16 FMJ61_16 hbJ61_160 hbJ61_161
            refine PW.istore q_37_61 (by decide) ?_
            refine PW.incN q_37_63 rfl (by decide) (by decide) (by omega) (by omega) fun x18 hx18 => ?_
            refine PW.goto q_37_66 rfl ?_
            refine PW.lvS (lk1 rfl (lk1 rfl (lk1 rfl (lk1 rfl (lk1 rfl (lk1 rfl lk0)))))) (ih_L37_12_4 _ ?_ MJ61_16 s17 x18 IMJ61_16 FMJ61_16 (by omega) (by omega) (by omega) (by omega) rfl)
            omega
          refine PW.jz_eq q_37_41 rfl (fun h15 => ?_) (fun h15 => ?_)
          · skip
            refine PW.cI q_37_60 (by decide) fun c19 hc19 => ?_
            exact PW.lvS (lk1 rfl (lk1 rfl (lk1 rfl (lk1 rfl (lk1 rfl (lk1 rfl lk0)))))) (J61_16 M13 c19 IM13 FM13 (by omega) (by omega))
          · skip
            refine PW.aload_n q_37_44 rfl ?_
            refine PW.gets q_37_45 t_st_37_69 ?_
            refine PW.cI q_37_48 (by decide) fun c20 hc20 => ?_
            refine PW.cI q_37_49 (by decide) fun c21 hc21 => ?_
            refine PW.cV (as := [_, _, _]) (rest := []) q_37_50 t_mv_37_62 kd_267 IM13.1 (by decide) rfl (by decide) rfl rfl (Nat.le_of_ble_eq_true rfl) (Nat.le_of_ble_eq_true rfl) (by decide) (by decide) ?_
            refine PW.up (by decide) (c_X4_add (V) (hV) G _ M13 IM13 18 (by decide) c20 c21 (by omega) (by omega) fun x23 M22 IM22 GM22 hx23 kx23 => ?_)
            have FM22 := Fr.trans FM13 GM22 (rfl)
            refine PW.jz_eq q_37_53 rfl (fun h24 => False.elim (by omega)) (fun h24 => ?_)
            refine PW.cI q_37_56 (by decide) fun c25 hc25 => ?_
            refine PW.goto q_37_57 rfl ?_
            exact PW.lvS (lk1 rfl (lk1 rfl (lk1 rfl (lk1 rfl (lk1 rfl (lk1 rfl lk0)))))) (J61_16 M22 c25 IM22 FM22 (by omega) (by omega))
  exact PW.lvS (lk1 rfl (lk1 rfl (lk1 rfl (lk1 rfl (lk1 rfl (lk1 rfl lk0)))))) (L37_12_4 _ M1 x2 c3 IM1 FM1 (by omega) (by omega) (by omega) (by omega) rfl)
theorem c_X4_readAny_2 (V : pM → Prop) (hV : Stab V) (G : pG) (Kr : pK) (M : pM) (I : Iv V M) (k2 : Nat) (hk_k2 : g_kd k2 = 4) (a3 : Int32) (hl_a3 : 2 ≤ a3.toInt) (hh_a3 : a3.toInt ≤ 2) (hK : ∀ (x : Int32) (M1 : pM), Iv V M1 → Fr [1, 14, 15, 16, 17] M M1 → 0 ≤ x.toInt → x.toInt ≤ 1 → Kr.1 (some (.int x)) 311 M1) : PW G false 26 36 (p_mc 36) (p_msl 36) Kr 0 (lv_args 0 [.ref 267, .ref 1, .ref k2, .int a3]) [] 311 M 0 0 := by
  have F : Fr [1, 14, 15, 16, 17] M M := Fr.refl
  refine PW.aload_n q_36_0 rfl ?_
  refine PW.aload_n q_36_1 rfl ?_
  refine PW.aload_n q_36_2 rfl ?_
  refine PW.iload_n q_36_3 rfl ?_
  refine PW.cV (as := [_, _, _]) (rest := []) q_36_4 t_mv_36_51 kd_267 I.1 (by decide) rfl (by decide) rfl rfl (Nat.le_of_ble_eq_true rfl) (Nat.le_of_ble_eq_true rfl) (by decide) (by decide) ?_
  refine PW.up (by decide) (c_X4_readAll_2 (V) (hV) G _ M I k2 hk_k2 a3 (by omega) (by omega) fun x2 M1 IM1 GM1 hx2 kx2 => ?_)
  have FM1 := Fr.trans F GM1 (rfl)
  refine PW.istore q_36_7 (by decide) ?_
  refine PW.cI q_36_9 (by decide) fun c3 hc3 => ?_
  refine PW.istore q_36_10 (by decide) ?_
  have L36_12_4 : ∀ (n : Nat) (ML36_12_4 : pM) (v5 v6 : Int32), Iv (V) ML36_12_4 → Fr [1, 14, 15, 16, 17] M ML36_12_4 → 0 ≤ v5.toInt → v5.toInt ≤ 1 → 0 ≤ v6.toInt → v6.toInt ≤ 20 → (20 - v6.toInt).toNat = n → PW G false 26 36 (p_mc 36) (p_msl 36) Kr 12 [(0, .ref 267), (1, .ref 1), (2, .ref k2), (3, .int a3), (4, .int v5), (5, .int v6)] [] 311 ML36_12_4 0 0 := by
    intro n
    induction n using Nat.strongRecOn with
    | ind n ih_L36_12_4 =>
    intro ML36_12_4 v5 v6 IML36_12_4 FML36_12_4 hbL36_12_40 hbL36_12_41 hbL36_12_42 hbL36_12_43 hmL36_12_4
    refine PW.iload q_36_12 rfl ?_
    refine PW.cB q_36_14 (by decide) fun c7 hc7 => ?_
    refine PW.jc_ge q_36_16 rfl (fun h8 => ?_) (fun h8 => ?_)
    · skip
      refine PW.iload q_36_69 rfl ?_
      refine PW.rZ q_36_71 rfl (by omega) (by omega) (by decide) (by decide) ?_
      exact hK v5 ML36_12_4 IML36_12_4 FML36_12_4 (by omega) (by omega)
    · skip
      refine PW.iload q_36_19 rfl ?_
      refine PW.jz_eq q_36_21 rfl (fun h9 => ?_) (fun h9 => ?_)
      · skip
        refine PW.iload q_36_69 rfl ?_
        refine PW.rZ q_36_71 rfl (by omega) (by omega) (by decide) (by decide) ?_
        exact hK v5 ML36_12_4 IML36_12_4 FML36_12_4 (by omega) (by omega)
      · skip
        refine PW.aload_n q_36_24 rfl ?_
        refine PW.gets q_36_25 t_st_36_54 ?_
        refine PW.cV (as := [_]) (rest := []) q_36_28 t_mv_36_58 kd_1 IML36_12_4.1 (by decide) rfl (by decide) rfl rfl (Nat.le_of_ble_eq_true rfl) (Nat.le_of_ble_eq_true rfl) (by decide) (by decide) ?_
        refine PW.up (by decide) (c_X7_takes (V) (hV) G _ ML36_12_4 IML36_12_4 17 (by decide) fun x11 M10 IM10 GM10 hx11 kx11 => ?_)
        have FM10 := Fr.trans FML36_12_4 GM10 (rfl)
        refine PW.jz_eq q_36_31 rfl (fun h12 => ?_) (fun h12 => ?_)
        · skip
          refine PW.iload q_36_69 rfl ?_
          refine PW.rZ q_36_71 rfl (by omega) (by omega) (by decide) (by decide) ?_
          exact hK v5 M10 IM10 FM10 (by omega) (by omega)
        · skip
          refine PW.aload_n q_36_34 rfl ?_
          refine PW.aload_n q_36_35 rfl ?_
          refine PW.aload_n q_36_36 rfl ?_
          refine PW.iload_n q_36_37 rfl ?_
          refine PW.cV (as := [_, _, _]) (rest := []) q_36_38 t_mv_36_51 kd_267 IM10.1 (by decide) rfl (by decide) rfl rfl (Nat.le_of_ble_eq_true rfl) (Nat.le_of_ble_eq_true rfl) (by decide) (by decide) ?_
          refine PW.up (by decide) (c_X4_readAll_2 (V) (hV) G _ M10 IM10 k2 hk_k2 a3 (by omega) (by omega) fun x14 M13 IM13 GM13 hx14 kx14 => ?_)
          have FM13 := Fr.trans FM10 GM13 (rfl)
          have J61_16 : ∀ (MJ61_16 : pM) (s17 : Int32), Iv (V) MJ61_16 → Fr [1, 14, 15, 16, 17] M MJ61_16 → 0 ≤ s17.toInt → s17.toInt ≤ 1 → PW G false 26 36 (p_mc 36) (p_msl 36) Kr 61 [(0, .ref 267), (1, .ref 1), (2, .ref k2), (3, .int a3), (4, .int v5), (5, .int v6)] [.int s17] 311 MJ61_16 0 0 := by
            intro MJ61_16 s17 IMJ61_16 FMJ61_16 hbJ61_160 hbJ61_161
            refine PW.istore q_36_61 (by decide) ?_
            refine PW.incN q_36_63 rfl (by decide) (by decide) (by omega) (by omega) fun x18 hx18 => ?_
            refine PW.goto q_36_66 rfl ?_
            refine PW.lvS (lk1 rfl (lk1 rfl (lk1 rfl (lk1 rfl (lk1 rfl (lk1 rfl lk0)))))) (ih_L36_12_4 _ ?_ MJ61_16 s17 x18 IMJ61_16 FMJ61_16 (by omega) (by omega) (by omega) (by omega) rfl)
            omega
          refine PW.jz_eq q_36_41 rfl (fun h15 => ?_) (fun h15 => ?_)
          · skip
            refine PW.cI q_36_60 (by decide) fun c19 hc19 => ?_
            exact PW.lvS (lk1 rfl (lk1 rfl (lk1 rfl (lk1 rfl (lk1 rfl (lk1 rfl lk0)))))) (J61_16 M13 c19 IM13 FM13 (by omega) (by omega))
          · skip
            refine PW.aload_n q_36_44 rfl ?_
            refine PW.gets q_36_45 t_st_36_54 ?_
            refine PW.cI q_36_48 (by decide) fun c20 hc20 => ?_
            refine PW.cI q_36_49 (by decide) fun c21 hc21 => ?_
            refine PW.cV (as := [_, _, _]) (rest := []) q_36_50 t_mv_36_62 kd_267 IM13.1 (by decide) rfl (by decide) rfl rfl (Nat.le_of_ble_eq_true rfl) (Nat.le_of_ble_eq_true rfl) (by decide) (by decide) ?_
            refine PW.up (by decide) (c_X4_add (V) (hV) G _ M13 IM13 17 (by decide) c20 c21 (by omega) (by omega) fun x23 M22 IM22 GM22 hx23 kx23 => ?_)
            have FM22 := Fr.trans FM13 GM22 (rfl)
            refine PW.jz_eq q_36_53 rfl (fun h24 => False.elim (by omega)) (fun h24 => ?_)
            refine PW.cI q_36_56 (by decide) fun c25 hc25 => ?_
            refine PW.goto q_36_57 rfl ?_
            exact PW.lvS (lk1 rfl (lk1 rfl (lk1 rfl (lk1 rfl (lk1 rfl (lk1 rfl lk0)))))) (J61_16 M22 c25 IM22 FM22 (by omega) (by omega))
  exact PW.lvS (lk1 rfl (lk1 rfl (lk1 rfl (lk1 rfl (lk1 rfl (lk1 rfl lk0)))))) (L36_12_4 _ M1 x2 c3 IM1 FM1 (by omega) (by omega) (by omega) (by omega) rfl)
theorem c_X4_readOne_1 (V : pM → Prop) (hV : Stab V) (G : pG) (Kr : pK) (M : pM) (I : Iv V M) (k2 : Nat) (hk_k2 : g_kd k2 = 4) (a3 : Int32) (hl_a3 : 1 ≤ a3.toInt) (hh_a3 : a3.toInt ≤ 1) (hK : ∀ (x : Int32) (M1 : pM), Iv V M1 → Fr [1, 14, 15, 16, 17] M M1 → 0 ≤ x.toInt → x.toInt ≤ 1 → Kr.1 (some (.int x)) 311 M1) : PW G false 27 38 (p_mc 38) (p_msl 38) Kr 0 (lv_args 0 [.ref 267, .ref 1, .ref k2, .int a3]) [] 311 M 0 0 := by
  have F : Fr [1, 14, 15, 16, 17] M M := Fr.refl
  refine PW.aload_n q_38_0 rfl ?_
  refine PW.callS (as := [_]) (rest := []) q_38_1 t_ms_38_72 (by decide) rfl (Nat.le_of_ble_eq_true rfl) (Nat.le_of_ble_eq_true rfl) (by decide) (by decide) ?_
  refine PW.up (by decide) (c_X4_beginsOne (V) (hV) G _ M I  fun x2 M1 IM1 GM1 hx2 kx2 => ?_)
  have FM1 := Fr.trans F GM1 (rfl)
  refine PW.jz_ne q_38_4 rfl (fun h3 => ?_) (fun h3 => ?_)
  · skip
    refine PW.aload_n q_38_13 rfl ?_
    refine PW.gI q_38_14 (Or.inl t_ft_38_27) gF_14_0 kd_267 IM1.1 (by decide) fun x4 fx4 hx4 kx4 => ?_
    clear hx4 kx4
    refine PW.cB q_38_17 (by decide) fun c5 hc5 => ?_
    refine PW.jc_ge q_38_19 rfl (fun h6 => ?_) (fun h6 => ?_)
    · skip
      refine PW.aload_n q_38_28 rfl ?_
      refine PW.cI q_38_29 (by decide) fun c7 hc7 => ?_
      refine PW.cV (as := [_]) (rest := []) q_38_30 t_mv_38_76 kd_1 IM1.1 (by decide) rfl (by decide) rfl rfl (Nat.le_of_ble_eq_true rfl) (Nat.le_of_ble_eq_true rfl) (by decide) (by decide) ?_
      refine PW.up (by decide) (c_X7_fail (V) (hV) G _ M1 IM1 c7 fun x9 M8 IM8 GM8 hx9 kx9 => ?_)
      have FM8 := Fr.trans FM1 GM8 (rfl)
      refine PW.rZ q_38_33 rfl (by omega) (by omega) (by decide) (by decide) ?_
      exact hK x9 M8 IM8 FM8 (by omega) (by omega)
    · skip
      refine PW.iload_n q_38_22 rfl ?_
      refine PW.cB q_38_23 (by decide) fun c10 hc10 => ?_
      refine PW.jc_le q_38_25 rfl (fun h11 => ?_) (fun h11 => False.elim (by omega))
      refine PW.aload_n q_38_34 rfl ?_
      refine PW.dup q_38_35 rfl ?_
      refine PW.gE q_38_36 (Or.inl t_ft_38_27) gF_14_0 kd_267 IM1.1 (by decide) fx4 ?_
      refine PW.cI q_38_39 (by decide) fun c12 hc12 => ?_
      refine PW.addN q_38_40 (by have := n_lo x4; have := n_hi x4; omega) (by have := n_lo x4; have := n_hi x4; omega) fun x13 hx13 => ?_
      refine PW.pI q_38_41 (Or.inl t_ft_38_27) gF_14_0 gP_14_0 kd_267 hV IM1 (by decide) rfl (n_lo _) (n_hi _) fun M14 IM14 fM14 UM14 => ?_
      have FM14 := Fr.pu FM1 UM14.1 kd_267 (rfl : List.contains [1, 14, 15, 16, 17] 14 = true)
      refine PW.aload_n q_38_44 rfl ?_
      refine PW.gets q_38_45 t_st_38_80 ?_
      refine PW.cV (as := [_]) (rest := []) q_38_48 t_mv_38_58 kd_1 IM14.1 (by decide) rfl (by decide) rfl rfl (Nat.le_of_ble_eq_true rfl) (Nat.le_of_ble_eq_true rfl) (by decide) (by decide) ?_
      refine PW.up (by decide) (c_X7_takes (V) (hV) G _ M14 IM14 19 (by decide) fun x16 M15 IM15 GM15 hx16 kx16 => ?_)
      have FM15 := Fr.trans FM14 GM15 (rfl)
      refine PW.jz_eq q_38_51 rfl (fun h17 => ?_) (fun h17 => ?_)
      · skip
        refine PW.aload_n q_38_84 rfl ?_
        refine PW.cB q_38_85 (by decide) fun c18 hc18 => ?_
        refine PW.cV (as := [_]) (rest := []) q_38_87 t_mv_38_83 kd_1 IM15.1 (by decide) rfl (by decide) rfl rfl (Nat.le_of_ble_eq_true rfl) (Nat.le_of_ble_eq_true rfl) (by decide) (by decide) ?_
        refine PW.up (by decide) (c_X7_seesSign (V) (hV) G _ M15 IM15 c18 fun x20 M19 IM19 GM19 hx20 kx20 => ?_)
        have FM19 := Fr.trans FM15 GM19 (rfl)
        refine PW.jz_eq q_38_90 rfl (fun h21 => ?_) (fun h21 => ?_)
        · skip
          refine PW.aload_n q_38_124 rfl ?_
          refine PW.aload_n q_38_125 rfl ?_
          refine PW.aload_n q_38_126 rfl ?_
          refine PW.cV (as := [_, _]) (rest := []) q_38_127 t_mv_38_92 kd_267 IM19.1 (by decide) rfl (by decide) rfl rfl (Nat.le_of_ble_eq_true rfl) (Nat.le_of_ble_eq_true rfl) (by decide) (by decide) ?_
          refine PW.up (by decide) (c_X4_readPlain (V) (hV) G _ M19 IM19 k2 hk_k2 fun x23 M22 IM22 GM22 hx23 kx23 => ?_)
          have FM22 := Fr.trans FM19 GM22 (rfl)
          refine PW.rZ q_38_130 rfl (by omega) (by omega) (by decide) (by decide) ?_
          exact hK x23 M22 IM22 FM22 (by omega) (by omega)
        · skip
          refine PW.aload_n q_38_93 rfl ?_
          refine PW.cV (as := []) (rest := []) q_38_94 t_mv_38_86 kd_1 IM19.1 (by decide) rfl (by decide) rfl rfl (Nat.le_of_ble_eq_true rfl) (Nat.le_of_ble_eq_true rfl) (by decide) (by decide) ?_
          refine PW.up (by decide) (c_X7_advance (V) (hV) G _ M19 IM19  fun M24 IM24 GM24 => ?_)
          have FM24 := Fr.trans FM19 GM24 (rfl)
          refine PW.aload_n q_38_97 rfl ?_
          refine PW.aload_n q_38_98 rfl ?_
          refine PW.aload_n q_38_99 rfl ?_
          refine PW.iload_n q_38_100 rfl ?_
          refine PW.cI q_38_101 (by decide) fun c25 hc25 => ?_
          refine PW.addN q_38_102 (by omega) (by omega) fun x26 hx26 => ?_
          refine PW.cV (as := [_, _, _]) (rest := []) q_38_103 t_mv_38_43 kd_267 IM24.1 (by decide) rfl (by decide) rfl rfl (Nat.le_of_ble_eq_true rfl) (Nat.le_of_ble_eq_true rfl) (by decide) (by decide) ?_
          refine PW.up (by decide) (c_X4_readAny_2 (V) (hV) G _ M24 IM24 k2 hk_k2 x26 (by omega) (by omega) fun x28 M27 IM27 GM27 hx28 kx28 => ?_)
          have FM27 := Fr.trans FM24 GM27 (rfl)
          refine PW.jz_eq q_38_106 rfl (fun h29 => ?_) (fun h29 => ?_)
          · skip
            refine PW.cI q_38_122 (by decide) fun c30 hc30 => ?_
            refine PW.rZ q_38_123 rfl (by omega) (by omega) (by decide) (by decide) ?_
            exact hK c30 M27 IM27 FM27 (by omega) (by omega)
          · skip
            refine PW.aload_n q_38_109 rfl ?_
            refine PW.cB q_38_110 (by decide) fun c31 hc31 => ?_
            refine PW.cV (as := [_]) (rest := []) q_38_112 t_mv_38_89 kd_1 IM27.1 (by decide) rfl (by decide) rfl rfl (Nat.le_of_ble_eq_true rfl) (Nat.le_of_ble_eq_true rfl) (by decide) (by decide) ?_
            refine PW.up (by decide) (c_X7_needsSign (V) (hV) G _ M27 IM27 c31 fun x33 M32 IM32 GM32 hx33 kx33 => ?_)
            have FM32 := Fr.trans FM27 GM32 (rfl)
            refine PW.jz_eq q_38_115 rfl (fun h34 => ?_) (fun h34 => ?_)
            · skip
              refine PW.cI q_38_122 (by decide) fun c35 hc35 => ?_
              refine PW.rZ q_38_123 rfl (by omega) (by omega) (by decide) (by decide) ?_
              exact hK c35 M32 IM32 FM32 (by omega) (by omega)
            · skip
              refine PW.cI q_38_118 (by decide) fun c36 hc36 => ?_
              refine PW.goto q_38_119 rfl ?_
              refine PW.rZ q_38_123 rfl (by omega) (by omega) (by decide) (by decide) ?_
              exact hK c36 M32 IM32 FM32 (by omega) (by omega)
      · skip
        refine PW.aload_n q_38_54 rfl ?_
        refine PW.aload_n q_38_55 rfl ?_
        refine PW.aload_n q_38_56 rfl ?_
        refine PW.iload_n q_38_57 rfl ?_
        refine PW.cI q_38_58 (by decide) fun c37 hc37 => ?_
        refine PW.addN q_38_59 (by omega) (by omega) fun x38 hx38 => ?_
        refine PW.cV (as := [_, _, _]) (rest := []) q_38_60 t_mv_38_66 kd_267 IM15.1 (by decide) rfl (by decide) rfl rfl (Nat.le_of_ble_eq_true rfl) (Nat.le_of_ble_eq_true rfl) (by decide) (by decide) ?_
        refine PW.up (by decide) (c_X4_readOne_2 (V) (hV) G _ M15 IM15 k2 hk_k2 x38 (by omega) (by omega) fun x40 M39 IM39 GM39 hx40 kx40 => ?_)
        have FM39 := Fr.trans FM15 GM39 (rfl)
        refine PW.jz_eq q_38_63 rfl (fun h41 => ?_) (fun h41 => ?_)
        · skip
          refine PW.cI q_38_82 (by decide) fun c42 hc42 => ?_
          refine PW.rZ q_38_83 rfl (by omega) (by omega) (by decide) (by decide) ?_
          exact hK c42 M39 IM39 FM39 (by omega) (by omega)
        · skip
          refine PW.aload_n q_38_66 rfl ?_
          refine PW.gets q_38_67 t_st_38_80 ?_
          refine PW.cI q_38_70 (by decide) fun c43 hc43 => ?_
          refine PW.cI q_38_71 (by decide) fun c44 hc44 => ?_
          refine PW.cV (as := [_, _, _]) (rest := []) q_38_72 t_mv_38_62 kd_267 IM39.1 (by decide) rfl (by decide) rfl rfl (Nat.le_of_ble_eq_true rfl) (Nat.le_of_ble_eq_true rfl) (by decide) (by decide) ?_
          refine PW.up (by decide) (c_X4_add (V) (hV) G _ M39 IM39 19 (by decide) c43 c44 (by omega) (by omega) fun x46 M45 IM45 GM45 hx46 kx46 => ?_)
          have FM45 := Fr.trans FM39 GM45 (rfl)
          refine PW.jz_eq q_38_75 rfl (fun h47 => False.elim (by omega)) (fun h47 => ?_)
          refine PW.cI q_38_78 (by decide) fun c48 hc48 => ?_
          refine PW.goto q_38_79 rfl ?_
          refine PW.rZ q_38_83 rfl (by omega) (by omega) (by decide) (by decide) ?_
          exact hK c48 M45 IM45 FM45 (by omega) (by omega)
  · skip
    refine PW.aload_n q_38_7 rfl ?_
    refine PW.cI q_38_8 (by decide) fun c49 hc49 => ?_
    refine PW.cV (as := [_]) (rest := []) q_38_9 t_mv_38_76 kd_1 IM1.1 (by decide) rfl (by decide) rfl rfl (Nat.le_of_ble_eq_true rfl) (Nat.le_of_ble_eq_true rfl) (by decide) (by decide) ?_
    refine PW.up (by decide) (c_X7_fail (V) (hV) G _ M1 IM1 c49 fun x51 M50 IM50 GM50 hx51 kx51 => ?_)
    have FM50 := Fr.trans FM1 GM50 (rfl)
    refine PW.rZ q_38_12 rfl (by omega) (by omega) (by decide) (by decide) ?_
    exact hK x51 M50 IM50 FM50 (by omega) (by omega)
theorem c_X4_readAll_1 (V : pM → Prop) (hV : Stab V) (G : pG) (Kr : pK) (M : pM) (I : Iv V M) (k2 : Nat) (hk_k2 : g_kd k2 = 4) (a3 : Int32) (hl_a3 : 1 ≤ a3.toInt) (hh_a3 : a3.toInt ≤ 1) (hK : ∀ (x : Int32) (M1 : pM), Iv V M1 → Fr [1, 14, 15, 16, 17] M M1 → 0 ≤ x.toInt → x.toInt ≤ 1 → Kr.1 (some (.int x)) 311 M1) : PW G false 28 37 (p_mc 37) (p_msl 37) Kr 0 (lv_args 0 [.ref 267, .ref 1, .ref k2, .int a3]) [] 311 M 0 0 := by
  have F : Fr [1, 14, 15, 16, 17] M M := Fr.refl
  refine PW.aload_n q_37_0 rfl ?_
  refine PW.aload_n q_37_1 rfl ?_
  refine PW.aload_n q_37_2 rfl ?_
  refine PW.iload_n q_37_3 rfl ?_
  refine PW.cV (as := [_, _, _]) (rest := []) q_37_4 t_mv_37_66 kd_267 I.1 (by decide) rfl (by decide) rfl rfl (Nat.le_of_ble_eq_true rfl) (Nat.le_of_ble_eq_true rfl) (by decide) (by decide) ?_
  refine PW.up (by decide) (c_X4_readOne_1 (V) (hV) G _ M I k2 hk_k2 a3 (by omega) (by omega) fun x2 M1 IM1 GM1 hx2 kx2 => ?_)
  have FM1 := Fr.trans F GM1 (rfl)
  refine PW.istore q_37_7 (by decide) ?_
  refine PW.cI q_37_9 (by decide) fun c3 hc3 => ?_
  refine PW.istore q_37_10 (by decide) ?_
  have L37_12_4 : ∀ (n : Nat) (ML37_12_4 : pM) (v5 v6 : Int32), Iv (V) ML37_12_4 → Fr [1, 14, 15, 16, 17] M ML37_12_4 → 0 ≤ v5.toInt → v5.toInt ≤ 1 → 0 ≤ v6.toInt → v6.toInt ≤ 20 → (20 - v6.toInt).toNat = n → PW G false 28 37 (p_mc 37) (p_msl 37) Kr 12 [(0, .ref 267), (1, .ref 1), (2, .ref k2), (3, .int a3), (4, .int v5), (5, .int v6)] [] 311 ML37_12_4 0 0 := by
    intro n
    induction n using Nat.strongRecOn with
    | ind n ih_L37_12_4 =>
    intro ML37_12_4 v5 v6 IML37_12_4 FML37_12_4 hbL37_12_40 hbL37_12_41 hbL37_12_42 hbL37_12_43 hmL37_12_4
    refine PW.iload q_37_12 rfl ?_
    refine PW.cB q_37_14 (by decide) fun c7 hc7 => ?_
    refine PW.jc_ge q_37_16 rfl (fun h8 => ?_) (fun h8 => ?_)
    · skip
      refine PW.iload q_37_69 rfl ?_
      refine PW.rZ q_37_71 rfl (by omega) (by omega) (by decide) (by decide) ?_
      exact hK v5 ML37_12_4 IML37_12_4 FML37_12_4 (by omega) (by omega)
    · skip
      refine PW.iload q_37_19 rfl ?_
      refine PW.jz_eq q_37_21 rfl (fun h9 => ?_) (fun h9 => ?_)
      · skip
        refine PW.iload q_37_69 rfl ?_
        refine PW.rZ q_37_71 rfl (by omega) (by omega) (by decide) (by decide) ?_
        exact hK v5 ML37_12_4 IML37_12_4 FML37_12_4 (by omega) (by omega)
      · skip
        refine PW.aload_n q_37_24 rfl ?_
        refine PW.gets q_37_25 t_st_37_69 ?_
        refine PW.cV (as := [_]) (rest := []) q_37_28 t_mv_37_58 kd_1 IML37_12_4.1 (by decide) rfl (by decide) rfl rfl (Nat.le_of_ble_eq_true rfl) (Nat.le_of_ble_eq_true rfl) (by decide) (by decide) ?_
        refine PW.up (by decide) (c_X7_takes (V) (hV) G _ ML37_12_4 IML37_12_4 18 (by decide) fun x11 M10 IM10 GM10 hx11 kx11 => ?_)
        have FM10 := Fr.trans FML37_12_4 GM10 (rfl)
        refine PW.jz_eq q_37_31 rfl (fun h12 => ?_) (fun h12 => ?_)
        · skip
          refine PW.iload q_37_69 rfl ?_
          refine PW.rZ q_37_71 rfl (by omega) (by omega) (by decide) (by decide) ?_
          exact hK v5 M10 IM10 FM10 (by omega) (by omega)
        · skip
          refine PW.aload_n q_37_34 rfl ?_
          refine PW.aload_n q_37_35 rfl ?_
          refine PW.aload_n q_37_36 rfl ?_
          refine PW.iload_n q_37_37 rfl ?_
          refine PW.cV (as := [_, _, _]) (rest := []) q_37_38 t_mv_37_66 kd_267 IM10.1 (by decide) rfl (by decide) rfl rfl (Nat.le_of_ble_eq_true rfl) (Nat.le_of_ble_eq_true rfl) (by decide) (by decide) ?_
          refine PW.up (by decide) (c_X4_readOne_1 (V) (hV) G _ M10 IM10 k2 hk_k2 a3 (by omega) (by omega) fun x14 M13 IM13 GM13 hx14 kx14 => ?_)
          have FM13 := Fr.trans FM10 GM13 (rfl)
          have J61_16 : ∀ (MJ61_16 : pM) (s17 : Int32), Iv (V) MJ61_16 → Fr [1, 14, 15, 16, 17] M MJ61_16 → 0 ≤ s17.toInt → s17.toInt ≤ 1 → PW G false 28 37 (p_mc 37) (p_msl 37) Kr 61 [(0, .ref 267), (1, .ref 1), (2, .ref k2), (3, .int a3), (4, .int v5), (5, .int v6)] [.int s17] 311 MJ61_16 0 0 := by
            intro MJ61_16 s17 IMJ61_16 FMJ61_16 hbJ61_160 hbJ61_161
            refine PW.istore q_37_61 (by decide) ?_
            refine PW.incN q_37_63 rfl (by decide) (by decide) (by omega) (by omega) fun x18 hx18 => ?_
            refine PW.goto q_37_66 rfl ?_
            refine PW.lvS (lk1 rfl (lk1 rfl (lk1 rfl (lk1 rfl (lk1 rfl (lk1 rfl lk0)))))) (ih_L37_12_4 _ ?_ MJ61_16 s17 x18 IMJ61_16 FMJ61_16 (by omega) (by omega) (by omega) (by omega) rfl)
            omega
          refine PW.jz_eq q_37_41 rfl (fun h15 => ?_) (fun h15 => ?_)
          · skip
            refine PW.cI q_37_60 (by decide) fun c19 hc19 => ?_
            exact PW.lvS (lk1 rfl (lk1 rfl (lk1 rfl (lk1 rfl (lk1 rfl (lk1 rfl lk0)))))) (J61_16 M13 c19 IM13 FM13 (by omega) (by omega))
          · skip
            refine PW.aload_n q_37_44 rfl ?_
            refine PW.gets q_37_45 t_st_37_69 ?_
            refine PW.cI q_37_48 (by decide) fun c20 hc20 => ?_
            refine PW.cI q_37_49 (by decide) fun c21 hc21 => ?_
            refine PW.cV (as := [_, _, _]) (rest := []) q_37_50 t_mv_37_62 kd_267 IM13.1 (by decide) rfl (by decide) rfl rfl (Nat.le_of_ble_eq_true rfl) (Nat.le_of_ble_eq_true rfl) (by decide) (by decide) ?_
            refine PW.up (by decide) (c_X4_add (V) (hV) G _ M13 IM13 18 (by decide) c20 c21 (by omega) (by omega) fun x23 M22 IM22 GM22 hx23 kx23 => ?_)
            have FM22 := Fr.trans FM13 GM22 (rfl)
            refine PW.jz_eq q_37_53 rfl (fun h24 => False.elim (by omega)) (fun h24 => ?_)
            refine PW.cI q_37_56 (by decide) fun c25 hc25 => ?_
            refine PW.goto q_37_57 rfl ?_
            exact PW.lvS (lk1 rfl (lk1 rfl (lk1 rfl (lk1 rfl (lk1 rfl (lk1 rfl lk0)))))) (J61_16 M22 c25 IM22 FM22 (by omega) (by omega))
  exact PW.lvS (lk1 rfl (lk1 rfl (lk1 rfl (lk1 rfl (lk1 rfl (lk1 rfl lk0)))))) (L37_12_4 _ M1 x2 c3 IM1 FM1 (by omega) (by omega) (by omega) (by omega) rfl)
theorem c_X4_readAny_1 (V : pM → Prop) (hV : Stab V) (G : pG) (Kr : pK) (M : pM) (I : Iv V M) (k2 : Nat) (hk_k2 : g_kd k2 = 4) (a3 : Int32) (hl_a3 : 1 ≤ a3.toInt) (hh_a3 : a3.toInt ≤ 1) (hK : ∀ (x : Int32) (M1 : pM), Iv V M1 → Fr [1, 14, 15, 16, 17] M M1 → 0 ≤ x.toInt → x.toInt ≤ 1 → Kr.1 (some (.int x)) 311 M1) : PW G false 29 36 (p_mc 36) (p_msl 36) Kr 0 (lv_args 0 [.ref 267, .ref 1, .ref k2, .int a3]) [] 311 M 0 0 := by
  have F : Fr [1, 14, 15, 16, 17] M M := Fr.refl
  refine PW.aload_n q_36_0 rfl ?_
  refine PW.aload_n q_36_1 rfl ?_
  refine PW.aload_n q_36_2 rfl ?_
  refine PW.iload_n q_36_3 rfl ?_
  refine PW.cV (as := [_, _, _]) (rest := []) q_36_4 t_mv_36_51 kd_267 I.1 (by decide) rfl (by decide) rfl rfl (Nat.le_of_ble_eq_true rfl) (Nat.le_of_ble_eq_true rfl) (by decide) (by decide) ?_
  refine PW.up (by decide) (c_X4_readAll_1 (V) (hV) G _ M I k2 hk_k2 a3 (by omega) (by omega) fun x2 M1 IM1 GM1 hx2 kx2 => ?_)
  have FM1 := Fr.trans F GM1 (rfl)
  refine PW.istore q_36_7 (by decide) ?_
  refine PW.cI q_36_9 (by decide) fun c3 hc3 => ?_
  refine PW.istore q_36_10 (by decide) ?_
  have L36_12_4 : ∀ (n : Nat) (ML36_12_4 : pM) (v5 v6 : Int32), Iv (V) ML36_12_4 → Fr [1, 14, 15, 16, 17] M ML36_12_4 → 0 ≤ v5.toInt → v5.toInt ≤ 1 → 0 ≤ v6.toInt → v6.toInt ≤ 20 → (20 - v6.toInt).toNat = n → PW G false 29 36 (p_mc 36) (p_msl 36) Kr 12 [(0, .ref 267), (1, .ref 1), (2, .ref k2), (3, .int a3), (4, .int v5), (5, .int v6)] [] 311 ML36_12_4 0 0 := by
    intro n
    induction n using Nat.strongRecOn with
    | ind n ih_L36_12_4 =>
    intro ML36_12_4 v5 v6 IML36_12_4 FML36_12_4 hbL36_12_40 hbL36_12_41 hbL36_12_42 hbL36_12_43 hmL36_12_4
    refine PW.iload q_36_12 rfl ?_
    refine PW.cB q_36_14 (by decide) fun c7 hc7 => ?_
    refine PW.jc_ge q_36_16 rfl (fun h8 => ?_) (fun h8 => ?_)
    · skip
      refine PW.iload q_36_69 rfl ?_
      refine PW.rZ q_36_71 rfl (by omega) (by omega) (by decide) (by decide) ?_
      exact hK v5 ML36_12_4 IML36_12_4 FML36_12_4 (by omega) (by omega)
    · skip
      refine PW.iload q_36_19 rfl ?_
      refine PW.jz_eq q_36_21 rfl (fun h9 => ?_) (fun h9 => ?_)
      · skip
        refine PW.iload q_36_69 rfl ?_
        refine PW.rZ q_36_71 rfl (by omega) (by omega) (by decide) (by decide) ?_
        exact hK v5 ML36_12_4 IML36_12_4 FML36_12_4 (by omega) (by omega)
      · skip
        refine PW.aload_n q_36_24 rfl ?_
        refine PW.gets q_36_25 t_st_36_54 ?_
        refine PW.cV (as := [_]) (rest := []) q_36_28 t_mv_36_58 kd_1 IML36_12_4.1 (by decide) rfl (by decide) rfl rfl (Nat.le_of_ble_eq_true rfl) (Nat.le_of_ble_eq_true rfl) (by decide) (by decide) ?_
        refine PW.up (by decide) (c_X7_takes (V) (hV) G _ ML36_12_4 IML36_12_4 17 (by decide) fun x11 M10 IM10 GM10 hx11 kx11 => ?_)
        have FM10 := Fr.trans FML36_12_4 GM10 (rfl)
        refine PW.jz_eq q_36_31 rfl (fun h12 => ?_) (fun h12 => ?_)
        · skip
          refine PW.iload q_36_69 rfl ?_
          refine PW.rZ q_36_71 rfl (by omega) (by omega) (by decide) (by decide) ?_
          exact hK v5 M10 IM10 FM10 (by omega) (by omega)
        · skip
          refine PW.aload_n q_36_34 rfl ?_
          refine PW.aload_n q_36_35 rfl ?_
          refine PW.aload_n q_36_36 rfl ?_
          refine PW.iload_n q_36_37 rfl ?_
          refine PW.cV (as := [_, _, _]) (rest := []) q_36_38 t_mv_36_51 kd_267 IM10.1 (by decide) rfl (by decide) rfl rfl (Nat.le_of_ble_eq_true rfl) (Nat.le_of_ble_eq_true rfl) (by decide) (by decide) ?_
          refine PW.up (by decide) (c_X4_readAll_1 (V) (hV) G _ M10 IM10 k2 hk_k2 a3 (by omega) (by omega) fun x14 M13 IM13 GM13 hx14 kx14 => ?_)
          have FM13 := Fr.trans FM10 GM13 (rfl)
          have J61_16 : ∀ (MJ61_16 : pM) (s17 : Int32), Iv (V) MJ61_16 → Fr [1, 14, 15, 16, 17] M MJ61_16 → 0 ≤ s17.toInt → s17.toInt ≤ 1 → PW G false 29 36 (p_mc 36) (p_msl 36) Kr 61 [(0, .ref 267), (1, .ref 1), (2, .ref k2), (3, .int a3), (4, .int v5), (5, .int v6)] [.int s17] 311 MJ61_16 0 0 := by
            intro MJ61_16 s17 IMJ61_16 FMJ61_16 hbJ61_160 hbJ61_161
            refine PW.istore q_36_61 (by decide) ?_
            refine PW.incN q_36_63 rfl (by decide) (by decide) (by omega) (by omega) fun x18 hx18 => ?_
            refine PW.goto q_36_66 rfl ?_
            refine PW.lvS (lk1 rfl (lk1 rfl (lk1 rfl (lk1 rfl (lk1 rfl (lk1 rfl lk0)))))) (ih_L36_12_4 _ ?_ MJ61_16 s17 x18 IMJ61_16 FMJ61_16 (by omega) (by omega) (by omega) (by omega) rfl)
            omega
          refine PW.jz_eq q_36_41 rfl (fun h15 => ?_) (fun h15 => ?_)
          · skip
            refine PW.cI q_36_60 (by decide) fun c19 hc19 => ?_
            exact PW.lvS (lk1 rfl (lk1 rfl (lk1 rfl (lk1 rfl (lk1 rfl (lk1 rfl lk0)))))) (J61_16 M13 c19 IM13 FM13 (by omega) (by omega))
          · skip
            refine PW.aload_n q_36_44 rfl ?_
            refine PW.gets q_36_45 t_st_36_54 ?_
            refine PW.cI q_36_48 (by decide) fun c20 hc20 => ?_
            refine PW.cI q_36_49 (by decide) fun c21 hc21 => ?_
            refine PW.cV (as := [_, _, _]) (rest := []) q_36_50 t_mv_36_62 kd_267 IM13.1 (by decide) rfl (by decide) rfl rfl (Nat.le_of_ble_eq_true rfl) (Nat.le_of_ble_eq_true rfl) (by decide) (by decide) ?_
            refine PW.up (by decide) (c_X4_add (V) (hV) G _ M13 IM13 17 (by decide) c20 c21 (by omega) (by omega) fun x23 M22 IM22 GM22 hx23 kx23 => ?_)
            have FM22 := Fr.trans FM13 GM22 (rfl)
            refine PW.jz_eq q_36_53 rfl (fun h24 => False.elim (by omega)) (fun h24 => ?_)
            refine PW.cI q_36_56 (by decide) fun c25 hc25 => ?_
            refine PW.goto q_36_57 rfl ?_
            exact PW.lvS (lk1 rfl (lk1 rfl (lk1 rfl (lk1 rfl (lk1 rfl (lk1 rfl lk0)))))) (J61_16 M22 c25 IM22 FM22 (by omega) (by omega))
  exact PW.lvS (lk1 rfl (lk1 rfl (lk1 rfl (lk1 rfl (lk1 rfl (lk1 rfl lk0)))))) (L36_12_4 _ M1 x2 c3 IM1 FM1 (by omega) (by omega) (by omega) (by omega) rfl)
theorem c_X4_read (V : pM → Prop) (hV : Stab V) (G : pG) (Kr : pK) (M : pM) (I : Iv V M) (k2 : Nat) (hk_k2 : g_kd k2 = 4) (hK : ∀ (x : Int32) (M1 : pM), Iv V M1 → Fr [1, 14, 15, 16, 17] M M1 → 0 ≤ x.toInt → x.toInt ≤ 1 → Kr.1 (some (.int x)) 311 M1) : PW G false 30 35 (p_mc 35) (p_msl 35) Kr 0 (lv_args 0 [.ref 267, .ref 1, .ref k2]) [] 311 M 0 0 := by
  have F : Fr [1, 14, 15, 16, 17] M M := Fr.refl
  refine PW.aload_n q_35_0 rfl ?_
  refine PW.cV (as := []) (rest := []) q_35_1 t_mv_35_34 kd_267 I.1 (by decide) rfl (by decide) rfl rfl (Nat.le_of_ble_eq_true rfl) (Nat.le_of_ble_eq_true rfl) (by decide) (by decide) ?_
  refine PW.up (by decide) (c_X4_forget (V) (hV) G _ M I 267 kd_267 fun M1 IM1 GM1 => ?_)
  have FM1 := Fr.trans F GM1 (rfl)
  refine PW.aload_n q_35_4 rfl ?_
  refine PW.cS q_35_5 (by decide) fun c2 hc2 => ?_
  refine PW.cV (as := [_]) (rest := []) q_35_8 t_mv_35_37 kd_1 IM1.1 (by decide) rfl (by decide) rfl rfl (Nat.le_of_ble_eq_true rfl) (Nat.le_of_ble_eq_true rfl) (by decide) (by decide) ?_
  refine PW.up (by decide) (c_X7_startText (V) (hV) G _ M1 IM1 c2 fun M3 IM3 GM3 => ?_)
  have FM3 := Fr.trans FM1 GM3 (rfl)
  refine PW.aload_n q_35_11 rfl ?_
  refine PW.aload_n q_35_12 rfl ?_
  refine PW.aload_n q_35_13 rfl ?_
  refine PW.cI q_35_14 (by decide) fun c4 hc4 => ?_
  refine PW.cV (as := [_, _, _]) (rest := []) q_35_15 t_mv_35_43 kd_267 IM3.1 (by decide) rfl (by decide) rfl rfl (Nat.le_of_ble_eq_true rfl) (Nat.le_of_ble_eq_true rfl) (by decide) (by decide) ?_
  refine PW.up (by decide) (c_X4_readAny_1 (V) (hV) G _ M3 IM3 k2 hk_k2 c4 (by omega) (by omega) fun x6 M5 IM5 GM5 hx6 kx6 => ?_)
  have FM5 := Fr.trans FM3 GM5 (rfl)
  refine PW.jz_eq q_35_18 rfl (fun h7 => ?_) (fun h7 => ?_)
  · skip
    refine PW.cI q_35_32 (by decide) fun c8 hc8 => ?_
    refine PW.rZ q_35_33 rfl (by omega) (by omega) (by decide) (by decide) ?_
    exact hK c8 M5 IM5 FM5 (by omega) (by omega)
  · skip
    refine PW.aload_n q_35_21 rfl ?_
    refine PW.cV (as := []) (rest := []) q_35_22 t_mv_35_47 kd_1 IM5.1 (by decide) rfl (by decide) rfl rfl (Nat.le_of_ble_eq_true rfl) (Nat.le_of_ble_eq_true rfl) (by decide) (by decide) ?_
    refine PW.up (by decide) (c_X7_closes (V) (hV) G _ M5 IM5  fun x10 M9 IM9 GM9 hx10 kx10 => ?_)
    have FM9 := Fr.trans FM5 GM9 (rfl)
    refine PW.jz_eq q_35_25 rfl (fun h11 => ?_) (fun h11 => ?_)
    · skip
      refine PW.cI q_35_32 (by decide) fun c12 hc12 => ?_
      refine PW.rZ q_35_33 rfl (by omega) (by omega) (by decide) (by decide) ?_
      exact hK c12 M9 IM9 FM9 (by omega) (by omega)
    · skip
      refine PW.cI q_35_28 (by decide) fun c13 hc13 => ?_
      refine PW.goto q_35_29 rfl ?_
      refine PW.rZ q_35_33 rfl (by omega) (by omega) (by decide) (by decide) ?_
      exact hK c13 M9 IM9 FM9 (by omega) (by omega)
theorem c_X4_compares (V : pM → Prop) (hV : Stab V) (G : pG) (Kr : pK) (M : pM) (I : Iv V M) (k0 : Nat) (hk_k0 : g_kd k0 = 14) (a1 : Int32) (a2 : Int32) (hl_a2 : 0 ≤ a2.toInt) (hh_a2 : a2.toInt ≤ 39) (hK : ∀ (x : Int32) (M1 : pM), Iv V M1 → Fr [] M M1 → 0 ≤ x.toInt → x.toInt ≤ 1 → Kr.1 (some (.int x)) 311 M1) : PW G false 0 45 (p_mc 45) (p_msl 45) Kr 0 (lv_args 0 [.ref k0, .int a1, .int a2]) [] 311 M 0 0 := by
  have F : Fr [] M M := Fr.refl
  refine PW.aload_n q_45_0 rfl ?_
  refine PW.gRk q_45_1 (Or.inl t_ft_45_17) gF_14_3 hk_k0 I.1 (by decide) fun b1 hk_b1 e_b1 => ?_
  refine PW.iload_n q_45_4 rfl ?_
  refine PW.aH q_45_5 gA_16 hk_b1 I.1 (by decide) (by omega) (by omega) fun x2 fx2 => ?_
  refine PW.cB q_45_6 (by decide) fun c3 hc3 => ?_
  refine PW.jc_ne q_45_8 rfl (fun h4 => ?_) (fun h4 => ?_)
  · skip
    refine PW.aload_n q_45_27 rfl ?_
    refine PW.gRk q_45_28 (Or.inl t_ft_45_17) gF_14_3 hk_k0 I.1 (by decide) fun b5 hk_b5 e_b5 => ?_
    refine PW.iload_n q_45_31 rfl ?_
    refine PW.aH q_45_32 gA_16 hk_b5 I.1 (by decide) (by omega) (by omega) fun x6 fx6 => ?_
    refine PW.cB q_45_33 (by decide) fun c7 hc7 => ?_
    refine PW.jc_ne q_45_35 rfl (fun h8 => ?_) (fun h8 => ?_)
    · skip
      refine PW.iload_n q_45_56 rfl ?_
      refine PW.aload_n q_45_57 rfl ?_
      refine PW.gRk q_45_58 (Or.inl t_ft_45_21) gF_14_4 hk_k0 I.1 (by decide) fun b9 hk_b9 e_b9 => ?_
      refine PW.iload_n q_45_61 rfl ?_
      refine PW.aI q_45_62 gA_17 hk_b9 I.1 (by decide) gB_17_0_39 (by decide) (by omega) (by omega) fun x10 fx10 hx10 kx10 => ?_
      refine PW.jc_ne q_45_63 rfl (fun h11 => ?_) (fun h11 => ?_)
      · skip
        refine PW.cI q_45_70 (by decide) fun c12 hc12 => ?_
        refine PW.rZ q_45_71 rfl (by omega) (by omega) (by decide) (by decide) ?_
        exact hK c12 M I F (by omega) (by omega)
      · skip
        refine PW.cI q_45_66 (by decide) fun c13 hc13 => ?_
        refine PW.goto q_45_67 rfl ?_
        refine PW.rZ q_45_71 rfl (by omega) (by omega) (by decide) (by decide) ?_
        exact hK c13 M I F (by omega) (by omega)
    · skip
      refine PW.iload_n q_45_38 rfl ?_
      refine PW.aload_n q_45_39 rfl ?_
      refine PW.gRk q_45_40 (Or.inl t_ft_45_21) gF_14_4 hk_k0 I.1 (by decide) fun b14 hk_b14 e_b14 => ?_
      refine PW.iload_n q_45_43 rfl ?_
      refine PW.aI q_45_44 gA_17 hk_b14 I.1 (by decide) gB_17_0_39 (by decide) (by omega) (by omega) fun x15 fx15 hx15 kx15 => ?_
      refine PW.jc_le q_45_45 rfl (fun h16 => ?_) (fun h16 => ?_)
      · skip
        refine PW.cI q_45_52 (by decide) fun c17 hc17 => ?_
        refine PW.goto q_45_53 rfl ?_
        refine PW.rZ q_45_71 rfl (by omega) (by omega) (by decide) (by decide) ?_
        exact hK c17 M I F (by omega) (by omega)
      · skip
        refine PW.cI q_45_48 (by decide) fun c18 hc18 => ?_
        refine PW.goto q_45_49 rfl ?_
        refine PW.rZ q_45_71 rfl (by omega) (by omega) (by decide) (by decide) ?_
        exact hK c18 M I F (by omega) (by omega)
  · skip
    refine PW.iload_n q_45_11 rfl ?_
    refine PW.aload_n q_45_12 rfl ?_
    refine PW.gRk q_45_13 (Or.inl t_ft_45_21) gF_14_4 hk_k0 I.1 (by decide) fun b19 hk_b19 e_b19 => ?_
    refine PW.iload_n q_45_16 rfl ?_
    refine PW.aI q_45_17 gA_17 hk_b19 I.1 (by decide) gB_17_0_39 (by decide) (by omega) (by omega) fun x20 fx20 hx20 kx20 => ?_
    refine PW.jc_ge q_45_18 rfl (fun h21 => ?_) (fun h21 => ?_)
    · skip
      refine PW.cI q_45_25 (by decide) fun c22 hc22 => ?_
      refine PW.rZ q_45_26 rfl (by omega) (by omega) (by decide) (by decide) ?_
      exact hK c22 M I F (by omega) (by omega)
    · skip
      refine PW.cI q_45_21 (by decide) fun c23 hc23 => ?_
      refine PW.goto q_45_22 rfl ?_
      refine PW.rZ q_45_26 rfl (by omega) (by omega) (by decide) (by decide) ?_
      exact hK c23 M I F (by omega) (by omega)
theorem c_X4_holds (V : pM → Prop) (hV : Stab V) (G : pG) (Kr : pK) (M : pM) (I : Iv V M) (k0 : Nat) (hk_k0 : g_kd k0 = 14) (a1 : Int32) (a2 : Int32) (k3 : Nat) (hk_k3 : g_kd k3 = 4) (k4 : Nat) (hk_k4 : g_kd k4 = 5) (hl_a1 : 0 ≤ a1.toInt) (hh_a1 : a1.toInt ≤ 39) (hl_a2 : 0 ≤ a2.toInt) (hh_a2 : a2.toInt ≤ 5) (hK : ∀ (x : Int32) (M1 : pM), Iv V M1 → Fr [] M M1 → 0 ≤ x.toInt → x.toInt ≤ 1 → Kr.1 (some (.int x)) 311 M1) : PW G false 2 44 (p_mc 44) (p_msl 44) Kr 0 (lv_args 0 [.ref k0, .int a1, .int a2, .ref k3, .ref k4]) [] 311 M 0 0 := by
  have F : Fr [] M M := Fr.refl
  refine PW.aload q_44_0 rfl ?_
  refine PW.gRk q_44_2 (Or.inr t_fN_44_153) gF_5_3 hk_k4 I.1 (by decide) fun b1 hk_b1 e_b1 => ?_
  refine PW.iload_n q_44_5 rfl ?_
  refine PW.aRk q_44_6 rfl (by decide) (by decide) hk_b1 I.1 (by decide) (by omega) (by omega) fun b2 hk_b2 e_b2 => ?_
  refine PW.astore q_44_7 (by decide) ?_
  refine PW.aload_n q_44_9 rfl ?_
  refine PW.gRk q_44_10 (Or.inl t_ft_44_13) gF_14_2 hk_k0 I.1 (by decide) fun b3 hk_b3 e_b3 => ?_
  refine PW.iload_n q_44_13 rfl ?_
  refine PW.aW q_44_14 rfl (by decide) (by decide) hk_b3 I.1 (by decide) (by omega) (by omega) fun r4 hr4 fr4 => ?_
  refine PW.gets q_44_15 t_st_44_102 ?_
  refine PW.ja_ne (rx := r4) (ry := (some (65536 + 20))) q_44_18 rfl (fun h5 => ?_) (fun h5 => ?_)
  · skip
    refine PW.aload_n q_44_35 rfl ?_
    refine PW.gRk q_44_36 (Or.inl t_ft_44_13) gF_14_2 hk_k0 I.1 (by decide) fun b6 hk_b6 e_b6 => ?_
    refine PW.iload_n q_44_39 rfl ?_
    refine PW.aW q_44_40 rfl (by decide) (by decide) hk_b6 I.1 (by decide) (by omega) (by omega) fun r7 hr7 fr7 => ?_
    refine PW.gets q_44_41 t_st_44_105 ?_
    refine PW.ja_ne (rx := r7) (ry := (some (65536 + 21))) q_44_44 rfl (fun h8 => ?_) (fun h8 => ?_)
    · skip
      refine PW.aload_n q_44_53 rfl ?_
      refine PW.gRk q_44_54 (Or.inl t_ft_44_13) gF_14_2 hk_k0 I.1 (by decide) fun b9 hk_b9 e_b9 => ?_
      refine PW.iload_n q_44_57 rfl ?_
      refine PW.aW q_44_58 rfl (by decide) (by decide) hk_b9 I.1 (by decide) (by omega) (by omega) fun r10 hr10 fr10 => ?_
      refine PW.gets q_44_59 t_st_44_108 ?_
      refine PW.ja_ne (rx := r10) (ry := (some (65536 + 22))) q_44_62 rfl (fun h11 => ?_) (fun h11 => ?_)
      · skip
        refine PW.aload_n q_44_72 rfl ?_
        refine PW.gRk q_44_73 (Or.inl t_ft_44_13) gF_14_2 hk_k0 I.1 (by decide) fun b12 hk_b12 e_b12 => ?_
        refine PW.iload_n q_44_76 rfl ?_
        refine PW.aW q_44_77 rfl (by decide) (by decide) hk_b12 I.1 (by decide) (by omega) (by omega) fun r13 hr13 fr13 => ?_
        refine PW.gets q_44_78 t_st_44_99 ?_
        refine PW.ja_ne (rx := r13) (ry := (some (65536 + 23))) q_44_81 rfl (fun h14 => ?_) (fun h14 => ?_)
        · skip
          refine PW.aload_n q_44_122 rfl ?_
          refine PW.gRk q_44_123 (Or.inl t_ft_44_13) gF_14_2 hk_k0 I.1 (by decide) fun b15 hk_b15 e_b15 => ?_
          refine PW.iload_n q_44_126 rfl ?_
          refine PW.aW q_44_127 rfl (by decide) (by decide) hk_b15 I.1 (by decide) (by omega) (by omega) fun r16 hr16 fr16 => ?_
          refine PW.gets q_44_128 t_st_44_111 ?_
          refine PW.ja_ne (rx := r16) (ry := (some (65536 + 24))) q_44_131 rfl (fun h17 => ?_) (fun h17 => ?_)
          · skip
            refine PW.aload_n q_44_145 rfl ?_
            refine PW.gRk q_44_146 (Or.inl t_ft_44_13) gF_14_2 hk_k0 I.1 (by decide) fun b18 hk_b18 e_b18 => ?_
            refine PW.iload_n q_44_149 rfl ?_
            refine PW.aW q_44_150 rfl (by decide) (by decide) hk_b18 I.1 (by decide) (by omega) (by omega) fun r19 hr19 fr19 => ?_
            refine PW.gets q_44_151 t_st_44_114 ?_
            refine PW.ja_ne (rx := r19) (ry := (some (65536 + 25))) q_44_154 rfl (fun h20 => ?_) (fun h20 => ?_)
            · skip
              refine PW.aload_n q_44_169 rfl ?_
              refine PW.aload_n q_44_170 rfl ?_
              refine PW.gRk q_44_171 (Or.inl t_ft_44_13) gF_14_2 hk_k0 I.1 (by decide) fun b21 hk_b21 e_b21 => ?_
              refine PW.iload_n q_44_174 rfl ?_
              refine PW.aW q_44_175 rfl (by decide) (by decide) hk_b21 I.1 (by decide) (by omega) (by omega) fun r22 hr22 fr22 => ?_
              refine PW.gets q_44_176 t_st_44_117 ?_
              refine PW.ja_ne (rx := r22) (ry := (some (65536 + 26))) q_44_179 rfl (fun h23 => ?_) (fun h23 => ?_)
              · skip
                refine PW.iload_n q_44_190 rfl ?_
                refine PW.iload_n q_44_191 rfl ?_
                refine PW.cV (as := [_, _]) (rest := []) q_44_192 t_mv_44_179 hk_k0 I.1 (by decide) rfl (by decide) rfl rfl (Nat.le_of_ble_eq_true rfl) (Nat.le_of_ble_eq_true rfl) (by decide) (by decide) ?_
                refine PW.up (by decide) (c_X4_compares (V) (hV) G _ M I k0 hk_k0 a2 a1 (by omega) (by omega) fun x25 M24 IM24 GM24 hx25 kx25 => ?_)
                have FM24 := Fr.trans F GM24 (rfl)
                refine PW.rZ q_44_195 rfl (by omega) (by omega) (by decide) (by decide) ?_
                exact hK x25 M24 IM24 FM24 (by omega) (by omega)
              · skip
                refine PW.aload q_44_182 rfl ?_
                refine PW.gI q_44_184 (Or.inr t_fN_44_186) gF_7_5 hk_b2 I.1 (by decide) fun x26 fx26 hx26 kx26 => ?_
                clear hx26 kx26
                refine PW.goto q_44_187 rfl ?_
                refine PW.iload_n q_44_191 rfl ?_
                refine PW.cV (as := [_, _]) (rest := []) q_44_192 t_mv_44_179 hk_k0 I.1 (by decide) rfl (by decide) rfl rfl (Nat.le_of_ble_eq_true rfl) (Nat.le_of_ble_eq_true rfl) (by decide) (by decide) ?_
                refine PW.up (by decide) (c_X4_compares (V) (hV) G _ M I k0 hk_k0 x26 a1 (by omega) (by omega) fun x28 M27 IM27 GM27 hx28 kx28 => ?_)
                have FM27 := Fr.trans F GM27 (rfl)
                refine PW.rZ q_44_195 rfl (by omega) (by omega) (by decide) (by decide) ?_
                exact hK x28 M27 IM27 FM27 (by omega) (by omega)
            · skip
              refine PW.aload_n q_44_157 rfl ?_
              refine PW.aload_n q_44_158 rfl ?_
              refine PW.gRk q_44_159 (Or.inr t_fN_44_183) gF_4_10 hk_k3 I.1 (by decide) fun b29 hk_b29 e_b29 => ?_
              refine PW.iload_n q_44_162 rfl ?_
              refine PW.aH q_44_163 gA_29 hk_b29 I.1 (by decide) (by omega) (by omega) fun x30 fx30 => ?_
              refine PW.iload_n q_44_164 rfl ?_
              refine PW.cV (as := [_, _]) (rest := []) q_44_165 t_mv_44_179 hk_k0 I.1 (by decide) rfl (by decide) rfl rfl (Nat.le_of_ble_eq_true rfl) (Nat.le_of_ble_eq_true rfl) (by decide) (by decide) ?_
              refine PW.up (by decide) (c_X4_compares (V) (hV) G _ M I k0 hk_k0 x30 a1 (by omega) (by omega) fun x32 M31 IM31 GM31 hx32 kx32 => ?_)
              have FM31 := Fr.trans F GM31 (rfl)
              refine PW.rZ q_44_168 rfl (by omega) (by omega) (by decide) (by decide) ?_
              exact hK x32 M31 IM31 FM31 (by omega) (by omega)
          · skip
            refine PW.aload_n q_44_134 rfl ?_
            refine PW.aload q_44_135 rfl ?_
            refine PW.gI q_44_137 (Or.inr t_fN_44_176) gF_7_0 hk_b2 I.1 (by decide) fun x33 fx33 hx33 kx33 => ?_
            clear hx33 kx33
            refine PW.iload_n q_44_140 rfl ?_
            refine PW.cV (as := [_, _]) (rest := []) q_44_141 t_mv_44_179 hk_k0 I.1 (by decide) rfl (by decide) rfl rfl (Nat.le_of_ble_eq_true rfl) (Nat.le_of_ble_eq_true rfl) (by decide) (by decide) ?_
            refine PW.up (by decide) (c_X4_compares (V) (hV) G _ M I k0 hk_k0 x33 a1 (by omega) (by omega) fun x35 M34 IM34 GM34 hx35 kx35 => ?_)
            have FM34 := Fr.trans F GM34 (rfl)
            refine PW.rZ q_44_144 rfl (by omega) (by omega) (by decide) (by decide) ?_
            exact hK x35 M34 IM34 FM34 (by omega) (by omega)
        · skip
          refine PW.aload_n q_44_84 rfl ?_
          refine PW.gRk q_44_85 (Or.inl t_ft_44_21) gF_14_4 hk_k0 I.1 (by decide) fun b36 hk_b36 e_b36 => ?_
          refine PW.iload_n q_44_88 rfl ?_
          refine PW.aI q_44_89 gA_17 hk_b36 I.1 (by decide) gB_17_0_39 (by decide) (by omega) (by omega) fun x37 fx37 hx37 kx37 => ?_
          refine PW.aload_n q_44_90 rfl ?_
          refine PW.gI q_44_91 (Or.inr t_fN_44_132) gF_4_6 hk_k3 I.1 (by decide) fun x38 fx38 hx38 kx38 => ?_
          refine PW.jc_ge q_44_94 rfl (fun h39 => ?_) (fun h39 => ?_)
          · skip
            refine PW.cI q_44_120 (by decide) fun c40 hc40 => ?_
            refine PW.rZ q_44_121 rfl (by omega) (by omega) (by decide) (by decide) ?_
            exact hK c40 M I F (by omega) (by omega)
          · skip
            refine PW.aload q_44_97 rfl ?_
            refine PW.iload_n q_44_99 rfl ?_
            refine PW.aload_n q_44_100 rfl ?_
            refine PW.gRk q_44_101 (Or.inl t_ft_44_21) gF_14_4 hk_k0 I.1 (by decide) fun b41 hk_b41 e_b41 => ?_
            refine PW.iload_n q_44_104 rfl ?_
            refine PW.aI q_44_105 gA_17 hk_b41 I.1 (by decide) gB_17_0_39 (by decide) (by omega) (by omega) fun x42 fx42 hx42 kx42 => ?_
            have hqx42 : x42 = x37 := by rw [← fx42, ← fx37, e_b41, e_b36]
            subst hqx42
            refine PW.cV (as := [_, _]) (rest := []) q_44_106 t_mv_44_170 hk_k4 I.1 (by decide) rfl (by decide) rfl rfl (Nat.le_of_ble_eq_true rfl) (Nat.le_of_ble_eq_true rfl) (by decide) (by decide) ?_
            refine PW.up (by decide) (c_X5_apart (V) (hV) G _ M I k4 hk_k4 a2 x42 (by omega) (by omega) (by omega) (by omega) fun x44 M43 IM43 GM43 => ?_)
            have FM43 := Fr.trans F GM43 (rfl)
            refine PW.aload_n q_44_109 rfl ?_
            refine PW.gI q_44_110 (Or.inr t_fN_44_173) gF_4_2 hk_k3 IM43.1 (by decide) fun x45 fx45 hx45 kx45 => ?_
            clear hx45 kx45
            refine PW.jc_gt q_44_113 rfl (fun h46 => ?_) (fun h46 => ?_)
            · skip
              refine PW.cI q_44_120 (by decide) fun c47 hc47 => ?_
              refine PW.rZ q_44_121 rfl (by omega) (by omega) (by decide) (by decide) ?_
              exact hK c47 M43 IM43 FM43 (by omega) (by omega)
            · skip
              refine PW.cI q_44_116 (by decide) fun c48 hc48 => ?_
              refine PW.goto q_44_117 rfl ?_
              refine PW.rZ q_44_121 rfl (by omega) (by omega) (by decide) (by decide) ?_
              exact hK c48 M43 IM43 FM43 (by omega) (by omega)
      · skip
        refine PW.aload q_44_65 rfl ?_
        refine PW.iload_n q_44_67 rfl ?_
        refine PW.cV (as := [_]) (rest := []) q_44_68 t_mv_44_167 hk_k4 I.1 (by decide) rfl (by decide) rfl rfl (Nat.le_of_ble_eq_true rfl) (Nat.le_of_ble_eq_true rfl) (by decide) (by decide) ?_
        refine PW.up (by decide) (c_X5_isSought (V) (hV) G _ M I k4 hk_k4 a2 fun x50 M49 IM49 GM49 hx50 kx50 => ?_)
        have FM49 := Fr.trans F GM49 (rfl)
        refine PW.rZ q_44_71 rfl (by omega) (by omega) (by decide) (by decide) ?_
        exact hK x50 M49 IM49 FM49 (by omega) (by omega)
    · skip
      refine PW.aload q_44_47 rfl ?_
      refine PW.gI q_44_49 (Or.inr t_fN_44_164) gF_7_3 hk_b2 I.1 (by decide) fun x51 fx51 hx51 kx51 => ?_
      refine PW.rZ q_44_52 rfl (by omega) (by omega) (by decide) (by decide) ?_
      exact hK x51 M I F (by omega) (by omega)
  · skip
    refine PW.aload q_44_21 rfl ?_
    refine PW.gI q_44_23 (Or.inr t_fN_44_158) gF_7_4 hk_b2 I.1 (by decide) fun x52 fx52 hx52 kx52 => ?_
    refine PW.jz_ne q_44_26 rfl (fun h53 => ?_) (fun h53 => ?_)
    · skip
      refine PW.cI q_44_33 (by decide) fun c54 hc54 => ?_
      refine PW.rZ q_44_34 rfl (by omega) (by omega) (by decide) (by decide) ?_
      exact hK c54 M I F (by omega) (by omega)
    · skip
      refine PW.cI q_44_29 (by decide) fun c55 hc55 => ?_
      refine PW.goto q_44_30 rfl ?_
      refine PW.rZ q_44_34 rfl (by omega) (by omega) (by decide) (by decide) ?_
      exact hK c55 M I F (by omega) (by omega)
theorem c_X4_plainBits (V : pM → Prop) (hV : Stab V) (G : pG) (Kr : pK) (M : pM) (I : Iv V M) (k0 : Nat) (hk_k0 : g_kd k0 = 14) (a1 : Int32) (k2 : Nat) (hk_k2 : g_kd k2 = 4) (k3 : Nat) (hk_k3 : g_kd k3 = 5) (hl_a1 : 0 ≤ a1.toInt) (hh_a1 : a1.toInt ≤ 39) (hK : ∀ (x : Int32) (M1 : pM), Iv V M1 → Fr [] M M1 → Kr.1 (some (.int x)) 311 M1) : PW G false 3 43 (p_mc 43) (p_msl 43) Kr 0 (lv_args 0 [.ref k0, .int a1, .ref k2, .ref k3]) [] 311 M 0 0 := by
  have F : Fr [] M M := Fr.refl
  refine PW.cI q_43_0 (by decide) fun c1 hc1 => ?_
  refine PW.istore q_43_1 (by decide) ?_
  refine PW.cI q_43_3 (by decide) fun c2 hc2 => ?_
  refine PW.istore q_43_4 (by decide) ?_
  have L43_6_3 : ∀ (n : Nat) (ML43_6_3 : pM) (v4 v5 : Int32), Iv (V) ML43_6_3 → Fr [] M ML43_6_3 → 0 ≤ v5.toInt → v5.toInt ≤ 6 → (6 - v5.toInt).toNat = n → PW G false 3 43 (p_mc 43) (p_msl 43) Kr 6 [(0, .ref k0), (1, .int a1), (2, .ref k2), (3, .ref k3), (4, .int v4), (5, .int v5)] [] 311 ML43_6_3 0 0 := by
    intro n
    induction n using Nat.strongRecOn with
    | ind n ih_L43_6_3 =>
    intro ML43_6_3 v4 v5 IML43_6_3 FML43_6_3 hbL43_6_30 hbL43_6_31 hmL43_6_3
    refine PW.iload q_43_6 rfl ?_
    refine PW.aload_n q_43_8 rfl ?_
    refine PW.gI q_43_9 (Or.inr t_fN_43_132) gF_4_6 hk_k2 IML43_6_3.1 (by decide) fun x6 fx6 hx6 kx6 => ?_
    refine PW.jc_ge q_43_12 rfl (fun h7 => ?_) (fun h7 => ?_)
    · skip
      refine PW.iload q_43_42 rfl ?_
      refine PW.rI q_43_44 rfl (by decide) (by decide) ?_
      exact hK v4 ML43_6_3 IML43_6_3 FML43_6_3
    · skip
      refine PW.aload_n q_43_15 rfl ?_
      refine PW.iload_n q_43_16 rfl ?_
      refine PW.iload q_43_17 rfl ?_
      refine PW.aload_n q_43_19 rfl ?_
      refine PW.aload_n q_43_20 rfl ?_
      refine PW.cV (as := [_, _, _, _]) (rest := []) q_43_21 t_mv_43_149 hk_k0 IML43_6_3.1 (by decide) rfl (by decide) rfl rfl (Nat.le_of_ble_eq_true rfl) (Nat.le_of_ble_eq_true rfl) (by decide) (by decide) ?_
      refine PW.up (by decide) (c_X4_holds (V) (hV) G _ ML43_6_3 IML43_6_3 k0 hk_k0 a1 v5 k2 hk_k2 k3 hk_k3 (by omega) (by omega) (by omega) (by omega) fun x9 M8 IM8 GM8 hx9 kx9 => ?_)
      have FM8 := Fr.trans FML43_6_3 GM8 (rfl)
      have J36_11 : ∀ (MJ36_11 : pM) (v12 : Int32), Iv (V) MJ36_11 → Fr [] M MJ36_11 → o_f (MJ36_11 k2) 6 = .int x6 → PW G false 3 43 (p_mc 43) (p_msl 43) Kr 36 [(0, .ref k0), (1, .int a1), (2, .ref k2), (3, .ref k3), (4, .int v12), (5, .int v5)] [] 311 MJ36_11 0 0 := by
        intro MJ36_11 v12 IMJ36_11 FMJ36_11 hbJ36_110
        refine PW.incN q_43_36 rfl (by decide) (by decide) (by omega) (by omega) fun x13 hx13 => ?_
        refine PW.goto q_43_39 rfl ?_
        refine PW.lvS (lk1 rfl (lk1 rfl (lk1 rfl (lk1 rfl (lk1 rfl (lk1 rfl lk0)))))) (ih_L43_6_3 _ ?_ MJ36_11 v12 x13 IMJ36_11 FMJ36_11 (by omega) (by omega) rfl)
        omega
      refine PW.jz_eq q_43_24 rfl (fun h10 => ?_) (fun h10 => ?_)
      · skip
        exact PW.lvS (lk1 rfl (lk1 rfl (lk1 rfl (lk1 rfl (lk1 rfl (lk1 rfl lk0)))))) (J36_11 M8 v4 IM8 FM8 ((congrArg (fun e => o_f e 6) (Fr.at GM8 hk_k2 (by decide))).trans fx6))
      · skip
        refine PW.iload q_43_27 rfl ?_
        refine PW.cI q_43_29 (by decide) fun c14 hc14 => ?_
        refine PW.iload q_43_30 rfl ?_
        refine PW.shlH q_43_32 fun x15 => ?_
        refine PW.orH q_43_33 fun x16 => ?_
        refine PW.istore q_43_34 (by decide) ?_
        exact PW.lvS (lk1 rfl (lk1 rfl (lk1 rfl (lk1 rfl (lk1 rfl (lk1 rfl lk0)))))) (J36_11 M8 x16 IM8 FM8 ((congrArg (fun e => o_f e 6) (Fr.at GM8 hk_k2 (by decide))).trans fx6))
  exact PW.lvS (lk1 rfl (lk1 rfl (lk1 rfl (lk1 rfl (lk1 rfl (lk1 rfl lk0)))))) (L43_6_3 _ M c1 c2 I F (by omega) (by omega) rfl)
theorem c_X4_saidOf (V : pM → Prop) (hV : Stab V) (G : pG) (Kr : pK) (M : pM) (I : Iv V M) (k0 : Nat) (hk_k0 : g_kd k0 = 14) (k1 : Nat) (hk_k1 : g_kd k1 = 4) (k2 : Nat) (hk_k2 : g_kd k2 = 5) (hK : ∀ (x : Int32) (M1 : pM), Iv V M1 → Fr [18] M M1 → Kr.1 (some (.int x)) 311 M1) : PW G false 4 42 (p_mc 42) (p_msl 42) Kr 0 (lv_args 0 [.ref k0, .ref k1, .ref k2]) [] 311 M 0 0 := by
  have F : Fr [18] M M := Fr.refl
  refine PW.cI q_42_0 (by decide) fun c1 hc1 => ?_
  refine PW.aload_n q_42_1 rfl ?_
  refine PW.gI q_42_2 (Or.inr t_fN_42_132) gF_4_6 hk_k1 I.1 (by decide) fun x2 fx2 hx2 kx2 => ?_
  refine PW.shlH q_42_5 fun x3 => ?_
  refine PW.cI q_42_6 (by decide) fun c4 hc4 => ?_
  refine PW.subH q_42_7 fun x5 => ?_
  refine PW.istore_n q_42_8 (by decide) ?_
  refine PW.cI q_42_9 (by decide) fun c6 hc6 => ?_
  refine PW.istore q_42_10 (by decide) ?_
  refine PW.cI q_42_12 (by decide) fun c7 hc7 => ?_
  refine PW.istore q_42_13 (by decide) ?_
  have L42_15_8 : ∀ (n : Nat) (ML42_15_8 : pM) (v9 v10 : Int32), Iv (V) ML42_15_8 → Fr [18] M ML42_15_8 → 0 ≤ v9.toInt → v9.toInt ≤ 40 → 0 ≤ v10.toInt → v10.toInt ≤ 40 → (40 - v10.toInt).toNat = n → PW G false 4 42 (p_mc 42) (p_msl 42) Kr 15 [(0, .ref k0), (1, .ref k1), (2, .ref k2), (3, .int x5), (4, .int v9), (5, .int v10)] [] 311 ML42_15_8 0 0 := by
    intro n
    induction n using Nat.strongRecOn with
    | ind n ih_L42_15_8 =>
    intro ML42_15_8 v9 v10 IML42_15_8 FML42_15_8 hbL42_15_80 hbL42_15_81 hbL42_15_82 hbL42_15_83 hmL42_15_8
    refine PW.iload q_42_15 rfl ?_
    refine PW.aload_n q_42_17 rfl ?_
    refine PW.gI q_42_18 (Or.inl t_ft_42_31) gF_14_1 hk_k0 IML42_15_8.1 (by decide) fun x11 fx11 hx11 kx11 => ?_
    refine PW.jc_ge q_42_21 rfl (fun h12 => ?_) (fun h12 => ?_)
    · skip
      refine PW.iload q_42_178 rfl ?_
      refine PW.jz_le q_42_180 rfl (fun h13 => ?_) (fun h13 => ?_)
      · skip
        refine PW.cI q_42_192 (by decide) fun c14 hc14 => ?_
        refine PW.rI q_42_193 rfl (by decide) (by decide) ?_
        exact hK c14 ML42_15_8 IML42_15_8 FML42_15_8
      · skip
        refine PW.aload_n q_42_183 rfl ?_
        refine PW.gRk q_42_184 (Or.inl t_ft_42_24) gF_14_5 hk_k0 IML42_15_8.1 (by decide) fun b15 hk_b15 e_b15 => ?_
        refine PW.cI q_42_187 (by decide) fun c16 hc16 => ?_
        refine PW.aH q_42_188 gA_18 hk_b15 IML42_15_8.1 (by decide) (by omega) (by omega) fun x17 fx17 => ?_
        refine PW.goto q_42_189 rfl ?_
        refine PW.rI q_42_193 rfl (by decide) (by decide) ?_
        exact hK x17 ML42_15_8 IML42_15_8 FML42_15_8
    · skip
      refine PW.aload_n q_42_24 rfl ?_
      refine PW.gRk q_42_25 (Or.inl t_ft_42_13) gF_14_2 hk_k0 IML42_15_8.1 (by decide) fun b18 hk_b18 e_b18 => ?_
      refine PW.iload q_42_28 rfl ?_
      refine PW.aW q_42_30 rfl (by decide) (by decide) hk_b18 IML42_15_8.1 (by decide) (by omega) (by omega) fun r19 hr19 fr19 => ?_
      refine PW.gets q_42_31 t_st_42_80 ?_
      have J172_21 : ∀ (MJ172_21 : pM) (v22 : Int32), Iv (V) MJ172_21 → Fr [18] M MJ172_21 → 1 ≤ v22.toInt → v22.toInt ≤ 40 → o_f (MJ172_21 k0) 1 = .int x11 → PW G false 4 42 (p_mc 42) (p_msl 42) Kr 172 [(0, .ref k0), (1, .ref k1), (2, .ref k2), (3, .int x5), (4, .int v22), (5, .int v10)] [] 311 MJ172_21 0 0 := by
        intro MJ172_21 v22 IMJ172_21 FMJ172_21 hbJ172_210 hbJ172_211 hbJ172_212
        refine PW.incN q_42_172 rfl (by decide) (by decide) (by omega) (by omega) fun x23 hx23 => ?_
        refine PW.goto q_42_175 rfl ?_
        refine PW.lvS (lk1 rfl (lk1 rfl (lk1 rfl (lk1 rfl (lk1 rfl (lk1 rfl lk0)))))) (ih_L42_15_8 _ ?_ MJ172_21 v22 x23 IMJ172_21 FMJ172_21 (by omega) (by omega) (by omega) (by omega) rfl)
        omega
      refine PW.ja_ne (rx := r19) (ry := (some (65536 + 19))) q_42_34 rfl (fun h20 => ?_) (fun h20 => ?_)
      · skip
        refine PW.aload_n q_42_59 rfl ?_
        refine PW.gRk q_42_60 (Or.inl t_ft_42_13) gF_14_2 hk_k0 IML42_15_8.1 (by decide) fun b24 hk_b24 e_b24 => ?_
        refine PW.iload q_42_63 rfl ?_
        refine PW.aW q_42_65 rfl (by decide) (by decide) hk_b24 IML42_15_8.1 (by decide) (by omega) (by omega) fun r25 hr25 fr25 => ?_
        refine PW.gets q_42_66 t_st_42_69 ?_
        refine PW.ja_ne (rx := r25) (ry := (some (65536 + 18))) q_42_69 rfl (fun h26 => ?_) (fun h26 => ?_)
        · skip
          refine PW.aload_n q_42_103 rfl ?_
          refine PW.gRk q_42_104 (Or.inl t_ft_42_13) gF_14_2 hk_k0 IML42_15_8.1 (by decide) fun b27 hk_b27 e_b27 => ?_
          refine PW.iload q_42_107 rfl ?_
          refine PW.aW q_42_109 rfl (by decide) (by decide) hk_b27 IML42_15_8.1 (by decide) (by omega) (by omega) fun r28 hr28 fr28 => ?_
          refine PW.gets q_42_110 t_st_42_54 ?_
          refine PW.ja_ne (rx := r28) (ry := (some (65536 + 17))) q_42_113 rfl (fun h29 => ?_) (fun h29 => ?_)
          · skip
            refine PW.iload q_42_147 rfl ?_
            refine PW.cB q_42_149 (by decide) fun c30 hc30 => ?_
            refine PW.jc_ge q_42_151 rfl (fun h31 => ?_) (fun h31 => ?_)
            · skip
              exact PW.lvS (lk1 rfl (lk1 rfl (lk1 rfl (lk1 rfl (lk1 rfl (lk1 rfl lk0)))))) (J172_21 ML42_15_8 v9 IML42_15_8 FML42_15_8 (by omega) (by omega) fx11)
            · skip
              refine PW.aload_n q_42_154 rfl ?_
              refine PW.gRk q_42_155 (Or.inl t_ft_42_24) gF_14_5 hk_k0 IML42_15_8.1 (by decide) fun b32 hk_b32 e_b32 => ?_
              refine PW.iload q_42_158 rfl ?_
              refine PW.aload_n q_42_160 rfl ?_
              refine PW.iload q_42_161 rfl ?_
              refine PW.aload_n q_42_163 rfl ?_
              refine PW.aload_n q_42_164 rfl ?_
              refine PW.cV (as := [_, _, _]) (rest := [_, _]) q_42_165 t_mv_42_145 hk_k0 IML42_15_8.1 (by decide) rfl (by decide) rfl rfl (Nat.le_of_ble_eq_true rfl) (Nat.le_of_ble_eq_true rfl) (by decide) (by decide) ?_
              refine PW.up (by decide) (c_X4_plainBits (V) (hV) G _ ML42_15_8 IML42_15_8 k0 hk_k0 v10 k1 hk_k1 k2 hk_k2 (by omega) (by omega) fun x34 M33 IM33 GM33 => ?_)
              have FM33 := Fr.trans FML42_15_8 GM33 (rfl)
              refine PW.wI q_42_168 gA_18 hk_b32 hV IM33 (by decide) rfl gC_18_0_39 (by decide) (by omega) (by omega) (n_lo _) (n_hi _) fun M35 IM35 fM35 UM35 => ?_
              have FM35 := Fr.pu FM33 UM35.1 hk_b32 (rfl : List.contains [18] 18 = true)
              refine PW.incN q_42_169 rfl (by decide) (by decide) (by omega) (by omega) fun x36 hx36 => ?_
              exact PW.lvS (lk1 rfl (lk1 rfl (lk1 rfl (lk1 rfl (lk1 rfl (lk1 rfl lk0)))))) (J172_21 M35 x36 IM35 FM35 (by omega) (by omega) ((congrArg (fun e => o_f e 1) (UM35.1 _ (g_ne hk_k0 hk_b32 (by decide)))).trans ((congrArg (fun e => o_f e 1) (Fr.at GM33 hk_k0 (by decide))).trans fx11)))
          · skip
            refine PW.iload q_42_116 rfl ?_
            refine PW.cI q_42_118 (by decide) fun c37 hc37 => ?_
            refine PW.jc_lt q_42_119 rfl (fun h38 => ?_) (fun h38 => ?_)
            · skip
              refine PW.iload q_42_147 rfl ?_
              refine PW.cB q_42_149 (by decide) fun c39 hc39 => ?_
              refine PW.jc_ge q_42_151 rfl (fun h40 => False.elim (by omega)) (fun h40 => ?_)
              refine PW.aload_n q_42_154 rfl ?_
              refine PW.gRk q_42_155 (Or.inl t_ft_42_24) gF_14_5 hk_k0 IML42_15_8.1 (by decide) fun b41 hk_b41 e_b41 => ?_
              refine PW.iload q_42_158 rfl ?_
              refine PW.aload_n q_42_160 rfl ?_
              refine PW.iload q_42_161 rfl ?_
              refine PW.aload_n q_42_163 rfl ?_
              refine PW.aload_n q_42_164 rfl ?_
              refine PW.cV (as := [_, _, _]) (rest := [_, _]) q_42_165 t_mv_42_145 hk_k0 IML42_15_8.1 (by decide) rfl (by decide) rfl rfl (Nat.le_of_ble_eq_true rfl) (Nat.le_of_ble_eq_true rfl) (by decide) (by decide) ?_
              refine PW.up (by decide) (c_X4_plainBits (V) (hV) G _ ML42_15_8 IML42_15_8 k0 hk_k0 v10 k1 hk_k1 k2 hk_k2 (by omega) (by omega) fun x43 M42 IM42 GM42 => ?_)
              have FM42 := Fr.trans FML42_15_8 GM42 (rfl)
              refine PW.wI q_42_168 gA_18 hk_b41 hV IM42 (by decide) rfl gC_18_0_1 (by decide) (by omega) (by omega) (n_lo _) (n_hi _) fun M44 IM44 fM44 UM44 => ?_
              have FM44 := Fr.pu FM42 UM44.1 hk_b41 (rfl : List.contains [18] 18 = true)
              refine PW.incN q_42_169 rfl (by decide) (by decide) (by omega) (by omega) fun x45 hx45 => ?_
              exact PW.lvS (lk1 rfl (lk1 rfl (lk1 rfl (lk1 rfl (lk1 rfl (lk1 rfl lk0)))))) (J172_21 M44 x45 IM44 FM44 (by omega) (by omega) ((congrArg (fun e => o_f e 1) (UM44.1 _ (g_ne hk_k0 hk_b41 (by decide)))).trans ((congrArg (fun e => o_f e 1) (Fr.at GM42 hk_k0 (by decide))).trans fx11)))
            · skip
              refine PW.incN q_42_122 rfl (by decide) (by decide) (by omega) (by omega) fun x46 hx46 => ?_
              refine PW.aload_n q_42_125 rfl ?_
              refine PW.gRk q_42_126 (Or.inl t_ft_42_24) gF_14_5 hk_k0 IML42_15_8.1 (by decide) fun b47 hk_b47 e_b47 => ?_
              refine PW.iload q_42_129 rfl ?_
              refine PW.cI q_42_131 (by decide) fun c48 hc48 => ?_
              refine PW.subN q_42_132 (by omega) (by omega) fun x49 hx49 => ?_
              refine PW.dup2 q_42_133 rfl rfl ?_
              refine PW.aH q_42_134 gA_18 hk_b47 IML42_15_8.1 (by decide) (by omega) (by omega) fun x50 fx50 => ?_
              refine PW.aload_n q_42_135 rfl ?_
              refine PW.gRk q_42_136 (Or.inl t_ft_42_24) gF_14_5 hk_k0 IML42_15_8.1 (by decide) fun b51 hk_b51 e_b51 => ?_
              refine PW.iload q_42_139 rfl ?_
              refine PW.aH q_42_141 gA_18 hk_b51 IML42_15_8.1 (by decide) (by omega) (by omega) fun x52 fx52 => ?_
              refine PW.orH q_42_142 fun x53 => ?_
              refine PW.wI q_42_143 gA_18 hk_b47 hV IML42_15_8 (by decide) rfl gC_18_0_38 (by decide) (by omega) (by omega) (n_lo _) (n_hi _) fun M54 IM54 fM54 UM54 => ?_
              have FM54 := Fr.pu FML42_15_8 UM54.1 hk_b47 (rfl : List.contains [18] 18 = true)
              refine PW.goto q_42_144 rfl ?_
              exact PW.lvS (lk1 rfl (lk1 rfl (lk1 rfl (lk1 rfl (lk1 rfl (lk1 rfl lk0)))))) (J172_21 M54 x46 IM54 FM54 (by omega) (by omega) ((congrArg (fun e => o_f e 1) (UM54.1 _ (g_ne hk_k0 hk_b47 (by decide)))).trans fx11))
        · skip
          refine PW.iload q_42_72 rfl ?_
          refine PW.cI q_42_74 (by decide) fun c55 hc55 => ?_
          refine PW.jc_lt q_42_75 rfl (fun h56 => ?_) (fun h56 => ?_)
          · skip
            refine PW.aload_n q_42_103 rfl ?_
            refine PW.gRk q_42_104 (Or.inl t_ft_42_13) gF_14_2 hk_k0 IML42_15_8.1 (by decide) fun b57 hk_b57 e_b57 => ?_
            refine PW.iload q_42_107 rfl ?_
            refine PW.aW q_42_109 rfl (by decide) (by decide) hk_b57 IML42_15_8.1 (by decide) (by omega) (by omega) fun r58 hr58 fr58 => ?_
            refine PW.gets q_42_110 t_st_42_54 ?_
            refine PW.ja_ne (rx := r58) (ry := (some (65536 + 17))) q_42_113 rfl (fun h59 => ?_) (fun h59 => ?_)
            · skip
              refine PW.iload q_42_147 rfl ?_
              refine PW.cB q_42_149 (by decide) fun c60 hc60 => ?_
              refine PW.jc_ge q_42_151 rfl (fun h61 => False.elim (by omega)) (fun h61 => ?_)
              refine PW.aload_n q_42_154 rfl ?_
              refine PW.gRk q_42_155 (Or.inl t_ft_42_24) gF_14_5 hk_k0 IML42_15_8.1 (by decide) fun b62 hk_b62 e_b62 => ?_
              refine PW.iload q_42_158 rfl ?_
              refine PW.aload_n q_42_160 rfl ?_
              refine PW.iload q_42_161 rfl ?_
              refine PW.aload_n q_42_163 rfl ?_
              refine PW.aload_n q_42_164 rfl ?_
              refine PW.cV (as := [_, _, _]) (rest := [_, _]) q_42_165 t_mv_42_145 hk_k0 IML42_15_8.1 (by decide) rfl (by decide) rfl rfl (Nat.le_of_ble_eq_true rfl) (Nat.le_of_ble_eq_true rfl) (by decide) (by decide) ?_
              refine PW.up (by decide) (c_X4_plainBits (V) (hV) G _ ML42_15_8 IML42_15_8 k0 hk_k0 v10 k1 hk_k1 k2 hk_k2 (by omega) (by omega) fun x64 M63 IM63 GM63 => ?_)
              have FM63 := Fr.trans FML42_15_8 GM63 (rfl)
              refine PW.wI q_42_168 gA_18 hk_b62 hV IM63 (by decide) rfl gC_18_0_1 (by decide) (by omega) (by omega) (n_lo _) (n_hi _) fun M65 IM65 fM65 UM65 => ?_
              have FM65 := Fr.pu FM63 UM65.1 hk_b62 (rfl : List.contains [18] 18 = true)
              refine PW.incN q_42_169 rfl (by decide) (by decide) (by omega) (by omega) fun x66 hx66 => ?_
              exact PW.lvS (lk1 rfl (lk1 rfl (lk1 rfl (lk1 rfl (lk1 rfl (lk1 rfl lk0)))))) (J172_21 M65 x66 IM65 FM65 (by omega) (by omega) ((congrArg (fun e => o_f e 1) (UM65.1 _ (g_ne hk_k0 hk_b62 (by decide)))).trans ((congrArg (fun e => o_f e 1) (Fr.at GM63 hk_k0 (by decide))).trans fx11)))
            · skip
              refine PW.iload q_42_116 rfl ?_
              refine PW.cI q_42_118 (by decide) fun c67 hc67 => ?_
              refine PW.jc_lt q_42_119 rfl (fun h68 => ?_) (fun h68 => False.elim (by omega))
              refine PW.iload q_42_147 rfl ?_
              refine PW.cB q_42_149 (by decide) fun c69 hc69 => ?_
              refine PW.jc_ge q_42_151 rfl (fun h70 => False.elim (by omega)) (fun h70 => ?_)
              refine PW.aload_n q_42_154 rfl ?_
              refine PW.gRk q_42_155 (Or.inl t_ft_42_24) gF_14_5 hk_k0 IML42_15_8.1 (by decide) fun b71 hk_b71 e_b71 => ?_
              refine PW.iload q_42_158 rfl ?_
              refine PW.aload_n q_42_160 rfl ?_
              refine PW.iload q_42_161 rfl ?_
              refine PW.aload_n q_42_163 rfl ?_
              refine PW.aload_n q_42_164 rfl ?_
              refine PW.cV (as := [_, _, _]) (rest := [_, _]) q_42_165 t_mv_42_145 hk_k0 IML42_15_8.1 (by decide) rfl (by decide) rfl rfl (Nat.le_of_ble_eq_true rfl) (Nat.le_of_ble_eq_true rfl) (by decide) (by decide) ?_
              refine PW.up (by decide) (c_X4_plainBits (V) (hV) G _ ML42_15_8 IML42_15_8 k0 hk_k0 v10 k1 hk_k1 k2 hk_k2 (by omega) (by omega) fun x73 M72 IM72 GM72 => ?_)
              have FM72 := Fr.trans FML42_15_8 GM72 (rfl)
              refine PW.wI q_42_168 gA_18 hk_b71 hV IM72 (by decide) rfl gC_18_0_1 (by decide) (by omega) (by omega) (n_lo _) (n_hi _) fun M74 IM74 fM74 UM74 => ?_
              have FM74 := Fr.pu FM72 UM74.1 hk_b71 (rfl : List.contains [18] 18 = true)
              refine PW.incN q_42_169 rfl (by decide) (by decide) (by omega) (by omega) fun x75 hx75 => ?_
              exact PW.lvS (lk1 rfl (lk1 rfl (lk1 rfl (lk1 rfl (lk1 rfl (lk1 rfl lk0)))))) (J172_21 M74 x75 IM74 FM74 (by omega) (by omega) ((congrArg (fun e => o_f e 1) (UM74.1 _ (g_ne hk_k0 hk_b71 (by decide)))).trans ((congrArg (fun e => o_f e 1) (Fr.at GM72 hk_k0 (by decide))).trans fx11)))
          · skip
            refine PW.incN q_42_78 rfl (by decide) (by decide) (by omega) (by omega) fun x76 hx76 => ?_
            refine PW.aload_n q_42_81 rfl ?_
            refine PW.gRk q_42_82 (Or.inl t_ft_42_24) gF_14_5 hk_k0 IML42_15_8.1 (by decide) fun b77 hk_b77 e_b77 => ?_
            refine PW.iload q_42_85 rfl ?_
            refine PW.cI q_42_87 (by decide) fun c78 hc78 => ?_
            refine PW.subN q_42_88 (by have := n_lo x76; have := n_hi x76; omega) (by have := n_lo x76; have := n_hi x76; omega) fun x79 hx79 => ?_
            refine PW.dup2 q_42_89 rfl rfl ?_
            refine PW.aH q_42_90 gA_18 hk_b77 IML42_15_8.1 (by decide) (by omega) (by omega) fun x80 fx80 => ?_
            refine PW.aload_n q_42_91 rfl ?_
            refine PW.gRk q_42_92 (Or.inl t_ft_42_24) gF_14_5 hk_k0 IML42_15_8.1 (by decide) fun b81 hk_b81 e_b81 => ?_
            refine PW.iload q_42_95 rfl ?_
            refine PW.aH q_42_97 gA_18 hk_b81 IML42_15_8.1 (by decide) (by omega) (by omega) fun x82 fx82 => ?_
            refine PW.andH q_42_98 fun x83 => ?_
            refine PW.wI q_42_99 gA_18 hk_b77 hV IML42_15_8 (by decide) rfl gC_18_0_38 (by decide) (by omega) (by omega) (n_lo _) (n_hi _) fun M84 IM84 fM84 UM84 => ?_
            have FM84 := Fr.pu FML42_15_8 UM84.1 hk_b77 (rfl : List.contains [18] 18 = true)
            refine PW.goto q_42_100 rfl ?_
            exact PW.lvS (lk1 rfl (lk1 rfl (lk1 rfl (lk1 rfl (lk1 rfl (lk1 rfl lk0)))))) (J172_21 M84 x76 IM84 FM84 (by omega) (by omega) ((congrArg (fun e => o_f e 1) (UM84.1 _ (g_ne hk_k0 hk_b77 (by decide)))).trans fx11))
      · skip
        refine PW.iload q_42_37 rfl ?_
        refine PW.cI q_42_39 (by decide) fun c85 hc85 => ?_
        refine PW.jc_lt q_42_40 rfl (fun h86 => ?_) (fun h86 => ?_)
        · skip
          refine PW.aload_n q_42_59 rfl ?_
          refine PW.gRk q_42_60 (Or.inl t_ft_42_13) gF_14_2 hk_k0 IML42_15_8.1 (by decide) fun b87 hk_b87 e_b87 => ?_
          refine PW.iload q_42_63 rfl ?_
          refine PW.aW q_42_65 rfl (by decide) (by decide) hk_b87 IML42_15_8.1 (by decide) (by omega) (by omega) fun r88 hr88 fr88 => ?_
          refine PW.gets q_42_66 t_st_42_69 ?_
          refine PW.ja_ne (rx := r88) (ry := (some (65536 + 18))) q_42_69 rfl (fun h89 => ?_) (fun h89 => ?_)
          · skip
            refine PW.aload_n q_42_103 rfl ?_
            refine PW.gRk q_42_104 (Or.inl t_ft_42_13) gF_14_2 hk_k0 IML42_15_8.1 (by decide) fun b90 hk_b90 e_b90 => ?_
            refine PW.iload q_42_107 rfl ?_
            refine PW.aW q_42_109 rfl (by decide) (by decide) hk_b90 IML42_15_8.1 (by decide) (by omega) (by omega) fun r91 hr91 fr91 => ?_
            refine PW.gets q_42_110 t_st_42_54 ?_
            refine PW.ja_ne (rx := r91) (ry := (some (65536 + 17))) q_42_113 rfl (fun h92 => ?_) (fun h92 => ?_)
            · skip
              refine PW.iload q_42_147 rfl ?_
              refine PW.cB q_42_149 (by decide) fun c93 hc93 => ?_
              refine PW.jc_ge q_42_151 rfl (fun h94 => False.elim (by omega)) (fun h94 => ?_)
              refine PW.aload_n q_42_154 rfl ?_
              refine PW.gRk q_42_155 (Or.inl t_ft_42_24) gF_14_5 hk_k0 IML42_15_8.1 (by decide) fun b95 hk_b95 e_b95 => ?_
              refine PW.iload q_42_158 rfl ?_
              refine PW.aload_n q_42_160 rfl ?_
              refine PW.iload q_42_161 rfl ?_
              refine PW.aload_n q_42_163 rfl ?_
              refine PW.aload_n q_42_164 rfl ?_
              refine PW.cV (as := [_, _, _]) (rest := [_, _]) q_42_165 t_mv_42_145 hk_k0 IML42_15_8.1 (by decide) rfl (by decide) rfl rfl (Nat.le_of_ble_eq_true rfl) (Nat.le_of_ble_eq_true rfl) (by decide) (by decide) ?_
              refine PW.up (by decide) (c_X4_plainBits (V) (hV) G _ ML42_15_8 IML42_15_8 k0 hk_k0 v10 k1 hk_k1 k2 hk_k2 (by omega) (by omega) fun x97 M96 IM96 GM96 => ?_)
              have FM96 := Fr.trans FML42_15_8 GM96 (rfl)
              refine PW.wI q_42_168 gA_18 hk_b95 hV IM96 (by decide) rfl gC_18_0_0 (by decide) (by omega) (by omega) (n_lo _) (n_hi _) fun M98 IM98 fM98 UM98 => ?_
              have FM98 := Fr.pu FM96 UM98.1 hk_b95 (rfl : List.contains [18] 18 = true)
              refine PW.incN q_42_169 rfl (by decide) (by decide) (by omega) (by omega) fun x99 hx99 => ?_
              exact PW.lvS (lk1 rfl (lk1 rfl (lk1 rfl (lk1 rfl (lk1 rfl (lk1 rfl lk0)))))) (J172_21 M98 x99 IM98 FM98 (by omega) (by omega) ((congrArg (fun e => o_f e 1) (UM98.1 _ (g_ne hk_k0 hk_b95 (by decide)))).trans ((congrArg (fun e => o_f e 1) (Fr.at GM96 hk_k0 (by decide))).trans fx11)))
            · skip
              refine PW.iload q_42_116 rfl ?_
              refine PW.cI q_42_118 (by decide) fun c100 hc100 => ?_
              refine PW.jc_lt q_42_119 rfl (fun h101 => ?_) (fun h101 => False.elim (by omega))
              refine PW.iload q_42_147 rfl ?_
              refine PW.cB q_42_149 (by decide) fun c102 hc102 => ?_
              refine PW.jc_ge q_42_151 rfl (fun h103 => False.elim (by omega)) (fun h103 => ?_)
              refine PW.aload_n q_42_154 rfl ?_
              refine PW.gRk q_42_155 (Or.inl t_ft_42_24) gF_14_5 hk_k0 IML42_15_8.1 (by decide) fun b104 hk_b104 e_b104 => ?_
              refine PW.iload q_42_158 rfl ?_
              refine PW.aload_n q_42_160 rfl ?_
              refine PW.iload q_42_161 rfl ?_
              refine PW.aload_n q_42_163 rfl ?_
              refine PW.aload_n q_42_164 rfl ?_
              refine PW.cV (as := [_, _, _]) (rest := [_, _]) q_42_165 t_mv_42_145 hk_k0 IML42_15_8.1 (by decide) rfl (by decide) rfl rfl (Nat.le_of_ble_eq_true rfl) (Nat.le_of_ble_eq_true rfl) (by decide) (by decide) ?_
              refine PW.up (by decide) (c_X4_plainBits (V) (hV) G _ ML42_15_8 IML42_15_8 k0 hk_k0 v10 k1 hk_k1 k2 hk_k2 (by omega) (by omega) fun x106 M105 IM105 GM105 => ?_)
              have FM105 := Fr.trans FML42_15_8 GM105 (rfl)
              refine PW.wI q_42_168 gA_18 hk_b104 hV IM105 (by decide) rfl gC_18_0_0 (by decide) (by omega) (by omega) (n_lo _) (n_hi _) fun M107 IM107 fM107 UM107 => ?_
              have FM107 := Fr.pu FM105 UM107.1 hk_b104 (rfl : List.contains [18] 18 = true)
              refine PW.incN q_42_169 rfl (by decide) (by decide) (by omega) (by omega) fun x108 hx108 => ?_
              exact PW.lvS (lk1 rfl (lk1 rfl (lk1 rfl (lk1 rfl (lk1 rfl (lk1 rfl lk0)))))) (J172_21 M107 x108 IM107 FM107 (by omega) (by omega) ((congrArg (fun e => o_f e 1) (UM107.1 _ (g_ne hk_k0 hk_b104 (by decide)))).trans ((congrArg (fun e => o_f e 1) (Fr.at GM105 hk_k0 (by decide))).trans fx11)))
          · skip
            refine PW.iload q_42_72 rfl ?_
            refine PW.cI q_42_74 (by decide) fun c109 hc109 => ?_
            refine PW.jc_lt q_42_75 rfl (fun h110 => ?_) (fun h110 => False.elim (by omega))
            refine PW.aload_n q_42_103 rfl ?_
            refine PW.gRk q_42_104 (Or.inl t_ft_42_13) gF_14_2 hk_k0 IML42_15_8.1 (by decide) fun b111 hk_b111 e_b111 => ?_
            refine PW.iload q_42_107 rfl ?_
            refine PW.aW q_42_109 rfl (by decide) (by decide) hk_b111 IML42_15_8.1 (by decide) (by omega) (by omega) fun r112 hr112 fr112 => ?_
            refine PW.gets q_42_110 t_st_42_54 ?_
            refine PW.ja_ne (rx := r112) (ry := (some (65536 + 17))) q_42_113 rfl (fun h113 => ?_) (fun h113 => ?_)
            · skip
              refine PW.iload q_42_147 rfl ?_
              refine PW.cB q_42_149 (by decide) fun c114 hc114 => ?_
              refine PW.jc_ge q_42_151 rfl (fun h115 => False.elim (by omega)) (fun h115 => ?_)
              refine PW.aload_n q_42_154 rfl ?_
              refine PW.gRk q_42_155 (Or.inl t_ft_42_24) gF_14_5 hk_k0 IML42_15_8.1 (by decide) fun b116 hk_b116 e_b116 => ?_
              refine PW.iload q_42_158 rfl ?_
              refine PW.aload_n q_42_160 rfl ?_
              refine PW.iload q_42_161 rfl ?_
              refine PW.aload_n q_42_163 rfl ?_
              refine PW.aload_n q_42_164 rfl ?_
              refine PW.cV (as := [_, _, _]) (rest := [_, _]) q_42_165 t_mv_42_145 hk_k0 IML42_15_8.1 (by decide) rfl (by decide) rfl rfl (Nat.le_of_ble_eq_true rfl) (Nat.le_of_ble_eq_true rfl) (by decide) (by decide) ?_
              refine PW.up (by decide) (c_X4_plainBits (V) (hV) G _ ML42_15_8 IML42_15_8 k0 hk_k0 v10 k1 hk_k1 k2 hk_k2 (by omega) (by omega) fun x118 M117 IM117 GM117 => ?_)
              have FM117 := Fr.trans FML42_15_8 GM117 (rfl)
              refine PW.wI q_42_168 gA_18 hk_b116 hV IM117 (by decide) rfl gC_18_0_0 (by decide) (by omega) (by omega) (n_lo _) (n_hi _) fun M119 IM119 fM119 UM119 => ?_
              have FM119 := Fr.pu FM117 UM119.1 hk_b116 (rfl : List.contains [18] 18 = true)
              refine PW.incN q_42_169 rfl (by decide) (by decide) (by omega) (by omega) fun x120 hx120 => ?_
              exact PW.lvS (lk1 rfl (lk1 rfl (lk1 rfl (lk1 rfl (lk1 rfl (lk1 rfl lk0)))))) (J172_21 M119 x120 IM119 FM119 (by omega) (by omega) ((congrArg (fun e => o_f e 1) (UM119.1 _ (g_ne hk_k0 hk_b116 (by decide)))).trans ((congrArg (fun e => o_f e 1) (Fr.at GM117 hk_k0 (by decide))).trans fx11)))
            · skip
              refine PW.iload q_42_116 rfl ?_
              refine PW.cI q_42_118 (by decide) fun c121 hc121 => ?_
              refine PW.jc_lt q_42_119 rfl (fun h122 => ?_) (fun h122 => False.elim (by omega))
              refine PW.iload q_42_147 rfl ?_
              refine PW.cB q_42_149 (by decide) fun c123 hc123 => ?_
              refine PW.jc_ge q_42_151 rfl (fun h124 => False.elim (by omega)) (fun h124 => ?_)
              refine PW.aload_n q_42_154 rfl ?_
              refine PW.gRk q_42_155 (Or.inl t_ft_42_24) gF_14_5 hk_k0 IML42_15_8.1 (by decide) fun b125 hk_b125 e_b125 => ?_
              refine PW.iload q_42_158 rfl ?_
              refine PW.aload_n q_42_160 rfl ?_
              refine PW.iload q_42_161 rfl ?_
              refine PW.aload_n q_42_163 rfl ?_
              refine PW.aload_n q_42_164 rfl ?_
              refine PW.cV (as := [_, _, _]) (rest := [_, _]) q_42_165 t_mv_42_145 hk_k0 IML42_15_8.1 (by decide) rfl (by decide) rfl rfl (Nat.le_of_ble_eq_true rfl) (Nat.le_of_ble_eq_true rfl) (by decide) (by decide) ?_
              refine PW.up (by decide) (c_X4_plainBits (V) (hV) G _ ML42_15_8 IML42_15_8 k0 hk_k0 v10 k1 hk_k1 k2 hk_k2 (by omega) (by omega) fun x127 M126 IM126 GM126 => ?_)
              have FM126 := Fr.trans FML42_15_8 GM126 (rfl)
              refine PW.wI q_42_168 gA_18 hk_b125 hV IM126 (by decide) rfl gC_18_0_0 (by decide) (by omega) (by omega) (n_lo _) (n_hi _) fun M128 IM128 fM128 UM128 => ?_
              have FM128 := Fr.pu FM126 UM128.1 hk_b125 (rfl : List.contains [18] 18 = true)
              refine PW.incN q_42_169 rfl (by decide) (by decide) (by omega) (by omega) fun x129 hx129 => ?_
              exact PW.lvS (lk1 rfl (lk1 rfl (lk1 rfl (lk1 rfl (lk1 rfl (lk1 rfl lk0)))))) (J172_21 M128 x129 IM128 FM128 (by omega) (by omega) ((congrArg (fun e => o_f e 1) (UM128.1 _ (g_ne hk_k0 hk_b125 (by decide)))).trans ((congrArg (fun e => o_f e 1) (Fr.at GM126 hk_k0 (by decide))).trans fx11)))
        · skip
          refine PW.aload_n q_42_43 rfl ?_
          refine PW.gRk q_42_44 (Or.inl t_ft_42_24) gF_14_5 hk_k0 IML42_15_8.1 (by decide) fun b130 hk_b130 e_b130 => ?_
          refine PW.iload q_42_47 rfl ?_
          refine PW.cI q_42_49 (by decide) fun c131 hc131 => ?_
          refine PW.subN q_42_50 (by omega) (by omega) fun x132 hx132 => ?_
          refine PW.dup2 q_42_51 rfl rfl ?_
          refine PW.aH q_42_52 gA_18 hk_b130 IML42_15_8.1 (by decide) (by omega) (by omega) fun x133 fx133 => ?_
          refine PW.iload_n q_42_53 rfl ?_
          refine PW.xorH q_42_54 fun x134 => ?_
          refine PW.wI q_42_55 gA_18 hk_b130 hV IML42_15_8 (by decide) rfl gC_18_0_39 (by decide) (by omega) (by omega) (n_lo _) (n_hi _) fun M135 IM135 fM135 UM135 => ?_
          have FM135 := Fr.pu FML42_15_8 UM135.1 hk_b130 (rfl : List.contains [18] 18 = true)
          refine PW.goto q_42_56 rfl ?_
          exact PW.lvS (lk1 rfl (lk1 rfl (lk1 rfl (lk1 rfl (lk1 rfl (lk1 rfl lk0)))))) (J172_21 M135 v9 IM135 FM135 (by omega) (by omega) ((congrArg (fun e => o_f e 1) (UM135.1 _ (g_ne hk_k0 hk_b130 (by decide)))).trans fx11))
  exact PW.lvS (lk1 rfl (lk1 rfl (lk1 rfl (lk1 rfl (lk1 rfl (lk1 rfl lk0)))))) (L42_15_8 _ M c6 c7 I F (by omega) (by omega) (by omega) (by omega) rfl)
