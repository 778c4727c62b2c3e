theorem q_175_0 : p_tb 175 0 = some (.iload_n 0, 1) := by decide +kernel
theorem q_175_1 : p_tb 175 1 = some (.bipush 97, 2) := by decide +kernel
theorem q_175_3 : p_tb 175 3 = some (.if_icmp .lt 13, 3) := by decide +kernel
theorem q_175_6 : p_tb 175 6 = some (.iload_n 0, 1) := by decide +kernel
theorem q_175_7 : p_tb 175 7 = some (.bipush 122, 2) := by decide +kernel
theorem q_175_9 : p_tb 175 9 = some (.if_icmp .gt 7, 3) := by decide +kernel
theorem q_175_12 : p_tb 175 12 = some (.iconst 1, 1) := by decide +kernel
theorem q_175_13 : p_tb 175 13 = some (.goto 4, 3) := by decide +kernel
theorem q_175_16 : p_tb 175 16 = some (.iconst 0, 1) := by decide +kernel
theorem q_175_17 : p_tb 175 17 = some (.ireturn, 1) := by decide +kernel
theorem q_176_0 : p_tb 176 0 = some (.iload_n 0, 1) := by decide +kernel
theorem q_176_1 : p_tb 176 1 = some (.bipush 48, 2) := by decide +kernel
theorem q_176_3 : p_tb 176 3 = some (.if_icmp .lt 13, 3) := by decide +kernel
theorem q_176_6 : p_tb 176 6 = some (.iload_n 0, 1) := by decide +kernel
theorem q_176_7 : p_tb 176 7 = some (.bipush 57, 2) := by decide +kernel
theorem q_176_9 : p_tb 176 9 = some (.if_icmp .gt 7, 3) := by decide +kernel
theorem q_176_12 : p_tb 176 12 = some (.iconst 1, 1) := by decide +kernel
theorem q_176_13 : p_tb 176 13 = some (.goto 4, 3) := by decide +kernel
theorem q_176_16 : p_tb 176 16 = some (.iconst 0, 1) := by decide +kernel
theorem q_176_17 : p_tb 176 17 = some (.ireturn, 1) := by decide +kernel
theorem q_166_0 : p_tb 166 0 = some (.iload_n 0, 1) := by decide +kernel
theorem q_166_1 : p_tb 166 1 = some (.iload_n 1, 1) := by decide +kernel
theorem q_166_2 : p_tb 166 2 = some (.if_icmp .lt 12, 3) := by decide +kernel
theorem q_166_5 : p_tb 166 5 = some (.iload_n 0, 1) := by decide +kernel
theorem q_166_6 : p_tb 166 6 = some (.iload_n 2, 1) := by decide +kernel
theorem q_166_7 : p_tb 166 7 = some (.if_icmp .gt 7, 3) := by decide +kernel
theorem q_166_10 : p_tb 166 10 = some (.iconst 1, 1) := by decide +kernel
theorem q_166_11 : p_tb 166 11 = some (.goto 4, 3) := by decide +kernel
theorem q_166_14 : p_tb 166 14 = some (.iconst 0, 1) := by decide +kernel
theorem q_166_15 : p_tb 166 15 = some (.ireturn, 1) := by decide +kernel
theorem q_167_0 : p_tb 167 0 = some (.iload_n 0, 1) := by decide +kernel
theorem q_167_1 : p_tb 167 1 = some (.iload_n 1, 1) := by decide +kernel
theorem q_167_2 : p_tb 167 2 = some (.ishr, 1) := by decide +kernel
theorem q_167_3 : p_tb 167 3 = some (.iconst 1, 1) := by decide +kernel
theorem q_167_4 : p_tb 167 4 = some (.iand, 1) := by decide +kernel
theorem q_167_5 : p_tb 167 5 = some (.iconst 1, 1) := by decide +kernel
theorem q_167_6 : p_tb 167 6 = some (.if_icmp .ne 7, 3) := by decide +kernel
theorem q_167_9 : p_tb 167 9 = some (.iconst 1, 1) := by decide +kernel
theorem q_167_10 : p_tb 167 10 = some (.goto 4, 3) := by decide +kernel
theorem q_167_13 : p_tb 167 13 = some (.iconst 0, 1) := by decide +kernel
theorem q_167_14 : p_tb 167 14 = some (.ireturn, 1) := by decide +kernel
theorem q_174_0 : p_tb 174 0 = some (.aload_n 0, 1) := by decide +kernel
theorem q_174_1 : p_tb 174 1 = some (.getfield 21, 3) := by decide +kernel
theorem q_174_4 : p_tb 174 4 = some (.aload_n 0, 1) := by decide +kernel
theorem q_174_5 : p_tb 174 5 = some (.getfield 18, 3) := by decide +kernel
theorem q_174_8 : p_tb 174 8 = some (.if_icmp .ge 19, 3) := by decide +kernel
theorem q_174_11 : p_tb 174 11 = some (.aload_n 0, 1) := by decide +kernel
theorem q_174_12 : p_tb 174 12 = some (.getfield 14, 3) := by decide +kernel
theorem q_174_15 : p_tb 174 15 = some (.aload_n 0, 1) := by decide +kernel
theorem q_174_16 : p_tb 174 16 = some (.getfield 21, 3) := by decide +kernel
theorem q_174_19 : p_tb 174 19 = some (.baload, 1) := by decide +kernel
theorem q_174_20 : p_tb 174 20 = some (.sipush 255, 3) := by decide +kernel
theorem q_174_23 : p_tb 174 23 = some (.iand, 1) := by decide +kernel
theorem q_174_24 : p_tb 174 24 = some (.goto 4, 3) := by decide +kernel
theorem q_174_27 : p_tb 174 27 = some (.iconst (-1), 1) := by decide +kernel
theorem q_174_28 : p_tb 174 28 = some (.ireturn, 1) := by decide +kernel
theorem t_ft_174_14 : p_f2 p_ft (p_mK 174) 14 = some (11, 1) := by decide +kernel
theorem t_ft_174_18 : p_f2 p_ft (p_mK 174) 18 = some (11, 3) := by decide +kernel
theorem t_ft_174_21 : p_f2 p_ft (p_mK 174) 21 = some (11, 4) := by decide +kernel
theorem q_177_0 : p_tb 177 0 = some (.aload_n 0, 1) := by decide +kernel
theorem q_177_1 : p_tb 177 1 = some (.invokevirtual 134, 3) := by decide +kernel
theorem q_177_4 : p_tb 177 4 = some (.bipush 32, 2) := by decide +kernel
theorem q_177_6 : p_tb 177 6 = some (.if_icmp .eq 12, 3) := by decide +kernel
theorem q_177_9 : p_tb 177 9 = some (.aload_n 0, 1) := by decide +kernel
theorem q_177_10 : p_tb 177 10 = some (.invokevirtual 134, 3) := by decide +kernel
theorem q_177_13 : p_tb 177 13 = some (.bipush 10, 2) := by decide +kernel
theorem q_177_15 : p_tb 177 15 = some (.if_icmp .ne 16, 3) := by decide +kernel
theorem q_177_18 : p_tb 177 18 = some (.aload_n 0, 1) := by decide +kernel
theorem q_177_19 : p_tb 177 19 = some (.dup, 1) := by decide +kernel
theorem q_177_20 : p_tb 177 20 = some (.getfield 21, 3) := by decide +kernel
theorem q_177_23 : p_tb 177 23 = some (.iconst 1, 1) := by decide +kernel
theorem q_177_24 : p_tb 177 24 = some (.iadd, 1) := by decide +kernel
theorem q_177_25 : p_tb 177 25 = some (.putfield 21, 3) := by decide +kernel
theorem q_177_28 : p_tb 177 28 = some (.goto (-28), 3) := by decide +kernel
theorem q_177_31 : p_tb 177 31 = some (.aload_n 0, 1) := by decide +kernel
theorem q_177_32 : p_tb 177 32 = some (.aload_n 0, 1) := by decide +kernel
theorem q_177_33 : p_tb 177 33 = some (.getfield 21, 3) := by decide +kernel
theorem q_177_36 : p_tb 177 36 = some (.putfield 138, 3) := by decide +kernel
theorem q_177_39 : p_tb 177 39 = some (.aload_n 0, 1) := by decide +kernel
theorem q_177_40 : p_tb 177 40 = some (.iconst 0, 1) := by decide +kernel
theorem q_177_41 : p_tb 177 41 = some (.putfield 141, 3) := by decide +kernel
theorem q_177_44 : p_tb 177 44 = some (.aload_n 0, 1) := by decide +kernel
theorem q_177_45 : p_tb 177 45 = some (.getfield 18, 3) := by decide +kernel
theorem q_177_48 : p_tb 177 48 = some (.aload_n 0, 1) := by decide +kernel
theorem q_177_49 : p_tb 177 49 = some (.getfield 24, 3) := by decide +kernel
theorem q_177_52 : p_tb 177 52 = some (.if_icmp .le 28, 3) := by decide +kernel
theorem q_177_55 : p_tb 177 55 = some (.aload_n 0, 1) := by decide +kernel
theorem q_177_56 : p_tb 177 56 = some (.getfield 21, 3) := by decide +kernel
theorem q_177_59 : p_tb 177 59 = some (.aload_n 0, 1) := by decide +kernel
theorem q_177_60 : p_tb 177 60 = some (.getfield 24, 3) := by decide +kernel
theorem q_177_63 : p_tb 177 63 = some (.if_icmp .lt 17, 3) := by decide +kernel
theorem q_177_66 : p_tb 177 66 = some (.aload_n 0, 1) := by decide +kernel
theorem q_177_67 : p_tb 177 67 = some (.aload_n 0, 1) := by decide +kernel
theorem q_177_68 : p_tb 177 68 = some (.getfield 24, 3) := by decide +kernel
theorem q_177_71 : p_tb 177 71 = some (.putfield 138, 3) := by decide +kernel
theorem q_177_74 : p_tb 177 74 = some (.aload_n 0, 1) := by decide +kernel
theorem q_177_75 : p_tb 177 75 = some (.iconst 4, 1) := by decide +kernel
theorem q_177_76 : p_tb 177 76 = some (.putfield 144, 3) := by decide +kernel
theorem q_177_79 : p_tb 177 79 = some (.return_, 1) := by decide +kernel
theorem q_177_80 : p_tb 177 80 = some (.aload_n 0, 1) := by decide +kernel
theorem q_177_81 : p_tb 177 81 = some (.invokevirtual 134, 3) := by decide +kernel
theorem q_177_84 : p_tb 177 84 = some (.istore_n 1, 1) := by decide +kernel
theorem q_177_85 : p_tb 177 85 = some (.iload_n 1, 1) := by decide +kernel
theorem q_177_86 : p_tb 177 86 = some (.ifCond .ge 9, 3) := by decide +kernel
theorem q_177_89 : p_tb 177 89 = some (.aload_n 0, 1) := by decide +kernel
theorem q_177_90 : p_tb 177 90 = some (.iconst 0, 1) := by decide +kernel
theorem q_177_91 : p_tb 177 91 = some (.putfield 144, 3) := by decide +kernel
theorem q_177_94 : p_tb 177 94 = some (.return_, 1) := by decide +kernel
theorem q_177_95 : p_tb 177 95 = some (.iload_n 1, 1) := by decide +kernel
theorem q_177_96 : p_tb 177 96 = some (.invokestatic 147, 3) := by decide +kernel
theorem q_177_99 : p_tb 177 99 = some (.ifCond .ne 65, 3) := by decide +kernel
theorem q_177_102 : p_tb 177 102 = some (.iload_n 1, 1) := by decide +kernel
theorem q_177_103 : p_tb 177 103 = some (.invokestatic 151, 3) := by decide +kernel
theorem q_177_106 : p_tb 177 106 = some (.ifCond .ne 58, 3) := by decide +kernel
theorem q_177_109 : p_tb 177 109 = some (.aload_n 0, 1) := by decide +kernel
theorem q_177_110 : p_tb 177 110 = some (.iload_n 1, 1) := by decide +kernel
theorem q_177_111 : p_tb 177 111 = some (.bipush 59, 2) := by decide +kernel
theorem q_177_113 : p_tb 177 113 = some (.if_icmp .eq 27, 3) := by decide +kernel
theorem q_177_116 : p_tb 177 116 = some (.iload_n 1, 1) := by decide +kernel
theorem q_177_117 : p_tb 177 117 = some (.bipush 40, 2) := by decide +kernel
theorem q_177_119 : p_tb 177 119 = some (.if_icmp .eq 21, 3) := by decide +kernel
theorem q_177_122 : p_tb 177 122 = some (.iload_n 1, 1) := by decide +kernel
theorem q_177_123 : p_tb 177 123 = some (.bipush 41, 2) := by decide +kernel
theorem q_177_125 : p_tb 177 125 = some (.if_icmp .eq 15, 3) := by decide +kernel
theorem q_177_128 : p_tb 177 128 = some (.iload_n 1, 1) := by decide +kernel
theorem q_177_129 : p_tb 177 129 = some (.bipush 60, 2) := by decide +kernel
theorem q_177_131 : p_tb 177 131 = some (.if_icmp .lt 13, 3) := by decide +kernel
theorem q_177_134 : p_tb 177 134 = some (.iload_n 1, 1) := by decide +kernel
theorem q_177_135 : p_tb 177 135 = some (.bipush 62, 2) := by decide +kernel
theorem q_177_137 : p_tb 177 137 = some (.if_icmp .gt 7, 3) := by decide +kernel
theorem q_177_140 : p_tb 177 140 = some (.iconst 3, 1) := by decide +kernel
theorem q_177_141 : p_tb 177 141 = some (.goto 4, 3) := by decide +kernel
theorem q_177_144 : p_tb 177 144 = some (.iconst 4, 1) := by decide +kernel
theorem q_177_145 : p_tb 177 145 = some (.putfield 144, 3) := by decide +kernel
theorem q_177_148 : p_tb 177 148 = some (.aload_n 0, 1) := by decide +kernel
theorem q_177_149 : p_tb 177 149 = some (.iload_n 1, 1) := by decide +kernel
theorem q_177_150 : p_tb 177 150 = some (.putfield 154, 3) := by decide +kernel
theorem q_177_153 : p_tb 177 153 = some (.aload_n 0, 1) := by decide +kernel
theorem q_177_154 : p_tb 177 154 = some (.dup, 1) := by decide +kernel
theorem q_177_155 : p_tb 177 155 = some (.getfield 21, 3) := by decide +kernel
theorem q_177_158 : p_tb 177 158 = some (.iconst 1, 1) := by decide +kernel
theorem q_177_159 : p_tb 177 159 = some (.iadd, 1) := by decide +kernel
theorem q_177_160 : p_tb 177 160 = some (.putfield 21, 3) := by decide +kernel
theorem q_177_163 : p_tb 177 163 = some (.return_, 1) := by decide +kernel
theorem q_177_164 : p_tb 177 164 = some (.iload_n 1, 1) := by decide +kernel
theorem q_177_165 : p_tb 177 165 = some (.invokestatic 147, 3) := by decide +kernel
theorem q_177_168 : p_tb 177 168 = some (.istore_n 2, 1) := by decide +kernel
theorem q_177_169 : p_tb 177 169 = some (.iconst 1, 1) := by decide +kernel
theorem q_177_170 : p_tb 177 170 = some (.istore_n 3, 1) := by decide +kernel
theorem q_177_171 : p_tb 177 171 = some (.aload_n 0, 1) := by decide +kernel
theorem q_177_172 : p_tb 177 172 = some (.lconst 0, 1) := by decide +kernel
theorem q_177_173 : p_tb 177 173 = some (.putfield 157, 3) := by decide +kernel
theorem q_177_176 : p_tb 177 176 = some (.aload_n 0, 1) := by decide +kernel
theorem q_177_177 : p_tb 177 177 = some (.iconst 0, 1) := by decide +kernel
theorem q_177_178 : p_tb 177 178 = some (.putfield 154, 3) := by decide +kernel
theorem q_177_181 : p_tb 177 181 = some (.aload_n 0, 1) := by decide +kernel
theorem q_177_182 : p_tb 177 182 = some (.invokevirtual 134, 3) := by decide +kernel
theorem q_177_185 : p_tb 177 185 = some (.invokestatic 147, 3) := by decide +kernel
theorem q_177_188 : p_tb 177 188 = some (.ifCond .ne 13, 3) := by decide +kernel
theorem q_177_191 : p_tb 177 191 = some (.aload_n 0, 1) := by decide +kernel
theorem q_177_192 : p_tb 177 192 = some (.invokevirtual 134, 3) := by decide +kernel
theorem q_177_195 : p_tb 177 195 = some (.invokestatic 151, 3) := by decide +kernel
theorem q_177_198 : p_tb 177 198 = some (.ifCond .eq 100, 3) := by decide +kernel
theorem q_177_201 : p_tb 177 201 = some (.iload_n 3, 1) := by decide +kernel
theorem q_177_202 : p_tb 177 202 = some (.ifCond .eq 18, 3) := by decide +kernel
theorem q_177_205 : p_tb 177 205 = some (.aload_n 0, 1) := by decide +kernel
theorem q_177_206 : p_tb 177 206 = some (.invokevirtual 134, 3) := by decide +kernel
theorem q_177_209 : p_tb 177 209 = some (.invokestatic 147, 3) := by decide +kernel
theorem q_177_212 : p_tb 177 212 = some (.iload_n 2, 1) := by decide +kernel
theorem q_177_213 : p_tb 177 213 = some (.if_icmp .ne 7, 3) := by decide +kernel
theorem q_177_216 : p_tb 177 216 = some (.iconst 1, 1) := by decide +kernel
theorem q_177_217 : p_tb 177 217 = some (.goto 4, 3) := by decide +kernel
theorem q_177_220 : p_tb 177 220 = some (.iconst 0, 1) := by decide +kernel
theorem q_177_221 : p_tb 177 221 = some (.istore_n 3, 1) := by decide +kernel
theorem q_177_222 : p_tb 177 222 = some (.aload_n 0, 1) := by decide +kernel
theorem q_177_223 : p_tb 177 223 = some (.getfield 141, 3) := by decide +kernel
theorem q_177_226 : p_tb 177 226 = some (.bipush 7, 2) := by decide +kernel
theorem q_177_228 : p_tb 177 228 = some (.if_icmp .ge 20, 3) := by decide +kernel
theorem q_177_231 : p_tb 177 231 = some (.aload_n 0, 1) := by decide +kernel
theorem q_177_232 : p_tb 177 232 = some (.aload_n 0, 1) := by decide +kernel
theorem q_177_233 : p_tb 177 233 = some (.getfield 157, 3) := by decide +kernel
theorem q_177_236 : p_tb 177 236 = some (.bipush 8, 2) := by decide +kernel
theorem q_177_238 : p_tb 177 238 = some (.lshl, 1) := by decide +kernel
theorem q_177_239 : p_tb 177 239 = some (.aload_n 0, 1) := by decide +kernel
theorem q_177_240 : p_tb 177 240 = some (.invokevirtual 134, 3) := by decide +kernel
theorem q_177_243 : p_tb 177 243 = some (.i2l, 1) := by decide +kernel
theorem q_177_244 : p_tb 177 244 = some (.lor, 1) := by decide +kernel
theorem q_177_245 : p_tb 177 245 = some (.putfield 157, 3) := by decide +kernel
theorem q_177_248 : p_tb 177 248 = some (.aload_n 0, 1) := by decide +kernel
theorem q_177_249 : p_tb 177 249 = some (.getfield 141, 3) := by decide +kernel
theorem q_177_252 : p_tb 177 252 = some (.iconst 3, 1) := by decide +kernel
theorem q_177_253 : p_tb 177 253 = some (.if_icmp .ge 22, 3) := by decide +kernel
theorem q_177_256 : p_tb 177 256 = some (.aload_n 0, 1) := by decide +kernel
theorem q_177_257 : p_tb 177 257 = some (.bipush 10, 2) := by decide +kernel
theorem q_177_259 : p_tb 177 259 = some (.aload_n 0, 1) := by decide +kernel
theorem q_177_260 : p_tb 177 260 = some (.getfield 154, 3) := by decide +kernel
theorem q_177_263 : p_tb 177 263 = some (.imul, 1) := by decide +kernel
theorem q_177_264 : p_tb 177 264 = some (.aload_n 0, 1) := by decide +kernel
theorem q_177_265 : p_tb 177 265 = some (.invokevirtual 134, 3) := by decide +kernel
theorem q_177_268 : p_tb 177 268 = some (.iadd, 1) := by decide +kernel
theorem q_177_269 : p_tb 177 269 = some (.bipush 48, 2) := by decide +kernel
theorem q_177_271 : p_tb 177 271 = some (.isub, 1) := by decide +kernel
theorem q_177_272 : p_tb 177 272 = some (.putfield 154, 3) := by decide +kernel
theorem q_177_275 : p_tb 177 275 = some (.aload_n 0, 1) := by decide +kernel
theorem q_177_276 : p_tb 177 276 = some (.dup, 1) := by decide +kernel
theorem q_177_277 : p_tb 177 277 = some (.getfield 141, 3) := by decide +kernel
theorem q_177_280 : p_tb 177 280 = some (.iconst 1, 1) := by decide +kernel
theorem q_177_281 : p_tb 177 281 = some (.iadd, 1) := by decide +kernel
theorem q_177_282 : p_tb 177 282 = some (.putfield 141, 3) := by decide +kernel
theorem q_177_285 : p_tb 177 285 = some (.aload_n 0, 1) := by decide +kernel
theorem q_177_286 : p_tb 177 286 = some (.dup, 1) := by decide +kernel
theorem q_177_287 : p_tb 177 287 = some (.getfield 21, 3) := by decide +kernel
theorem q_177_290 : p_tb 177 290 = some (.iconst 1, 1) := by decide +kernel
theorem q_177_291 : p_tb 177 291 = some (.iadd, 1) := by decide +kernel
theorem q_177_292 : p_tb 177 292 = some (.putfield 21, 3) := by decide +kernel
theorem q_177_295 : p_tb 177 295 = some (.goto (-114), 3) := by decide +kernel
theorem q_177_298 : p_tb 177 298 = some (.aload_n 0, 1) := by decide +kernel
theorem q_177_299 : p_tb 177 299 = some (.iload_n 3, 1) := by decide +kernel
theorem q_177_300 : p_tb 177 300 = some (.ifCond .eq 20, 3) := by decide +kernel
theorem q_177_303 : p_tb 177 303 = some (.aload_n 0, 1) := by decide +kernel
theorem q_177_304 : p_tb 177 304 = some (.getfield 141, 3) := by decide +kernel
theorem q_177_307 : p_tb 177 307 = some (.iload_n 2, 1) := by decide +kernel
theorem q_177_308 : p_tb 177 308 = some (.ifCond .eq 8, 3) := by decide +kernel
theorem q_177_311 : p_tb 177 311 = some (.bipush 7, 2) := by decide +kernel
theorem q_177_313 : p_tb 177 313 = some (.goto 4, 3) := by decide +kernel
theorem q_177_316 : p_tb 177 316 = some (.iconst 3, 1) := by decide +kernel
theorem q_177_317 : p_tb 177 317 = some (.if_icmp .le 7, 3) := by decide +kernel
theorem q_177_320 : p_tb 177 320 = some (.iconst 4, 1) := by decide +kernel
theorem q_177_321 : p_tb 177 321 = some (.goto 12, 3) := by decide +kernel
theorem q_177_324 : p_tb 177 324 = some (.iload_n 2, 1) := by decide +kernel
theorem q_177_325 : p_tb 177 325 = some (.ifCond .eq 7, 3) := by decide +kernel
theorem q_177_328 : p_tb 177 328 = some (.iconst 1, 1) := by decide +kernel
theorem q_177_329 : p_tb 177 329 = some (.goto 4, 3) := by decide +kernel
theorem q_177_332 : p_tb 177 332 = some (.iconst 2, 1) := by decide +kernel
theorem q_177_333 : p_tb 177 333 = some (.putfield 144, 3) := by decide +kernel
theorem q_177_336 : p_tb 177 336 = some (.return_, 1) := by decide +kernel
theorem t_ft_177_138 : p_f2 p_ft (p_mK 177) 138 = some (11, 12) := by decide +kernel
theorem t_ft_177_141 : p_f2 p_ft (p_mK 177) 141 = some (11, 13) := by decide +kernel
theorem t_ft_177_144 : p_f2 p_ft (p_mK 177) 144 = some (11, 11) := by decide +kernel
theorem t_ft_177_154 : p_f2 p_ft (p_mK 177) 154 = some (11, 14) := by decide +kernel
theorem t_ft_177_157 : p_f2 p_ft (p_mK 177) 157 = some (11, 17) := by decide +kernel
theorem t_ft_177_18 : p_f2 p_ft (p_mK 177) 18 = some (11, 3) := by decide +kernel
theorem t_ft_177_21 : p_f2 p_ft (p_mK 177) 21 = some (11, 4) := by decide +kernel
theorem t_ft_177_24 : p_f2 p_ft (p_mK 177) 24 = some (11, 5) := by decide +kernel
theorem t_ms_177_147 : p_f2 p_ms (p_mK 177) 147 = some 175 := by decide +kernel
theorem t_ms_177_151 : p_f2 p_ms (p_mK 177) 151 = some 176 := by decide +kernel
theorem t_mv_177_134 : p_f2 p_mv (p_mK 177) 134 = some 174 := by decide +kernel
theorem q_165_0 : p_tb 165 0 = some (.aload_n 0, 1) := by decide +kernel
theorem q_165_1 : p_tb 165 1 = some (.aload_n 0, 1) := by decide +kernel
theorem q_165_2 : p_tb 165 2 = some (.getfield 7, 3) := by decide +kernel
theorem q_165_5 : p_tb 165 5 = some (.putfield 18, 3) := by decide +kernel
theorem q_165_8 : p_tb 165 8 = some (.aload_n 0, 1) := by decide +kernel
theorem q_165_9 : p_tb 165 9 = some (.iconst 0, 1) := by decide +kernel
theorem q_165_10 : p_tb 165 10 = some (.putfield 7, 3) := by decide +kernel
theorem q_165_13 : p_tb 165 13 = some (.aload_n 0, 1) := by decide +kernel
theorem q_165_14 : p_tb 165 14 = some (.iconst 0, 1) := by decide +kernel
theorem q_165_15 : p_tb 165 15 = some (.putfield 21, 3) := by decide +kernel
theorem q_165_18 : p_tb 165 18 = some (.aload_n 0, 1) := by decide +kernel
theorem q_165_19 : p_tb 165 19 = some (.iload_n 1, 1) := by decide +kernel
theorem q_165_20 : p_tb 165 20 = some (.putfield 24, 3) := by decide +kernel
theorem q_165_23 : p_tb 165 23 = some (.return_, 1) := by decide +kernel
theorem t_ft_165_18 : p_f2 p_ft (p_mK 165) 18 = some (11, 3) := by decide +kernel
theorem t_ft_165_21 : p_f2 p_ft (p_mK 165) 21 = some (11, 4) := by decide +kernel
theorem t_ft_165_24 : p_f2 p_ft (p_mK 165) 24 = some (11, 5) := by decide +kernel
theorem t_ft_165_7 : p_f2 p_ft (p_mK 165) 7 = some (11, 2) := by decide +kernel
theorem q_178_0 : p_tb 178 0 = some (.aload_n 0, 1) := by decide +kernel
theorem q_178_1 : p_tb 178 1 = some (.iload_n 1, 1) := by decide +kernel
theorem q_178_2 : p_tb 178 2 = some (.putfield 161, 3) := by decide +kernel
theorem q_178_5 : p_tb 178 5 = some (.aload_n 0, 1) := by decide +kernel
theorem q_178_6 : p_tb 178 6 = some (.aload_n 0, 1) := by decide +kernel
theorem q_178_7 : p_tb 178 7 = some (.getfield 138, 3) := by decide +kernel
theorem q_178_10 : p_tb 178 10 = some (.putfield 164, 3) := by decide +kernel
theorem q_178_13 : p_tb 178 13 = some (.iconst 0, 1) := by decide +kernel
theorem q_178_14 : p_tb 178 14 = some (.ireturn, 1) := by decide +kernel
theorem t_ft_178_138 : p_f2 p_ft (p_mK 178) 138 = some (11, 12) := by decide +kernel
theorem t_ft_178_161 : p_f2 p_ft (p_mK 178) 161 = some (11, 15) := by decide +kernel
theorem t_ft_178_164 : p_f2 p_ft (p_mK 178) 164 = some (11, 16) := by decide +kernel
theorem q_179_0 : p_tb 179 0 = some (.aload_n 0, 1) := by decide +kernel
theorem q_179_1 : p_tb 179 1 = some (.getfield 144, 3) := by decide +kernel
theorem q_179_4 : p_tb 179 4 = some (.iconst 1, 1) := by decide +kernel
theorem q_179_5 : p_tb 179 5 = some (.if_icmp .ne 16, 3) := by decide +kernel
theorem q_179_8 : p_tb 179 8 = some (.aload_n 0, 1) := by decide +kernel
theorem q_179_9 : p_tb 179 9 = some (.getfield 157, 3) := by decide +kernel
theorem q_179_12 : p_tb 179 12 = some (.lload_n 1, 1) := by decide +kernel
theorem q_179_13 : p_tb 179 13 = some (.lcmp, 1) := by decide +kernel
theorem q_179_14 : p_tb 179 14 = some (.ifCond .ne 7, 3) := by decide +kernel
theorem q_179_17 : p_tb 179 17 = some (.iconst 1, 1) := by decide +kernel
theorem q_179_18 : p_tb 179 18 = some (.goto 4, 3) := by decide +kernel
theorem q_179_21 : p_tb 179 21 = some (.iconst 0, 1) := by decide +kernel
theorem q_179_22 : p_tb 179 22 = some (.ireturn, 1) := by decide +kernel
theorem t_ft_179_144 : p_f2 p_ft (p_mK 179) 144 = some (11, 11) := by decide +kernel
theorem t_ft_179_157 : p_f2 p_ft (p_mK 179) 157 = some (11, 17) := by decide +kernel
theorem q_180_0 : p_tb 180 0 = some (.aload_n 0, 1) := by decide +kernel
theorem q_180_1 : p_tb 180 1 = some (.getfield 144, 3) := by decide +kernel
theorem q_180_4 : p_tb 180 4 = some (.iconst 3, 1) := by decide +kernel
theorem q_180_5 : p_tb 180 5 = some (.if_icmp .ne 15, 3) := by decide +kernel
theorem q_180_8 : p_tb 180 8 = some (.aload_n 0, 1) := by decide +kernel
theorem q_180_9 : p_tb 180 9 = some (.getfield 154, 3) := by decide +kernel
theorem q_180_12 : p_tb 180 12 = some (.iload_n 1, 1) := by decide +kernel
theorem q_180_13 : p_tb 180 13 = some (.if_icmp .ne 7, 3) := by decide +kernel
theorem q_180_16 : p_tb 180 16 = some (.iconst 1, 1) := by decide +kernel
theorem q_180_17 : p_tb 180 17 = some (.goto 4, 3) := by decide +kernel
theorem q_180_20 : p_tb 180 20 = some (.iconst 0, 1) := by decide +kernel
theorem q_180_21 : p_tb 180 21 = some (.ireturn, 1) := by decide +kernel
theorem t_ft_180_144 : p_f2 p_ft (p_mK 180) 144 = some (11, 11) := by decide +kernel
theorem t_ft_180_154 : p_f2 p_ft (p_mK 180) 154 = some (11, 14) := by decide +kernel
theorem q_181_0 : p_tb 181 0 = some (.aload_n 0, 1) := by decide +kernel
theorem q_181_1 : p_tb 181 1 = some (.iload_n 1, 1) := by decide +kernel
theorem q_181_2 : p_tb 181 2 = some (.invokevirtual 167, 3) := by decide +kernel
theorem q_181_5 : p_tb 181 5 = some (.ifCond .ne 9, 3) := by decide +kernel
theorem q_181_8 : p_tb 181 8 = some (.aload_n 0, 1) := by decide +kernel
theorem q_181_9 : p_tb 181 9 = some (.iconst 1, 1) := by decide +kernel
theorem q_181_10 : p_tb 181 10 = some (.invokevirtual 170, 3) := by decide +kernel
theorem q_181_13 : p_tb 181 13 = some (.ireturn, 1) := by decide +kernel
theorem q_181_14 : p_tb 181 14 = some (.aload_n 0, 1) := by decide +kernel
theorem q_181_15 : p_tb 181 15 = some (.invokevirtual 173, 3) := by decide +kernel
theorem q_181_18 : p_tb 181 18 = some (.iconst 1, 1) := by decide +kernel
theorem q_181_19 : p_tb 181 19 = some (.ireturn, 1) := by decide +kernel
theorem t_mv_181_167 : p_f2 p_mv (p_mK 181) 167 = some 180 := by decide +kernel
theorem t_mv_181_170 : p_f2 p_mv (p_mK 181) 170 = some 178 := by decide +kernel
theorem t_mv_181_173 : p_f2 p_mv (p_mK 181) 173 = some 177 := by decide +kernel
theorem q_182_0 : p_tb 182 0 = some (.aload_n 0, 1) := by decide +kernel
theorem q_182_1 : p_tb 182 1 = some (.getfield 144, 3) := by decide +kernel
theorem q_182_4 : p_tb 182 4 = some (.iconst 1, 1) := by decide +kernel
theorem q_182_5 : p_tb 182 5 = some (.if_icmp .ne 7, 3) := by decide +kernel
theorem q_182_8 : p_tb 182 8 = some (.iconst 1, 1) := by decide +kernel
theorem q_182_9 : p_tb 182 9 = some (.goto 4, 3) := by decide +kernel
theorem q_182_12 : p_tb 182 12 = some (.iconst 0, 1) := by decide +kernel
theorem q_182_13 : p_tb 182 13 = some (.istore_n 1, 1) := by decide +kernel
theorem q_182_14 : p_tb 182 14 = some (.iconst 0, 1) := by decide +kernel
theorem q_182_15 : p_tb 182 15 = some (.istore_n 2, 1) := by decide +kernel
theorem q_182_16 : p_tb 182 16 = some (.iload_n 2, 1) := by decide +kernel
theorem q_182_17 : p_tb 182 17 = some (.bipush 28, 2) := by decide +kernel
theorem q_182_19 : p_tb 182 19 = some (.if_icmp .ge 33, 3) := by decide +kernel
theorem q_182_22 : p_tb 182 22 = some (.iload_n 1, 1) := by decide +kernel
theorem q_182_23 : p_tb 182 23 = some (.ifCond .eq 21, 3) := by decide +kernel
theorem q_182_26 : p_tb 182 26 = some (.aload_n 0, 1) := by decide +kernel
theorem q_182_27 : p_tb 182 27 = some (.getfield 157, 3) := by decide +kernel
theorem q_182_30 : p_tb 182 30 = some (.aload_n 0, 1) := by decide +kernel
theorem q_182_31 : p_tb 182 31 = some (.getfield 47, 3) := by decide +kernel
theorem q_182_34 : p_tb 182 34 = some (.iload_n 2, 1) := by decide +kernel
theorem q_182_35 : p_tb 182 35 = some (.laload, 1) := by decide +kernel
theorem q_182_36 : p_tb 182 36 = some (.lcmp, 1) := by decide +kernel
theorem q_182_37 : p_tb 182 37 = some (.ifCond .eq 7, 3) := by decide +kernel
theorem q_182_40 : p_tb 182 40 = some (.iconst 1, 1) := by decide +kernel
theorem q_182_41 : p_tb 182 41 = some (.goto 4, 3) := by decide +kernel
theorem q_182_44 : p_tb 182 44 = some (.iconst 0, 1) := by decide +kernel
theorem q_182_45 : p_tb 182 45 = some (.istore_n 1, 1) := by decide +kernel
theorem q_182_46 : p_tb 182 46 = some (.iinc 2 1, 3) := by decide +kernel
theorem q_182_49 : p_tb 182 49 = some (.goto (-33), 3) := by decide +kernel
theorem q_182_52 : p_tb 182 52 = some (.iload_n 1, 1) := by decide +kernel
theorem q_182_53 : p_tb 182 53 = some (.ireturn, 1) := by decide +kernel
theorem t_ft_182_144 : p_f2 p_ft (p_mK 182) 144 = some (11, 11) := by decide +kernel
theorem t_ft_182_157 : p_f2 p_ft (p_mK 182) 157 = some (11, 17) := by decide +kernel
theorem t_ft_182_47 : p_f2 p_ft (p_mK 182) 47 = some (11, 10) := by decide +kernel
theorem q_185_0 : p_tb 185 0 = some (.iconst 0, 1) := by decide +kernel
theorem q_185_1 : p_tb 185 1 = some (.istore_n 3, 1) := by decide +kernel
theorem q_185_2 : p_tb 185 2 = some (.iload_n 3, 1) := by decide +kernel
theorem q_185_3 : p_tb 185 3 = some (.iload_n 2, 1) := by decide +kernel
theorem q_185_4 : p_tb 185 4 = some (.if_icmp .ge 27, 3) := by decide +kernel
theorem q_185_7 : p_tb 185 7 = some (.aload_n 0, 1) := by decide +kernel
theorem q_185_8 : p_tb 185 8 = some (.getfield 43, 3) := by decide +kernel
theorem q_185_11 : p_tb 185 11 = some (.iload_n 1, 1) := by decide +kernel
theorem q_185_12 : p_tb 185 12 = some (.iload_n 3, 1) := by decide +kernel
theorem q_185_13 : p_tb 185 13 = some (.iadd, 1) := by decide +kernel
theorem q_185_14 : p_tb 185 14 = some (.laload, 1) := by decide +kernel
theorem q_185_15 : p_tb 185 15 = some (.aload_n 0, 1) := by decide +kernel
theorem q_185_16 : p_tb 185 16 = some (.getfield 157, 3) := by decide +kernel
theorem q_185_19 : p_tb 185 19 = some (.lcmp, 1) := by decide +kernel
theorem q_185_20 : p_tb 185 20 = some (.ifCond .ne 5, 3) := by decide +kernel
theorem q_185_23 : p_tb 185 23 = some (.iload_n 3, 1) := by decide +kernel
theorem q_185_24 : p_tb 185 24 = some (.ireturn, 1) := by decide +kernel
theorem q_185_25 : p_tb 185 25 = some (.iinc 3 1, 3) := by decide +kernel
theorem q_185_28 : p_tb 185 28 = some (.goto (-26), 3) := by decide +kernel
theorem q_185_31 : p_tb 185 31 = some (.iconst (-1), 1) := by decide +kernel
theorem q_185_32 : p_tb 185 32 = some (.ireturn, 1) := by decide +kernel
theorem t_ft_185_157 : p_f2 p_ft (p_mK 185) 157 = some (11, 17) := by decide +kernel
theorem t_ft_185_43 : p_f2 p_ft (p_mK 185) 43 = some (11, 9) := by decide +kernel
theorem q_183_0 : p_tb 183 0 = some (.aload_n 0, 1) := by decide +kernel
theorem q_183_1 : p_tb 183 1 = some (.getfield 144, 3) := by decide +kernel
theorem q_183_4 : p_tb 183 4 = some (.iconst 2, 1) := by decide +kernel
theorem q_183_5 : p_tb 183 5 = some (.if_icmp .eq 9, 3) := by decide +kernel
theorem q_183_8 : p_tb 183 8 = some (.aload_n 0, 1) := by decide +kernel
theorem q_183_9 : p_tb 183 9 = some (.iconst 1, 1) := by decide +kernel
theorem q_183_10 : p_tb 183 10 = some (.invokevirtual 170, 3) := by decide +kernel
theorem q_183_13 : p_tb 183 13 = some (.ireturn, 1) := by decide +kernel
theorem q_183_14 : p_tb 183 14 = some (.aload_n 0, 1) := by decide +kernel
theorem q_183_15 : p_tb 183 15 = some (.getfield 154, 3) := by decide +kernel
theorem q_183_18 : p_tb 183 18 = some (.iload_n 1, 1) := by decide +kernel
theorem q_183_19 : p_tb 183 19 = some (.iload_n 2, 1) := by decide +kernel
theorem q_183_20 : p_tb 183 20 = some (.invokestatic 176, 3) := by decide +kernel
theorem q_183_23 : p_tb 183 23 = some (.ifCond .ne 9, 3) := by decide +kernel
theorem q_183_26 : p_tb 183 26 = some (.aload_n 0, 1) := by decide +kernel
theorem q_183_27 : p_tb 183 27 = some (.iconst 2, 1) := by decide +kernel
theorem q_183_28 : p_tb 183 28 = some (.invokevirtual 170, 3) := by decide +kernel
theorem q_183_31 : p_tb 183 31 = some (.ireturn, 1) := by decide +kernel
theorem q_183_32 : p_tb 183 32 = some (.aload_n 0, 1) := by decide +kernel
theorem q_183_33 : p_tb 183 33 = some (.aload_n 0, 1) := by decide +kernel
theorem q_183_34 : p_tb 183 34 = some (.getfield 154, 3) := by decide +kernel
theorem q_183_37 : p_tb 183 37 = some (.putfield 180, 3) := by decide +kernel
theorem q_183_40 : p_tb 183 40 = some (.aload_n 0, 1) := by decide +kernel
theorem q_183_41 : p_tb 183 41 = some (.invokevirtual 173, 3) := by decide +kernel
theorem q_183_44 : p_tb 183 44 = some (.iconst 1, 1) := by decide +kernel
theorem q_183_45 : p_tb 183 45 = some (.ireturn, 1) := by decide +kernel
theorem t_ft_183_144 : p_f2 p_ft (p_mK 183) 144 = some (11, 11) := by decide +kernel
theorem t_ft_183_154 : p_f2 p_ft (p_mK 183) 154 = some (11, 14) := by decide +kernel
theorem t_ft_183_180 : p_f2 p_ft (p_mK 183) 180 = some (11, 18) := by decide +kernel
theorem t_ms_183_176 : p_f2 p_ms (p_mK 183) 176 = some 166 := by decide +kernel
theorem t_mv_183_170 : p_f2 p_mv (p_mK 183) 170 = some 178 := by decide +kernel
theorem t_mv_183_173 : p_f2 p_mv (p_mK 183) 173 = some 177 := by decide +kernel
theorem q_184_0 : p_tb 184 0 = some (.aload_n 0, 1) := by decide +kernel
theorem q_184_1 : p_tb 184 1 = some (.iload_n 2, 1) := by decide +kernel
theorem q_184_2 : p_tb 184 2 = some (.iload_n 3, 1) := by decide +kernel
theorem q_184_3 : p_tb 184 3 = some (.invokevirtual 183, 3) := by decide +kernel
theorem q_184_6 : p_tb 184 6 = some (.ifCond .ne 5, 3) := by decide +kernel
theorem q_184_9 : p_tb 184 9 = some (.iconst 0, 1) := by decide +kernel
theorem q_184_10 : p_tb 184 10 = some (.ireturn, 1) := by decide +kernel
theorem q_184_11 : p_tb 184 11 = some (.aload_n 0, 1) := by decide +kernel
theorem q_184_12 : p_tb 184 12 = some (.getfield 37, 3) := by decide +kernel
theorem q_184_15 : p_tb 184 15 = some (.iload_n 1, 1) := by decide +kernel
theorem q_184_16 : p_tb 184 16 = some (.aload_n 0, 1) := by decide +kernel
theorem q_184_17 : p_tb 184 17 = some (.getfield 180, 3) := by decide +kernel
theorem q_184_20 : p_tb 184 20 = some (.iastore, 1) := by decide +kernel
theorem q_184_21 : p_tb 184 21 = some (.iconst 1, 1) := by decide +kernel
theorem q_184_22 : p_tb 184 22 = some (.ireturn, 1) := by decide +kernel
theorem t_ft_184_180 : p_f2 p_ft (p_mK 184) 180 = some (11, 18) := by decide +kernel
theorem t_ft_184_37 : p_f2 p_ft (p_mK 184) 37 = some (11, 7) := by decide +kernel
theorem t_mv_184_183 : p_f2 p_mv (p_mK 184) 183 = some 183 := by decide +kernel
theorem gC_43_2_10 : gC 43 2 10 (-2147483648) 2147483647 := gC.of (by decide +kernel)
theorem gC_43_11_16 : gC 43 11 16 0 9 := gC.of (by decide +kernel)
theorem gC_43_25_32 : gC 43 25 32 (-2147483648) 2147483647 := gC.of (by decide +kernel)
theorem c_X12_isSmall_vk (V : pM → Prop) (hV : Stab V) (G : pG) (Kr : pK) (M : pM) (I : Iv V M) (a0 : Int32) (hK : ∀ (x : Int32), 0 ≤ x.toInt → x.toInt ≤ 1 → ((x.toInt = 1 ∧ 97 ≤ a0.toInt ∧ a0.toInt ≤ 122) ∨ (x.toInt = 0 ∧ (a0.toInt < 97 ∨ 122 < a0.toInt))) → Kr.1 (some (.int x)) 311 M) : PW G false 0 175 (p_mc 175) (p_msl 175) Kr 0 (lv_args 0 [.int a0]) [] 311 M 0 0 := by
  have F : Fr [] M M := Fr.refl
  refine PW.iload_n q_175_0 rfl ?_
  refine PW.cB q_175_1 (by decide) fun c1 hc1 => ?_
  refine PW.jc_lt q_175_3 rfl (fun h2 => ?_) (fun h2 => ?_)
  · skip
    refine PW.cI q_175_16 (by decide) fun c3 hc3 => ?_
    refine PW.rZ q_175_17 rfl (by omega) (by omega) (by decide) (by decide) ?_
    exact hK c3 (by omega) (by omega) (by omega)
  · skip
    refine PW.iload_n q_175_6 rfl ?_
    refine PW.cB q_175_7 (by decide) fun c4 hc4 => ?_
    refine PW.jc_gt q_175_9 rfl (fun h5 => ?_) (fun h5 => ?_)
    · skip
      refine PW.cI q_175_16 (by decide) fun c6 hc6 => ?_
      refine PW.rZ q_175_17 rfl (by omega) (by omega) (by decide) (by decide) ?_
      exact hK c6 (by omega) (by omega) (by omega)
    · skip
      refine PW.cI q_175_12 (by decide) fun c7 hc7 => ?_
      refine PW.goto q_175_13 rfl ?_
      refine PW.rZ q_175_17 rfl (by omega) (by omega) (by decide) (by decide) ?_
      exact hK c7 (by omega) (by omega) (by omega)
theorem c_X12_isDigit_vk (V : pM → Prop) (hV : Stab V) (G : pG) (Kr : pK) (M : pM) (I : Iv V M) (a0 : Int32) (hK : ∀ (x : Int32), 0 ≤ x.toInt → x.toInt ≤ 1 → ((x.toInt = 1 ∧ 48 ≤ a0.toInt ∧ a0.toInt ≤ 57) ∨ (x.toInt = 0 ∧ (a0.toInt < 48 ∨ 57 < a0.toInt))) → Kr.1 (some (.int x)) 311 M) : PW G false 0 176 (p_mc 176) (p_msl 176) Kr 0 (lv_args 0 [.int a0]) [] 311 M 0 0 := by
  have F : Fr [] M M := Fr.refl
  refine PW.iload_n q_176_0 rfl ?_
  refine PW.cB q_176_1 (by decide) fun c1 hc1 => ?_
  refine PW.jc_lt q_176_3 rfl (fun h2 => ?_) (fun h2 => ?_)
  · skip
    refine PW.cI q_176_16 (by decide) fun c3 hc3 => ?_
    refine PW.rZ q_176_17 rfl (by omega) (by omega) (by decide) (by decide) ?_
    exact hK c3 (by omega) (by omega) (by omega)
  · skip
    refine PW.iload_n q_176_6 rfl ?_
    refine PW.cB q_176_7 (by decide) fun c4 hc4 => ?_
    refine PW.jc_gt q_176_9 rfl (fun h5 => ?_) (fun h5 => ?_)
    · skip
      refine PW.cI q_176_16 (by decide) fun c6 hc6 => ?_
      refine PW.rZ q_176_17 rfl (by omega) (by omega) (by decide) (by decide) ?_
      exact hK c6 (by omega) (by omega) (by omega)
    · skip
      refine PW.cI q_176_12 (by decide) fun c7 hc7 => ?_
      refine PW.goto q_176_13 rfl ?_
      refine PW.rZ q_176_17 rfl (by omega) (by omega) (by decide) (by decide) ?_
      exact hK c7 (by omega) (by omega) (by omega)
theorem c_X12_isIn_vk (V : pM → Prop) (hV : Stab V) (G : pG) (Kr : pK) (M : pM) (I : Iv V M) (a0 : Int32) (a1 : Int32) (a2 : Int32) (hK : ∀ (x : Int32), 0 ≤ x.toInt → x.toInt ≤ 1 → ((x.toInt = 1 ∧ a1.toInt ≤ a0.toInt ∧ a0.toInt ≤ a2.toInt) ∨ (x.toInt = 0 ∧ (a0.toInt < a1.toInt ∨ a2.toInt < a0.toInt))) → Kr.1 (some (.int x)) 311 M) : PW G false 0 166 (p_mc 166) (p_msl 166) Kr 0 (lv_args 0 [.int a0, .int a1, .int a2]) [] 311 M 0 0 := by
  have F : Fr [] M M := Fr.refl
  refine PW.iload_n q_166_0 rfl ?_
  refine PW.iload_n q_166_1 rfl ?_
  refine PW.jc_lt q_166_2 rfl (fun h1 => ?_) (fun h1 => ?_)
  · skip
    refine PW.cI q_166_14 (by decide) fun c2 hc2 => ?_
    refine PW.rZ q_166_15 rfl (by omega) (by omega) (by decide) (by decide) ?_
    exact hK c2 (by omega) (by omega) (by omega)
  · skip
    refine PW.iload_n q_166_5 rfl ?_
    refine PW.iload_n q_166_6 rfl ?_
    refine PW.jc_gt q_166_7 rfl (fun h3 => ?_) (fun h3 => ?_)
    · skip
      refine PW.cI q_166_14 (by decide) fun c4 hc4 => ?_
      refine PW.rZ q_166_15 rfl (by omega) (by omega) (by decide) (by decide) ?_
      exact hK c4 (by omega) (by omega) (by omega)
    · skip
      refine PW.cI q_166_10 (by decide) fun c5 hc5 => ?_
      refine PW.goto q_166_11 rfl ?_
      refine PW.rZ q_166_15 rfl (by omega) (by omega) (by decide) (by decide) ?_
      exact hK c5 (by omega) (by omega) (by omega)
theorem c_X12_bitOf_vk (V : pM → Prop) (hV : Stab V) (G : pG) (Kr : pK) (M : pM) (I : Iv V M) (a0 : Int32) (a1 : Int32) (hl_a0 : 0 ≤ a0.toInt) (hh_a0 : a0.toInt ≤ 7) (hl_a1 : 0 ≤ a1.toInt) (hh_a1 : a1.toInt ≤ 2) (hK : ∀ (x : Int32), 0 ≤ x.toInt → x.toInt ≤ 1 → ((a1.toInt = 0 ∧ x.toInt = a0.toInt % 2) ∨ (a1.toInt = 1 ∧ x.toInt = a0.toInt / 2 % 2) ∨ (a1.toInt = 2 ∧ x.toInt = a0.toInt / 4 % 2)) → Kr.1 (some (.int x)) 311 M) : PW G false 0 167 (p_mc 167) (p_msl 167) Kr 0 (lv_args 0 [.int a0, .int a1]) [] 311 M 0 0 := by
  have F : Fr [] M M := Fr.refl
  refine PW.iload_n q_167_0 rfl ?_
  refine PW.iload_n q_167_1 rfl ?_
  refine PW.ishr q_167_2 ?_
  refine PW.nmI ?_; intro x1 ex1
  refine PW.cI q_167_3 (by decide) fun c2 hc2 => ?_
  refine PW.andX q_167_4 (by decide : ((1 : Int32)).toInt = 1) (by omega) (by omega) fun x3 zx3 hx3 kx3 => ?_
  refine PW.cI q_167_5 (by decide) fun c4 hc4 => ?_
  refine PW.jc_ne q_167_6 rfl (fun h5 => ?_) (fun h5 => ?_)
  · skip
    refine PW.cI q_167_13 (by decide) fun c6 hc6 => ?_
    refine PW.rZ q_167_14 rfl (by omega) (by omega) (by decide) (by decide) ?_
    have eb : x3.toInt = ((a0 >>> (a1 &&& 31)) &&& 1).toInt := by rw [zx3, ex1]
    exact hK c6 (by omega) (by omega) (by have w := n_bit (o := a0) (k := a1) (by omega) (by omega) (by omega) (by omega); omega)
  · skip
    refine PW.cI q_167_9 (by decide) fun c7 hc7 => ?_
    refine PW.goto q_167_10 rfl ?_
    refine PW.rZ q_167_14 rfl (by omega) (by omega) (by decide) (by decide) ?_
    have eb : x3.toInt = ((a0 >>> (a1 &&& 31)) &&& 1).toInt := by rw [zx3, ex1]
    exact hK c7 (by omega) (by omega) (by have w := n_bit (o := a0) (k := a1) (by omega) (by omega) (by omega) (by omega); omega)
theorem c_X12_peek_vk (V : pM → Prop) (hV : Stab V) (G : pG) (Kr : pK) (M : pM) (I : Iv V M) (y : k_X) (hp_0 : k_rx y M) (hK : ∀ (x : Int32), -1 ≤ x.toInt → x.toInt ≤ 255 → ((o_i (M 294) 4 < y.2.1 ∧ x.toInt = y.1 (o_i (M 294) 4).toNat ∧ 0 ≤ x.toInt) ∨ (y.2.1 ≤ o_i (M 294) 4 ∧ x.toInt = -1)) → Kr.1 (some (.int x)) 311 M) : PW G false 0 174 (p_mc 174) (p_msl 174) Kr 0 (lv_args 0 [.ref 294]) [] 311 M 0 0 := by
  have F : Fr [] M M := Fr.refl
  obtain ⟨t1, t2, t3, -⟩ := hp_0
  refine PW.aload_n q_174_0 rfl ?_
  refine PW.gI q_174_1 (Or.inl t_ft_174_21) gF_40_4 kd_294 I.1 (by decide) fun x1 fx1 hx1 kx1 => ?_
  have ix1 := o_i_of fx1
  refine PW.aload_n q_174_4 rfl ?_
  refine PW.gI q_174_5 (Or.inl t_ft_174_18) gF_40_3 kd_294 I.1 (by decide) fun x2 fx2 hx2 kx2 => ?_
  have ix2 := o_i_of fx2
  refine PW.jc_ge q_174_8 rfl (fun h3 => ?_) (fun h3 => ?_)
  · skip
    refine PW.cI q_174_27 (by decide) fun c4 hc4 => ?_
    refine PW.rI q_174_28 rfl (by decide) (by decide) ?_
    exact hK c4 (by omega) (by omega) (Or.inr ⟨by omega, by omega⟩)
  · skip
    refine PW.aload_n q_174_11 rfl ?_
    refine PW.gR 295 q_174_12 (Or.inl t_ft_174_14) gF_40_1 kd_294 I.1 (by decide) rfl ?_
    refine PW.aload_n q_174_15 rfl ?_
    refine PW.gE q_174_16 (Or.inl t_ft_174_21) gF_40_4 kd_294 I.1 (by decide) fx1 ?_
    refine PW.aY q_174_19 gA_41 kd_295 I.1 (by decide) (by omega) (by omega) fun x5 fx5 => ?_
    refine PW.cS q_174_20 (by decide) fun c6 hc6 => ?_
    refine PW.andX q_174_23 (by decide : ((255 : Int32)).toInt = 255) (by omega) (by omega) fun x7 zx7 hx7 kx7 => ?_
    refine PW.goto q_174_24 rfl ?_
    refine PW.rI q_174_28 rfl (by decide) (by decide) ?_
    have tb := t3 (o_i (M 294) 4).toNat (by omega)
    rw [show (o_i (M 294) 4).toNat = x1.toInt.toNat from by omega, fx5, ← zx7] at tb
    exact hK x7 (by omega) (by omega) (Or.inl ⟨by omega, by rw [tb, show (o_i (M 294) 4).toNat = x1.toInt.toNat from by omega], by omega⟩)
set_option maxHeartbeats 10000000 in
theorem c_X12_go_vk (V : pM → Prop) (hV : Stab V) (G : pG) (Kr : pK) (M : pM) (I : Iv V M) (y : k_X) (i : Nat) (hp_0 : k_rn' y M i) (hK : ∀ (M1 : pM), Iv V M1 → Fr [40] M M1 → (gKl [4, 11, 12, 13, 14, 17] M M1 ∧ (k_ra y M1 i)) → Kr.1 none 311 M1) : PW G false 1 177 (p_mc 177) (p_msl 177) Kr 0 (lv_args 0 [.ref 294]) [] 311 M 0 0 := by
  have F : Fr [40] M M := Fr.refl
  obtain ⟨t1, t2, -⟩ := id hp_0.1
  have sk2 : k_sk y (k_ps y i) ≤ y.2.1 := k_skF_le2 y _ _ hp_0.2.2
  obtain ⟨sz, fsz, hsz, ksz⟩ := gF_40_3.int kd_294 I.1 (by decide)
  have isz := o_i_of fsz
  have hN : y.2.1 ≤ 940 := by omega
  clear hsz ksz isz fsz
  have L177_0_1 : ∀ (n : Nat) (ML177_0_1 : pM), Iv (V) ML177_0_1 → Fr [40] M ML177_0_1 → k_rx y ML177_0_1 → k_sk y (o_i (ML177_0_1 294) 4).toNat = k_sk y (k_ps y i) → gKl [4, 11, 12, 13, 14, 17] M ML177_0_1 → (940 - o_i (ML177_0_1 294) 4).toNat = n → PW G false 1 177 (p_mc 177) (p_msl 177) Kr 0 [(0, .ref 294)] [] 311 ML177_0_1 0 0 := by
    intro n
    induction n using Nat.strongRecOn with
    | ind n ih_L177_0_1 =>
    intro ML177_0_1  IML177_0_1 FML177_0_1 hbL177_0_10 hbL177_0_11 hbL177_0_12 hmL177_0_1
    obtain ⟨x2, fx2, hx2, kx2⟩ := gF_40_4.int kd_294 IML177_0_1.1 (by decide)
    have ex2 := o_i_of fx2
    refine PW.aload_n q_177_0 rfl ?_
    obtain ⟨u1, u2, -⟩ := id hbL177_0_10
    refine PW.cV (as := []) (rest := []) q_177_1 t_mv_177_134 kd_294 IML177_0_1.1 (by decide) rfl (by decide) rfl rfl (Nat.le_of_ble_eq_true rfl) (Nat.le_of_ble_eq_true rfl) (by decide) (by decide) ?_
    refine PW.up (by decide) (c_X12_peek_vk (V) (hV) G _ ML177_0_1 IML177_0_1 _ hbL177_0_10 fun x4  hx4 kx4 PM3 => ?_)
    rcases PM3 with ⟨PaM3, PbM3, PcM3⟩ | ⟨PaM3, PbM3⟩
    · skip
      have pzM3 := o_i_of fx2
      rw [show (o_i (ML177_0_1 294) 4).toNat = x2.toInt.toNat from by omega] at PbM3
      refine PW.cB q_177_4 (by decide) fun c5 hc5 => ?_
      refine PW.jc_eq q_177_6 rfl (fun h6 => ?_) (fun h6 => ?_)
      · skip
        refine PW.aload_n q_177_18 rfl ?_
        refine PW.dup q_177_19 rfl ?_
        refine PW.gE q_177_20 (Or.inl t_ft_177_21) gF_40_4 kd_294 IML177_0_1.1 (by decide) fx2 ?_
        refine PW.cI q_177_23 (by decide) fun c7 hc7 => ?_
        refine PW.addN q_177_24 (by omega) (by omega) fun x8 hx8 => ?_
        refine PW.pI q_177_25 (Or.inl t_ft_177_21) gF_40_4 gP_40_4 kd_294 hV IML177_0_1 (by decide) rfl (by omega) (by omega) fun M9 IM9 fM9 UM9 => ?_
        have FM9 := Fr.pu FML177_0_1 UM9.1 kd_294 (rfl : List.contains [40] 40 = true)
        refine PW.goto q_177_28 rfl ?_
        have em9 := o_i_of fM9
        refine PW.lvS (lk1 rfl lk0) (ih_L177_0_1 _ ?_ M9  IM9 FM9 (hbL177_0_10.U UM9 rfl) (by have w := (o_i_of fM9); rw [show (o_i (M9 294) 4).toNat = (o_i (ML177_0_1 294) 4).toNat + 1 from by omega, ← k_sk_on (by omega) (by rw [show (o_i (ML177_0_1 294) 4).toNat = x2.toInt.toNat from by omega]; omega)]; exact hbL177_0_11) (hbL177_0_12.put UM9 rfl) rfl)
        omega
      · skip
        refine PW.aload_n q_177_9 rfl ?_
        refine PW.cV (as := []) (rest := []) q_177_10 t_mv_177_134 kd_294 IML177_0_1.1 (by decide) rfl (by decide) rfl rfl (Nat.le_of_ble_eq_true rfl) (Nat.le_of_ble_eq_true rfl) (by decide) (by decide) ?_
        refine PW.up (by decide) (c_X12_peek_vk (V) (hV) G _ ML177_0_1 IML177_0_1 _ hbL177_0_10 fun x12  hx12 kx12 PM11 => ?_)
        rcases PM11 with ⟨PaM11, PbM11, PcM11⟩ | ⟨PaM11, PbM11⟩
        · skip
          have pzM11 := o_i_of fx2
          rw [show (o_i (ML177_0_1 294) 4).toNat = x2.toInt.toNat from by omega] at PbM11
          refine PW.cB q_177_13 (by decide) fun c13 hc13 => ?_
          refine PW.jc_ne q_177_15 rfl (fun h14 => ?_) (fun h14 => ?_)
          · skip
            have eq : k_sk y (k_ps y i) = x2.toInt.toNat := by rw [← hbL177_0_11, show (o_i (ML177_0_1 294) 4).toNat = x2.toInt.toNat from by omega]; exact k_sk_at (by omega)
            clear h6 h14
            refine PW.aload_n q_177_31 rfl ?_
            refine PW.aload_n q_177_32 rfl ?_
            refine PW.gE q_177_33 (Or.inl t_ft_177_21) gF_40_4 kd_294 IML177_0_1.1 (by decide) fx2 ?_
            refine PW.pI q_177_36 (Or.inl t_ft_177_138) gF_40_12 gP_40_12 kd_294 hV IML177_0_1 (by decide) rfl (n_lo _) (n_hi _) fun M15 IM15 fM15 UM15 => ?_
            have FM15 := Fr.pu FML177_0_1 UM15.1 kd_294 (rfl : List.contains [40] 40 = true)
            refine PW.aload_n q_177_39 rfl ?_
            refine PW.cI q_177_40 (by decide) fun c16 hc16 => ?_
            refine PW.pI q_177_41 (Or.inl t_ft_177_141) gF_40_13 gP_40_13 kd_294 hV IM15 (by decide) rfl (n_lo _) (n_hi _) fun M17 IM17 fM17 UM17 => ?_
            have FM17 := Fr.pu FM15 UM17.1 kd_294 (rfl : List.contains [40] 40 = true)
            have rx44 := ((hbL177_0_10.U UM15 rfl).U UM17 rfl)
            have s44 := rx44.1
            have l44 := rx44.2.1
            have J80_18 : (y.2.1 ≤ y.2.2 ∨ x2.toInt < y.2.2) → PW G false 1 177 (p_mc 177) (p_msl 177) Kr 80 [(0, .ref 294)] [] 311 M17 0 0 := by
              intro hjJ80_180
              refine PW.aload_n q_177_80 rfl ?_
              refine PW.cV (as := []) (rest := []) q_177_81 t_mv_177_134 kd_294 IM17.1 (by decide) rfl (by decide) rfl rfl (Nat.le_of_ble_eq_true rfl) (Nat.le_of_ble_eq_true rfl) (by decide) (by decide) ?_
              refine PW.up (by decide) (c_X12_peek_vk (V) (hV) G _ M17 IM17 _ ((hbL177_0_10.U UM15 rfl).U UM17 rfl) fun x20  hx20 kx20 PM19 => ?_)
              rcases PM19 with ⟨PaM19, PbM19, PcM19⟩ | ⟨PaM19, PbM19⟩
              · skip
                have pzM19 := o_i_of ((UM17.f (Or.inr (by decide))).trans ((UM15.f (Or.inr (by decide))).trans fx2))
                rw [show (o_i (M17 294) 4).toNat = x2.toInt.toNat from by omega] at PbM19
                refine PW.istore_n q_177_84 (by decide) ?_
                refine PW.iload_n q_177_85 rfl ?_
                refine PW.jz_ge q_177_86 rfl (fun h21 => ?_) (fun h21 => False.elim (by omega))
                have J164_22 : ((97 ≤ x20.toInt ∧ x20.toInt ≤ 122) ∨ (48 ≤ x20.toInt ∧ x20.toInt ≤ 57)) → PW G false 1 177 (p_mc 177) (p_msl 177) Kr 164 [(0, .ref 294), (1, .int x20)] [] 311 M17 0 0 := by
                  intro hjJ164_220
                  have J169_23 : ∀ (v24 : Int32), 0 ≤ v24.toInt → v24.toInt ≤ 1 → (v24.toInt = 1 ↔ (97 ≤ x20.toInt ∧ x20.toInt ≤ 122)) → PW G false 1 177 (p_mc 177) (p_msl 177) Kr 169 [(0, .ref 294), (1, .int x20), (2, .int v24)] [] 311 M17 0 0 := by
                    intro v24 hjJ169_230 hjJ169_231 hjJ169_232
                    refine PW.cI q_177_169 (by decide) fun c25 hc25 => ?_
                    refine PW.istore_n q_177_170 (by decide) ?_
                    refine PW.aload_n q_177_171 rfl ?_
                    refine PW.lconst q_177_172 ?_
                    refine PW.nmLk fun l26 el26 => ?_
                    refine PW.pL q_177_173 (Or.inl t_ft_177_157) gF_40_17 gP_40_17 kd_294 hV IM17 (by decide) rfl fun M27 IM27 fM27 UM27 => ?_
                    have FM27 := Fr.pu FM17 UM27.1 kd_294 (rfl : List.contains [40] 40 = true)
                    have kr : k_tk y (k_ps y i) = k_ru y (k_sk y (k_ps y i)) := k_tk_r (by omega) (by omega) (by rw [eq]; omega)
                    have kl : (97 ≤ y.1 (k_sk y (k_ps y i)) ∧ y.1 (k_sk y (k_ps y i)) ≤ 122) ∨ (48 ≤ y.1 (k_sk y (k_ps y i)) ∧ y.1 (k_sk y (k_ps y i)) ≤ 57) := by rw [eq]; omega
                    have kq : k_sk y (k_ps y i) < y.2.1 := by omega
                    have hq : v24.toInt = 1 ↔ (97 ≤ y.1 (k_sk y (k_ps y i)) ∧ y.1 (k_sk y (k_ps y i)) ≤ 122) := by rw [eq]; omega
                    clear hjJ80_180 hjJ164_220 hjJ169_232
                    refine PW.aload_n q_177_176 rfl ?_
                    refine PW.cI q_177_177 (by decide) fun c28 hc28 => ?_
                    refine PW.pI q_177_178 (Or.inl t_ft_177_154) gF_40_14 gP_40_14 kd_294 hV IM27 (by decide) rfl (n_lo _) (n_hi _) fun M29 IM29 fM29 UM29 => ?_
                    have FM29 := Fr.pu FM27 UM29.1 kd_294 (rfl : List.contains [40] 40 = true)
                    have L177_181_30 : ∀ (n : Nat) (ML177_181_30 : pM) (v31 : Int32), Iv (V) ML177_181_30 → Fr [40] M ML177_181_30 → 0 ≤ v31.toInt → v31.toInt ≤ 1 → k_rr y (k_sk y (k_ps y i)) M ML177_181_30 v24.toInt v31.toInt → (940 - o_i (ML177_181_30 294) 4).toNat = n → PW G false 1 177 (p_mc 177) (p_msl 177) Kr 181 [(0, .ref 294), (1, .int x20), (2, .int v24), (3, .int v31)] [] 311 ML177_181_30 0 0 := by
                      intro n
                      induction n using Nat.strongRecOn with
                      | ind n ih_L177_181_30 =>
                      intro ML177_181_30 v31 IML177_181_30 FML177_181_30 hbL177_181_300 hbL177_181_301 hbL177_181_302 hmL177_181_30
                      obtain ⟨x32, fx32, hx32, kx32⟩ := gF_40_4.int kd_294 IML177_181_30.1 (by decide)
                      have ex32 := o_i_of fx32
                      refine PW.aload_n q_177_181 rfl ?_
                      obtain ⟨v1, v2, v3, v4, v5⟩ := hbL177_181_302.tx
                      obtain ⟨u1, u2, -⟩ := id v1
                      have J298_33 : (¬ (x32.toInt < y.2.1 ∧ ((97 ≤ y.1 x32.toInt.toNat ∧ y.1 x32.toInt.toNat ≤ 122) ∨ (48 ≤ y.1 x32.toInt.toNat ∧ y.1 x32.toInt.toNat ≤ 57)))) → PW G false 1 177 (p_mc 177) (p_msl 177) Kr 298 [(0, .ref 294), (1, .int x20), (2, .int v24), (3, .int v31)] [] 311 ML177_181_30 0 0 := by
                        intro hjJ298_330
                        refine PW.aload_n q_177_298 rfl ?_
                        refine PW.iload_n q_177_299 rfl ?_
                        refine PW.jz_eq q_177_300 rfl (fun h34 => ?_) (fun h34 => ?_)
                        · skip
                          refine PW.cI q_177_320 (by decide) fun c35 hc35 => ?_
                          refine PW.goto q_177_321 rfl ?_
                          refine PW.pI q_177_333 (Or.inl t_ft_177_144) gF_40_11 gP_40_11 kd_294 hV IML177_181_30 (by decide) rfl (n_lo _) (n_hi _) fun M36 IM36 fM36 UM36 => ?_
                          have FM36 := Fr.pu FML177_181_30 UM36.1 kd_294 (rfl : List.contains [40] 40 = true)
                          refine PW.vret q_177_336 rfl (by decide) (by decide) ?_
                          exact hK M36 IM36 FM36 ⟨(v2.put UM36 rfl), ⟨(v1.U UM36 rfl), by rw [kr]; exact hbL177_181_302.e (by omega) kq kl (by rw [show (o_i (ML177_181_30 294) 4).toNat = x32.toInt.toNat from by omega]; omega) (UM36.i (c := 294) (k := 4) (Or.inr (by decide))) (UM36.i (c := 294) (k := 12) (Or.inr (by decide))) (UM36.i (c := 294) (k := 14) (Or.inr (by decide))) (UM36.J (c := 294) (k := 17) (Or.inr (by decide))) (by have w := (o_i_of fM36); omega)⟩⟩
                        · skip
                          refine PW.aload_n q_177_303 rfl ?_
                          refine PW.gI q_177_304 (Or.inl t_ft_177_141) gF_40_13 kd_294 IML177_181_30.1 (by decide) fun x37 fx37 hx37 kx37 => ?_
                          have ix37 := o_i_of fx37
                          clear hx37 kx37
                          refine PW.iload_n q_177_307 rfl ?_
                          refine PW.jz_eq q_177_308 rfl (fun h38 => ?_) (fun h38 => ?_)
                          · skip
                            refine PW.cI q_177_316 (by decide) fun c39 hc39 => ?_
                            refine PW.jc_le q_177_317 rfl (fun h40 => ?_) (fun h40 => ?_)
                            · skip
                              refine PW.iload_n q_177_324 rfl ?_
                              refine PW.jz_eq q_177_325 rfl (fun h41 => ?_) (fun h41 => False.elim (by omega))
                              refine PW.cI q_177_332 (by decide) fun c42 hc42 => ?_
                              refine PW.pI q_177_333 (Or.inl t_ft_177_144) gF_40_11 gP_40_11 kd_294 hV IML177_181_30 (by decide) rfl (n_lo _) (n_hi _) fun M43 IM43 fM43 UM43 => ?_
                              have FM43 := Fr.pu FML177_181_30 UM43.1 kd_294 (rfl : List.contains [40] 40 = true)
                              refine PW.vret q_177_336 rfl (by decide) (by decide) ?_
                              exact hK M43 IM43 FM43 ⟨(v2.put UM43 rfl), ⟨(v1.U UM43 rfl), by rw [kr]; exact hbL177_181_302.e (by omega) kq kl (by rw [show (o_i (ML177_181_30 294) 4).toNat = x32.toInt.toNat from by omega]; omega) (UM43.i (c := 294) (k := 4) (Or.inr (by decide))) (UM43.i (c := 294) (k := 12) (Or.inr (by decide))) (UM43.i (c := 294) (k := 14) (Or.inr (by decide))) (UM43.J (c := 294) (k := 17) (Or.inr (by decide))) (by have w := (o_i_of fM43); omega)⟩⟩
                            · skip
                              refine PW.cI q_177_320 (by decide) fun c44 hc44 => ?_
                              refine PW.goto q_177_321 rfl ?_
                              refine PW.pI q_177_333 (Or.inl t_ft_177_144) gF_40_11 gP_40_11 kd_294 hV IML177_181_30 (by decide) rfl (n_lo _) (n_hi _) fun M45 IM45 fM45 UM45 => ?_
                              have FM45 := Fr.pu FML177_181_30 UM45.1 kd_294 (rfl : List.contains [40] 40 = true)
                              refine PW.vret q_177_336 rfl (by decide) (by decide) ?_
                              exact hK M45 IM45 FM45 ⟨(v2.put UM45 rfl), ⟨(v1.U UM45 rfl), by rw [kr]; exact hbL177_181_302.e (by omega) kq kl (by rw [show (o_i (ML177_181_30 294) 4).toNat = x32.toInt.toNat from by omega]; omega) (UM45.i (c := 294) (k := 4) (Or.inr (by decide))) (UM45.i (c := 294) (k := 12) (Or.inr (by decide))) (UM45.i (c := 294) (k := 14) (Or.inr (by decide))) (UM45.J (c := 294) (k := 17) (Or.inr (by decide))) (by have w := (o_i_of fM45); omega)⟩⟩
                          · skip
                            refine PW.cB q_177_311 (by decide) fun c46 hc46 => ?_
                            refine PW.goto q_177_313 rfl ?_
                            refine PW.jc_le q_177_317 rfl (fun h47 => ?_) (fun h47 => ?_)
                            · skip
                              refine PW.iload_n q_177_324 rfl ?_
                              refine PW.jz_eq q_177_325 rfl (fun h48 => False.elim (by omega)) (fun h48 => ?_)
                              refine PW.cI q_177_328 (by decide) fun c49 hc49 => ?_
                              refine PW.goto q_177_329 rfl ?_
                              refine PW.pI q_177_333 (Or.inl t_ft_177_144) gF_40_11 gP_40_11 kd_294 hV IML177_181_30 (by decide) rfl (n_lo _) (n_hi _) fun M50 IM50 fM50 UM50 => ?_
                              have FM50 := Fr.pu FML177_181_30 UM50.1 kd_294 (rfl : List.contains [40] 40 = true)
                              refine PW.vret q_177_336 rfl (by decide) (by decide) ?_
                              exact hK M50 IM50 FM50 ⟨(v2.put UM50 rfl), ⟨(v1.U UM50 rfl), by rw [kr]; exact hbL177_181_302.e (by omega) kq kl (by rw [show (o_i (ML177_181_30 294) 4).toNat = x32.toInt.toNat from by omega]; omega) (UM50.i (c := 294) (k := 4) (Or.inr (by decide))) (UM50.i (c := 294) (k := 12) (Or.inr (by decide))) (UM50.i (c := 294) (k := 14) (Or.inr (by decide))) (UM50.J (c := 294) (k := 17) (Or.inr (by decide))) (by have w := (o_i_of fM50); omega)⟩⟩
                            · skip
                              refine PW.cI q_177_320 (by decide) fun c51 hc51 => ?_
                              refine PW.goto q_177_321 rfl ?_
                              refine PW.pI q_177_333 (Or.inl t_ft_177_144) gF_40_11 gP_40_11 kd_294 hV IML177_181_30 (by decide) rfl (n_lo _) (n_hi _) fun M52 IM52 fM52 UM52 => ?_
                              have FM52 := Fr.pu FML177_181_30 UM52.1 kd_294 (rfl : List.contains [40] 40 = true)
                              refine PW.vret q_177_336 rfl (by decide) (by decide) ?_
                              exact hK M52 IM52 FM52 ⟨(v2.put UM52 rfl), ⟨(v1.U UM52 rfl), by rw [kr]; exact hbL177_181_302.e (by omega) kq kl (by rw [show (o_i (ML177_181_30 294) 4).toNat = x32.toInt.toNat from by omega]; omega) (UM52.i (c := 294) (k := 4) (Or.inr (by decide))) (UM52.i (c := 294) (k := 12) (Or.inr (by decide))) (UM52.i (c := 294) (k := 14) (Or.inr (by decide))) (UM52.J (c := 294) (k := 17) (Or.inr (by decide))) (by have w := (o_i_of fM52); omega)⟩⟩
                      have J201_53 : (x32.toInt < y.2.1) → ((97 ≤ y.1 x32.toInt.toNat ∧ y.1 x32.toInt.toNat ≤ 122) ∨ (48 ≤ y.1 x32.toInt.toNat ∧ y.1 x32.toInt.toNat ≤ 57)) → PW G false 1 177 (p_mc 177) (p_msl 177) Kr 201 [(0, .ref 294), (1, .int x20), (2, .int v24), (3, .int v31)] [] 311 ML177_181_30 0 0 := by
                        intro hjJ201_530 hjJ201_531
                        have J222_54 : ∀ (v55 : Int32), 0 ≤ v55.toInt → v55.toInt ≤ 1 → ((v31.toInt = 1 ∧ ((97 ≤ y.1 x32.toInt.toNat ∧ y.1 x32.toInt.toNat ≤ 122 ∧ v24.toInt = 1) ∨ ((y.1 x32.toInt.toNat < 97 ∨ 122 < y.1 x32.toInt.toNat) ∧ v24.toInt = 0)) ∧ v55.toInt = 1) ∨ (v31.toInt = 1 ∧ ((97 ≤ y.1 x32.toInt.toNat ∧ y.1 x32.toInt.toNat ≤ 122 ∧ v24.toInt = 0) ∨ ((y.1 x32.toInt.toNat < 97 ∨ 122 < y.1 x32.toInt.toNat) ∧ v24.toInt = 1)) ∧ v55.toInt = 0) ∨ (v31.toInt = 0 ∧ v55.toInt = 0)) → PW G false 1 177 (p_mc 177) (p_msl 177) Kr 222 [(0, .ref 294), (1, .int x20), (2, .int v24), (3, .int v55)] [] 311 ML177_181_30 0 0 := by
                          intro v55 hjJ222_540 hjJ222_541 hjJ222_542
                          refine PW.aload_n q_177_222 rfl ?_
                          refine PW.gI q_177_223 (Or.inl t_ft_177_141) gF_40_13 kd_294 IML177_181_30.1 (by decide) fun x56 fx56 hx56 kx56 => ?_
                          have ix56 := o_i_of fx56
                          clear hx56 kx56
                          refine PW.cB q_177_226 (by decide) fun c57 hc57 => ?_
                          refine PW.jc_ge q_177_228 rfl (fun h58 => ?_) (fun h58 => ?_)
                          · skip
                            refine PW.aload_n q_177_248 rfl ?_
                            refine PW.gE q_177_249 (Or.inl t_ft_177_141) gF_40_13 kd_294 IML177_181_30.1 (by decide) fx56 ?_
                            refine PW.cI q_177_252 (by decide) fun c59 hc59 => ?_
                            refine PW.jc_ge q_177_253 rfl (fun h60 => ?_) (fun h60 => False.elim (by omega))
                            refine PW.aload_n q_177_275 rfl ?_
                            refine PW.dup q_177_276 rfl ?_
                            refine PW.gE q_177_277 (Or.inl t_ft_177_141) gF_40_13 kd_294 IML177_181_30.1 (by decide) fx56 ?_
                            refine PW.cI q_177_280 (by decide) fun c61 hc61 => ?_
                            refine PW.addX q_177_281 fun x62 hx62 => ?_
                            refine PW.pI q_177_282 (Or.inl t_ft_177_141) gF_40_13 gP_40_13 kd_294 hV IML177_181_30 (by decide) rfl (n_lo _) (n_hi _) fun M63 IM63 fM63 UM63 => ?_
                            have FM63 := Fr.pu FML177_181_30 UM63.1 kd_294 (rfl : List.contains [40] 40 = true)
                            refine PW.aload_n q_177_285 rfl ?_
                            refine PW.dup q_177_286 rfl ?_
                            refine PW.gE q_177_287 (Or.inl t_ft_177_21) gF_40_4 kd_294 IM63.1 (by decide) ((UM63.f (Or.inr (by decide))).trans fx32) ?_
                            refine PW.cI q_177_290 (by decide) fun c64 hc64 => ?_
                            refine PW.addN q_177_291 (by omega) (by omega) fun x65 hx65 => ?_
                            refine PW.pI q_177_292 (Or.inl t_ft_177_21) gF_40_4 gP_40_4 kd_294 hV IM63 (by decide) rfl (by omega) (by omega) fun M66 IM66 fM66 UM66 => ?_
                            have FM66 := Fr.pu FM63 UM66.1 kd_294 (rfl : List.contains [40] 40 = true)
                            refine PW.goto q_177_295 rfl ?_
                            have em66 := o_i_of fM66
                            refine PW.lvS (lk1 rfl (lk1 rfl (lk1 rfl (lk1 rfl lk0)))) (ih_L177_181_30 _ ?_ M66 v55 IM66 FM66 (by omega) (by omega) (hbL177_181_302.on (c := (y.1 x32.toInt.toNat)) (by omega) hq hjJ201_531 (by omega) (by rw [show (o_i (ML177_181_30 294) 4).toNat = x32.toInt.toNat from by omega]) (by have w := (o_i_of fM66); omega) (by have w := (o_i_of ((UM66.f (Or.inr (by decide))).trans fM63)); omega) (fun h => by omega) (fun h => by omega) ((v1.U UM63 rfl).U UM66 rfl) ((UM66.i (c := 294) (k := 12) (Or.inr (by decide))).trans (UM63.i (c := 294) (k := 12) (Or.inr (by decide)))) (((gKl.refl.put UM63 rfl).put UM66 rfl)) hjJ222_542) rfl)
                            omega
                          · skip
                            refine PW.aload_n q_177_231 rfl ?_
                            refine PW.aload_n q_177_232 rfl ?_
                            refine PW.gL q_177_233 (Or.inl t_ft_177_157) gF_40_17 kd_294 IML177_181_30.1 (by decide) fun l68 fl68 => ?_
                            refine PW.cB q_177_236 (by decide) fun c69 hc69 => ?_
                            refine PW.lshl q_177_238 ?_
                            refine PW.nmLk fun l70 el70 => ?_
                            refine PW.aload_n q_177_239 rfl ?_
                            refine PW.cV (as := []) (rest := [_, _]) q_177_240 t_mv_177_134 kd_294 IML177_181_30.1 (by decide) rfl (by decide) rfl rfl (Nat.le_of_ble_eq_true rfl) (Nat.le_of_ble_eq_true rfl) (by decide) (by decide) ?_
                            refine PW.up (by decide) (c_X12_peek_vk (V) (hV) G _ ML177_181_30 IML177_181_30 _ v1 fun x72  hx72 kx72 PM71 => ?_)
                            rcases PM71 with ⟨PaM71, PbM71, PcM71⟩ | ⟨PaM71, PbM71⟩
                            · skip
                              have pzM71 := o_i_of fx32
                              rw [show (o_i (ML177_181_30 294) 4).toNat = x32.toInt.toNat from by omega] at PbM71
                              refine PW.i2l q_177_243 ?_
                              refine PW.nmLk fun l73 el73 => ?_
                              refine PW.lor q_177_244 ?_
                              refine PW.nmLk fun l74 el74 => ?_
                              refine PW.pL q_177_245 (Or.inl t_ft_177_157) gF_40_17 gP_40_17 kd_294 hV IML177_181_30 (by decide) rfl fun M75 IM75 fM75 UM75 => ?_
                              have FM75 := Fr.pu FML177_181_30 UM75.1 kd_294 (rfl : List.contains [40] 40 = true)
                              refine PW.aload_n q_177_248 rfl ?_
                              refine PW.gE q_177_249 (Or.inl t_ft_177_141) gF_40_13 kd_294 IM75.1 (by decide) ((UM75.f (Or.inr (by decide))).trans fx56) ?_
                              refine PW.cI q_177_252 (by decide) fun c76 hc76 => ?_
                              refine PW.jc_ge q_177_253 rfl (fun h77 => ?_) (fun h77 => ?_)
                              · skip
                                refine PW.aload_n q_177_275 rfl ?_
                                refine PW.dup q_177_276 rfl ?_
                                refine PW.gE q_177_277 (Or.inl t_ft_177_141) gF_40_13 kd_294 IM75.1 (by decide) ((UM75.f (Or.inr (by decide))).trans fx56) ?_
                                refine PW.cI q_177_280 (by decide) fun c78 hc78 => ?_
                                refine PW.addN q_177_281 (by have := n_lo x56; have := n_hi x56; omega) (by have := n_lo x56; have := n_hi x56; omega) fun x79 hx79 => ?_
                                refine PW.pI q_177_282 (Or.inl t_ft_177_141) gF_40_13 gP_40_13 kd_294 hV IM75 (by decide) rfl (n_lo _) (n_hi _) fun M80 IM80 fM80 UM80 => ?_
                                have FM80 := Fr.pu FM75 UM80.1 kd_294 (rfl : List.contains [40] 40 = true)
                                refine PW.aload_n q_177_285 rfl ?_
                                refine PW.dup q_177_286 rfl ?_
                                refine PW.gE q_177_287 (Or.inl t_ft_177_21) gF_40_4 kd_294 IM80.1 (by decide) ((UM80.f (Or.inr (by decide))).trans ((UM75.f (Or.inr (by decide))).trans fx32)) ?_
                                refine PW.cI q_177_290 (by decide) fun c81 hc81 => ?_
                                refine PW.addN q_177_291 (by omega) (by omega) fun x82 hx82 => ?_
                                refine PW.pI q_177_292 (Or.inl t_ft_177_21) gF_40_4 gP_40_4 kd_294 hV IM80 (by decide) rfl (by omega) (by omega) fun M83 IM83 fM83 UM83 => ?_
                                have FM83 := Fr.pu FM80 UM83.1 kd_294 (rfl : List.contains [40] 40 = true)
                                refine PW.goto q_177_295 rfl ?_
                                have em83 := o_i_of fM83
                                refine PW.lvS (lk1 rfl (lk1 rfl (lk1 rfl (lk1 rfl lk0)))) (ih_L177_181_30 _ ?_ M83 v55 IM83 FM83 (by omega) (by omega) (hbL177_181_302.on (c := (y.1 x32.toInt.toNat)) (by omega) hq hjJ201_531 (by omega) (by rw [show (o_i (ML177_181_30 294) 4).toNat = x32.toInt.toNat from by omega]) (by have w := (o_i_of fM83); omega) (by have w := (o_i_of ((UM83.f (Or.inr (by decide))).trans fM80)); omega) (fun _ a b => by have w1 := o_J_of fl68; rw [w1] at a b ⊢; rw [(o_J_of ((UM83.f (Or.inr (by decide))).trans ((UM80.f (Or.inr (by decide))).trans fM75))), n_w8 (c := x72) (by omega) el70 (by rw [el74, el73]) a b (by omega) (by omega)]; omega) (fun h => by omega) (((v1.U UM75 rfl).U UM80 rfl).U UM83 rfl) ((UM83.i (c := 294) (k := 12) (Or.inr (by decide))).trans ((UM80.i (c := 294) (k := 12) (Or.inr (by decide))).trans (UM75.i (c := 294) (k := 12) (Or.inr (by decide))))) ((((gKl.refl.put UM75 rfl).put UM80 rfl).put UM83 rfl)) hjJ222_542) rfl)
                                omega
                              · skip
                                refine PW.aload_n q_177_256 rfl ?_
                                refine PW.cB q_177_257 (by decide) fun c85 hc85 => ?_
                                refine PW.aload_n q_177_259 rfl ?_
                                refine PW.gI q_177_260 (Or.inl t_ft_177_154) gF_40_14 kd_294 IM75.1 (by decide) fun x86 fx86 hx86 kx86 => ?_
                                have ix86 := o_i_of fx86
                                clear hx86 kx86
                                have n14 : o_i (M75 294) 14 = o_i (ML177_181_30 294) 14 := (UM75.i (c := 294) (k := 14) (Or.inr (by decide)))
                                refine PW.mulX q_177_263 (10) x86 (by decide) (by decide) (Or.inl ⟨by omega, rfl⟩) fun x87 hx87 => ?_
                                refine PW.aload_n q_177_264 rfl ?_
                                refine PW.cV (as := []) (rest := [_, _]) q_177_265 t_mv_177_134 kd_294 IM75.1 (by decide) rfl (by decide) rfl rfl (Nat.le_of_ble_eq_true rfl) (Nat.le_of_ble_eq_true rfl) (by decide) (by decide) ?_
                                refine PW.up (by decide) (c_X12_peek_vk (V) (hV) G _ M75 IM75 _ (v1.U UM75 rfl) fun x89  hx89 kx89 PM88 => ?_)
                                rcases PM88 with ⟨PaM88, PbM88, PcM88⟩ | ⟨PaM88, PbM88⟩
                                · skip
                                  have pzM88 := o_i_of ((UM75.f (Or.inr (by decide))).trans fx32)
                                  rw [show (o_i (M75 294) 4).toNat = x32.toInt.toNat from by omega] at PbM88
                                  refine PW.addX q_177_268 fun x90 hx90 => ?_
                                  refine PW.cB q_177_269 (by decide) fun c91 hc91 => ?_
                                  refine PW.subX q_177_271 fun x92 hx92 => ?_
                                  refine PW.pI q_177_272 (Or.inl t_ft_177_154) gF_40_14 gP_40_14 kd_294 hV IM75 (by decide) rfl (n_lo _) (n_hi _) fun M93 IM93 fM93 UM93 => ?_
                                  have FM93 := Fr.pu FM75 UM93.1 kd_294 (rfl : List.contains [40] 40 = true)
                                  refine PW.aload_n q_177_275 rfl ?_
                                  refine PW.dup q_177_276 rfl ?_
                                  refine PW.gE q_177_277 (Or.inl t_ft_177_141) gF_40_13 kd_294 IM93.1 (by decide) ((UM93.f (Or.inr (by decide))).trans ((UM75.f (Or.inr (by decide))).trans fx56)) ?_
                                  refine PW.cI q_177_280 (by decide) fun c94 hc94 => ?_
                                  refine PW.addN q_177_281 (by have := n_lo x56; have := n_hi x56; omega) (by have := n_lo x56; have := n_hi x56; omega) fun x95 hx95 => ?_
                                  refine PW.pI q_177_282 (Or.inl t_ft_177_141) gF_40_13 gP_40_13 kd_294 hV IM93 (by decide) rfl (n_lo _) (n_hi _) fun M96 IM96 fM96 UM96 => ?_
                                  have FM96 := Fr.pu FM93 UM96.1 kd_294 (rfl : List.contains [40] 40 = true)
                                  refine PW.aload_n q_177_285 rfl ?_
                                  refine PW.dup q_177_286 rfl ?_
                                  refine PW.gE q_177_287 (Or.inl t_ft_177_21) gF_40_4 kd_294 IM96.1 (by decide) ((UM96.f (Or.inr (by decide))).trans ((UM93.f (Or.inr (by decide))).trans ((UM75.f (Or.inr (by decide))).trans fx32))) ?_
                                  refine PW.cI q_177_290 (by decide) fun c97 hc97 => ?_
                                  refine PW.addN q_177_291 (by omega) (by omega) fun x98 hx98 => ?_
                                  refine PW.pI q_177_292 (Or.inl t_ft_177_21) gF_40_4 gP_40_4 kd_294 hV IM96 (by decide) rfl (by omega) (by omega) fun M99 IM99 fM99 UM99 => ?_
                                  have FM99 := Fr.pu FM96 UM99.1 kd_294 (rfl : List.contains [40] 40 = true)
                                  refine PW.goto q_177_295 rfl ?_
                                  have em99 := o_i_of fM99
                                  refine PW.lvS (lk1 rfl (lk1 rfl (lk1 rfl (lk1 rfl lk0)))) (ih_L177_181_30 _ ?_ M99 v55 IM99 FM99 (by omega) (by omega) (hbL177_181_302.on (c := (y.1 x32.toInt.toNat)) (by omega) hq hjJ201_531 (by omega) (by rw [show (o_i (ML177_181_30 294) 4).toNat = x32.toInt.toNat from by omega]) (by have w := (o_i_of fM99); omega) (by have w := (o_i_of ((UM99.f (Or.inr (by decide))).trans fM96)); omega) (fun _ a b => by have w1 := o_J_of fl68; rw [w1] at a b ⊢; rw [(o_J_of ((UM99.f (Or.inr (by decide))).trans ((UM96.f (Or.inr (by decide))).trans ((UM93.f (Or.inr (by decide))).trans fM75)))), n_w8 (c := x72) (by omega) el70 (by rw [el74, el73]) a b (by omega) (by omega)]; omega) (fun _ a b => by have w := (o_i_of ((UM99.f (Or.inr (by decide))).trans ((UM96.f (Or.inr (by decide))).trans fM93))); omega) ((((v1.U UM75 rfl).U UM93 rfl).U UM96 rfl).U UM99 rfl) ((UM99.i (c := 294) (k := 12) (Or.inr (by decide))).trans ((UM96.i (c := 294) (k := 12) (Or.inr (by decide))).trans ((UM93.i (c := 294) (k := 12) (Or.inr (by decide))).trans (UM75.i (c := 294) (k := 12) (Or.inr (by decide)))))) (((((gKl.refl.put UM75 rfl).put UM93 rfl).put UM96 rfl).put UM99 rfl)) hjJ222_542) rfl)
                                  omega
                                · skip
                                  have pzM88 := o_i_of ((UM75.f (Or.inr (by decide))).trans fx32)
                                  exfalso; omega
                            · skip
                              have pzM71 := o_i_of fx32
                              exfalso; omega
                        refine PW.iload_n q_177_201 rfl ?_
                        refine PW.jz_eq q_177_202 rfl (fun h101 => ?_) (fun h101 => ?_)
                        · skip
                          refine PW.cI q_177_220 (by decide) fun c102 hc102 => ?_
                          refine PW.istore_n q_177_221 (by decide) ?_
                          exact PW.lvS (lk1 rfl (lk1 rfl (lk1 rfl (lk1 rfl lk0)))) (J222_54 c102 (by omega) (by omega) (by omega))
                        · skip
                          refine PW.aload_n q_177_205 rfl ?_
                          refine PW.cV (as := []) (rest := []) q_177_206 t_mv_177_134 kd_294 IML177_181_30.1 (by decide) rfl (by decide) rfl rfl (Nat.le_of_ble_eq_true rfl) (Nat.le_of_ble_eq_true rfl) (by decide) (by decide) ?_
                          refine PW.up (by decide) (c_X12_peek_vk (V) (hV) G _ ML177_181_30 IML177_181_30 _ v1 fun x104  hx104 kx104 PM103 => ?_)
                          rcases PM103 with ⟨PaM103, PbM103, PcM103⟩ | ⟨PaM103, PbM103⟩
                          · skip
                            have pzM103 := o_i_of fx32
                            rw [show (o_i (ML177_181_30 294) 4).toNat = x32.toInt.toNat from by omega] at PbM103
                            refine PW.callS (as := [_]) (rest := []) q_177_209 t_ms_177_147 (by decide) rfl (Nat.le_of_ble_eq_true rfl) (Nat.le_of_ble_eq_true rfl) (by decide) (by decide) ?_
                            refine PW.up (by decide) (c_X12_isSmall_vk (V) (hV) G _ ML177_181_30 IML177_181_30 x104 fun x106  hx106 kx106 PM105 => ?_)
                            rcases PM105 with ⟨PaM105, PbM105, PcM105⟩ | ⟨PaM105, PbM105⟩
                            · skip
                              refine PW.iload_n q_177_212 rfl ?_
                              refine PW.jc_ne q_177_213 rfl (fun h107 => ?_) (fun h107 => ?_)
                              · skip
                                refine PW.cI q_177_220 (by decide) fun c108 hc108 => ?_
                                refine PW.istore_n q_177_221 (by decide) ?_
                                exact PW.lvS (lk1 rfl (lk1 rfl (lk1 rfl (lk1 rfl lk0)))) (J222_54 c108 (by omega) (by omega) (by omega))
                              · skip
                                refine PW.cI q_177_216 (by decide) fun c109 hc109 => ?_
                                refine PW.goto q_177_217 rfl ?_
                                refine PW.istore_n q_177_221 (by decide) ?_
                                exact PW.lvS (lk1 rfl (lk1 rfl (lk1 rfl (lk1 rfl lk0)))) (J222_54 c109 (by omega) (by omega) (by omega))
                            · skip
                              refine PW.iload_n q_177_212 rfl ?_
                              refine PW.jc_ne q_177_213 rfl (fun h110 => ?_) (fun h110 => ?_)
                              · skip
                                refine PW.cI q_177_220 (by decide) fun c111 hc111 => ?_
                                refine PW.istore_n q_177_221 (by decide) ?_
                                exact PW.lvS (lk1 rfl (lk1 rfl (lk1 rfl (lk1 rfl lk0)))) (J222_54 c111 (by omega) (by omega) (by omega))
                              · skip
                                refine PW.cI q_177_216 (by decide) fun c112 hc112 => ?_
                                refine PW.goto q_177_217 rfl ?_
                                refine PW.istore_n q_177_221 (by decide) ?_
                                exact PW.lvS (lk1 rfl (lk1 rfl (lk1 rfl (lk1 rfl lk0)))) (J222_54 c112 (by omega) (by omega) (by omega))
                          · skip
                            have pzM103 := o_i_of fx32
                            exfalso; omega
                      refine PW.cV (as := []) (rest := []) q_177_182 t_mv_177_134 kd_294 IML177_181_30.1 (by decide) rfl (by decide) rfl rfl (Nat.le_of_ble_eq_true rfl) (Nat.le_of_ble_eq_true rfl) (by decide) (by decide) ?_
                      refine PW.up (by decide) (c_X12_peek_vk (V) (hV) G _ ML177_181_30 IML177_181_30 _ v1 fun x114  hx114 kx114 PM113 => ?_)
                      rcases PM113 with ⟨PaM113, PbM113, PcM113⟩ | ⟨PaM113, PbM113⟩
                      · skip
                        have pzM113 := o_i_of fx32
                        rw [show (o_i (ML177_181_30 294) 4).toNat = x32.toInt.toNat from by omega] at PbM113
                        refine PW.callS (as := [_]) (rest := []) q_177_185 t_ms_177_147 (by decide) rfl (Nat.le_of_ble_eq_true rfl) (Nat.le_of_ble_eq_true rfl) (by decide) (by decide) ?_
                        refine PW.up (by decide) (c_X12_isSmall_vk (V) (hV) G _ ML177_181_30 IML177_181_30 x114 fun x116  hx116 kx116 PM115 => ?_)
                        rcases PM115 with ⟨PaM115, PbM115, PcM115⟩ | ⟨PaM115, PbM115⟩
                        · skip
                          refine PW.jz_ne q_177_188 rfl (fun h117 => ?_) (fun h117 => False.elim (by omega))
                          exact PW.lvS (lk1 rfl (lk1 rfl (lk1 rfl (lk1 rfl lk0)))) (J201_53 (by omega) (by omega))
                        · skip
                          refine PW.jz_ne q_177_188 rfl (fun h118 => False.elim (by omega)) (fun h118 => ?_)
                          refine PW.aload_n q_177_191 rfl ?_
                          refine PW.cV (as := []) (rest := []) q_177_192 t_mv_177_134 kd_294 IML177_181_30.1 (by decide) rfl (by decide) rfl rfl (Nat.le_of_ble_eq_true rfl) (Nat.le_of_ble_eq_true rfl) (by decide) (by decide) ?_
                          refine PW.up (by decide) (c_X12_peek_vk (V) (hV) G _ ML177_181_30 IML177_181_30 _ v1 fun x120  hx120 kx120 PM119 => ?_)
                          rcases PM119 with ⟨PaM119, PbM119, PcM119⟩ | ⟨PaM119, PbM119⟩
                          · skip
                            have pzM119 := o_i_of fx32
                            rw [show (o_i (ML177_181_30 294) 4).toNat = x32.toInt.toNat from by omega] at PbM119
                            refine PW.callS (as := [_]) (rest := []) q_177_195 t_ms_177_151 (by decide) rfl (Nat.le_of_ble_eq_true rfl) (Nat.le_of_ble_eq_true rfl) (by decide) (by decide) ?_
                            refine PW.up (by decide) (c_X12_isDigit_vk (V) (hV) G _ ML177_181_30 IML177_181_30 x120 fun x122  hx122 kx122 PM121 => ?_)
                            rcases PM121 with ⟨PaM121, PbM121, PcM121⟩ | ⟨PaM121, PbM121⟩
                            · skip
                              refine PW.jz_eq q_177_198 rfl (fun h123 => False.elim (by omega)) (fun h123 => ?_)
                              exact PW.lvS (lk1 rfl (lk1 rfl (lk1 rfl (lk1 rfl lk0)))) (J201_53 (by omega) (by omega))
                            · skip
                              refine PW.jz_eq q_177_198 rfl (fun h124 => ?_) (fun h124 => False.elim (by omega))
                              exact PW.lvS (lk1 rfl (lk1 rfl (lk1 rfl (lk1 rfl lk0)))) (J298_33 (by omega))
                          · skip
                            have pzM119 := o_i_of fx32
                            exfalso; omega
                      · skip
                        have pzM113 := o_i_of fx32
                        refine PW.callS (as := [_]) (rest := []) q_177_185 t_ms_177_147 (by decide) rfl (Nat.le_of_ble_eq_true rfl) (Nat.le_of_ble_eq_true rfl) (by decide) (by decide) ?_
                        refine PW.up (by decide) (c_X12_isSmall_vk (V) (hV) G _ ML177_181_30 IML177_181_30 x114 fun x126  hx126 kx126 PM125 => ?_)
                        rcases PM125 with ⟨PaM125, PbM125, PcM125⟩ | ⟨PaM125, PbM125⟩
                        · skip
                          exfalso; omega
                        · skip
                          refine PW.jz_ne q_177_188 rfl (fun h127 => False.elim (by omega)) (fun h127 => ?_)
                          refine PW.aload_n q_177_191 rfl ?_
                          refine PW.cV (as := []) (rest := []) q_177_192 t_mv_177_134 kd_294 IML177_181_30.1 (by decide) rfl (by decide) rfl rfl (Nat.le_of_ble_eq_true rfl) (Nat.le_of_ble_eq_true rfl) (by decide) (by decide) ?_
                          refine PW.up (by decide) (c_X12_peek_vk (V) (hV) G _ ML177_181_30 IML177_181_30 _ v1 fun x129  hx129 kx129 PM128 => ?_)
                          rcases PM128 with ⟨PaM128, PbM128, PcM128⟩ | ⟨PaM128, PbM128⟩
                          · skip
                            have pzM128 := o_i_of fx32
                            exfalso; omega
                          · skip
                            have pzM128 := o_i_of fx32
                            refine PW.callS (as := [_]) (rest := []) q_177_195 t_ms_177_151 (by decide) rfl (Nat.le_of_ble_eq_true rfl) (Nat.le_of_ble_eq_true rfl) (by decide) (by decide) ?_
                            refine PW.up (by decide) (c_X12_isDigit_vk (V) (hV) G _ ML177_181_30 IML177_181_30 x129 fun x131  hx131 kx131 PM130 => ?_)
                            rcases PM130 with ⟨PaM130, PbM130, PcM130⟩ | ⟨PaM130, PbM130⟩
                            · skip
                              exfalso; omega
                            · skip
                              refine PW.jz_eq q_177_198 rfl (fun h132 => ?_) (fun h132 => False.elim (by omega))
                              exact PW.lvS (lk1 rfl (lk1 rfl (lk1 rfl (lk1 rfl lk0)))) (J298_33 (by omega))
                    exact PW.lvS (lk1 rfl (lk1 rfl (lk1 rfl (lk1 rfl lk0)))) (L177_181_30 _ M29 c25 IM29 FM29 (by omega) (by omega) (k_rr.init (q := k_sk y (k_ps y i)) (by have w := (o_i_of ((UM29.f (Or.inr (by decide))).trans ((UM27.f (Or.inr (by decide))).trans ((UM17.f (Or.inr (by decide))).trans ((UM15.f (Or.inr (by decide))).trans fx2))))); omega) (by omega) (by omega) (by have w := (o_i_of ((UM29.f (Or.inr (by decide))).trans ((UM27.f (Or.inr (by decide))).trans fM17))); omega) (by rw [(o_J_of ((UM29.f (Or.inr (by decide))).trans fM27)), el26]; decide) (by have w := (o_i_of fM29); omega) ((((hbL177_0_10.U UM15 rfl).U UM17 rfl).U UM27 rfl).U UM29 rfl) (by have w := (o_i_of ((UM29.f (Or.inr (by decide))).trans ((UM27.f (Or.inr (by decide))).trans ((UM17.f (Or.inr (by decide))).trans fM15)))); omega) ((((hbL177_0_12.put UM15 rfl).put UM17 rfl).put UM27 rfl).put UM29 rfl)) rfl)
                  refine PW.iload_n q_177_164 rfl ?_
                  refine PW.callS (as := [_]) (rest := []) q_177_165 t_ms_177_147 (by decide) rfl (Nat.le_of_ble_eq_true rfl) (Nat.le_of_ble_eq_true rfl) (by decide) (by decide) ?_
                  refine PW.up (by decide) (c_X12_isSmall_vk (V) (hV) G _ M17 IM17 x20 fun x134  hx134 kx134 PM133 => ?_)
                  rcases PM133 with ⟨PaM133, PbM133, PcM133⟩ | ⟨PaM133, PbM133⟩
                  · skip
                    refine PW.istore_n q_177_168 (by decide) ?_
                    exact PW.lvS (lk1 rfl (lk1 rfl (lk1 rfl lk0))) (J169_23 x134 (by omega) (by omega) (by omega))
                  · skip
                    refine PW.istore_n q_177_168 (by decide) ?_
                    exact PW.lvS (lk1 rfl (lk1 rfl (lk1 rfl lk0))) (J169_23 x134 (by omega) (by omega) (by omega))
                refine PW.iload_n q_177_95 rfl ?_
                refine PW.callS (as := [_]) (rest := []) q_177_96 t_ms_177_147 (by decide) rfl (Nat.le_of_ble_eq_true rfl) (Nat.le_of_ble_eq_true rfl) (by decide) (by decide) ?_
                refine PW.up (by decide) (c_X12_isSmall_vk (V) (hV) G _ M17 IM17 x20 fun x136  hx136 kx136 PM135 => ?_)
                rcases PM135 with ⟨PaM135, PbM135, PcM135⟩ | ⟨PaM135, PbM135⟩
                · skip
                  refine PW.jz_ne q_177_99 rfl (fun h137 => ?_) (fun h137 => False.elim (by omega))
                  exact PW.lvS (lk1 rfl (lk1 rfl lk0)) (J164_22 (by omega))
                · skip
                  refine PW.jz_ne q_177_99 rfl (fun h138 => False.elim (by omega)) (fun h138 => ?_)
                  refine PW.iload_n q_177_102 rfl ?_
                  refine PW.callS (as := [_]) (rest := []) q_177_103 t_ms_177_151 (by decide) rfl (Nat.le_of_ble_eq_true rfl) (Nat.le_of_ble_eq_true rfl) (by decide) (by decide) ?_
                  refine PW.up (by decide) (c_X12_isDigit_vk (V) (hV) G _ M17 IM17 x20 fun x140  hx140 kx140 PM139 => ?_)
                  rcases PM139 with ⟨PaM139, PbM139, PcM139⟩ | ⟨PaM139, PbM139⟩
                  · skip
                    refine PW.jz_ne q_177_106 rfl (fun h141 => ?_) (fun h141 => False.elim (by omega))
                    exact PW.lvS (lk1 rfl (lk1 rfl lk0)) (J164_22 (by omega))
                  · skip
                    refine PW.jz_ne q_177_106 rfl (fun h142 => False.elim (by omega)) (fun h142 => ?_)
                    refine PW.aload_n q_177_109 rfl ?_
                    refine PW.iload_n q_177_110 rfl ?_
                    refine PW.cB q_177_111 (by decide) fun c143 hc143 => ?_
                    refine PW.jc_eq q_177_113 rfl (fun h144 => ?_) (fun h144 => ?_)
                    · skip
                      refine PW.cI q_177_140 (by decide) fun c145 hc145 => ?_
                      refine PW.goto q_177_141 rfl ?_
                      refine PW.pI q_177_145 (Or.inl t_ft_177_144) gF_40_11 gP_40_11 kd_294 hV IM17 (by decide) rfl (n_lo _) (n_hi _) fun M146 IM146 fM146 UM146 => ?_
                      have FM146 := Fr.pu FM17 UM146.1 kd_294 (rfl : List.contains [40] 40 = true)
                      refine PW.aload_n q_177_148 rfl ?_
                      refine PW.iload_n q_177_149 rfl ?_
                      refine PW.pI q_177_150 (Or.inl t_ft_177_154) gF_40_14 gP_40_14 kd_294 hV IM146 (by decide) rfl (n_lo _) (n_hi _) fun M147 IM147 fM147 UM147 => ?_
                      have FM147 := Fr.pu FM146 UM147.1 kd_294 (rfl : List.contains [40] 40 = true)
                      refine PW.aload_n q_177_153 rfl ?_
                      refine PW.dup q_177_154 rfl ?_
                      refine PW.gE q_177_155 (Or.inl t_ft_177_21) gF_40_4 kd_294 IM147.1 (by decide) ((UM147.f (Or.inr (by decide))).trans ((UM146.f (Or.inr (by decide))).trans ((UM17.f (Or.inr (by decide))).trans ((UM15.f (Or.inr (by decide))).trans fx2)))) ?_
                      refine PW.cI q_177_158 (by decide) fun c148 hc148 => ?_
                      refine PW.addN q_177_159 (by omega) (by omega) fun x149 hx149 => ?_
                      refine PW.pI q_177_160 (Or.inl t_ft_177_21) gF_40_4 gP_40_4 kd_294 hV IM147 (by decide) rfl (by omega) (by omega) fun M150 IM150 fM150 UM150 => ?_
                      have FM150 := Fr.pu FM147 UM150.1 kd_294 (rfl : List.contains [40] 40 = true)
                      refine PW.vret q_177_163 rfl (by decide) (by decide) ?_
                      exact hK M150 IM150 FM150 ⟨(((((hbL177_0_12.put UM15 rfl).put UM17 rfl).put UM146 rfl).put UM147 rfl).put UM150 rfl), ⟨(((((hbL177_0_10.U UM15 rfl).U UM17 rfl).U UM146 rfl).U UM147 rfl).U UM150 rfl), by rw [k_tk_s (by omega) (by omega) (by rw [eq]; omega) (by rw [eq]; omega)]; exact ⟨by have w := (o_i_of ((UM150.f (Or.inr (by decide))).trans ((UM147.f (Or.inr (by decide))).trans ((UM146.f (Or.inr (by decide))).trans ((UM17.f (Or.inr (by decide))).trans fM15))))); show o_i (M150 294) 12 = (k_sk y (k_ps y i) : Int); omega, Or.inr (Or.inr (Or.inr (Or.inr ⟨rfl, by have w := (o_i_of fM150); show o_i (M150 294) 4 = ((k_sk y (k_ps y i) + 1 : Nat) : Int); omega, by have w := (o_i_of ((UM150.f (Or.inr (by decide))).trans ((UM147.f (Or.inr (by decide))).trans fM146))); omega, by have w := (o_i_of ((UM150.f (Or.inr (by decide))).trans fM147)); show o_i (M150 294) 14 = y.1 (k_sk y (k_ps y i)); rw [eq]; omega⟩)))⟩⟩⟩
                    · skip
                      refine PW.iload_n q_177_116 rfl ?_
                      refine PW.cB q_177_117 (by decide) fun c151 hc151 => ?_
                      refine PW.jc_eq q_177_119 rfl (fun h152 => ?_) (fun h152 => ?_)
                      · skip
                        refine PW.cI q_177_140 (by decide) fun c153 hc153 => ?_
                        refine PW.goto q_177_141 rfl ?_
                        refine PW.pI q_177_145 (Or.inl t_ft_177_144) gF_40_11 gP_40_11 kd_294 hV IM17 (by decide) rfl (n_lo _) (n_hi _) fun M154 IM154 fM154 UM154 => ?_
                        have FM154 := Fr.pu FM17 UM154.1 kd_294 (rfl : List.contains [40] 40 = true)
                        refine PW.aload_n q_177_148 rfl ?_
                        refine PW.iload_n q_177_149 rfl ?_
                        refine PW.pI q_177_150 (Or.inl t_ft_177_154) gF_40_14 gP_40_14 kd_294 hV IM154 (by decide) rfl (n_lo _) (n_hi _) fun M155 IM155 fM155 UM155 => ?_
                        have FM155 := Fr.pu FM154 UM155.1 kd_294 (rfl : List.contains [40] 40 = true)
                        refine PW.aload_n q_177_153 rfl ?_
                        refine PW.dup q_177_154 rfl ?_
                        refine PW.gE q_177_155 (Or.inl t_ft_177_21) gF_40_4 kd_294 IM155.1 (by decide) ((UM155.f (Or.inr (by decide))).trans ((UM154.f (Or.inr (by decide))).trans ((UM17.f (Or.inr (by decide))).trans ((UM15.f (Or.inr (by decide))).trans fx2)))) ?_
                        refine PW.cI q_177_158 (by decide) fun c156 hc156 => ?_
                        refine PW.addN q_177_159 (by omega) (by omega) fun x157 hx157 => ?_
                        refine PW.pI q_177_160 (Or.inl t_ft_177_21) gF_40_4 gP_40_4 kd_294 hV IM155 (by decide) rfl (by omega) (by omega) fun M158 IM158 fM158 UM158 => ?_
                        have FM158 := Fr.pu FM155 UM158.1 kd_294 (rfl : List.contains [40] 40 = true)
                        refine PW.vret q_177_163 rfl (by decide) (by decide) ?_
                        exact hK M158 IM158 FM158 ⟨(((((hbL177_0_12.put UM15 rfl).put UM17 rfl).put UM154 rfl).put UM155 rfl).put UM158 rfl), ⟨(((((hbL177_0_10.U UM15 rfl).U UM17 rfl).U UM154 rfl).U UM155 rfl).U UM158 rfl), by rw [k_tk_s (by omega) (by omega) (by rw [eq]; omega) (by rw [eq]; omega)]; exact ⟨by have w := (o_i_of ((UM158.f (Or.inr (by decide))).trans ((UM155.f (Or.inr (by decide))).trans ((UM154.f (Or.inr (by decide))).trans ((UM17.f (Or.inr (by decide))).trans fM15))))); show o_i (M158 294) 12 = (k_sk y (k_ps y i) : Int); omega, Or.inr (Or.inr (Or.inr (Or.inr ⟨rfl, by have w := (o_i_of fM158); show o_i (M158 294) 4 = ((k_sk y (k_ps y i) + 1 : Nat) : Int); omega, by have w := (o_i_of ((UM158.f (Or.inr (by decide))).trans ((UM155.f (Or.inr (by decide))).trans fM154))); omega, by have w := (o_i_of ((UM158.f (Or.inr (by decide))).trans fM155)); show o_i (M158 294) 14 = y.1 (k_sk y (k_ps y i)); rw [eq]; omega⟩)))⟩⟩⟩
                      · skip
                        refine PW.iload_n q_177_122 rfl ?_
                        refine PW.cB q_177_123 (by decide) fun c159 hc159 => ?_
                        refine PW.jc_eq q_177_125 rfl (fun h160 => ?_) (fun h160 => ?_)
                        · skip
                          refine PW.cI q_177_140 (by decide) fun c161 hc161 => ?_
                          refine PW.goto q_177_141 rfl ?_
                          refine PW.pI q_177_145 (Or.inl t_ft_177_144) gF_40_11 gP_40_11 kd_294 hV IM17 (by decide) rfl (n_lo _) (n_hi _) fun M162 IM162 fM162 UM162 => ?_
                          have FM162 := Fr.pu FM17 UM162.1 kd_294 (rfl : List.contains [40] 40 = true)
                          refine PW.aload_n q_177_148 rfl ?_
                          refine PW.iload_n q_177_149 rfl ?_
                          refine PW.pI q_177_150 (Or.inl t_ft_177_154) gF_40_14 gP_40_14 kd_294 hV IM162 (by decide) rfl (n_lo _) (n_hi _) fun M163 IM163 fM163 UM163 => ?_
                          have FM163 := Fr.pu FM162 UM163.1 kd_294 (rfl : List.contains [40] 40 = true)
                          refine PW.aload_n q_177_153 rfl ?_
                          refine PW.dup q_177_154 rfl ?_
                          refine PW.gE q_177_155 (Or.inl t_ft_177_21) gF_40_4 kd_294 IM163.1 (by decide) ((UM163.f (Or.inr (by decide))).trans ((UM162.f (Or.inr (by decide))).trans ((UM17.f (Or.inr (by decide))).trans ((UM15.f (Or.inr (by decide))).trans fx2)))) ?_
                          refine PW.cI q_177_158 (by decide) fun c164 hc164 => ?_
                          refine PW.addN q_177_159 (by omega) (by omega) fun x165 hx165 => ?_
                          refine PW.pI q_177_160 (Or.inl t_ft_177_21) gF_40_4 gP_40_4 kd_294 hV IM163 (by decide) rfl (by omega) (by omega) fun M166 IM166 fM166 UM166 => ?_
                          have FM166 := Fr.pu FM163 UM166.1 kd_294 (rfl : List.contains [40] 40 = true)
                          refine PW.vret q_177_163 rfl (by decide) (by decide) ?_
                          exact hK M166 IM166 FM166 ⟨(((((hbL177_0_12.put UM15 rfl).put UM17 rfl).put UM162 rfl).put UM163 rfl).put UM166 rfl), ⟨(((((hbL177_0_10.U UM15 rfl).U UM17 rfl).U UM162 rfl).U UM163 rfl).U UM166 rfl), by rw [k_tk_s (by omega) (by omega) (by rw [eq]; omega) (by rw [eq]; omega)]; exact ⟨by have w := (o_i_of ((UM166.f (Or.inr (by decide))).trans ((UM163.f (Or.inr (by decide))).trans ((UM162.f (Or.inr (by decide))).trans ((UM17.f (Or.inr (by decide))).trans fM15))))); show o_i (M166 294) 12 = (k_sk y (k_ps y i) : Int); omega, Or.inr (Or.inr (Or.inr (Or.inr ⟨rfl, by have w := (o_i_of fM166); show o_i (M166 294) 4 = ((k_sk y (k_ps y i) + 1 : Nat) : Int); omega, by have w := (o_i_of ((UM166.f (Or.inr (by decide))).trans ((UM163.f (Or.inr (by decide))).trans fM162))); omega, by have w := (o_i_of ((UM166.f (Or.inr (by decide))).trans fM163)); show o_i (M166 294) 14 = y.1 (k_sk y (k_ps y i)); rw [eq]; omega⟩)))⟩⟩⟩
                        · skip
                          refine PW.iload_n q_177_128 rfl ?_
                          refine PW.cB q_177_129 (by decide) fun c167 hc167 => ?_
                          refine PW.jc_lt q_177_131 rfl (fun h168 => ?_) (fun h168 => ?_)
                          · skip
                            refine PW.cI q_177_144 (by decide) fun c169 hc169 => ?_
                            refine PW.pI q_177_145 (Or.inl t_ft_177_144) gF_40_11 gP_40_11 kd_294 hV IM17 (by decide) rfl (n_lo _) (n_hi _) fun M170 IM170 fM170 UM170 => ?_
                            have FM170 := Fr.pu FM17 UM170.1 kd_294 (rfl : List.contains [40] 40 = true)
                            refine PW.aload_n q_177_148 rfl ?_
                            refine PW.iload_n q_177_149 rfl ?_
                            refine PW.pI q_177_150 (Or.inl t_ft_177_154) gF_40_14 gP_40_14 kd_294 hV IM170 (by decide) rfl (n_lo _) (n_hi _) fun M171 IM171 fM171 UM171 => ?_
                            have FM171 := Fr.pu FM170 UM171.1 kd_294 (rfl : List.contains [40] 40 = true)
                            refine PW.aload_n q_177_153 rfl ?_
                            refine PW.dup q_177_154 rfl ?_
                            refine PW.gE q_177_155 (Or.inl t_ft_177_21) gF_40_4 kd_294 IM171.1 (by decide) ((UM171.f (Or.inr (by decide))).trans ((UM170.f (Or.inr (by decide))).trans ((UM17.f (Or.inr (by decide))).trans ((UM15.f (Or.inr (by decide))).trans fx2)))) ?_
                            refine PW.cI q_177_158 (by decide) fun c172 hc172 => ?_
                            refine PW.addN q_177_159 (by omega) (by omega) fun x173 hx173 => ?_
                            refine PW.pI q_177_160 (Or.inl t_ft_177_21) gF_40_4 gP_40_4 kd_294 hV IM171 (by decide) rfl (by omega) (by omega) fun M174 IM174 fM174 UM174 => ?_
                            have FM174 := Fr.pu FM171 UM174.1 kd_294 (rfl : List.contains [40] 40 = true)
                            refine PW.vret q_177_163 rfl (by decide) (by decide) ?_
                            exact hK M174 IM174 FM174 ⟨(((((hbL177_0_12.put UM15 rfl).put UM17 rfl).put UM170 rfl).put UM171 rfl).put UM174 rfl), ⟨(((((hbL177_0_10.U UM15 rfl).U UM17 rfl).U UM170 rfl).U UM171 rfl).U UM174 rfl), by rw [k_tk_b (by omega) (by omega) (by rw [eq]; omega) (by rw [eq]; omega)]; exact ⟨by have w := (o_i_of ((UM174.f (Or.inr (by decide))).trans ((UM171.f (Or.inr (by decide))).trans ((UM170.f (Or.inr (by decide))).trans ((UM17.f (Or.inr (by decide))).trans fM15))))); show o_i (M174 294) 12 = (k_sk y (k_ps y i) : Int); omega, Or.inr (Or.inl ⟨rfl, by have w := (o_i_of ((UM174.f (Or.inr (by decide))).trans ((UM171.f (Or.inr (by decide))).trans fM170))); omega⟩)⟩⟩⟩
                          · skip
                            refine PW.iload_n q_177_134 rfl ?_
                            refine PW.cB q_177_135 (by decide) fun c175 hc175 => ?_
                            refine PW.jc_gt q_177_137 rfl (fun h176 => ?_) (fun h176 => ?_)
                            · skip
                              refine PW.cI q_177_144 (by decide) fun c177 hc177 => ?_
                              refine PW.pI q_177_145 (Or.inl t_ft_177_144) gF_40_11 gP_40_11 kd_294 hV IM17 (by decide) rfl (n_lo _) (n_hi _) fun M178 IM178 fM178 UM178 => ?_
                              have FM178 := Fr.pu FM17 UM178.1 kd_294 (rfl : List.contains [40] 40 = true)
                              refine PW.aload_n q_177_148 rfl ?_
                              refine PW.iload_n q_177_149 rfl ?_
                              refine PW.pI q_177_150 (Or.inl t_ft_177_154) gF_40_14 gP_40_14 kd_294 hV IM178 (by decide) rfl (n_lo _) (n_hi _) fun M179 IM179 fM179 UM179 => ?_
                              have FM179 := Fr.pu FM178 UM179.1 kd_294 (rfl : List.contains [40] 40 = true)
                              refine PW.aload_n q_177_153 rfl ?_
                              refine PW.dup q_177_154 rfl ?_
                              refine PW.gE q_177_155 (Or.inl t_ft_177_21) gF_40_4 kd_294 IM179.1 (by decide) ((UM179.f (Or.inr (by decide))).trans ((UM178.f (Or.inr (by decide))).trans ((UM17.f (Or.inr (by decide))).trans ((UM15.f (Or.inr (by decide))).trans fx2)))) ?_
                              refine PW.cI q_177_158 (by decide) fun c180 hc180 => ?_
                              refine PW.addN q_177_159 (by omega) (by omega) fun x181 hx181 => ?_
                              refine PW.pI q_177_160 (Or.inl t_ft_177_21) gF_40_4 gP_40_4 kd_294 hV IM179 (by decide) rfl (by omega) (by omega) fun M182 IM182 fM182 UM182 => ?_
                              have FM182 := Fr.pu FM179 UM182.1 kd_294 (rfl : List.contains [40] 40 = true)
                              refine PW.vret q_177_163 rfl (by decide) (by decide) ?_
                              exact hK M182 IM182 FM182 ⟨(((((hbL177_0_12.put UM15 rfl).put UM17 rfl).put UM178 rfl).put UM179 rfl).put UM182 rfl), ⟨(((((hbL177_0_10.U UM15 rfl).U UM17 rfl).U UM178 rfl).U UM179 rfl).U UM182 rfl), by rw [k_tk_b (by omega) (by omega) (by rw [eq]; omega) (by rw [eq]; omega)]; exact ⟨by have w := (o_i_of ((UM182.f (Or.inr (by decide))).trans ((UM179.f (Or.inr (by decide))).trans ((UM178.f (Or.inr (by decide))).trans ((UM17.f (Or.inr (by decide))).trans fM15))))); show o_i (M182 294) 12 = (k_sk y (k_ps y i) : Int); omega, Or.inr (Or.inl ⟨rfl, by have w := (o_i_of ((UM182.f (Or.inr (by decide))).trans ((UM179.f (Or.inr (by decide))).trans fM178))); omega⟩)⟩⟩⟩
                            · skip
                              refine PW.cI q_177_140 (by decide) fun c183 hc183 => ?_
                              refine PW.goto q_177_141 rfl ?_
                              refine PW.pI q_177_145 (Or.inl t_ft_177_144) gF_40_11 gP_40_11 kd_294 hV IM17 (by decide) rfl (n_lo _) (n_hi _) fun M184 IM184 fM184 UM184 => ?_
                              have FM184 := Fr.pu FM17 UM184.1 kd_294 (rfl : List.contains [40] 40 = true)
                              refine PW.aload_n q_177_148 rfl ?_
                              refine PW.iload_n q_177_149 rfl ?_
                              refine PW.pI q_177_150 (Or.inl t_ft_177_154) gF_40_14 gP_40_14 kd_294 hV IM184 (by decide) rfl (n_lo _) (n_hi _) fun M185 IM185 fM185 UM185 => ?_
                              have FM185 := Fr.pu FM184 UM185.1 kd_294 (rfl : List.contains [40] 40 = true)
                              refine PW.aload_n q_177_153 rfl ?_
                              refine PW.dup q_177_154 rfl ?_
                              refine PW.gE q_177_155 (Or.inl t_ft_177_21) gF_40_4 kd_294 IM185.1 (by decide) ((UM185.f (Or.inr (by decide))).trans ((UM184.f (Or.inr (by decide))).trans ((UM17.f (Or.inr (by decide))).trans ((UM15.f (Or.inr (by decide))).trans fx2)))) ?_
                              refine PW.cI q_177_158 (by decide) fun c186 hc186 => ?_
                              refine PW.addN q_177_159 (by omega) (by omega) fun x187 hx187 => ?_
                              refine PW.pI q_177_160 (Or.inl t_ft_177_21) gF_40_4 gP_40_4 kd_294 hV IM185 (by decide) rfl (by omega) (by omega) fun M188 IM188 fM188 UM188 => ?_
                              have FM188 := Fr.pu FM185 UM188.1 kd_294 (rfl : List.contains [40] 40 = true)
                              refine PW.vret q_177_163 rfl (by decide) (by decide) ?_
                              exact hK M188 IM188 FM188 ⟨(((((hbL177_0_12.put UM15 rfl).put UM17 rfl).put UM184 rfl).put UM185 rfl).put UM188 rfl), ⟨(((((hbL177_0_10.U UM15 rfl).U UM17 rfl).U UM184 rfl).U UM185 rfl).U UM188 rfl), by rw [k_tk_s (by omega) (by omega) (by rw [eq]; omega) (by rw [eq]; omega)]; exact ⟨by have w := (o_i_of ((UM188.f (Or.inr (by decide))).trans ((UM185.f (Or.inr (by decide))).trans ((UM184.f (Or.inr (by decide))).trans ((UM17.f (Or.inr (by decide))).trans fM15))))); show o_i (M188 294) 12 = (k_sk y (k_ps y i) : Int); omega, Or.inr (Or.inr (Or.inr (Or.inr ⟨rfl, by have w := (o_i_of fM188); show o_i (M188 294) 4 = ((k_sk y (k_ps y i) + 1 : Nat) : Int); omega, by have w := (o_i_of ((UM188.f (Or.inr (by decide))).trans ((UM185.f (Or.inr (by decide))).trans fM184))); omega, by have w := (o_i_of ((UM188.f (Or.inr (by decide))).trans fM185)); show o_i (M188 294) 14 = y.1 (k_sk y (k_ps y i)); rw [eq]; omega⟩)))⟩⟩⟩
              · skip
                have pzM19 := o_i_of ((UM17.f (Or.inr (by decide))).trans ((UM15.f (Or.inr (by decide))).trans fx2))
                exfalso; omega
            refine PW.aload_n q_177_44 rfl ?_
            refine PW.gI q_177_45 (Or.inl t_ft_177_18) gF_40_3 kd_294 IM17.1 (by decide) fun x189 fx189 hx189 kx189 => ?_
            have ix189 := o_i_of fx189
            refine PW.aload_n q_177_48 rfl ?_
            refine PW.gI q_177_49 (Or.inl t_ft_177_24) gF_40_5 kd_294 IM17.1 (by decide) fun x190 fx190 hx190 kx190 => ?_
            have ix190 := o_i_of fx190
            clear hx190 kx190
            refine PW.jc_le q_177_52 rfl (fun h191 => ?_) (fun h191 => ?_)
            · skip
              exact PW.lvS (lk1 rfl lk0) (J80_18 (by omega))
            · skip
              refine PW.aload_n q_177_55 rfl ?_
              refine PW.gE q_177_56 (Or.inl t_ft_177_21) gF_40_4 kd_294 IM17.1 (by decide) ((UM17.f (Or.inr (by decide))).trans ((UM15.f (Or.inr (by decide))).trans fx2)) ?_
              refine PW.aload_n q_177_59 rfl ?_
              refine PW.gE q_177_60 (Or.inl t_ft_177_24) gF_40_5 kd_294 IM17.1 (by decide) fx190 ?_
              refine PW.jc_lt q_177_63 rfl (fun h192 => ?_) (fun h192 => ?_)
              · skip
                exact PW.lvS (lk1 rfl lk0) (J80_18 (by omega))
              · skip
                refine PW.aload_n q_177_66 rfl ?_
                refine PW.aload_n q_177_67 rfl ?_
                refine PW.gE q_177_68 (Or.inl t_ft_177_24) gF_40_5 kd_294 IM17.1 (by decide) fx190 ?_
                refine PW.pI q_177_71 (Or.inl t_ft_177_138) gF_40_12 gP_40_12 kd_294 hV IM17 (by decide) rfl (n_lo _) (n_hi _) fun M193 IM193 fM193 UM193 => ?_
                have FM193 := Fr.pu FM17 UM193.1 kd_294 (rfl : List.contains [40] 40 = true)
                refine PW.aload_n q_177_74 rfl ?_
                refine PW.cI q_177_75 (by decide) fun c194 hc194 => ?_
                refine PW.pI q_177_76 (Or.inl t_ft_177_144) gF_40_11 gP_40_11 kd_294 hV IM193 (by decide) rfl (n_lo _) (n_hi _) fun M195 IM195 fM195 UM195 => ?_
                have FM195 := Fr.pu FM193 UM195.1 kd_294 (rfl : List.contains [40] 40 = true)
                refine PW.vret q_177_79 rfl (by decide) (by decide) ?_
                exact hK M195 IM195 FM195 ⟨((((hbL177_0_12.put UM15 rfl).put UM17 rfl).put UM193 rfl).put UM195 rfl), ⟨((((hbL177_0_10.U UM15 rfl).U UM17 rfl).U UM193 rfl).U UM195 rfl), k_rt_l ⟨by omega, by omega, (by have w := (o_i_of ((UM195.f (Or.inr (by decide))).trans fM193)); omega)⟩ (by have w := (o_i_of fM195); omega)⟩⟩
          · skip
            refine PW.aload_n q_177_18 rfl ?_
            refine PW.dup q_177_19 rfl ?_
            refine PW.gE q_177_20 (Or.inl t_ft_177_21) gF_40_4 kd_294 IML177_0_1.1 (by decide) fx2 ?_
            refine PW.cI q_177_23 (by decide) fun c196 hc196 => ?_
            refine PW.addN q_177_24 (by omega) (by omega) fun x197 hx197 => ?_
            refine PW.pI q_177_25 (Or.inl t_ft_177_21) gF_40_4 gP_40_4 kd_294 hV IML177_0_1 (by decide) rfl (by omega) (by omega) fun M198 IM198 fM198 UM198 => ?_
            have FM198 := Fr.pu FML177_0_1 UM198.1 kd_294 (rfl : List.contains [40] 40 = true)
            refine PW.goto q_177_28 rfl ?_
            have em198 := o_i_of fM198
            refine PW.lvS (lk1 rfl lk0) (ih_L177_0_1 _ ?_ M198  IM198 FM198 (hbL177_0_10.U UM198 rfl) (by have w := (o_i_of fM198); rw [show (o_i (M198 294) 4).toNat = (o_i (ML177_0_1 294) 4).toNat + 1 from by omega, ← k_sk_on (by omega) (by rw [show (o_i (ML177_0_1 294) 4).toNat = x2.toInt.toNat from by omega]; omega)]; exact hbL177_0_11) (hbL177_0_12.put UM198 rfl) rfl)
            omega
        · skip
          have pzM11 := o_i_of fx2
          exfalso; omega
    · skip
      have pzM3 := o_i_of fx2
      refine PW.cB q_177_4 (by decide) fun c200 hc200 => ?_
      refine PW.jc_eq q_177_6 rfl (fun h201 => False.elim (by omega)) (fun h201 => ?_)
      refine PW.aload_n q_177_9 rfl ?_
      refine PW.cV (as := []) (rest := []) q_177_10 t_mv_177_134 kd_294 IML177_0_1.1 (by decide) rfl (by decide) rfl rfl (Nat.le_of_ble_eq_true rfl) (Nat.le_of_ble_eq_true rfl) (by decide) (by decide) ?_
      refine PW.up (by decide) (c_X12_peek_vk (V) (hV) G _ ML177_0_1 IML177_0_1 _ hbL177_0_10 fun x203  hx203 kx203 PM202 => ?_)
      rcases PM202 with ⟨PaM202, PbM202, PcM202⟩ | ⟨PaM202, PbM202⟩
      · skip
        have pzM202 := o_i_of fx2
        exfalso; omega
      · skip
        have pzM202 := o_i_of fx2
        refine PW.cB q_177_13 (by decide) fun c204 hc204 => ?_
        refine PW.jc_ne q_177_15 rfl (fun h205 => ?_) (fun h205 => False.elim (by omega))
        have eq : k_sk y (k_ps y i) = x2.toInt.toNat := by rw [← hbL177_0_11, show (o_i (ML177_0_1 294) 4).toNat = x2.toInt.toNat from by omega]; exact k_sk_at (by omega)
        refine PW.aload_n q_177_31 rfl ?_
        refine PW.aload_n q_177_32 rfl ?_
        refine PW.gE q_177_33 (Or.inl t_ft_177_21) gF_40_4 kd_294 IML177_0_1.1 (by decide) fx2 ?_
        refine PW.pI q_177_36 (Or.inl t_ft_177_138) gF_40_12 gP_40_12 kd_294 hV IML177_0_1 (by decide) rfl (n_lo _) (n_hi _) fun M206 IM206 fM206 UM206 => ?_
        have FM206 := Fr.pu FML177_0_1 UM206.1 kd_294 (rfl : List.contains [40] 40 = true)
        refine PW.aload_n q_177_39 rfl ?_
        refine PW.cI q_177_40 (by decide) fun c207 hc207 => ?_
        refine PW.pI q_177_41 (Or.inl t_ft_177_141) gF_40_13 gP_40_13 kd_294 hV IM206 (by decide) rfl (n_lo _) (n_hi _) fun M208 IM208 fM208 UM208 => ?_
        have FM208 := Fr.pu FM206 UM208.1 kd_294 (rfl : List.contains [40] 40 = true)
        have rx44 := ((hbL177_0_10.U UM206 rfl).U UM208 rfl)
        have s44 := rx44.1
        have l44 := rx44.2.1
        have J80_209 : (y.2.1 ≤ y.2.2 ∨ x2.toInt < y.2.2) → PW G false 1 177 (p_mc 177) (p_msl 177) Kr 80 [(0, .ref 294)] [] 311 M208 0 0 := by
          intro hjJ80_2090
          refine PW.aload_n q_177_80 rfl ?_
          refine PW.cV (as := []) (rest := []) q_177_81 t_mv_177_134 kd_294 IM208.1 (by decide) rfl (by decide) rfl rfl (Nat.le_of_ble_eq_true rfl) (Nat.le_of_ble_eq_true rfl) (by decide) (by decide) ?_
          refine PW.up (by decide) (c_X12_peek_vk (V) (hV) G _ M208 IM208 _ ((hbL177_0_10.U UM206 rfl).U UM208 rfl) fun x211  hx211 kx211 PM210 => ?_)
          rcases PM210 with ⟨PaM210, PbM210, PcM210⟩ | ⟨PaM210, PbM210⟩
          · skip
            have pzM210 := o_i_of ((UM208.f (Or.inr (by decide))).trans ((UM206.f (Or.inr (by decide))).trans fx2))
            exfalso; omega
          · skip
            have pzM210 := o_i_of ((UM208.f (Or.inr (by decide))).trans ((UM206.f (Or.inr (by decide))).trans fx2))
            refine PW.istore_n q_177_84 (by decide) ?_
            refine PW.iload_n q_177_85 rfl ?_
            refine PW.jz_ge q_177_86 rfl (fun h212 => False.elim (by omega)) (fun h212 => ?_)
            refine PW.aload_n q_177_89 rfl ?_
            refine PW.cI q_177_90 (by decide) fun c213 hc213 => ?_
            refine PW.pI q_177_91 (Or.inl t_ft_177_144) gF_40_11 gP_40_11 kd_294 hV IM208 (by decide) rfl (n_lo _) (n_hi _) fun M214 IM214 fM214 UM214 => ?_
            have FM214 := Fr.pu FM208 UM214.1 kd_294 (rfl : List.contains [40] 40 = true)
            refine PW.vret q_177_94 rfl (by decide) (by decide) ?_
            exact hK M214 IM214 FM214 ⟨(((hbL177_0_12.put UM206 rfl).put UM208 rfl).put UM214 rfl), ⟨(((hbL177_0_10.U UM206 rfl).U UM208 rfl).U UM214 rfl), k_rt_e ⟨by omega, by omega, (by have w := (o_i_of ((UM214.f (Or.inr (by decide))).trans ((UM208.f (Or.inr (by decide))).trans fM206))); omega)⟩ (by have w := (o_i_of fM214); omega)⟩⟩
        refine PW.aload_n q_177_44 rfl ?_
        refine PW.gI q_177_45 (Or.inl t_ft_177_18) gF_40_3 kd_294 IM208.1 (by decide) fun x215 fx215 hx215 kx215 => ?_
        have ix215 := o_i_of fx215
        refine PW.aload_n q_177_48 rfl ?_
        refine PW.gI q_177_49 (Or.inl t_ft_177_24) gF_40_5 kd_294 IM208.1 (by decide) fun x216 fx216 hx216 kx216 => ?_
        have ix216 := o_i_of fx216
        clear hx216 kx216
        refine PW.jc_le q_177_52 rfl (fun h217 => ?_) (fun h217 => ?_)
        · skip
          exact PW.lvS (lk1 rfl lk0) (J80_209 (by omega))
        · skip
          refine PW.aload_n q_177_55 rfl ?_
          refine PW.gE q_177_56 (Or.inl t_ft_177_21) gF_40_4 kd_294 IM208.1 (by decide) ((UM208.f (Or.inr (by decide))).trans ((UM206.f (Or.inr (by decide))).trans fx2)) ?_
          refine PW.aload_n q_177_59 rfl ?_
          refine PW.gE q_177_60 (Or.inl t_ft_177_24) gF_40_5 kd_294 IM208.1 (by decide) fx216 ?_
          refine PW.jc_lt q_177_63 rfl (fun h218 => ?_) (fun h218 => ?_)
          · skip
            exact PW.lvS (lk1 rfl lk0) (J80_209 (by omega))
          · skip
            refine PW.aload_n q_177_66 rfl ?_
            refine PW.aload_n q_177_67 rfl ?_
            refine PW.gE q_177_68 (Or.inl t_ft_177_24) gF_40_5 kd_294 IM208.1 (by decide) fx216 ?_
            refine PW.pI q_177_71 (Or.inl t_ft_177_138) gF_40_12 gP_40_12 kd_294 hV IM208 (by decide) rfl (n_lo _) (n_hi _) fun M219 IM219 fM219 UM219 => ?_
            have FM219 := Fr.pu FM208 UM219.1 kd_294 (rfl : List.contains [40] 40 = true)
            refine PW.aload_n q_177_74 rfl ?_
            refine PW.cI q_177_75 (by decide) fun c220 hc220 => ?_
            refine PW.pI q_177_76 (Or.inl t_ft_177_144) gF_40_11 gP_40_11 kd_294 hV IM219 (by decide) rfl (n_lo _) (n_hi _) fun M221 IM221 fM221 UM221 => ?_
            have FM221 := Fr.pu FM219 UM221.1 kd_294 (rfl : List.contains [40] 40 = true)
            refine PW.vret q_177_79 rfl (by decide) (by decide) ?_
            exact hK M221 IM221 FM221 ⟨((((hbL177_0_12.put UM206 rfl).put UM208 rfl).put UM219 rfl).put UM221 rfl), ⟨((((hbL177_0_10.U UM206 rfl).U UM208 rfl).U UM219 rfl).U UM221 rfl), k_rt_l ⟨by omega, by omega, (by have w := (o_i_of ((UM221.f (Or.inr (by decide))).trans fM219)); omega)⟩ (by have w := (o_i_of fM221); omega)⟩⟩
  exact PW.lvS (lk1 rfl lk0) (L177_0_1 _ M  I F hp_0.1 (by rw [hp_0.2.1, Int.toNat_natCast]) gKl.refl rfl)
theorem c_X12_taken_vk (V : pM → Prop) (hV : Stab V) (G : pG) (Kr : pK) (M : pM) (I : Iv V M) (a1 : Int32) (hK : ∀ (M1 : pM), Iv V M1 → Fr [40] M M1 → (gKl [2, 3, 4, 5] M M1 ∧ (o_i (M1 294) 2 = 0 ∧ o_i (M1 294) 3 = o_i (M 294) 2 ∧ o_i (M1 294) 4 = 0 ∧ o_i (M1 294) 5 = a1.toInt)) → Kr.1 none 311 M1) : PW G false 0 165 (p_mc 165) (p_msl 165) Kr 0 (lv_args 0 [.ref 294, .int a1]) [] 311 M 0 0 := by
  have F : Fr [40] M M := Fr.refl
  refine PW.aload_n q_165_0 rfl ?_
  refine PW.aload_n q_165_1 rfl ?_
  refine PW.gI q_165_2 (Or.inl t_ft_165_7) gF_40_2 kd_294 I.1 (by decide) fun x1 fx1 hx1 kx1 => ?_
  have ix1 := o_i_of fx1
  refine PW.pI q_165_5 (Or.inl t_ft_165_18) gF_40_3 gP_40_3 kd_294 hV I (by decide) rfl (by omega) (by omega) fun M2 IM2 fM2 UM2 => ?_
  have FM2 := Fr.pu F UM2.1 kd_294 (rfl : List.contains [40] 40 = true)
  refine PW.aload_n q_165_8 rfl ?_
  refine PW.cI q_165_9 (by decide) fun c3 hc3 => ?_
  refine PW.pI q_165_10 (Or.inl t_ft_165_7) gF_40_2 gP_40_2 kd_294 hV IM2 (by decide) rfl (by omega) (by omega) fun M4 IM4 fM4 UM4 => ?_
  have FM4 := Fr.pu FM2 UM4.1 kd_294 (rfl : List.contains [40] 40 = true)
  refine PW.aload_n q_165_13 rfl ?_
  refine PW.cI q_165_14 (by decide) fun c5 hc5 => ?_
  refine PW.pI q_165_15 (Or.inl t_ft_165_21) gF_40_4 gP_40_4 kd_294 hV IM4 (by decide) rfl (by omega) (by omega) fun M6 IM6 fM6 UM6 => ?_
  have FM6 := Fr.pu FM4 UM6.1 kd_294 (rfl : List.contains [40] 40 = true)
  refine PW.aload_n q_165_18 rfl ?_
  refine PW.iload_n q_165_19 rfl ?_
  refine PW.pI q_165_20 (Or.inl t_ft_165_24) gF_40_5 gP_40_5 kd_294 hV IM6 (by decide) rfl (n_lo _) (n_hi _) fun M7 IM7 fM7 UM7 => ?_
  have FM7 := Fr.pu FM6 UM7.1 kd_294 (rfl : List.contains [40] 40 = true)
  refine PW.vret q_165_23 rfl (by decide) (by decide) ?_
  exact hK M7 IM7 FM7 ⟨((((gKl.refl.put UM2 rfl).put UM4 rfl).put UM6 rfl).put UM7 rfl), ⟨(by have w := (o_i_of ((UM7.f (Or.inr (by decide))).trans ((UM6.f (Or.inr (by decide))).trans fM4))); omega), (by have w := (o_i_of ((UM7.f (Or.inr (by decide))).trans ((UM6.f (Or.inr (by decide))).trans ((UM4.f (Or.inr (by decide))).trans fM2)))); omega), (by have w := (o_i_of ((UM7.f (Or.inr (by decide))).trans fM6)); omega), (by have w := (o_i_of fM7); omega)⟩⟩
theorem c_X12_bad_vk (V : pM → Prop) (hV : Stab V) (G : pG) (Kr : pK) (M : pM) (I : Iv V M) (a1 : Int32) (y : k_X) (i : Nat) (hp_0 : k_ra y M i) (hK : ∀ (x : Int32) (M1 : pM), Iv V M1 → Fr [40] M M1 → 0 ≤ x.toInt → x.toInt ≤ 0 → (gKl [15, 16] M M1 ∧ (o_i (M1 294) 15 = a1.toInt ∧ o_i (M1 294) 16 = kP y i)) → Kr.1 (some (.int x)) 311 M1) : PW G false 0 178 (p_mc 178) (p_msl 178) Kr 0 (lv_args 0 [.ref 294, .int a1]) [] 311 M 0 0 := by
  have F : Fr [40] M M := Fr.refl
  have ep : o_i (M 294) 12 = kP y i := hp_0.2.1
  obtain ⟨w294_12, fw294_12, hw294_12, kw294_12⟩ := gF_40_12.int kd_294 I.1 (by decide)
  have iw294_12 := o_i_of fw294_12
  have jw294_12 : w294_12.toInt = kP y i := by have w := ep; omega
  refine PW.aload_n q_178_0 rfl ?_
  refine PW.iload_n q_178_1 rfl ?_
  refine PW.pI q_178_2 (Or.inl t_ft_178_161) gF_40_15 gP_40_15 kd_294 hV I (by decide) rfl (n_lo _) (n_hi _) fun M1 IM1 fM1 UM1 => ?_
  have FM1 := Fr.pu F UM1.1 kd_294 (rfl : List.contains [40] 40 = true)
  refine PW.aload_n q_178_5 rfl ?_
  refine PW.aload_n q_178_6 rfl ?_
  refine PW.gE q_178_7 (Or.inl t_ft_178_138) gF_40_12 kd_294 IM1.1 (by decide) ((UM1.f (Or.inr (by decide))).trans fw294_12) ?_
  refine PW.pI q_178_10 (Or.inl t_ft_178_164) gF_40_16 gP_40_16 kd_294 hV IM1 (by decide) rfl (n_lo _) (n_hi _) fun M2 IM2 fM2 UM2 => ?_
  have FM2 := Fr.pu FM1 UM2.1 kd_294 (rfl : List.contains [40] 40 = true)
  refine PW.cI q_178_13 (by decide) fun c3 hc3 => ?_
  refine PW.rZ q_178_14 rfl (by omega) (by omega) (by decide) (by decide) ?_
  exact hK c3 M2 IM2 FM2 (by omega) (by omega) ⟨((gKl.refl.put UM1 rfl).put UM2 rfl), ⟨(by have w := (o_i_of ((UM2.f (Or.inr (by decide))).trans fM1)); omega), (by have w := (o_i_of fM2); omega)⟩⟩
theorem c_X12_isWord_vk (V : pM → Prop) (hV : Stab V) (G : pG) (Kr : pK) (M : pM) (I : Iv V M) (a1 : Int64) (y : k_X) (i : Nat) (r : Nat) (hp_0 : k_ra y M i) (hp_1 : a1.toInt = k_wi (p_wc r).toInt) (hp_2 : r < 28) (hK : ∀ (x : Int32), 0 ≤ x.toInt → x.toInt ≤ 1 → ((x.toInt = 1 ∧ kK y i = 2 ∧ kV y i = (p_wc r).toInt) ∨ (x.toInt = 0 ∧ ¬ (kK y i = 2 ∧ kV y i = (p_wc r).toInt))) → Kr.1 (some (.int x)) 311 M) : PW G false 0 179 (p_mc 179) (p_msl 179) Kr 0 (lv_args 0 [.ref 294, .long a1]) [] 311 M 0 0 := by
  have F : Fr [] M M := Fr.refl
  have w := k_rW hp_0
  refine PW.aload_n q_179_0 rfl ?_
  refine PW.gI q_179_1 (Or.inl t_ft_179_144) gF_40_11 kd_294 I.1 (by decide) fun x1 fx1 hx1 kx1 => ?_
  have ix1 := o_i_of fx1
  clear hx1 kx1
  refine PW.cI q_179_4 (by decide) fun c2 hc2 => ?_
  refine PW.jc_ne q_179_5 rfl (fun h3 => ?_) (fun h3 => ?_)
  · skip
    refine PW.cI q_179_21 (by decide) fun c4 hc4 => ?_
    refine PW.rZ q_179_22 rfl (by omega) (by omega) (by decide) (by decide) ?_
    exact hK c4 (by omega) (by omega) (Or.inr ⟨by omega, fun q => by omega⟩)
  · skip
    refine PW.aload_n q_179_8 rfl ?_
    refine PW.gL q_179_9 (Or.inl t_ft_179_157) gF_40_17 kd_294 I.1 (by decide) fun l5 fl5 => ?_
    refine PW.lload_n q_179_12 rfl ?_
    refine PW.lcmpK q_179_13 fun x6 lax6 lcx6 => ?_
    refine PW.jz_ne q_179_14 rfl (fun h7 => ?_) (fun h7 => ?_)
    · skip
      refine PW.cI q_179_21 (by decide) fun c8 hc8 => ?_
      refine PW.rZ q_179_22 rfl (by omega) (by omega) (by decide) (by decide) ?_
      rcases w with ⟨q1, q2, q3, q4⟩ | ⟨q1, q2⟩
      · skip
        have e17 := o_J_of fl5
        have ei := k_wi_wc (w := l5.toInt) hp_2 q4 (by omega)
        exact hK c8 (by omega) (by omega) (Or.inr ⟨by omega, fun q => lax6 (by omega) ((ei.mpr q.2).trans hp_1.symm)⟩)
      · skip
        exfalso; omega
    · skip
      refine PW.cI q_179_17 (by decide) fun c9 hc9 => ?_
      refine PW.goto q_179_18 rfl ?_
      refine PW.rZ q_179_22 rfl (by omega) (by omega) (by decide) (by decide) ?_
      rcases w with ⟨q1, q2, q3, q4⟩ | ⟨q1, q2⟩
      · skip
        have e17 := o_J_of fl5
        have ei := k_wi_wc (w := l5.toInt) hp_2 q4 (by omega)
        exact hK c9 (by omega) (by omega) (Or.inl ⟨by omega, q2, ei.mp ((lcx6 (by omega)).trans hp_1)⟩)
      · skip
        exfalso; omega
theorem c_X12_isSign_vk (V : pM → Prop) (hV : Stab V) (G : pG) (Kr : pK) (M : pM) (I : Iv V M) (a1 : Int32) (y : k_X) (i : Nat) (hp_0 : k_ra y M i) (hK : ∀ (x : Int32), 0 ≤ x.toInt → x.toInt ≤ 1 → ((x.toInt = 1 ∧ kK y i = 5 ∧ kV y i = a1.toInt) ∨ (x.toInt = 0 ∧ ¬ (kK y i = 5 ∧ kV y i = a1.toInt))) → Kr.1 (some (.int x)) 311 M) : PW G false 0 180 (p_mc 180) (p_msl 180) Kr 0 (lv_args 0 [.ref 294, .int a1]) [] 311 M 0 0 := by
  have F : Fr [] M M := Fr.refl
  have w := k_rS hp_0
  refine PW.aload_n q_180_0 rfl ?_
  refine PW.gI q_180_1 (Or.inl t_ft_180_144) gF_40_11 kd_294 I.1 (by decide) fun x1 fx1 hx1 kx1 => ?_
  have ix1 := o_i_of fx1
  clear hx1 kx1
  refine PW.cI q_180_4 (by decide) fun c2 hc2 => ?_
  refine PW.jc_ne q_180_5 rfl (fun h3 => ?_) (fun h3 => ?_)
  · skip
    refine PW.cI q_180_20 (by decide) fun c4 hc4 => ?_
    refine PW.rZ q_180_21 rfl (by omega) (by omega) (by decide) (by decide) ?_
    exact hK c4 (by omega) (by omega) (by omega)
  · skip
    refine PW.aload_n q_180_8 rfl ?_
    refine PW.gI q_180_9 (Or.inl t_ft_180_154) gF_40_14 kd_294 I.1 (by decide) fun x5 fx5 hx5 kx5 => ?_
    have ix5 := o_i_of fx5
    clear hx5 kx5
    refine PW.iload_n q_180_12 rfl ?_
    refine PW.jc_ne q_180_13 rfl (fun h6 => ?_) (fun h6 => ?_)
    · skip
      refine PW.cI q_180_20 (by decide) fun c7 hc7 => ?_
      refine PW.rZ q_180_21 rfl (by omega) (by omega) (by decide) (by decide) ?_
      exact hK c7 (by omega) (by omega) (by omega)
    · skip
      refine PW.cI q_180_16 (by decide) fun c8 hc8 => ?_
      refine PW.goto q_180_17 rfl ?_
      refine PW.rZ q_180_21 rfl (by omega) (by omega) (by decide) (by decide) ?_
      exact hK c8 (by omega) (by omega) (by omega)
theorem c_X12_sign_vk (V : pM → Prop) (hV : Stab V) (G : pG) (Kr : pK) (M : pM) (I : Iv V M) (a1 : Int32) (y : k_X) (i : Nat) (hp_0 : k_ra y M i) (hK : ∀ (x : Int32) (M1 : pM), Iv V M1 → Fr [40] M M1 → 0 ≤ x.toInt → x.toInt ≤ 1 → (gKl [4, 11, 12, 13, 14, 15, 16, 17] M M1 ∧ ((x.toInt = 1 ∧ kK y i = 5 ∧ kV y i = a1.toInt ∧ k_ra y M1 (i + 1)) ∨ (x.toInt = 0 ∧ ¬ (kK y i = 5 ∧ kV y i = a1.toInt) ∧ o_i (M1 294) 15 = 1 ∧ o_i (M1 294) 16 = kP y i))) → Kr.1 (some (.int x)) 311 M1) : PW G false 2 181 (p_mc 181) (p_msl 181) Kr 0 (lv_args 0 [.ref 294, .int a1]) [] 311 M 0 0 := by
  have F : Fr [40] M M := Fr.refl
  refine PW.aload_n q_181_0 rfl ?_
  refine PW.iload_n q_181_1 rfl ?_
  refine PW.cV (as := [_]) (rest := []) q_181_2 t_mv_181_167 kd_294 I.1 (by decide) rfl (by decide) rfl rfl (Nat.le_of_ble_eq_true rfl) (Nat.le_of_ble_eq_true rfl) (by decide) (by decide) ?_
  refine PW.up (by decide) (c_X12_isSign_vk (V) (hV) G _ M I a1 _ _ hp_0 fun x2  hx2 kx2 PM1 => ?_)
  rcases PM1 with ⟨PaM1, PbM1, PcM1⟩ | ⟨PaM1, PnM1⟩
  · skip
    refine PW.jz_ne q_181_5 rfl (fun h3 => ?_) (fun h3 => False.elim (by omega))
    refine PW.aload_n q_181_14 rfl ?_
    refine PW.cV (as := []) (rest := []) q_181_15 t_mv_181_173 kd_294 I.1 (by decide) rfl (by decide) rfl rfl (Nat.le_of_ble_eq_true rfl) (Nat.le_of_ble_eq_true rfl) (by decide) (by decide) ?_
    refine PW.up (by decide) (c_X12_go_vk (V) (hV) G _ M I _ _ (k_ra.nx hp_0 (by omega)) fun M4 IM4 GM4 PM4 => ?_)
    have FM4 := Fr.trans F GM4 (rfl)
    rcases PM4 with ⟨QM4, PtM4⟩
    refine PW.cI q_181_18 (by decide) fun c5 hc5 => ?_
    refine PW.rZ q_181_19 rfl (by omega) (by omega) (by decide) (by decide) ?_
    exact hK c5 M4 IM4 FM4 (by omega) (by omega) ⟨(gKl.refl.tr QM4 rfl), (Or.inl ⟨by omega, PbM1, PcM1, PtM4⟩)⟩
  · skip
    refine PW.jz_ne q_181_5 rfl (fun h6 => False.elim (by omega)) (fun h6 => ?_)
    refine PW.aload_n q_181_8 rfl ?_
    refine PW.cI q_181_9 (by decide) fun c7 hc7 => ?_
    refine PW.cV (as := [_]) (rest := []) q_181_10 t_mv_181_170 kd_294 I.1 (by decide) rfl (by decide) rfl rfl (Nat.le_of_ble_eq_true rfl) (Nat.le_of_ble_eq_true rfl) (by decide) (by decide) ?_
    refine PW.up (by decide) (c_X12_bad_vk (V) (hV) G _ M I c7 _ _ hp_0 fun x9 M8 IM8 GM8 hx9 kx9 PM8 => ?_)
    have FM8 := Fr.trans F GM8 (rfl)
    rcases PM8 with ⟨QM8, ⟨PfM8, PgM8⟩⟩
    refine PW.rZ q_181_13 rfl (by omega) (by omega) (by decide) (by decide) ?_
    exact hK x9 M8 IM8 FM8 (by omega) (by omega) ⟨(gKl.refl.tr QM8 rfl), (Or.inr ⟨by omega, PnM1, by omega, by omega⟩)⟩
theorem c_X12_isName_vk (V : pM → Prop) (hV : Stab V) (G : pG) (Kr : pK) (M : pM) (I : Iv V M) (y : k_X) (i : Nat) (hp_0 : k_ra y M i) (hK : ∀ (x : Int32), 0 ≤ x.toInt → x.toInt ≤ 1 → ((x.toInt = 0 ∧ k_ni y i = 0) ∨ (x.toInt = 1 ∧ k_ni y i = 1 ∧ kK y i = 2)) → Kr.1 (some (.int x)) 311 M) : PW G false 0 182 (p_mc 182) (p_msl 182) Kr 0 (lv_args 0 [.ref 294]) [] 311 M 0 0 := by
  have F : Fr [] M M := Fr.refl
  have w := k_rW hp_0
  refine PW.aload_n q_182_0 rfl ?_
  refine PW.gI q_182_1 (Or.inl t_ft_182_144) gF_40_11 kd_294 I.1 (by decide) fun x1 fx1 hx1 kx1 => ?_
  have ix1 := o_i_of fx1
  clear hx1 kx1
  refine PW.cI q_182_4 (by decide) fun c2 hc2 => ?_
  refine PW.jc_ne q_182_5 rfl (fun h3 => ?_) (fun h3 => ?_)
  · skip
    refine PW.cI q_182_12 (by decide) fun c4 hc4 => ?_
    refine PW.istore_n q_182_13 (by decide) ?_
    refine PW.cI q_182_14 (by decide) fun c5 hc5 => ?_
    refine PW.istore_n q_182_15 (by decide) ?_
    have L182_16_6 : ∀ (n : Nat) (v7 v8 : Int32), 0 ≤ v7.toInt → v7.toInt ≤ 1 → 0 ≤ v8.toInt → v8.toInt ≤ 28 → (v7.toInt = 0 ∨ v7.toInt = 1) → (v7.toInt = 1 ↔ (kK y i = 2 ∧ ∀ r : Nat, (r : Int) < v8.toInt → (p_wc r).toInt ≠ kV y i)) → (28 - v8.toInt).toNat = n → PW G false 0 182 (p_mc 182) (p_msl 182) Kr 16 [(0, .ref 294), (1, .int v7), (2, .int v8)] [] 311 M 0 0 := by
      intro n
      induction n using Nat.strongRecOn with
      | ind n ih_L182_16_6 =>
      intro v7 v8 hbL182_16_60 hbL182_16_61 hbL182_16_62 hbL182_16_63 hbL182_16_64 hbL182_16_65 hmL182_16_6
      refine PW.iload_n q_182_16 rfl ?_
      refine PW.cB q_182_17 (by decide) fun c9 hc9 => ?_
      refine PW.jc_ge q_182_19 rfl (fun h10 => ?_) (fun h10 => ?_)
      · skip
        refine PW.iload_n q_182_52 rfl ?_
        refine PW.rZ q_182_53 rfl (by omega) (by omega) (by decide) (by decide) ?_
        have en := k_ni_of hbL182_16_64 hbL182_16_65 (by omega)
        exact hK v7 (by omega) (by omega) (by rcases hbL182_16_64 with q | q; (· exact Or.inl ⟨q, by omega⟩); (· exact Or.inr ⟨q, by omega, (hbL182_16_65.mp q).1⟩))
      · skip
        refine PW.iload_n q_182_22 rfl ?_
        refine PW.jz_eq q_182_23 rfl (fun h11 => ?_) (fun h11 => ?_)
        · skip
          refine PW.cI q_182_44 (by decide) fun c12 hc12 => ?_
          refine PW.istore_n q_182_45 (by decide) ?_
          refine PW.incN q_182_46 rfl (by decide) (by decide) (by omega) (by omega) fun x13 hx13 => ?_
          refine PW.goto q_182_49 rfl ?_
          exact PW.lvS (lk1 rfl (lk1 rfl (lk1 rfl lk0))) (ih_L182_16_6 _ (by omega) c12 x13 (by omega) (by omega) (by omega) (by omega) (by omega) ⟨fun h => by omega, fun h => by have := hbL182_16_65.mpr ⟨h.1, fun r hr => h.2 r (by omega)⟩; omega⟩ rfl)
        · skip
          refine PW.aload_n q_182_26 rfl ?_
          refine PW.gL q_182_27 (Or.inl t_ft_182_157) gF_40_17 kd_294 I.1 (by decide) fun l14 fl14 => ?_
          refine PW.aload_n q_182_30 rfl ?_
          refine PW.gR 300 q_182_31 (Or.inl t_ft_182_47) gF_40_10 kd_294 I.1 (by decide) rfl ?_
          refine PW.iload_n q_182_34 rfl ?_
          refine PW.aL q_182_35 rfl kd_300 I.1 (by decide) (by omega) (by omega) fun l15 fl15 => ?_
          refine PW.lcmpK q_182_36 fun x16 lax16 lcx16 => ?_
          refine PW.jz_eq q_182_37 rfl (fun h17 => ?_) (fun h17 => ?_)
          · skip
            refine PW.cI q_182_44 (by decide) fun c18 hc18 => ?_
            refine PW.istore_n q_182_45 (by decide) ?_
            refine PW.incN q_182_46 rfl (by decide) (by decide) (by omega) (by omega) fun x19 hx19 => ?_
            refine PW.goto q_182_49 rfl ?_
            exact PW.lvS (lk1 rfl (lk1 rfl (lk1 rfl lk0))) (ih_L182_16_6 _ (by omega) c18 x19 (by omega) (by omega) (by omega) (by omega) (by omega) ⟨fun h => by omega, fun h => by exfalso; have w1 := o_J_of fl14; have w2 := hp_0.1.2.2.2.1 v8.toInt.toNat (by omega); rw [fl15] at w2; exact h.2 v8.toInt.toNat (by omega) (by rcases w with q | q; (· exact (k_wi_inj q.2.2.2 (p_wc_b (by omega)) (by rw [← q.2.2.1, w1, lcx16 (by omega), w2])).symm); (· omega))⟩ rfl)
          · skip
            refine PW.cI q_182_40 (by decide) fun c20 hc20 => ?_
            refine PW.goto q_182_41 rfl ?_
            refine PW.istore_n q_182_45 (by decide) ?_
            refine PW.incN q_182_46 rfl (by decide) (by decide) (by omega) (by omega) fun x21 hx21 => ?_
            refine PW.goto q_182_49 rfl ?_
            exact PW.lvS (lk1 rfl (lk1 rfl (lk1 rfl lk0))) (ih_L182_16_6 _ (by omega) c20 x21 (by omega) (by omega) (by omega) (by omega) (by omega) ⟨fun _ => ⟨(hbL182_16_65.mp (by omega)).1, fun r hr e => by by_cases q : r = v8.toInt.toNat; (· subst q; have w1 := o_J_of fl14; have w2 := hp_0.1.2.2.2.1 v8.toInt.toNat (by omega); rw [fl15] at w2; exact lax16 (by omega) (w1.symm.trans ((show o_J (M 294) 17 = k_wi (kV y i) from by rcases w with q | q; (· exact q.2.2.1); (· omega)).trans (by rw [← e]; exact w2.symm)))); (· exact (hbL182_16_65.mp (by omega)).2 r (by omega) e)⟩, fun _ => by omega⟩ rfl)
    exact PW.lvS (lk1 rfl (lk1 rfl (lk1 rfl lk0))) (L182_16_6 _ c4 c5 (by omega) (by omega) (by omega) (by omega) (by omega) ⟨fun h => by omega, fun h => absurd h.1 (by omega)⟩ rfl)
  · skip
    refine PW.cI q_182_8 (by decide) fun c22 hc22 => ?_
    refine PW.goto q_182_9 rfl ?_
    refine PW.istore_n q_182_13 (by decide) ?_
    refine PW.cI q_182_14 (by decide) fun c23 hc23 => ?_
    refine PW.istore_n q_182_15 (by decide) ?_
    have L182_16_24 : ∀ (n : Nat) (v25 v26 : Int32), 0 ≤ v25.toInt → v25.toInt ≤ 1 → 0 ≤ v26.toInt → v26.toInt ≤ 28 → (v25.toInt = 0 ∨ v25.toInt = 1) → (v25.toInt = 1 ↔ (kK y i = 2 ∧ ∀ r : Nat, (r : Int) < v26.toInt → (p_wc r).toInt ≠ kV y i)) → (28 - v26.toInt).toNat = n → PW G false 0 182 (p_mc 182) (p_msl 182) Kr 16 [(0, .ref 294), (1, .int v25), (2, .int v26)] [] 311 M 0 0 := by
      intro n
      induction n using Nat.strongRecOn with
      | ind n ih_L182_16_24 =>
      intro v25 v26 hbL182_16_240 hbL182_16_241 hbL182_16_242 hbL182_16_243 hbL182_16_244 hbL182_16_245 hmL182_16_24
      refine PW.iload_n q_182_16 rfl ?_
      refine PW.cB q_182_17 (by decide) fun c27 hc27 => ?_
      refine PW.jc_ge q_182_19 rfl (fun h28 => ?_) (fun h28 => ?_)
      · skip
        refine PW.iload_n q_182_52 rfl ?_
        refine PW.rZ q_182_53 rfl (by omega) (by omega) (by decide) (by decide) ?_
        have en := k_ni_of hbL182_16_244 hbL182_16_245 (by omega)
        exact hK v25 (by omega) (by omega) (by rcases hbL182_16_244 with q | q; (· exact Or.inl ⟨q, by omega⟩); (· exact Or.inr ⟨q, by omega, (hbL182_16_245.mp q).1⟩))
      · skip
        refine PW.iload_n q_182_22 rfl ?_
        refine PW.jz_eq q_182_23 rfl (fun h29 => ?_) (fun h29 => ?_)
        · skip
          refine PW.cI q_182_44 (by decide) fun c30 hc30 => ?_
          refine PW.istore_n q_182_45 (by decide) ?_
          refine PW.incN q_182_46 rfl (by decide) (by decide) (by omega) (by omega) fun x31 hx31 => ?_
          refine PW.goto q_182_49 rfl ?_
          exact PW.lvS (lk1 rfl (lk1 rfl (lk1 rfl lk0))) (ih_L182_16_24 _ (by omega) c30 x31 (by omega) (by omega) (by omega) (by omega) (by omega) ⟨fun h => by omega, fun h => by have := hbL182_16_245.mpr ⟨h.1, fun r hr => h.2 r (by omega)⟩; omega⟩ rfl)
        · skip
          refine PW.aload_n q_182_26 rfl ?_
          refine PW.gL q_182_27 (Or.inl t_ft_182_157) gF_40_17 kd_294 I.1 (by decide) fun l32 fl32 => ?_
          refine PW.aload_n q_182_30 rfl ?_
          refine PW.gR 300 q_182_31 (Or.inl t_ft_182_47) gF_40_10 kd_294 I.1 (by decide) rfl ?_
          refine PW.iload_n q_182_34 rfl ?_
          refine PW.aL q_182_35 rfl kd_300 I.1 (by decide) (by omega) (by omega) fun l33 fl33 => ?_
          refine PW.lcmpK q_182_36 fun x34 lax34 lcx34 => ?_
          refine PW.jz_eq q_182_37 rfl (fun h35 => ?_) (fun h35 => ?_)
          · skip
            refine PW.cI q_182_44 (by decide) fun c36 hc36 => ?_
            refine PW.istore_n q_182_45 (by decide) ?_
            refine PW.incN q_182_46 rfl (by decide) (by decide) (by omega) (by omega) fun x37 hx37 => ?_
            refine PW.goto q_182_49 rfl ?_
            exact PW.lvS (lk1 rfl (lk1 rfl (lk1 rfl lk0))) (ih_L182_16_24 _ (by omega) c36 x37 (by omega) (by omega) (by omega) (by omega) (by omega) ⟨fun h => by omega, fun h => by exfalso; have w1 := o_J_of fl32; have w2 := hp_0.1.2.2.2.1 v26.toInt.toNat (by omega); rw [fl33] at w2; exact h.2 v26.toInt.toNat (by omega) (by rcases w with q | q; (· exact (k_wi_inj q.2.2.2 (p_wc_b (by omega)) (by rw [← q.2.2.1, w1, lcx34 (by omega), w2])).symm); (· omega))⟩ rfl)
          · skip
            refine PW.cI q_182_40 (by decide) fun c38 hc38 => ?_
            refine PW.goto q_182_41 rfl ?_
            refine PW.istore_n q_182_45 (by decide) ?_
            refine PW.incN q_182_46 rfl (by decide) (by decide) (by omega) (by omega) fun x39 hx39 => ?_
            refine PW.goto q_182_49 rfl ?_
            exact PW.lvS (lk1 rfl (lk1 rfl (lk1 rfl lk0))) (ih_L182_16_24 _ (by omega) c38 x39 (by omega) (by omega) (by omega) (by omega) (by omega) ⟨fun _ => ⟨(hbL182_16_245.mp (by omega)).1, fun r hr e => by by_cases q : r = v26.toInt.toNat; (· subst q; have w1 := o_J_of fl32; have w2 := hp_0.1.2.2.2.1 v26.toInt.toNat (by omega); rw [fl33] at w2; exact lax34 (by omega) (w1.symm.trans ((show o_J (M 294) 17 = k_wi (kV y i) from by rcases w with q | q; (· exact q.2.2.1); (· omega)).trans (by rw [← e]; exact w2.symm)))); (· exact (hbL182_16_245.mp (by omega)).2 r (by omega) e)⟩, fun _ => by omega⟩ rfl)
    exact PW.lvS (lk1 rfl (lk1 rfl (lk1 rfl lk0))) (L182_16_24 _ c22 c23 (by omega) (by omega) (by omega) (by omega) (by omega) ⟨fun _ => ⟨by omega, fun r hr => by omega⟩, fun _ => by omega⟩ rfl)
theorem c_X12_find_vk (V : pM → Prop) (hV : Stab V) (G : pG) (Kr : pK) (M : pM) (I : Iv V M) (a1 : Int32) (a2 : Int32) (hl_a1 : 8 ≤ a1.toInt) (hh_a1 : a1.toInt ≤ 8) (hl_a2 : 0 ≤ a2.toInt) (hh_a2 : a2.toInt ≤ 6) (y : k_X) (i : Nat) (f : Nat → Int) (m : Int) (hp_0 : k_ra y M i) (hp_1 : ∀ j : Nat, (j : Int) < m → (o_l (M 299) (8 + j)).toInt = k_wi (f j) ∧ 0 ≤ f j ∧ f j < 34359738368) (hp_2 : kK y i = 2) (hp_3 : a2.toInt = m) (hK : ∀ (x : Int32), -1 ≤ x.toInt → x.toInt ≤ 5 → (x.toInt = k_fd f (kV y i) m.toNat) → Kr.1 (some (.int x)) 311 M) : PW G false 0 185 (p_mc 185) (p_msl 185) Kr 0 (lv_args 0 [.ref 294, .int a1, .int a2]) [] 311 M 0 0 := by
  have F : Fr [] M M := Fr.refl
  obtain ⟨q1, q2, q3, q4⟩ : o_i (M 294) 11 = 1 ∧ kK y i = 2 ∧ o_J (M 294) 17 = k_wi (kV y i) ∧ 0 ≤ kV y i ∧ kV y i < 34359738368 := by rcases k_rW hp_0 with q | q; (· exact q); (· omega)
  refine PW.cI q_185_0 (by decide) fun c1 hc1 => ?_
  refine PW.istore_n q_185_1 (by decide) ?_
  have L185_2_2 : ∀ (n : Nat) (v3 : Int32), 0 ≤ v3.toInt → v3.toInt ≤ 6 → (∀ j : Nat, (j : Int) < v3.toInt → f j ≠ kV y i) → (6 - v3.toInt).toNat = n → PW G false 0 185 (p_mc 185) (p_msl 185) Kr 2 [(0, .ref 294), (1, .int a1), (2, .int a2), (3, .int v3)] [] 311 M 0 0 := by
    intro n
    induction n using Nat.strongRecOn with
    | ind n ih_L185_2_2 =>
    intro v3 hbL185_2_20 hbL185_2_21 hbL185_2_22 hmL185_2_2
    refine PW.iload_n q_185_2 rfl ?_
    refine PW.iload_n q_185_3 rfl ?_
    refine PW.jc_ge q_185_4 rfl (fun h4 => ?_) (fun h4 => ?_)
    · skip
      refine PW.cI q_185_31 (by decide) fun c5 hc5 => ?_
      refine PW.rI q_185_32 rfl (by decide) (by decide) ?_
      exact hK c5 (by omega) (by omega) (by rw [k_fd_no fun j hj => hbL185_2_22 j (by omega)]; omega)
    · skip
      refine PW.aload_n q_185_7 rfl ?_
      refine PW.gR 299 q_185_8 (Or.inl t_ft_185_43) gF_40_9 kd_294 I.1 (by decide) rfl ?_
      refine PW.iload_n q_185_11 rfl ?_
      refine PW.iload_n q_185_12 rfl ?_
      refine PW.addN q_185_13 (by omega) (by omega) fun x6 hx6 => ?_
      refine PW.aL q_185_14 rfl kd_299 I.1 (by decide) (by omega) (by omega) fun l7 fl7 => ?_
      refine PW.aload_n q_185_15 rfl ?_
      refine PW.gL q_185_16 (Or.inl t_ft_185_157) gF_40_17 kd_294 I.1 (by decide) fun l8 fl8 => ?_
      refine PW.lcmpK q_185_19 fun x9 lax9 lcx9 => ?_
      refine PW.jz_ne q_185_20 rfl (fun h10 => ?_) (fun h10 => ?_)
      · skip
        refine PW.incN q_185_25 rfl (by decide) (by decide) (by omega) (by omega) fun x11 hx11 => ?_
        refine PW.goto q_185_28 rfl ?_
        exact PW.lvS (lk1 rfl (lk1 rfl (lk1 rfl (lk1 rfl lk0)))) (ih_L185_2_2 _ (by omega) x11 (by omega) (by omega) (fun j hj e => by by_cases q : j = v3.toInt.toNat; (· subst q; have w1 := o_J_of fl8; have w3 := hp_1 v3.toInt.toNat (by omega); rw [show 8 + v3.toInt.toNat = x6.toInt.toNat from by omega, fl7] at w3; exact lax9 (by omega) (by rw [w3.1, ← w1, q3, e])); (· exact hbL185_2_22 j (by omega) e)) rfl)
      · skip
        refine PW.iload_n q_185_23 rfl ?_
        refine PW.rI q_185_24 rfl (by decide) (by decide) ?_
        exact hK v3 (by omega) (by omega) (by rw [k_fd_hit (i := v3.toInt.toNat) (fun j hj => hbL185_2_22 j (by omega)) (by have w1 := o_J_of fl8; have w3 := hp_1 v3.toInt.toNat (by omega); rw [show 8 + v3.toInt.toNat = x6.toInt.toNat from by omega, fl7] at w3; exact k_wi_inj (w3.2) q4 (by rw [← w3.1, lcx9 (by omega), ← w1, q3])) (by omega)]; omega)
  exact PW.lvS (lk1 rfl (lk1 rfl (lk1 rfl (lk1 rfl lk0)))) (L185_2_2 _ c1 (by omega) (by omega) (fun j hj => by omega) rfl)
theorem c_X12_find_vkd (V : pM → Prop) (hV : Stab V) (G : pG) (Kr : pK) (M : pM) (I : Iv V M) (a1 : Int32) (a2 : Int32) (hl_a1 : 14 ≤ a1.toInt) (hh_a1 : a1.toInt ≤ 14) (hl_a2 : 0 ≤ a2.toInt) (hh_a2 : a2.toInt ≤ 2) (y : k_X) (i : Nat) (f : Nat → Int) (m : Int) (hp_0 : k_ra y M i) (hp_1 : ∀ j : Nat, (j : Int) < m → (o_l (M 299) (14 + j)).toInt = k_wi (f j) ∧ 0 ≤ f j ∧ f j < 34359738368) (hp_2 : kK y i = 2) (hp_3 : a2.toInt = m) (hK : ∀ (x : Int32), -1 ≤ x.toInt → x.toInt ≤ 1 → (x.toInt = k_fd f (kV y i) m.toNat) → Kr.1 (some (.int x)) 311 M) : PW G false 0 185 (p_mc 185) (p_msl 185) Kr 0 (lv_args 0 [.ref 294, .int a1, .int a2]) [] 311 M 0 0 := by
  have F : Fr [] M M := Fr.refl
  obtain ⟨q1, q2, q3, q4⟩ : o_i (M 294) 11 = 1 ∧ kK y i = 2 ∧ o_J (M 294) 17 = k_wi (kV y i) ∧ 0 ≤ kV y i ∧ kV y i < 34359738368 := by rcases k_rW hp_0 with q | q; (· exact q); (· omega)
  refine PW.cI q_185_0 (by decide) fun c1 hc1 => ?_
  refine PW.istore_n q_185_1 (by decide) ?_
  have L185_2_2 : ∀ (n : Nat) (v3 : Int32), 0 ≤ v3.toInt → v3.toInt ≤ 2 → (∀ j : Nat, (j : Int) < v3.toInt → f j ≠ kV y i) → (2 - v3.toInt).toNat = n → PW G false 0 185 (p_mc 185) (p_msl 185) Kr 2 [(0, .ref 294), (1, .int a1), (2, .int a2), (3, .int v3)] [] 311 M 0 0 := by
    intro n
    induction n using Nat.strongRecOn with
    | ind n ih_L185_2_2 =>
    intro v3 hbL185_2_20 hbL185_2_21 hbL185_2_22 hmL185_2_2
    refine PW.iload_n q_185_2 rfl ?_
    refine PW.iload_n q_185_3 rfl ?_
    refine PW.jc_ge q_185_4 rfl (fun h4 => ?_) (fun h4 => ?_)
    · skip
      refine PW.cI q_185_31 (by decide) fun c5 hc5 => ?_
      refine PW.rI q_185_32 rfl (by decide) (by decide) ?_
      exact hK c5 (by omega) (by omega) (by rw [k_fd_no fun j hj => hbL185_2_22 j (by omega)]; omega)
    · skip
      refine PW.aload_n q_185_7 rfl ?_
      refine PW.gR 299 q_185_8 (Or.inl t_ft_185_43) gF_40_9 kd_294 I.1 (by decide) rfl ?_
      refine PW.iload_n q_185_11 rfl ?_
      refine PW.iload_n q_185_12 rfl ?_
      refine PW.addN q_185_13 (by omega) (by omega) fun x6 hx6 => ?_
      refine PW.aL q_185_14 rfl kd_299 I.1 (by decide) (by omega) (by omega) fun l7 fl7 => ?_
      refine PW.aload_n q_185_15 rfl ?_
      refine PW.gL q_185_16 (Or.inl t_ft_185_157) gF_40_17 kd_294 I.1 (by decide) fun l8 fl8 => ?_
      refine PW.lcmpK q_185_19 fun x9 lax9 lcx9 => ?_
      refine PW.jz_ne q_185_20 rfl (fun h10 => ?_) (fun h10 => ?_)
      · skip
        refine PW.incN q_185_25 rfl (by decide) (by decide) (by omega) (by omega) fun x11 hx11 => ?_
        refine PW.goto q_185_28 rfl ?_
        exact PW.lvS (lk1 rfl (lk1 rfl (lk1 rfl (lk1 rfl lk0)))) (ih_L185_2_2 _ (by omega) x11 (by omega) (by omega) (fun j hj e => by by_cases q : j = v3.toInt.toNat; (· subst q; have w1 := o_J_of fl8; have w3 := hp_1 v3.toInt.toNat (by omega); rw [show 14 + v3.toInt.toNat = x6.toInt.toNat from by omega, fl7] at w3; exact lax9 (by omega) (by rw [w3.1, ← w1, q3, e])); (· exact hbL185_2_22 j (by omega) e)) rfl)
      · skip
        refine PW.iload_n q_185_23 rfl ?_
        refine PW.rI q_185_24 rfl (by decide) (by decide) ?_
        exact hK v3 (by omega) (by omega) (by rw [k_fd_hit (i := v3.toInt.toNat) (fun j hj => hbL185_2_22 j (by omega)) (by have w1 := o_J_of fl8; have w3 := hp_1 v3.toInt.toNat (by omega); rw [show 14 + v3.toInt.toNat = x6.toInt.toNat from by omega, fl7] at w3; exact k_wi_inj (w3.2) q4 (by rw [← w3.1, lcx9 (by omega), ← w1, q3])) (by omega)]; omega)
  exact PW.lvS (lk1 rfl (lk1 rfl (lk1 rfl (lk1 rfl lk0)))) (L185_2_2 _ c1 (by omega) (by omega) (fun j hj => by omega) rfl)
theorem c_X12_takes_vk (V : pM → Prop) (hV : Stab V) (G : pG) (Kr : pK) (M : pM) (I : Iv V M) (a1 : Int32) (a2 : Int32) (y : k_X) (i : Nat) (lo hi : Int) (hp_0 : k_ra y M i) (hp_1 : a1.toInt = lo) (hp_2 : a2.toInt = hi) (hK : ∀ (x : Int32) (M1 : pM), Iv V M1 → Fr [40] M M1 → 0 ≤ x.toInt → x.toInt ≤ 1 → (gKl [4, 11, 12, 13, 14, 15, 16, 17, 18] M M1 ∧ ((x.toInt = 1 ∧ k_nr y i lo hi = 0 ∧ o_i (M1 294) 18 = kV y i ∧ lo ≤ kV y i ∧ kV y i ≤ hi ∧ k_ra y M1 (i + 1)) ∨ (x.toInt = 0 ∧ k_nr y i lo hi ≠ 0 ∧ o_i (M1 294) 15 = k_nr y i lo hi ∧ o_i (M1 294) 16 = kP y i))) → Kr.1 (some (.int x)) 311 M1) : PW G false 2 183 (p_mc 183) (p_msl 183) Kr 0 (lv_args 0 [.ref 294, .int a1, .int a2]) [] 311 M 0 0 := by
  have F : Fr [40] M M := Fr.refl
  have w := k_rN hp_0
  refine PW.aload_n q_183_0 rfl ?_
  refine PW.gI q_183_1 (Or.inl t_ft_183_144) gF_40_11 kd_294 I.1 (by decide) fun x1 fx1 hx1 kx1 => ?_
  have ix1 := o_i_of fx1
  clear hx1 kx1
  refine PW.cI q_183_4 (by decide) fun c2 hc2 => ?_
  refine PW.jc_eq q_183_5 rfl (fun h3 => ?_) (fun h3 => ?_)
  · skip
    refine PW.aload_n q_183_14 rfl ?_
    refine PW.gI q_183_15 (Or.inl t_ft_183_154) gF_40_14 kd_294 I.1 (by decide) fun x4 fx4 hx4 kx4 => ?_
    have ix4 := o_i_of fx4
    clear hx4 kx4
    refine PW.iload_n q_183_18 rfl ?_
    refine PW.iload_n q_183_19 rfl ?_
    refine PW.callS (as := [_, _, _]) (rest := []) q_183_20 t_ms_183_176 (by decide) rfl (Nat.le_of_ble_eq_true rfl) (Nat.le_of_ble_eq_true rfl) (by decide) (by decide) ?_
    refine PW.up (by decide) (c_X12_isIn_vk (V) (hV) G _ M I x4 a1 a2 fun x6  hx6 kx6 PM5 => ?_)
    rcases PM5 with ⟨PaM5, PbM5, PcM5⟩ | ⟨PaM5, PbM5⟩
    · skip
      refine PW.jz_ne q_183_23 rfl (fun h7 => ?_) (fun h7 => False.elim (by omega))
      have en : k_nr y i lo hi = 0 := by unfold k_nr; rw [if_neg (by omega), if_neg (by omega)]
      refine PW.aload_n q_183_32 rfl ?_
      refine PW.aload_n q_183_33 rfl ?_
      refine PW.gE q_183_34 (Or.inl t_ft_183_154) gF_40_14 kd_294 I.1 (by decide) fx4 ?_
      refine PW.pI q_183_37 (Or.inl t_ft_183_180) gF_40_18 gP_40_18 kd_294 hV I (by decide) rfl (n_lo _) (n_hi _) fun M8 IM8 fM8 UM8 => ?_
      have FM8 := Fr.pu F UM8.1 kd_294 (rfl : List.contains [40] 40 = true)
      refine PW.aload_n q_183_40 rfl ?_
      refine PW.cV (as := []) (rest := []) q_183_41 t_mv_183_173 kd_294 IM8.1 (by decide) rfl (by decide) rfl rfl (Nat.le_of_ble_eq_true rfl) (Nat.le_of_ble_eq_true rfl) (by decide) (by decide) ?_
      refine PW.up (by decide) (c_X12_go_vk (V) (hV) G _ M8 IM8 _ _ (k_ra.nx (hp_0.U UM8 rfl) (by omega)) fun M9 IM9 GM9 PM9 => ?_)
      have FM9 := Fr.trans FM8 GM9 (rfl)
      rcases PM9 with ⟨QM9, PtM9⟩
      refine PW.cI q_183_44 (by decide) fun c10 hc10 => ?_
      refine PW.rZ q_183_45 rfl (by omega) (by omega) (by decide) (by decide) ?_
      exact hK c10 M9 IM9 FM9 (by omega) (by omega) ⟨((gKl.refl.put UM8 rfl).tr QM9 rfl), (Or.inl ⟨by omega, by rw [en], (by have w := (o_i_of ((QM9 18 rfl).trans fM8)); omega), by omega, by omega, PtM9⟩)⟩
    · skip
      refine PW.jz_ne q_183_23 rfl (fun h11 => False.elim (by omega)) (fun h11 => ?_)
      have en : k_nr y i lo hi = 2 := by unfold k_nr; rw [if_neg (by omega), if_pos (by omega)]
      refine PW.aload_n q_183_26 rfl ?_
      refine PW.cI q_183_27 (by decide) fun c12 hc12 => ?_
      refine PW.cV (as := [_]) (rest := []) q_183_28 t_mv_183_170 kd_294 I.1 (by decide) rfl (by decide) rfl rfl (Nat.le_of_ble_eq_true rfl) (Nat.le_of_ble_eq_true rfl) (by decide) (by decide) ?_
      refine PW.up (by decide) (c_X12_bad_vk (V) (hV) G _ M I c12 _ _ hp_0 fun x14 M13 IM13 GM13 hx14 kx14 PM13 => ?_)
      have FM13 := Fr.trans F GM13 (rfl)
      rcases PM13 with ⟨QM13, ⟨PfM13, PgM13⟩⟩
      refine PW.rZ q_183_31 rfl (by omega) (by omega) (by decide) (by decide) ?_
      exact hK x14 M13 IM13 FM13 (by omega) (by omega) ⟨(gKl.refl.tr QM13 rfl), (Or.inr ⟨by omega, by rw [en]; omega, by rw [en]; omega, by omega⟩)⟩
  · skip
    have en : k_nr y i lo hi = 1 := by unfold k_nr; rw [if_pos (by omega)]
    refine PW.aload_n q_183_8 rfl ?_
    refine PW.cI q_183_9 (by decide) fun c15 hc15 => ?_
    refine PW.cV (as := [_]) (rest := []) q_183_10 t_mv_183_170 kd_294 I.1 (by decide) rfl (by decide) rfl rfl (Nat.le_of_ble_eq_true rfl) (Nat.le_of_ble_eq_true rfl) (by decide) (by decide) ?_
    refine PW.up (by decide) (c_X12_bad_vk (V) (hV) G _ M I c15 _ _ hp_0 fun x17 M16 IM16 GM16 hx17 kx17 PM16 => ?_)
    have FM16 := Fr.trans F GM16 (rfl)
    rcases PM16 with ⟨QM16, ⟨PfM16, PgM16⟩⟩
    refine PW.rZ q_183_13 rfl (by omega) (by omega) (by decide) (by decide) ?_
    exact hK x17 M16 IM16 FM16 (by omega) (by omega) ⟨(gKl.refl.tr QM16 rfl), (Or.inr ⟨by omega, by rw [en]; omega, by rw [en]; omega, by omega⟩)⟩
theorem c_X12_puts_vk (V : pM → Prop) (hV : Stab V) (G : pG) (Kr : pK) (M : pM) (I : Iv V M) (a1 : Int32) (a2 : Int32) (a3 : Int32) (hl_a1 : 2 ≤ a1.toInt) (hh_a1 : a1.toInt ≤ 10) (y : k_X) (i : Nat) (lo hi : Int) (hp_0 : k_ra y M i) (hp_1 : a2.toInt = lo) (hp_2 : a3.toInt = hi) (hK : ∀ (x : Int32) (M1 : pM), Iv V M1 → Fr [40, 43] M M1 → 0 ≤ x.toInt → x.toInt ≤ 1 → (gKl [4, 11, 12, 13, 14, 15, 16, 17, 18] M M1 ∧ ((x.toInt = 1 ∧ k_nr y i lo hi = 0 ∧ (o_a (M1 297) a1.toInt.toNat).toInt = kV y i ∧ lo ≤ kV y i ∧ kV y i ≤ hi ∧ k_ra y M1 (i + 1) ∧ ∀ z, z ≠ a1.toInt.toNat → o_a (M1 297) z = o_a (M 297) z) ∨ (x.toInt = 0 ∧ k_nr y i lo hi ≠ 0 ∧ o_i (M1 294) 15 = k_nr y i lo hi ∧ o_i (M1 294) 16 = kP y i))) → Kr.1 (some (.int x)) 311 M1) : PW G false 3 184 (p_mc 184) (p_msl 184) Kr 0 (lv_args 0 [.ref 294, .int a1, .int a2, .int a3]) [] 311 M 0 0 := by
  have F : Fr [40, 43] M M := Fr.refl
  refine PW.aload_n q_184_0 rfl ?_
  refine PW.iload_n q_184_1 rfl ?_
  refine PW.iload_n q_184_2 rfl ?_
  refine PW.cV (as := [_, _]) (rest := []) q_184_3 t_mv_184_183 kd_294 I.1 (by decide) rfl (by decide) rfl rfl (Nat.le_of_ble_eq_true rfl) (Nat.le_of_ble_eq_true rfl) (by decide) (by decide) ?_
  refine PW.up (by decide) (c_X12_takes_vk (V) (hV) G _ M I a2 a3 _ _ lo hi hp_0 (by omega) (by omega) fun x2 M1 IM1 GM1 hx2 kx2 PM1 => ?_)
  have FM1 := Fr.trans F GM1 (rfl)
  rcases PM1 with ⟨QM1, ⟨PaM1, PzM1, PvM1, PlM1, PmM1, PtM1⟩ | ⟨PaM1, PzM1, PfM1, PgM1⟩⟩
  · skip
    refine PW.jz_ne q_184_6 rfl (fun h3 => ?_) (fun h3 => False.elim (by omega))
    refine PW.aload_n q_184_11 rfl ?_
    refine PW.gR 297 q_184_12 (Or.inl t_ft_184_37) gF_40_7 kd_294 IM1.1 (by decide) rfl ?_
    refine PW.iload_n q_184_15 rfl ?_
    refine PW.aload_n q_184_16 rfl ?_
    refine PW.gI q_184_17 (Or.inl t_ft_184_180) gF_40_18 kd_294 IM1.1 (by decide) fun x4 fx4 hx4 kx4 => ?_
    have ix4 := o_i_of fx4
    clear hx4 kx4
    refine PW.wI q_184_20 gA_43 kd_297 hV IM1 (by decide) rfl gC_43_2_10 (by decide) (by omega) (by omega) (n_lo _) (n_hi _) fun M5 IM5 fM5 UM5 => ?_
    have FM5 := Fr.pu FM1 UM5.1 kd_297 (rfl : List.contains [40, 43] 43 = true)
    refine PW.cI q_184_21 (by decide) fun c6 hc6 => ?_
    refine PW.rZ q_184_22 rfl (by omega) (by omega) (by decide) (by decide) ?_
    exact hK c6 M5 IM5 FM5 (by omega) (by omega) ⟨((gKl.refl.tr QM1 rfl).cg (UM5.1 294 (by decide))), (Or.inl ⟨by omega, PzM1, by rw [fM5]; omega, PlM1, PmM1, (PtM1.cg (UM5.1 294 (by decide)) (UM5.1 295 (by decide)) (UM5.1 300 (by decide))), fun z hz => ((UM5.2 z (by omega)).trans (congrArg (fun e => o_a e z) (Fr.at GM1 kd_297 (by decide))))⟩)⟩
  · skip
    refine PW.jz_ne q_184_6 rfl (fun h7 => False.elim (by omega)) (fun h7 => ?_)
    refine PW.cI q_184_9 (by decide) fun c8 hc8 => ?_
    refine PW.rZ q_184_10 rfl (by omega) (by omega) (by decide) (by decide) ?_
    exact hK c8 M1 IM1 FM1 (by omega) (by omega) ⟨(gKl.refl.tr QM1 rfl), (Or.inr ⟨by omega, PzM1, PfM1, PgM1⟩)⟩
theorem c_X12_puts_vkp (V : pM → Prop) (hV : Stab V) (G : pG) (Kr : pK) (M : pM) (I : Iv V M) (a1 : Int32) (a2 : Int32) (a3 : Int32) (hl_a1 : 11 ≤ a1.toInt) (hh_a1 : a1.toInt ≤ 16) (hl_a2 : 0 ≤ a2.toInt) (hh_a2 : a2.toInt ≤ 0) (hl_a3 : 9 ≤ a3.toInt) (hh_a3 : a3.toInt ≤ 9) (y : k_X) (i : Nat) (lo hi : Int) (hp_0 : k_ra y M i) (hp_1 : a2.toInt = lo) (hp_2 : a3.toInt = hi) (hK : ∀ (x : Int32) (M1 : pM), Iv V M1 → Fr [40, 43] M M1 → 0 ≤ x.toInt → x.toInt ≤ 1 → (gKl [4, 11, 12, 13, 14, 15, 16, 17, 18] M M1 ∧ ((x.toInt = 1 ∧ k_nr y i lo hi = 0 ∧ (o_a (M1 297) a1.toInt.toNat).toInt = kV y i ∧ lo ≤ kV y i ∧ kV y i ≤ hi ∧ k_ra y M1 (i + 1) ∧ ∀ z, z ≠ a1.toInt.toNat → o_a (M1 297) z = o_a (M 297) z) ∨ (x.toInt = 0 ∧ k_nr y i lo hi ≠ 0 ∧ o_i (M1 294) 15 = k_nr y i lo hi ∧ o_i (M1 294) 16 = kP y i))) → Kr.1 (some (.int x)) 311 M1) : PW G false 3 184 (p_mc 184) (p_msl 184) Kr 0 (lv_args 0 [.ref 294, .int a1, .int a2, .int a3]) [] 311 M 0 0 := by
  have F : Fr [40, 43] M M := Fr.refl
  refine PW.aload_n q_184_0 rfl ?_
  refine PW.iload_n q_184_1 rfl ?_
  refine PW.iload_n q_184_2 rfl ?_
  refine PW.cV (as := [_, _]) (rest := []) q_184_3 t_mv_184_183 kd_294 I.1 (by decide) rfl (by decide) rfl rfl (Nat.le_of_ble_eq_true rfl) (Nat.le_of_ble_eq_true rfl) (by decide) (by decide) ?_
  refine PW.up (by decide) (c_X12_takes_vk (V) (hV) G _ M I a2 a3 _ _ lo hi hp_0 (by omega) (by omega) fun x2 M1 IM1 GM1 hx2 kx2 PM1 => ?_)
  have FM1 := Fr.trans F GM1 (rfl)
  rcases PM1 with ⟨QM1, ⟨PaM1, PzM1, PvM1, PlM1, PmM1, PtM1⟩ | ⟨PaM1, PzM1, PfM1, PgM1⟩⟩
  · skip
    refine PW.jz_ne q_184_6 rfl (fun h3 => ?_) (fun h3 => False.elim (by omega))
    refine PW.aload_n q_184_11 rfl ?_
    refine PW.gR 297 q_184_12 (Or.inl t_ft_184_37) gF_40_7 kd_294 IM1.1 (by decide) rfl ?_
    refine PW.iload_n q_184_15 rfl ?_
    refine PW.aload_n q_184_16 rfl ?_
    refine PW.gI q_184_17 (Or.inl t_ft_184_180) gF_40_18 kd_294 IM1.1 (by decide) fun x4 fx4 hx4 kx4 => ?_
    have ix4 := o_i_of fx4
    clear hx4 kx4
    refine PW.wI q_184_20 gA_43 kd_297 hV IM1 (by decide) rfl gC_43_11_16 (by decide) (by omega) (by omega) (by omega) (by omega) fun M5 IM5 fM5 UM5 => ?_
    have FM5 := Fr.pu FM1 UM5.1 kd_297 (rfl : List.contains [40, 43] 43 = true)
    refine PW.cI q_184_21 (by decide) fun c6 hc6 => ?_
    refine PW.rZ q_184_22 rfl (by omega) (by omega) (by decide) (by decide) ?_
    exact hK c6 M5 IM5 FM5 (by omega) (by omega) ⟨((gKl.refl.tr QM1 rfl).cg (UM5.1 294 (by decide))), (Or.inl ⟨by omega, PzM1, by rw [fM5]; omega, PlM1, PmM1, (PtM1.cg (UM5.1 294 (by decide)) (UM5.1 295 (by decide)) (UM5.1 300 (by decide))), fun z hz => ((UM5.2 z (by omega)).trans (congrArg (fun e => o_a e z) (Fr.at GM1 kd_297 (by decide))))⟩)⟩
  · skip
    refine PW.jz_ne q_184_6 rfl (fun h7 => False.elim (by omega)) (fun h7 => ?_)
    refine PW.cI q_184_9 (by decide) fun c8 hc8 => ?_
    refine PW.rZ q_184_10 rfl (by omega) (by omega) (by decide) (by decide) ?_
    exact hK c8 M1 IM1 FM1 (by omega) (by omega) ⟨(gKl.refl.tr QM1 rfl), (Or.inr ⟨by omega, PzM1, PfM1, PgM1⟩)⟩
theorem c_X12_puts_vkd (V : pM → Prop) (hV : Stab V) (G : pG) (Kr : pK) (M : pM) (I : Iv V M) (a1 : Int32) (a2 : Int32) (a3 : Int32) (hl_a1 : 25 ≤ a1.toInt) (hh_a1 : a1.toInt ≤ 32) (y : k_X) (i : Nat) (lo hi : Int) (hp_0 : k_ra y M i) (hp_1 : a2.toInt = lo) (hp_2 : a3.toInt = hi) (hK : ∀ (x : Int32) (M1 : pM), Iv V M1 → Fr [40, 43] M M1 → 0 ≤ x.toInt → x.toInt ≤ 1 → (gKl [4, 11, 12, 13, 14, 15, 16, 17, 18] M M1 ∧ ((x.toInt = 1 ∧ k_nr y i lo hi = 0 ∧ (o_a (M1 297) a1.toInt.toNat).toInt = kV y i ∧ lo ≤ kV y i ∧ kV y i ≤ hi ∧ k_ra y M1 (i + 1) ∧ ∀ z, z ≠ a1.toInt.toNat → o_a (M1 297) z = o_a (M 297) z) ∨ (x.toInt = 0 ∧ k_nr y i lo hi ≠ 0 ∧ o_i (M1 294) 15 = k_nr y i lo hi ∧ o_i (M1 294) 16 = kP y i))) → Kr.1 (some (.int x)) 311 M1) : PW G false 3 184 (p_mc 184) (p_msl 184) Kr 0 (lv_args 0 [.ref 294, .int a1, .int a2, .int a3]) [] 311 M 0 0 := by
  have F : Fr [40, 43] M M := Fr.refl
  refine PW.aload_n q_184_0 rfl ?_
  refine PW.iload_n q_184_1 rfl ?_
  refine PW.iload_n q_184_2 rfl ?_
  refine PW.cV (as := [_, _]) (rest := []) q_184_3 t_mv_184_183 kd_294 I.1 (by decide) rfl (by decide) rfl rfl (Nat.le_of_ble_eq_true rfl) (Nat.le_of_ble_eq_true rfl) (by decide) (by decide) ?_
  refine PW.up (by decide) (c_X12_takes_vk (V) (hV) G _ M I a2 a3 _ _ lo hi hp_0 (by omega) (by omega) fun x2 M1 IM1 GM1 hx2 kx2 PM1 => ?_)
  have FM1 := Fr.trans F GM1 (rfl)
  rcases PM1 with ⟨QM1, ⟨PaM1, PzM1, PvM1, PlM1, PmM1, PtM1⟩ | ⟨PaM1, PzM1, PfM1, PgM1⟩⟩
  · skip
    refine PW.jz_ne q_184_6 rfl (fun h3 => ?_) (fun h3 => False.elim (by omega))
    refine PW.aload_n q_184_11 rfl ?_
    refine PW.gR 297 q_184_12 (Or.inl t_ft_184_37) gF_40_7 kd_294 IM1.1 (by decide) rfl ?_
    refine PW.iload_n q_184_15 rfl ?_
    refine PW.aload_n q_184_16 rfl ?_
    refine PW.gI q_184_17 (Or.inl t_ft_184_180) gF_40_18 kd_294 IM1.1 (by decide) fun x4 fx4 hx4 kx4 => ?_
    have ix4 := o_i_of fx4
    clear hx4 kx4
    refine PW.wI q_184_20 gA_43 kd_297 hV IM1 (by decide) rfl gC_43_25_32 (by decide) (by omega) (by omega) (n_lo _) (n_hi _) fun M5 IM5 fM5 UM5 => ?_
    have FM5 := Fr.pu FM1 UM5.1 kd_297 (rfl : List.contains [40, 43] 43 = true)
    refine PW.cI q_184_21 (by decide) fun c6 hc6 => ?_
    refine PW.rZ q_184_22 rfl (by omega) (by omega) (by decide) (by decide) ?_
    exact hK c6 M5 IM5 FM5 (by omega) (by omega) ⟨((gKl.refl.tr QM1 rfl).cg (UM5.1 294 (by decide))), (Or.inl ⟨by omega, PzM1, by rw [fM5]; omega, PlM1, PmM1, (PtM1.cg (UM5.1 294 (by decide)) (UM5.1 295 (by decide)) (UM5.1 300 (by decide))), fun z hz => ((UM5.2 z (by omega)).trans (congrArg (fun e => o_a e z) (Fr.at GM1 kd_297 (by decide))))⟩)⟩
  · skip
    refine PW.jz_ne q_184_6 rfl (fun h7 => False.elim (by omega)) (fun h7 => ?_)
    refine PW.cI q_184_9 (by decide) fun c8 hc8 => ?_
    refine PW.rZ q_184_10 rfl (by omega) (by omega) (by decide) (by decide) ?_
    exact hK c8 M1 IM1 FM1 (by omega) (by omega) ⟨(gKl.refl.tr QM1 rfl), (Or.inr ⟨by omega, PzM1, PfM1, PgM1⟩)⟩
