theorem q_193_0 : p_tb 193 0 = some (.aload_n 0, 1) := by decide +kernel
theorem q_193_1 : p_tb 193 1 = some (.iconst 0, 1) := by decide +kernel
theorem q_193_2 : p_tb 193 2 = some (.putfield 1, 3) := by decide +kernel
theorem q_193_5 : p_tb 193 5 = some (.aload_n 0, 1) := by decide +kernel
theorem q_193_6 : p_tb 193 6 = some (.sipush 900, 3) := by decide +kernel
theorem q_193_9 : p_tb 193 9 = some (.invokevirtual 226, 3) := by decide +kernel
theorem q_193_12 : p_tb 193 12 = some (.aload_n 0, 1) := by decide +kernel
theorem q_193_13 : p_tb 193 13 = some (.iconst 0, 1) := by decide +kernel
theorem q_193_14 : p_tb 193 14 = some (.putfield 161, 3) := by decide +kernel
theorem q_193_17 : p_tb 193 17 = some (.aload_n 0, 1) := by decide +kernel
theorem q_193_18 : p_tb 193 18 = some (.iconst 0, 1) := by decide +kernel
theorem q_193_19 : p_tb 193 19 = some (.putfield 229, 3) := by decide +kernel
theorem q_193_22 : p_tb 193 22 = some (.aload_n 0, 1) := by decide +kernel
theorem q_193_23 : p_tb 193 23 = some (.iconst 0, 1) := by decide +kernel
theorem q_193_24 : p_tb 193 24 = some (.putfield 195, 3) := by decide +kernel
theorem q_193_27 : p_tb 193 27 = some (.iconst 0, 1) := by decide +kernel
theorem q_193_28 : p_tb 193 28 = some (.istore_n 1, 1) := by decide +kernel
theorem q_193_29 : p_tb 193 29 = some (.iload_n 1, 1) := by decide +kernel
theorem q_193_30 : p_tb 193 30 = some (.bipush 33, 2) := by decide +kernel
theorem q_193_32 : p_tb 193 32 = some (.if_icmp .ge 16, 3) := by decide +kernel
theorem q_193_35 : p_tb 193 35 = some (.aload_n 0, 1) := by decide +kernel
theorem q_193_36 : p_tb 193 36 = some (.getfield 37, 3) := by decide +kernel
theorem q_193_39 : p_tb 193 39 = some (.iload_n 1, 1) := by decide +kernel
theorem q_193_40 : p_tb 193 40 = some (.iconst 0, 1) := by decide +kernel
theorem q_193_41 : p_tb 193 41 = some (.iastore, 1) := by decide +kernel
theorem q_193_42 : p_tb 193 42 = some (.iinc 1 1, 3) := by decide +kernel
theorem q_193_45 : p_tb 193 45 = some (.goto (-16), 3) := by decide +kernel
theorem q_193_48 : p_tb 193 48 = some (.aload_n 0, 1) := by decide +kernel
theorem q_193_49 : p_tb 193 49 = some (.getfield 37, 3) := by decide +kernel
theorem q_193_52 : p_tb 193 52 = some (.iconst 2, 1) := by decide +kernel
theorem q_193_53 : p_tb 193 53 = some (.sipush 400, 3) := by decide +kernel
theorem q_193_56 : p_tb 193 56 = some (.iastore, 1) := by decide +kernel
theorem q_193_57 : p_tb 193 57 = some (.aload_n 0, 1) := by decide +kernel
theorem q_193_58 : p_tb 193 58 = some (.getfield 37, 3) := by decide +kernel
theorem q_193_61 : p_tb 193 61 = some (.iconst 3, 1) := by decide +kernel
theorem q_193_62 : p_tb 193 62 = some (.iconst 1, 1) := by decide +kernel
theorem q_193_63 : p_tb 193 63 = some (.iastore, 1) := by decide +kernel
theorem q_193_64 : p_tb 193 64 = some (.aload_n 0, 1) := by decide +kernel
theorem q_193_65 : p_tb 193 65 = some (.invokevirtual 173, 3) := by decide +kernel
theorem q_193_68 : p_tb 193 68 = some (.aload_n 0, 1) := by decide +kernel
theorem q_193_69 : p_tb 193 69 = some (.getfield 144, 3) := by decide +kernel
theorem q_193_72 : p_tb 193 72 = some (.ifCond .eq 39, 3) := by decide +kernel
theorem q_193_75 : p_tb 193 75 = some (.aload_n 0, 1) := by decide +kernel
theorem q_193_76 : p_tb 193 76 = some (.invokevirtual 232, 3) := by decide +kernel
theorem q_193_79 : p_tb 193 79 = some (.ifCond .eq 12, 3) := by decide +kernel
theorem q_193_82 : p_tb 193 82 = some (.aload_n 0, 1) := by decide +kernel
theorem q_193_83 : p_tb 193 83 = some (.bipush 59, 2) := by decide +kernel
theorem q_193_85 : p_tb 193 85 = some (.invokevirtual 235, 3) := by decide +kernel
theorem q_193_88 : p_tb 193 88 = some (.ifCond .ne 10, 3) := by decide +kernel
theorem q_193_91 : p_tb 193 91 = some (.iconst (-1), 1) := by decide +kernel
theorem q_193_92 : p_tb 193 92 = some (.aload_n 0, 1) := by decide +kernel
theorem q_193_93 : p_tb 193 93 = some (.getfield 164, 3) := by decide +kernel
theorem q_193_96 : p_tb 193 96 = some (.isub, 1) := by decide +kernel
theorem q_193_97 : p_tb 193 97 = some (.ireturn, 1) := by decide +kernel
theorem q_193_98 : p_tb 193 98 = some (.aload_n 0, 1) := by decide +kernel
theorem q_193_99 : p_tb 193 99 = some (.dup, 1) := by decide +kernel
theorem q_193_100 : p_tb 193 100 = some (.getfield 229, 3) := by decide +kernel
theorem q_193_103 : p_tb 193 103 = some (.iconst 1, 1) := by decide +kernel
theorem q_193_104 : p_tb 193 104 = some (.iadd, 1) := by decide +kernel
theorem q_193_105 : p_tb 193 105 = some (.putfield 229, 3) := by decide +kernel
theorem q_193_108 : p_tb 193 108 = some (.goto (-40), 3) := by decide +kernel
theorem q_193_111 : p_tb 193 111 = some (.iconst 0, 1) := by decide +kernel
theorem q_193_112 : p_tb 193 112 = some (.istore_n 1, 1) := by decide +kernel
theorem q_193_113 : p_tb 193 113 = some (.iload_n 1, 1) := by decide +kernel
theorem q_193_114 : p_tb 193 114 = some (.sipush 397, 3) := by decide +kernel
theorem q_193_117 : p_tb 193 117 = some (.if_icmp .ge 31, 3) := by decide +kernel
theorem q_193_120 : p_tb 193 120 = some (.aload_n 0, 1) := by decide +kernel
theorem q_193_121 : p_tb 193 121 = some (.getfield 33, 3) := by decide +kernel
theorem q_193_124 : p_tb 193 124 = some (.iload_n 1, 1) := by decide +kernel
theorem q_193_125 : p_tb 193 125 = some (.iload_n 1, 1) := by decide +kernel
theorem q_193_126 : p_tb 193 126 = some (.bipush 33, 2) := by decide +kernel
theorem q_193_128 : p_tb 193 128 = some (.if_icmp .ge 12, 3) := by decide +kernel
theorem q_193_131 : p_tb 193 131 = some (.aload_n 0, 1) := by decide +kernel
theorem q_193_132 : p_tb 193 132 = some (.getfield 37, 3) := by decide +kernel
theorem q_193_135 : p_tb 193 135 = some (.iload_n 1, 1) := by decide +kernel
theorem q_193_136 : p_tb 193 136 = some (.iaload, 1) := by decide +kernel
theorem q_193_137 : p_tb 193 137 = some (.goto 4, 3) := by decide +kernel
theorem q_193_140 : p_tb 193 140 = some (.iconst 0, 1) := by decide +kernel
theorem q_193_141 : p_tb 193 141 = some (.iastore, 1) := by decide +kernel
theorem q_193_142 : p_tb 193 142 = some (.iinc 1 1, 3) := by decide +kernel
theorem q_193_145 : p_tb 193 145 = some (.goto (-32), 3) := by decide +kernel
theorem q_193_148 : p_tb 193 148 = some (.iconst 0, 1) := by decide +kernel
theorem q_193_149 : p_tb 193 149 = some (.istore_n 1, 1) := by decide +kernel
theorem q_193_150 : p_tb 193 150 = some (.iload_n 1, 1) := by decide +kernel
theorem q_193_151 : p_tb 193 151 = some (.bipush 8, 2) := by decide +kernel
theorem q_193_153 : p_tb 193 153 = some (.if_icmp .ge 24, 3) := by decide +kernel
theorem q_193_156 : p_tb 193 156 = some (.aload_n 0, 1) := by decide +kernel
theorem q_193_157 : p_tb 193 157 = some (.getfield 43, 3) := by decide +kernel
theorem q_193_160 : p_tb 193 160 = some (.iload_n 1, 1) := by decide +kernel
theorem q_193_161 : p_tb 193 161 = some (.aload_n 0, 1) := by decide +kernel
theorem q_193_162 : p_tb 193 162 = some (.getfield 43, 3) := by decide +kernel
theorem q_193_165 : p_tb 193 165 = some (.bipush 8, 2) := by decide +kernel
theorem q_193_167 : p_tb 193 167 = some (.iload_n 1, 1) := by decide +kernel
theorem q_193_168 : p_tb 193 168 = some (.iadd, 1) := by decide +kernel
theorem q_193_169 : p_tb 193 169 = some (.laload, 1) := by decide +kernel
theorem q_193_170 : p_tb 193 170 = some (.lastore, 1) := by decide +kernel
theorem q_193_171 : p_tb 193 171 = some (.iinc 1 1, 3) := by decide +kernel
theorem q_193_174 : p_tb 193 174 = some (.goto (-24), 3) := by decide +kernel
theorem q_193_177 : p_tb 193 177 = some (.iconst 0, 1) := by decide +kernel
theorem q_193_178 : p_tb 193 178 = some (.istore_n 1, 1) := by decide +kernel
theorem q_193_179 : p_tb 193 179 = some (.iload_n 1, 1) := by decide +kernel
theorem q_193_180 : p_tb 193 180 = some (.bipush 6, 2) := by decide +kernel
theorem q_193_182 : p_tb 193 182 = some (.if_icmp .ge 68, 3) := by decide +kernel
theorem q_193_185 : p_tb 193 185 = some (.aload_n 0, 1) := by decide +kernel
theorem q_193_186 : p_tb 193 186 = some (.getfield 33, 3) := by decide +kernel
theorem q_193_189 : p_tb 193 189 = some (.bipush 36, 2) := by decide +kernel
theorem q_193_191 : p_tb 193 191 = some (.iload_n 1, 1) := by decide +kernel
theorem q_193_192 : p_tb 193 192 = some (.iadd, 1) := by decide +kernel
theorem q_193_193 : p_tb 193 193 = some (.aload_n 0, 1) := by decide +kernel
theorem q_193_194 : p_tb 193 194 = some (.getfield 33, 3) := by decide +kernel
theorem q_193_197 : p_tb 193 197 = some (.iconst 5, 1) := by decide +kernel
theorem q_193_198 : p_tb 193 198 = some (.iload_n 1, 1) := by decide +kernel
theorem q_193_199 : p_tb 193 199 = some (.iadd, 1) := by decide +kernel
theorem q_193_200 : p_tb 193 200 = some (.iaload, 1) := by decide +kernel
theorem q_193_201 : p_tb 193 201 = some (.iastore, 1) := by decide +kernel
theorem q_193_202 : p_tb 193 202 = some (.aload_n 0, 1) := by decide +kernel
theorem q_193_203 : p_tb 193 203 = some (.getfield 33, 3) := by decide +kernel
theorem q_193_206 : p_tb 193 206 = some (.bipush 42, 2) := by decide +kernel
theorem q_193_208 : p_tb 193 208 = some (.iload_n 1, 1) := by decide +kernel
theorem q_193_209 : p_tb 193 209 = some (.iadd, 1) := by decide +kernel
theorem q_193_210 : p_tb 193 210 = some (.aload_n 0, 1) := by decide +kernel
theorem q_193_211 : p_tb 193 211 = some (.getfield 33, 3) := by decide +kernel
theorem q_193_214 : p_tb 193 214 = some (.bipush 17, 2) := by decide +kernel
theorem q_193_216 : p_tb 193 216 = some (.iload_n 1, 1) := by decide +kernel
theorem q_193_217 : p_tb 193 217 = some (.iadd, 1) := by decide +kernel
theorem q_193_218 : p_tb 193 218 = some (.iaload, 1) := by decide +kernel
theorem q_193_219 : p_tb 193 219 = some (.iastore, 1) := by decide +kernel
theorem q_193_220 : p_tb 193 220 = some (.aload_n 0, 1) := by decide +kernel
theorem q_193_221 : p_tb 193 221 = some (.getfield 33, 3) := by decide +kernel
theorem q_193_224 : p_tb 193 224 = some (.bipush 48, 2) := by decide +kernel
theorem q_193_226 : p_tb 193 226 = some (.iload_n 1, 1) := by decide +kernel
theorem q_193_227 : p_tb 193 227 = some (.iadd, 1) := by decide +kernel
theorem q_193_228 : p_tb 193 228 = some (.iload_n 1, 1) := by decide +kernel
theorem q_193_229 : p_tb 193 229 = some (.aload_n 0, 1) := by decide +kernel
theorem q_193_230 : p_tb 193 230 = some (.getfield 33, 3) := by decide +kernel
theorem q_193_233 : p_tb 193 233 = some (.iconst 0, 1) := by decide +kernel
theorem q_193_234 : p_tb 193 234 = some (.iaload, 1) := by decide +kernel
theorem q_193_235 : p_tb 193 235 = some (.if_icmp .ge 7, 3) := by decide +kernel
theorem q_193_238 : p_tb 193 238 = some (.iconst 1, 1) := by decide +kernel
theorem q_193_239 : p_tb 193 239 = some (.goto 4, 3) := by decide +kernel
theorem q_193_242 : p_tb 193 242 = some (.iconst 0, 1) := by decide +kernel
theorem q_193_243 : p_tb 193 243 = some (.iastore, 1) := by decide +kernel
theorem q_193_244 : p_tb 193 244 = some (.iinc 1 1, 3) := by decide +kernel
theorem q_193_247 : p_tb 193 247 = some (.goto (-68), 3) := by decide +kernel
theorem q_193_250 : p_tb 193 250 = some (.iconst 0, 1) := by decide +kernel
theorem q_193_251 : p_tb 193 251 = some (.istore_n 1, 1) := by decide +kernel
theorem q_193_252 : p_tb 193 252 = some (.iload_n 1, 1) := by decide +kernel
theorem q_193_253 : p_tb 193 253 = some (.aload_n 0, 1) := by decide +kernel
theorem q_193_254 : p_tb 193 254 = some (.getfield 33, 3) := by decide +kernel
theorem q_193_257 : p_tb 193 257 = some (.iconst 1, 1) := by decide +kernel
theorem q_193_258 : p_tb 193 258 = some (.iaload, 1) := by decide +kernel
theorem q_193_259 : p_tb 193 259 = some (.if_icmp .ge 94, 3) := by decide +kernel
theorem q_193_262 : p_tb 193 262 = some (.aload_n 0, 1) := by decide +kernel
theorem q_193_263 : p_tb 193 263 = some (.getfield 33, 3) := by decide +kernel
theorem q_193_266 : p_tb 193 266 = some (.bipush 74, 2) := by decide +kernel
theorem q_193_268 : p_tb 193 268 = some (.iload_n 1, 1) := by decide +kernel
theorem q_193_269 : p_tb 193 269 = some (.iadd, 1) := by decide +kernel
theorem q_193_270 : p_tb 193 270 = some (.aload_n 0, 1) := by decide +kernel
theorem q_193_271 : p_tb 193 271 = some (.getfield 33, 3) := by decide +kernel
theorem q_193_274 : p_tb 193 274 = some (.bipush 36, 2) := by decide +kernel
theorem q_193_276 : p_tb 193 276 = some (.aload_n 0, 1) := by decide +kernel
theorem q_193_277 : p_tb 193 277 = some (.getfield 33, 3) := by decide +kernel
theorem q_193_280 : p_tb 193 280 = some (.bipush 23, 2) := by decide +kernel
theorem q_193_282 : p_tb 193 282 = some (.iload_n 1, 1) := by decide +kernel
theorem q_193_283 : p_tb 193 283 = some (.iadd, 1) := by decide +kernel
theorem q_193_284 : p_tb 193 284 = some (.iaload, 1) := by decide +kernel
theorem q_193_285 : p_tb 193 285 = some (.iadd, 1) := by decide +kernel
theorem q_193_286 : p_tb 193 286 = some (.iaload, 1) := by decide +kernel
theorem q_193_287 : p_tb 193 287 = some (.iastore, 1) := by decide +kernel
theorem q_193_288 : p_tb 193 288 = some (.aload_n 0, 1) := by decide +kernel
theorem q_193_289 : p_tb 193 289 = some (.getfield 33, 3) := by decide +kernel
theorem q_193_292 : p_tb 193 292 = some (.bipush 76, 2) := by decide +kernel
theorem q_193_294 : p_tb 193 294 = some (.iload_n 1, 1) := by decide +kernel
theorem q_193_295 : p_tb 193 295 = some (.iadd, 1) := by decide +kernel
theorem q_193_296 : p_tb 193 296 = some (.aload_n 0, 1) := by decide +kernel
theorem q_193_297 : p_tb 193 297 = some (.getfield 33, 3) := by decide +kernel
theorem q_193_300 : p_tb 193 300 = some (.bipush 25, 2) := by decide +kernel
theorem q_193_302 : p_tb 193 302 = some (.iload_n 1, 1) := by decide +kernel
theorem q_193_303 : p_tb 193 303 = some (.iadd, 1) := by decide +kernel
theorem q_193_304 : p_tb 193 304 = some (.iaload, 1) := by decide +kernel
theorem q_193_305 : p_tb 193 305 = some (.iastore, 1) := by decide +kernel
theorem q_193_306 : p_tb 193 306 = some (.aload_n 0, 1) := by decide +kernel
theorem q_193_307 : p_tb 193 307 = some (.getfield 33, 3) := by decide +kernel
theorem q_193_310 : p_tb 193 310 = some (.bipush 86, 2) := by decide +kernel
theorem q_193_312 : p_tb 193 312 = some (.iload_n 1, 1) := by decide +kernel
theorem q_193_313 : p_tb 193 313 = some (.iadd, 1) := by decide +kernel
theorem q_193_314 : p_tb 193 314 = some (.aload_n 0, 1) := by decide +kernel
theorem q_193_315 : p_tb 193 315 = some (.getfield 33, 3) := by decide +kernel
theorem q_193_318 : p_tb 193 318 = some (.bipush 23, 2) := by decide +kernel
theorem q_193_320 : p_tb 193 320 = some (.iload_n 1, 1) := by decide +kernel
theorem q_193_321 : p_tb 193 321 = some (.iadd, 1) := by decide +kernel
theorem q_193_322 : p_tb 193 322 = some (.iaload, 1) := by decide +kernel
theorem q_193_323 : p_tb 193 323 = some (.iastore, 1) := by decide +kernel
theorem q_193_324 : p_tb 193 324 = some (.aload_n 0, 1) := by decide +kernel
theorem q_193_325 : p_tb 193 325 = some (.getfield 33, 3) := by decide +kernel
theorem q_193_328 : p_tb 193 328 = some (.bipush 88, 2) := by decide +kernel
theorem q_193_330 : p_tb 193 330 = some (.bipush 6, 2) := by decide +kernel
theorem q_193_332 : p_tb 193 332 = some (.iload_n 1, 1) := by decide +kernel
theorem q_193_333 : p_tb 193 333 = some (.imul, 1) := by decide +kernel
theorem q_193_334 : p_tb 193 334 = some (.iadd, 1) := by decide +kernel
theorem q_193_335 : p_tb 193 335 = some (.aload_n 0, 1) := by decide +kernel
theorem q_193_336 : p_tb 193 336 = some (.getfield 33, 3) := by decide +kernel
theorem q_193_339 : p_tb 193 339 = some (.bipush 23, 2) := by decide +kernel
theorem q_193_341 : p_tb 193 341 = some (.iload_n 1, 1) := by decide +kernel
theorem q_193_342 : p_tb 193 342 = some (.iadd, 1) := by decide +kernel
theorem q_193_343 : p_tb 193 343 = some (.iaload, 1) := by decide +kernel
theorem q_193_344 : p_tb 193 344 = some (.iadd, 1) := by decide +kernel
theorem q_193_345 : p_tb 193 345 = some (.iconst 1, 1) := by decide +kernel
theorem q_193_346 : p_tb 193 346 = some (.iastore, 1) := by decide +kernel
theorem q_193_347 : p_tb 193 347 = some (.iinc 1 1, 3) := by decide +kernel
theorem q_193_350 : p_tb 193 350 = some (.goto (-98), 3) := by decide +kernel
theorem q_193_353 : p_tb 193 353 = some (.aload_n 0, 1) := by decide +kernel
theorem q_193_354 : p_tb 193 354 = some (.iconst 0, 1) := by decide +kernel
theorem q_193_355 : p_tb 193 355 = some (.putfield 238, 3) := by decide +kernel
theorem q_193_358 : p_tb 193 358 = some (.aload_n 0, 1) := by decide +kernel
theorem q_193_359 : p_tb 193 359 = some (.getfield 229, 3) := by decide +kernel
theorem q_193_362 : p_tb 193 362 = some (.ireturn, 1) := by decide +kernel
theorem t_ft_193_1 : p_f2 p_ft (p_mK 193) 1 = some (11, 0) := by decide +kernel
theorem t_ft_193_144 : p_f2 p_ft (p_mK 193) 144 = some (11, 11) := by decide +kernel
theorem t_ft_193_161 : p_f2 p_ft (p_mK 193) 161 = some (11, 15) := by decide +kernel
theorem t_ft_193_164 : p_f2 p_ft (p_mK 193) 164 = some (11, 16) := by decide +kernel
theorem t_ft_193_195 : p_f2 p_ft (p_mK 193) 195 = some (11, 20) := by decide +kernel
theorem t_ft_193_229 : p_f2 p_ft (p_mK 193) 229 = some (11, 19) := by decide +kernel
theorem t_ft_193_238 : p_f2 p_ft (p_mK 193) 238 = some (11, 23) := by decide +kernel
theorem t_ft_193_33 : p_f2 p_ft (p_mK 193) 33 = some (11, 6) := by decide +kernel
theorem t_ft_193_37 : p_f2 p_ft (p_mK 193) 37 = some (11, 7) := by decide +kernel
theorem t_ft_193_43 : p_f2 p_ft (p_mK 193) 43 = some (11, 9) := by decide +kernel
theorem t_mv_193_173 : p_f2 p_mv (p_mK 193) 173 = some 177 := by decide +kernel
theorem t_mv_193_226 : p_f2 p_mv (p_mK 193) 226 = some 165 := by decide +kernel
theorem t_mv_193_232 : p_f2 p_mv (p_mK 193) 232 = some 189 := by decide +kernel
theorem t_mv_193_235 : p_f2 p_mv (p_mK 193) 235 = some 181 := by decide +kernel
theorem gB_42_23_24 : gB 42 23 24 0 5 := gB.of (by decide +kernel)
theorem gN_42_47 : ∀ c, 42 ≤ c → c ≤ 47 → g_no c := fun c h1 h2 => by unfold g_no; omega
theorem gN_48_53 : ∀ c, 48 ≤ c → c ≤ 53 → g_no c := fun c h1 h2 => by unfold g_no; omega
theorem gN_74_75 : ∀ c, 74 ≤ c → c ≤ 75 → g_no c := fun c h1 h2 => by unfold g_no; omega
theorem gN_76_77 : ∀ c, 76 ≤ c → c ≤ 77 → g_no c := fun c h1 h2 => by unfold g_no; omega
theorem gN_86_87 : ∀ c, 86 ≤ c → c ≤ 87 → g_no c := fun c h1 h2 => by unfold g_no; omega
theorem gN_88_99 : ∀ c, 88 ≤ c → c ≤ 99 → g_no c := fun c h1 h2 => by unfold g_no; omega
theorem gC_42_42_47 : gC 42 42 47 (-2147483648) 2147483647 := gC.of (by decide +kernel)
theorem gC_42_48_53 : gC 42 48 53 (-2147483648) 2147483647 := gC.of (by decide +kernel)
theorem gC_42_74_75 : gC 42 74 75 (-2147483648) 2147483647 := gC.of (by decide +kernel)
theorem gC_42_76_77 : gC 42 76 77 (-2147483648) 2147483647 := gC.of (by decide +kernel)
theorem gC_42_86_87 : gC 42 86 87 0 5 := gC.of (by decide +kernel)
theorem gC_42_88_99 : gC 42 88 99 0 602 := gC.of (by decide +kernel)
theorem gC_43_0_32 : gC 43 0 32 0 2 := gC.of (by decide +kernel)
theorem gC_43_2_2 : gC 43 2 2 (-2147483648) 2147483647 := gC.of (by decide +kernel)
theorem gC_43_3_3 : gC 43 3 3 (-2147483648) 2147483647 := gC.of (by decide +kernel)
theorem q_194_0 : p_tb 194 0 = some (.aload_n 0, 1) := by decide +kernel
theorem q_194_1 : p_tb 194 1 = some (.iconst 0, 1) := by decide +kernel
theorem q_194_2 : p_tb 194 2 = some (.putfield 1, 3) := by decide +kernel
theorem q_194_5 : p_tb 194 5 = some (.aload_n 0, 1) := by decide +kernel
theorem q_194_6 : p_tb 194 6 = some (.getfield 161, 3) := by decide +kernel
theorem q_194_9 : p_tb 194 9 = some (.ireturn, 1) := by decide +kernel
theorem t_ft_194_1 : p_f2 p_ft (p_mK 194) 1 = some (11, 0) := by decide +kernel
theorem t_ft_194_161 : p_f2 p_ft (p_mK 194) 161 = some (11, 15) := by decide +kernel
theorem q_195_0 : p_tb 195 0 = some (.iload_n 1, 1) := by decide +kernel
theorem q_195_1 : p_tb 195 1 = some (.iconst 0, 1) := by decide +kernel
theorem q_195_2 : p_tb 195 2 = some (.aload_n 0, 1) := by decide +kernel
theorem q_195_3 : p_tb 195 3 = some (.getfield 33, 3) := by decide +kernel
theorem q_195_6 : p_tb 195 6 = some (.iconst 0, 1) := by decide +kernel
theorem q_195_7 : p_tb 195 7 = some (.iaload, 1) := by decide +kernel
theorem q_195_8 : p_tb 195 8 = some (.iconst 1, 1) := by decide +kernel
theorem q_195_9 : p_tb 195 9 = some (.isub, 1) := by decide +kernel
theorem q_195_10 : p_tb 195 10 = some (.invokestatic 176, 3) := by decide +kernel
theorem q_195_13 : p_tb 195 13 = some (.ireturn, 1) := by decide +kernel
theorem q_199_0 : p_tb 199 0 = some (.aload_n 0, 1) := by decide +kernel
theorem q_199_1 : p_tb 199 1 = some (.aload_n 0, 1) := by decide +kernel
theorem q_199_2 : p_tb 199 2 = some (.iload_n 1, 1) := by decide +kernel
theorem q_199_3 : p_tb 199 3 = some (.invokevirtual 241, 3) := by decide +kernel
theorem q_199_6 : p_tb 199 6 = some (.ifCond .eq 13, 3) := by decide +kernel
theorem q_199_9 : p_tb 199 9 = some (.iload_n 2, 1) := by decide +kernel
theorem q_199_10 : p_tb 199 10 = some (.iconst 0, 1) := by decide +kernel
theorem q_199_11 : p_tb 199 11 = some (.bipush 6, 2) := by decide +kernel
theorem q_199_13 : p_tb 199 13 = some (.invokestatic 176, 3) := by decide +kernel
theorem q_199_16 : p_tb 199 16 = some (.ifCond .ne 7, 3) := by decide +kernel
theorem q_199_19 : p_tb 199 19 = some (.iconst 1, 1) := by decide +kernel
theorem q_199_20 : p_tb 199 20 = some (.goto 4, 3) := by decide +kernel
theorem q_199_23 : p_tb 199 23 = some (.iconst 0, 1) := by decide +kernel
theorem q_199_24 : p_tb 199 24 = some (.invokevirtual 247, 3) := by decide +kernel
theorem q_199_27 : p_tb 199 27 = some (.ifCond .eq 5, 3) := by decide +kernel
theorem q_199_30 : p_tb 199 30 = some (.iconst 0, 1) := by decide +kernel
theorem q_199_31 : p_tb 199 31 = some (.ireturn, 1) := by decide +kernel
theorem q_199_32 : p_tb 199 32 = some (.iload_n 2, 1) := by decide +kernel
theorem q_199_33 : p_tb 199 33 = some (.tableswitch 101 0 5 #[39, 49, 59, 69, 79, 91], 39) := by decide +kernel
theorem q_199_72 : p_tb 199 72 = some (.aload_n 0, 1) := by decide +kernel
theorem q_199_73 : p_tb 199 73 = some (.getfield 33, 3) := by decide +kernel
theorem q_199_76 : p_tb 199 76 = some (.bipush 36, 2) := by decide +kernel
theorem q_199_78 : p_tb 199 78 = some (.iload_n 1, 1) := by decide +kernel
theorem q_199_79 : p_tb 199 79 = some (.iadd, 1) := by decide +kernel
theorem q_199_80 : p_tb 199 80 = some (.iaload, 1) := by decide +kernel
theorem q_199_81 : p_tb 199 81 = some (.ireturn, 1) := by decide +kernel
theorem q_199_82 : p_tb 199 82 = some (.aload_n 0, 1) := by decide +kernel
theorem q_199_83 : p_tb 199 83 = some (.getfield 33, 3) := by decide +kernel
theorem q_199_86 : p_tb 199 86 = some (.bipush 11, 2) := by decide +kernel
theorem q_199_88 : p_tb 199 88 = some (.iload_n 1, 1) := by decide +kernel
theorem q_199_89 : p_tb 199 89 = some (.iadd, 1) := by decide +kernel
theorem q_199_90 : p_tb 199 90 = some (.iaload, 1) := by decide +kernel
theorem q_199_91 : p_tb 199 91 = some (.ireturn, 1) := by decide +kernel
theorem q_199_92 : p_tb 199 92 = some (.aload_n 0, 1) := by decide +kernel
theorem q_199_93 : p_tb 199 93 = some (.getfield 33, 3) := by decide +kernel
theorem q_199_96 : p_tb 199 96 = some (.bipush 42, 2) := by decide +kernel
theorem q_199_98 : p_tb 199 98 = some (.iload_n 1, 1) := by decide +kernel
theorem q_199_99 : p_tb 199 99 = some (.iadd, 1) := by decide +kernel
theorem q_199_100 : p_tb 199 100 = some (.iaload, 1) := by decide +kernel
theorem q_199_101 : p_tb 199 101 = some (.ireturn, 1) := by decide +kernel
theorem q_199_102 : p_tb 199 102 = some (.aload_n 0, 1) := by decide +kernel
theorem q_199_103 : p_tb 199 103 = some (.getfield 33, 3) := by decide +kernel
theorem q_199_106 : p_tb 199 106 = some (.bipush 48, 2) := by decide +kernel
theorem q_199_108 : p_tb 199 108 = some (.iload_n 1, 1) := by decide +kernel
theorem q_199_109 : p_tb 199 109 = some (.iadd, 1) := by decide +kernel
theorem q_199_110 : p_tb 199 110 = some (.iaload, 1) := by decide +kernel
theorem q_199_111 : p_tb 199 111 = some (.ireturn, 1) := by decide +kernel
theorem q_199_112 : p_tb 199 112 = some (.aload_n 0, 1) := by decide +kernel
theorem q_199_113 : p_tb 199 113 = some (.getfield 33, 3) := by decide +kernel
theorem q_199_116 : p_tb 199 116 = some (.bipush 54, 2) := by decide +kernel
theorem q_199_118 : p_tb 199 118 = some (.iaload, 1) := by decide +kernel
theorem q_199_119 : p_tb 199 119 = some (.iload_n 1, 1) := by decide +kernel
theorem q_199_120 : p_tb 199 120 = some (.ishr, 1) := by decide +kernel
theorem q_199_121 : p_tb 199 121 = some (.iconst 1, 1) := by decide +kernel
theorem q_199_122 : p_tb 199 122 = some (.iand, 1) := by decide +kernel
theorem q_199_123 : p_tb 199 123 = some (.ireturn, 1) := by decide +kernel
theorem q_199_124 : p_tb 199 124 = some (.aload_n 0, 1) := by decide +kernel
theorem q_199_125 : p_tb 199 125 = some (.getfield 33, 3) := by decide +kernel
theorem q_199_128 : p_tb 199 128 = some (.bipush 61, 2) := by decide +kernel
theorem q_199_130 : p_tb 199 130 = some (.iload_n 1, 1) := by decide +kernel
theorem q_199_131 : p_tb 199 131 = some (.iadd, 1) := by decide +kernel
theorem q_199_132 : p_tb 199 132 = some (.iaload, 1) := by decide +kernel
theorem q_199_133 : p_tb 199 133 = some (.ireturn, 1) := by decide +kernel
theorem q_199_134 : p_tb 199 134 = some (.aload_n 0, 1) := by decide +kernel
theorem q_199_135 : p_tb 199 135 = some (.getfield 33, 3) := by decide +kernel
theorem q_199_138 : p_tb 199 138 = some (.bipush 67, 2) := by decide +kernel
theorem q_199_140 : p_tb 199 140 = some (.iload_n 1, 1) := by decide +kernel
theorem q_199_141 : p_tb 199 141 = some (.iadd, 1) := by decide +kernel
theorem q_199_142 : p_tb 199 142 = some (.iaload, 1) := by decide +kernel
theorem q_199_143 : p_tb 199 143 = some (.ireturn, 1) := by decide +kernel
theorem t_ft_195_33 : p_f2 p_ft (p_mK 195) 33 = some (11, 6) := by decide +kernel
theorem t_ft_199_33 : p_f2 p_ft (p_mK 199) 33 = some (11, 6) := by decide +kernel
theorem t_ms_195_176 : p_f2 p_ms (p_mK 195) 176 = some 166 := by decide +kernel
theorem t_ms_199_176 : p_f2 p_ms (p_mK 199) 176 = some 166 := by decide +kernel
theorem t_mv_199_241 : p_f2 p_mv (p_mK 199) 241 = some 195 := by decide +kernel
theorem t_mv_199_247 : p_f2 p_mv (p_mK 199) 247 = some 161 := by decide +kernel
theorem q_196_0 : p_tb 196 0 = some (.iload_n 1, 1) := by decide +kernel
theorem q_196_1 : p_tb 196 1 = some (.iconst 0, 1) := by decide +kernel
theorem q_196_2 : p_tb 196 2 = some (.aload_n 0, 1) := by decide +kernel
theorem q_196_3 : p_tb 196 3 = some (.getfield 33, 3) := by decide +kernel
theorem q_196_6 : p_tb 196 6 = some (.iconst 1, 1) := by decide +kernel
theorem q_196_7 : p_tb 196 7 = some (.iaload, 1) := by decide +kernel
theorem q_196_8 : p_tb 196 8 = some (.iconst 1, 1) := by decide +kernel
theorem q_196_9 : p_tb 196 9 = some (.isub, 1) := by decide +kernel
theorem q_196_10 : p_tb 196 10 = some (.invokestatic 176, 3) := by decide +kernel
theorem q_196_13 : p_tb 196 13 = some (.ireturn, 1) := by decide +kernel
theorem q_200_0 : p_tb 200 0 = some (.aload_n 0, 1) := by decide +kernel
theorem q_200_1 : p_tb 200 1 = some (.aload_n 0, 1) := by decide +kernel
theorem q_200_2 : p_tb 200 2 = some (.iload_n 1, 1) := by decide +kernel
theorem q_200_3 : p_tb 200 3 = some (.invokevirtual 251, 3) := by decide +kernel
theorem q_200_6 : p_tb 200 6 = some (.ifCond .eq 13, 3) := by decide +kernel
theorem q_200_9 : p_tb 200 9 = some (.iload_n 2, 1) := by decide +kernel
theorem q_200_10 : p_tb 200 10 = some (.iconst 0, 1) := by decide +kernel
theorem q_200_11 : p_tb 200 11 = some (.bipush 6, 2) := by decide +kernel
theorem q_200_13 : p_tb 200 13 = some (.invokestatic 176, 3) := by decide +kernel
theorem q_200_16 : p_tb 200 16 = some (.ifCond .ne 7, 3) := by decide +kernel
theorem q_200_19 : p_tb 200 19 = some (.iconst 1, 1) := by decide +kernel
theorem q_200_20 : p_tb 200 20 = some (.goto 4, 3) := by decide +kernel
theorem q_200_23 : p_tb 200 23 = some (.iconst 0, 1) := by decide +kernel
theorem q_200_24 : p_tb 200 24 = some (.invokevirtual 247, 3) := by decide +kernel
theorem q_200_27 : p_tb 200 27 = some (.ifCond .eq 5, 3) := by decide +kernel
theorem q_200_30 : p_tb 200 30 = some (.iconst 0, 1) := by decide +kernel
theorem q_200_31 : p_tb 200 31 = some (.ireturn, 1) := by decide +kernel
theorem q_200_32 : p_tb 200 32 = some (.iload_n 2, 1) := by decide +kernel
theorem q_200_33 : p_tb 200 33 = some (.tableswitch 101 0 5 #[39, 49, 59, 69, 79, 91], 39) := by decide +kernel
theorem q_200_72 : p_tb 200 72 = some (.aload_n 0, 1) := by decide +kernel
theorem q_200_73 : p_tb 200 73 = some (.getfield 33, 3) := by decide +kernel
theorem q_200_76 : p_tb 200 76 = some (.bipush 74, 2) := by decide +kernel
theorem q_200_78 : p_tb 200 78 = some (.iload_n 1, 1) := by decide +kernel
theorem q_200_79 : p_tb 200 79 = some (.iadd, 1) := by decide +kernel
theorem q_200_80 : p_tb 200 80 = some (.iaload, 1) := by decide +kernel
theorem q_200_81 : p_tb 200 81 = some (.ireturn, 1) := by decide +kernel
theorem q_200_82 : p_tb 200 82 = some (.aload_n 0, 1) := by decide +kernel
theorem q_200_83 : p_tb 200 83 = some (.getfield 33, 3) := by decide +kernel
theorem q_200_86 : p_tb 200 86 = some (.bipush 76, 2) := by decide +kernel
theorem q_200_88 : p_tb 200 88 = some (.iload_n 1, 1) := by decide +kernel
theorem q_200_89 : p_tb 200 89 = some (.iadd, 1) := by decide +kernel
theorem q_200_90 : p_tb 200 90 = some (.iaload, 1) := by decide +kernel
theorem q_200_91 : p_tb 200 91 = some (.ireturn, 1) := by decide +kernel
theorem q_200_92 : p_tb 200 92 = some (.aload_n 0, 1) := by decide +kernel
theorem q_200_93 : p_tb 200 93 = some (.getfield 33, 3) := by decide +kernel
theorem q_200_96 : p_tb 200 96 = some (.bipush 78, 2) := by decide +kernel
theorem q_200_98 : p_tb 200 98 = some (.iload_n 1, 1) := by decide +kernel
theorem q_200_99 : p_tb 200 99 = some (.iadd, 1) := by decide +kernel
theorem q_200_100 : p_tb 200 100 = some (.iaload, 1) := by decide +kernel
theorem q_200_101 : p_tb 200 101 = some (.ireturn, 1) := by decide +kernel
theorem q_200_102 : p_tb 200 102 = some (.aload_n 0, 1) := by decide +kernel
theorem q_200_103 : p_tb 200 103 = some (.getfield 33, 3) := by decide +kernel
theorem q_200_106 : p_tb 200 106 = some (.bipush 80, 2) := by decide +kernel
theorem q_200_108 : p_tb 200 108 = some (.iload_n 1, 1) := by decide +kernel
theorem q_200_109 : p_tb 200 109 = some (.iadd, 1) := by decide +kernel
theorem q_200_110 : p_tb 200 110 = some (.iaload, 1) := by decide +kernel
theorem q_200_111 : p_tb 200 111 = some (.ireturn, 1) := by decide +kernel
theorem q_200_112 : p_tb 200 112 = some (.aload_n 0, 1) := by decide +kernel
theorem q_200_113 : p_tb 200 113 = some (.getfield 33, 3) := by decide +kernel
theorem q_200_116 : p_tb 200 116 = some (.bipush 82, 2) := by decide +kernel
theorem q_200_118 : p_tb 200 118 = some (.iload_n 1, 1) := by decide +kernel
theorem q_200_119 : p_tb 200 119 = some (.iadd, 1) := by decide +kernel
theorem q_200_120 : p_tb 200 120 = some (.iaload, 1) := by decide +kernel
theorem q_200_121 : p_tb 200 121 = some (.iconst 1, 1) := by decide +kernel
theorem q_200_122 : p_tb 200 122 = some (.isub, 1) := by decide +kernel
theorem q_200_123 : p_tb 200 123 = some (.ireturn, 1) := by decide +kernel
theorem q_200_124 : p_tb 200 124 = some (.aload_n 0, 1) := by decide +kernel
theorem q_200_125 : p_tb 200 125 = some (.getfield 33, 3) := by decide +kernel
theorem q_200_128 : p_tb 200 128 = some (.bipush 84, 2) := by decide +kernel
theorem q_200_130 : p_tb 200 130 = some (.iload_n 1, 1) := by decide +kernel
theorem q_200_131 : p_tb 200 131 = some (.iadd, 1) := by decide +kernel
theorem q_200_132 : p_tb 200 132 = some (.iaload, 1) := by decide +kernel
theorem q_200_133 : p_tb 200 133 = some (.ireturn, 1) := by decide +kernel
theorem q_200_134 : p_tb 200 134 = some (.aload_n 0, 1) := by decide +kernel
theorem q_200_135 : p_tb 200 135 = some (.getfield 33, 3) := by decide +kernel
theorem q_200_138 : p_tb 200 138 = some (.bipush 86, 2) := by decide +kernel
theorem q_200_140 : p_tb 200 140 = some (.iload_n 1, 1) := by decide +kernel
theorem q_200_141 : p_tb 200 141 = some (.iadd, 1) := by decide +kernel
theorem q_200_142 : p_tb 200 142 = some (.iaload, 1) := by decide +kernel
theorem q_200_143 : p_tb 200 143 = some (.ireturn, 1) := by decide +kernel
theorem t_ft_196_33 : p_f2 p_ft (p_mK 196) 33 = some (11, 6) := by decide +kernel
theorem t_ft_200_33 : p_f2 p_ft (p_mK 200) 33 = some (11, 6) := by decide +kernel
theorem t_ms_196_176 : p_f2 p_ms (p_mK 196) 176 = some 166 := by decide +kernel
theorem t_ms_200_176 : p_f2 p_ms (p_mK 200) 176 = some 166 := by decide +kernel
theorem t_mv_200_247 : p_f2 p_mv (p_mK 200) 247 = some 161 := by decide +kernel
theorem t_mv_200_251 : p_f2 p_mv (p_mK 200) 251 = some 196 := by decide +kernel
theorem gB_42_80_81 : gB 42 80 81 0 600 := gB.of (by decide +kernel)
theorem gB_42_82_83 : gB 42 82 83 0 6 := gB.of (by decide +kernel)
theorem q_201_0 : p_tb 201 0 = some (.aload_n 0, 1) := by decide +kernel
theorem q_201_1 : p_tb 201 1 = some (.getfield 33, 3) := by decide +kernel
theorem q_201_4 : p_tb 201 4 = some (.bipush 80, 2) := by decide +kernel
theorem q_201_6 : p_tb 201 6 = some (.iaload, 1) := by decide +kernel
theorem q_201_7 : p_tb 201 7 = some (.aload_n 0, 1) := by decide +kernel
theorem q_201_8 : p_tb 201 8 = some (.getfield 33, 3) := by decide +kernel
theorem q_201_11 : p_tb 201 11 = some (.bipush 81, 2) := by decide +kernel
theorem q_201_13 : p_tb 201 13 = some (.iaload, 1) := by decide +kernel
theorem q_201_14 : p_tb 201 14 = some (.iadd, 1) := by decide +kernel
theorem q_201_15 : p_tb 201 15 = some (.ireturn, 1) := by decide +kernel
theorem t_ft_201_33 : p_f2 p_ft (p_mK 201) 33 = some (11, 6) := by decide +kernel
theorem q_202_0 : p_tb 202 0 = some (.aload_n 0, 1) := by decide +kernel
theorem q_202_1 : p_tb 202 1 = some (.iconst 0, 1) := by decide +kernel
theorem q_202_2 : p_tb 202 2 = some (.putfield 1, 3) := by decide +kernel
theorem q_202_5 : p_tb 202 5 = some (.iconst 0, 1) := by decide +kernel
theorem q_202_6 : p_tb 202 6 = some (.istore_n 2, 1) := by decide +kernel
theorem q_202_7 : p_tb 202 7 = some (.iconst 0, 1) := by decide +kernel
theorem q_202_8 : p_tb 202 8 = some (.istore_n 3, 1) := by decide +kernel
theorem q_202_9 : p_tb 202 9 = some (.iload_n 3, 1) := by decide +kernel
theorem q_202_10 : p_tb 202 10 = some (.aload_n 0, 1) := by decide +kernel
theorem q_202_11 : p_tb 202 11 = some (.getfield 33, 3) := by decide +kernel
theorem q_202_14 : p_tb 202 14 = some (.iconst 0, 1) := by decide +kernel
theorem q_202_15 : p_tb 202 15 = some (.iaload, 1) := by decide +kernel
theorem q_202_16 : p_tb 202 16 = some (.if_icmp .ge 23, 3) := by decide +kernel
theorem q_202_19 : p_tb 202 19 = some (.iload_n 2, 1) := by decide +kernel
theorem q_202_20 : p_tb 202 20 = some (.aload_n 0, 1) := by decide +kernel
theorem q_202_21 : p_tb 202 21 = some (.getfield 33, 3) := by decide +kernel
theorem q_202_24 : p_tb 202 24 = some (.bipush 48, 2) := by decide +kernel
theorem q_202_26 : p_tb 202 26 = some (.iload_n 3, 1) := by decide +kernel
theorem q_202_27 : p_tb 202 27 = some (.iadd, 1) := by decide +kernel
theorem q_202_28 : p_tb 202 28 = some (.iaload, 1) := by decide +kernel
theorem q_202_29 : p_tb 202 29 = some (.iload_n 3, 1) := by decide +kernel
theorem q_202_30 : p_tb 202 30 = some (.ishl, 1) := by decide +kernel
theorem q_202_31 : p_tb 202 31 = some (.ior, 1) := by decide +kernel
theorem q_202_32 : p_tb 202 32 = some (.istore_n 2, 1) := by decide +kernel
theorem q_202_33 : p_tb 202 33 = some (.iinc 3 1, 3) := by decide +kernel
theorem q_202_36 : p_tb 202 36 = some (.goto (-27), 3) := by decide +kernel
theorem q_202_39 : p_tb 202 39 = some (.iload_n 1, 1) := by decide +kernel
theorem q_202_40 : p_tb 202 40 = some (.tableswitch 83 0 5 #[40, 48, 58, 68, 76, 78], 40) := by decide +kernel
theorem q_202_80 : p_tb 202 80 = some (.aload_n 0, 1) := by decide +kernel
theorem q_202_81 : p_tb 202 81 = some (.getfield 33, 3) := by decide +kernel
theorem q_202_84 : p_tb 202 84 = some (.bipush 33, 2) := by decide +kernel
theorem q_202_86 : p_tb 202 86 = some (.iaload, 1) := by decide +kernel
theorem q_202_87 : p_tb 202 87 = some (.ireturn, 1) := by decide +kernel
theorem q_202_88 : p_tb 202 88 = some (.aload_n 0, 1) := by decide +kernel
theorem q_202_89 : p_tb 202 89 = some (.getfield 33, 3) := by decide +kernel
theorem q_202_92 : p_tb 202 92 = some (.bipush 34, 2) := by decide +kernel
theorem q_202_94 : p_tb 202 94 = some (.iaload, 1) := by decide +kernel
theorem q_202_95 : p_tb 202 95 = some (.iconst 1, 1) := by decide +kernel
theorem q_202_96 : p_tb 202 96 = some (.isub, 1) := by decide +kernel
theorem q_202_97 : p_tb 202 97 = some (.ireturn, 1) := by decide +kernel
theorem q_202_98 : p_tb 202 98 = some (.aload_n 0, 1) := by decide +kernel
theorem q_202_99 : p_tb 202 99 = some (.getfield 33, 3) := by decide +kernel
theorem q_202_102 : p_tb 202 102 = some (.bipush 35, 2) := by decide +kernel
theorem q_202_104 : p_tb 202 104 = some (.iaload, 1) := by decide +kernel
theorem q_202_105 : p_tb 202 105 = some (.iconst 1, 1) := by decide +kernel
theorem q_202_106 : p_tb 202 106 = some (.isub, 1) := by decide +kernel
theorem q_202_107 : p_tb 202 107 = some (.ireturn, 1) := by decide +kernel
theorem q_202_108 : p_tb 202 108 = some (.aload_n 0, 1) := by decide +kernel
theorem q_202_109 : p_tb 202 109 = some (.getfield 33, 3) := by decide +kernel
theorem q_202_112 : p_tb 202 112 = some (.bipush 54, 2) := by decide +kernel
theorem q_202_114 : p_tb 202 114 = some (.iaload, 1) := by decide +kernel
theorem q_202_115 : p_tb 202 115 = some (.ireturn, 1) := by decide +kernel
theorem q_202_116 : p_tb 202 116 = some (.iload_n 2, 1) := by decide +kernel
theorem q_202_117 : p_tb 202 117 = some (.ireturn, 1) := by decide +kernel
theorem q_202_118 : p_tb 202 118 = some (.aload_n 0, 1) := by decide +kernel
theorem q_202_119 : p_tb 202 119 = some (.invokevirtual 254, 3) := by decide +kernel
theorem q_202_122 : p_tb 202 122 = some (.ireturn, 1) := by decide +kernel
theorem q_202_123 : p_tb 202 123 = some (.iconst (-1), 1) := by decide +kernel
theorem q_202_124 : p_tb 202 124 = some (.ireturn, 1) := by decide +kernel
theorem t_ft_202_1 : p_f2 p_ft (p_mK 202) 1 = some (11, 0) := by decide +kernel
theorem t_ft_202_33 : p_f2 p_ft (p_mK 202) 33 = some (11, 6) := by decide +kernel
theorem t_mv_202_254 : p_f2 p_mv (p_mK 202) 254 = some 201 := by decide +kernel
theorem q_212_0 : p_tb 212 0 = some (.aload_n 0, 1) := by decide +kernel
theorem q_212_1 : p_tb 212 1 = some (.getfield 33, 3) := by decide +kernel
theorem q_212_4 : p_tb 212 4 = some (.bipush 48, 2) := by decide +kernel
theorem q_212_6 : p_tb 212 6 = some (.iload_n 1, 1) := by decide +kernel
theorem q_212_7 : p_tb 212 7 = some (.iadd, 1) := by decide +kernel
theorem q_212_8 : p_tb 212 8 = some (.iconst 1, 1) := by decide +kernel
theorem q_212_9 : p_tb 212 9 = some (.aload_n 0, 1) := by decide +kernel
theorem q_212_10 : p_tb 212 10 = some (.getfield 33, 3) := by decide +kernel
theorem q_212_13 : p_tb 212 13 = some (.bipush 48, 2) := by decide +kernel
theorem q_212_15 : p_tb 212 15 = some (.iload_n 1, 1) := by decide +kernel
theorem q_212_16 : p_tb 212 16 = some (.iadd, 1) := by decide +kernel
theorem q_212_17 : p_tb 212 17 = some (.iaload, 1) := by decide +kernel
theorem q_212_18 : p_tb 212 18 = some (.isub, 1) := by decide +kernel
theorem q_212_19 : p_tb 212 19 = some (.iastore, 1) := by decide +kernel
theorem q_212_20 : p_tb 212 20 = some (.return_, 1) := by decide +kernel
theorem t_ft_212_33 : p_f2 p_ft (p_mK 212) 33 = some (11, 6) := by decide +kernel
theorem q_213_0 : p_tb 213 0 = some (.aload_n 0, 1) := by decide +kernel
theorem q_213_1 : p_tb 213 1 = some (.getfield 33, 3) := by decide +kernel
theorem q_213_4 : p_tb 213 4 = some (.bipush 42, 2) := by decide +kernel
theorem q_213_6 : p_tb 213 6 = some (.iload_n 1, 1) := by decide +kernel
theorem q_213_7 : p_tb 213 7 = some (.iadd, 1) := by decide +kernel
theorem q_213_8 : p_tb 213 8 = some (.iconst 1, 1) := by decide +kernel
theorem q_213_9 : p_tb 213 9 = some (.aload_n 0, 1) := by decide +kernel
theorem q_213_10 : p_tb 213 10 = some (.getfield 33, 3) := by decide +kernel
theorem q_213_13 : p_tb 213 13 = some (.bipush 42, 2) := by decide +kernel
theorem q_213_15 : p_tb 213 15 = some (.iload_n 1, 1) := by decide +kernel
theorem q_213_16 : p_tb 213 16 = some (.iadd, 1) := by decide +kernel
theorem q_213_17 : p_tb 213 17 = some (.iaload, 1) := by decide +kernel
theorem q_213_18 : p_tb 213 18 = some (.isub, 1) := by decide +kernel
theorem q_213_19 : p_tb 213 19 = some (.iastore, 1) := by decide +kernel
theorem q_213_20 : p_tb 213 20 = some (.return_, 1) := by decide +kernel
theorem t_ft_213_33 : p_f2 p_ft (p_mK 213) 33 = some (11, 6) := by decide +kernel
theorem q_214_0 : p_tb 214 0 = some (.aload_n 0, 1) := by decide +kernel
theorem q_214_1 : p_tb 214 1 = some (.iconst 0, 1) := by decide +kernel
theorem q_214_2 : p_tb 214 2 = some (.putfield 1, 3) := by decide +kernel
theorem q_214_5 : p_tb 214 5 = some (.aload_n 0, 1) := by decide +kernel
theorem q_214_6 : p_tb 214 6 = some (.iload_n 1, 1) := by decide +kernel
theorem q_214_7 : p_tb 214 7 = some (.invokevirtual 241, 3) := by decide +kernel
theorem q_214_10 : p_tb 214 10 = some (.ifCond .ne 5, 3) := by decide +kernel
theorem q_214_13 : p_tb 214 13 = some (.iconst (-1), 1) := by decide +kernel
theorem q_214_14 : p_tb 214 14 = some (.ireturn, 1) := by decide +kernel
theorem q_214_15 : p_tb 214 15 = some (.aload_n 0, 1) := by decide +kernel
theorem q_214_16 : p_tb 214 16 = some (.getfield 33, 3) := by decide +kernel
theorem q_214_19 : p_tb 214 19 = some (.bipush 48, 2) := by decide +kernel
theorem q_214_21 : p_tb 214 21 = some (.iload_n 1, 1) := by decide +kernel
theorem q_214_22 : p_tb 214 22 = some (.iadd, 1) := by decide +kernel
theorem q_214_23 : p_tb 214 23 = some (.iaload, 1) := by decide +kernel
theorem q_214_24 : p_tb 214 24 = some (.ifCond .ne 5, 3) := by decide +kernel
theorem q_214_27 : p_tb 214 27 = some (.iconst 1, 1) := by decide +kernel
theorem q_214_28 : p_tb 214 28 = some (.ireturn, 1) := by decide +kernel
theorem q_214_29 : p_tb 214 29 = some (.aload_n 0, 1) := by decide +kernel
theorem q_214_30 : p_tb 214 30 = some (.invokevirtual 290, 3) := by decide +kernel
theorem q_214_33 : p_tb 214 33 = some (.aload_n 0, 1) := by decide +kernel
theorem q_214_34 : p_tb 214 34 = some (.iload_n 1, 1) := by decide +kernel
theorem q_214_35 : p_tb 214 35 = some (.invokevirtual 293, 3) := by decide +kernel
theorem q_214_38 : p_tb 214 38 = some (.iconst 0, 1) := by decide +kernel
theorem q_214_39 : p_tb 214 39 = some (.ireturn, 1) := by decide +kernel
theorem t_ft_214_1 : p_f2 p_ft (p_mK 214) 1 = some (11, 0) := by decide +kernel
theorem t_ft_214_33 : p_f2 p_ft (p_mK 214) 33 = some (11, 6) := by decide +kernel
theorem t_mv_214_241 : p_f2 p_mv (p_mK 214) 241 = some 195 := by decide +kernel
theorem t_mv_214_290 : p_f2 p_mv (p_mK 214) 290 = some 220 := by decide +kernel
theorem t_mv_214_293 : p_f2 p_mv (p_mK 214) 293 = some 212 := by decide +kernel
theorem q_215_0 : p_tb 215 0 = some (.aload_n 0, 1) := by decide +kernel
theorem q_215_1 : p_tb 215 1 = some (.iconst 0, 1) := by decide +kernel
theorem q_215_2 : p_tb 215 2 = some (.putfield 1, 3) := by decide +kernel
theorem q_215_5 : p_tb 215 5 = some (.aload_n 0, 1) := by decide +kernel
theorem q_215_6 : p_tb 215 6 = some (.iload_n 1, 1) := by decide +kernel
theorem q_215_7 : p_tb 215 7 = some (.invokevirtual 241, 3) := by decide +kernel
theorem q_215_10 : p_tb 215 10 = some (.ifCond .ne 5, 3) := by decide +kernel
theorem q_215_13 : p_tb 215 13 = some (.iconst (-1), 1) := by decide +kernel
theorem q_215_14 : p_tb 215 14 = some (.ireturn, 1) := by decide +kernel
theorem q_215_15 : p_tb 215 15 = some (.aload_n 0, 1) := by decide +kernel
theorem q_215_16 : p_tb 215 16 = some (.getfield 33, 3) := by decide +kernel
theorem q_215_19 : p_tb 215 19 = some (.bipush 48, 2) := by decide +kernel
theorem q_215_21 : p_tb 215 21 = some (.iload_n 1, 1) := by decide +kernel
theorem q_215_22 : p_tb 215 22 = some (.iadd, 1) := by decide +kernel
theorem q_215_23 : p_tb 215 23 = some (.iaload, 1) := by decide +kernel
theorem q_215_24 : p_tb 215 24 = some (.iconst 1, 1) := by decide +kernel
theorem q_215_25 : p_tb 215 25 = some (.if_icmp .ne 5, 3) := by decide +kernel
theorem q_215_28 : p_tb 215 28 = some (.iconst 1, 1) := by decide +kernel
theorem q_215_29 : p_tb 215 29 = some (.ireturn, 1) := by decide +kernel
theorem q_215_30 : p_tb 215 30 = some (.aload_n 0, 1) := by decide +kernel
theorem q_215_31 : p_tb 215 31 = some (.invokevirtual 290, 3) := by decide +kernel
theorem q_215_34 : p_tb 215 34 = some (.aload_n 0, 1) := by decide +kernel
theorem q_215_35 : p_tb 215 35 = some (.iload_n 1, 1) := by decide +kernel
theorem q_215_36 : p_tb 215 36 = some (.invokevirtual 293, 3) := by decide +kernel
theorem q_215_39 : p_tb 215 39 = some (.iconst 0, 1) := by decide +kernel
theorem q_215_40 : p_tb 215 40 = some (.ireturn, 1) := by decide +kernel
theorem t_ft_215_1 : p_f2 p_ft (p_mK 215) 1 = some (11, 0) := by decide +kernel
theorem t_ft_215_33 : p_f2 p_ft (p_mK 215) 33 = some (11, 6) := by decide +kernel
theorem t_mv_215_241 : p_f2 p_mv (p_mK 215) 241 = some 195 := by decide +kernel
theorem t_mv_215_290 : p_f2 p_mv (p_mK 215) 290 = some 220 := by decide +kernel
theorem t_mv_215_293 : p_f2 p_mv (p_mK 215) 293 = some 212 := by decide +kernel
theorem q_216_0 : p_tb 216 0 = some (.aload_n 0, 1) := by decide +kernel
theorem q_216_1 : p_tb 216 1 = some (.iconst 0, 1) := by decide +kernel
theorem q_216_2 : p_tb 216 2 = some (.putfield 1, 3) := by decide +kernel
theorem q_216_5 : p_tb 216 5 = some (.aload_n 0, 1) := by decide +kernel
theorem q_216_6 : p_tb 216 6 = some (.iload_n 1, 1) := by decide +kernel
theorem q_216_7 : p_tb 216 7 = some (.invokevirtual 241, 3) := by decide +kernel
theorem q_216_10 : p_tb 216 10 = some (.ifCond .ne 5, 3) := by decide +kernel
theorem q_216_13 : p_tb 216 13 = some (.iconst (-1), 1) := by decide +kernel
theorem q_216_14 : p_tb 216 14 = some (.ireturn, 1) := by decide +kernel
theorem q_216_15 : p_tb 216 15 = some (.aload_n 0, 1) := by decide +kernel
theorem q_216_16 : p_tb 216 16 = some (.invokevirtual 290, 3) := by decide +kernel
theorem q_216_19 : p_tb 216 19 = some (.aload_n 0, 1) := by decide +kernel
theorem q_216_20 : p_tb 216 20 = some (.iload_n 1, 1) := by decide +kernel
theorem q_216_21 : p_tb 216 21 = some (.invokevirtual 296, 3) := by decide +kernel
theorem q_216_24 : p_tb 216 24 = some (.iconst 0, 1) := by decide +kernel
theorem q_216_25 : p_tb 216 25 = some (.ireturn, 1) := by decide +kernel
theorem t_ft_216_1 : p_f2 p_ft (p_mK 216) 1 = some (11, 0) := by decide +kernel
theorem t_mv_216_241 : p_f2 p_mv (p_mK 216) 241 = some 195 := by decide +kernel
theorem t_mv_216_290 : p_f2 p_mv (p_mK 216) 290 = some 220 := by decide +kernel
theorem t_mv_216_296 : p_f2 p_mv (p_mK 216) 296 = some 213 := by decide +kernel
theorem q_217_0 : p_tb 217 0 = some (.aload_n 0, 1) := by decide +kernel
theorem q_217_1 : p_tb 217 1 = some (.iconst 0, 1) := by decide +kernel
theorem q_217_2 : p_tb 217 2 = some (.putfield 1, 3) := by decide +kernel
theorem q_217_5 : p_tb 217 5 = some (.aload_n 0, 1) := by decide +kernel
theorem q_217_6 : p_tb 217 6 = some (.iload_n 1, 1) := by decide +kernel
theorem q_217_7 : p_tb 217 7 = some (.invokevirtual 241, 3) := by decide +kernel
theorem q_217_10 : p_tb 217 10 = some (.ifCond .ne 5, 3) := by decide +kernel
theorem q_217_13 : p_tb 217 13 = some (.iconst (-1), 1) := by decide +kernel
theorem q_217_14 : p_tb 217 14 = some (.ireturn, 1) := by decide +kernel
theorem q_217_15 : p_tb 217 15 = some (.aload_n 0, 1) := by decide +kernel
theorem q_217_16 : p_tb 217 16 = some (.invokevirtual 290, 3) := by decide +kernel
theorem q_217_19 : p_tb 217 19 = some (.aload_n 0, 1) := by decide +kernel
theorem q_217_20 : p_tb 217 20 = some (.getfield 33, 3) := by decide +kernel
theorem q_217_23 : p_tb 217 23 = some (.bipush 35, 2) := by decide +kernel
theorem q_217_25 : p_tb 217 25 = some (.iload_n 1, 1) := by decide +kernel
theorem q_217_26 : p_tb 217 26 = some (.iconst 1, 1) := by decide +kernel
theorem q_217_27 : p_tb 217 27 = some (.iadd, 1) := by decide +kernel
theorem q_217_28 : p_tb 217 28 = some (.iastore, 1) := by decide +kernel
theorem q_217_29 : p_tb 217 29 = some (.iconst 0, 1) := by decide +kernel
theorem q_217_30 : p_tb 217 30 = some (.ireturn, 1) := by decide +kernel
theorem t_ft_217_1 : p_f2 p_ft (p_mK 217) 1 = some (11, 0) := by decide +kernel
theorem t_ft_217_33 : p_f2 p_ft (p_mK 217) 33 = some (11, 6) := by decide +kernel
theorem t_mv_217_241 : p_f2 p_mv (p_mK 217) 241 = some 195 := by decide +kernel
theorem t_mv_217_290 : p_f2 p_mv (p_mK 217) 290 = some 220 := by decide +kernel
theorem gN_35_35 : ∀ c, 35 ≤ c → c ≤ 35 → g_no c := fun c h1 h2 => by unfold g_no; omega
theorem gC_42_35_35 : gC 42 35 35 0 6 := gC.of (by decide +kernel)
theorem q_218_0 : p_tb 218 0 = some (.aload_n 0, 1) := by decide +kernel
theorem q_218_1 : p_tb 218 1 = some (.iconst 0, 1) := by decide +kernel
theorem q_218_2 : p_tb 218 2 = some (.putfield 1, 3) := by decide +kernel
theorem q_218_5 : p_tb 218 5 = some (.aload_n 0, 1) := by decide +kernel
theorem q_218_6 : p_tb 218 6 = some (.iload_n 1, 1) := by decide +kernel
theorem q_218_7 : p_tb 218 7 = some (.invokevirtual 241, 3) := by decide +kernel
theorem q_218_10 : p_tb 218 10 = some (.ifCond .ne 5, 3) := by decide +kernel
theorem q_218_13 : p_tb 218 13 = some (.iconst (-1), 1) := by decide +kernel
theorem q_218_14 : p_tb 218 14 = some (.ireturn, 1) := by decide +kernel
theorem q_218_15 : p_tb 218 15 = some (.aload_n 0, 1) := by decide +kernel
theorem q_218_16 : p_tb 218 16 = some (.getfield 33, 3) := by decide +kernel
theorem q_218_19 : p_tb 218 19 = some (.bipush 34, 2) := by decide +kernel
theorem q_218_21 : p_tb 218 21 = some (.iaload, 1) := by decide +kernel
theorem q_218_22 : p_tb 218 22 = some (.iload_n 1, 1) := by decide +kernel
theorem q_218_23 : p_tb 218 23 = some (.iconst 1, 1) := by decide +kernel
theorem q_218_24 : p_tb 218 24 = some (.iadd, 1) := by decide +kernel
theorem q_218_25 : p_tb 218 25 = some (.if_icmp .ne 5, 3) := by decide +kernel
theorem q_218_28 : p_tb 218 28 = some (.iconst 1, 1) := by decide +kernel
theorem q_218_29 : p_tb 218 29 = some (.ireturn, 1) := by decide +kernel
theorem q_218_30 : p_tb 218 30 = some (.aload_n 0, 1) := by decide +kernel
theorem q_218_31 : p_tb 218 31 = some (.invokevirtual 290, 3) := by decide +kernel
theorem q_218_34 : p_tb 218 34 = some (.aload_n 0, 1) := by decide +kernel
theorem q_218_35 : p_tb 218 35 = some (.getfield 33, 3) := by decide +kernel
theorem q_218_38 : p_tb 218 38 = some (.bipush 34, 2) := by decide +kernel
theorem q_218_40 : p_tb 218 40 = some (.iload_n 1, 1) := by decide +kernel
theorem q_218_41 : p_tb 218 41 = some (.iconst 1, 1) := by decide +kernel
theorem q_218_42 : p_tb 218 42 = some (.iadd, 1) := by decide +kernel
theorem q_218_43 : p_tb 218 43 = some (.iastore, 1) := by decide +kernel
theorem q_218_44 : p_tb 218 44 = some (.iconst 0, 1) := by decide +kernel
theorem q_218_45 : p_tb 218 45 = some (.ireturn, 1) := by decide +kernel
theorem t_ft_218_1 : p_f2 p_ft (p_mK 218) 1 = some (11, 0) := by decide +kernel
theorem t_ft_218_33 : p_f2 p_ft (p_mK 218) 33 = some (11, 6) := by decide +kernel
theorem t_mv_218_241 : p_f2 p_mv (p_mK 218) 241 = some 195 := by decide +kernel
theorem t_mv_218_290 : p_f2 p_mv (p_mK 218) 290 = some 220 := by decide +kernel
theorem q_219_0 : p_tb 219 0 = some (.aload_n 0, 1) := by decide +kernel
theorem q_219_1 : p_tb 219 1 = some (.iconst 0, 1) := by decide +kernel
theorem q_219_2 : p_tb 219 2 = some (.putfield 1, 3) := by decide +kernel
theorem q_219_5 : p_tb 219 5 = some (.iload_n 1, 1) := by decide +kernel
theorem q_219_6 : p_tb 219 6 = some (.iconst 1, 1) := by decide +kernel
theorem q_219_7 : p_tb 219 7 = some (.bipush 60, 2) := by decide +kernel
theorem q_219_9 : p_tb 219 9 = some (.invokestatic 176, 3) := by decide +kernel
theorem q_219_12 : p_tb 219 12 = some (.ifCond .ne 5, 3) := by decide +kernel
theorem q_219_15 : p_tb 219 15 = some (.iconst (-1), 1) := by decide +kernel
theorem q_219_16 : p_tb 219 16 = some (.ireturn, 1) := by decide +kernel
theorem q_219_17 : p_tb 219 17 = some (.aload_n 0, 1) := by decide +kernel
theorem q_219_18 : p_tb 219 18 = some (.getfield 33, 3) := by decide +kernel
theorem q_219_21 : p_tb 219 21 = some (.bipush 33, 2) := by decide +kernel
theorem q_219_23 : p_tb 219 23 = some (.iaload, 1) := by decide +kernel
theorem q_219_24 : p_tb 219 24 = some (.sipush 600, 3) := by decide +kernel
theorem q_219_27 : p_tb 219 27 = some (.if_icmp .ne 5, 3) := by decide +kernel
theorem q_219_30 : p_tb 219 30 = some (.iconst 0, 1) := by decide +kernel
theorem q_219_31 : p_tb 219 31 = some (.ireturn, 1) := by decide +kernel
theorem q_219_32 : p_tb 219 32 = some (.aload_n 0, 1) := by decide +kernel
theorem q_219_33 : p_tb 219 33 = some (.invokevirtual 290, 3) := by decide +kernel
theorem q_219_36 : p_tb 219 36 = some (.aload_n 0, 1) := by decide +kernel
theorem q_219_37 : p_tb 219 37 = some (.iload_n 1, 1) := by decide +kernel
theorem q_219_38 : p_tb 219 38 = some (.invokevirtual 299, 3) := by decide +kernel
theorem q_219_41 : p_tb 219 41 = some (.ireturn, 1) := by decide +kernel
theorem t_ft_219_1 : p_f2 p_ft (p_mK 219) 1 = some (11, 0) := by decide +kernel
theorem t_ft_219_33 : p_f2 p_ft (p_mK 219) 33 = some (11, 6) := by decide +kernel
theorem t_ms_219_176 : p_f2 p_ms (p_mK 219) 176 = some 166 := by decide +kernel
theorem t_mv_219_290 : p_f2 p_mv (p_mK 219) 290 = some 220 := by decide +kernel
theorem t_mv_219_299 : p_f2 p_mv (p_mK 219) 299 = some 211 := by decide +kernel
theorem q_198_0 : p_tb 198 0 = some (.aload_n 0, 1) := by decide +kernel
theorem q_198_1 : p_tb 198 1 = some (.getfield 33, 3) := by decide +kernel
theorem q_198_4 : p_tb 198 4 = some (.bipush 36, 2) := by decide +kernel
theorem q_198_6 : p_tb 198 6 = some (.iload_n 1, 1) := by decide +kernel
theorem q_198_7 : p_tb 198 7 = some (.iadd, 1) := by decide +kernel
theorem q_198_8 : p_tb 198 8 = some (.iaload, 1) := by decide +kernel
theorem q_198_9 : p_tb 198 9 = some (.aload_n 0, 1) := by decide +kernel
theorem q_198_10 : p_tb 198 10 = some (.getfield 33, 3) := by decide +kernel
theorem q_198_13 : p_tb 198 13 = some (.bipush 36, 2) := by decide +kernel
theorem q_198_15 : p_tb 198 15 = some (.iload_n 2, 1) := by decide +kernel
theorem q_198_16 : p_tb 198 16 = some (.iadd, 1) := by decide +kernel
theorem q_198_17 : p_tb 198 17 = some (.iaload, 1) := by decide +kernel
theorem q_198_18 : p_tb 198 18 = some (.invokestatic 244, 3) := by decide +kernel
theorem q_198_21 : p_tb 198 21 = some (.ireturn, 1) := by decide +kernel
theorem q_224_0 : p_tb 224 0 = some (.aload_n 0, 1) := by decide +kernel
theorem q_224_1 : p_tb 224 1 = some (.iconst 0, 1) := by decide +kernel
theorem q_224_2 : p_tb 224 2 = some (.putfield 1, 3) := by decide +kernel
theorem q_224_5 : p_tb 224 5 = some (.aload_n 0, 1) := by decide +kernel
theorem q_224_6 : p_tb 224 6 = some (.iload_n 1, 1) := by decide +kernel
theorem q_224_7 : p_tb 224 7 = some (.invokevirtual 241, 3) := by decide +kernel
theorem q_224_10 : p_tb 224 10 = some (.ifCond .eq 20, 3) := by decide +kernel
theorem q_224_13 : p_tb 224 13 = some (.aload_n 0, 1) := by decide +kernel
theorem q_224_14 : p_tb 224 14 = some (.iload_n 2, 1) := by decide +kernel
theorem q_224_15 : p_tb 224 15 = some (.invokevirtual 241, 3) := by decide +kernel
theorem q_224_18 : p_tb 224 18 = some (.ifCond .eq 12, 3) := by decide +kernel
theorem q_224_21 : p_tb 224 21 = some (.aload_n 0, 1) := by decide +kernel
theorem q_224_22 : p_tb 224 22 = some (.iload_n 1, 1) := by decide +kernel
theorem q_224_23 : p_tb 224 23 = some (.iload_n 2, 1) := by decide +kernel
theorem q_224_24 : p_tb 224 24 = some (.invokevirtual 302, 3) := by decide +kernel
theorem q_224_27 : p_tb 224 27 = some (.goto 4, 3) := by decide +kernel
theorem q_224_30 : p_tb 224 30 = some (.iconst (-1), 1) := by decide +kernel
theorem q_224_31 : p_tb 224 31 = some (.ireturn, 1) := by decide +kernel
theorem t_ft_198_33 : p_f2 p_ft (p_mK 198) 33 = some (11, 6) := by decide +kernel
theorem t_ft_224_1 : p_f2 p_ft (p_mK 224) 1 = some (11, 0) := by decide +kernel
theorem t_ms_198_244 : p_f2 p_ms (p_mK 198) 244 = some 170 := by decide +kernel
theorem t_mv_224_241 : p_f2 p_mv (p_mK 224) 241 = some 195 := by decide +kernel
theorem t_mv_224_302 : p_f2 p_mv (p_mK 224) 302 = some 198 := by decide +kernel
theorem q_197_0 : p_tb 197 0 = some (.aload_n 0, 1) := by decide +kernel
theorem q_197_1 : p_tb 197 1 = some (.iload_n 1, 1) := by decide +kernel
theorem q_197_2 : p_tb 197 2 = some (.invokevirtual 241, 3) := by decide +kernel
theorem q_197_5 : p_tb 197 5 = some (.ifCond .eq 20, 3) := by decide +kernel
theorem q_197_8 : p_tb 197 8 = some (.aload_n 0, 1) := by decide +kernel
theorem q_197_9 : p_tb 197 9 = some (.iload_n 2, 1) := by decide +kernel
theorem q_197_10 : p_tb 197 10 = some (.invokevirtual 241, 3) := by decide +kernel
theorem q_197_13 : p_tb 197 13 = some (.ifCond .eq 12, 3) := by decide +kernel
theorem q_197_16 : p_tb 197 16 = some (.iload_n 1, 1) := by decide +kernel
theorem q_197_17 : p_tb 197 17 = some (.iload_n 2, 1) := by decide +kernel
theorem q_197_18 : p_tb 197 18 = some (.if_icmp .eq 7, 3) := by decide +kernel
theorem q_197_21 : p_tb 197 21 = some (.iconst 1, 1) := by decide +kernel
theorem q_197_22 : p_tb 197 22 = some (.goto 4, 3) := by decide +kernel
theorem q_197_25 : p_tb 197 25 = some (.iconst 0, 1) := by decide +kernel
theorem q_197_26 : p_tb 197 26 = some (.ireturn, 1) := by decide +kernel
theorem q_225_0 : p_tb 225 0 = some (.aload_n 0, 1) := by decide +kernel
theorem q_225_1 : p_tb 225 1 = some (.iconst 0, 1) := by decide +kernel
theorem q_225_2 : p_tb 225 2 = some (.putfield 1, 3) := by decide +kernel
theorem q_225_5 : p_tb 225 5 = some (.aload_n 0, 1) := by decide +kernel
theorem q_225_6 : p_tb 225 6 = some (.iload_n 1, 1) := by decide +kernel
theorem q_225_7 : p_tb 225 7 = some (.iload_n 2, 1) := by decide +kernel
theorem q_225_8 : p_tb 225 8 = some (.invokevirtual 305, 3) := by decide +kernel
theorem q_225_11 : p_tb 225 11 = some (.ifCond .ne 5, 3) := by decide +kernel
theorem q_225_14 : p_tb 225 14 = some (.iconst (-1), 1) := by decide +kernel
theorem q_225_15 : p_tb 225 15 = some (.ireturn, 1) := by decide +kernel
theorem q_225_16 : p_tb 225 16 = some (.aload_n 0, 1) := by decide +kernel
theorem q_225_17 : p_tb 225 17 = some (.invokevirtual 308, 3) := by decide +kernel
theorem q_225_20 : p_tb 225 20 = some (.iconst 0, 1) := by decide +kernel
theorem q_225_21 : p_tb 225 21 = some (.istore_n 3, 1) := by decide +kernel
theorem q_225_22 : p_tb 225 22 = some (.iconst 1, 1) := by decide +kernel
theorem q_225_23 : p_tb 225 23 = some (.istore 4, 2) := by decide +kernel
theorem q_225_25 : p_tb 225 25 = some (.iload 4, 2) := by decide +kernel
theorem q_225_27 : p_tb 225 27 = some (.ifCond .eq 47, 3) := by decide +kernel
theorem q_225_30 : p_tb 225 30 = some (.aload_n 0, 1) := by decide +kernel
theorem q_225_31 : p_tb 225 31 = some (.iload_n 1, 1) := by decide +kernel
theorem q_225_32 : p_tb 225 32 = some (.iload_n 2, 1) := by decide +kernel
theorem q_225_33 : p_tb 225 33 = some (.invokevirtual 302, 3) := by decide +kernel
theorem q_225_36 : p_tb 225 36 = some (.aload_n 0, 1) := by decide +kernel
theorem q_225_37 : p_tb 225 37 = some (.getfield 33, 3) := by decide +kernel
theorem q_225_40 : p_tb 225 40 = some (.iconst 3, 1) := by decide +kernel
theorem q_225_41 : p_tb 225 41 = some (.iaload, 1) := by decide +kernel
theorem q_225_42 : p_tb 225 42 = some (.if_icmp .le 32, 3) := by decide +kernel
theorem q_225_45 : p_tb 225 45 = some (.iload_n 3, 1) := by decide +kernel
theorem q_225_46 : p_tb 225 46 = some (.sipush 300, 3) := by decide +kernel
theorem q_225_49 : p_tb 225 49 = some (.if_icmp .ge 16, 3) := by decide +kernel
theorem q_225_52 : p_tb 225 52 = some (.aload_n 0, 1) := by decide +kernel
theorem q_225_53 : p_tb 225 53 = some (.iconst 1, 1) := by decide +kernel
theorem q_225_54 : p_tb 225 54 = some (.invokevirtual 299, 3) := by decide +kernel
theorem q_225_57 : p_tb 225 57 = some (.iconst 1, 1) := by decide +kernel
theorem q_225_58 : p_tb 225 58 = some (.if_icmp .ne 7, 3) := by decide +kernel
theorem q_225_61 : p_tb 225 61 = some (.iconst 1, 1) := by decide +kernel
theorem q_225_62 : p_tb 225 62 = some (.goto 4, 3) := by decide +kernel
theorem q_225_65 : p_tb 225 65 = some (.iconst 0, 1) := by decide +kernel
theorem q_225_66 : p_tb 225 66 = some (.istore 4, 2) := by decide +kernel
theorem q_225_68 : p_tb 225 68 = some (.iinc 3 1, 3) := by decide +kernel
theorem q_225_71 : p_tb 225 71 = some (.goto (-46), 3) := by decide +kernel
theorem q_225_74 : p_tb 225 74 = some (.iload 4, 2) := by decide +kernel
theorem q_225_76 : p_tb 225 76 = some (.ifCond .eq 13, 3) := by decide +kernel
theorem q_225_79 : p_tb 225 79 = some (.aload_n 0, 1) := by decide +kernel
theorem q_225_80 : p_tb 225 80 = some (.getfield 33, 3) := by decide +kernel
theorem q_225_83 : p_tb 225 83 = some (.bipush 33, 2) := by decide +kernel
theorem q_225_85 : p_tb 225 85 = some (.iaload, 1) := by decide +kernel
theorem q_225_86 : p_tb 225 86 = some (.goto 4, 3) := by decide +kernel
theorem q_225_89 : p_tb 225 89 = some (.iconst (-1), 1) := by decide +kernel
theorem q_225_90 : p_tb 225 90 = some (.istore 5, 2) := by decide +kernel
theorem q_225_92 : p_tb 225 92 = some (.aload_n 0, 1) := by decide +kernel
theorem q_225_93 : p_tb 225 93 = some (.invokevirtual 311, 3) := by decide +kernel
theorem q_225_96 : p_tb 225 96 = some (.iload 5, 2) := by decide +kernel
theorem q_225_98 : p_tb 225 98 = some (.ireturn, 1) := by decide +kernel
theorem t_ft_225_1 : p_f2 p_ft (p_mK 225) 1 = some (11, 0) := by decide +kernel
theorem t_ft_225_33 : p_f2 p_ft (p_mK 225) 33 = some (11, 6) := by decide +kernel
theorem t_mv_197_241 : p_f2 p_mv (p_mK 197) 241 = some 195 := by decide +kernel
theorem t_mv_225_299 : p_f2 p_mv (p_mK 225) 299 = some 211 := by decide +kernel
theorem t_mv_225_302 : p_f2 p_mv (p_mK 225) 302 = some 198 := by decide +kernel
theorem t_mv_225_305 : p_f2 p_mv (p_mK 225) 305 = some 197 := by decide +kernel
theorem t_mv_225_308 : p_f2 p_mv (p_mK 225) 308 = some 222 := by decide +kernel
theorem t_mv_225_311 : p_f2 p_mv (p_mK 225) 311 = some 223 := by decide +kernel
theorem q_226_0 : p_tb 226 0 = some (.aload_n 0, 1) := by decide +kernel
theorem q_226_1 : p_tb 226 1 = some (.iconst 0, 1) := by decide +kernel
theorem q_226_2 : p_tb 226 2 = some (.putfield 1, 3) := by decide +kernel
theorem q_226_5 : p_tb 226 5 = some (.aload_n 0, 1) := by decide +kernel
theorem q_226_6 : p_tb 226 6 = some (.iload_n 1, 1) := by decide +kernel
theorem q_226_7 : p_tb 226 7 = some (.invokevirtual 251, 3) := by decide +kernel
theorem q_226_10 : p_tb 226 10 = some (.ifCond .eq 13, 3) := by decide +kernel
theorem q_226_13 : p_tb 226 13 = some (.iload_n 2, 1) := by decide +kernel
theorem q_226_14 : p_tb 226 14 = some (.iconst 1, 1) := by decide +kernel
theorem q_226_15 : p_tb 226 15 = some (.bipush 60, 2) := by decide +kernel
theorem q_226_17 : p_tb 226 17 = some (.invokestatic 176, 3) := by decide +kernel
theorem q_226_20 : p_tb 226 20 = some (.ifCond .ne 5, 3) := by decide +kernel
theorem q_226_23 : p_tb 226 23 = some (.iconst (-1), 1) := by decide +kernel
theorem q_226_24 : p_tb 226 24 = some (.ireturn, 1) := by decide +kernel
theorem q_226_25 : p_tb 226 25 = some (.aload_n 0, 1) := by decide +kernel
theorem q_226_26 : p_tb 226 26 = some (.invokevirtual 308, 3) := by decide +kernel
theorem q_226_29 : p_tb 226 29 = some (.aload_n 0, 1) := by decide +kernel
theorem q_226_30 : p_tb 226 30 = some (.getfield 33, 3) := by decide +kernel
theorem q_226_33 : p_tb 226 33 = some (.bipush 78, 2) := by decide +kernel
theorem q_226_35 : p_tb 226 35 = some (.iload_n 1, 1) := by decide +kernel
theorem q_226_36 : p_tb 226 36 = some (.iadd, 1) := by decide +kernel
theorem q_226_37 : p_tb 226 37 = some (.iaload, 1) := by decide +kernel
theorem q_226_38 : p_tb 226 38 = some (.istore_n 3, 1) := by decide +kernel
theorem q_226_39 : p_tb 226 39 = some (.aload_n 0, 1) := by decide +kernel
theorem q_226_40 : p_tb 226 40 = some (.iload_n 2, 1) := by decide +kernel
theorem q_226_41 : p_tb 226 41 = some (.invokevirtual 299, 3) := by decide +kernel
theorem q_226_44 : p_tb 226 44 = some (.pop, 1) := by decide +kernel
theorem q_226_45 : p_tb 226 45 = some (.aload_n 0, 1) := by decide +kernel
theorem q_226_46 : p_tb 226 46 = some (.getfield 33, 3) := by decide +kernel
theorem q_226_49 : p_tb 226 49 = some (.bipush 78, 2) := by decide +kernel
theorem q_226_51 : p_tb 226 51 = some (.iload_n 1, 1) := by decide +kernel
theorem q_226_52 : p_tb 226 52 = some (.iadd, 1) := by decide +kernel
theorem q_226_53 : p_tb 226 53 = some (.iaload, 1) := by decide +kernel
theorem q_226_54 : p_tb 226 54 = some (.iload_n 3, 1) := by decide +kernel
theorem q_226_55 : p_tb 226 55 = some (.isub, 1) := by decide +kernel
theorem q_226_56 : p_tb 226 56 = some (.istore 4, 2) := by decide +kernel
theorem q_226_58 : p_tb 226 58 = some (.aload_n 0, 1) := by decide +kernel
theorem q_226_59 : p_tb 226 59 = some (.invokevirtual 311, 3) := by decide +kernel
theorem q_226_62 : p_tb 226 62 = some (.iload 4, 2) := by decide +kernel
theorem q_226_64 : p_tb 226 64 = some (.ireturn, 1) := by decide +kernel
theorem t_ft_226_1 : p_f2 p_ft (p_mK 226) 1 = some (11, 0) := by decide +kernel
theorem t_ft_226_33 : p_f2 p_ft (p_mK 226) 33 = some (11, 6) := by decide +kernel
theorem t_ms_226_176 : p_f2 p_ms (p_mK 226) 176 = some 166 := by decide +kernel
theorem t_mv_226_251 : p_f2 p_mv (p_mK 226) 251 = some 196 := by decide +kernel
theorem t_mv_226_299 : p_f2 p_mv (p_mK 226) 299 = some 211 := by decide +kernel
theorem t_mv_226_308 : p_f2 p_mv (p_mK 226) 308 = some 222 := by decide +kernel
theorem t_mv_226_311 : p_f2 p_mv (p_mK 226) 311 = some 223 := by decide +kernel
theorem q_227_0 : p_tb 227 0 = some (.aload_n 0, 1) := by decide +kernel
theorem q_227_1 : p_tb 227 1 = some (.iconst 0, 1) := by decide +kernel
theorem q_227_2 : p_tb 227 2 = some (.putfield 1, 3) := by decide +kernel
theorem q_227_5 : p_tb 227 5 = some (.aload_n 0, 1) := by decide +kernel
theorem q_227_6 : p_tb 227 6 = some (.iload_n 1, 1) := by decide +kernel
theorem q_227_7 : p_tb 227 7 = some (.invokevirtual 251, 3) := by decide +kernel
theorem q_227_10 : p_tb 227 10 = some (.ifCond .eq 13, 3) := by decide +kernel
theorem q_227_13 : p_tb 227 13 = some (.iload_n 2, 1) := by decide +kernel
theorem q_227_14 : p_tb 227 14 = some (.iconst 1, 1) := by decide +kernel
theorem q_227_15 : p_tb 227 15 = some (.bipush 60, 2) := by decide +kernel
theorem q_227_17 : p_tb 227 17 = some (.invokestatic 176, 3) := by decide +kernel
theorem q_227_20 : p_tb 227 20 = some (.ifCond .ne 5, 3) := by decide +kernel
theorem q_227_23 : p_tb 227 23 = some (.iconst (-1), 1) := by decide +kernel
theorem q_227_24 : p_tb 227 24 = some (.ireturn, 1) := by decide +kernel
theorem q_227_25 : p_tb 227 25 = some (.aload_n 0, 1) := by decide +kernel
theorem q_227_26 : p_tb 227 26 = some (.invokevirtual 308, 3) := by decide +kernel
theorem q_227_29 : p_tb 227 29 = some (.aload_n 0, 1) := by decide +kernel
theorem q_227_30 : p_tb 227 30 = some (.getfield 33, 3) := by decide +kernel
theorem q_227_33 : p_tb 227 33 = some (.bipush 80, 2) := by decide +kernel
theorem q_227_35 : p_tb 227 35 = some (.iload_n 1, 1) := by decide +kernel
theorem q_227_36 : p_tb 227 36 = some (.iadd, 1) := by decide +kernel
theorem q_227_37 : p_tb 227 37 = some (.iaload, 1) := by decide +kernel
theorem q_227_38 : p_tb 227 38 = some (.istore_n 3, 1) := by decide +kernel
theorem q_227_39 : p_tb 227 39 = some (.aload_n 0, 1) := by decide +kernel
theorem q_227_40 : p_tb 227 40 = some (.iload_n 2, 1) := by decide +kernel
theorem q_227_41 : p_tb 227 41 = some (.invokevirtual 299, 3) := by decide +kernel
theorem q_227_44 : p_tb 227 44 = some (.pop, 1) := by decide +kernel
theorem q_227_45 : p_tb 227 45 = some (.aload_n 0, 1) := by decide +kernel
theorem q_227_46 : p_tb 227 46 = some (.getfield 33, 3) := by decide +kernel
theorem q_227_49 : p_tb 227 49 = some (.bipush 80, 2) := by decide +kernel
theorem q_227_51 : p_tb 227 51 = some (.iload_n 1, 1) := by decide +kernel
theorem q_227_52 : p_tb 227 52 = some (.iadd, 1) := by decide +kernel
theorem q_227_53 : p_tb 227 53 = some (.iaload, 1) := by decide +kernel
theorem q_227_54 : p_tb 227 54 = some (.iload_n 3, 1) := by decide +kernel
theorem q_227_55 : p_tb 227 55 = some (.isub, 1) := by decide +kernel
theorem q_227_56 : p_tb 227 56 = some (.istore 4, 2) := by decide +kernel
theorem q_227_58 : p_tb 227 58 = some (.aload_n 0, 1) := by decide +kernel
theorem q_227_59 : p_tb 227 59 = some (.invokevirtual 311, 3) := by decide +kernel
theorem q_227_62 : p_tb 227 62 = some (.iload 4, 2) := by decide +kernel
theorem q_227_64 : p_tb 227 64 = some (.ireturn, 1) := by decide +kernel
theorem t_ft_227_1 : p_f2 p_ft (p_mK 227) 1 = some (11, 0) := by decide +kernel
theorem t_ft_227_33 : p_f2 p_ft (p_mK 227) 33 = some (11, 6) := by decide +kernel
theorem t_ms_227_176 : p_f2 p_ms (p_mK 227) 176 = some 166 := by decide +kernel
theorem t_mv_227_251 : p_f2 p_mv (p_mK 227) 251 = some 196 := by decide +kernel
theorem t_mv_227_299 : p_f2 p_mv (p_mK 227) 299 = some 211 := by decide +kernel
theorem t_mv_227_308 : p_f2 p_mv (p_mK 227) 308 = some 222 := by decide +kernel
theorem t_mv_227_311 : p_f2 p_mv (p_mK 227) 311 = some 223 := by decide +kernel
theorem q_228_0 : p_tb 228 0 = some (.aload_n 0, 1) := by decide +kernel
theorem q_228_1 : p_tb 228 1 = some (.iconst 0, 1) := by decide +kernel
theorem q_228_2 : p_tb 228 2 = some (.putfield 1, 3) := by decide +kernel
theorem q_228_5 : p_tb 228 5 = some (.aload_n 0, 1) := by decide +kernel
theorem q_228_6 : p_tb 228 6 = some (.iload_n 1, 1) := by decide +kernel
theorem q_228_7 : p_tb 228 7 = some (.invokevirtual 251, 3) := by decide +kernel
theorem q_228_10 : p_tb 228 10 = some (.ifCond .eq 11, 3) := by decide +kernel
theorem q_228_13 : p_tb 228 13 = some (.aload_n 0, 1) := by decide +kernel
theorem q_228_14 : p_tb 228 14 = some (.iload_n 1, 1) := by decide +kernel
theorem q_228_15 : p_tb 228 15 = some (.invokevirtual 274, 3) := by decide +kernel
theorem q_228_18 : p_tb 228 18 = some (.goto 4, 3) := by decide +kernel
theorem q_228_21 : p_tb 228 21 = some (.iconst (-1), 1) := by decide +kernel
theorem q_228_22 : p_tb 228 22 = some (.ireturn, 1) := by decide +kernel
theorem t_ft_228_1 : p_f2 p_ft (p_mK 228) 1 = some (11, 0) := by decide +kernel
theorem t_mv_228_251 : p_f2 p_mv (p_mK 228) 251 = some 196 := by decide +kernel
theorem t_mv_228_274 : p_f2 p_mv (p_mK 228) 274 = some 206 := by decide +kernel
theorem q_229_0 : p_tb 229 0 = some (.aload_n 0, 1) := by decide +kernel
theorem q_229_1 : p_tb 229 1 = some (.iconst 0, 1) := by decide +kernel
theorem q_229_2 : p_tb 229 2 = some (.putfield 1, 3) := by decide +kernel
theorem q_229_5 : p_tb 229 5 = some (.aload_n 0, 1) := by decide +kernel
theorem q_229_6 : p_tb 229 6 = some (.iload_n 1, 1) := by decide +kernel
theorem q_229_7 : p_tb 229 7 = some (.invokevirtual 241, 3) := by decide +kernel
theorem q_229_10 : p_tb 229 10 = some (.ifCond .eq 28, 3) := by decide +kernel
theorem q_229_13 : p_tb 229 13 = some (.aload_n 0, 1) := by decide +kernel
theorem q_229_14 : p_tb 229 14 = some (.iload_n 2, 1) := by decide +kernel
theorem q_229_15 : p_tb 229 15 = some (.invokevirtual 241, 3) := by decide +kernel
theorem q_229_18 : p_tb 229 18 = some (.ifCond .eq 20, 3) := by decide +kernel
theorem q_229_21 : p_tb 229 21 = some (.aload_n 0, 1) := by decide +kernel
theorem q_229_22 : p_tb 229 22 = some (.getfield 33, 3) := by decide +kernel
theorem q_229_25 : p_tb 229 25 = some (.bipush 100, 2) := by decide +kernel
theorem q_229_27 : p_tb 229 27 = some (.bipush 6, 2) := by decide +kernel
theorem q_229_29 : p_tb 229 29 = some (.iload_n 1, 1) := by decide +kernel
theorem q_229_30 : p_tb 229 30 = some (.imul, 1) := by decide +kernel
theorem q_229_31 : p_tb 229 31 = some (.iadd, 1) := by decide +kernel
theorem q_229_32 : p_tb 229 32 = some (.iload_n 2, 1) := by decide +kernel
theorem q_229_33 : p_tb 229 33 = some (.iadd, 1) := by decide +kernel
theorem q_229_34 : p_tb 229 34 = some (.iaload, 1) := by decide +kernel
theorem q_229_35 : p_tb 229 35 = some (.goto 4, 3) := by decide +kernel
theorem q_229_38 : p_tb 229 38 = some (.iconst (-1), 1) := by decide +kernel
theorem q_229_39 : p_tb 229 39 = some (.ireturn, 1) := by decide +kernel
theorem t_ft_229_1 : p_f2 p_ft (p_mK 229) 1 = some (11, 0) := by decide +kernel
theorem t_ft_229_33 : p_f2 p_ft (p_mK 229) 33 = some (11, 6) := by decide +kernel
theorem t_mv_229_241 : p_f2 p_mv (p_mK 229) 241 = some 195 := by decide +kernel
theorem q_230_0 : p_tb 230 0 = some (.aload_n 0, 1) := by decide +kernel
theorem q_230_1 : p_tb 230 1 = some (.iconst 0, 1) := by decide +kernel
theorem q_230_2 : p_tb 230 2 = some (.putfield 1, 3) := by decide +kernel
theorem q_230_5 : p_tb 230 5 = some (.iconst (-1), 1) := by decide +kernel
theorem q_230_6 : p_tb 230 6 = some (.istore_n 1, 1) := by decide +kernel
theorem q_230_7 : p_tb 230 7 = some (.iconst 0, 1) := by decide +kernel
theorem q_230_8 : p_tb 230 8 = some (.istore_n 2, 1) := by decide +kernel
theorem q_230_9 : p_tb 230 9 = some (.iconst 0, 1) := by decide +kernel
theorem q_230_10 : p_tb 230 10 = some (.istore_n 3, 1) := by decide +kernel
theorem q_230_11 : p_tb 230 11 = some (.iload_n 3, 1) := by decide +kernel
theorem q_230_12 : p_tb 230 12 = some (.aload_n 0, 1) := by decide +kernel
theorem q_230_13 : p_tb 230 13 = some (.getfield 33, 3) := by decide +kernel
theorem q_230_16 : p_tb 230 16 = some (.iconst 0, 1) := by decide +kernel
theorem q_230_17 : p_tb 230 17 = some (.iaload, 1) := by decide +kernel
theorem q_230_18 : p_tb 230 18 = some (.if_icmp .ge 84, 3) := by decide +kernel
theorem q_230_21 : p_tb 230 21 = some (.iload_n 3, 1) := by decide +kernel
theorem q_230_22 : p_tb 230 22 = some (.iconst 1, 1) := by decide +kernel
theorem q_230_23 : p_tb 230 23 = some (.iadd, 1) := by decide +kernel
theorem q_230_24 : p_tb 230 24 = some (.istore 4, 2) := by decide +kernel
theorem q_230_26 : p_tb 230 26 = some (.iload 4, 2) := by decide +kernel
theorem q_230_28 : p_tb 230 28 = some (.aload_n 0, 1) := by decide +kernel
theorem q_230_29 : p_tb 230 29 = some (.getfield 33, 3) := by decide +kernel
theorem q_230_32 : p_tb 230 32 = some (.iconst 0, 1) := by decide +kernel
theorem q_230_33 : p_tb 230 33 = some (.iaload, 1) := by decide +kernel
theorem q_230_34 : p_tb 230 34 = some (.if_icmp .ge 62, 3) := by decide +kernel
theorem q_230_37 : p_tb 230 37 = some (.aload_n 0, 1) := by decide +kernel
theorem q_230_38 : p_tb 230 38 = some (.getfield 33, 3) := by decide +kernel
theorem q_230_41 : p_tb 230 41 = some (.bipush 100, 2) := by decide +kernel
theorem q_230_43 : p_tb 230 43 = some (.bipush 6, 2) := by decide +kernel
theorem q_230_45 : p_tb 230 45 = some (.iload_n 3, 1) := by decide +kernel
theorem q_230_46 : p_tb 230 46 = some (.imul, 1) := by decide +kernel
theorem q_230_47 : p_tb 230 47 = some (.iadd, 1) := by decide +kernel
theorem q_230_48 : p_tb 230 48 = some (.iload 4, 2) := by decide +kernel
theorem q_230_50 : p_tb 230 50 = some (.iadd, 1) := by decide +kernel
theorem q_230_51 : p_tb 230 51 = some (.iaload, 1) := by decide +kernel
theorem q_230_52 : p_tb 230 52 = some (.aload_n 0, 1) := by decide +kernel
theorem q_230_53 : p_tb 230 53 = some (.getfield 33, 3) := by decide +kernel
theorem q_230_56 : p_tb 230 56 = some (.bipush 100, 2) := by decide +kernel
theorem q_230_58 : p_tb 230 58 = some (.bipush 6, 2) := by decide +kernel
theorem q_230_60 : p_tb 230 60 = some (.iload 4, 2) := by decide +kernel
theorem q_230_62 : p_tb 230 62 = some (.imul, 1) := by decide +kernel
theorem q_230_63 : p_tb 230 63 = some (.iadd, 1) := by decide +kernel
theorem q_230_64 : p_tb 230 64 = some (.iload_n 3, 1) := by decide +kernel
theorem q_230_65 : p_tb 230 65 = some (.iadd, 1) := by decide +kernel
theorem q_230_66 : p_tb 230 66 = some (.iaload, 1) := by decide +kernel
theorem q_230_67 : p_tb 230 67 = some (.iadd, 1) := by decide +kernel
theorem q_230_68 : p_tb 230 68 = some (.istore 5, 2) := by decide +kernel
theorem q_230_70 : p_tb 230 70 = some (.iload 5, 2) := by decide +kernel
theorem q_230_72 : p_tb 230 72 = some (.iload_n 2, 1) := by decide +kernel
theorem q_230_73 : p_tb 230 73 = some (.if_icmp .gt 6, 3) := by decide +kernel
theorem q_230_76 : p_tb 230 76 = some (.goto 14, 3) := by decide +kernel
theorem q_230_79 : p_tb 230 79 = some (.iload 5, 2) := by decide +kernel
theorem q_230_81 : p_tb 230 81 = some (.istore_n 2, 1) := by decide +kernel
theorem q_230_82 : p_tb 230 82 = some (.bipush 10, 2) := by decide +kernel
theorem q_230_84 : p_tb 230 84 = some (.iload_n 3, 1) := by decide +kernel
theorem q_230_85 : p_tb 230 85 = some (.imul, 1) := by decide +kernel
theorem q_230_86 : p_tb 230 86 = some (.iload 4, 2) := by decide +kernel
theorem q_230_88 : p_tb 230 88 = some (.iadd, 1) := by decide +kernel
theorem q_230_89 : p_tb 230 89 = some (.istore_n 1, 1) := by decide +kernel
theorem q_230_90 : p_tb 230 90 = some (.iinc 4 1, 3) := by decide +kernel
theorem q_230_93 : p_tb 230 93 = some (.goto (-67), 3) := by decide +kernel
theorem q_230_96 : p_tb 230 96 = some (.iinc 3 1, 3) := by decide +kernel
theorem q_230_99 : p_tb 230 99 = some (.goto (-88), 3) := by decide +kernel
theorem q_230_102 : p_tb 230 102 = some (.iload_n 1, 1) := by decide +kernel
theorem q_230_103 : p_tb 230 103 = some (.ireturn, 1) := by decide +kernel
theorem t_ft_230_1 : p_f2 p_ft (p_mK 230) 1 = some (11, 0) := by decide +kernel
theorem t_ft_230_33 : p_f2 p_ft (p_mK 230) 33 = some (11, 6) := by decide +kernel
theorem q_241_0 : p_tb 241 0 = some (.aload_n 0, 1) := by decide +kernel
theorem q_241_1 : p_tb 241 1 = some (.iconst 0, 1) := by decide +kernel
theorem q_241_2 : p_tb 241 2 = some (.putfield 1, 3) := by decide +kernel
theorem q_241_5 : p_tb 241 5 = some (.aload_n 0, 1) := by decide +kernel
theorem q_241_6 : p_tb 241 6 = some (.invokevirtual 308, 3) := by decide +kernel
theorem q_241_9 : p_tb 241 9 = some (.iconst (-1), 1) := by decide +kernel
theorem q_241_10 : p_tb 241 10 = some (.istore_n 1, 1) := by decide +kernel
theorem q_241_11 : p_tb 241 11 = some (.iconst 0, 1) := by decide +kernel
theorem q_241_12 : p_tb 241 12 = some (.istore_n 2, 1) := by decide +kernel
theorem q_241_13 : p_tb 241 13 = some (.iload_n 2, 1) := by decide +kernel
theorem q_241_14 : p_tb 241 14 = some (.sipush 200, 3) := by decide +kernel
theorem q_241_17 : p_tb 241 17 = some (.if_icmp .ge 42, 3) := by decide +kernel
theorem q_241_20 : p_tb 241 20 = some (.iload_n 1, 1) := by decide +kernel
theorem q_241_21 : p_tb 241 21 = some (.ifCond .ge 38, 3) := by decide +kernel
theorem q_241_24 : p_tb 241 24 = some (.aload_n 0, 1) := by decide +kernel
theorem q_241_25 : p_tb 241 25 = some (.iconst 1, 1) := by decide +kernel
theorem q_241_26 : p_tb 241 26 = some (.invokevirtual 299, 3) := by decide +kernel
theorem q_241_29 : p_tb 241 29 = some (.iconst 1, 1) := by decide +kernel
theorem q_241_30 : p_tb 241 30 = some (.if_icmp .ne 29, 3) := by decide +kernel
theorem q_241_33 : p_tb 241 33 = some (.aload_n 0, 1) := by decide +kernel
theorem q_241_34 : p_tb 241 34 = some (.getfield 33, 3) := by decide +kernel
theorem q_241_37 : p_tb 241 37 = some (.bipush 54, 2) := by decide +kernel
theorem q_241_39 : p_tb 241 39 = some (.iaload, 1) := by decide +kernel
theorem q_241_40 : p_tb 241 40 = some (.ifCond .eq 13, 3) := by decide +kernel
theorem q_241_43 : p_tb 241 43 = some (.aload_n 0, 1) := by decide +kernel
theorem q_241_44 : p_tb 241 44 = some (.getfield 33, 3) := by decide +kernel
theorem q_241_47 : p_tb 241 47 = some (.bipush 33, 2) := by decide +kernel
theorem q_241_49 : p_tb 241 49 = some (.iaload, 1) := by decide +kernel
theorem q_241_50 : p_tb 241 50 = some (.iconst 1, 1) := by decide +kernel
theorem q_241_51 : p_tb 241 51 = some (.isub, 1) := by decide +kernel
theorem q_241_52 : p_tb 241 52 = some (.istore_n 1, 1) := by decide +kernel
theorem q_241_53 : p_tb 241 53 = some (.iinc 2 1, 3) := by decide +kernel
theorem q_241_56 : p_tb 241 56 = some (.goto (-43), 3) := by decide +kernel
theorem q_241_59 : p_tb 241 59 = some (.aload_n 0, 1) := by decide +kernel
theorem q_241_60 : p_tb 241 60 = some (.invokevirtual 311, 3) := by decide +kernel
theorem q_241_63 : p_tb 241 63 = some (.iload_n 1, 1) := by decide +kernel
theorem q_241_64 : p_tb 241 64 = some (.ireturn, 1) := by decide +kernel
theorem t_ft_241_1 : p_f2 p_ft (p_mK 241) 1 = some (11, 0) := by decide +kernel
theorem t_ft_241_33 : p_f2 p_ft (p_mK 241) 33 = some (11, 6) := by decide +kernel
theorem t_mv_241_299 : p_f2 p_mv (p_mK 241) 299 = some 211 := by decide +kernel
theorem t_mv_241_308 : p_f2 p_mv (p_mK 241) 308 = some 222 := by decide +kernel
theorem t_mv_241_311 : p_f2 p_mv (p_mK 241) 311 = some 223 := by decide +kernel
theorem q_242_0 : p_tb 242 0 = some (.iconst (-1), 1) := by decide +kernel
theorem q_242_1 : p_tb 242 1 = some (.istore_n 3, 1) := by decide +kernel
theorem q_242_2 : p_tb 242 2 = some (.aload_n 0, 1) := by decide +kernel
theorem q_242_3 : p_tb 242 3 = some (.iconst 0, 1) := by decide +kernel
theorem q_242_4 : p_tb 242 4 = some (.putfield 340, 3) := by decide +kernel
theorem q_242_7 : p_tb 242 7 = some (.aload_n 0, 1) := by decide +kernel
theorem q_242_8 : p_tb 242 8 = some (.invokevirtual 308, 3) := by decide +kernel
theorem q_242_11 : p_tb 242 11 = some (.iconst 0, 1) := by decide +kernel
theorem q_242_12 : p_tb 242 12 = some (.istore 4, 2) := by decide +kernel
theorem q_242_14 : p_tb 242 14 = some (.iload 4, 2) := by decide +kernel
theorem q_242_16 : p_tb 242 16 = some (.bipush 30, 2) := by decide +kernel
theorem q_242_18 : p_tb 242 18 = some (.if_icmp .gt 102, 3) := by decide +kernel
theorem q_242_21 : p_tb 242 21 = some (.aload_n 0, 1) := by decide +kernel
theorem q_242_22 : p_tb 242 22 = some (.getfield 33, 3) := by decide +kernel
theorem q_242_25 : p_tb 242 25 = some (.bipush 78, 2) := by decide +kernel
theorem q_242_27 : p_tb 242 27 = some (.iload_n 2, 1) := by decide +kernel
theorem q_242_28 : p_tb 242 28 = some (.iadd, 1) := by decide +kernel
theorem q_242_29 : p_tb 242 29 = some (.iaload, 1) := by decide +kernel
theorem q_242_30 : p_tb 242 30 = some (.istore 5, 2) := by decide +kernel
theorem q_242_32 : p_tb 242 32 = some (.iconst 0, 1) := by decide +kernel
theorem q_242_33 : p_tb 242 33 = some (.istore 6, 2) := by decide +kernel
theorem q_242_35 : p_tb 242 35 = some (.iload 6, 2) := by decide +kernel
theorem q_242_37 : p_tb 242 37 = some (.bipush 40, 2) := by decide +kernel
theorem q_242_39 : p_tb 242 39 = some (.if_icmp .ge 32, 3) := by decide +kernel
theorem q_242_42 : p_tb 242 42 = some (.iload 6, 2) := by decide +kernel
theorem q_242_44 : p_tb 242 44 = some (.iload 4, 2) := by decide +kernel
theorem q_242_46 : p_tb 242 46 = some (.if_icmp .ne 13, 3) := by decide +kernel
theorem q_242_49 : p_tb 242 49 = some (.aload_n 0, 1) := by decide +kernel
theorem q_242_50 : p_tb 242 50 = some (.getfield 33, 3) := by decide +kernel
theorem q_242_53 : p_tb 242 53 = some (.bipush 48, 2) := by decide +kernel
theorem q_242_55 : p_tb 242 55 = some (.iload_n 1, 1) := by decide +kernel
theorem q_242_56 : p_tb 242 56 = some (.iadd, 1) := by decide +kernel
theorem q_242_57 : p_tb 242 57 = some (.iconst 0, 1) := by decide +kernel
theorem q_242_58 : p_tb 242 58 = some (.iastore, 1) := by decide +kernel
theorem q_242_59 : p_tb 242 59 = some (.aload_n 0, 1) := by decide +kernel
theorem q_242_60 : p_tb 242 60 = some (.iconst 1, 1) := by decide +kernel
theorem q_242_61 : p_tb 242 61 = some (.invokevirtual 299, 3) := by decide +kernel
theorem q_242_64 : p_tb 242 64 = some (.pop, 1) := by decide +kernel
theorem q_242_65 : p_tb 242 65 = some (.iinc 6 1, 3) := by decide +kernel
theorem q_242_68 : p_tb 242 68 = some (.goto (-33), 3) := by decide +kernel
theorem q_242_71 : p_tb 242 71 = some (.aload_n 0, 1) := by decide +kernel
theorem q_242_72 : p_tb 242 72 = some (.getfield 33, 3) := by decide +kernel
theorem q_242_75 : p_tb 242 75 = some (.bipush 78, 2) := by decide +kernel
theorem q_242_77 : p_tb 242 77 = some (.iload_n 2, 1) := by decide +kernel
theorem q_242_78 : p_tb 242 78 = some (.iadd, 1) := by decide +kernel
theorem q_242_79 : p_tb 242 79 = some (.iaload, 1) := by decide +kernel
theorem q_242_80 : p_tb 242 80 = some (.iload 5, 2) := by decide +kernel
theorem q_242_82 : p_tb 242 82 = some (.isub, 1) := by decide +kernel
theorem q_242_83 : p_tb 242 83 = some (.istore 6, 2) := by decide +kernel
theorem q_242_85 : p_tb 242 85 = some (.aload_n 0, 1) := by decide +kernel
theorem q_242_86 : p_tb 242 86 = some (.invokevirtual 311, 3) := by decide +kernel
theorem q_242_89 : p_tb 242 89 = some (.iload_n 3, 1) := by decide +kernel
theorem q_242_90 : p_tb 242 90 = some (.ifCond .lt 15, 3) := by decide +kernel
theorem q_242_93 : p_tb 242 93 = some (.iload 6, 2) := by decide +kernel
theorem q_242_95 : p_tb 242 95 = some (.aload_n 0, 1) := by decide +kernel
theorem q_242_96 : p_tb 242 96 = some (.getfield 340, 3) := by decide +kernel
theorem q_242_99 : p_tb 242 99 = some (.if_icmp .lt 6, 3) := by decide +kernel
theorem q_242_102 : p_tb 242 102 = some (.goto 12, 3) := by decide +kernel
theorem q_242_105 : p_tb 242 105 = some (.iload 4, 2) := by decide +kernel
theorem q_242_107 : p_tb 242 107 = some (.istore_n 3, 1) := by decide +kernel
theorem q_242_108 : p_tb 242 108 = some (.aload_n 0, 1) := by decide +kernel
theorem q_242_109 : p_tb 242 109 = some (.iload 6, 2) := by decide +kernel
theorem q_242_111 : p_tb 242 111 = some (.putfield 340, 3) := by decide +kernel
theorem q_242_114 : p_tb 242 114 = some (.iinc 4 1, 3) := by decide +kernel
theorem q_242_117 : p_tb 242 117 = some (.goto (-103), 3) := by decide +kernel
theorem q_242_120 : p_tb 242 120 = some (.iload_n 3, 1) := by decide +kernel
theorem q_242_121 : p_tb 242 121 = some (.ireturn, 1) := by decide +kernel
theorem t_ft_242_33 : p_f2 p_ft (p_mK 242) 33 = some (11, 6) := by decide +kernel
theorem t_ft_242_340 : p_f2 p_ft (p_mK 242) 340 = some (11, 27) := by decide +kernel
theorem t_mv_242_299 : p_f2 p_mv (p_mK 242) 299 = some 211 := by decide +kernel
theorem t_mv_242_308 : p_f2 p_mv (p_mK 242) 308 = some 222 := by decide +kernel
theorem t_mv_242_311 : p_f2 p_mv (p_mK 242) 311 = some 223 := by decide +kernel
theorem q_243_0 : p_tb 243 0 = some (.aload_n 0, 1) := by decide +kernel
theorem q_243_1 : p_tb 243 1 = some (.iconst 0, 1) := by decide +kernel
theorem q_243_2 : p_tb 243 2 = some (.putfield 1, 3) := by decide +kernel
theorem q_243_5 : p_tb 243 5 = some (.aload_n 0, 1) := by decide +kernel
theorem q_243_6 : p_tb 243 6 = some (.iload_n 1, 1) := by decide +kernel
theorem q_243_7 : p_tb 243 7 = some (.invokevirtual 241, 3) := by decide +kernel
theorem q_243_10 : p_tb 243 10 = some (.ifCond .eq 20, 3) := by decide +kernel
theorem q_243_13 : p_tb 243 13 = some (.aload_n 0, 1) := by decide +kernel
theorem q_243_14 : p_tb 243 14 = some (.iload_n 2, 1) := by decide +kernel
theorem q_243_15 : p_tb 243 15 = some (.invokevirtual 251, 3) := by decide +kernel
theorem q_243_18 : p_tb 243 18 = some (.ifCond .eq 12, 3) := by decide +kernel
theorem q_243_21 : p_tb 243 21 = some (.aload_n 0, 1) := by decide +kernel
theorem q_243_22 : p_tb 243 22 = some (.iload_n 1, 1) := by decide +kernel
theorem q_243_23 : p_tb 243 23 = some (.iload_n 2, 1) := by decide +kernel
theorem q_243_24 : p_tb 243 24 = some (.invokevirtual 343, 3) := by decide +kernel
theorem q_243_27 : p_tb 243 27 = some (.goto 4, 3) := by decide +kernel
theorem q_243_30 : p_tb 243 30 = some (.iconst (-1), 1) := by decide +kernel
theorem q_243_31 : p_tb 243 31 = some (.ireturn, 1) := by decide +kernel
theorem t_ft_243_1 : p_f2 p_ft (p_mK 243) 1 = some (11, 0) := by decide +kernel
theorem t_mv_243_241 : p_f2 p_mv (p_mK 243) 241 = some 195 := by decide +kernel
theorem t_mv_243_251 : p_f2 p_mv (p_mK 243) 251 = some 196 := by decide +kernel
theorem t_mv_243_343 : p_f2 p_mv (p_mK 243) 343 = some 242 := by decide +kernel
theorem q_244_0 : p_tb 244 0 = some (.aload_n 0, 1) := by decide +kernel
theorem q_244_1 : p_tb 244 1 = some (.iconst 0, 1) := by decide +kernel
theorem q_244_2 : p_tb 244 2 = some (.putfield 1, 3) := by decide +kernel
theorem q_244_5 : p_tb 244 5 = some (.aload_n 0, 1) := by decide +kernel
theorem q_244_6 : p_tb 244 6 = some (.iload_n 1, 1) := by decide +kernel
theorem q_244_7 : p_tb 244 7 = some (.invokevirtual 241, 3) := by decide +kernel
theorem q_244_10 : p_tb 244 10 = some (.ifCond .eq 11, 3) := by decide +kernel
theorem q_244_13 : p_tb 244 13 = some (.aload_n 0, 1) := by decide +kernel
theorem q_244_14 : p_tb 244 14 = some (.iload_n 2, 1) := by decide +kernel
theorem q_244_15 : p_tb 244 15 = some (.invokevirtual 251, 3) := by decide +kernel
theorem q_244_18 : p_tb 244 18 = some (.ifCond .ne 5, 3) := by decide +kernel
theorem q_244_21 : p_tb 244 21 = some (.iconst (-1), 1) := by decide +kernel
theorem q_244_22 : p_tb 244 22 = some (.ireturn, 1) := by decide +kernel
theorem q_244_23 : p_tb 244 23 = some (.aload_n 0, 1) := by decide +kernel
theorem q_244_24 : p_tb 244 24 = some (.iload_n 1, 1) := by decide +kernel
theorem q_244_25 : p_tb 244 25 = some (.iload_n 2, 1) := by decide +kernel
theorem q_244_26 : p_tb 244 26 = some (.invokevirtual 343, 3) := by decide +kernel
theorem q_244_29 : p_tb 244 29 = some (.pop, 1) := by decide +kernel
theorem q_244_30 : p_tb 244 30 = some (.aload_n 0, 1) := by decide +kernel
theorem q_244_31 : p_tb 244 31 = some (.getfield 340, 3) := by decide +kernel
theorem q_244_34 : p_tb 244 34 = some (.ireturn, 1) := by decide +kernel
theorem t_ft_244_1 : p_f2 p_ft (p_mK 244) 1 = some (11, 0) := by decide +kernel
theorem t_ft_244_340 : p_f2 p_ft (p_mK 244) 340 = some (11, 27) := by decide +kernel
theorem t_mv_244_241 : p_f2 p_mv (p_mK 244) 241 = some 195 := by decide +kernel
theorem t_mv_244_251 : p_f2 p_mv (p_mK 244) 251 = some 196 := by decide +kernel
theorem t_mv_244_343 : p_f2 p_mv (p_mK 244) 343 = some 242 := by decide +kernel
theorem g_p940 {M : pM} (I : InvB M) : 0 ≤ o_i (M 294) 4 ∧ o_i (M 294) 4 ≤ 940 := by
  obtain ⟨x, f, h, k⟩ := gF_40_4.int kd_294 I (by decide)
  rw [o_i_of f]; exact ⟨h, k⟩
section LSWP
variable {G : pG} {al : Bool} {d j mc ms : Nat} {Kr : pK} {pc : Nat} {lv : List (Nat × Value)} {st : List Value} {N : Nat} {M : pM} {ce sl : Nat}
theorem PW.lsw {dflt : Int} {ps : Array (Int × Int)} {len : Nat} {x : Int32} {off : Int} {tgt : Nat} (h : p_tb j pc = some (.lookupswitch dflt ps, len)) (hp : (ps.toList.zip (ps.toList.drop 1)).all (fun (a, next) => a.1 < next.1) = true) (ho : Op.lookupswitch.offset ps.toList dflt x.toInt = off) (ht : (pc : Int) + off = (tgt : Int)) (k : PW G al d j mc ms Kr tgt lv st N M ce sl) : PW G al d j mc ms Kr pc lv (.int x :: st) N M ce sl := by
  intro p l e R s m args below meth c H locs ls Q hC hret hR hS hl
  exact lv_lookup hC.1 hC.2.1 (p_tb_ok h) hp ho ht (k p l e R s m args below meth c H locs ls Q hC hret hR hS hl)
end LSWP
/-- what the beach wrote of the row s, so far as i -/
def gz (M : pM) (i : Int) : Prop := ∀ z : Nat, 33 ≤ z → (z : Int) < i → (o_a (M 296) z).toInt = 0
theorem gz.zero {M : pM} {i : Int} (h : i ≤ 33) : gz M i := fun z h1 h2 => absurd h2 (by omega)
theorem gz.step {M M1 : pM} {q : Nat} {i i' : Int} {x : Int32} (h : gz M i) (U : gVv M M1 296 q) (hq : q = i.toNat) (hv : o_a (M1 296) q = x) (hx : i < 33 ∨ x.toInt = 0) (hi : 0 ≤ i) (hi' : i' = i + 1) : gz M1 i' := fun z h1 h2 => by
  by_cases e : z = q
  · rw [e, hv]; omega
  · rw [U.2 z e]; exact h z h1 (by omega)
theorem gz.sa {M : pM} {i : Int} (h : gz M i) (hi : 397 ≤ i) : g_sa (o_a (M 296)) := by
  refine ⟨⟨?_, ?_⟩, ?_, ?_⟩
  · show (o_a (M 296) 80).toInt ≤ (o_a (M 296) 33).toInt; rw [h 80 (by decide) (by omega), h 33 (by decide) (by omega)]; decide
  · show (o_a (M 296) 81).toInt ≤ (o_a (M 296) 33).toInt; rw [h 81 (by decide) (by omega), h 33 (by decide) (by omega)]; decide
  · rw [h 216 (by decide) (by omega)]; exact fun e => nomatch e
  · rw [h 216 (by decide) (by omega)]; exact fun j hj => absurd hj (by omega)
theorem c_X12_beach (G : pG) (Kr : pK) (M : pM) (I : Iv gTT M)  (hK : ∀ (x : Int32) (M1 : pM), Iv gTT M1 → Fr [40, 42, 43, 45] M M1 → (gLz M1) → Kr.1 (some (.int x)) 311 M1) : PW G false 6 193 (p_mc 193) (p_msl 193) Kr 0 (lv_args 0 [.ref 294]) [] 311 M 0 0 := by
  have F : Fr [40, 42, 43, 45] M M := Fr.refl
  refine PW.aload_n q_193_0 rfl ?_
  refine PW.cI q_193_1 (by decide) fun c1 hc1 => ?_
  refine PW.pI q_193_2 (Or.inl t_ft_193_1) gF_40_0 gP_40_0 kd_294 Stab0 I (by decide) rfl (n_lo _) (n_hi _) fun M2 IM2 fM2 UM2 => ?_
  have FM2 := Fr.pu F UM2.1 kd_294 (rfl : List.contains [40, 42, 43, 45] 40 = true)
  have tr3 := UM2.i (c := 294) (k := 4) (Or.inr (by decide))
  have tr4 := UM2.i (c := 294) (k := 11) (Or.inr (by decide))
  refine PW.aload_n q_193_5 rfl ?_
  refine PW.cS q_193_6 (by decide) fun c5 hc5 => ?_
  refine PW.cV (as := [_]) (rest := []) q_193_9 t_mv_193_226 kd_294 IM2.1 (by decide) rfl (by decide) rfl rfl (Nat.le_of_ble_eq_true rfl) (Nat.le_of_ble_eq_true rfl) (by decide) (by decide) ?_
  refine PW.up (by decide) (c_X12_taken (gTT) (Stab0) G _ M2 IM2 c5 fun M6 IM6 GM6 TM6 => ?_)
  have FM6 := Fr.trans FM2 GM6 (rfl)
  refine PW.aload_n q_193_12 rfl ?_
  refine PW.cI q_193_13 (by decide) fun c7 hc7 => ?_
  refine PW.pI q_193_14 (Or.inl t_ft_193_161) gF_40_15 gP_40_15 kd_294 Stab0 IM6 (by decide) rfl (n_lo _) (n_hi _) fun M8 IM8 fM8 UM8 => ?_
  have FM8 := Fr.pu FM6 UM8.1 kd_294 (rfl : List.contains [40, 42, 43, 45] 40 = true)
  have tr9 := UM8.i (c := 294) (k := 4) (Or.inr (by decide))
  have tr10 := UM8.i (c := 294) (k := 11) (Or.inr (by decide))
  refine PW.aload_n q_193_17 rfl ?_
  refine PW.cI q_193_18 (by decide) fun c11 hc11 => ?_
  refine PW.pI q_193_19 (Or.inl t_ft_193_229) gF_40_19 gP_40_19 kd_294 Stab0 IM8 (by decide) rfl (n_lo _) (n_hi _) fun M12 IM12 fM12 UM12 => ?_
  have FM12 := Fr.pu FM8 UM12.1 kd_294 (rfl : List.contains [40, 42, 43, 45] 40 = true)
  have tr13 := UM12.i (c := 294) (k := 4) (Or.inr (by decide))
  have tr14 := UM12.i (c := 294) (k := 11) (Or.inr (by decide))
  refine PW.aload_n q_193_22 rfl ?_
  refine PW.cI q_193_23 (by decide) fun c15 hc15 => ?_
  refine PW.pI q_193_24 (Or.inl t_ft_193_195) gF_40_20 gP_40_20 kd_294 Stab0 IM12 (by decide) rfl (n_lo _) (n_hi _) fun M16 IM16 fM16 UM16 => ?_
  have FM16 := Fr.pu FM12 UM16.1 kd_294 (rfl : List.contains [40, 42, 43, 45] 40 = true)
  have tr17 := UM16.i (c := 294) (k := 4) (Or.inr (by decide))
  have tr18 := UM16.i (c := 294) (k := 11) (Or.inr (by decide))
  refine PW.cI q_193_27 (by decide) fun c19 hc19 => ?_
  refine PW.istore_n q_193_28 (by decide) ?_
  have L193_29_20 : ∀ (n : Nat) (ML193_29_20 : pM) (v21 : Int32), Iv (gTT) ML193_29_20 → Fr [40, 42, 43, 45] M ML193_29_20 → 0 ≤ v21.toInt → v21.toInt ≤ 33 → gLz ML193_29_20 → (33 - v21.toInt).toNat = n → PW G false 6 193 (p_mc 193) (p_msl 193) Kr 29 [(0, .ref 294), (1, .int v21)] [] 311 ML193_29_20 0 0 := by
    intro n
    induction n using Nat.strongRecOn with
    | ind n ih_L193_29_20 =>
    intro ML193_29_20 v21 IML193_29_20 FML193_29_20 hbL193_29_200 hbL193_29_201 hbL193_29_202 hmL193_29_20
    refine PW.iload_n q_193_29 rfl ?_
    refine PW.cB q_193_30 (by decide) fun c22 hc22 => ?_
    refine PW.jc_ge q_193_32 rfl (fun h23 => ?_) (fun h23 => ?_)
    · skip
      refine PW.aload_n q_193_48 rfl ?_
      refine PW.gR 297 q_193_49 (Or.inl t_ft_193_37) gF_40_7 kd_294 IML193_29_20.1 (by decide) rfl ?_
      refine PW.cI q_193_52 (by decide) fun c24 hc24 => ?_
      refine PW.cS q_193_53 (by decide) fun c25 hc25 => ?_
      refine PW.wI q_193_56 gA_43 kd_297 Stab0 IML193_29_20 (by decide) rfl gC_43_2_2 (by decide) (by omega) (by omega) (n_lo _) (n_hi _) fun M26 IM26 fM26 UM26 => ?_
      have FM26 := Fr.pu FML193_29_20 UM26.1 kd_297 (rfl : List.contains [40, 42, 43, 45] 43 = true)
      have tr27 : o_i (M26 294) 4 = o_i (ML193_29_20 294) 4 := by rw [UM26.1 294 (g_ne kd_294 kd_297 (by decide))]
      have tr28 : o_i (M26 294) 11 = o_i (ML193_29_20 294) 11 := by rw [UM26.1 294 (g_ne kd_294 kd_297 (by decide))]
      refine PW.aload_n q_193_57 rfl ?_
      refine PW.gR 297 q_193_58 (Or.inl t_ft_193_37) gF_40_7 kd_294 IM26.1 (by decide) rfl ?_
      refine PW.cI q_193_61 (by decide) fun c29 hc29 => ?_
      refine PW.cI q_193_62 (by decide) fun c30 hc30 => ?_
      refine PW.wI q_193_63 gA_43 kd_297 Stab0 IM26 (by decide) rfl gC_43_3_3 (by decide) (by omega) (by omega) (n_lo _) (n_hi _) fun M31 IM31 fM31 UM31 => ?_
      have FM31 := Fr.pu FM26 UM31.1 kd_297 (rfl : List.contains [40, 42, 43, 45] 43 = true)
      have tr32 : o_i (M31 294) 4 = o_i (M26 294) 4 := by rw [UM31.1 294 (g_ne kd_294 kd_297 (by decide))]
      have tr33 : o_i (M31 294) 11 = o_i (M26 294) 11 := by rw [UM31.1 294 (g_ne kd_294 kd_297 (by decide))]
      refine PW.aload_n q_193_64 rfl ?_
      refine PW.cV (as := []) (rest := []) q_193_65 t_mv_193_173 kd_294 IM31.1 (by decide) rfl (by decide) rfl rfl (Nat.le_of_ble_eq_true rfl) (Nat.le_of_ble_eq_true rfl) (by decide) (by decide) ?_
      refine PW.up (by decide) (c_X12_go (gTT) (Stab0) G _ M31 IM31  fun M34 IM34 GM34 PM34 TM34 => ?_)
      have FM34 := Fr.trans FM31 GM34 (rfl)
      obtain ⟨PaM34, PdM34, PbM34, PeM34⟩ := PM34
      have L193_68_35 : ∀ (n : Nat) (ML193_68_35 : pM), Iv (gTT) ML193_68_35 → Fr [40, 42, 43, 45] M ML193_68_35 → gLz ML193_68_35 → (940 - o_i (ML193_68_35 294) 4).toNat = n → PW G false 6 193 (p_mc 193) (p_msl 193) Kr 68 [(0, .ref 294), (1, .int v21)] [] 311 ML193_68_35 0 0 := by
        intro n
        induction n using Nat.strongRecOn with
        | ind n ih_L193_68_35 =>
        intro ML193_68_35  IML193_68_35 FML193_68_35 hbL193_68_350 hmL193_68_35
        refine PW.aload_n q_193_68 rfl ?_
        refine PW.gI q_193_69 (Or.inl t_ft_193_144) gF_40_11 kd_294 IML193_68_35.1 (by decide) fun x36 fx36 hx36 kx36 => ?_
        have trx36 := o_i_of fx36
        clear hx36 kx36
        refine PW.jz_eq q_193_72 rfl (fun h37 => ?_) (fun h37 => ?_)
        · skip
          have X38 : Iv (gX 296) ML193_68_35 := ⟨IML193_68_35.1, gX.of IML193_68_35.2⟩
          refine PW.cI q_193_111 (by decide) fun c39 hc39 => ?_
          refine PW.istore_n q_193_112 (by decide) ?_
          have L193_113_40 : ∀ (n : Nat) (ML193_113_40 : pM) (v41 : Int32), Iv (gX 296) ML193_113_40 → Fr [40, 42, 43, 45] M ML193_113_40 → 0 ≤ v41.toInt → v41.toInt ≤ 397 → gz ML193_113_40 v41.toInt → gLz ML193_113_40 → (397 - v41.toInt).toNat = n → PW G false 6 193 (p_mc 193) (p_msl 193) Kr 113 [(0, .ref 294), (1, .int v41)] [] 311 ML193_113_40 0 0 := by
            intro n
            induction n using Nat.strongRecOn with
            | ind n ih_L193_113_40 =>
            intro ML193_113_40 v41 IML193_113_40 FML193_113_40 hbL193_113_400 hbL193_113_401 hbL193_113_402 hbL193_113_403 hmL193_113_40
            refine PW.iload_n q_193_113 rfl ?_
            refine PW.cS q_193_114 (by decide) fun c42 hc42 => ?_
            refine PW.jc_ge q_193_117 rfl (fun h43 => ?_) (fun h43 => ?_)
            · skip
              have X44 : Iv gTT ML193_113_40 := ⟨IML193_113_40.1, gX.e296 IML193_113_40.2 (gz.sa hbL193_113_402 (by omega))⟩
              refine PW.cI q_193_148 (by decide) fun c45 hc45 => ?_
              refine PW.istore_n q_193_149 (by decide) ?_
              have L193_150_46 : ∀ (n : Nat) (ML193_150_46 : pM) (v47 : Int32), Iv (gTT) ML193_150_46 → Fr [40, 42, 43, 45] M ML193_150_46 → 0 ≤ v47.toInt → v47.toInt ≤ 8 → gLz ML193_150_46 → (8 - v47.toInt).toNat = n → PW G false 6 193 (p_mc 193) (p_msl 193) Kr 150 [(0, .ref 294), (1, .int v47)] [] 311 ML193_150_46 0 0 := by
                intro n
                induction n using Nat.strongRecOn with
                | ind n ih_L193_150_46 =>
                intro ML193_150_46 v47 IML193_150_46 FML193_150_46 hbL193_150_460 hbL193_150_461 hbL193_150_462 hmL193_150_46
                refine PW.iload_n q_193_150 rfl ?_
                refine PW.cB q_193_151 (by decide) fun c48 hc48 => ?_
                refine PW.jc_ge q_193_153 rfl (fun h49 => ?_) (fun h49 => ?_)
                · skip
                  refine PW.cI q_193_177 (by decide) fun c50 hc50 => ?_
                  refine PW.istore_n q_193_178 (by decide) ?_
                  have L193_179_51 : ∀ (n : Nat) (ML193_179_51 : pM) (v52 : Int32), Iv (gTT) ML193_179_51 → Fr [40, 42, 43, 45] M ML193_179_51 → 0 ≤ v52.toInt → v52.toInt ≤ 6 → gLz ML193_179_51 → (6 - v52.toInt).toNat = n → PW G false 6 193 (p_mc 193) (p_msl 193) Kr 179 [(0, .ref 294), (1, .int v52)] [] 311 ML193_179_51 0 0 := by
                    intro n
                    induction n using Nat.strongRecOn with
                    | ind n ih_L193_179_51 =>
                    intro ML193_179_51 v52 IML193_179_51 FML193_179_51 hbL193_179_510 hbL193_179_511 hbL193_179_512 hmL193_179_51
                    refine PW.iload_n q_193_179 rfl ?_
                    refine PW.cB q_193_180 (by decide) fun c53 hc53 => ?_
                    refine PW.jc_ge q_193_182 rfl (fun h54 => ?_) (fun h54 => ?_)
                    · skip
                      refine PW.cI q_193_250 (by decide) fun c55 hc55 => ?_
                      refine PW.istore_n q_193_251 (by decide) ?_
                      have L193_252_56 : ∀ (n : Nat) (ML193_252_56 : pM) (v57 : Int32), Iv (gTT) ML193_252_56 → Fr [40, 42, 43, 45] M ML193_252_56 → 0 ≤ v57.toInt → v57.toInt ≤ 2 → gLz ML193_252_56 → (2 - v57.toInt).toNat = n → PW G false 6 193 (p_mc 193) (p_msl 193) Kr 252 [(0, .ref 294), (1, .int v57)] [] 311 ML193_252_56 0 0 := by
                        intro n
                        induction n using Nat.strongRecOn with
                        | ind n ih_L193_252_56 =>
                        intro ML193_252_56 v57 IML193_252_56 FML193_252_56 hbL193_252_560 hbL193_252_561 hbL193_252_562 hmL193_252_56
                        refine PW.iload_n q_193_252 rfl ?_
                        refine PW.aload_n q_193_253 rfl ?_
                        refine PW.gR 296 q_193_254 (Or.inl t_ft_193_33) gF_40_6 kd_294 IML193_252_56.1 (by decide) rfl ?_
                        refine PW.cI q_193_257 (by decide) fun c58 hc58 => ?_
                        refine PW.aI q_193_258 gA_42 kd_296 IML193_252_56.1 (by decide) gB_42_1_1 (by decide) (by omega) (by omega) fun x59 fx59 hx59 kx59 => ?_
                        refine PW.jc_ge q_193_259 rfl (fun h60 => ?_) (fun h60 => ?_)
                        · skip
                          refine PW.aload_n q_193_353 rfl ?_
                          refine PW.cI q_193_354 (by decide) fun c61 hc61 => ?_
                          refine PW.pI q_193_355 (Or.inl t_ft_193_238) gF_40_23 gP_40_23 kd_294 Stab0 IML193_252_56 (by decide) rfl (by omega) (by omega) fun M62 IM62 fM62 UM62 => ?_
                          have FM62 := Fr.pu FML193_252_56 UM62.1 kd_294 (rfl : List.contains [40, 42, 43, 45] 40 = true)
                          have tr63 := UM62.i (c := 294) (k := 4) (Or.inr (by decide))
                          have tr64 := UM62.i (c := 294) (k := 11) (Or.inr (by decide))
                          refine PW.aload_n q_193_358 rfl ?_
                          refine PW.gI q_193_359 (Or.inl t_ft_193_229) gF_40_19 kd_294 IM62.1 (by decide) fun x65 fx65 hx65 kx65 => ?_
                          clear hx65 kx65
                          refine PW.rI q_193_362 rfl (by decide) (by decide) ?_
                          exact hK x65 M62 IM62 FM62 ((UM62.i (c := 294) (k := 2) (Or.inr (by decide))).trans hbL193_252_562)
                        · skip
                          refine PW.aload_n q_193_262 rfl ?_
                          refine PW.gR 296 q_193_263 (Or.inl t_ft_193_33) gF_40_6 kd_294 IML193_252_56.1 (by decide) rfl ?_
                          refine PW.cB q_193_266 (by decide) fun c66 hc66 => ?_
                          refine PW.iload_n q_193_268 rfl ?_
                          refine PW.addN q_193_269 (by omega) (by omega) fun x67 hx67 => ?_
                          refine PW.aload_n q_193_270 rfl ?_
                          refine PW.gR 296 q_193_271 (Or.inl t_ft_193_33) gF_40_6 kd_294 IML193_252_56.1 (by decide) rfl ?_
                          refine PW.cB q_193_274 (by decide) fun c68 hc68 => ?_
                          refine PW.aload_n q_193_276 rfl ?_
                          refine PW.gR 296 q_193_277 (Or.inl t_ft_193_33) gF_40_6 kd_294 IML193_252_56.1 (by decide) rfl ?_
                          refine PW.cB q_193_280 (by decide) fun c69 hc69 => ?_
                          refine PW.iload_n q_193_282 rfl ?_
                          refine PW.addN q_193_283 (by omega) (by omega) fun x70 hx70 => ?_
                          refine PW.aI q_193_284 gA_42 kd_296 IML193_252_56.1 (by decide) gB_42_23_24 (by decide) (by omega) (by omega) fun x71 fx71 hx71 kx71 => ?_
                          refine PW.addN q_193_285 (by omega) (by omega) fun x72 hx72 => ?_
                          refine PW.aH q_193_286 gA_42 kd_296 IML193_252_56.1 (by decide) (by omega) (by omega) fun x73 fx73 => ?_
                          refine PW.wS q_193_287 Stab0 IML193_252_56 gC_42_74_75 gN_74_75 (by decide) (by omega) (by omega) (n_lo _) (n_hi _) fun M74 IM74 fM74 UM74 => ?_
                          have FM74 := Fr.pu FML193_252_56 UM74.1 kd_296 (rfl : List.contains [40, 42, 43, 45] 42 = true)
                          have tr75 : o_i (M74 294) 4 = o_i (ML193_252_56 294) 4 := by rw [UM74.1 294 (g_ne kd_294 kd_296 (by decide))]
                          have tr76 : o_i (M74 294) 11 = o_i (ML193_252_56 294) 11 := by rw [UM74.1 294 (g_ne kd_294 kd_296 (by decide))]
                          refine PW.aload_n q_193_288 rfl ?_
                          refine PW.gR 296 q_193_289 (Or.inl t_ft_193_33) gF_40_6 kd_294 IM74.1 (by decide) rfl ?_
                          refine PW.cB q_193_292 (by decide) fun c77 hc77 => ?_
                          refine PW.iload_n q_193_294 rfl ?_
                          refine PW.addN q_193_295 (by omega) (by omega) fun x78 hx78 => ?_
                          refine PW.aload_n q_193_296 rfl ?_
                          refine PW.gR 296 q_193_297 (Or.inl t_ft_193_33) gF_40_6 kd_294 IM74.1 (by decide) rfl ?_
                          refine PW.cB q_193_300 (by decide) fun c79 hc79 => ?_
                          refine PW.iload_n q_193_302 rfl ?_
                          refine PW.addN q_193_303 (by omega) (by omega) fun x80 hx80 => ?_
                          refine PW.aH q_193_304 gA_42 kd_296 IM74.1 (by decide) (by omega) (by omega) fun x81 fx81 => ?_
                          refine PW.wS q_193_305 Stab0 IM74 gC_42_76_77 gN_76_77 (by decide) (by omega) (by omega) (n_lo _) (n_hi _) fun M82 IM82 fM82 UM82 => ?_
                          have FM82 := Fr.pu FM74 UM82.1 kd_296 (rfl : List.contains [40, 42, 43, 45] 42 = true)
                          have tr83 : o_i (M82 294) 4 = o_i (M74 294) 4 := by rw [UM82.1 294 (g_ne kd_294 kd_296 (by decide))]
                          have tr84 : o_i (M82 294) 11 = o_i (M74 294) 11 := by rw [UM82.1 294 (g_ne kd_294 kd_296 (by decide))]
                          refine PW.aload_n q_193_306 rfl ?_
                          refine PW.gR 296 q_193_307 (Or.inl t_ft_193_33) gF_40_6 kd_294 IM82.1 (by decide) rfl ?_
                          refine PW.cB q_193_310 (by decide) fun c85 hc85 => ?_
                          refine PW.iload_n q_193_312 rfl ?_
                          refine PW.addN q_193_313 (by omega) (by omega) fun x86 hx86 => ?_
                          refine PW.aload_n q_193_314 rfl ?_
                          refine PW.gR 296 q_193_315 (Or.inl t_ft_193_33) gF_40_6 kd_294 IM82.1 (by decide) rfl ?_
                          refine PW.cB q_193_318 (by decide) fun c87 hc87 => ?_
                          refine PW.iload_n q_193_320 rfl ?_
                          refine PW.addN q_193_321 (by omega) (by omega) fun x88 hx88 => ?_
                          refine PW.aI q_193_322 gA_42 kd_296 IM82.1 (by decide) gB_42_23_24 (by decide) (by omega) (by omega) fun x89 fx89 hx89 kx89 => ?_
                          refine PW.wS q_193_323 Stab0 IM82 gC_42_86_87 gN_86_87 (by decide) (by omega) (by omega) (by omega) (by omega) fun M90 IM90 fM90 UM90 => ?_
                          have FM90 := Fr.pu FM82 UM90.1 kd_296 (rfl : List.contains [40, 42, 43, 45] 42 = true)
                          have tr91 : o_i (M90 294) 4 = o_i (M82 294) 4 := by rw [UM90.1 294 (g_ne kd_294 kd_296 (by decide))]
                          have tr92 : o_i (M90 294) 11 = o_i (M82 294) 11 := by rw [UM90.1 294 (g_ne kd_294 kd_296 (by decide))]
                          refine PW.aload_n q_193_324 rfl ?_
                          refine PW.gR 296 q_193_325 (Or.inl t_ft_193_33) gF_40_6 kd_294 IM90.1 (by decide) rfl ?_
                          refine PW.cB q_193_328 (by decide) fun c93 hc93 => ?_
                          refine PW.cB q_193_330 (by decide) fun c94 hc94 => ?_
                          refine PW.iload_n q_193_332 rfl ?_
                          refine PW.mulN q_193_333 (6) (by omega) v57 (fun h => n_eq.mpr (by omega)) (fun h => n_eq.mpr (by omega)) (by omega) (by omega) fun x95 hx95 => ?_
                          refine PW.addN q_193_334 (by omega) (by omega) fun x96 hx96 => ?_
                          refine PW.aload_n q_193_335 rfl ?_
                          refine PW.gR 296 q_193_336 (Or.inl t_ft_193_33) gF_40_6 kd_294 IM90.1 (by decide) rfl ?_
                          refine PW.cB q_193_339 (by decide) fun c97 hc97 => ?_
                          refine PW.iload_n q_193_341 rfl ?_
                          refine PW.addN q_193_342 (by omega) (by omega) fun x98 hx98 => ?_
                          refine PW.aI q_193_343 gA_42 kd_296 IM90.1 (by decide) gB_42_23_24 (by decide) (by omega) (by omega) fun x99 fx99 hx99 kx99 => ?_
                          refine PW.addN q_193_344 (by omega) (by omega) fun x100 hx100 => ?_
                          refine PW.cI q_193_345 (by decide) fun c101 hc101 => ?_
                          refine PW.wS q_193_346 Stab0 IM90 gC_42_88_99 gN_88_99 (by decide) (by omega) (by omega) (by omega) (by omega) fun M102 IM102 fM102 UM102 => ?_
                          have FM102 := Fr.pu FM90 UM102.1 kd_296 (rfl : List.contains [40, 42, 43, 45] 42 = true)
                          have tr103 : o_i (M102 294) 4 = o_i (M90 294) 4 := by rw [UM102.1 294 (g_ne kd_294 kd_296 (by decide))]
                          have tr104 : o_i (M102 294) 11 = o_i (M90 294) 11 := by rw [UM102.1 294 (g_ne kd_294 kd_296 (by decide))]
                          refine PW.incN q_193_347 rfl (by decide) (by decide) (by omega) (by omega) fun x105 hx105 => ?_
                          refine PW.goto q_193_350 rfl ?_
                          refine PW.lvS (lk1 rfl (lk1 rfl lk0)) (ih_L193_252_56 _ ?_ M102 x105 IM102 FM102 (by omega) (by omega) ((congrArg (fun e => o_i e 2) (UM102.1 294 (by decide))).trans ((congrArg (fun e => o_i e 2) (UM90.1 294 (by decide))).trans ((congrArg (fun e => o_i e 2) (UM82.1 294 (by decide))).trans ((congrArg (fun e => o_i e 2) (UM74.1 294 (by decide))).trans hbL193_252_562)))) rfl)
                          omega
                      exact PW.lvS (lk1 rfl (lk1 rfl lk0)) (L193_252_56 _ ML193_179_51 c55 IML193_179_51 FML193_179_51 (by omega) (by omega) hbL193_179_512 rfl)
                    · skip
                      refine PW.aload_n q_193_185 rfl ?_
                      refine PW.gR 296 q_193_186 (Or.inl t_ft_193_33) gF_40_6 kd_294 IML193_179_51.1 (by decide) rfl ?_
                      refine PW.cB q_193_189 (by decide) fun c106 hc106 => ?_
                      refine PW.iload_n q_193_191 rfl ?_
                      refine PW.addN q_193_192 (by omega) (by omega) fun x107 hx107 => ?_
                      refine PW.aload_n q_193_193 rfl ?_
                      refine PW.gR 296 q_193_194 (Or.inl t_ft_193_33) gF_40_6 kd_294 IML193_179_51.1 (by decide) rfl ?_
                      refine PW.cI q_193_197 (by decide) fun c108 hc108 => ?_
                      refine PW.iload_n q_193_198 rfl ?_
                      refine PW.addN q_193_199 (by omega) (by omega) fun x109 hx109 => ?_
                      refine PW.aH q_193_200 gA_42 kd_296 IML193_179_51.1 (by decide) (by omega) (by omega) fun x110 fx110 => ?_
                      refine PW.wS q_193_201 Stab0 IML193_179_51 gC_42_36_41 gN_36_41 (by decide) (by omega) (by omega) (n_lo _) (n_hi _) fun M111 IM111 fM111 UM111 => ?_
                      have FM111 := Fr.pu FML193_179_51 UM111.1 kd_296 (rfl : List.contains [40, 42, 43, 45] 42 = true)
                      have tr112 : o_i (M111 294) 4 = o_i (ML193_179_51 294) 4 := by rw [UM111.1 294 (g_ne kd_294 kd_296 (by decide))]
                      have tr113 : o_i (M111 294) 11 = o_i (ML193_179_51 294) 11 := by rw [UM111.1 294 (g_ne kd_294 kd_296 (by decide))]
                      refine PW.aload_n q_193_202 rfl ?_
                      refine PW.gR 296 q_193_203 (Or.inl t_ft_193_33) gF_40_6 kd_294 IM111.1 (by decide) rfl ?_
                      refine PW.cB q_193_206 (by decide) fun c114 hc114 => ?_
                      refine PW.iload_n q_193_208 rfl ?_
                      refine PW.addN q_193_209 (by omega) (by omega) fun x115 hx115 => ?_
                      refine PW.aload_n q_193_210 rfl ?_
                      refine PW.gR 296 q_193_211 (Or.inl t_ft_193_33) gF_40_6 kd_294 IM111.1 (by decide) rfl ?_
                      refine PW.cB q_193_214 (by decide) fun c116 hc116 => ?_
                      refine PW.iload_n q_193_216 rfl ?_
                      refine PW.addN q_193_217 (by omega) (by omega) fun x117 hx117 => ?_
                      refine PW.aH q_193_218 gA_42 kd_296 IM111.1 (by decide) (by omega) (by omega) fun x118 fx118 => ?_
                      refine PW.wS q_193_219 Stab0 IM111 gC_42_42_47 gN_42_47 (by decide) (by omega) (by omega) (n_lo _) (n_hi _) fun M119 IM119 fM119 UM119 => ?_
                      have FM119 := Fr.pu FM111 UM119.1 kd_296 (rfl : List.contains [40, 42, 43, 45] 42 = true)
                      have tr120 : o_i (M119 294) 4 = o_i (M111 294) 4 := by rw [UM119.1 294 (g_ne kd_294 kd_296 (by decide))]
                      have tr121 : o_i (M119 294) 11 = o_i (M111 294) 11 := by rw [UM119.1 294 (g_ne kd_294 kd_296 (by decide))]
                      refine PW.aload_n q_193_220 rfl ?_
                      refine PW.gR 296 q_193_221 (Or.inl t_ft_193_33) gF_40_6 kd_294 IM119.1 (by decide) rfl ?_
                      refine PW.cB q_193_224 (by decide) fun c122 hc122 => ?_
                      refine PW.iload_n q_193_226 rfl ?_
                      refine PW.addN q_193_227 (by omega) (by omega) fun x123 hx123 => ?_
                      refine PW.iload_n q_193_228 rfl ?_
                      refine PW.aload_n q_193_229 rfl ?_
                      refine PW.gR 296 q_193_230 (Or.inl t_ft_193_33) gF_40_6 kd_294 IM119.1 (by decide) rfl ?_
                      refine PW.cI q_193_233 (by decide) fun c124 hc124 => ?_
                      refine PW.aI q_193_234 gA_42 kd_296 IM119.1 (by decide) gB_42_0_0 (by decide) (by omega) (by omega) fun x125 fx125 hx125 kx125 => ?_
                      have J243_127 : ∀ (MJ243_127 : pM) (s128 : Int32), Iv (gTT) MJ243_127 → Fr [40, 42, 43, 45] M MJ243_127 → 0 ≤ s128.toInt → s128.toInt ≤ 1 → o_i (MJ243_127 294) 4 = o_i (M119 294) 4 → o_i (MJ243_127 294) 11 = o_i (M119 294) 11 → gLz MJ243_127 → PW G false 6 193 (p_mc 193) (p_msl 193) Kr 243 [(0, .ref 294), (1, .int v52)] [.int s128, .int x123, .ref 296] 311 MJ243_127 0 0 := by
                        intro MJ243_127 s128 IMJ243_127 FMJ243_127 hbJ243_1270 hbJ243_1271 hbJ243_1272 hbJ243_1273 hbJ243_1274
                        refine PW.wS q_193_243 Stab0 IMJ243_127 gC_42_48_53 gN_48_53 (by decide) (by omega) (by omega) (n_lo _) (n_hi _) fun M129 IM129 fM129 UM129 => ?_
                        have FM129 := Fr.pu FMJ243_127 UM129.1 kd_296 (rfl : List.contains [40, 42, 43, 45] 42 = true)
                        have tr130 : o_i (M129 294) 4 = o_i (MJ243_127 294) 4 := by rw [UM129.1 294 (g_ne kd_294 kd_296 (by decide))]
                        have tr131 : o_i (M129 294) 11 = o_i (MJ243_127 294) 11 := by rw [UM129.1 294 (g_ne kd_294 kd_296 (by decide))]
                        refine PW.incN q_193_244 rfl (by decide) (by decide) (by omega) (by omega) fun x132 hx132 => ?_
                        refine PW.goto q_193_247 rfl ?_
                        refine PW.lvS (lk1 rfl (lk1 rfl lk0)) (ih_L193_179_51 _ ?_ M129 x132 IM129 FM129 (by omega) (by omega) ((congrArg (fun e => o_i e 2) (UM129.1 294 (by decide))).trans hbJ243_1274) rfl)
                        omega
                      refine PW.jc_ge q_193_235 rfl (fun h126 => ?_) (fun h126 => ?_)
                      · skip
                        refine PW.cI q_193_242 (by decide) fun c133 hc133 => ?_
                        exact PW.lvS (lk1 rfl (lk1 rfl lk0)) (J243_127 M119 c133 IM119 FM119 (by omega) (by omega) (by omega) (by omega) ((congrArg (fun e => o_i e 2) (UM119.1 294 (by decide))).trans ((congrArg (fun e => o_i e 2) (UM111.1 294 (by decide))).trans hbL193_179_512)))
                      · skip
                        refine PW.cI q_193_238 (by decide) fun c134 hc134 => ?_
                        refine PW.goto q_193_239 rfl ?_
                        exact PW.lvS (lk1 rfl (lk1 rfl lk0)) (J243_127 M119 c134 IM119 FM119 (by omega) (by omega) (by omega) (by omega) ((congrArg (fun e => o_i e 2) (UM119.1 294 (by decide))).trans ((congrArg (fun e => o_i e 2) (UM111.1 294 (by decide))).trans hbL193_179_512)))
                  exact PW.lvS (lk1 rfl (lk1 rfl lk0)) (L193_179_51 _ ML193_150_46 c50 IML193_150_46 FML193_150_46 (by omega) (by omega) hbL193_150_462 rfl)
                · skip
                  refine PW.aload_n q_193_156 rfl ?_
                  refine PW.gR 299 q_193_157 (Or.inl t_ft_193_43) gF_40_9 kd_294 IML193_150_46.1 (by decide) rfl ?_
                  refine PW.iload_n q_193_160 rfl ?_
                  refine PW.aload_n q_193_161 rfl ?_
                  refine PW.gR 299 q_193_162 (Or.inl t_ft_193_43) gF_40_9 kd_294 IML193_150_46.1 (by decide) rfl ?_
                  refine PW.cB q_193_165 (by decide) fun c135 hc135 => ?_
                  refine PW.iload_n q_193_167 rfl ?_
                  refine PW.addN q_193_168 (by omega) (by omega) fun x136 hx136 => ?_
                  refine PW.aL q_193_169 rfl kd_299 IML193_150_46.1 (by decide) (by omega) (by omega) fun l137 fl137 => ?_
                  refine PW.wL q_193_170 rfl kd_299 Stab0 IML193_150_46 (by decide) rfl (by omega) (by omega) fun M138 IM138 UM138 => ?_
                  have FM138 := Fr.pu FML193_150_46 UM138 kd_299 (rfl : List.contains [40, 42, 43, 45] 45 = true)
                  have tr139 : o_i (M138 294) 4 = o_i (ML193_150_46 294) 4 := by rw [UM138 294 (g_ne kd_294 kd_299 (by decide))]
                  have tr140 : o_i (M138 294) 11 = o_i (ML193_150_46 294) 11 := by rw [UM138 294 (g_ne kd_294 kd_299 (by decide))]
                  refine PW.incN q_193_171 rfl (by decide) (by decide) (by omega) (by omega) fun x141 hx141 => ?_
                  refine PW.goto q_193_174 rfl ?_
                  refine PW.lvS (lk1 rfl (lk1 rfl lk0)) (ih_L193_150_46 _ ?_ M138 x141 IM138 FM138 (by omega) (by omega) ((congrArg (fun e => o_i e 2) (UM138 294 (by decide))).trans hbL193_150_462) rfl)
                  omega
              exact PW.lvS (lk1 rfl (lk1 rfl lk0)) (L193_150_46 _ ML193_113_40 c45 X44 FML193_113_40 (by omega) (by omega) hbL193_113_403 rfl)
            · skip
              refine PW.aload_n q_193_120 rfl ?_
              refine PW.gR 296 q_193_121 (Or.inl t_ft_193_33) gF_40_6 kd_294 IML193_113_40.1 (by decide) rfl ?_
              refine PW.iload_n q_193_124 rfl ?_
              refine PW.iload_n q_193_125 rfl ?_
              refine PW.cB q_193_126 (by decide) fun c142 hc142 => ?_
              refine PW.jc_ge q_193_128 rfl (fun h143 => ?_) (fun h143 => ?_)
              · skip
                refine PW.cI q_193_140 (by decide) fun c144 hc144 => ?_
                refine PW.wB q_193_141 gA_42 kd_296 IML193_113_40.1 (by decide) (by omega) (by omega) (as0 _ (by omega)) fun M145 JM145 fM145 UM145 => ?_
                have IM145 : Iv (gX 296) M145 := ⟨JM145, gX.up IML193_113_40.2 UM145.1 (by decide)⟩
                have FM145 := Fr.pu FML193_113_40 UM145.1 kd_296 (rfl : List.contains [40, 42, 43, 45] 42 = true)
                have tr146 : o_i (M145 294) 4 = o_i (ML193_113_40 294) 4 := by rw [UM145.1 294 (g_ne kd_294 kd_296 (by decide))]
                have tr147 : o_i (M145 294) 11 = o_i (ML193_113_40 294) 11 := by rw [UM145.1 294 (g_ne kd_294 kd_296 (by decide))]
                refine PW.incN q_193_142 rfl (by decide) (by decide) (by omega) (by omega) fun x148 hx148 => ?_
                refine PW.goto q_193_145 rfl ?_
                refine PW.lvS (lk1 rfl (lk1 rfl lk0)) (ih_L193_113_40 _ ?_ M145 x148 IM145 FM145 (by omega) (by omega) (gz.step hbL193_113_402 UM145 (by omega) fM145 (by omega) (by omega) (by omega)) ((congrArg (fun e => o_i e 2) (UM145.1 294 (by decide))).trans hbL193_113_403) rfl)
                omega
              · skip
                refine PW.aload_n q_193_131 rfl ?_
                refine PW.gR 297 q_193_132 (Or.inl t_ft_193_37) gF_40_7 kd_294 IML193_113_40.1 (by decide) rfl ?_
                refine PW.iload_n q_193_135 rfl ?_
                refine PW.aH q_193_136 gA_43 kd_297 IML193_113_40.1 (by decide) (by omega) (by omega) fun x149 fx149 => ?_
                refine PW.goto q_193_137 rfl ?_
                have bsM150 := (InvB.arr IML193_113_40.1 kd_297 (by decide) gA_43).2.2 v41.toInt.toNat (by omega)
                rw [fx149] at bsM150
                refine PW.wB q_193_141 gA_42 kd_296 IML193_113_40.1 (by decide) (by omega) (by omega) (by rw [as43 (p := v41.toInt.toNat) (by omega)]; exact bsM150) fun M150 JM150 fM150 UM150 => ?_
                have IM150 : Iv (gX 296) M150 := ⟨JM150, gX.up IML193_113_40.2 UM150.1 (by decide)⟩
                have FM150 := Fr.pu FML193_113_40 UM150.1 kd_296 (rfl : List.contains [40, 42, 43, 45] 42 = true)
                have tr151 : o_i (M150 294) 4 = o_i (ML193_113_40 294) 4 := by rw [UM150.1 294 (g_ne kd_294 kd_296 (by decide))]
                have tr152 : o_i (M150 294) 11 = o_i (ML193_113_40 294) 11 := by rw [UM150.1 294 (g_ne kd_294 kd_296 (by decide))]
                refine PW.incN q_193_142 rfl (by decide) (by decide) (by omega) (by omega) fun x153 hx153 => ?_
                refine PW.goto q_193_145 rfl ?_
                refine PW.lvS (lk1 rfl (lk1 rfl lk0)) (ih_L193_113_40 _ ?_ M150 x153 IM150 FM150 (by omega) (by omega) (gz.step hbL193_113_402 UM150 (by omega) fM150 (by omega) (by omega) (by omega)) ((congrArg (fun e => o_i e 2) (UM150.1 294 (by decide))).trans hbL193_113_403) rfl)
                omega
          exact PW.lvS (lk1 rfl (lk1 rfl lk0)) (L193_113_40 _ ML193_68_35 c39 X38 FML193_68_35 (by omega) (by omega) (gz.zero (by omega)) hbL193_68_350 rfl)
        · skip
          refine PW.aload_n q_193_75 rfl ?_
          refine PW.cV (as := []) (rest := []) q_193_76 t_mv_193_232 kd_294 IML193_68_35.1 (by decide) rfl (by decide) rfl rfl (Nat.le_of_ble_eq_true rfl) (Nat.le_of_ble_eq_true rfl) (by decide) (by decide) ?_
          refine PW.up (by decide) (c_X12_line (gTT) (Stab0) G _ ML193_68_35 IML193_68_35  fun x155 M154 IM154 GM154 hx155 kx155 PM154 TM154 => ?_)
          have FM154 := Fr.trans FML193_68_35 GM154 (rfl)
          obtain ⟨PaM154, PdM154⟩ := PM154
          clear PdM34
          have J91_157 : ∀ (MJ91_157 : pM), Iv (gTT) MJ91_157 → Fr [40, 42, 43, 45] M MJ91_157 → gLz MJ91_157 → PW G false 6 193 (p_mc 193) (p_msl 193) Kr 91 [(0, .ref 294), (1, .int v21)] [] 311 MJ91_157 0 0 := by
            intro MJ91_157  IMJ91_157 FMJ91_157 hbJ91_1570
            refine PW.cI q_193_91 (by decide) fun c158 hc158 => ?_
            refine PW.aload_n q_193_92 rfl ?_
            refine PW.gI q_193_93 (Or.inl t_ft_193_164) gF_40_16 kd_294 IMJ91_157.1 (by decide) fun x159 fx159 hx159 kx159 => ?_
            clear hx159 kx159
            refine PW.subN q_193_96 (by have := n_lo x159; have := n_hi x159; omega) (by have := n_lo x159; have := n_hi x159; omega) fun x160 hx160 => ?_
            refine PW.rI q_193_97 rfl (by decide) (by decide) ?_
            exact hK x160 MJ91_157 IMJ91_157 FMJ91_157 hbJ91_1570
          refine PW.jz_eq q_193_79 rfl (fun h156 => ?_) (fun h156 => ?_)
          · skip
            exact PW.lvS (lk1 rfl (lk1 rfl lk0)) (J91_157 M154  IM154 FM154 (TM154.trans hbL193_68_350))
          · skip
            refine PW.aload_n q_193_82 rfl ?_
            refine PW.cB q_193_83 (by decide) fun c161 hc161 => ?_
            refine PW.cV (as := [_]) (rest := []) q_193_85 t_mv_193_235 kd_294 IM154.1 (by decide) rfl (by decide) rfl rfl (Nat.le_of_ble_eq_true rfl) (Nat.le_of_ble_eq_true rfl) (by decide) (by decide) ?_
            refine PW.up (by decide) (c_X12_sign (gTT) (Stab0) G _ M154 IM154 c161 fun x163 M162 IM162 GM162 hx163 kx163 PM162 TM162 => ?_)
            have FM162 := Fr.trans FM154 GM162 (rfl)
            refine PW.jz_ne q_193_88 rfl (fun h164 => ?_) (fun h164 => ?_)
            · skip
              have hp94 := g_p940 IM162.1
              refine PW.aload_n q_193_98 rfl ?_
              refine PW.dup q_193_99 rfl ?_
              refine PW.gI q_193_100 (Or.inl t_ft_193_229) gF_40_19 kd_294 IM162.1 (by decide) fun x165 fx165 hx165 kx165 => ?_
              clear hx165 kx165
              refine PW.cI q_193_103 (by decide) fun c166 hc166 => ?_
              refine PW.addH q_193_104 fun x167 => ?_
              refine PW.pI q_193_105 (Or.inl t_ft_193_229) gF_40_19 gP_40_19 kd_294 Stab0 IM162 (by decide) rfl (n_lo _) (n_hi _) fun M168 IM168 fM168 UM168 => ?_
              have FM168 := Fr.pu FM162 UM168.1 kd_294 (rfl : List.contains [40, 42, 43, 45] 40 = true)
              have tr169 := UM168.i (c := 294) (k := 4) (Or.inr (by decide))
              have tr170 := UM168.i (c := 294) (k := 11) (Or.inr (by decide))
              refine PW.goto q_193_108 rfl ?_
              refine PW.lvS (lk1 rfl (lk1 rfl lk0)) (ih_L193_68_35 _ ?_ M168  IM168 FM168 ((UM168.i (c := 294) (k := 2) (Or.inr (by decide))).trans (TM162.trans (TM154.trans hbL193_68_350))) rfl)
              omega
            · skip
              exact PW.lvS (lk1 rfl (lk1 rfl lk0)) (J91_157 M162  IM162 FM162 (TM162.trans (TM154.trans hbL193_68_350)))
      exact PW.lvS (lk1 rfl (lk1 rfl lk0)) (L193_68_35 _ M34  IM34 FM34 (TM34.1.trans ((congrArg (fun e => o_i e 2) (UM31.1 294 (by decide))).trans ((congrArg (fun e => o_i e 2) (UM26.1 294 (by decide))).trans hbL193_29_202))) rfl)
    · skip
      refine PW.aload_n q_193_35 rfl ?_
      refine PW.gR 297 q_193_36 (Or.inl t_ft_193_37) gF_40_7 kd_294 IML193_29_20.1 (by decide) rfl ?_
      refine PW.iload_n q_193_39 rfl ?_
      refine PW.cI q_193_40 (by decide) fun c171 hc171 => ?_
      refine PW.wI q_193_41 gA_43 kd_297 Stab0 IML193_29_20 (by decide) rfl gC_43_0_32 (by decide) (by omega) (by omega) (by omega) (by omega) fun M172 IM172 fM172 UM172 => ?_
      have FM172 := Fr.pu FML193_29_20 UM172.1 kd_297 (rfl : List.contains [40, 42, 43, 45] 43 = true)
      have tr173 : o_i (M172 294) 4 = o_i (ML193_29_20 294) 4 := by rw [UM172.1 294 (g_ne kd_294 kd_297 (by decide))]
      have tr174 : o_i (M172 294) 11 = o_i (ML193_29_20 294) 11 := by rw [UM172.1 294 (g_ne kd_294 kd_297 (by decide))]
      refine PW.incN q_193_42 rfl (by decide) (by decide) (by omega) (by omega) fun x175 hx175 => ?_
      refine PW.goto q_193_45 rfl ?_
      refine PW.lvS (lk1 rfl (lk1 rfl lk0)) (ih_L193_29_20 _ ?_ M172 x175 IM172 FM172 (by omega) (by omega) ((congrArg (fun e => o_i e 2) (UM172.1 294 (by decide))).trans hbL193_29_202) rfl)
      omega
  exact PW.lvS (lk1 rfl (lk1 rfl lk0)) (L193_29_20 _ M16 c19 IM16 FM16 (by omega) (by omega) ((UM16.i (c := 294) (k := 2) (Or.inr (by decide))).trans ((UM12.i (c := 294) (k := 2) (Or.inr (by decide))).trans ((UM8.i (c := 294) (k := 2) (Or.inr (by decide))).trans TM6.1))) rfl)
theorem c_X12_fault (G : pG) (Kr : pK) (M : pM) (I : Iv gTT M)  (hK : ∀ (x : Int32) (M1 : pM), Iv gTT M1 → Fr [40] M M1 → ((gLq M1 M) ∧ gHq M1 M) → Kr.1 (some (.int x)) 311 M1) : PW G false 0 194 (p_mc 194) (p_msl 194) Kr 0 (lv_args 0 [.ref 294]) [] 311 M 0 0 := by
  have F : Fr [40] M M := Fr.refl
  refine PW.aload_n q_194_0 rfl ?_
  refine PW.cI q_194_1 (by decide) fun c1 hc1 => ?_
  refine PW.pI q_194_2 (Or.inl t_ft_194_1) gF_40_0 gP_40_0 kd_294 Stab0 I (by decide) rfl (n_lo _) (n_hi _) fun M2 IM2 fM2 UM2 => ?_
  have FM2 := Fr.pu F UM2.1 kd_294 (rfl : List.contains [40] 40 = true)
  refine PW.aload_n q_194_5 rfl ?_
  refine PW.gI q_194_6 (Or.inl t_ft_194_161) gF_40_15 kd_294 IM2.1 (by decide) fun x3 fx3 hx3 kx3 => ?_
  clear hx3 kx3
  refine PW.rI q_194_9 rfl (by decide) (by decide) ?_
  exact hK x3 M2 IM2 FM2 ⟨(UM2.i (c := 294) (k := 2) (Or.inr (by decide))), (gHq.refl.pu UM2 (by decide))⟩
theorem c_X12_walker (G : pG) (Kr : pK) (M : pM) (I : Iv gTT M) (a1 : Int32) (a2 : Int32) (hK : ∀ (x : Int32) (M1 : pM), Iv gTT M1 → Fr [40] M M1 → ((gLq M1 M) ∧ gHq M1 M) → Kr.1 (some (.int x)) 311 M1) : PW G false 2 199 (p_mc 199) (p_msl 199) Kr 0 (lv_args 0 [.ref 294, .int a1, .int a2]) [] 311 M 0 0 := by
  have F : Fr [40] M M := Fr.refl
  refine PW.aload_n q_199_0 rfl ?_
  refine PW.aload_n q_199_1 rfl ?_
  refine PW.iload_n q_199_2 rfl ?_
  refine PW.cV (as := [_]) (rest := [_]) q_199_3 t_mv_199_241 kd_294 I.1 (by decide) rfl (by decide) rfl rfl (Nat.le_of_ble_eq_true rfl) (Nat.le_of_ble_eq_true rfl) (by decide) (by decide) ?_
  refine PW.iload_n q_195_0 rfl ?_
  refine PW.cI q_195_1 (by decide) fun c1 hc1 => ?_
  refine PW.aload_n q_195_2 rfl ?_
  refine PW.gR 296 q_195_3 (Or.inl t_ft_195_33) gF_40_6 kd_294 I.1 (by decide) rfl ?_
  refine PW.cI q_195_6 (by decide) fun c2 hc2 => ?_
  refine PW.aI q_195_7 gA_42 kd_296 I.1 (by decide) gB_42_0_0 (by decide) (by omega) (by omega) fun x3 fx3 hx3 kx3 => ?_
  refine PW.cI q_195_8 (by decide) fun c4 hc4 => ?_
  refine PW.subN q_195_9 (by omega) (by omega) fun x5 hx5 => ?_
  refine PW.callS (as := [_, _, _]) (rest := []) q_195_10 t_ms_195_176 (by decide) rfl (Nat.le_of_ble_eq_true rfl) (Nat.le_of_ble_eq_true rfl) (by decide) (by decide) ?_
  refine PW.iload_n q_166_0 rfl ?_
  refine PW.iload_n q_166_1 rfl ?_
  refine PW.jc_lt q_166_2 rfl (fun h6 => ?_) (fun h6 => ?_)
  · skip
    refine PW.cI q_166_14 (by decide) fun c7 hc7 => ?_
    refine PW.rZ q_166_15 rfl (by omega) (by omega) (by decide) (by decide) ?_
    refine PW.rZ q_195_13 rfl (by omega) (by omega) (by decide) (by decide) ?_
    refine PW.jz_eq q_199_6 rfl (fun h8 => ?_) (fun h8 => False.elim (by omega))
    refine PW.cI q_199_19 (by decide) fun c9 hc9 => ?_
    refine PW.goto q_199_20 rfl ?_
    refine PW.cV (as := [_]) (rest := []) q_199_24 t_mv_199_247 kd_294 I.1 (by decide) rfl (by decide) rfl rfl (Nat.le_of_ble_eq_true rfl) (Nat.le_of_ble_eq_true rfl) (by decide) (by decide) ?_
    refine PW.up (by decide) (c_X12_throwsIf (gTT) (Stab0) G _ M I c9 (by omega) (by omega) fun x11 M10 IM10 GM10 hx11 kx11 PM10 TM10 => ?_)
    have FM10 := Fr.trans F GM10 (rfl)
    refine PW.jz_eq q_199_27 rfl (fun h12 => False.elim (by omega)) (fun h12 => ?_)
    refine PW.cI q_199_30 (by decide) fun c13 hc13 => ?_
    refine PW.rI q_199_31 rfl (by decide) (by decide) ?_
    exact hK c13 M10 IM10 FM10 ⟨TM10.1, (gHq.refl.tr TM10.2)⟩
  · skip
    refine PW.iload_n q_166_5 rfl ?_
    refine PW.iload_n q_166_6 rfl ?_
    refine PW.jc_gt q_166_7 rfl (fun h14 => ?_) (fun h14 => ?_)
    · skip
      refine PW.cI q_166_14 (by decide) fun c15 hc15 => ?_
      refine PW.rZ q_166_15 rfl (by omega) (by omega) (by decide) (by decide) ?_
      refine PW.rZ q_195_13 rfl (by omega) (by omega) (by decide) (by decide) ?_
      refine PW.jz_eq q_199_6 rfl (fun h16 => ?_) (fun h16 => False.elim (by omega))
      refine PW.cI q_199_19 (by decide) fun c17 hc17 => ?_
      refine PW.goto q_199_20 rfl ?_
      refine PW.cV (as := [_]) (rest := []) q_199_24 t_mv_199_247 kd_294 I.1 (by decide) rfl (by decide) rfl rfl (Nat.le_of_ble_eq_true rfl) (Nat.le_of_ble_eq_true rfl) (by decide) (by decide) ?_
      refine PW.up (by decide) (c_X12_throwsIf (gTT) (Stab0) G _ M I c17 (by omega) (by omega) fun x19 M18 IM18 GM18 hx19 kx19 PM18 TM18 => ?_)
      have FM18 := Fr.trans F GM18 (rfl)
      refine PW.jz_eq q_199_27 rfl (fun h20 => False.elim (by omega)) (fun h20 => ?_)
      refine PW.cI q_199_30 (by decide) fun c21 hc21 => ?_
      refine PW.rI q_199_31 rfl (by decide) (by decide) ?_
      exact hK c21 M18 IM18 FM18 ⟨TM18.1, (gHq.refl.tr TM18.2)⟩
    · skip
      refine PW.cI q_166_10 (by decide) fun c22 hc22 => ?_
      refine PW.goto q_166_11 rfl ?_
      refine PW.rZ q_166_15 rfl (by omega) (by omega) (by decide) (by decide) ?_
      refine PW.rZ q_195_13 rfl (by omega) (by omega) (by decide) (by decide) ?_
      refine PW.jz_eq q_199_6 rfl (fun h23 => False.elim (by omega)) (fun h23 => ?_)
      refine PW.iload_n q_199_9 rfl ?_
      refine PW.cI q_199_10 (by decide) fun c24 hc24 => ?_
      refine PW.cB q_199_11 (by decide) fun c25 hc25 => ?_
      refine PW.callS (as := [_, _, _]) (rest := [_]) q_199_13 t_ms_199_176 (by decide) rfl (Nat.le_of_ble_eq_true rfl) (Nat.le_of_ble_eq_true rfl) (by decide) (by decide) ?_
      refine PW.iload_n q_166_0 rfl ?_
      refine PW.iload_n q_166_1 rfl ?_
      refine PW.jc_lt q_166_2 rfl (fun h26 => ?_) (fun h26 => ?_)
      · skip
        refine PW.cI q_166_14 (by decide) fun c27 hc27 => ?_
        refine PW.rZ q_166_15 rfl (by omega) (by omega) (by decide) (by decide) ?_
        refine PW.jz_ne q_199_16 rfl (fun h28 => False.elim (by omega)) (fun h28 => ?_)
        refine PW.cI q_199_19 (by decide) fun c29 hc29 => ?_
        refine PW.goto q_199_20 rfl ?_
        refine PW.cV (as := [_]) (rest := []) q_199_24 t_mv_199_247 kd_294 I.1 (by decide) rfl (by decide) rfl rfl (Nat.le_of_ble_eq_true rfl) (Nat.le_of_ble_eq_true rfl) (by decide) (by decide) ?_
        refine PW.up (by decide) (c_X12_throwsIf (gTT) (Stab0) G _ M I c29 (by omega) (by omega) fun x31 M30 IM30 GM30 hx31 kx31 PM30 TM30 => ?_)
        have FM30 := Fr.trans F GM30 (rfl)
        refine PW.jz_eq q_199_27 rfl (fun h32 => False.elim (by omega)) (fun h32 => ?_)
        refine PW.cI q_199_30 (by decide) fun c33 hc33 => ?_
        refine PW.rI q_199_31 rfl (by decide) (by decide) ?_
        exact hK c33 M30 IM30 FM30 ⟨TM30.1, (gHq.refl.tr TM30.2)⟩
      · skip
        refine PW.iload_n q_166_5 rfl ?_
        refine PW.iload_n q_166_6 rfl ?_
        refine PW.jc_gt q_166_7 rfl (fun h34 => ?_) (fun h34 => ?_)
        · skip
          refine PW.cI q_166_14 (by decide) fun c35 hc35 => ?_
          refine PW.rZ q_166_15 rfl (by omega) (by omega) (by decide) (by decide) ?_
          refine PW.jz_ne q_199_16 rfl (fun h36 => False.elim (by omega)) (fun h36 => ?_)
          refine PW.cI q_199_19 (by decide) fun c37 hc37 => ?_
          refine PW.goto q_199_20 rfl ?_
          refine PW.cV (as := [_]) (rest := []) q_199_24 t_mv_199_247 kd_294 I.1 (by decide) rfl (by decide) rfl rfl (Nat.le_of_ble_eq_true rfl) (Nat.le_of_ble_eq_true rfl) (by decide) (by decide) ?_
          refine PW.up (by decide) (c_X12_throwsIf (gTT) (Stab0) G _ M I c37 (by omega) (by omega) fun x39 M38 IM38 GM38 hx39 kx39 PM38 TM38 => ?_)
          have FM38 := Fr.trans F GM38 (rfl)
          refine PW.jz_eq q_199_27 rfl (fun h40 => False.elim (by omega)) (fun h40 => ?_)
          refine PW.cI q_199_30 (by decide) fun c41 hc41 => ?_
          refine PW.rI q_199_31 rfl (by decide) (by decide) ?_
          exact hK c41 M38 IM38 FM38 ⟨TM38.1, (gHq.refl.tr TM38.2)⟩
        · skip
          refine PW.cI q_166_10 (by decide) fun c42 hc42 => ?_
          refine PW.goto q_166_11 rfl ?_
          refine PW.rZ q_166_15 rfl (by omega) (by omega) (by decide) (by decide) ?_
          refine PW.jz_ne q_199_16 rfl (fun h43 => ?_) (fun h43 => False.elim (by omega))
          refine PW.cI q_199_23 (by decide) fun c44 hc44 => ?_
          refine PW.cV (as := [_]) (rest := []) q_199_24 t_mv_199_247 kd_294 I.1 (by decide) rfl (by decide) rfl rfl (Nat.le_of_ble_eq_true rfl) (Nat.le_of_ble_eq_true rfl) (by decide) (by decide) ?_
          refine PW.up (by decide) (c_X12_throwsIf (gTT) (Stab0) G _ M I c44 (by omega) (by omega) fun x46 M45 IM45 GM45 hx46 kx46 PM45 TM45 => ?_)
          have FM45 := Fr.trans F GM45 (rfl)
          refine PW.jz_eq q_199_27 rfl (fun h47 => ?_) (fun h47 => False.elim (by omega))
          refine PW.iload_n q_199_32 rfl ?_
          have h48 : a2.toInt = 0 ∨ a2.toInt = 1 ∨ a2.toInt = 2 ∨ a2.toInt = 3 ∨ a2.toInt = 4 ∨ a2.toInt = 5 ∨ (a2.toInt < 0 ∨ 5 < a2.toInt) := by omega
          rcases h48 with h48 | h48 | h48 | h48 | h48 | h48 | h48
          · skip
            refine PW.sw1 (0) h48 q_199_33 (by decide) (by decide) rfl rfl ?_
            refine PW.aload_n q_199_72 rfl ?_
            refine PW.gR 296 q_199_73 (Or.inl t_ft_199_33) gF_40_6 kd_294 IM45.1 (by decide) rfl ?_
            refine PW.cB q_199_76 (by decide) fun c49 hc49 => ?_
            refine PW.iload_n q_199_78 rfl ?_
            refine PW.addN q_199_79 (by have := n_lo a1; have := n_hi a1; omega) (by have := n_lo a1; have := n_hi a1; omega) fun x50 hx50 => ?_
            refine PW.aH q_199_80 gA_42 kd_296 IM45.1 (by decide) (by omega) (by omega) fun x51 fx51 => ?_
            refine PW.rI q_199_81 rfl (by decide) (by decide) ?_
            exact hK x51 M45 IM45 FM45 ⟨TM45.1, (gHq.refl.tr TM45.2)⟩
          · skip
            refine PW.sw1 (1) h48 q_199_33 (by decide) (by decide) rfl rfl ?_
            refine PW.aload_n q_199_82 rfl ?_
            refine PW.gR 296 q_199_83 (Or.inl t_ft_199_33) gF_40_6 kd_294 IM45.1 (by decide) rfl ?_
            refine PW.cB q_199_86 (by decide) fun c52 hc52 => ?_
            refine PW.iload_n q_199_88 rfl ?_
            refine PW.addN q_199_89 (by have := n_lo a1; have := n_hi a1; omega) (by have := n_lo a1; have := n_hi a1; omega) fun x53 hx53 => ?_
            refine PW.aI q_199_90 gA_42 kd_296 IM45.1 (by decide) gB_42_11_16 (by decide) (by omega) (by omega) fun x54 fx54 hx54 kx54 => ?_
            refine PW.rI q_199_91 rfl (by decide) (by decide) ?_
            exact hK x54 M45 IM45 FM45 ⟨TM45.1, (gHq.refl.tr TM45.2)⟩
          · skip
            refine PW.sw1 (2) h48 q_199_33 (by decide) (by decide) rfl rfl ?_
            refine PW.aload_n q_199_92 rfl ?_
            refine PW.gR 296 q_199_93 (Or.inl t_ft_199_33) gF_40_6 kd_294 IM45.1 (by decide) rfl ?_
            refine PW.cB q_199_96 (by decide) fun c55 hc55 => ?_
            refine PW.iload_n q_199_98 rfl ?_
            refine PW.addN q_199_99 (by have := n_lo a1; have := n_hi a1; omega) (by have := n_lo a1; have := n_hi a1; omega) fun x56 hx56 => ?_
            refine PW.aH q_199_100 gA_42 kd_296 IM45.1 (by decide) (by omega) (by omega) fun x57 fx57 => ?_
            refine PW.rI q_199_101 rfl (by decide) (by decide) ?_
            exact hK x57 M45 IM45 FM45 ⟨TM45.1, (gHq.refl.tr TM45.2)⟩
          · skip
            refine PW.sw1 (3) h48 q_199_33 (by decide) (by decide) rfl rfl ?_
            refine PW.aload_n q_199_102 rfl ?_
            refine PW.gR 296 q_199_103 (Or.inl t_ft_199_33) gF_40_6 kd_294 IM45.1 (by decide) rfl ?_
            refine PW.cB q_199_106 (by decide) fun c58 hc58 => ?_
            refine PW.iload_n q_199_108 rfl ?_
            refine PW.addN q_199_109 (by have := n_lo a1; have := n_hi a1; omega) (by have := n_lo a1; have := n_hi a1; omega) fun x59 hx59 => ?_
            refine PW.aH q_199_110 gA_42 kd_296 IM45.1 (by decide) (by omega) (by omega) fun x60 fx60 => ?_
            refine PW.rI q_199_111 rfl (by decide) (by decide) ?_
            exact hK x60 M45 IM45 FM45 ⟨TM45.1, (gHq.refl.tr TM45.2)⟩
          · skip
            refine PW.sw1 (4) h48 q_199_33 (by decide) (by decide) rfl rfl ?_
            refine PW.aload_n q_199_112 rfl ?_
            refine PW.gR 296 q_199_113 (Or.inl t_ft_199_33) gF_40_6 kd_294 IM45.1 (by decide) rfl ?_
            refine PW.cB q_199_116 (by decide) fun c61 hc61 => ?_
            refine PW.aH q_199_118 gA_42 kd_296 IM45.1 (by decide) (by omega) (by omega) fun x62 fx62 => ?_
            refine PW.iload_n q_199_119 rfl ?_
            refine PW.shrH q_199_120 fun x63 => ?_
            refine PW.cI q_199_121 (by decide) fun c64 hc64 => ?_
            refine PW.andP q_199_122 (by omega) fun x65 hx65 kx65 => ?_
            refine PW.rI q_199_123 rfl (by decide) (by decide) ?_
            exact hK x65 M45 IM45 FM45 ⟨TM45.1, (gHq.refl.tr TM45.2)⟩
          · skip
            refine PW.sw1 (5) h48 q_199_33 (by decide) (by decide) rfl rfl ?_
            refine PW.aload_n q_199_124 rfl ?_
            refine PW.gR 296 q_199_125 (Or.inl t_ft_199_33) gF_40_6 kd_294 IM45.1 (by decide) rfl ?_
            refine PW.cB q_199_128 (by decide) fun c66 hc66 => ?_
            refine PW.iload_n q_199_130 rfl ?_
            refine PW.addN q_199_131 (by have := n_lo a1; have := n_hi a1; omega) (by have := n_lo a1; have := n_hi a1; omega) fun x67 hx67 => ?_
            refine PW.aH q_199_132 gA_42 kd_296 IM45.1 (by decide) (by omega) (by omega) fun x68 fx68 => ?_
            refine PW.rI q_199_133 rfl (by decide) (by decide) ?_
            exact hK x68 M45 IM45 FM45 ⟨TM45.1, (gHq.refl.tr TM45.2)⟩
          · skip
            refine PW.tswO q_199_33 h48 rfl ?_
            refine PW.aload_n q_199_134 rfl ?_
            refine PW.gR 296 q_199_135 (Or.inl t_ft_199_33) gF_40_6 kd_294 IM45.1 (by decide) rfl ?_
            refine PW.cB q_199_138 (by decide) fun c69 hc69 => ?_
            refine PW.iload_n q_199_140 rfl ?_
            refine PW.addN q_199_141 (by have := n_lo a1; have := n_hi a1; omega) (by have := n_lo a1; have := n_hi a1; omega) fun x70 hx70 => ?_
            refine PW.aH q_199_142 gA_42 kd_296 IM45.1 (by decide) (by omega) (by omega) fun x71 fx71 => ?_
            refine PW.rI q_199_143 rfl (by decide) (by decide) ?_
            exact hK x71 M45 IM45 FM45 ⟨TM45.1, (gHq.refl.tr TM45.2)⟩
theorem c_X12_dog (G : pG) (Kr : pK) (M : pM) (I : Iv gTT M) (a1 : Int32) (a2 : Int32) (hK : ∀ (x : Int32) (M1 : pM), Iv gTT M1 → Fr [40] M M1 → ((gLq M1 M) ∧ gHq M1 M) → Kr.1 (some (.int x)) 311 M1) : PW G false 2 200 (p_mc 200) (p_msl 200) Kr 0 (lv_args 0 [.ref 294, .int a1, .int a2]) [] 311 M 0 0 := by
  have F : Fr [40] M M := Fr.refl
  refine PW.aload_n q_200_0 rfl ?_
  refine PW.aload_n q_200_1 rfl ?_
  refine PW.iload_n q_200_2 rfl ?_
  refine PW.cV (as := [_]) (rest := [_]) q_200_3 t_mv_200_251 kd_294 I.1 (by decide) rfl (by decide) rfl rfl (Nat.le_of_ble_eq_true rfl) (Nat.le_of_ble_eq_true rfl) (by decide) (by decide) ?_
  refine PW.iload_n q_196_0 rfl ?_
  refine PW.cI q_196_1 (by decide) fun c1 hc1 => ?_
  refine PW.aload_n q_196_2 rfl ?_
  refine PW.gR 296 q_196_3 (Or.inl t_ft_196_33) gF_40_6 kd_294 I.1 (by decide) rfl ?_
  refine PW.cI q_196_6 (by decide) fun c2 hc2 => ?_
  refine PW.aI q_196_7 gA_42 kd_296 I.1 (by decide) gB_42_1_1 (by decide) (by omega) (by omega) fun x3 fx3 hx3 kx3 => ?_
  refine PW.cI q_196_8 (by decide) fun c4 hc4 => ?_
  refine PW.subN q_196_9 (by omega) (by omega) fun x5 hx5 => ?_
  refine PW.callS (as := [_, _, _]) (rest := []) q_196_10 t_ms_196_176 (by decide) rfl (Nat.le_of_ble_eq_true rfl) (Nat.le_of_ble_eq_true rfl) (by decide) (by decide) ?_
  refine PW.iload_n q_166_0 rfl ?_
  refine PW.iload_n q_166_1 rfl ?_
  refine PW.jc_lt q_166_2 rfl (fun h6 => ?_) (fun h6 => ?_)
  · skip
    refine PW.cI q_166_14 (by decide) fun c7 hc7 => ?_
    refine PW.rZ q_166_15 rfl (by omega) (by omega) (by decide) (by decide) ?_
    refine PW.rZ q_196_13 rfl (by omega) (by omega) (by decide) (by decide) ?_
    refine PW.jz_eq q_200_6 rfl (fun h8 => ?_) (fun h8 => False.elim (by omega))
    refine PW.cI q_200_19 (by decide) fun c9 hc9 => ?_
    refine PW.goto q_200_20 rfl ?_
    refine PW.cV (as := [_]) (rest := []) q_200_24 t_mv_200_247 kd_294 I.1 (by decide) rfl (by decide) rfl rfl (Nat.le_of_ble_eq_true rfl) (Nat.le_of_ble_eq_true rfl) (by decide) (by decide) ?_
    refine PW.up (by decide) (c_X12_throwsIf (gTT) (Stab0) G _ M I c9 (by omega) (by omega) fun x11 M10 IM10 GM10 hx11 kx11 PM10 TM10 => ?_)
    have FM10 := Fr.trans F GM10 (rfl)
    refine PW.jz_eq q_200_27 rfl (fun h12 => False.elim (by omega)) (fun h12 => ?_)
    refine PW.cI q_200_30 (by decide) fun c13 hc13 => ?_
    refine PW.rI q_200_31 rfl (by decide) (by decide) ?_
    exact hK c13 M10 IM10 FM10 ⟨TM10.1, (gHq.refl.tr TM10.2)⟩
  · skip
    refine PW.iload_n q_166_5 rfl ?_
    refine PW.iload_n q_166_6 rfl ?_
    refine PW.jc_gt q_166_7 rfl (fun h14 => ?_) (fun h14 => ?_)
    · skip
      refine PW.cI q_166_14 (by decide) fun c15 hc15 => ?_
      refine PW.rZ q_166_15 rfl (by omega) (by omega) (by decide) (by decide) ?_
      refine PW.rZ q_196_13 rfl (by omega) (by omega) (by decide) (by decide) ?_
      refine PW.jz_eq q_200_6 rfl (fun h16 => ?_) (fun h16 => False.elim (by omega))
      refine PW.cI q_200_19 (by decide) fun c17 hc17 => ?_
      refine PW.goto q_200_20 rfl ?_
      refine PW.cV (as := [_]) (rest := []) q_200_24 t_mv_200_247 kd_294 I.1 (by decide) rfl (by decide) rfl rfl (Nat.le_of_ble_eq_true rfl) (Nat.le_of_ble_eq_true rfl) (by decide) (by decide) ?_
      refine PW.up (by decide) (c_X12_throwsIf (gTT) (Stab0) G _ M I c17 (by omega) (by omega) fun x19 M18 IM18 GM18 hx19 kx19 PM18 TM18 => ?_)
      have FM18 := Fr.trans F GM18 (rfl)
      refine PW.jz_eq q_200_27 rfl (fun h20 => False.elim (by omega)) (fun h20 => ?_)
      refine PW.cI q_200_30 (by decide) fun c21 hc21 => ?_
      refine PW.rI q_200_31 rfl (by decide) (by decide) ?_
      exact hK c21 M18 IM18 FM18 ⟨TM18.1, (gHq.refl.tr TM18.2)⟩
    · skip
      refine PW.cI q_166_10 (by decide) fun c22 hc22 => ?_
      refine PW.goto q_166_11 rfl ?_
      refine PW.rZ q_166_15 rfl (by omega) (by omega) (by decide) (by decide) ?_
      refine PW.rZ q_196_13 rfl (by omega) (by omega) (by decide) (by decide) ?_
      refine PW.jz_eq q_200_6 rfl (fun h23 => False.elim (by omega)) (fun h23 => ?_)
      refine PW.iload_n q_200_9 rfl ?_
      refine PW.cI q_200_10 (by decide) fun c24 hc24 => ?_
      refine PW.cB q_200_11 (by decide) fun c25 hc25 => ?_
      refine PW.callS (as := [_, _, _]) (rest := [_]) q_200_13 t_ms_200_176 (by decide) rfl (Nat.le_of_ble_eq_true rfl) (Nat.le_of_ble_eq_true rfl) (by decide) (by decide) ?_
      refine PW.iload_n q_166_0 rfl ?_
      refine PW.iload_n q_166_1 rfl ?_
      refine PW.jc_lt q_166_2 rfl (fun h26 => ?_) (fun h26 => ?_)
      · skip
        refine PW.cI q_166_14 (by decide) fun c27 hc27 => ?_
        refine PW.rZ q_166_15 rfl (by omega) (by omega) (by decide) (by decide) ?_
        refine PW.jz_ne q_200_16 rfl (fun h28 => False.elim (by omega)) (fun h28 => ?_)
        refine PW.cI q_200_19 (by decide) fun c29 hc29 => ?_
        refine PW.goto q_200_20 rfl ?_
        refine PW.cV (as := [_]) (rest := []) q_200_24 t_mv_200_247 kd_294 I.1 (by decide) rfl (by decide) rfl rfl (Nat.le_of_ble_eq_true rfl) (Nat.le_of_ble_eq_true rfl) (by decide) (by decide) ?_
        refine PW.up (by decide) (c_X12_throwsIf (gTT) (Stab0) G _ M I c29 (by omega) (by omega) fun x31 M30 IM30 GM30 hx31 kx31 PM30 TM30 => ?_)
        have FM30 := Fr.trans F GM30 (rfl)
        refine PW.jz_eq q_200_27 rfl (fun h32 => False.elim (by omega)) (fun h32 => ?_)
        refine PW.cI q_200_30 (by decide) fun c33 hc33 => ?_
        refine PW.rI q_200_31 rfl (by decide) (by decide) ?_
        exact hK c33 M30 IM30 FM30 ⟨TM30.1, (gHq.refl.tr TM30.2)⟩
      · skip
        refine PW.iload_n q_166_5 rfl ?_
        refine PW.iload_n q_166_6 rfl ?_
        refine PW.jc_gt q_166_7 rfl (fun h34 => ?_) (fun h34 => ?_)
        · skip
          refine PW.cI q_166_14 (by decide) fun c35 hc35 => ?_
          refine PW.rZ q_166_15 rfl (by omega) (by omega) (by decide) (by decide) ?_
          refine PW.jz_ne q_200_16 rfl (fun h36 => False.elim (by omega)) (fun h36 => ?_)
          refine PW.cI q_200_19 (by decide) fun c37 hc37 => ?_
          refine PW.goto q_200_20 rfl ?_
          refine PW.cV (as := [_]) (rest := []) q_200_24 t_mv_200_247 kd_294 I.1 (by decide) rfl (by decide) rfl rfl (Nat.le_of_ble_eq_true rfl) (Nat.le_of_ble_eq_true rfl) (by decide) (by decide) ?_
          refine PW.up (by decide) (c_X12_throwsIf (gTT) (Stab0) G _ M I c37 (by omega) (by omega) fun x39 M38 IM38 GM38 hx39 kx39 PM38 TM38 => ?_)
          have FM38 := Fr.trans F GM38 (rfl)
          refine PW.jz_eq q_200_27 rfl (fun h40 => False.elim (by omega)) (fun h40 => ?_)
          refine PW.cI q_200_30 (by decide) fun c41 hc41 => ?_
          refine PW.rI q_200_31 rfl (by decide) (by decide) ?_
          exact hK c41 M38 IM38 FM38 ⟨TM38.1, (gHq.refl.tr TM38.2)⟩
        · skip
          refine PW.cI q_166_10 (by decide) fun c42 hc42 => ?_
          refine PW.goto q_166_11 rfl ?_
          refine PW.rZ q_166_15 rfl (by omega) (by omega) (by decide) (by decide) ?_
          refine PW.jz_ne q_200_16 rfl (fun h43 => ?_) (fun h43 => False.elim (by omega))
          refine PW.cI q_200_23 (by decide) fun c44 hc44 => ?_
          refine PW.cV (as := [_]) (rest := []) q_200_24 t_mv_200_247 kd_294 I.1 (by decide) rfl (by decide) rfl rfl (Nat.le_of_ble_eq_true rfl) (Nat.le_of_ble_eq_true rfl) (by decide) (by decide) ?_
          refine PW.up (by decide) (c_X12_throwsIf (gTT) (Stab0) G _ M I c44 (by omega) (by omega) fun x46 M45 IM45 GM45 hx46 kx46 PM45 TM45 => ?_)
          have FM45 := Fr.trans F GM45 (rfl)
          refine PW.jz_eq q_200_27 rfl (fun h47 => ?_) (fun h47 => False.elim (by omega))
          refine PW.iload_n q_200_32 rfl ?_
          have h48 : a2.toInt = 0 ∨ a2.toInt = 1 ∨ a2.toInt = 2 ∨ a2.toInt = 3 ∨ a2.toInt = 4 ∨ a2.toInt = 5 ∨ (a2.toInt < 0 ∨ 5 < a2.toInt) := by omega
          rcases h48 with h48 | h48 | h48 | h48 | h48 | h48 | h48
          · skip
            refine PW.sw1 (0) h48 q_200_33 (by decide) (by decide) rfl rfl ?_
            refine PW.aload_n q_200_72 rfl ?_
            refine PW.gR 296 q_200_73 (Or.inl t_ft_200_33) gF_40_6 kd_294 IM45.1 (by decide) rfl ?_
            refine PW.cB q_200_76 (by decide) fun c49 hc49 => ?_
            refine PW.iload_n q_200_78 rfl ?_
            refine PW.addN q_200_79 (by have := n_lo a1; have := n_hi a1; omega) (by have := n_lo a1; have := n_hi a1; omega) fun x50 hx50 => ?_
            refine PW.aH q_200_80 gA_42 kd_296 IM45.1 (by decide) (by omega) (by omega) fun x51 fx51 => ?_
            refine PW.rI q_200_81 rfl (by decide) (by decide) ?_
            exact hK x51 M45 IM45 FM45 ⟨TM45.1, (gHq.refl.tr TM45.2)⟩
          · skip
            refine PW.sw1 (1) h48 q_200_33 (by decide) (by decide) rfl rfl ?_
            refine PW.aload_n q_200_82 rfl ?_
            refine PW.gR 296 q_200_83 (Or.inl t_ft_200_33) gF_40_6 kd_294 IM45.1 (by decide) rfl ?_
            refine PW.cB q_200_86 (by decide) fun c52 hc52 => ?_
            refine PW.iload_n q_200_88 rfl ?_
            refine PW.addN q_200_89 (by have := n_lo a1; have := n_hi a1; omega) (by have := n_lo a1; have := n_hi a1; omega) fun x53 hx53 => ?_
            refine PW.aH q_200_90 gA_42 kd_296 IM45.1 (by decide) (by omega) (by omega) fun x54 fx54 => ?_
            refine PW.rI q_200_91 rfl (by decide) (by decide) ?_
            exact hK x54 M45 IM45 FM45 ⟨TM45.1, (gHq.refl.tr TM45.2)⟩
          · skip
            refine PW.sw1 (2) h48 q_200_33 (by decide) (by decide) rfl rfl ?_
            refine PW.aload_n q_200_92 rfl ?_
            refine PW.gR 296 q_200_93 (Or.inl t_ft_200_33) gF_40_6 kd_294 IM45.1 (by decide) rfl ?_
            refine PW.cB q_200_96 (by decide) fun c55 hc55 => ?_
            refine PW.iload_n q_200_98 rfl ?_
            refine PW.addN q_200_99 (by have := n_lo a1; have := n_hi a1; omega) (by have := n_lo a1; have := n_hi a1; omega) fun x56 hx56 => ?_
            refine PW.aH q_200_100 gA_42 kd_296 IM45.1 (by decide) (by omega) (by omega) fun x57 fx57 => ?_
            refine PW.rI q_200_101 rfl (by decide) (by decide) ?_
            exact hK x57 M45 IM45 FM45 ⟨TM45.1, (gHq.refl.tr TM45.2)⟩
          · skip
            refine PW.sw1 (3) h48 q_200_33 (by decide) (by decide) rfl rfl ?_
            refine PW.aload_n q_200_102 rfl ?_
            refine PW.gR 296 q_200_103 (Or.inl t_ft_200_33) gF_40_6 kd_294 IM45.1 (by decide) rfl ?_
            refine PW.cB q_200_106 (by decide) fun c58 hc58 => ?_
            refine PW.iload_n q_200_108 rfl ?_
            refine PW.addN q_200_109 (by have := n_lo a1; have := n_hi a1; omega) (by have := n_lo a1; have := n_hi a1; omega) fun x59 hx59 => ?_
            refine PW.aI q_200_110 gA_42 kd_296 IM45.1 (by decide) gB_42_80_81 (by decide) (by omega) (by omega) fun x60 fx60 hx60 kx60 => ?_
            refine PW.rI q_200_111 rfl (by decide) (by decide) ?_
            exact hK x60 M45 IM45 FM45 ⟨TM45.1, (gHq.refl.tr TM45.2)⟩
          · skip
            refine PW.sw1 (4) h48 q_200_33 (by decide) (by decide) rfl rfl ?_
            refine PW.aload_n q_200_112 rfl ?_
            refine PW.gR 296 q_200_113 (Or.inl t_ft_200_33) gF_40_6 kd_294 IM45.1 (by decide) rfl ?_
            refine PW.cB q_200_116 (by decide) fun c61 hc61 => ?_
            refine PW.iload_n q_200_118 rfl ?_
            refine PW.addN q_200_119 (by have := n_lo a1; have := n_hi a1; omega) (by have := n_lo a1; have := n_hi a1; omega) fun x62 hx62 => ?_
            refine PW.aI q_200_120 gA_42 kd_296 IM45.1 (by decide) gB_42_82_83 (by decide) (by omega) (by omega) fun x63 fx63 hx63 kx63 => ?_
            refine PW.cI q_200_121 (by decide) fun c64 hc64 => ?_
            refine PW.subN q_200_122 (by omega) (by omega) fun x65 hx65 => ?_
            refine PW.rI q_200_123 rfl (by decide) (by decide) ?_
            exact hK x65 M45 IM45 FM45 ⟨TM45.1, (gHq.refl.tr TM45.2)⟩
          · skip
            refine PW.sw1 (5) h48 q_200_33 (by decide) (by decide) rfl rfl ?_
            refine PW.aload_n q_200_124 rfl ?_
            refine PW.gR 296 q_200_125 (Or.inl t_ft_200_33) gF_40_6 kd_294 IM45.1 (by decide) rfl ?_
            refine PW.cB q_200_128 (by decide) fun c66 hc66 => ?_
            refine PW.iload_n q_200_130 rfl ?_
            refine PW.addN q_200_131 (by have := n_lo a1; have := n_hi a1; omega) (by have := n_lo a1; have := n_hi a1; omega) fun x67 hx67 => ?_
            refine PW.aH q_200_132 gA_42 kd_296 IM45.1 (by decide) (by omega) (by omega) fun x68 fx68 => ?_
            refine PW.rI q_200_133 rfl (by decide) (by decide) ?_
            exact hK x68 M45 IM45 FM45 ⟨TM45.1, (gHq.refl.tr TM45.2)⟩
          · skip
            refine PW.tswO q_200_33 h48 rfl ?_
            refine PW.aload_n q_200_134 rfl ?_
            refine PW.gR 296 q_200_135 (Or.inl t_ft_200_33) gF_40_6 kd_294 IM45.1 (by decide) rfl ?_
            refine PW.cB q_200_138 (by decide) fun c69 hc69 => ?_
            refine PW.iload_n q_200_140 rfl ?_
            refine PW.addN q_200_141 (by have := n_lo a1; have := n_hi a1; omega) (by have := n_lo a1; have := n_hi a1; omega) fun x70 hx70 => ?_
            refine PW.aI q_200_142 gA_42 kd_296 IM45.1 (by decide) gB_42_86_87 (by decide) (by omega) (by omega) fun x71 fx71 hx71 kx71 => ?_
            refine PW.rI q_200_143 rfl (by decide) (by decide) ?_
            exact hK x71 M45 IM45 FM45 ⟨TM45.1, (gHq.refl.tr TM45.2)⟩
theorem c_X12_allTurns (V : pM → Prop) (hV : Stab V) (G : pG) (Kr : pK) (M : pM) (I : Iv V M)  (hK : ∀ (x : Int32) (M1 : pM), Iv V M1 → Fr [] M M1 → ((gLq M1 M) ∧ gHq M1 M) → Kr.1 (some (.int x)) 311 M1) : PW G false 0 201 (p_mc 201) (p_msl 201) Kr 0 (lv_args 0 [.ref 294]) [] 311 M 0 0 := by
  have F : Fr [] M M := Fr.refl
  refine PW.aload_n q_201_0 rfl ?_
  refine PW.gR 296 q_201_1 (Or.inl t_ft_201_33) gF_40_6 kd_294 I.1 (by decide) rfl ?_
  refine PW.cB q_201_4 (by decide) fun c1 hc1 => ?_
  refine PW.aI q_201_6 gA_42 kd_296 I.1 (by decide) gB_42_80_80 (by decide) (by omega) (by omega) fun x2 fx2 hx2 kx2 => ?_
  refine PW.aload_n q_201_7 rfl ?_
  refine PW.gR 296 q_201_8 (Or.inl t_ft_201_33) gF_40_6 kd_294 I.1 (by decide) rfl ?_
  refine PW.cB q_201_11 (by decide) fun c3 hc3 => ?_
  refine PW.aI q_201_13 gA_42 kd_296 I.1 (by decide) gB_42_81_81 (by decide) (by omega) (by omega) fun x4 fx4 hx4 kx4 => ?_
  refine PW.addN q_201_14 (by omega) (by omega) fun x5 hx5 => ?_
  refine PW.rI q_201_15 rfl (by decide) (by decide) ?_
  exact hK x5 M I F ⟨rfl, gHq.refl⟩
theorem c_X12_now (G : pG) (Kr : pK) (M : pM) (I : Iv gTT M) (a1 : Int32) (hK : ∀ (x : Int32) (M1 : pM), Iv gTT M1 → Fr [40] M M1 → ((gLq M1 M) ∧ gHq M1 M) → Kr.1 (some (.int x)) 311 M1) : PW G false 1 202 (p_mc 202) (p_msl 202) Kr 0 (lv_args 0 [.ref 294, .int a1]) [] 311 M 0 0 := by
  have F : Fr [40] M M := Fr.refl
  refine PW.aload_n q_202_0 rfl ?_
  refine PW.cI q_202_1 (by decide) fun c1 hc1 => ?_
  refine PW.pI q_202_2 (Or.inl t_ft_202_1) gF_40_0 gP_40_0 kd_294 Stab0 I (by decide) rfl (n_lo _) (n_hi _) fun M2 IM2 fM2 UM2 => ?_
  have FM2 := Fr.pu F UM2.1 kd_294 (rfl : List.contains [40] 40 = true)
  refine PW.cI q_202_5 (by decide) fun c3 hc3 => ?_
  refine PW.istore_n q_202_6 (by decide) ?_
  refine PW.cI q_202_7 (by decide) fun c4 hc4 => ?_
  refine PW.istore_n q_202_8 (by decide) ?_
  have L202_9_5 : ∀ (n : Nat) (ML202_9_5 : pM) (v6 v7 : Int32), Iv (gTT) ML202_9_5 → Fr [40] M ML202_9_5 → 0 ≤ v7.toInt → v7.toInt ≤ 6 → (gLq ML202_9_5 M ∧ gHq ML202_9_5 M) → (6 - v7.toInt).toNat = n → PW G false 1 202 (p_mc 202) (p_msl 202) Kr 9 [(0, .ref 294), (1, .int a1), (2, .int v6), (3, .int v7)] [] 311 ML202_9_5 0 0 := by
    intro n
    induction n using Nat.strongRecOn with
    | ind n ih_L202_9_5 =>
    intro ML202_9_5 v6 v7 IML202_9_5 FML202_9_5 hbL202_9_50 hbL202_9_51 hbL202_9_52 hmL202_9_5
    refine PW.iload_n q_202_9 rfl ?_
    refine PW.aload_n q_202_10 rfl ?_
    refine PW.gR 296 q_202_11 (Or.inl t_ft_202_33) gF_40_6 kd_294 IML202_9_5.1 (by decide) rfl ?_
    refine PW.cI q_202_14 (by decide) fun c8 hc8 => ?_
    refine PW.aI q_202_15 gA_42 kd_296 IML202_9_5.1 (by decide) gB_42_0_0 (by decide) (by omega) (by omega) fun x9 fx9 hx9 kx9 => ?_
    refine PW.jc_ge q_202_16 rfl (fun h10 => ?_) (fun h10 => ?_)
    · skip
      refine PW.iload_n q_202_39 rfl ?_
      have h11 : a1.toInt = 0 ∨ a1.toInt = 1 ∨ a1.toInt = 2 ∨ a1.toInt = 3 ∨ a1.toInt = 4 ∨ a1.toInt = 5 ∨ (a1.toInt < 0 ∨ 5 < a1.toInt) := by omega
      rcases h11 with h11 | h11 | h11 | h11 | h11 | h11 | h11
      · skip
        refine PW.sw1 (0) h11 q_202_40 (by decide) (by decide) rfl rfl ?_
        refine PW.aload_n q_202_80 rfl ?_
        refine PW.gR 296 q_202_81 (Or.inl t_ft_202_33) gF_40_6 kd_294 IML202_9_5.1 (by decide) rfl ?_
        refine PW.cB q_202_84 (by decide) fun c12 hc12 => ?_
        refine PW.aI q_202_86 gA_42 kd_296 IML202_9_5.1 (by decide) gB_42_33_33 (by decide) (by omega) (by omega) fun x13 fx13 hx13 kx13 => ?_
        refine PW.rI q_202_87 rfl (by decide) (by decide) ?_
        exact hK x13 ML202_9_5 IML202_9_5 FML202_9_5 ⟨hbL202_9_52.1, hbL202_9_52.2⟩
      · skip
        refine PW.sw1 (1) h11 q_202_40 (by decide) (by decide) rfl rfl ?_
        refine PW.aload_n q_202_88 rfl ?_
        refine PW.gR 296 q_202_89 (Or.inl t_ft_202_33) gF_40_6 kd_294 IML202_9_5.1 (by decide) rfl ?_
        refine PW.cB q_202_92 (by decide) fun c14 hc14 => ?_
        refine PW.aI q_202_94 gA_42 kd_296 IML202_9_5.1 (by decide) gB_42_34_34 (by decide) (by omega) (by omega) fun x15 fx15 hx15 kx15 => ?_
        refine PW.cI q_202_95 (by decide) fun c16 hc16 => ?_
        refine PW.subN q_202_96 (by omega) (by omega) fun x17 hx17 => ?_
        refine PW.rI q_202_97 rfl (by decide) (by decide) ?_
        exact hK x17 ML202_9_5 IML202_9_5 FML202_9_5 ⟨hbL202_9_52.1, hbL202_9_52.2⟩
      · skip
        refine PW.sw1 (2) h11 q_202_40 (by decide) (by decide) rfl rfl ?_
        refine PW.aload_n q_202_98 rfl ?_
        refine PW.gR 296 q_202_99 (Or.inl t_ft_202_33) gF_40_6 kd_294 IML202_9_5.1 (by decide) rfl ?_
        refine PW.cB q_202_102 (by decide) fun c18 hc18 => ?_
        refine PW.aI q_202_104 gA_42 kd_296 IML202_9_5.1 (by decide) gB_42_35_35 (by decide) (by omega) (by omega) fun x19 fx19 hx19 kx19 => ?_
        refine PW.cI q_202_105 (by decide) fun c20 hc20 => ?_
        refine PW.subN q_202_106 (by omega) (by omega) fun x21 hx21 => ?_
        refine PW.rI q_202_107 rfl (by decide) (by decide) ?_
        exact hK x21 ML202_9_5 IML202_9_5 FML202_9_5 ⟨hbL202_9_52.1, hbL202_9_52.2⟩
      · skip
        refine PW.sw1 (3) h11 q_202_40 (by decide) (by decide) rfl rfl ?_
        refine PW.aload_n q_202_108 rfl ?_
        refine PW.gR 296 q_202_109 (Or.inl t_ft_202_33) gF_40_6 kd_294 IML202_9_5.1 (by decide) rfl ?_
        refine PW.cB q_202_112 (by decide) fun c22 hc22 => ?_
        refine PW.aH q_202_114 gA_42 kd_296 IML202_9_5.1 (by decide) (by omega) (by omega) fun x23 fx23 => ?_
        refine PW.rI q_202_115 rfl (by decide) (by decide) ?_
        exact hK x23 ML202_9_5 IML202_9_5 FML202_9_5 ⟨hbL202_9_52.1, hbL202_9_52.2⟩
      · skip
        refine PW.sw1 (4) h11 q_202_40 (by decide) (by decide) rfl rfl ?_
        refine PW.iload_n q_202_116 rfl ?_
        refine PW.rI q_202_117 rfl (by decide) (by decide) ?_
        exact hK v6 ML202_9_5 IML202_9_5 FML202_9_5 ⟨hbL202_9_52.1, hbL202_9_52.2⟩
      · skip
        refine PW.sw1 (5) h11 q_202_40 (by decide) (by decide) rfl rfl ?_
        refine PW.aload_n q_202_118 rfl ?_
        refine PW.cV (as := []) (rest := []) q_202_119 t_mv_202_254 kd_294 IML202_9_5.1 (by decide) rfl (by decide) rfl rfl (Nat.le_of_ble_eq_true rfl) (Nat.le_of_ble_eq_true rfl) (by decide) (by decide) ?_
        refine PW.up (by decide) (c_X12_allTurns (gTT) (Stab0) G _ ML202_9_5 IML202_9_5  fun x25 M24 IM24 GM24 TM24 => ?_)
        have FM24 := Fr.trans FML202_9_5 GM24 (rfl)
        refine PW.rI q_202_122 rfl (by decide) (by decide) ?_
        exact hK x25 M24 IM24 FM24 ⟨((congrArg (fun e => o_i e 2) (Fr.at GM24 kd_294 rfl)).trans hbL202_9_52.1), (hbL202_9_52.2.cg (Fr.at GM24 kd_296 rfl) (Fr.at GM24 kd_294 rfl))⟩
      · skip
        refine PW.tswO q_202_40 h11 rfl ?_
        refine PW.cI q_202_123 (by decide) fun c26 hc26 => ?_
        refine PW.rI q_202_124 rfl (by decide) (by decide) ?_
        exact hK c26 ML202_9_5 IML202_9_5 FML202_9_5 ⟨hbL202_9_52.1, hbL202_9_52.2⟩
    · skip
      refine PW.iload_n q_202_19 rfl ?_
      refine PW.aload_n q_202_20 rfl ?_
      refine PW.gR 296 q_202_21 (Or.inl t_ft_202_33) gF_40_6 kd_294 IML202_9_5.1 (by decide) rfl ?_
      refine PW.cB q_202_24 (by decide) fun c27 hc27 => ?_
      refine PW.iload_n q_202_26 rfl ?_
      refine PW.addN q_202_27 (by omega) (by omega) fun x28 hx28 => ?_
      refine PW.aH q_202_28 gA_42 kd_296 IML202_9_5.1 (by decide) (by omega) (by omega) fun x29 fx29 => ?_
      refine PW.iload_n q_202_29 rfl ?_
      refine PW.shlH q_202_30 fun x30 => ?_
      refine PW.orH q_202_31 fun x31 => ?_
      refine PW.istore_n q_202_32 (by decide) ?_
      refine PW.incN q_202_33 rfl (by decide) (by decide) (by omega) (by omega) fun x32 hx32 => ?_
      refine PW.goto q_202_36 rfl ?_
      refine PW.lvS (lk1 rfl (lk1 rfl (lk1 rfl (lk1 rfl lk0)))) (ih_L202_9_5 _ ?_ ML202_9_5 x31 x32 IML202_9_5 FML202_9_5 (by omega) (by omega) ⟨hbL202_9_52.1, hbL202_9_52.2⟩ rfl)
      omega
  exact PW.lvS (lk1 rfl (lk1 rfl (lk1 rfl (lk1 rfl lk0)))) (L202_9_5 _ M2 c3 c4 IM2 FM2 (by omega) (by omega) ⟨(UM2.i (c := 294) (k := 2) (Or.inr (by decide))), (gHq.refl.pu UM2 (by decide))⟩ rfl)
theorem c_X12_toggles (V : pM → Prop) (hV : Stab V) (G : pG) (Kr : pK) (M : pM) (I : Iv V M) (a1 : Int32) (hl_a1 : 0 ≤ a1.toInt) (hh_a1 : a1.toInt ≤ 5) (hK : ∀ (M1 : pM), Iv V M1 → Fr [42] M M1 → ((o_a (M1 296) 33).toInt = (o_a (M 296) 33).toInt) → ((gLq M1 M) ∧ gHq M1 M) → Kr.1 none 311 M1) : PW G false 0 212 (p_mc 212) (p_msl 212) Kr 0 (lv_args 0 [.ref 294, .int a1]) [] 311 M 0 0 := by
  have F : Fr [42] M M := Fr.refl
  refine PW.aload_n q_212_0 rfl ?_
  refine PW.gR 296 q_212_1 (Or.inl t_ft_212_33) gF_40_6 kd_294 I.1 (by decide) rfl ?_
  refine PW.cB q_212_4 (by decide) fun c1 hc1 => ?_
  refine PW.iload_n q_212_6 rfl ?_
  refine PW.addN q_212_7 (by omega) (by omega) fun x2 hx2 => ?_
  refine PW.cI q_212_8 (by decide) fun c3 hc3 => ?_
  refine PW.aload_n q_212_9 rfl ?_
  refine PW.gR 296 q_212_10 (Or.inl t_ft_212_33) gF_40_6 kd_294 I.1 (by decide) rfl ?_
  refine PW.cB q_212_13 (by decide) fun c4 hc4 => ?_
  refine PW.iload_n q_212_15 rfl ?_
  refine PW.addN q_212_16 (by omega) (by omega) fun x5 hx5 => ?_
  refine PW.aH q_212_17 gA_42 kd_296 I.1 (by decide) (by omega) (by omega) fun x6 fx6 => ?_
  refine PW.subH q_212_18 fun x7 => ?_
  refine PW.wS q_212_19 hV I gC_42_48_53 gN_48_53 (by decide) (by omega) (by omega) (n_lo _) (n_hi _) fun M8 IM8 fM8 UM8 => ?_
  have FM8 := Fr.pu F UM8.1 kd_296 (rfl : List.contains [42] 42 = true)
  have ty9 : (o_a (M8 296) 33).toInt = (o_a (M 296) 33).toInt := by rw [UM8.2 33 (by omega)]
  refine PW.vret q_212_20 rfl (by decide) (by decide) ?_
  exact hK M8 IM8 FM8 (by omega) ⟨(congrArg (fun e => o_i e 2) (UM8.1 294 (by decide))), (gHq.refl.st UM8 (by omega))⟩
theorem c_X12_turnsRound (V : pM → Prop) (hV : Stab V) (G : pG) (Kr : pK) (M : pM) (I : Iv V M) (a1 : Int32) (hl_a1 : 0 ≤ a1.toInt) (hh_a1 : a1.toInt ≤ 5) (hK : ∀ (M1 : pM), Iv V M1 → Fr [42] M M1 → ((o_a (M1 296) 33).toInt = (o_a (M 296) 33).toInt) → ((gLq M1 M) ∧ gHq M1 M) → Kr.1 none 311 M1) : PW G false 0 213 (p_mc 213) (p_msl 213) Kr 0 (lv_args 0 [.ref 294, .int a1]) [] 311 M 0 0 := by
  have F : Fr [42] M M := Fr.refl
  refine PW.aload_n q_213_0 rfl ?_
  refine PW.gR 296 q_213_1 (Or.inl t_ft_213_33) gF_40_6 kd_294 I.1 (by decide) rfl ?_
  refine PW.cB q_213_4 (by decide) fun c1 hc1 => ?_
  refine PW.iload_n q_213_6 rfl ?_
  refine PW.addN q_213_7 (by omega) (by omega) fun x2 hx2 => ?_
  refine PW.cI q_213_8 (by decide) fun c3 hc3 => ?_
  refine PW.aload_n q_213_9 rfl ?_
  refine PW.gR 296 q_213_10 (Or.inl t_ft_213_33) gF_40_6 kd_294 I.1 (by decide) rfl ?_
  refine PW.cB q_213_13 (by decide) fun c4 hc4 => ?_
  refine PW.iload_n q_213_15 rfl ?_
  refine PW.addN q_213_16 (by omega) (by omega) fun x5 hx5 => ?_
  refine PW.aH q_213_17 gA_42 kd_296 I.1 (by decide) (by omega) (by omega) fun x6 fx6 => ?_
  refine PW.subH q_213_18 fun x7 => ?_
  refine PW.wS q_213_19 hV I gC_42_42_47 gN_42_47 (by decide) (by omega) (by omega) (n_lo _) (n_hi _) fun M8 IM8 fM8 UM8 => ?_
  have FM8 := Fr.pu F UM8.1 kd_296 (rfl : List.contains [42] 42 = true)
  have ty9 : (o_a (M8 296) 33).toInt = (o_a (M 296) 33).toInt := by rw [UM8.2 33 (by omega)]
  refine PW.vret q_213_20 rfl (by decide) (by decide) ?_
  exact hK M8 IM8 FM8 (by omega) ⟨(congrArg (fun e => o_i e 2) (UM8.1 294 (by decide))), (gHq.refl.st UM8 (by omega))⟩
theorem c_X12_stop (G : pG) (Kr : pK) (M : pM) (I : Iv gTT M) (a1 : Int32) (hK : ∀ (x : Int32) (M1 : pM), Iv gTT M1 → Fr [40, 42, 47] M M1 → ((gLq M1 M) ∧ gHq M1 M) → Kr.1 (some (.int x)) 311 M1) : PW G false 2 214 (p_mc 214) (p_msl 214) Kr 0 (lv_args 0 [.ref 294, .int a1]) [] 311 M 0 0 := by
  have F : Fr [40, 42, 47] M M := Fr.refl
  refine PW.aload_n q_214_0 rfl ?_
  refine PW.cI q_214_1 (by decide) fun c1 hc1 => ?_
  refine PW.pI q_214_2 (Or.inl t_ft_214_1) gF_40_0 gP_40_0 kd_294 Stab0 I (by decide) rfl (n_lo _) (n_hi _) fun M2 IM2 fM2 UM2 => ?_
  have FM2 := Fr.pu F UM2.1 kd_294 (rfl : List.contains [40, 42, 47] 40 = true)
  refine PW.aload_n q_214_5 rfl ?_
  refine PW.iload_n q_214_6 rfl ?_
  refine PW.cV (as := [_]) (rest := []) q_214_7 t_mv_214_241 kd_294 IM2.1 (by decide) rfl (by decide) rfl rfl (Nat.le_of_ble_eq_true rfl) (Nat.le_of_ble_eq_true rfl) (by decide) (by decide) ?_
  refine PW.iload_n q_195_0 rfl ?_
  refine PW.cI q_195_1 (by decide) fun c3 hc3 => ?_
  refine PW.aload_n q_195_2 rfl ?_
  refine PW.gR 296 q_195_3 (Or.inl t_ft_195_33) gF_40_6 kd_294 IM2.1 (by decide) rfl ?_
  refine PW.cI q_195_6 (by decide) fun c4 hc4 => ?_
  refine PW.aI q_195_7 gA_42 kd_296 IM2.1 (by decide) gB_42_0_0 (by decide) (by omega) (by omega) fun x5 fx5 hx5 kx5 => ?_
  refine PW.cI q_195_8 (by decide) fun c6 hc6 => ?_
  refine PW.subN q_195_9 (by omega) (by omega) fun x7 hx7 => ?_
  refine PW.callS (as := [_, _, _]) (rest := []) q_195_10 t_ms_195_176 (by decide) rfl (Nat.le_of_ble_eq_true rfl) (Nat.le_of_ble_eq_true rfl) (by decide) (by decide) ?_
  refine PW.iload_n q_166_0 rfl ?_
  refine PW.iload_n q_166_1 rfl ?_
  refine PW.jc_lt q_166_2 rfl (fun h8 => ?_) (fun h8 => ?_)
  · skip
    refine PW.cI q_166_14 (by decide) fun c9 hc9 => ?_
    refine PW.rZ q_166_15 rfl (by omega) (by omega) (by decide) (by decide) ?_
    refine PW.rZ q_195_13 rfl (by omega) (by omega) (by decide) (by decide) ?_
    refine PW.jz_ne q_214_10 rfl (fun h10 => False.elim (by omega)) (fun h10 => ?_)
    refine PW.cI q_214_13 (by decide) fun c11 hc11 => ?_
    refine PW.rI q_214_14 rfl (by decide) (by decide) ?_
    exact hK c11 M2 IM2 FM2 ⟨(UM2.i (c := 294) (k := 2) (Or.inr (by decide))), (gHq.refl.pu UM2 (by decide))⟩
  · skip
    refine PW.iload_n q_166_5 rfl ?_
    refine PW.iload_n q_166_6 rfl ?_
    refine PW.jc_gt q_166_7 rfl (fun h12 => ?_) (fun h12 => ?_)
    · skip
      refine PW.cI q_166_14 (by decide) fun c13 hc13 => ?_
      refine PW.rZ q_166_15 rfl (by omega) (by omega) (by decide) (by decide) ?_
      refine PW.rZ q_195_13 rfl (by omega) (by omega) (by decide) (by decide) ?_
      refine PW.jz_ne q_214_10 rfl (fun h14 => False.elim (by omega)) (fun h14 => ?_)
      refine PW.cI q_214_13 (by decide) fun c15 hc15 => ?_
      refine PW.rI q_214_14 rfl (by decide) (by decide) ?_
      exact hK c15 M2 IM2 FM2 ⟨(UM2.i (c := 294) (k := 2) (Or.inr (by decide))), (gHq.refl.pu UM2 (by decide))⟩
    · skip
      refine PW.cI q_166_10 (by decide) fun c16 hc16 => ?_
      refine PW.goto q_166_11 rfl ?_
      refine PW.rZ q_166_15 rfl (by omega) (by omega) (by decide) (by decide) ?_
      refine PW.rZ q_195_13 rfl (by omega) (by omega) (by decide) (by decide) ?_
      refine PW.jz_ne q_214_10 rfl (fun h17 => ?_) (fun h17 => False.elim (by omega))
      refine PW.aload_n q_214_15 rfl ?_
      refine PW.gR 296 q_214_16 (Or.inl t_ft_214_33) gF_40_6 kd_294 IM2.1 (by decide) rfl ?_
      refine PW.cB q_214_19 (by decide) fun c18 hc18 => ?_
      refine PW.iload_n q_214_21 rfl ?_
      refine PW.addN q_214_22 (by have := n_lo a1; have := n_hi a1; omega) (by have := n_lo a1; have := n_hi a1; omega) fun x19 hx19 => ?_
      refine PW.aH q_214_23 gA_42 kd_296 IM2.1 (by decide) (by omega) (by omega) fun x20 fx20 => ?_
      refine PW.jz_ne q_214_24 rfl (fun h21 => ?_) (fun h21 => ?_)
      · skip
        refine PW.aload_n q_214_29 rfl ?_
        refine PW.cV (as := []) (rest := []) q_214_30 t_mv_214_290 kd_294 IM2.1 (by decide) rfl (by decide) rfl rfl (Nat.le_of_ble_eq_true rfl) (Nat.le_of_ble_eq_true rfl) (by decide) (by decide) ?_
        refine PW.up (by decide) (c_X12_keep G _ M2 IM2  fun M22 IM22 GM22 PM22 TM22 => ?_)
        have FM22 := Fr.trans FM2 GM22 (rfl)
        refine PW.aload_n q_214_33 rfl ?_
        refine PW.iload_n q_214_34 rfl ?_
        refine PW.cV (as := [_]) (rest := []) q_214_35 t_mv_214_293 kd_294 IM22.1 (by decide) rfl (by decide) rfl rfl (Nat.le_of_ble_eq_true rfl) (Nat.le_of_ble_eq_true rfl) (by decide) (by decide) ?_
        refine PW.up (by decide) (c_X12_toggles (gTT) (Stab0) G _ M22 IM22 a1 (by omega) (by omega) fun M23 IM23 GM23 PM23 TM23 => ?_)
        have FM23 := Fr.trans FM22 GM23 (rfl)
        refine PW.cI q_214_38 (by decide) fun c24 hc24 => ?_
        refine PW.rI q_214_39 rfl (by decide) (by decide) ?_
        exact hK c24 M23 IM23 FM23 ⟨((congrArg (fun e => o_i e 2) (Fr.at GM23 kd_294 rfl)).trans (TM22.1.trans (UM2.i (c := 294) (k := 2) (Or.inr (by decide))))), (((gHq.refl.pu UM2 (by decide)).tr TM22.2).tr TM23.2)⟩
      · skip
        refine PW.cI q_214_27 (by decide) fun c25 hc25 => ?_
        refine PW.rI q_214_28 rfl (by decide) (by decide) ?_
        exact hK c25 M2 IM2 FM2 ⟨(UM2.i (c := 294) (k := 2) (Or.inr (by decide))), (gHq.refl.pu UM2 (by decide))⟩
theorem c_X12_walk (G : pG) (Kr : pK) (M : pM) (I : Iv gTT M) (a1 : Int32) (hK : ∀ (x : Int32) (M1 : pM), Iv gTT M1 → Fr [40, 42, 47] M M1 → ((gLq M1 M) ∧ gHq M1 M) → Kr.1 (some (.int x)) 311 M1) : PW G false 2 215 (p_mc 215) (p_msl 215) Kr 0 (lv_args 0 [.ref 294, .int a1]) [] 311 M 0 0 := by
  have F : Fr [40, 42, 47] M M := Fr.refl
  refine PW.aload_n q_215_0 rfl ?_
  refine PW.cI q_215_1 (by decide) fun c1 hc1 => ?_
  refine PW.pI q_215_2 (Or.inl t_ft_215_1) gF_40_0 gP_40_0 kd_294 Stab0 I (by decide) rfl (n_lo _) (n_hi _) fun M2 IM2 fM2 UM2 => ?_
  have FM2 := Fr.pu F UM2.1 kd_294 (rfl : List.contains [40, 42, 47] 40 = true)
  refine PW.aload_n q_215_5 rfl ?_
  refine PW.iload_n q_215_6 rfl ?_
  refine PW.cV (as := [_]) (rest := []) q_215_7 t_mv_215_241 kd_294 IM2.1 (by decide) rfl (by decide) rfl rfl (Nat.le_of_ble_eq_true rfl) (Nat.le_of_ble_eq_true rfl) (by decide) (by decide) ?_
  refine PW.iload_n q_195_0 rfl ?_
  refine PW.cI q_195_1 (by decide) fun c3 hc3 => ?_
  refine PW.aload_n q_195_2 rfl ?_
  refine PW.gR 296 q_195_3 (Or.inl t_ft_195_33) gF_40_6 kd_294 IM2.1 (by decide) rfl ?_
  refine PW.cI q_195_6 (by decide) fun c4 hc4 => ?_
  refine PW.aI q_195_7 gA_42 kd_296 IM2.1 (by decide) gB_42_0_0 (by decide) (by omega) (by omega) fun x5 fx5 hx5 kx5 => ?_
  refine PW.cI q_195_8 (by decide) fun c6 hc6 => ?_
  refine PW.subN q_195_9 (by omega) (by omega) fun x7 hx7 => ?_
  refine PW.callS (as := [_, _, _]) (rest := []) q_195_10 t_ms_195_176 (by decide) rfl (Nat.le_of_ble_eq_true rfl) (Nat.le_of_ble_eq_true rfl) (by decide) (by decide) ?_
  refine PW.iload_n q_166_0 rfl ?_
  refine PW.iload_n q_166_1 rfl ?_
  refine PW.jc_lt q_166_2 rfl (fun h8 => ?_) (fun h8 => ?_)
  · skip
    refine PW.cI q_166_14 (by decide) fun c9 hc9 => ?_
    refine PW.rZ q_166_15 rfl (by omega) (by omega) (by decide) (by decide) ?_
    refine PW.rZ q_195_13 rfl (by omega) (by omega) (by decide) (by decide) ?_
    refine PW.jz_ne q_215_10 rfl (fun h10 => False.elim (by omega)) (fun h10 => ?_)
    refine PW.cI q_215_13 (by decide) fun c11 hc11 => ?_
    refine PW.rI q_215_14 rfl (by decide) (by decide) ?_
    exact hK c11 M2 IM2 FM2 ⟨(UM2.i (c := 294) (k := 2) (Or.inr (by decide))), (gHq.refl.pu UM2 (by decide))⟩
  · skip
    refine PW.iload_n q_166_5 rfl ?_
    refine PW.iload_n q_166_6 rfl ?_
    refine PW.jc_gt q_166_7 rfl (fun h12 => ?_) (fun h12 => ?_)
    · skip
      refine PW.cI q_166_14 (by decide) fun c13 hc13 => ?_
      refine PW.rZ q_166_15 rfl (by omega) (by omega) (by decide) (by decide) ?_
      refine PW.rZ q_195_13 rfl (by omega) (by omega) (by decide) (by decide) ?_
      refine PW.jz_ne q_215_10 rfl (fun h14 => False.elim (by omega)) (fun h14 => ?_)
      refine PW.cI q_215_13 (by decide) fun c15 hc15 => ?_
      refine PW.rI q_215_14 rfl (by decide) (by decide) ?_
      exact hK c15 M2 IM2 FM2 ⟨(UM2.i (c := 294) (k := 2) (Or.inr (by decide))), (gHq.refl.pu UM2 (by decide))⟩
    · skip
      refine PW.cI q_166_10 (by decide) fun c16 hc16 => ?_
      refine PW.goto q_166_11 rfl ?_
      refine PW.rZ q_166_15 rfl (by omega) (by omega) (by decide) (by decide) ?_
      refine PW.rZ q_195_13 rfl (by omega) (by omega) (by decide) (by decide) ?_
      refine PW.jz_ne q_215_10 rfl (fun h17 => ?_) (fun h17 => False.elim (by omega))
      refine PW.aload_n q_215_15 rfl ?_
      refine PW.gR 296 q_215_16 (Or.inl t_ft_215_33) gF_40_6 kd_294 IM2.1 (by decide) rfl ?_
      refine PW.cB q_215_19 (by decide) fun c18 hc18 => ?_
      refine PW.iload_n q_215_21 rfl ?_
      refine PW.addN q_215_22 (by have := n_lo a1; have := n_hi a1; omega) (by have := n_lo a1; have := n_hi a1; omega) fun x19 hx19 => ?_
      refine PW.aH q_215_23 gA_42 kd_296 IM2.1 (by decide) (by omega) (by omega) fun x20 fx20 => ?_
      refine PW.cI q_215_24 (by decide) fun c21 hc21 => ?_
      refine PW.jc_ne q_215_25 rfl (fun h22 => ?_) (fun h22 => ?_)
      · skip
        refine PW.aload_n q_215_30 rfl ?_
        refine PW.cV (as := []) (rest := []) q_215_31 t_mv_215_290 kd_294 IM2.1 (by decide) rfl (by decide) rfl rfl (Nat.le_of_ble_eq_true rfl) (Nat.le_of_ble_eq_true rfl) (by decide) (by decide) ?_
        refine PW.up (by decide) (c_X12_keep G _ M2 IM2  fun M23 IM23 GM23 PM23 TM23 => ?_)
        have FM23 := Fr.trans FM2 GM23 (rfl)
        refine PW.aload_n q_215_34 rfl ?_
        refine PW.iload_n q_215_35 rfl ?_
        refine PW.cV (as := [_]) (rest := []) q_215_36 t_mv_215_293 kd_294 IM23.1 (by decide) rfl (by decide) rfl rfl (Nat.le_of_ble_eq_true rfl) (Nat.le_of_ble_eq_true rfl) (by decide) (by decide) ?_
        refine PW.up (by decide) (c_X12_toggles (gTT) (Stab0) G _ M23 IM23 a1 (by omega) (by omega) fun M24 IM24 GM24 PM24 TM24 => ?_)
        have FM24 := Fr.trans FM23 GM24 (rfl)
        refine PW.cI q_215_39 (by decide) fun c25 hc25 => ?_
        refine PW.rI q_215_40 rfl (by decide) (by decide) ?_
        exact hK c25 M24 IM24 FM24 ⟨((congrArg (fun e => o_i e 2) (Fr.at GM24 kd_294 rfl)).trans (TM23.1.trans (UM2.i (c := 294) (k := 2) (Or.inr (by decide))))), (((gHq.refl.pu UM2 (by decide)).tr TM23.2).tr TM24.2)⟩
      · skip
        refine PW.cI q_215_28 (by decide) fun c26 hc26 => ?_
        refine PW.rI q_215_29 rfl (by decide) (by decide) ?_
        exact hK c26 M2 IM2 FM2 ⟨(UM2.i (c := 294) (k := 2) (Or.inr (by decide))), (gHq.refl.pu UM2 (by decide))⟩
theorem c_X12_turn (G : pG) (Kr : pK) (M : pM) (I : Iv gTT M) (a1 : Int32) (hK : ∀ (x : Int32) (M1 : pM), Iv gTT M1 → Fr [40, 42, 47] M M1 → ((gLq M1 M) ∧ gHq M1 M) → Kr.1 (some (.int x)) 311 M1) : PW G false 2 216 (p_mc 216) (p_msl 216) Kr 0 (lv_args 0 [.ref 294, .int a1]) [] 311 M 0 0 := by
  have F : Fr [40, 42, 47] M M := Fr.refl
  refine PW.aload_n q_216_0 rfl ?_
  refine PW.cI q_216_1 (by decide) fun c1 hc1 => ?_
  refine PW.pI q_216_2 (Or.inl t_ft_216_1) gF_40_0 gP_40_0 kd_294 Stab0 I (by decide) rfl (n_lo _) (n_hi _) fun M2 IM2 fM2 UM2 => ?_
  have FM2 := Fr.pu F UM2.1 kd_294 (rfl : List.contains [40, 42, 47] 40 = true)
  refine PW.aload_n q_216_5 rfl ?_
  refine PW.iload_n q_216_6 rfl ?_
  refine PW.cV (as := [_]) (rest := []) q_216_7 t_mv_216_241 kd_294 IM2.1 (by decide) rfl (by decide) rfl rfl (Nat.le_of_ble_eq_true rfl) (Nat.le_of_ble_eq_true rfl) (by decide) (by decide) ?_
  refine PW.iload_n q_195_0 rfl ?_
  refine PW.cI q_195_1 (by decide) fun c3 hc3 => ?_
  refine PW.aload_n q_195_2 rfl ?_
  refine PW.gR 296 q_195_3 (Or.inl t_ft_195_33) gF_40_6 kd_294 IM2.1 (by decide) rfl ?_
  refine PW.cI q_195_6 (by decide) fun c4 hc4 => ?_
  refine PW.aI q_195_7 gA_42 kd_296 IM2.1 (by decide) gB_42_0_0 (by decide) (by omega) (by omega) fun x5 fx5 hx5 kx5 => ?_
  refine PW.cI q_195_8 (by decide) fun c6 hc6 => ?_
  refine PW.subN q_195_9 (by omega) (by omega) fun x7 hx7 => ?_
  refine PW.callS (as := [_, _, _]) (rest := []) q_195_10 t_ms_195_176 (by decide) rfl (Nat.le_of_ble_eq_true rfl) (Nat.le_of_ble_eq_true rfl) (by decide) (by decide) ?_
  refine PW.iload_n q_166_0 rfl ?_
  refine PW.iload_n q_166_1 rfl ?_
  refine PW.jc_lt q_166_2 rfl (fun h8 => ?_) (fun h8 => ?_)
  · skip
    refine PW.cI q_166_14 (by decide) fun c9 hc9 => ?_
    refine PW.rZ q_166_15 rfl (by omega) (by omega) (by decide) (by decide) ?_
    refine PW.rZ q_195_13 rfl (by omega) (by omega) (by decide) (by decide) ?_
    refine PW.jz_ne q_216_10 rfl (fun h10 => False.elim (by omega)) (fun h10 => ?_)
    refine PW.cI q_216_13 (by decide) fun c11 hc11 => ?_
    refine PW.rI q_216_14 rfl (by decide) (by decide) ?_
    exact hK c11 M2 IM2 FM2 ⟨(UM2.i (c := 294) (k := 2) (Or.inr (by decide))), (gHq.refl.pu UM2 (by decide))⟩
  · skip
    refine PW.iload_n q_166_5 rfl ?_
    refine PW.iload_n q_166_6 rfl ?_
    refine PW.jc_gt q_166_7 rfl (fun h12 => ?_) (fun h12 => ?_)
    · skip
      refine PW.cI q_166_14 (by decide) fun c13 hc13 => ?_
      refine PW.rZ q_166_15 rfl (by omega) (by omega) (by decide) (by decide) ?_
      refine PW.rZ q_195_13 rfl (by omega) (by omega) (by decide) (by decide) ?_
      refine PW.jz_ne q_216_10 rfl (fun h14 => False.elim (by omega)) (fun h14 => ?_)
      refine PW.cI q_216_13 (by decide) fun c15 hc15 => ?_
      refine PW.rI q_216_14 rfl (by decide) (by decide) ?_
      exact hK c15 M2 IM2 FM2 ⟨(UM2.i (c := 294) (k := 2) (Or.inr (by decide))), (gHq.refl.pu UM2 (by decide))⟩
    · skip
      refine PW.cI q_166_10 (by decide) fun c16 hc16 => ?_
      refine PW.goto q_166_11 rfl ?_
      refine PW.rZ q_166_15 rfl (by omega) (by omega) (by decide) (by decide) ?_
      refine PW.rZ q_195_13 rfl (by omega) (by omega) (by decide) (by decide) ?_
      refine PW.jz_ne q_216_10 rfl (fun h17 => ?_) (fun h17 => False.elim (by omega))
      refine PW.aload_n q_216_15 rfl ?_
      refine PW.cV (as := []) (rest := []) q_216_16 t_mv_216_290 kd_294 IM2.1 (by decide) rfl (by decide) rfl rfl (Nat.le_of_ble_eq_true rfl) (Nat.le_of_ble_eq_true rfl) (by decide) (by decide) ?_
      refine PW.up (by decide) (c_X12_keep G _ M2 IM2  fun M18 IM18 GM18 PM18 TM18 => ?_)
      have FM18 := Fr.trans FM2 GM18 (rfl)
      refine PW.aload_n q_216_19 rfl ?_
      refine PW.iload_n q_216_20 rfl ?_
      refine PW.cV (as := [_]) (rest := []) q_216_21 t_mv_216_296 kd_294 IM18.1 (by decide) rfl (by decide) rfl rfl (Nat.le_of_ble_eq_true rfl) (Nat.le_of_ble_eq_true rfl) (by decide) (by decide) ?_
      refine PW.up (by decide) (c_X12_turnsRound (gTT) (Stab0) G _ M18 IM18 a1 (by omega) (by omega) fun M19 IM19 GM19 PM19 TM19 => ?_)
      have FM19 := Fr.trans FM18 GM19 (rfl)
      refine PW.cI q_216_24 (by decide) fun c20 hc20 => ?_
      refine PW.rI q_216_25 rfl (by decide) (by decide) ?_
      exact hK c20 M19 IM19 FM19 ⟨((congrArg (fun e => o_i e 2) (Fr.at GM19 kd_294 rfl)).trans (TM18.1.trans (UM2.i (c := 294) (k := 2) (Or.inr (by decide))))), (((gHq.refl.pu UM2 (by decide)).tr TM18.2).tr TM19.2)⟩
theorem c_X12_call (G : pG) (Kr : pK) (M : pM) (I : Iv gTT M) (a1 : Int32) (hK : ∀ (x : Int32) (M1 : pM), Iv gTT M1 → Fr [40, 42, 47] M M1 → ((gLq M1 M) ∧ gHq M1 M) → Kr.1 (some (.int x)) 311 M1) : PW G false 2 217 (p_mc 217) (p_msl 217) Kr 0 (lv_args 0 [.ref 294, .int a1]) [] 311 M 0 0 := by
  have F : Fr [40, 42, 47] M M := Fr.refl
  refine PW.aload_n q_217_0 rfl ?_
  refine PW.cI q_217_1 (by decide) fun c1 hc1 => ?_
  refine PW.pI q_217_2 (Or.inl t_ft_217_1) gF_40_0 gP_40_0 kd_294 Stab0 I (by decide) rfl (n_lo _) (n_hi _) fun M2 IM2 fM2 UM2 => ?_
  have FM2 := Fr.pu F UM2.1 kd_294 (rfl : List.contains [40, 42, 47] 40 = true)
  refine PW.aload_n q_217_5 rfl ?_
  refine PW.iload_n q_217_6 rfl ?_
  refine PW.cV (as := [_]) (rest := []) q_217_7 t_mv_217_241 kd_294 IM2.1 (by decide) rfl (by decide) rfl rfl (Nat.le_of_ble_eq_true rfl) (Nat.le_of_ble_eq_true rfl) (by decide) (by decide) ?_
  refine PW.iload_n q_195_0 rfl ?_
  refine PW.cI q_195_1 (by decide) fun c3 hc3 => ?_
  refine PW.aload_n q_195_2 rfl ?_
  refine PW.gR 296 q_195_3 (Or.inl t_ft_195_33) gF_40_6 kd_294 IM2.1 (by decide) rfl ?_
  refine PW.cI q_195_6 (by decide) fun c4 hc4 => ?_
  refine PW.aI q_195_7 gA_42 kd_296 IM2.1 (by decide) gB_42_0_0 (by decide) (by omega) (by omega) fun x5 fx5 hx5 kx5 => ?_
  refine PW.cI q_195_8 (by decide) fun c6 hc6 => ?_
  refine PW.subN q_195_9 (by omega) (by omega) fun x7 hx7 => ?_
  refine PW.callS (as := [_, _, _]) (rest := []) q_195_10 t_ms_195_176 (by decide) rfl (Nat.le_of_ble_eq_true rfl) (Nat.le_of_ble_eq_true rfl) (by decide) (by decide) ?_
  refine PW.iload_n q_166_0 rfl ?_
  refine PW.iload_n q_166_1 rfl ?_
  refine PW.jc_lt q_166_2 rfl (fun h8 => ?_) (fun h8 => ?_)
  · skip
    refine PW.cI q_166_14 (by decide) fun c9 hc9 => ?_
    refine PW.rZ q_166_15 rfl (by omega) (by omega) (by decide) (by decide) ?_
    refine PW.rZ q_195_13 rfl (by omega) (by omega) (by decide) (by decide) ?_
    refine PW.jz_ne q_217_10 rfl (fun h10 => False.elim (by omega)) (fun h10 => ?_)
    refine PW.cI q_217_13 (by decide) fun c11 hc11 => ?_
    refine PW.rI q_217_14 rfl (by decide) (by decide) ?_
    exact hK c11 M2 IM2 FM2 ⟨(UM2.i (c := 294) (k := 2) (Or.inr (by decide))), (gHq.refl.pu UM2 (by decide))⟩
  · skip
    refine PW.iload_n q_166_5 rfl ?_
    refine PW.iload_n q_166_6 rfl ?_
    refine PW.jc_gt q_166_7 rfl (fun h12 => ?_) (fun h12 => ?_)
    · skip
      refine PW.cI q_166_14 (by decide) fun c13 hc13 => ?_
      refine PW.rZ q_166_15 rfl (by omega) (by omega) (by decide) (by decide) ?_
      refine PW.rZ q_195_13 rfl (by omega) (by omega) (by decide) (by decide) ?_
      refine PW.jz_ne q_217_10 rfl (fun h14 => False.elim (by omega)) (fun h14 => ?_)
      refine PW.cI q_217_13 (by decide) fun c15 hc15 => ?_
      refine PW.rI q_217_14 rfl (by decide) (by decide) ?_
      exact hK c15 M2 IM2 FM2 ⟨(UM2.i (c := 294) (k := 2) (Or.inr (by decide))), (gHq.refl.pu UM2 (by decide))⟩
    · skip
      refine PW.cI q_166_10 (by decide) fun c16 hc16 => ?_
      refine PW.goto q_166_11 rfl ?_
      refine PW.rZ q_166_15 rfl (by omega) (by omega) (by decide) (by decide) ?_
      refine PW.rZ q_195_13 rfl (by omega) (by omega) (by decide) (by decide) ?_
      refine PW.jz_ne q_217_10 rfl (fun h17 => ?_) (fun h17 => False.elim (by omega))
      refine PW.aload_n q_217_15 rfl ?_
      refine PW.cV (as := []) (rest := []) q_217_16 t_mv_217_290 kd_294 IM2.1 (by decide) rfl (by decide) rfl rfl (Nat.le_of_ble_eq_true rfl) (Nat.le_of_ble_eq_true rfl) (by decide) (by decide) ?_
      refine PW.up (by decide) (c_X12_keep G _ M2 IM2  fun M18 IM18 GM18 PM18 TM18 => ?_)
      have FM18 := Fr.trans FM2 GM18 (rfl)
      refine PW.aload_n q_217_19 rfl ?_
      refine PW.gR 296 q_217_20 (Or.inl t_ft_217_33) gF_40_6 kd_294 IM18.1 (by decide) rfl ?_
      refine PW.cB q_217_23 (by decide) fun c19 hc19 => ?_
      refine PW.iload_n q_217_25 rfl ?_
      refine PW.cI q_217_26 (by decide) fun c20 hc20 => ?_
      refine PW.addN q_217_27 (by have := n_lo a1; have := n_hi a1; omega) (by have := n_lo a1; have := n_hi a1; omega) fun x21 hx21 => ?_
      refine PW.wS q_217_28 Stab0 IM18 gC_42_35_35 gN_35_35 (by decide) (by omega) (by omega) (by omega) (by omega) fun M22 IM22 fM22 UM22 => ?_
      have FM22 := Fr.pu FM18 UM22.1 kd_296 (rfl : List.contains [40, 42, 47] 42 = true)
      refine PW.cI q_217_29 (by decide) fun c23 hc23 => ?_
      refine PW.rI q_217_30 rfl (by decide) (by decide) ?_
      exact hK c23 M22 IM22 FM22 ⟨((congrArg (fun e => o_i e 2) (UM22.1 294 (by decide))).trans (TM18.1.trans (UM2.i (c := 294) (k := 2) (Or.inr (by decide))))), (((gHq.refl.pu UM2 (by decide)).tr TM18.2).st UM22 (by omega))⟩
theorem c_X12_throwStick (G : pG) (Kr : pK) (M : pM) (I : Iv gTT M) (a1 : Int32) (hK : ∀ (x : Int32) (M1 : pM), Iv gTT M1 → Fr [40, 42, 47] M M1 → ((gLq M1 M) ∧ gHq M1 M) → Kr.1 (some (.int x)) 311 M1) : PW G false 2 218 (p_mc 218) (p_msl 218) Kr 0 (lv_args 0 [.ref 294, .int a1]) [] 311 M 0 0 := by
  have F : Fr [40, 42, 47] M M := Fr.refl
  refine PW.aload_n q_218_0 rfl ?_
  refine PW.cI q_218_1 (by decide) fun c1 hc1 => ?_
  refine PW.pI q_218_2 (Or.inl t_ft_218_1) gF_40_0 gP_40_0 kd_294 Stab0 I (by decide) rfl (n_lo _) (n_hi _) fun M2 IM2 fM2 UM2 => ?_
  have FM2 := Fr.pu F UM2.1 kd_294 (rfl : List.contains [40, 42, 47] 40 = true)
  refine PW.aload_n q_218_5 rfl ?_
  refine PW.iload_n q_218_6 rfl ?_
  refine PW.cV (as := [_]) (rest := []) q_218_7 t_mv_218_241 kd_294 IM2.1 (by decide) rfl (by decide) rfl rfl (Nat.le_of_ble_eq_true rfl) (Nat.le_of_ble_eq_true rfl) (by decide) (by decide) ?_
  refine PW.iload_n q_195_0 rfl ?_
  refine PW.cI q_195_1 (by decide) fun c3 hc3 => ?_
  refine PW.aload_n q_195_2 rfl ?_
  refine PW.gR 296 q_195_3 (Or.inl t_ft_195_33) gF_40_6 kd_294 IM2.1 (by decide) rfl ?_
  refine PW.cI q_195_6 (by decide) fun c4 hc4 => ?_
  refine PW.aI q_195_7 gA_42 kd_296 IM2.1 (by decide) gB_42_0_0 (by decide) (by omega) (by omega) fun x5 fx5 hx5 kx5 => ?_
  refine PW.cI q_195_8 (by decide) fun c6 hc6 => ?_
  refine PW.subN q_195_9 (by omega) (by omega) fun x7 hx7 => ?_
  refine PW.callS (as := [_, _, _]) (rest := []) q_195_10 t_ms_195_176 (by decide) rfl (Nat.le_of_ble_eq_true rfl) (Nat.le_of_ble_eq_true rfl) (by decide) (by decide) ?_
  refine PW.iload_n q_166_0 rfl ?_
  refine PW.iload_n q_166_1 rfl ?_
  refine PW.jc_lt q_166_2 rfl (fun h8 => ?_) (fun h8 => ?_)
  · skip
    refine PW.cI q_166_14 (by decide) fun c9 hc9 => ?_
    refine PW.rZ q_166_15 rfl (by omega) (by omega) (by decide) (by decide) ?_
    refine PW.rZ q_195_13 rfl (by omega) (by omega) (by decide) (by decide) ?_
    refine PW.jz_ne q_218_10 rfl (fun h10 => False.elim (by omega)) (fun h10 => ?_)
    refine PW.cI q_218_13 (by decide) fun c11 hc11 => ?_
    refine PW.rI q_218_14 rfl (by decide) (by decide) ?_
    exact hK c11 M2 IM2 FM2 ⟨(UM2.i (c := 294) (k := 2) (Or.inr (by decide))), (gHq.refl.pu UM2 (by decide))⟩
  · skip
    refine PW.iload_n q_166_5 rfl ?_
    refine PW.iload_n q_166_6 rfl ?_
    refine PW.jc_gt q_166_7 rfl (fun h12 => ?_) (fun h12 => ?_)
    · skip
      refine PW.cI q_166_14 (by decide) fun c13 hc13 => ?_
      refine PW.rZ q_166_15 rfl (by omega) (by omega) (by decide) (by decide) ?_
      refine PW.rZ q_195_13 rfl (by omega) (by omega) (by decide) (by decide) ?_
      refine PW.jz_ne q_218_10 rfl (fun h14 => False.elim (by omega)) (fun h14 => ?_)
      refine PW.cI q_218_13 (by decide) fun c15 hc15 => ?_
      refine PW.rI q_218_14 rfl (by decide) (by decide) ?_
      exact hK c15 M2 IM2 FM2 ⟨(UM2.i (c := 294) (k := 2) (Or.inr (by decide))), (gHq.refl.pu UM2 (by decide))⟩
    · skip
      refine PW.cI q_166_10 (by decide) fun c16 hc16 => ?_
      refine PW.goto q_166_11 rfl ?_
      refine PW.rZ q_166_15 rfl (by omega) (by omega) (by decide) (by decide) ?_
      refine PW.rZ q_195_13 rfl (by omega) (by omega) (by decide) (by decide) ?_
      refine PW.jz_ne q_218_10 rfl (fun h17 => ?_) (fun h17 => False.elim (by omega))
      refine PW.aload_n q_218_15 rfl ?_
      refine PW.gR 296 q_218_16 (Or.inl t_ft_218_33) gF_40_6 kd_294 IM2.1 (by decide) rfl ?_
      refine PW.cB q_218_19 (by decide) fun c18 hc18 => ?_
      refine PW.aI q_218_21 gA_42 kd_296 IM2.1 (by decide) gB_42_34_34 (by decide) (by omega) (by omega) fun x19 fx19 hx19 kx19 => ?_
      refine PW.iload_n q_218_22 rfl ?_
      refine PW.cI q_218_23 (by decide) fun c20 hc20 => ?_
      refine PW.addN q_218_24 (by have := n_lo a1; have := n_hi a1; omega) (by have := n_lo a1; have := n_hi a1; omega) fun x21 hx21 => ?_
      refine PW.jc_ne q_218_25 rfl (fun h22 => ?_) (fun h22 => ?_)
      · skip
        refine PW.aload_n q_218_30 rfl ?_
        refine PW.cV (as := []) (rest := []) q_218_31 t_mv_218_290 kd_294 IM2.1 (by decide) rfl (by decide) rfl rfl (Nat.le_of_ble_eq_true rfl) (Nat.le_of_ble_eq_true rfl) (by decide) (by decide) ?_
        refine PW.up (by decide) (c_X12_keep G _ M2 IM2  fun M23 IM23 GM23 PM23 TM23 => ?_)
        have FM23 := Fr.trans FM2 GM23 (rfl)
        refine PW.aload_n q_218_34 rfl ?_
        refine PW.gR 296 q_218_35 (Or.inl t_ft_218_33) gF_40_6 kd_294 IM23.1 (by decide) rfl ?_
        refine PW.cB q_218_38 (by decide) fun c24 hc24 => ?_
        refine PW.iload_n q_218_40 rfl ?_
        refine PW.cI q_218_41 (by decide) fun c25 hc25 => ?_
        refine PW.addN q_218_42 (by have := n_lo a1; have := n_hi a1; omega) (by have := n_lo a1; have := n_hi a1; omega) fun x26 hx26 => ?_
        refine PW.wS q_218_43 Stab0 IM23 gC_42_34_34 gN_34_34 (by decide) (by omega) (by omega) (by omega) (by omega) fun M27 IM27 fM27 UM27 => ?_
        have FM27 := Fr.pu FM23 UM27.1 kd_296 (rfl : List.contains [40, 42, 47] 42 = true)
        refine PW.cI q_218_44 (by decide) fun c28 hc28 => ?_
        refine PW.rI q_218_45 rfl (by decide) (by decide) ?_
        exact hK c28 M27 IM27 FM27 ⟨((congrArg (fun e => o_i e 2) (UM27.1 294 (by decide))).trans (TM23.1.trans (UM2.i (c := 294) (k := 2) (Or.inr (by decide))))), (((gHq.refl.pu UM2 (by decide)).tr TM23.2).st UM27 (by omega))⟩
      · skip
        refine PW.cI q_218_28 (by decide) fun c29 hc29 => ?_
        refine PW.rI q_218_29 rfl (by decide) (by decide) ?_
        exact hK c29 M2 IM2 FM2 ⟨(UM2.i (c := 294) (k := 2) (Or.inr (by decide))), (gHq.refl.pu UM2 (by decide))⟩
theorem c_X12_seconds (G : pG) (Kr : pK) (M : pM) (I : Iv gTT M) (a1 : Int32) (hK : ∀ (x : Int32) (M1 : pM), Iv gTT M1 → Fr [40, 42, 47] M M1 → ((gLq M1 M) ∧ gHq M1 M) → Kr.1 (some (.int x)) 311 M1) : PW G false 6 219 (p_mc 219) (p_msl 219) Kr 0 (lv_args 0 [.ref 294, .int a1]) [] 311 M 0 0 := by
  have F : Fr [40, 42, 47] M M := Fr.refl
  refine PW.aload_n q_219_0 rfl ?_
  refine PW.cI q_219_1 (by decide) fun c1 hc1 => ?_
  refine PW.pI q_219_2 (Or.inl t_ft_219_1) gF_40_0 gP_40_0 kd_294 Stab0 I (by decide) rfl (n_lo _) (n_hi _) fun M2 IM2 fM2 UM2 => ?_
  have FM2 := Fr.pu F UM2.1 kd_294 (rfl : List.contains [40, 42, 47] 40 = true)
  refine PW.iload_n q_219_5 rfl ?_
  refine PW.cI q_219_6 (by decide) fun c3 hc3 => ?_
  refine PW.cB q_219_7 (by decide) fun c4 hc4 => ?_
  refine PW.callS (as := [_, _, _]) (rest := []) q_219_9 t_ms_219_176 (by decide) rfl (Nat.le_of_ble_eq_true rfl) (Nat.le_of_ble_eq_true rfl) (by decide) (by decide) ?_
  refine PW.iload_n q_166_0 rfl ?_
  refine PW.iload_n q_166_1 rfl ?_
  refine PW.jc_lt q_166_2 rfl (fun h5 => ?_) (fun h5 => ?_)
  · skip
    refine PW.cI q_166_14 (by decide) fun c6 hc6 => ?_
    refine PW.rZ q_166_15 rfl (by omega) (by omega) (by decide) (by decide) ?_
    refine PW.jz_ne q_219_12 rfl (fun h7 => False.elim (by omega)) (fun h7 => ?_)
    refine PW.cI q_219_15 (by decide) fun c8 hc8 => ?_
    refine PW.rI q_219_16 rfl (by decide) (by decide) ?_
    exact hK c8 M2 IM2 FM2 ⟨(UM2.i (c := 294) (k := 2) (Or.inr (by decide))), (gHq.refl.pu UM2 (by decide))⟩
  · skip
    refine PW.iload_n q_166_5 rfl ?_
    refine PW.iload_n q_166_6 rfl ?_
    refine PW.jc_gt q_166_7 rfl (fun h9 => ?_) (fun h9 => ?_)
    · skip
      refine PW.cI q_166_14 (by decide) fun c10 hc10 => ?_
      refine PW.rZ q_166_15 rfl (by omega) (by omega) (by decide) (by decide) ?_
      refine PW.jz_ne q_219_12 rfl (fun h11 => False.elim (by omega)) (fun h11 => ?_)
      refine PW.cI q_219_15 (by decide) fun c12 hc12 => ?_
      refine PW.rI q_219_16 rfl (by decide) (by decide) ?_
      exact hK c12 M2 IM2 FM2 ⟨(UM2.i (c := 294) (k := 2) (Or.inr (by decide))), (gHq.refl.pu UM2 (by decide))⟩
    · skip
      refine PW.cI q_166_10 (by decide) fun c13 hc13 => ?_
      refine PW.goto q_166_11 rfl ?_
      refine PW.rZ q_166_15 rfl (by omega) (by omega) (by decide) (by decide) ?_
      refine PW.jz_ne q_219_12 rfl (fun h14 => ?_) (fun h14 => False.elim (by omega))
      refine PW.aload_n q_219_17 rfl ?_
      refine PW.gR 296 q_219_18 (Or.inl t_ft_219_33) gF_40_6 kd_294 IM2.1 (by decide) rfl ?_
      refine PW.cB q_219_21 (by decide) fun c15 hc15 => ?_
      refine PW.aI q_219_23 gA_42 kd_296 IM2.1 (by decide) gB_42_33_33 (by decide) (by omega) (by omega) fun x16 fx16 hx16 kx16 => ?_
      refine PW.cS q_219_24 (by decide) fun c17 hc17 => ?_
      refine PW.jc_ne q_219_27 rfl (fun h18 => ?_) (fun h18 => ?_)
      · skip
        refine PW.aload_n q_219_32 rfl ?_
        refine PW.cV (as := []) (rest := []) q_219_33 t_mv_219_290 kd_294 IM2.1 (by decide) rfl (by decide) rfl rfl (Nat.le_of_ble_eq_true rfl) (Nat.le_of_ble_eq_true rfl) (by decide) (by decide) ?_
        refine PW.up (by decide) (c_X12_keep G _ M2 IM2  fun M19 IM19 GM19 PM19 TM19 => ?_)
        have FM19 := Fr.trans FM2 GM19 (rfl)
        refine PW.aload_n q_219_36 rfl ?_
        refine PW.iload_n q_219_37 rfl ?_
        refine PW.cV (as := [_]) (rest := []) q_219_38 t_mv_219_299 kd_294 IM19.1 (by decide) rfl (by decide) rfl rfl (Nat.le_of_ble_eq_true rfl) (Nat.le_of_ble_eq_true rfl) (by decide) (by decide) ?_
        refine PW.up (by decide) (c_X12_goesOn G _ M19 IM19 a1 fun x21 M20 IM20 GM20 hx21 TM20 => ?_)
        have FM20 := Fr.trans FM19 GM20 (rfl)
        refine PW.rI q_219_41 rfl (by decide) (by decide) ?_
        exact hK x21 M20 IM20 FM20 ⟨((congrArg (fun e => o_i e 2) (Fr.at GM20 kd_294 rfl)).trans (TM19.1.trans (UM2.i (c := 294) (k := 2) (Or.inr (by decide))))), (((gHq.refl.pu UM2 (by decide)).tr TM19.2).tr TM20.2)⟩
      · skip
        refine PW.cI q_219_30 (by decide) fun c22 hc22 => ?_
        refine PW.rI q_219_31 rfl (by decide) (by decide) ?_
        exact hK c22 M2 IM2 FM2 ⟨(UM2.i (c := 294) (k := 2) (Or.inr (by decide))), (gHq.refl.pu UM2 (by decide))⟩
theorem c_X12_gap (G : pG) (Kr : pK) (M : pM) (I : Iv gTT M) (a1 : Int32) (a2 : Int32) (hK : ∀ (x : Int32) (M1 : pM), Iv gTT M1 → Fr [40] M M1 → ((gLq M1 M) ∧ gHq M1 M) → Kr.1 (some (.int x)) 311 M1) : PW G false 2 224 (p_mc 224) (p_msl 224) Kr 0 (lv_args 0 [.ref 294, .int a1, .int a2]) [] 311 M 0 0 := by
  have F : Fr [40] M M := Fr.refl
  refine PW.aload_n q_224_0 rfl ?_
  refine PW.cI q_224_1 (by decide) fun c1 hc1 => ?_
  refine PW.pI q_224_2 (Or.inl t_ft_224_1) gF_40_0 gP_40_0 kd_294 Stab0 I (by decide) rfl (n_lo _) (n_hi _) fun M2 IM2 fM2 UM2 => ?_
  have FM2 := Fr.pu F UM2.1 kd_294 (rfl : List.contains [40] 40 = true)
  refine PW.aload_n q_224_5 rfl ?_
  refine PW.iload_n q_224_6 rfl ?_
  refine PW.cV (as := [_]) (rest := []) q_224_7 t_mv_224_241 kd_294 IM2.1 (by decide) rfl (by decide) rfl rfl (Nat.le_of_ble_eq_true rfl) (Nat.le_of_ble_eq_true rfl) (by decide) (by decide) ?_
  refine PW.iload_n q_195_0 rfl ?_
  refine PW.cI q_195_1 (by decide) fun c3 hc3 => ?_
  refine PW.aload_n q_195_2 rfl ?_
  refine PW.gR 296 q_195_3 (Or.inl t_ft_195_33) gF_40_6 kd_294 IM2.1 (by decide) rfl ?_
  refine PW.cI q_195_6 (by decide) fun c4 hc4 => ?_
  refine PW.aI q_195_7 gA_42 kd_296 IM2.1 (by decide) gB_42_0_0 (by decide) (by omega) (by omega) fun x5 fx5 hx5 kx5 => ?_
  refine PW.cI q_195_8 (by decide) fun c6 hc6 => ?_
  refine PW.subN q_195_9 (by omega) (by omega) fun x7 hx7 => ?_
  refine PW.callS (as := [_, _, _]) (rest := []) q_195_10 t_ms_195_176 (by decide) rfl (Nat.le_of_ble_eq_true rfl) (Nat.le_of_ble_eq_true rfl) (by decide) (by decide) ?_
  refine PW.iload_n q_166_0 rfl ?_
  refine PW.iload_n q_166_1 rfl ?_
  refine PW.jc_lt q_166_2 rfl (fun h8 => ?_) (fun h8 => ?_)
  · skip
    refine PW.cI q_166_14 (by decide) fun c9 hc9 => ?_
    refine PW.rZ q_166_15 rfl (by omega) (by omega) (by decide) (by decide) ?_
    refine PW.rZ q_195_13 rfl (by omega) (by omega) (by decide) (by decide) ?_
    refine PW.jz_eq q_224_10 rfl (fun h10 => ?_) (fun h10 => False.elim (by omega))
    refine PW.cI q_224_30 (by decide) fun c11 hc11 => ?_
    refine PW.rI q_224_31 rfl (by decide) (by decide) ?_
    exact hK c11 M2 IM2 FM2 ⟨(UM2.i (c := 294) (k := 2) (Or.inr (by decide))), (gHq.refl.pu UM2 (by decide))⟩
  · skip
    refine PW.iload_n q_166_5 rfl ?_
    refine PW.iload_n q_166_6 rfl ?_
    refine PW.jc_gt q_166_7 rfl (fun h12 => ?_) (fun h12 => ?_)
    · skip
      refine PW.cI q_166_14 (by decide) fun c13 hc13 => ?_
      refine PW.rZ q_166_15 rfl (by omega) (by omega) (by decide) (by decide) ?_
      refine PW.rZ q_195_13 rfl (by omega) (by omega) (by decide) (by decide) ?_
      refine PW.jz_eq q_224_10 rfl (fun h14 => ?_) (fun h14 => False.elim (by omega))
      refine PW.cI q_224_30 (by decide) fun c15 hc15 => ?_
      refine PW.rI q_224_31 rfl (by decide) (by decide) ?_
      exact hK c15 M2 IM2 FM2 ⟨(UM2.i (c := 294) (k := 2) (Or.inr (by decide))), (gHq.refl.pu UM2 (by decide))⟩
    · skip
      refine PW.cI q_166_10 (by decide) fun c16 hc16 => ?_
      refine PW.goto q_166_11 rfl ?_
      refine PW.rZ q_166_15 rfl (by omega) (by omega) (by decide) (by decide) ?_
      refine PW.rZ q_195_13 rfl (by omega) (by omega) (by decide) (by decide) ?_
      refine PW.jz_eq q_224_10 rfl (fun h17 => False.elim (by omega)) (fun h17 => ?_)
      refine PW.aload_n q_224_13 rfl ?_
      refine PW.iload_n q_224_14 rfl ?_
      refine PW.cV (as := [_]) (rest := []) q_224_15 t_mv_224_241 kd_294 IM2.1 (by decide) rfl (by decide) rfl rfl (Nat.le_of_ble_eq_true rfl) (Nat.le_of_ble_eq_true rfl) (by decide) (by decide) ?_
      refine PW.iload_n q_195_0 rfl ?_
      refine PW.cI q_195_1 (by decide) fun c18 hc18 => ?_
      refine PW.aload_n q_195_2 rfl ?_
      refine PW.gR 296 q_195_3 (Or.inl t_ft_195_33) gF_40_6 kd_294 IM2.1 (by decide) rfl ?_
      refine PW.cI q_195_6 (by decide) fun c19 hc19 => ?_
      refine PW.aI q_195_7 gA_42 kd_296 IM2.1 (by decide) gB_42_0_0 (by decide) (by omega) (by omega) fun x20 fx20 hx20 kx20 => ?_
      refine PW.cI q_195_8 (by decide) fun c21 hc21 => ?_
      refine PW.subN q_195_9 (by omega) (by omega) fun x22 hx22 => ?_
      refine PW.callS (as := [_, _, _]) (rest := []) q_195_10 t_ms_195_176 (by decide) rfl (Nat.le_of_ble_eq_true rfl) (Nat.le_of_ble_eq_true rfl) (by decide) (by decide) ?_
      refine PW.iload_n q_166_0 rfl ?_
      refine PW.iload_n q_166_1 rfl ?_
      refine PW.jc_lt q_166_2 rfl (fun h23 => ?_) (fun h23 => ?_)
      · skip
        refine PW.cI q_166_14 (by decide) fun c24 hc24 => ?_
        refine PW.rZ q_166_15 rfl (by omega) (by omega) (by decide) (by decide) ?_
        refine PW.rZ q_195_13 rfl (by omega) (by omega) (by decide) (by decide) ?_
        refine PW.jz_eq q_224_18 rfl (fun h25 => ?_) (fun h25 => False.elim (by omega))
        refine PW.cI q_224_30 (by decide) fun c26 hc26 => ?_
        refine PW.rI q_224_31 rfl (by decide) (by decide) ?_
        exact hK c26 M2 IM2 FM2 ⟨(UM2.i (c := 294) (k := 2) (Or.inr (by decide))), (gHq.refl.pu UM2 (by decide))⟩
      · skip
        refine PW.iload_n q_166_5 rfl ?_
        refine PW.iload_n q_166_6 rfl ?_
        refine PW.jc_gt q_166_7 rfl (fun h27 => ?_) (fun h27 => ?_)
        · skip
          refine PW.cI q_166_14 (by decide) fun c28 hc28 => ?_
          refine PW.rZ q_166_15 rfl (by omega) (by omega) (by decide) (by decide) ?_
          refine PW.rZ q_195_13 rfl (by omega) (by omega) (by decide) (by decide) ?_
          refine PW.jz_eq q_224_18 rfl (fun h29 => ?_) (fun h29 => False.elim (by omega))
          refine PW.cI q_224_30 (by decide) fun c30 hc30 => ?_
          refine PW.rI q_224_31 rfl (by decide) (by decide) ?_
          exact hK c30 M2 IM2 FM2 ⟨(UM2.i (c := 294) (k := 2) (Or.inr (by decide))), (gHq.refl.pu UM2 (by decide))⟩
        · skip
          refine PW.cI q_166_10 (by decide) fun c31 hc31 => ?_
          refine PW.goto q_166_11 rfl ?_
          refine PW.rZ q_166_15 rfl (by omega) (by omega) (by decide) (by decide) ?_
          refine PW.rZ q_195_13 rfl (by omega) (by omega) (by decide) (by decide) ?_
          refine PW.jz_eq q_224_18 rfl (fun h32 => False.elim (by omega)) (fun h32 => ?_)
          refine PW.aload_n q_224_21 rfl ?_
          refine PW.iload_n q_224_22 rfl ?_
          refine PW.iload_n q_224_23 rfl ?_
          refine PW.cV (as := [_, _]) (rest := []) q_224_24 t_mv_224_302 kd_294 IM2.1 (by decide) rfl (by decide) rfl rfl (Nat.le_of_ble_eq_true rfl) (Nat.le_of_ble_eq_true rfl) (by decide) (by decide) ?_
          refine PW.aload_n q_198_0 rfl ?_
          refine PW.gR 296 q_198_1 (Or.inl t_ft_198_33) gF_40_6 kd_294 IM2.1 (by decide) rfl ?_
          refine PW.cB q_198_4 (by decide) fun c33 hc33 => ?_
          refine PW.iload_n q_198_6 rfl ?_
          refine PW.addN q_198_7 (by have := n_lo a1; have := n_hi a1; omega) (by have := n_lo a1; have := n_hi a1; omega) fun x34 hx34 => ?_
          refine PW.aH q_198_8 gA_42 kd_296 IM2.1 (by decide) (by omega) (by omega) fun x35 fx35 => ?_
          refine PW.aload_n q_198_9 rfl ?_
          refine PW.gR 296 q_198_10 (Or.inl t_ft_198_33) gF_40_6 kd_294 IM2.1 (by decide) rfl ?_
          refine PW.cB q_198_13 (by decide) fun c36 hc36 => ?_
          refine PW.iload_n q_198_15 rfl ?_
          refine PW.addN q_198_16 (by have := n_lo a2; have := n_hi a2; omega) (by have := n_lo a2; have := n_hi a2; omega) fun x37 hx37 => ?_
          refine PW.aH q_198_17 gA_42 kd_296 IM2.1 (by decide) (by omega) (by omega) fun x38 fx38 => ?_
          refine PW.callS (as := [_, _]) (rest := []) q_198_18 t_ms_198_244 (by decide) rfl (Nat.le_of_ble_eq_true rfl) (Nat.le_of_ble_eq_true rfl) (by decide) (by decide) ?_
          refine PW.iload_n q_170_0 rfl ?_
          refine PW.iload_n q_170_1 rfl ?_
          refine PW.jc_ge q_170_2 rfl (fun h39 => ?_) (fun h39 => ?_)
          · skip
            refine PW.iload_n q_170_11 rfl ?_
            refine PW.iload_n q_170_12 rfl ?_
            refine PW.subH q_170_13 fun x40 => ?_
            refine PW.rI q_170_14 rfl (by decide) (by decide) ?_
            refine PW.rI q_198_21 rfl (by decide) (by decide) ?_
            refine PW.goto q_224_27 rfl ?_
            refine PW.rI q_224_31 rfl (by decide) (by decide) ?_
            exact hK x40 M2 IM2 FM2 ⟨(UM2.i (c := 294) (k := 2) (Or.inr (by decide))), (gHq.refl.pu UM2 (by decide))⟩
          · skip
            refine PW.iload_n q_170_5 rfl ?_
            refine PW.iload_n q_170_6 rfl ?_
            refine PW.subH q_170_7 fun x41 => ?_
            refine PW.goto q_170_8 rfl ?_
            refine PW.rI q_170_14 rfl (by decide) (by decide) ?_
            refine PW.rI q_198_21 rfl (by decide) (by decide) ?_
            refine PW.goto q_224_27 rfl ?_
            refine PW.rI q_224_31 rfl (by decide) (by decide) ?_
            exact hK x41 M2 IM2 FM2 ⟨(UM2.i (c := 294) (k := 2) (Or.inr (by decide))), (gHq.refl.pu UM2 (by decide))⟩
theorem c_X12_meet (G : pG) (Kr : pK) (M : pM) (I : Iv gTT M) (a1 : Int32) (a2 : Int32) (hK : ∀ (x : Int32) (M1 : pM), Iv gTT M1 → Fr [40, 42, 48] M M1 → ((gLq M1 M) ∧ gHq M1 M) → Kr.1 (some (.int x)) 311 M1) : PW G false 6 225 (p_mc 225) (p_msl 225) Kr 0 (lv_args 0 [.ref 294, .int a1, .int a2]) [] 311 M 0 0 := by
  have F : Fr [40, 42, 48] M M := Fr.refl
  refine PW.aload_n q_225_0 rfl ?_
  refine PW.cI q_225_1 (by decide) fun c1 hc1 => ?_
  refine PW.pI q_225_2 (Or.inl t_ft_225_1) gF_40_0 gP_40_0 kd_294 Stab0 I (by decide) rfl (n_lo _) (n_hi _) fun M2 IM2 fM2 UM2 => ?_
  have FM2 := Fr.pu F UM2.1 kd_294 (rfl : List.contains [40, 42, 48] 40 = true)
  refine PW.aload_n q_225_5 rfl ?_
  refine PW.iload_n q_225_6 rfl ?_
  refine PW.iload_n q_225_7 rfl ?_
  refine PW.cV (as := [_, _]) (rest := []) q_225_8 t_mv_225_305 kd_294 IM2.1 (by decide) rfl (by decide) rfl rfl (Nat.le_of_ble_eq_true rfl) (Nat.le_of_ble_eq_true rfl) (by decide) (by decide) ?_
  refine PW.aload_n q_197_0 rfl ?_
  refine PW.iload_n q_197_1 rfl ?_
  refine PW.cV (as := [_]) (rest := []) q_197_2 t_mv_197_241 kd_294 IM2.1 (by decide) rfl (by decide) rfl rfl (Nat.le_of_ble_eq_true rfl) (Nat.le_of_ble_eq_true rfl) (by decide) (by decide) ?_
  refine PW.iload_n q_195_0 rfl ?_
  refine PW.cI q_195_1 (by decide) fun c3 hc3 => ?_
  refine PW.aload_n q_195_2 rfl ?_
  refine PW.gR 296 q_195_3 (Or.inl t_ft_195_33) gF_40_6 kd_294 IM2.1 (by decide) rfl ?_
  refine PW.cI q_195_6 (by decide) fun c4 hc4 => ?_
  refine PW.aI q_195_7 gA_42 kd_296 IM2.1 (by decide) gB_42_0_0 (by decide) (by omega) (by omega) fun x5 fx5 hx5 kx5 => ?_
  refine PW.cI q_195_8 (by decide) fun c6 hc6 => ?_
  refine PW.subN q_195_9 (by omega) (by omega) fun x7 hx7 => ?_
  refine PW.callS (as := [_, _, _]) (rest := []) q_195_10 t_ms_195_176 (by decide) rfl (Nat.le_of_ble_eq_true rfl) (Nat.le_of_ble_eq_true rfl) (by decide) (by decide) ?_
  refine PW.iload_n q_166_0 rfl ?_
  refine PW.iload_n q_166_1 rfl ?_
  refine PW.jc_lt q_166_2 rfl (fun h8 => ?_) (fun h8 => ?_)
  · skip
    refine PW.cI q_166_14 (by decide) fun c9 hc9 => ?_
    refine PW.rZ q_166_15 rfl (by omega) (by omega) (by decide) (by decide) ?_
    refine PW.rZ q_195_13 rfl (by omega) (by omega) (by decide) (by decide) ?_
    refine PW.jz_eq q_197_5 rfl (fun h10 => ?_) (fun h10 => False.elim (by omega))
    refine PW.cI q_197_25 (by decide) fun c11 hc11 => ?_
    refine PW.rZ q_197_26 rfl (by omega) (by omega) (by decide) (by decide) ?_
    refine PW.jz_ne q_225_11 rfl (fun h12 => False.elim (by omega)) (fun h12 => ?_)
    refine PW.cI q_225_14 (by decide) fun c13 hc13 => ?_
    refine PW.rI q_225_15 rfl (by decide) (by decide) ?_
    exact hK c13 M2 IM2 FM2 ⟨(UM2.i (c := 294) (k := 2) (Or.inr (by decide))), (gHq.refl.pu UM2 (by decide))⟩
  · skip
    refine PW.iload_n q_166_5 rfl ?_
    refine PW.iload_n q_166_6 rfl ?_
    refine PW.jc_gt q_166_7 rfl (fun h14 => ?_) (fun h14 => ?_)
    · skip
      refine PW.cI q_166_14 (by decide) fun c15 hc15 => ?_
      refine PW.rZ q_166_15 rfl (by omega) (by omega) (by decide) (by decide) ?_
      refine PW.rZ q_195_13 rfl (by omega) (by omega) (by decide) (by decide) ?_
      refine PW.jz_eq q_197_5 rfl (fun h16 => ?_) (fun h16 => False.elim (by omega))
      refine PW.cI q_197_25 (by decide) fun c17 hc17 => ?_
      refine PW.rZ q_197_26 rfl (by omega) (by omega) (by decide) (by decide) ?_
      refine PW.jz_ne q_225_11 rfl (fun h18 => False.elim (by omega)) (fun h18 => ?_)
      refine PW.cI q_225_14 (by decide) fun c19 hc19 => ?_
      refine PW.rI q_225_15 rfl (by decide) (by decide) ?_
      exact hK c19 M2 IM2 FM2 ⟨(UM2.i (c := 294) (k := 2) (Or.inr (by decide))), (gHq.refl.pu UM2 (by decide))⟩
    · skip
      refine PW.cI q_166_10 (by decide) fun c20 hc20 => ?_
      refine PW.goto q_166_11 rfl ?_
      refine PW.rZ q_166_15 rfl (by omega) (by omega) (by decide) (by decide) ?_
      refine PW.rZ q_195_13 rfl (by omega) (by omega) (by decide) (by decide) ?_
      refine PW.jz_eq q_197_5 rfl (fun h21 => False.elim (by omega)) (fun h21 => ?_)
      refine PW.aload_n q_197_8 rfl ?_
      refine PW.iload_n q_197_9 rfl ?_
      refine PW.cV (as := [_]) (rest := []) q_197_10 t_mv_197_241 kd_294 IM2.1 (by decide) rfl (by decide) rfl rfl (Nat.le_of_ble_eq_true rfl) (Nat.le_of_ble_eq_true rfl) (by decide) (by decide) ?_
      refine PW.iload_n q_195_0 rfl ?_
      refine PW.cI q_195_1 (by decide) fun c22 hc22 => ?_
      refine PW.aload_n q_195_2 rfl ?_
      refine PW.gR 296 q_195_3 (Or.inl t_ft_195_33) gF_40_6 kd_294 IM2.1 (by decide) rfl ?_
      refine PW.cI q_195_6 (by decide) fun c23 hc23 => ?_
      refine PW.aI q_195_7 gA_42 kd_296 IM2.1 (by decide) gB_42_0_0 (by decide) (by omega) (by omega) fun x24 fx24 hx24 kx24 => ?_
      refine PW.cI q_195_8 (by decide) fun c25 hc25 => ?_
      refine PW.subN q_195_9 (by omega) (by omega) fun x26 hx26 => ?_
      refine PW.callS (as := [_, _, _]) (rest := []) q_195_10 t_ms_195_176 (by decide) rfl (Nat.le_of_ble_eq_true rfl) (Nat.le_of_ble_eq_true rfl) (by decide) (by decide) ?_
      refine PW.iload_n q_166_0 rfl ?_
      refine PW.iload_n q_166_1 rfl ?_
      refine PW.jc_lt q_166_2 rfl (fun h27 => ?_) (fun h27 => ?_)
      · skip
        refine PW.cI q_166_14 (by decide) fun c28 hc28 => ?_
        refine PW.rZ q_166_15 rfl (by omega) (by omega) (by decide) (by decide) ?_
        refine PW.rZ q_195_13 rfl (by omega) (by omega) (by decide) (by decide) ?_
        refine PW.jz_eq q_197_13 rfl (fun h29 => ?_) (fun h29 => False.elim (by omega))
        refine PW.cI q_197_25 (by decide) fun c30 hc30 => ?_
        refine PW.rZ q_197_26 rfl (by omega) (by omega) (by decide) (by decide) ?_
        refine PW.jz_ne q_225_11 rfl (fun h31 => False.elim (by omega)) (fun h31 => ?_)
        refine PW.cI q_225_14 (by decide) fun c32 hc32 => ?_
        refine PW.rI q_225_15 rfl (by decide) (by decide) ?_
        exact hK c32 M2 IM2 FM2 ⟨(UM2.i (c := 294) (k := 2) (Or.inr (by decide))), (gHq.refl.pu UM2 (by decide))⟩
      · skip
        refine PW.iload_n q_166_5 rfl ?_
        refine PW.iload_n q_166_6 rfl ?_
        refine PW.jc_gt q_166_7 rfl (fun h33 => ?_) (fun h33 => ?_)
        · skip
          refine PW.cI q_166_14 (by decide) fun c34 hc34 => ?_
          refine PW.rZ q_166_15 rfl (by omega) (by omega) (by decide) (by decide) ?_
          refine PW.rZ q_195_13 rfl (by omega) (by omega) (by decide) (by decide) ?_
          refine PW.jz_eq q_197_13 rfl (fun h35 => ?_) (fun h35 => False.elim (by omega))
          refine PW.cI q_197_25 (by decide) fun c36 hc36 => ?_
          refine PW.rZ q_197_26 rfl (by omega) (by omega) (by decide) (by decide) ?_
          refine PW.jz_ne q_225_11 rfl (fun h37 => False.elim (by omega)) (fun h37 => ?_)
          refine PW.cI q_225_14 (by decide) fun c38 hc38 => ?_
          refine PW.rI q_225_15 rfl (by decide) (by decide) ?_
          exact hK c38 M2 IM2 FM2 ⟨(UM2.i (c := 294) (k := 2) (Or.inr (by decide))), (gHq.refl.pu UM2 (by decide))⟩
        · skip
          refine PW.cI q_166_10 (by decide) fun c39 hc39 => ?_
          refine PW.goto q_166_11 rfl ?_
          refine PW.rZ q_166_15 rfl (by omega) (by omega) (by decide) (by decide) ?_
          refine PW.rZ q_195_13 rfl (by omega) (by omega) (by decide) (by decide) ?_
          refine PW.jz_eq q_197_13 rfl (fun h40 => False.elim (by omega)) (fun h40 => ?_)
          refine PW.iload_n q_197_16 rfl ?_
          refine PW.iload_n q_197_17 rfl ?_
          refine PW.jc_eq q_197_18 rfl (fun h41 => ?_) (fun h41 => ?_)
          · skip
            refine PW.cI q_197_25 (by decide) fun c42 hc42 => ?_
            refine PW.rZ q_197_26 rfl (by omega) (by omega) (by decide) (by decide) ?_
            refine PW.jz_ne q_225_11 rfl (fun h43 => False.elim (by omega)) (fun h43 => ?_)
            refine PW.cI q_225_14 (by decide) fun c44 hc44 => ?_
            refine PW.rI q_225_15 rfl (by decide) (by decide) ?_
            exact hK c44 M2 IM2 FM2 ⟨(UM2.i (c := 294) (k := 2) (Or.inr (by decide))), (gHq.refl.pu UM2 (by decide))⟩
          · skip
            refine PW.cI q_197_21 (by decide) fun c45 hc45 => ?_
            refine PW.goto q_197_22 rfl ?_
            refine PW.rZ q_197_26 rfl (by omega) (by omega) (by decide) (by decide) ?_
            refine PW.jz_ne q_225_11 rfl (fun h46 => ?_) (fun h46 => False.elim (by omega))
            refine PW.aload_n q_225_16 rfl ?_
            refine PW.cV (as := []) (rest := []) q_225_17 t_mv_225_308 kd_294 IM2.1 (by decide) rfl (by decide) rfl rfl (Nat.le_of_ble_eq_true rfl) (Nat.le_of_ble_eq_true rfl) (by decide) (by decide) ?_
            refine PW.up (by decide) (c_X12_tries G _ M2 IM2  fun M47 IM47 GM47 TM47 => ?_)
            have FM47 := Fr.trans FM2 GM47 (rfl)
            refine PW.cI q_225_20 (by decide) fun c48 hc48 => ?_
            refine PW.istore_n q_225_21 (by decide) ?_
            refine PW.cI q_225_22 (by decide) fun c49 hc49 => ?_
            refine PW.istore q_225_23 (by decide) ?_
            have L225_25_50 : ∀ (n : Nat) (ML225_25_50 : pM) (v51 v52 : Int32), Iv (gTT) ML225_25_50 → Fr [40, 42, 48] M ML225_25_50 → 0 ≤ v51.toInt → v51.toInt ≤ 301 → 0 ≤ v52.toInt → v52.toInt ≤ 1 → v52.toInt = 0 ∨ v51.toInt ≤ 300 → (gLq ML225_25_50 M ∧ gHq ML225_25_50 M) → (301 - v51.toInt).toNat = n → PW G false 6 225 (p_mc 225) (p_msl 225) Kr 25 [(0, .ref 294), (1, .int a1), (2, .int a2), (3, .int v51), (4, .int v52)] [] 311 ML225_25_50 0 0 := by
              intro n
              induction n using Nat.strongRecOn with
              | ind n ih_L225_25_50 =>
              intro ML225_25_50 v51 v52 IML225_25_50 FML225_25_50 hbL225_25_500 hbL225_25_501 hbL225_25_502 hbL225_25_503 hbL225_25_504 hbL225_25_505 hmL225_25_50
              refine PW.iload q_225_25 rfl ?_
              have J74_54 : ∀ (MJ74_54 : pM), Iv (gTT) MJ74_54 → Fr [40, 42, 48] M MJ74_54 → (gLq MJ74_54 M ∧ gHq MJ74_54 M) → PW G false 6 225 (p_mc 225) (p_msl 225) Kr 74 [(0, .ref 294), (1, .int a1), (2, .int a2), (3, .int v51), (4, .int v52)] [] 311 MJ74_54 0 0 := by
                intro MJ74_54  IMJ74_54 FMJ74_54 hbJ74_540
                refine PW.iload q_225_74 rfl ?_
                have J90_56 : ∀ (MJ90_56 : pM) (s57 : Int32), Iv (gTT) MJ90_56 → Fr [40, 42, 48] M MJ90_56 → -1 ≤ s57.toInt → s57.toInt ≤ 600 → (gLq MJ90_56 M ∧ gHq MJ90_56 M) → PW G false 6 225 (p_mc 225) (p_msl 225) Kr 90 [(0, .ref 294), (1, .int a1), (2, .int a2), (3, .int v51), (4, .int v52)] [.int s57] 311 MJ90_56 0 0 := by
                  intro MJ90_56 s57 IMJ90_56 FMJ90_56 hbJ90_560 hbJ90_561 hbJ90_562
                  refine PW.istore q_225_90 (by decide) ?_
                  refine PW.aload_n q_225_92 rfl ?_
                  refine PW.cV (as := []) (rest := []) q_225_93 t_mv_225_311 kd_294 IMJ90_56.1 (by decide) rfl (by decide) rfl rfl (Nat.le_of_ble_eq_true rfl) (Nat.le_of_ble_eq_true rfl) (by decide) (by decide) ?_
                  refine PW.up (by decide) (c_X12_back G _ MJ90_56 IMJ90_56  fun M58 IM58 GM58 TM58 => ?_)
                  have FM58 := Fr.trans FMJ90_56 GM58 (rfl)
                  refine PW.iload q_225_96 rfl ?_
                  refine PW.rI q_225_98 rfl (by decide) (by decide) ?_
                  exact hK s57 M58 IM58 FM58 ⟨((congrArg (fun e => o_i e 2) (Fr.at GM58 kd_294 rfl)).trans hbJ90_562.1), (hbJ90_562.2.tr TM58.2)⟩
                refine PW.jz_eq q_225_76 rfl (fun h55 => ?_) (fun h55 => ?_)
                · skip
                  refine PW.cI q_225_89 (by decide) fun c59 hc59 => ?_
                  exact PW.lvS (lk1 rfl (lk1 rfl (lk1 rfl (lk1 rfl (lk1 rfl lk0))))) (J90_56 MJ74_54 c59 IMJ74_54 FMJ74_54 (by omega) (by omega) ⟨hbJ74_540.1, hbJ74_540.2⟩)
                · skip
                  refine PW.aload_n q_225_79 rfl ?_
                  refine PW.gR 296 q_225_80 (Or.inl t_ft_225_33) gF_40_6 kd_294 IMJ74_54.1 (by decide) rfl ?_
                  refine PW.cB q_225_83 (by decide) fun c60 hc60 => ?_
                  refine PW.aI q_225_85 gA_42 kd_296 IMJ74_54.1 (by decide) gB_42_33_33 (by decide) (by omega) (by omega) fun x61 fx61 hx61 kx61 => ?_
                  refine PW.goto q_225_86 rfl ?_
                  exact PW.lvS (lk1 rfl (lk1 rfl (lk1 rfl (lk1 rfl (lk1 rfl lk0))))) (J90_56 MJ74_54 x61 IMJ74_54 FMJ74_54 (by omega) (by omega) ⟨hbJ74_540.1, hbJ74_540.2⟩)
              refine PW.jz_eq q_225_27 rfl (fun h53 => ?_) (fun h53 => ?_)
              · skip
                exact PW.lvS (lk1 rfl (lk1 rfl (lk1 rfl (lk1 rfl (lk1 rfl lk0))))) (J74_54 ML225_25_50  IML225_25_50 FML225_25_50 ⟨hbL225_25_505.1, hbL225_25_505.2⟩)
              · skip
                refine PW.aload_n q_225_30 rfl ?_
                refine PW.iload_n q_225_31 rfl ?_
                refine PW.iload_n q_225_32 rfl ?_
                refine PW.cV (as := [_, _]) (rest := []) q_225_33 t_mv_225_302 kd_294 IML225_25_50.1 (by decide) rfl (by decide) rfl rfl (Nat.le_of_ble_eq_true rfl) (Nat.le_of_ble_eq_true rfl) (by decide) (by decide) ?_
                refine PW.aload_n q_198_0 rfl ?_
                refine PW.gR 296 q_198_1 (Or.inl t_ft_198_33) gF_40_6 kd_294 IML225_25_50.1 (by decide) rfl ?_
                refine PW.cB q_198_4 (by decide) fun c62 hc62 => ?_
                refine PW.iload_n q_198_6 rfl ?_
                refine PW.addN q_198_7 (by have := n_lo a1; have := n_hi a1; omega) (by have := n_lo a1; have := n_hi a1; omega) fun x63 hx63 => ?_
                refine PW.aH q_198_8 gA_42 kd_296 IML225_25_50.1 (by decide) (by omega) (by omega) fun x64 fx64 => ?_
                refine PW.aload_n q_198_9 rfl ?_
                refine PW.gR 296 q_198_10 (Or.inl t_ft_198_33) gF_40_6 kd_294 IML225_25_50.1 (by decide) rfl ?_
                refine PW.cB q_198_13 (by decide) fun c65 hc65 => ?_
                refine PW.iload_n q_198_15 rfl ?_
                refine PW.addN q_198_16 (by have := n_lo a2; have := n_hi a2; omega) (by have := n_lo a2; have := n_hi a2; omega) fun x66 hx66 => ?_
                refine PW.aH q_198_17 gA_42 kd_296 IML225_25_50.1 (by decide) (by omega) (by omega) fun x67 fx67 => ?_
                refine PW.callS (as := [_, _]) (rest := []) q_198_18 t_ms_198_244 (by decide) rfl (Nat.le_of_ble_eq_true rfl) (Nat.le_of_ble_eq_true rfl) (by decide) (by decide) ?_
                refine PW.iload_n q_170_0 rfl ?_
                refine PW.iload_n q_170_1 rfl ?_
                refine PW.jc_ge q_170_2 rfl (fun h68 => ?_) (fun h68 => ?_)
                · skip
                  refine PW.iload_n q_170_11 rfl ?_
                  refine PW.iload_n q_170_12 rfl ?_
                  refine PW.subH q_170_13 fun x69 => ?_
                  refine PW.rI q_170_14 rfl (by decide) (by decide) ?_
                  refine PW.rI q_198_21 rfl (by decide) (by decide) ?_
                  refine PW.aload_n q_225_36 rfl ?_
                  refine PW.gR 296 q_225_37 (Or.inl t_ft_225_33) gF_40_6 kd_294 IML225_25_50.1 (by decide) rfl ?_
                  refine PW.cI q_225_40 (by decide) fun c70 hc70 => ?_
                  refine PW.aH q_225_41 gA_42 kd_296 IML225_25_50.1 (by decide) (by omega) (by omega) fun x71 fx71 => ?_
                  refine PW.jc_le q_225_42 rfl (fun h72 => ?_) (fun h72 => ?_)
                  · skip
                    exact PW.lvS (lk1 rfl (lk1 rfl (lk1 rfl (lk1 rfl (lk1 rfl lk0))))) (J74_54 ML225_25_50  IML225_25_50 FML225_25_50 ⟨hbL225_25_505.1, hbL225_25_505.2⟩)
                  · skip
                    refine PW.iload_n q_225_45 rfl ?_
                    refine PW.cS q_225_46 (by decide) fun c73 hc73 => ?_
                    refine PW.jc_ge q_225_49 rfl (fun h74 => ?_) (fun h74 => ?_)
                    · skip
                      refine PW.cI q_225_65 (by decide) fun c75 hc75 => ?_
                      refine PW.istore q_225_66 (by decide) ?_
                      refine PW.incN q_225_68 rfl (by decide) (by decide) (by omega) (by omega) fun x76 hx76 => ?_
                      refine PW.goto q_225_71 rfl ?_
                      refine PW.lvS (lk1 rfl (lk1 rfl (lk1 rfl (lk1 rfl (lk1 rfl lk0))))) (ih_L225_25_50 _ ?_ ML225_25_50 x76 c75 IML225_25_50 FML225_25_50 (by omega) (by omega) (by omega) (by omega) (by omega) ⟨hbL225_25_505.1, hbL225_25_505.2⟩ rfl)
                      omega
                    · skip
                      refine PW.aload_n q_225_52 rfl ?_
                      refine PW.cI q_225_53 (by decide) fun c77 hc77 => ?_
                      refine PW.cV (as := [_]) (rest := []) q_225_54 t_mv_225_299 kd_294 IML225_25_50.1 (by decide) rfl (by decide) rfl rfl (Nat.le_of_ble_eq_true rfl) (Nat.le_of_ble_eq_true rfl) (by decide) (by decide) ?_
                      refine PW.up (by decide) (c_X12_goesOn G _ ML225_25_50 IML225_25_50 c77 fun x79 M78 IM78 GM78 hx79 TM78 => ?_)
                      have FM78 := Fr.trans FML225_25_50 GM78 (rfl)
                      refine PW.cI q_225_57 (by decide) fun c80 hc80 => ?_
                      refine PW.jc_ne q_225_58 rfl (fun h81 => ?_) (fun h81 => ?_)
                      · skip
                        refine PW.cI q_225_65 (by decide) fun c82 hc82 => ?_
                        refine PW.istore q_225_66 (by decide) ?_
                        refine PW.incN q_225_68 rfl (by decide) (by decide) (by omega) (by omega) fun x83 hx83 => ?_
                        refine PW.goto q_225_71 rfl ?_
                        refine PW.lvS (lk1 rfl (lk1 rfl (lk1 rfl (lk1 rfl (lk1 rfl lk0))))) (ih_L225_25_50 _ ?_ M78 x83 c82 IM78 FM78 (by omega) (by omega) (by omega) (by omega) (by omega) ⟨((congrArg (fun e => o_i e 2) (Fr.at GM78 kd_294 rfl)).trans hbL225_25_505.1), (hbL225_25_505.2.tr TM78.2)⟩ rfl)
                        omega
                      · skip
                        refine PW.cI q_225_61 (by decide) fun c84 hc84 => ?_
                        refine PW.goto q_225_62 rfl ?_
                        refine PW.istore q_225_66 (by decide) ?_
                        refine PW.incN q_225_68 rfl (by decide) (by decide) (by omega) (by omega) fun x85 hx85 => ?_
                        refine PW.goto q_225_71 rfl ?_
                        refine PW.lvS (lk1 rfl (lk1 rfl (lk1 rfl (lk1 rfl (lk1 rfl lk0))))) (ih_L225_25_50 _ ?_ M78 x85 c84 IM78 FM78 (by omega) (by omega) (by omega) (by omega) (by omega) ⟨((congrArg (fun e => o_i e 2) (Fr.at GM78 kd_294 rfl)).trans hbL225_25_505.1), (hbL225_25_505.2.tr TM78.2)⟩ rfl)
                        omega
                · skip
                  refine PW.iload_n q_170_5 rfl ?_
                  refine PW.iload_n q_170_6 rfl ?_
                  refine PW.subH q_170_7 fun x86 => ?_
                  refine PW.goto q_170_8 rfl ?_
                  refine PW.rI q_170_14 rfl (by decide) (by decide) ?_
                  refine PW.rI q_198_21 rfl (by decide) (by decide) ?_
                  refine PW.aload_n q_225_36 rfl ?_
                  refine PW.gR 296 q_225_37 (Or.inl t_ft_225_33) gF_40_6 kd_294 IML225_25_50.1 (by decide) rfl ?_
                  refine PW.cI q_225_40 (by decide) fun c87 hc87 => ?_
                  refine PW.aH q_225_41 gA_42 kd_296 IML225_25_50.1 (by decide) (by omega) (by omega) fun x88 fx88 => ?_
                  refine PW.jc_le q_225_42 rfl (fun h89 => ?_) (fun h89 => ?_)
                  · skip
                    exact PW.lvS (lk1 rfl (lk1 rfl (lk1 rfl (lk1 rfl (lk1 rfl lk0))))) (J74_54 ML225_25_50  IML225_25_50 FML225_25_50 ⟨hbL225_25_505.1, hbL225_25_505.2⟩)
                  · skip
                    refine PW.iload_n q_225_45 rfl ?_
                    refine PW.cS q_225_46 (by decide) fun c90 hc90 => ?_
                    refine PW.jc_ge q_225_49 rfl (fun h91 => ?_) (fun h91 => ?_)
                    · skip
                      refine PW.cI q_225_65 (by decide) fun c92 hc92 => ?_
                      refine PW.istore q_225_66 (by decide) ?_
                      refine PW.incN q_225_68 rfl (by decide) (by decide) (by omega) (by omega) fun x93 hx93 => ?_
                      refine PW.goto q_225_71 rfl ?_
                      refine PW.lvS (lk1 rfl (lk1 rfl (lk1 rfl (lk1 rfl (lk1 rfl lk0))))) (ih_L225_25_50 _ ?_ ML225_25_50 x93 c92 IML225_25_50 FML225_25_50 (by omega) (by omega) (by omega) (by omega) (by omega) ⟨hbL225_25_505.1, hbL225_25_505.2⟩ rfl)
                      omega
                    · skip
                      refine PW.aload_n q_225_52 rfl ?_
                      refine PW.cI q_225_53 (by decide) fun c94 hc94 => ?_
                      refine PW.cV (as := [_]) (rest := []) q_225_54 t_mv_225_299 kd_294 IML225_25_50.1 (by decide) rfl (by decide) rfl rfl (Nat.le_of_ble_eq_true rfl) (Nat.le_of_ble_eq_true rfl) (by decide) (by decide) ?_
                      refine PW.up (by decide) (c_X12_goesOn G _ ML225_25_50 IML225_25_50 c94 fun x96 M95 IM95 GM95 hx96 TM95 => ?_)
                      have FM95 := Fr.trans FML225_25_50 GM95 (rfl)
                      refine PW.cI q_225_57 (by decide) fun c97 hc97 => ?_
                      refine PW.jc_ne q_225_58 rfl (fun h98 => ?_) (fun h98 => ?_)
                      · skip
                        refine PW.cI q_225_65 (by decide) fun c99 hc99 => ?_
                        refine PW.istore q_225_66 (by decide) ?_
                        refine PW.incN q_225_68 rfl (by decide) (by decide) (by omega) (by omega) fun x100 hx100 => ?_
                        refine PW.goto q_225_71 rfl ?_
                        refine PW.lvS (lk1 rfl (lk1 rfl (lk1 rfl (lk1 rfl (lk1 rfl lk0))))) (ih_L225_25_50 _ ?_ M95 x100 c99 IM95 FM95 (by omega) (by omega) (by omega) (by omega) (by omega) ⟨((congrArg (fun e => o_i e 2) (Fr.at GM95 kd_294 rfl)).trans hbL225_25_505.1), (hbL225_25_505.2.tr TM95.2)⟩ rfl)
                        omega
                      · skip
                        refine PW.cI q_225_61 (by decide) fun c101 hc101 => ?_
                        refine PW.goto q_225_62 rfl ?_
                        refine PW.istore q_225_66 (by decide) ?_
                        refine PW.incN q_225_68 rfl (by decide) (by decide) (by omega) (by omega) fun x102 hx102 => ?_
                        refine PW.goto q_225_71 rfl ?_
                        refine PW.lvS (lk1 rfl (lk1 rfl (lk1 rfl (lk1 rfl (lk1 rfl lk0))))) (ih_L225_25_50 _ ?_ M95 x102 c101 IM95 FM95 (by omega) (by omega) (by omega) (by omega) (by omega) ⟨((congrArg (fun e => o_i e 2) (Fr.at GM95 kd_294 rfl)).trans hbL225_25_505.1), (hbL225_25_505.2.tr TM95.2)⟩ rfl)
                        omega
            exact PW.lvS (lk1 rfl (lk1 rfl (lk1 rfl (lk1 rfl (lk1 rfl lk0))))) (L225_25_50 _ M47 c48 c49 IM47 FM47 (by omega) (by omega) (by omega) (by omega) (by omega) ⟨((congrArg (fun e => o_i e 2) (Fr.at GM47 kd_294 rfl)).trans (UM2.i (c := 294) (k := 2) (Or.inr (by decide)))), ((gHq.refl.pu UM2 (by decide)).cg (Fr.at GM47 kd_296 rfl) (Fr.at GM47 kd_294 rfl))⟩ rfl)
theorem c_X12_run (G : pG) (Kr : pK) (M : pM) (I : Iv gTT M) (a1 : Int32) (a2 : Int32) (hK : ∀ (x : Int32) (M1 : pM), Iv gTT M1 → Fr [40, 42, 48] M M1 → ((gLq M1 M) ∧ gHq M1 M) → Kr.1 (some (.int x)) 311 M1) : PW G false 6 226 (p_mc 226) (p_msl 226) Kr 0 (lv_args 0 [.ref 294, .int a1, .int a2]) [] 311 M 0 0 := by
  have F : Fr [40, 42, 48] M M := Fr.refl
  refine PW.aload_n q_226_0 rfl ?_
  refine PW.cI q_226_1 (by decide) fun c1 hc1 => ?_
  refine PW.pI q_226_2 (Or.inl t_ft_226_1) gF_40_0 gP_40_0 kd_294 Stab0 I (by decide) rfl (n_lo _) (n_hi _) fun M2 IM2 fM2 UM2 => ?_
  have FM2 := Fr.pu F UM2.1 kd_294 (rfl : List.contains [40, 42, 48] 40 = true)
  refine PW.aload_n q_226_5 rfl ?_
  refine PW.iload_n q_226_6 rfl ?_
  refine PW.cV (as := [_]) (rest := []) q_226_7 t_mv_226_251 kd_294 IM2.1 (by decide) rfl (by decide) rfl rfl (Nat.le_of_ble_eq_true rfl) (Nat.le_of_ble_eq_true rfl) (by decide) (by decide) ?_
  refine PW.iload_n q_196_0 rfl ?_
  refine PW.cI q_196_1 (by decide) fun c3 hc3 => ?_
  refine PW.aload_n q_196_2 rfl ?_
  refine PW.gR 296 q_196_3 (Or.inl t_ft_196_33) gF_40_6 kd_294 IM2.1 (by decide) rfl ?_
  refine PW.cI q_196_6 (by decide) fun c4 hc4 => ?_
  refine PW.aI q_196_7 gA_42 kd_296 IM2.1 (by decide) gB_42_1_1 (by decide) (by omega) (by omega) fun x5 fx5 hx5 kx5 => ?_
  refine PW.cI q_196_8 (by decide) fun c6 hc6 => ?_
  refine PW.subN q_196_9 (by omega) (by omega) fun x7 hx7 => ?_
  refine PW.callS (as := [_, _, _]) (rest := []) q_196_10 t_ms_196_176 (by decide) rfl (Nat.le_of_ble_eq_true rfl) (Nat.le_of_ble_eq_true rfl) (by decide) (by decide) ?_
  refine PW.iload_n q_166_0 rfl ?_
  refine PW.iload_n q_166_1 rfl ?_
  refine PW.jc_lt q_166_2 rfl (fun h8 => ?_) (fun h8 => ?_)
  · skip
    refine PW.cI q_166_14 (by decide) fun c9 hc9 => ?_
    refine PW.rZ q_166_15 rfl (by omega) (by omega) (by decide) (by decide) ?_
    refine PW.rZ q_196_13 rfl (by omega) (by omega) (by decide) (by decide) ?_
    refine PW.jz_eq q_226_10 rfl (fun h10 => ?_) (fun h10 => False.elim (by omega))
    refine PW.cI q_226_23 (by decide) fun c11 hc11 => ?_
    refine PW.rI q_226_24 rfl (by decide) (by decide) ?_
    exact hK c11 M2 IM2 FM2 ⟨(UM2.i (c := 294) (k := 2) (Or.inr (by decide))), (gHq.refl.pu UM2 (by decide))⟩
  · skip
    refine PW.iload_n q_166_5 rfl ?_
    refine PW.iload_n q_166_6 rfl ?_
    refine PW.jc_gt q_166_7 rfl (fun h12 => ?_) (fun h12 => ?_)
    · skip
      refine PW.cI q_166_14 (by decide) fun c13 hc13 => ?_
      refine PW.rZ q_166_15 rfl (by omega) (by omega) (by decide) (by decide) ?_
      refine PW.rZ q_196_13 rfl (by omega) (by omega) (by decide) (by decide) ?_
      refine PW.jz_eq q_226_10 rfl (fun h14 => ?_) (fun h14 => False.elim (by omega))
      refine PW.cI q_226_23 (by decide) fun c15 hc15 => ?_
      refine PW.rI q_226_24 rfl (by decide) (by decide) ?_
      exact hK c15 M2 IM2 FM2 ⟨(UM2.i (c := 294) (k := 2) (Or.inr (by decide))), (gHq.refl.pu UM2 (by decide))⟩
    · skip
      refine PW.cI q_166_10 (by decide) fun c16 hc16 => ?_
      refine PW.goto q_166_11 rfl ?_
      refine PW.rZ q_166_15 rfl (by omega) (by omega) (by decide) (by decide) ?_
      refine PW.rZ q_196_13 rfl (by omega) (by omega) (by decide) (by decide) ?_
      refine PW.jz_eq q_226_10 rfl (fun h17 => False.elim (by omega)) (fun h17 => ?_)
      refine PW.iload_n q_226_13 rfl ?_
      refine PW.cI q_226_14 (by decide) fun c18 hc18 => ?_
      refine PW.cB q_226_15 (by decide) fun c19 hc19 => ?_
      refine PW.callS (as := [_, _, _]) (rest := []) q_226_17 t_ms_226_176 (by decide) rfl (Nat.le_of_ble_eq_true rfl) (Nat.le_of_ble_eq_true rfl) (by decide) (by decide) ?_
      refine PW.iload_n q_166_0 rfl ?_
      refine PW.iload_n q_166_1 rfl ?_
      refine PW.jc_lt q_166_2 rfl (fun h20 => ?_) (fun h20 => ?_)
      · skip
        refine PW.cI q_166_14 (by decide) fun c21 hc21 => ?_
        refine PW.rZ q_166_15 rfl (by omega) (by omega) (by decide) (by decide) ?_
        refine PW.jz_ne q_226_20 rfl (fun h22 => False.elim (by omega)) (fun h22 => ?_)
        refine PW.cI q_226_23 (by decide) fun c23 hc23 => ?_
        refine PW.rI q_226_24 rfl (by decide) (by decide) ?_
        exact hK c23 M2 IM2 FM2 ⟨(UM2.i (c := 294) (k := 2) (Or.inr (by decide))), (gHq.refl.pu UM2 (by decide))⟩
      · skip
        refine PW.iload_n q_166_5 rfl ?_
        refine PW.iload_n q_166_6 rfl ?_
        refine PW.jc_gt q_166_7 rfl (fun h24 => ?_) (fun h24 => ?_)
        · skip
          refine PW.cI q_166_14 (by decide) fun c25 hc25 => ?_
          refine PW.rZ q_166_15 rfl (by omega) (by omega) (by decide) (by decide) ?_
          refine PW.jz_ne q_226_20 rfl (fun h26 => False.elim (by omega)) (fun h26 => ?_)
          refine PW.cI q_226_23 (by decide) fun c27 hc27 => ?_
          refine PW.rI q_226_24 rfl (by decide) (by decide) ?_
          exact hK c27 M2 IM2 FM2 ⟨(UM2.i (c := 294) (k := 2) (Or.inr (by decide))), (gHq.refl.pu UM2 (by decide))⟩
        · skip
          refine PW.cI q_166_10 (by decide) fun c28 hc28 => ?_
          refine PW.goto q_166_11 rfl ?_
          refine PW.rZ q_166_15 rfl (by omega) (by omega) (by decide) (by decide) ?_
          refine PW.jz_ne q_226_20 rfl (fun h29 => ?_) (fun h29 => False.elim (by omega))
          refine PW.aload_n q_226_25 rfl ?_
          refine PW.cV (as := []) (rest := []) q_226_26 t_mv_226_308 kd_294 IM2.1 (by decide) rfl (by decide) rfl rfl (Nat.le_of_ble_eq_true rfl) (Nat.le_of_ble_eq_true rfl) (by decide) (by decide) ?_
          refine PW.up (by decide) (c_X12_tries G _ M2 IM2  fun M30 IM30 GM30 TM30 => ?_)
          have FM30 := Fr.trans FM2 GM30 (rfl)
          refine PW.aload_n q_226_29 rfl ?_
          refine PW.gR 296 q_226_30 (Or.inl t_ft_226_33) gF_40_6 kd_294 IM30.1 (by decide) rfl ?_
          refine PW.cB q_226_33 (by decide) fun c31 hc31 => ?_
          refine PW.iload_n q_226_35 rfl ?_
          refine PW.addN q_226_36 (by have := n_lo a1; have := n_hi a1; omega) (by have := n_lo a1; have := n_hi a1; omega) fun x32 hx32 => ?_
          refine PW.aH q_226_37 gA_42 kd_296 IM30.1 (by decide) (by omega) (by omega) fun x33 fx33 => ?_
          refine PW.istore_n q_226_38 (by decide) ?_
          refine PW.aload_n q_226_39 rfl ?_
          refine PW.iload_n q_226_40 rfl ?_
          refine PW.cV (as := [_]) (rest := []) q_226_41 t_mv_226_299 kd_294 IM30.1 (by decide) rfl (by decide) rfl rfl (Nat.le_of_ble_eq_true rfl) (Nat.le_of_ble_eq_true rfl) (by decide) (by decide) ?_
          refine PW.up (by decide) (c_X12_goesOn G _ M30 IM30 a2 fun x35 M34 IM34 GM34 hx35 TM34 => ?_)
          have FM34 := Fr.trans FM30 GM34 (rfl)
          refine PW.pop q_226_44 rfl ?_
          refine PW.aload_n q_226_45 rfl ?_
          refine PW.gR 296 q_226_46 (Or.inl t_ft_226_33) gF_40_6 kd_294 IM34.1 (by decide) rfl ?_
          refine PW.cB q_226_49 (by decide) fun c36 hc36 => ?_
          refine PW.iload_n q_226_51 rfl ?_
          refine PW.addN q_226_52 (by have := n_lo a1; have := n_hi a1; omega) (by have := n_lo a1; have := n_hi a1; omega) fun x37 hx37 => ?_
          refine PW.aH q_226_53 gA_42 kd_296 IM34.1 (by decide) (by omega) (by omega) fun x38 fx38 => ?_
          refine PW.iload_n q_226_54 rfl ?_
          refine PW.subH q_226_55 fun x39 => ?_
          refine PW.istore q_226_56 (by decide) ?_
          refine PW.aload_n q_226_58 rfl ?_
          refine PW.cV (as := []) (rest := []) q_226_59 t_mv_226_311 kd_294 IM34.1 (by decide) rfl (by decide) rfl rfl (Nat.le_of_ble_eq_true rfl) (Nat.le_of_ble_eq_true rfl) (by decide) (by decide) ?_
          refine PW.up (by decide) (c_X12_back G _ M34 IM34  fun M40 IM40 GM40 TM40 => ?_)
          have FM40 := Fr.trans FM34 GM40 (rfl)
          refine PW.iload q_226_62 rfl ?_
          refine PW.rI q_226_64 rfl (by decide) (by decide) ?_
          exact hK x39 M40 IM40 FM40 ⟨((congrArg (fun e => o_i e 2) (Fr.at GM40 kd_294 rfl)).trans ((congrArg (fun e => o_i e 2) (Fr.at GM34 kd_294 rfl)).trans ((congrArg (fun e => o_i e 2) (Fr.at GM30 kd_294 rfl)).trans (UM2.i (c := 294) (k := 2) (Or.inr (by decide)))))), ((((gHq.refl.pu UM2 (by decide)).cg (Fr.at GM30 kd_296 rfl) (Fr.at GM30 kd_294 rfl)).tr TM34.2).tr TM40.2)⟩
theorem c_X12_turns (G : pG) (Kr : pK) (M : pM) (I : Iv gTT M) (a1 : Int32) (a2 : Int32) (hK : ∀ (x : Int32) (M1 : pM), Iv gTT M1 → Fr [40, 42, 48] M M1 → ((gLq M1 M) ∧ gHq M1 M) → Kr.1 (some (.int x)) 311 M1) : PW G false 6 227 (p_mc 227) (p_msl 227) Kr 0 (lv_args 0 [.ref 294, .int a1, .int a2]) [] 311 M 0 0 := by
  have F : Fr [40, 42, 48] M M := Fr.refl
  refine PW.aload_n q_227_0 rfl ?_
  refine PW.cI q_227_1 (by decide) fun c1 hc1 => ?_
  refine PW.pI q_227_2 (Or.inl t_ft_227_1) gF_40_0 gP_40_0 kd_294 Stab0 I (by decide) rfl (n_lo _) (n_hi _) fun M2 IM2 fM2 UM2 => ?_
  have FM2 := Fr.pu F UM2.1 kd_294 (rfl : List.contains [40, 42, 48] 40 = true)
  refine PW.aload_n q_227_5 rfl ?_
  refine PW.iload_n q_227_6 rfl ?_
  refine PW.cV (as := [_]) (rest := []) q_227_7 t_mv_227_251 kd_294 IM2.1 (by decide) rfl (by decide) rfl rfl (Nat.le_of_ble_eq_true rfl) (Nat.le_of_ble_eq_true rfl) (by decide) (by decide) ?_
  refine PW.iload_n q_196_0 rfl ?_
  refine PW.cI q_196_1 (by decide) fun c3 hc3 => ?_
  refine PW.aload_n q_196_2 rfl ?_
  refine PW.gR 296 q_196_3 (Or.inl t_ft_196_33) gF_40_6 kd_294 IM2.1 (by decide) rfl ?_
  refine PW.cI q_196_6 (by decide) fun c4 hc4 => ?_
  refine PW.aI q_196_7 gA_42 kd_296 IM2.1 (by decide) gB_42_1_1 (by decide) (by omega) (by omega) fun x5 fx5 hx5 kx5 => ?_
  refine PW.cI q_196_8 (by decide) fun c6 hc6 => ?_
  refine PW.subN q_196_9 (by omega) (by omega) fun x7 hx7 => ?_
  refine PW.callS (as := [_, _, _]) (rest := []) q_196_10 t_ms_196_176 (by decide) rfl (Nat.le_of_ble_eq_true rfl) (Nat.le_of_ble_eq_true rfl) (by decide) (by decide) ?_
  refine PW.iload_n q_166_0 rfl ?_
  refine PW.iload_n q_166_1 rfl ?_
  refine PW.jc_lt q_166_2 rfl (fun h8 => ?_) (fun h8 => ?_)
  · skip
    refine PW.cI q_166_14 (by decide) fun c9 hc9 => ?_
    refine PW.rZ q_166_15 rfl (by omega) (by omega) (by decide) (by decide) ?_
    refine PW.rZ q_196_13 rfl (by omega) (by omega) (by decide) (by decide) ?_
    refine PW.jz_eq q_227_10 rfl (fun h10 => ?_) (fun h10 => False.elim (by omega))
    refine PW.cI q_227_23 (by decide) fun c11 hc11 => ?_
    refine PW.rI q_227_24 rfl (by decide) (by decide) ?_
    exact hK c11 M2 IM2 FM2 ⟨(UM2.i (c := 294) (k := 2) (Or.inr (by decide))), (gHq.refl.pu UM2 (by decide))⟩
  · skip
    refine PW.iload_n q_166_5 rfl ?_
    refine PW.iload_n q_166_6 rfl ?_
    refine PW.jc_gt q_166_7 rfl (fun h12 => ?_) (fun h12 => ?_)
    · skip
      refine PW.cI q_166_14 (by decide) fun c13 hc13 => ?_
      refine PW.rZ q_166_15 rfl (by omega) (by omega) (by decide) (by decide) ?_
      refine PW.rZ q_196_13 rfl (by omega) (by omega) (by decide) (by decide) ?_
      refine PW.jz_eq q_227_10 rfl (fun h14 => ?_) (fun h14 => False.elim (by omega))
      refine PW.cI q_227_23 (by decide) fun c15 hc15 => ?_
      refine PW.rI q_227_24 rfl (by decide) (by decide) ?_
      exact hK c15 M2 IM2 FM2 ⟨(UM2.i (c := 294) (k := 2) (Or.inr (by decide))), (gHq.refl.pu UM2 (by decide))⟩
    · skip
      refine PW.cI q_166_10 (by decide) fun c16 hc16 => ?_
      refine PW.goto q_166_11 rfl ?_
      refine PW.rZ q_166_15 rfl (by omega) (by omega) (by decide) (by decide) ?_
      refine PW.rZ q_196_13 rfl (by omega) (by omega) (by decide) (by decide) ?_
      refine PW.jz_eq q_227_10 rfl (fun h17 => False.elim (by omega)) (fun h17 => ?_)
      refine PW.iload_n q_227_13 rfl ?_
      refine PW.cI q_227_14 (by decide) fun c18 hc18 => ?_
      refine PW.cB q_227_15 (by decide) fun c19 hc19 => ?_
      refine PW.callS (as := [_, _, _]) (rest := []) q_227_17 t_ms_227_176 (by decide) rfl (Nat.le_of_ble_eq_true rfl) (Nat.le_of_ble_eq_true rfl) (by decide) (by decide) ?_
      refine PW.iload_n q_166_0 rfl ?_
      refine PW.iload_n q_166_1 rfl ?_
      refine PW.jc_lt q_166_2 rfl (fun h20 => ?_) (fun h20 => ?_)
      · skip
        refine PW.cI q_166_14 (by decide) fun c21 hc21 => ?_
        refine PW.rZ q_166_15 rfl (by omega) (by omega) (by decide) (by decide) ?_
        refine PW.jz_ne q_227_20 rfl (fun h22 => False.elim (by omega)) (fun h22 => ?_)
        refine PW.cI q_227_23 (by decide) fun c23 hc23 => ?_
        refine PW.rI q_227_24 rfl (by decide) (by decide) ?_
        exact hK c23 M2 IM2 FM2 ⟨(UM2.i (c := 294) (k := 2) (Or.inr (by decide))), (gHq.refl.pu UM2 (by decide))⟩
      · skip
        refine PW.iload_n q_166_5 rfl ?_
        refine PW.iload_n q_166_6 rfl ?_
        refine PW.jc_gt q_166_7 rfl (fun h24 => ?_) (fun h24 => ?_)
        · skip
          refine PW.cI q_166_14 (by decide) fun c25 hc25 => ?_
          refine PW.rZ q_166_15 rfl (by omega) (by omega) (by decide) (by decide) ?_
          refine PW.jz_ne q_227_20 rfl (fun h26 => False.elim (by omega)) (fun h26 => ?_)
          refine PW.cI q_227_23 (by decide) fun c27 hc27 => ?_
          refine PW.rI q_227_24 rfl (by decide) (by decide) ?_
          exact hK c27 M2 IM2 FM2 ⟨(UM2.i (c := 294) (k := 2) (Or.inr (by decide))), (gHq.refl.pu UM2 (by decide))⟩
        · skip
          refine PW.cI q_166_10 (by decide) fun c28 hc28 => ?_
          refine PW.goto q_166_11 rfl ?_
          refine PW.rZ q_166_15 rfl (by omega) (by omega) (by decide) (by decide) ?_
          refine PW.jz_ne q_227_20 rfl (fun h29 => ?_) (fun h29 => False.elim (by omega))
          refine PW.aload_n q_227_25 rfl ?_
          refine PW.cV (as := []) (rest := []) q_227_26 t_mv_227_308 kd_294 IM2.1 (by decide) rfl (by decide) rfl rfl (Nat.le_of_ble_eq_true rfl) (Nat.le_of_ble_eq_true rfl) (by decide) (by decide) ?_
          refine PW.up (by decide) (c_X12_tries G _ M2 IM2  fun M30 IM30 GM30 TM30 => ?_)
          have FM30 := Fr.trans FM2 GM30 (rfl)
          refine PW.aload_n q_227_29 rfl ?_
          refine PW.gR 296 q_227_30 (Or.inl t_ft_227_33) gF_40_6 kd_294 IM30.1 (by decide) rfl ?_
          refine PW.cB q_227_33 (by decide) fun c31 hc31 => ?_
          refine PW.iload_n q_227_35 rfl ?_
          refine PW.addN q_227_36 (by have := n_lo a1; have := n_hi a1; omega) (by have := n_lo a1; have := n_hi a1; omega) fun x32 hx32 => ?_
          refine PW.aI q_227_37 gA_42 kd_296 IM30.1 (by decide) gB_42_80_81 (by decide) (by omega) (by omega) fun x33 fx33 hx33 kx33 => ?_
          refine PW.istore_n q_227_38 (by decide) ?_
          refine PW.aload_n q_227_39 rfl ?_
          refine PW.iload_n q_227_40 rfl ?_
          refine PW.cV (as := [_]) (rest := []) q_227_41 t_mv_227_299 kd_294 IM30.1 (by decide) rfl (by decide) rfl rfl (Nat.le_of_ble_eq_true rfl) (Nat.le_of_ble_eq_true rfl) (by decide) (by decide) ?_
          refine PW.up (by decide) (c_X12_goesOn G _ M30 IM30 a2 fun x35 M34 IM34 GM34 hx35 TM34 => ?_)
          have FM34 := Fr.trans FM30 GM34 (rfl)
          refine PW.pop q_227_44 rfl ?_
          refine PW.aload_n q_227_45 rfl ?_
          refine PW.gR 296 q_227_46 (Or.inl t_ft_227_33) gF_40_6 kd_294 IM34.1 (by decide) rfl ?_
          refine PW.cB q_227_49 (by decide) fun c36 hc36 => ?_
          refine PW.iload_n q_227_51 rfl ?_
          refine PW.addN q_227_52 (by have := n_lo a1; have := n_hi a1; omega) (by have := n_lo a1; have := n_hi a1; omega) fun x37 hx37 => ?_
          refine PW.aI q_227_53 gA_42 kd_296 IM34.1 (by decide) gB_42_80_81 (by decide) (by omega) (by omega) fun x38 fx38 hx38 kx38 => ?_
          refine PW.iload_n q_227_54 rfl ?_
          refine PW.subN q_227_55 (by omega) (by omega) fun x39 hx39 => ?_
          refine PW.istore q_227_56 (by decide) ?_
          refine PW.aload_n q_227_58 rfl ?_
          refine PW.cV (as := []) (rest := []) q_227_59 t_mv_227_311 kd_294 IM34.1 (by decide) rfl (by decide) rfl rfl (Nat.le_of_ble_eq_true rfl) (Nat.le_of_ble_eq_true rfl) (by decide) (by decide) ?_
          refine PW.up (by decide) (c_X12_back G _ M34 IM34  fun M40 IM40 GM40 TM40 => ?_)
          have FM40 := Fr.trans FM34 GM40 (rfl)
          refine PW.iload q_227_62 rfl ?_
          refine PW.rI q_227_64 rfl (by decide) (by decide) ?_
          exact hK x39 M40 IM40 FM40 ⟨((congrArg (fun e => o_i e 2) (Fr.at GM40 kd_294 rfl)).trans ((congrArg (fun e => o_i e 2) (Fr.at GM34 kd_294 rfl)).trans ((congrArg (fun e => o_i e 2) (Fr.at GM30 kd_294 rfl)).trans (UM2.i (c := 294) (k := 2) (Or.inr (by decide)))))), ((((gHq.refl.pu UM2 (by decide)).cg (Fr.at GM30 kd_296 rfl) (Fr.at GM30 kd_294 rfl)).tr TM34.2).tr TM40.2)⟩
theorem c_X12_next (G : pG) (Kr : pK) (M : pM) (I : Iv gTT M) (a1 : Int32) (hK : ∀ (x : Int32) (M1 : pM), Iv gTT M1 → Fr [40] M M1 → ((gLq M1 M) ∧ gHq M1 M) → Kr.1 (some (.int x)) 311 M1) : PW G false 3 228 (p_mc 228) (p_msl 228) Kr 0 (lv_args 0 [.ref 294, .int a1]) [] 311 M 0 0 := by
  have F : Fr [40] M M := Fr.refl
  refine PW.aload_n q_228_0 rfl ?_
  refine PW.cI q_228_1 (by decide) fun c1 hc1 => ?_
  refine PW.pI q_228_2 (Or.inl t_ft_228_1) gF_40_0 gP_40_0 kd_294 Stab0 I (by decide) rfl (n_lo _) (n_hi _) fun M2 IM2 fM2 UM2 => ?_
  have FM2 := Fr.pu F UM2.1 kd_294 (rfl : List.contains [40] 40 = true)
  refine PW.aload_n q_228_5 rfl ?_
  refine PW.iload_n q_228_6 rfl ?_
  refine PW.cV (as := [_]) (rest := []) q_228_7 t_mv_228_251 kd_294 IM2.1 (by decide) rfl (by decide) rfl rfl (Nat.le_of_ble_eq_true rfl) (Nat.le_of_ble_eq_true rfl) (by decide) (by decide) ?_
  refine PW.iload_n q_196_0 rfl ?_
  refine PW.cI q_196_1 (by decide) fun c3 hc3 => ?_
  refine PW.aload_n q_196_2 rfl ?_
  refine PW.gR 296 q_196_3 (Or.inl t_ft_196_33) gF_40_6 kd_294 IM2.1 (by decide) rfl ?_
  refine PW.cI q_196_6 (by decide) fun c4 hc4 => ?_
  refine PW.aI q_196_7 gA_42 kd_296 IM2.1 (by decide) gB_42_1_1 (by decide) (by omega) (by omega) fun x5 fx5 hx5 kx5 => ?_
  refine PW.cI q_196_8 (by decide) fun c6 hc6 => ?_
  refine PW.subN q_196_9 (by omega) (by omega) fun x7 hx7 => ?_
  refine PW.callS (as := [_, _, _]) (rest := []) q_196_10 t_ms_196_176 (by decide) rfl (Nat.le_of_ble_eq_true rfl) (Nat.le_of_ble_eq_true rfl) (by decide) (by decide) ?_
  refine PW.iload_n q_166_0 rfl ?_
  refine PW.iload_n q_166_1 rfl ?_
  refine PW.jc_lt q_166_2 rfl (fun h8 => ?_) (fun h8 => ?_)
  · skip
    refine PW.cI q_166_14 (by decide) fun c9 hc9 => ?_
    refine PW.rZ q_166_15 rfl (by omega) (by omega) (by decide) (by decide) ?_
    refine PW.rZ q_196_13 rfl (by omega) (by omega) (by decide) (by decide) ?_
    refine PW.jz_eq q_228_10 rfl (fun h10 => ?_) (fun h10 => False.elim (by omega))
    refine PW.cI q_228_21 (by decide) fun c11 hc11 => ?_
    refine PW.rI q_228_22 rfl (by decide) (by decide) ?_
    exact hK c11 M2 IM2 FM2 ⟨(UM2.i (c := 294) (k := 2) (Or.inr (by decide))), (gHq.refl.pu UM2 (by decide))⟩
  · skip
    refine PW.iload_n q_166_5 rfl ?_
    refine PW.iload_n q_166_6 rfl ?_
    refine PW.jc_gt q_166_7 rfl (fun h12 => ?_) (fun h12 => ?_)
    · skip
      refine PW.cI q_166_14 (by decide) fun c13 hc13 => ?_
      refine PW.rZ q_166_15 rfl (by omega) (by omega) (by decide) (by decide) ?_
      refine PW.rZ q_196_13 rfl (by omega) (by omega) (by decide) (by decide) ?_
      refine PW.jz_eq q_228_10 rfl (fun h14 => ?_) (fun h14 => False.elim (by omega))
      refine PW.cI q_228_21 (by decide) fun c15 hc15 => ?_
      refine PW.rI q_228_22 rfl (by decide) (by decide) ?_
      exact hK c15 M2 IM2 FM2 ⟨(UM2.i (c := 294) (k := 2) (Or.inr (by decide))), (gHq.refl.pu UM2 (by decide))⟩
    · skip
      refine PW.cI q_166_10 (by decide) fun c16 hc16 => ?_
      refine PW.goto q_166_11 rfl ?_
      refine PW.rZ q_166_15 rfl (by omega) (by omega) (by decide) (by decide) ?_
      refine PW.rZ q_196_13 rfl (by omega) (by omega) (by decide) (by decide) ?_
      refine PW.jz_eq q_228_10 rfl (fun h17 => False.elim (by omega)) (fun h17 => ?_)
      refine PW.aload_n q_228_13 rfl ?_
      refine PW.iload_n q_228_14 rfl ?_
      refine PW.cV (as := [_]) (rest := []) q_228_15 t_mv_228_274 kd_294 IM2.1 (by decide) rfl (by decide) rfl rfl (Nat.le_of_ble_eq_true rfl) (Nat.le_of_ble_eq_true rfl) (by decide) (by decide) ?_
      refine PW.up (by decide) (c_X12_choice (gTT) (Stab0) G _ M2 IM2 a1 (by omega) (by omega) fun x19 M18 IM18 GM18 hx19 kx19 TM18 => ?_)
      have FM18 := Fr.trans FM2 GM18 (rfl)
      refine PW.goto q_228_18 rfl ?_
      refine PW.rI q_228_22 rfl (by decide) (by decide) ?_
      exact hK x19 M18 IM18 FM18 ⟨((congrArg (fun e => o_i e 2) (Fr.at GM18 kd_294 rfl)).trans (UM2.i (c := 294) (k := 2) (Or.inr (by decide)))), ((gHq.refl.pu UM2 (by decide)).cg (Fr.at GM18 kd_296 rfl) (Fr.at GM18 kd_294 rfl))⟩
theorem c_X12_said (G : pG) (Kr : pK) (M : pM) (I : Iv gTT M) (a1 : Int32) (a2 : Int32) (hK : ∀ (x : Int32) (M1 : pM), Iv gTT M1 → Fr [40] M M1 → ((gLq M1 M) ∧ gHq M1 M) → Kr.1 (some (.int x)) 311 M1) : PW G false 2 229 (p_mc 229) (p_msl 229) Kr 0 (lv_args 0 [.ref 294, .int a1, .int a2]) [] 311 M 0 0 := by
  have F : Fr [40] M M := Fr.refl
  refine PW.aload_n q_229_0 rfl ?_
  refine PW.cI q_229_1 (by decide) fun c1 hc1 => ?_
  refine PW.pI q_229_2 (Or.inl t_ft_229_1) gF_40_0 gP_40_0 kd_294 Stab0 I (by decide) rfl (n_lo _) (n_hi _) fun M2 IM2 fM2 UM2 => ?_
  have FM2 := Fr.pu F UM2.1 kd_294 (rfl : List.contains [40] 40 = true)
  refine PW.aload_n q_229_5 rfl ?_
  refine PW.iload_n q_229_6 rfl ?_
  refine PW.cV (as := [_]) (rest := []) q_229_7 t_mv_229_241 kd_294 IM2.1 (by decide) rfl (by decide) rfl rfl (Nat.le_of_ble_eq_true rfl) (Nat.le_of_ble_eq_true rfl) (by decide) (by decide) ?_
  refine PW.iload_n q_195_0 rfl ?_
  refine PW.cI q_195_1 (by decide) fun c3 hc3 => ?_
  refine PW.aload_n q_195_2 rfl ?_
  refine PW.gR 296 q_195_3 (Or.inl t_ft_195_33) gF_40_6 kd_294 IM2.1 (by decide) rfl ?_
  refine PW.cI q_195_6 (by decide) fun c4 hc4 => ?_
  refine PW.aI q_195_7 gA_42 kd_296 IM2.1 (by decide) gB_42_0_0 (by decide) (by omega) (by omega) fun x5 fx5 hx5 kx5 => ?_
  refine PW.cI q_195_8 (by decide) fun c6 hc6 => ?_
  refine PW.subN q_195_9 (by omega) (by omega) fun x7 hx7 => ?_
  refine PW.callS (as := [_, _, _]) (rest := []) q_195_10 t_ms_195_176 (by decide) rfl (Nat.le_of_ble_eq_true rfl) (Nat.le_of_ble_eq_true rfl) (by decide) (by decide) ?_
  refine PW.iload_n q_166_0 rfl ?_
  refine PW.iload_n q_166_1 rfl ?_
  refine PW.jc_lt q_166_2 rfl (fun h8 => ?_) (fun h8 => ?_)
  · skip
    refine PW.cI q_166_14 (by decide) fun c9 hc9 => ?_
    refine PW.rZ q_166_15 rfl (by omega) (by omega) (by decide) (by decide) ?_
    refine PW.rZ q_195_13 rfl (by omega) (by omega) (by decide) (by decide) ?_
    refine PW.jz_eq q_229_10 rfl (fun h10 => ?_) (fun h10 => False.elim (by omega))
    refine PW.cI q_229_38 (by decide) fun c11 hc11 => ?_
    refine PW.rI q_229_39 rfl (by decide) (by decide) ?_
    exact hK c11 M2 IM2 FM2 ⟨(UM2.i (c := 294) (k := 2) (Or.inr (by decide))), (gHq.refl.pu UM2 (by decide))⟩
  · skip
    refine PW.iload_n q_166_5 rfl ?_
    refine PW.iload_n q_166_6 rfl ?_
    refine PW.jc_gt q_166_7 rfl (fun h12 => ?_) (fun h12 => ?_)
    · skip
      refine PW.cI q_166_14 (by decide) fun c13 hc13 => ?_
      refine PW.rZ q_166_15 rfl (by omega) (by omega) (by decide) (by decide) ?_
      refine PW.rZ q_195_13 rfl (by omega) (by omega) (by decide) (by decide) ?_
      refine PW.jz_eq q_229_10 rfl (fun h14 => ?_) (fun h14 => False.elim (by omega))
      refine PW.cI q_229_38 (by decide) fun c15 hc15 => ?_
      refine PW.rI q_229_39 rfl (by decide) (by decide) ?_
      exact hK c15 M2 IM2 FM2 ⟨(UM2.i (c := 294) (k := 2) (Or.inr (by decide))), (gHq.refl.pu UM2 (by decide))⟩
    · skip
      refine PW.cI q_166_10 (by decide) fun c16 hc16 => ?_
      refine PW.goto q_166_11 rfl ?_
      refine PW.rZ q_166_15 rfl (by omega) (by omega) (by decide) (by decide) ?_
      refine PW.rZ q_195_13 rfl (by omega) (by omega) (by decide) (by decide) ?_
      refine PW.jz_eq q_229_10 rfl (fun h17 => False.elim (by omega)) (fun h17 => ?_)
      refine PW.aload_n q_229_13 rfl ?_
      refine PW.iload_n q_229_14 rfl ?_
      refine PW.cV (as := [_]) (rest := []) q_229_15 t_mv_229_241 kd_294 IM2.1 (by decide) rfl (by decide) rfl rfl (Nat.le_of_ble_eq_true rfl) (Nat.le_of_ble_eq_true rfl) (by decide) (by decide) ?_
      refine PW.iload_n q_195_0 rfl ?_
      refine PW.cI q_195_1 (by decide) fun c18 hc18 => ?_
      refine PW.aload_n q_195_2 rfl ?_
      refine PW.gR 296 q_195_3 (Or.inl t_ft_195_33) gF_40_6 kd_294 IM2.1 (by decide) rfl ?_
      refine PW.cI q_195_6 (by decide) fun c19 hc19 => ?_
      refine PW.aI q_195_7 gA_42 kd_296 IM2.1 (by decide) gB_42_0_0 (by decide) (by omega) (by omega) fun x20 fx20 hx20 kx20 => ?_
      refine PW.cI q_195_8 (by decide) fun c21 hc21 => ?_
      refine PW.subN q_195_9 (by omega) (by omega) fun x22 hx22 => ?_
      refine PW.callS (as := [_, _, _]) (rest := []) q_195_10 t_ms_195_176 (by decide) rfl (Nat.le_of_ble_eq_true rfl) (Nat.le_of_ble_eq_true rfl) (by decide) (by decide) ?_
      refine PW.iload_n q_166_0 rfl ?_
      refine PW.iload_n q_166_1 rfl ?_
      refine PW.jc_lt q_166_2 rfl (fun h23 => ?_) (fun h23 => ?_)
      · skip
        refine PW.cI q_166_14 (by decide) fun c24 hc24 => ?_
        refine PW.rZ q_166_15 rfl (by omega) (by omega) (by decide) (by decide) ?_
        refine PW.rZ q_195_13 rfl (by omega) (by omega) (by decide) (by decide) ?_
        refine PW.jz_eq q_229_18 rfl (fun h25 => ?_) (fun h25 => False.elim (by omega))
        refine PW.cI q_229_38 (by decide) fun c26 hc26 => ?_
        refine PW.rI q_229_39 rfl (by decide) (by decide) ?_
        exact hK c26 M2 IM2 FM2 ⟨(UM2.i (c := 294) (k := 2) (Or.inr (by decide))), (gHq.refl.pu UM2 (by decide))⟩
      · skip
        refine PW.iload_n q_166_5 rfl ?_
        refine PW.iload_n q_166_6 rfl ?_
        refine PW.jc_gt q_166_7 rfl (fun h27 => ?_) (fun h27 => ?_)
        · skip
          refine PW.cI q_166_14 (by decide) fun c28 hc28 => ?_
          refine PW.rZ q_166_15 rfl (by omega) (by omega) (by decide) (by decide) ?_
          refine PW.rZ q_195_13 rfl (by omega) (by omega) (by decide) (by decide) ?_
          refine PW.jz_eq q_229_18 rfl (fun h29 => ?_) (fun h29 => False.elim (by omega))
          refine PW.cI q_229_38 (by decide) fun c30 hc30 => ?_
          refine PW.rI q_229_39 rfl (by decide) (by decide) ?_
          exact hK c30 M2 IM2 FM2 ⟨(UM2.i (c := 294) (k := 2) (Or.inr (by decide))), (gHq.refl.pu UM2 (by decide))⟩
        · skip
          refine PW.cI q_166_10 (by decide) fun c31 hc31 => ?_
          refine PW.goto q_166_11 rfl ?_
          refine PW.rZ q_166_15 rfl (by omega) (by omega) (by decide) (by decide) ?_
          refine PW.rZ q_195_13 rfl (by omega) (by omega) (by decide) (by decide) ?_
          refine PW.jz_eq q_229_18 rfl (fun h32 => False.elim (by omega)) (fun h32 => ?_)
          refine PW.aload_n q_229_21 rfl ?_
          refine PW.gR 296 q_229_22 (Or.inl t_ft_229_33) gF_40_6 kd_294 IM2.1 (by decide) rfl ?_
          refine PW.cB q_229_25 (by decide) fun c33 hc33 => ?_
          refine PW.cB q_229_27 (by decide) fun c34 hc34 => ?_
          refine PW.iload_n q_229_29 rfl ?_
          refine PW.mulN q_229_30 (6) (by omega) a1 (fun h => n_eq.mpr (by omega)) (fun h => n_eq.mpr (by omega)) (by omega) (by omega) fun x35 hx35 => ?_
          refine PW.addN q_229_31 (by omega) (by omega) fun x36 hx36 => ?_
          refine PW.iload_n q_229_32 rfl ?_
          refine PW.addN q_229_33 (by have := n_lo a2; have := n_hi a2; omega) (by have := n_lo a2; have := n_hi a2; omega) fun x37 hx37 => ?_
          refine PW.aH q_229_34 gA_42 kd_296 IM2.1 (by decide) (by omega) (by omega) fun x38 fx38 => ?_
          refine PW.goto q_229_35 rfl ?_
          refine PW.rI q_229_39 rfl (by decide) (by decide) ?_
          exact hK x38 M2 IM2 FM2 ⟨(UM2.i (c := 294) (k := 2) (Or.inr (by decide))), (gHq.refl.pu UM2 (by decide))⟩
theorem c_X12_dearest (G : pG) (Kr : pK) (M : pM) (I : Iv gTT M)  (hK : ∀ (x : Int32) (M1 : pM), Iv gTT M1 → Fr [40] M M1 → ((gLq M1 M) ∧ gHq M1 M) → Kr.1 (some (.int x)) 311 M1) : PW G false 0 230 (p_mc 230) (p_msl 230) Kr 0 (lv_args 0 [.ref 294]) [] 311 M 0 0 := by
  have F : Fr [40] M M := Fr.refl
  refine PW.aload_n q_230_0 rfl ?_
  refine PW.cI q_230_1 (by decide) fun c1 hc1 => ?_
  refine PW.pI q_230_2 (Or.inl t_ft_230_1) gF_40_0 gP_40_0 kd_294 Stab0 I (by decide) rfl (n_lo _) (n_hi _) fun M2 IM2 fM2 UM2 => ?_
  have FM2 := Fr.pu F UM2.1 kd_294 (rfl : List.contains [40] 40 = true)
  refine PW.cI q_230_5 (by decide) fun c3 hc3 => ?_
  refine PW.istore_n q_230_6 (by decide) ?_
  refine PW.cI q_230_7 (by decide) fun c4 hc4 => ?_
  refine PW.istore_n q_230_8 (by decide) ?_
  refine PW.cI q_230_9 (by decide) fun c5 hc5 => ?_
  refine PW.istore_n q_230_10 (by decide) ?_
  have L230_11_6 : ∀ (n : Nat) (ML230_11_6 : pM) (v7 v8 v9 : Int32), Iv (gTT) ML230_11_6 → Fr [40] M ML230_11_6 → -1 ≤ v7.toInt → v7.toInt ≤ 60 → 0 ≤ v8.toInt → 0 ≤ v9.toInt → v9.toInt ≤ 6 → (gLq ML230_11_6 M ∧ gHq ML230_11_6 M) → (6 - v9.toInt).toNat = n → PW G false 0 230 (p_mc 230) (p_msl 230) Kr 11 [(0, .ref 294), (1, .int v7), (2, .int v8), (3, .int v9)] [] 311 ML230_11_6 0 0 := by
    intro n
    induction n using Nat.strongRecOn with
    | ind n ih_L230_11_6 =>
    intro ML230_11_6 v7 v8 v9 IML230_11_6 FML230_11_6 hbL230_11_60 hbL230_11_61 hbL230_11_62 hbL230_11_63 hbL230_11_64 hbL230_11_65 hmL230_11_6
    refine PW.iload_n q_230_11 rfl ?_
    refine PW.aload_n q_230_12 rfl ?_
    refine PW.gR 296 q_230_13 (Or.inl t_ft_230_33) gF_40_6 kd_294 IML230_11_6.1 (by decide) rfl ?_
    refine PW.cI q_230_16 (by decide) fun c10 hc10 => ?_
    refine PW.aI q_230_17 gA_42 kd_296 IML230_11_6.1 (by decide) gB_42_0_0 (by decide) (by omega) (by omega) fun x11 fx11 hx11 kx11 => ?_
    refine PW.jc_ge q_230_18 rfl (fun h12 => ?_) (fun h12 => ?_)
    · skip
      refine PW.iload_n q_230_102 rfl ?_
      refine PW.rI q_230_103 rfl (by decide) (by decide) ?_
      exact hK v7 ML230_11_6 IML230_11_6 FML230_11_6 ⟨hbL230_11_65.1, hbL230_11_65.2⟩
    · skip
      refine PW.iload_n q_230_21 rfl ?_
      refine PW.cI q_230_22 (by decide) fun c13 hc13 => ?_
      refine PW.addN q_230_23 (by omega) (by omega) fun x14 hx14 => ?_
      refine PW.istore q_230_24 (by decide) ?_
      have L230_26_15 : ∀ (n : Nat) (ML230_26_15 : pM) (v16 v17 v18 : Int32), Iv (gTT) ML230_26_15 → Fr [40] M ML230_26_15 → -1 ≤ v16.toInt → v16.toInt ≤ 60 → 0 ≤ v17.toInt → 1 ≤ v18.toInt → v18.toInt ≤ 6 → (gLq ML230_26_15 M ∧ gHq ML230_26_15 M) → (6 - v18.toInt).toNat = n → PW G false 0 230 (p_mc 230) (p_msl 230) Kr 26 [(0, .ref 294), (1, .int v16), (2, .int v17), (3, .int v9), (4, .int v18)] [] 311 ML230_26_15 0 0 := by
        intro n
        induction n using Nat.strongRecOn with
        | ind n ih_L230_26_15 =>
        intro ML230_26_15 v16 v17 v18 IML230_26_15 FML230_26_15 hbL230_26_150 hbL230_26_151 hbL230_26_152 hbL230_26_153 hbL230_26_154 hbL230_26_155 hmL230_26_15
        refine PW.iload q_230_26 rfl ?_
        refine PW.aload_n q_230_28 rfl ?_
        refine PW.gR 296 q_230_29 (Or.inl t_ft_230_33) gF_40_6 kd_294 IML230_26_15.1 (by decide) rfl ?_
        refine PW.cI q_230_32 (by decide) fun c19 hc19 => ?_
        refine PW.aI q_230_33 gA_42 kd_296 IML230_26_15.1 (by decide) gB_42_0_0 (by decide) (by omega) (by omega) fun x20 fx20 hx20 kx20 => ?_
        refine PW.jc_ge q_230_34 rfl (fun h21 => ?_) (fun h21 => ?_)
        · skip
          refine PW.incN q_230_96 rfl (by decide) (by decide) (by omega) (by omega) fun x22 hx22 => ?_
          refine PW.goto q_230_99 rfl ?_
          refine PW.lvS (lk1 rfl (lk1 rfl (lk1 rfl (lk1 rfl lk0)))) (ih_L230_11_6 _ ?_ ML230_26_15 v16 v17 x22 IML230_26_15 FML230_26_15 (by omega) (by omega) (by omega) (by omega) (by omega) ⟨hbL230_26_155.1, hbL230_26_155.2⟩ rfl)
          omega
        · skip
          refine PW.aload_n q_230_37 rfl ?_
          refine PW.gR 296 q_230_38 (Or.inl t_ft_230_33) gF_40_6 kd_294 IML230_26_15.1 (by decide) rfl ?_
          refine PW.cB q_230_41 (by decide) fun c23 hc23 => ?_
          refine PW.cB q_230_43 (by decide) fun c24 hc24 => ?_
          refine PW.iload_n q_230_45 rfl ?_
          refine PW.mulN q_230_46 (6) (by omega) v9 (fun h => n_eq.mpr (by omega)) (fun h => n_eq.mpr (by omega)) (by omega) (by omega) fun x25 hx25 => ?_
          refine PW.addN q_230_47 (by have := n_lo x25; have := n_hi x25; omega) (by have := n_lo x25; have := n_hi x25; omega) fun x26 hx26 => ?_
          refine PW.iload q_230_48 rfl ?_
          refine PW.addN q_230_50 (by have := n_lo x26; have := n_hi x26; omega) (by have := n_lo x26; have := n_hi x26; omega) fun x27 hx27 => ?_
          refine PW.aH q_230_51 gA_42 kd_296 IML230_26_15.1 (by decide) (by omega) (by omega) fun x28 fx28 => ?_
          refine PW.aload_n q_230_52 rfl ?_
          refine PW.gR 296 q_230_53 (Or.inl t_ft_230_33) gF_40_6 kd_294 IML230_26_15.1 (by decide) rfl ?_
          refine PW.cB q_230_56 (by decide) fun c29 hc29 => ?_
          refine PW.cB q_230_58 (by decide) fun c30 hc30 => ?_
          refine PW.iload q_230_60 rfl ?_
          refine PW.mulN q_230_62 (6) (by omega) v18 (fun h => n_eq.mpr (by omega)) (fun h => n_eq.mpr (by omega)) (by omega) (by omega) fun x31 hx31 => ?_
          refine PW.addN q_230_63 (by have := n_lo x31; have := n_hi x31; omega) (by have := n_lo x31; have := n_hi x31; omega) fun x32 hx32 => ?_
          refine PW.iload_n q_230_64 rfl ?_
          refine PW.addN q_230_65 (by have := n_lo x32; have := n_hi x32; omega) (by have := n_lo x32; have := n_hi x32; omega) fun x33 hx33 => ?_
          refine PW.aH q_230_66 gA_42 kd_296 IML230_26_15.1 (by decide) (by omega) (by omega) fun x34 fx34 => ?_
          refine PW.addH q_230_67 fun x35 => ?_
          refine PW.istore q_230_68 (by decide) ?_
          refine PW.iload q_230_70 rfl ?_
          refine PW.iload_n q_230_72 rfl ?_
          have J90_37 : ∀ (MJ90_37 : pM) (v38 v39 : Int32), Iv (gTT) MJ90_37 → Fr [40] M MJ90_37 → -1 ≤ v38.toInt → v38.toInt ≤ 60 → 0 ≤ v39.toInt → (gLq MJ90_37 M ∧ gHq MJ90_37 M) → PW G false 0 230 (p_mc 230) (p_msl 230) Kr 90 [(0, .ref 294), (1, .int v38), (2, .int v39), (3, .int v9), (4, .int v18), (5, .int x35)] [] 311 MJ90_37 0 0 := by
            intro MJ90_37 v38 v39 IMJ90_37 FMJ90_37 hbJ90_370 hbJ90_371 hbJ90_372 hbJ90_373
            refine PW.incN q_230_90 rfl (by decide) (by decide) (by omega) (by omega) fun x40 hx40 => ?_
            refine PW.goto q_230_93 rfl ?_
            refine PW.lvS (lk1 rfl (lk1 rfl (lk1 rfl (lk1 rfl (lk1 rfl lk0))))) (ih_L230_26_15 _ ?_ MJ90_37 v38 v39 x40 IMJ90_37 FMJ90_37 (by omega) (by omega) (by omega) (by omega) (by omega) ⟨hbJ90_373.1, hbJ90_373.2⟩ rfl)
            omega
          refine PW.jc_gt q_230_73 rfl (fun h36 => ?_) (fun h36 => ?_)
          · skip
            refine PW.iload q_230_79 rfl ?_
            refine PW.istore_n q_230_81 (by decide) ?_
            refine PW.cB q_230_82 (by decide) fun c41 hc41 => ?_
            refine PW.iload_n q_230_84 rfl ?_
            refine PW.mulN q_230_85 (10) (by omega) v9 (fun h => n_eq.mpr (by omega)) (fun h => n_eq.mpr (by omega)) (by omega) (by omega) fun x42 hx42 => ?_
            refine PW.iload q_230_86 rfl ?_
            refine PW.addN q_230_88 (by omega) (by omega) fun x43 hx43 => ?_
            refine PW.istore_n q_230_89 (by decide) ?_
            exact PW.lvS (lk1 rfl (lk1 rfl (lk1 rfl (lk1 rfl (lk1 rfl (lk1 rfl lk0)))))) (J90_37 ML230_26_15 x43 x35 IML230_26_15 FML230_26_15 (by omega) (by omega) (by omega) ⟨hbL230_26_155.1, hbL230_26_155.2⟩)
          · skip
            refine PW.goto q_230_76 rfl ?_
            exact PW.lvS (lk1 rfl (lk1 rfl (lk1 rfl (lk1 rfl (lk1 rfl (lk1 rfl lk0)))))) (J90_37 ML230_26_15 v16 v17 IML230_26_15 FML230_26_15 (by omega) (by omega) (by omega) ⟨hbL230_26_155.1, hbL230_26_155.2⟩)
      exact PW.lvS (lk1 rfl (lk1 rfl (lk1 rfl (lk1 rfl (lk1 rfl lk0))))) (L230_26_15 _ ML230_11_6 v7 v8 x14 IML230_11_6 FML230_11_6 (by omega) (by omega) (by omega) (by omega) (by omega) ⟨hbL230_11_65.1, hbL230_11_65.2⟩ rfl)
  exact PW.lvS (lk1 rfl (lk1 rfl (lk1 rfl (lk1 rfl lk0)))) (L230_11_6 _ M2 c3 c4 c5 IM2 FM2 (by omega) (by omega) (by omega) (by omega) (by omega) ⟨(UM2.i (c := 294) (k := 2) (Or.inr (by decide))), (gHq.refl.pu UM2 (by decide))⟩ rfl)
theorem c_X12_strays (G : pG) (Kr : pK) (M : pM) (I : Iv gTT M)  (hK : ∀ (x : Int32) (M1 : pM), Iv gTT M1 → Fr [40, 42, 48] M M1 → ((gLq M1 M) ∧ gHq M1 M) → Kr.1 (some (.int x)) 311 M1) : PW G false 6 241 (p_mc 241) (p_msl 241) Kr 0 (lv_args 0 [.ref 294]) [] 311 M 0 0 := by
  have F : Fr [40, 42, 48] M M := Fr.refl
  refine PW.aload_n q_241_0 rfl ?_
  refine PW.cI q_241_1 (by decide) fun c1 hc1 => ?_
  refine PW.pI q_241_2 (Or.inl t_ft_241_1) gF_40_0 gP_40_0 kd_294 Stab0 I (by decide) rfl (n_lo _) (n_hi _) fun M2 IM2 fM2 UM2 => ?_
  have FM2 := Fr.pu F UM2.1 kd_294 (rfl : List.contains [40, 42, 48] 40 = true)
  refine PW.aload_n q_241_5 rfl ?_
  refine PW.cV (as := []) (rest := []) q_241_6 t_mv_241_308 kd_294 IM2.1 (by decide) rfl (by decide) rfl rfl (Nat.le_of_ble_eq_true rfl) (Nat.le_of_ble_eq_true rfl) (by decide) (by decide) ?_
  refine PW.up (by decide) (c_X12_tries G _ M2 IM2  fun M3 IM3 GM3 TM3 => ?_)
  have FM3 := Fr.trans FM2 GM3 (rfl)
  refine PW.cI q_241_9 (by decide) fun c4 hc4 => ?_
  refine PW.istore_n q_241_10 (by decide) ?_
  refine PW.cI q_241_11 (by decide) fun c5 hc5 => ?_
  refine PW.istore_n q_241_12 (by decide) ?_
  have L241_13_6 : ∀ (n : Nat) (ML241_13_6 : pM) (v7 v8 : Int32), Iv (gTT) ML241_13_6 → Fr [40, 42, 48] M ML241_13_6 → -1 ≤ v7.toInt → v7.toInt ≤ 599 → 0 ≤ v8.toInt → v8.toInt ≤ 200 → (gLq ML241_13_6 M ∧ gHq ML241_13_6 M) → (200 - v8.toInt).toNat = n → PW G false 6 241 (p_mc 241) (p_msl 241) Kr 13 [(0, .ref 294), (1, .int v7), (2, .int v8)] [] 311 ML241_13_6 0 0 := by
    intro n
    induction n using Nat.strongRecOn with
    | ind n ih_L241_13_6 =>
    intro ML241_13_6 v7 v8 IML241_13_6 FML241_13_6 hbL241_13_60 hbL241_13_61 hbL241_13_62 hbL241_13_63 hbL241_13_64 hmL241_13_6
    refine PW.iload_n q_241_13 rfl ?_
    refine PW.cS q_241_14 (by decide) fun c9 hc9 => ?_
    refine PW.jc_ge q_241_17 rfl (fun h10 => ?_) (fun h10 => ?_)
    · skip
      refine PW.aload_n q_241_59 rfl ?_
      refine PW.cV (as := []) (rest := []) q_241_60 t_mv_241_311 kd_294 IML241_13_6.1 (by decide) rfl (by decide) rfl rfl (Nat.le_of_ble_eq_true rfl) (Nat.le_of_ble_eq_true rfl) (by decide) (by decide) ?_
      refine PW.up (by decide) (c_X12_back G _ ML241_13_6 IML241_13_6  fun M11 IM11 GM11 TM11 => ?_)
      have FM11 := Fr.trans FML241_13_6 GM11 (rfl)
      refine PW.iload_n q_241_63 rfl ?_
      refine PW.rI q_241_64 rfl (by decide) (by decide) ?_
      exact hK v7 M11 IM11 FM11 ⟨((congrArg (fun e => o_i e 2) (Fr.at GM11 kd_294 rfl)).trans hbL241_13_64.1), (hbL241_13_64.2.tr TM11.2)⟩
    · skip
      refine PW.iload_n q_241_20 rfl ?_
      refine PW.jz_ge q_241_21 rfl (fun h12 => ?_) (fun h12 => ?_)
      · skip
        refine PW.aload_n q_241_59 rfl ?_
        refine PW.cV (as := []) (rest := []) q_241_60 t_mv_241_311 kd_294 IML241_13_6.1 (by decide) rfl (by decide) rfl rfl (Nat.le_of_ble_eq_true rfl) (Nat.le_of_ble_eq_true rfl) (by decide) (by decide) ?_
        refine PW.up (by decide) (c_X12_back G _ ML241_13_6 IML241_13_6  fun M13 IM13 GM13 TM13 => ?_)
        have FM13 := Fr.trans FML241_13_6 GM13 (rfl)
        refine PW.iload_n q_241_63 rfl ?_
        refine PW.rI q_241_64 rfl (by decide) (by decide) ?_
        exact hK v7 M13 IM13 FM13 ⟨((congrArg (fun e => o_i e 2) (Fr.at GM13 kd_294 rfl)).trans hbL241_13_64.1), (hbL241_13_64.2.tr TM13.2)⟩
      · skip
        refine PW.aload_n q_241_24 rfl ?_
        refine PW.cI q_241_25 (by decide) fun c14 hc14 => ?_
        refine PW.cV (as := [_]) (rest := []) q_241_26 t_mv_241_299 kd_294 IML241_13_6.1 (by decide) rfl (by decide) rfl rfl (Nat.le_of_ble_eq_true rfl) (Nat.le_of_ble_eq_true rfl) (by decide) (by decide) ?_
        refine PW.up (by decide) (c_X12_goesOn G _ ML241_13_6 IML241_13_6 c14 fun x16 M15 IM15 GM15 hx16 TM15 => ?_)
        have FM15 := Fr.trans FML241_13_6 GM15 (rfl)
        refine PW.cI q_241_29 (by decide) fun c17 hc17 => ?_
        refine PW.jc_ne q_241_30 rfl (fun h18 => ?_) (fun h18 => ?_)
        · skip
          refine PW.aload_n q_241_59 rfl ?_
          refine PW.cV (as := []) (rest := []) q_241_60 t_mv_241_311 kd_294 IM15.1 (by decide) rfl (by decide) rfl rfl (Nat.le_of_ble_eq_true rfl) (Nat.le_of_ble_eq_true rfl) (by decide) (by decide) ?_
          refine PW.up (by decide) (c_X12_back G _ M15 IM15  fun M19 IM19 GM19 TM19 => ?_)
          have FM19 := Fr.trans FM15 GM19 (rfl)
          refine PW.iload_n q_241_63 rfl ?_
          refine PW.rI q_241_64 rfl (by decide) (by decide) ?_
          exact hK v7 M19 IM19 FM19 ⟨((congrArg (fun e => o_i e 2) (Fr.at GM19 kd_294 rfl)).trans ((congrArg (fun e => o_i e 2) (Fr.at GM15 kd_294 rfl)).trans hbL241_13_64.1)), ((hbL241_13_64.2.tr TM15.2).tr TM19.2)⟩
        · skip
          refine PW.aload_n q_241_33 rfl ?_
          refine PW.gR 296 q_241_34 (Or.inl t_ft_241_33) gF_40_6 kd_294 IM15.1 (by decide) rfl ?_
          refine PW.cB q_241_37 (by decide) fun c20 hc20 => ?_
          refine PW.aH q_241_39 gA_42 kd_296 IM15.1 (by decide) (by omega) (by omega) fun x21 fx21 => ?_
          have J53_23 : ∀ (MJ53_23 : pM) (v24 : Int32), Iv (gTT) MJ53_23 → Fr [40, 42, 48] M MJ53_23 → -1 ≤ v24.toInt → v24.toInt ≤ 599 → (gLq MJ53_23 M ∧ gHq MJ53_23 M) → PW G false 6 241 (p_mc 241) (p_msl 241) Kr 53 [(0, .ref 294), (1, .int v24), (2, .int v8)] [] 311 MJ53_23 0 0 := by
            intro MJ53_23 v24 IMJ53_23 FMJ53_23 hbJ53_230 hbJ53_231 hbJ53_232
            refine PW.incN q_241_53 rfl (by decide) (by decide) (by omega) (by omega) fun x25 hx25 => ?_
            refine PW.goto q_241_56 rfl ?_
            refine PW.lvS (lk1 rfl (lk1 rfl (lk1 rfl lk0))) (ih_L241_13_6 _ ?_ MJ53_23 v24 x25 IMJ53_23 FMJ53_23 (by omega) (by omega) (by omega) (by omega) ⟨hbJ53_232.1, hbJ53_232.2⟩ rfl)
            omega
          refine PW.jz_eq q_241_40 rfl (fun h22 => ?_) (fun h22 => ?_)
          · skip
            exact PW.lvS (lk1 rfl (lk1 rfl (lk1 rfl lk0))) (J53_23 M15 v7 IM15 FM15 (by omega) (by omega) ⟨((congrArg (fun e => o_i e 2) (Fr.at GM15 kd_294 rfl)).trans hbL241_13_64.1), (hbL241_13_64.2.tr TM15.2)⟩)
          · skip
            refine PW.aload_n q_241_43 rfl ?_
            refine PW.gR 296 q_241_44 (Or.inl t_ft_241_33) gF_40_6 kd_294 IM15.1 (by decide) rfl ?_
            refine PW.cB q_241_47 (by decide) fun c26 hc26 => ?_
            refine PW.aI q_241_49 gA_42 kd_296 IM15.1 (by decide) gB_42_33_33 (by decide) (by omega) (by omega) fun x27 fx27 hx27 kx27 => ?_
            refine PW.cI q_241_50 (by decide) fun c28 hc28 => ?_
            refine PW.subN q_241_51 (by omega) (by omega) fun x29 hx29 => ?_
            refine PW.istore_n q_241_52 (by decide) ?_
            exact PW.lvS (lk1 rfl (lk1 rfl (lk1 rfl lk0))) (J53_23 M15 x29 IM15 FM15 (by omega) (by omega) ⟨((congrArg (fun e => o_i e 2) (Fr.at GM15 kd_294 rfl)).trans hbL241_13_64.1), (hbL241_13_64.2.tr TM15.2)⟩)
  exact PW.lvS (lk1 rfl (lk1 rfl (lk1 rfl lk0))) (L241_13_6 _ M3 c4 c5 IM3 FM3 (by omega) (by omega) (by omega) (by omega) ⟨((congrArg (fun e => o_i e 2) (Fr.at GM3 kd_294 rfl)).trans (UM2.i (c := 294) (k := 2) (Or.inr (by decide)))), ((gHq.refl.pu UM2 (by decide)).cg (Fr.at GM3 kd_296 rfl) (Fr.at GM3 kd_294 rfl))⟩ rfl)
theorem c_X12_leastOf (G : pG) (Kr : pK) (M : pM) (I : Iv gTT M) (a1 : Int32) (a2 : Int32) (hl_a1 : 0 ≤ a1.toInt) (hh_a1 : a1.toInt ≤ 5) (hl_a2 : 0 ≤ a2.toInt) (hh_a2 : a2.toInt ≤ 1) (hK : ∀ (x : Int32) (M1 : pM), Iv gTT M1 → Fr [40, 42, 48] M M1 → ((gLq M1 M) ∧ gHq M1 M) → Kr.1 (some (.int x)) 311 M1) : PW G false 6 242 (p_mc 242) (p_msl 242) Kr 0 (lv_args 0 [.ref 294, .int a1, .int a2]) [] 311 M 0 0 := by
  have F : Fr [40, 42, 48] M M := Fr.refl
  refine PW.cI q_242_0 (by decide) fun c1 hc1 => ?_
  refine PW.istore_n q_242_1 (by decide) ?_
  refine PW.aload_n q_242_2 rfl ?_
  refine PW.cI q_242_3 (by decide) fun c2 hc2 => ?_
  refine PW.pI q_242_4 (Or.inl t_ft_242_340) gF_40_27 gP_40_27 kd_294 Stab0 I (by decide) rfl (n_lo _) (n_hi _) fun M3 IM3 fM3 UM3 => ?_
  have FM3 := Fr.pu F UM3.1 kd_294 (rfl : List.contains [40, 42, 48] 40 = true)
  refine PW.aload_n q_242_7 rfl ?_
  refine PW.cV (as := []) (rest := []) q_242_8 t_mv_242_308 kd_294 IM3.1 (by decide) rfl (by decide) rfl rfl (Nat.le_of_ble_eq_true rfl) (Nat.le_of_ble_eq_true rfl) (by decide) (by decide) ?_
  refine PW.up (by decide) (c_X12_tries G _ M3 IM3  fun M4 IM4 GM4 TM4 => ?_)
  have FM4 := Fr.trans FM3 GM4 (rfl)
  refine PW.cI q_242_11 (by decide) fun c5 hc5 => ?_
  refine PW.istore q_242_12 (by decide) ?_
  have L242_14_6 : ∀ (n : Nat) (ML242_14_6 : pM) (v7 v8 : Int32), Iv (gTT) ML242_14_6 → Fr [40, 42, 48] M ML242_14_6 → -1 ≤ v7.toInt → v7.toInt ≤ 39 → 0 ≤ v8.toInt → v8.toInt ≤ 31 → (gLq ML242_14_6 M ∧ gHq ML242_14_6 M) → (31 - v8.toInt).toNat = n → PW G false 6 242 (p_mc 242) (p_msl 242) Kr 14 [(0, .ref 294), (1, .int a1), (2, .int a2), (3, .int v7), (4, .int v8)] [] 311 ML242_14_6 0 0 := by
    intro n
    induction n using Nat.strongRecOn with
    | ind n ih_L242_14_6 =>
    intro ML242_14_6 v7 v8 IML242_14_6 FML242_14_6 hbL242_14_60 hbL242_14_61 hbL242_14_62 hbL242_14_63 hbL242_14_64 hmL242_14_6
    refine PW.iload q_242_14 rfl ?_
    refine PW.cB q_242_16 (by decide) fun c9 hc9 => ?_
    refine PW.jc_gt q_242_18 rfl (fun h10 => ?_) (fun h10 => ?_)
    · skip
      refine PW.iload_n q_242_120 rfl ?_
      refine PW.rI q_242_121 rfl (by decide) (by decide) ?_
      exact hK v7 ML242_14_6 IML242_14_6 FML242_14_6 ⟨hbL242_14_64.1, hbL242_14_64.2⟩
    · skip
      refine PW.aload_n q_242_21 rfl ?_
      refine PW.gR 296 q_242_22 (Or.inl t_ft_242_33) gF_40_6 kd_294 IML242_14_6.1 (by decide) rfl ?_
      refine PW.cB q_242_25 (by decide) fun c11 hc11 => ?_
      refine PW.iload_n q_242_27 rfl ?_
      refine PW.addN q_242_28 (by omega) (by omega) fun x12 hx12 => ?_
      refine PW.aH q_242_29 gA_42 kd_296 IML242_14_6.1 (by decide) (by omega) (by omega) fun x13 fx13 => ?_
      refine PW.istore q_242_30 (by decide) ?_
      refine PW.cI q_242_32 (by decide) fun c14 hc14 => ?_
      refine PW.istore q_242_33 (by decide) ?_
      have L242_35_15 : ∀ (n : Nat) (ML242_35_15 : pM) (v16 : Int32), Iv (gTT) ML242_35_15 → Fr [40, 42, 48] M ML242_35_15 → 0 ≤ v16.toInt → v16.toInt ≤ 40 → (gLq ML242_35_15 M ∧ gHq ML242_35_15 M) → (40 - v16.toInt).toNat = n → PW G false 6 242 (p_mc 242) (p_msl 242) Kr 35 [(0, .ref 294), (1, .int a1), (2, .int a2), (3, .int v7), (4, .int v8), (5, .int x13), (6, .int v16)] [] 311 ML242_35_15 0 0 := by
        intro n
        induction n using Nat.strongRecOn with
        | ind n ih_L242_35_15 =>
        intro ML242_35_15 v16 IML242_35_15 FML242_35_15 hbL242_35_150 hbL242_35_151 hbL242_35_152 hmL242_35_15
        refine PW.iload q_242_35 rfl ?_
        refine PW.cB q_242_37 (by decide) fun c17 hc17 => ?_
        refine PW.jc_ge q_242_39 rfl (fun h18 => ?_) (fun h18 => ?_)
        · skip
          refine PW.aload_n q_242_71 rfl ?_
          refine PW.gR 296 q_242_72 (Or.inl t_ft_242_33) gF_40_6 kd_294 IML242_35_15.1 (by decide) rfl ?_
          refine PW.cB q_242_75 (by decide) fun c19 hc19 => ?_
          refine PW.iload_n q_242_77 rfl ?_
          refine PW.addN q_242_78 (by omega) (by omega) fun x20 hx20 => ?_
          refine PW.aH q_242_79 gA_42 kd_296 IML242_35_15.1 (by decide) (by omega) (by omega) fun x21 fx21 => ?_
          refine PW.iload q_242_80 rfl ?_
          refine PW.subH q_242_82 fun x22 => ?_
          refine PW.istore q_242_83 (by decide) ?_
          refine PW.aload_n q_242_85 rfl ?_
          refine PW.cV (as := []) (rest := []) q_242_86 t_mv_242_311 kd_294 IML242_35_15.1 (by decide) rfl (by decide) rfl rfl (Nat.le_of_ble_eq_true rfl) (Nat.le_of_ble_eq_true rfl) (by decide) (by decide) ?_
          refine PW.up (by decide) (c_X12_back G _ ML242_35_15 IML242_35_15  fun M23 IM23 GM23 TM23 => ?_)
          have FM23 := Fr.trans FML242_35_15 GM23 (rfl)
          refine PW.iload_n q_242_89 rfl ?_
          have J105_25 : ∀ (MJ105_25 : pM), Iv (gTT) MJ105_25 → Fr [40, 42, 48] M MJ105_25 → (gLq MJ105_25 M ∧ gHq MJ105_25 M) → PW G false 6 242 (p_mc 242) (p_msl 242) Kr 105 [(0, .ref 294), (1, .int a1), (2, .int a2), (3, .int v7), (4, .int v8), (5, .int x13), (6, .int x22)] [] 311 MJ105_25 0 0 := by
            intro MJ105_25  IMJ105_25 FMJ105_25 hbJ105_250
            refine PW.iload q_242_105 rfl ?_
            refine PW.istore_n q_242_107 (by decide) ?_
            refine PW.aload_n q_242_108 rfl ?_
            refine PW.iload q_242_109 rfl ?_
            refine PW.pI q_242_111 (Or.inl t_ft_242_340) gF_40_27 gP_40_27 kd_294 Stab0 IMJ105_25 (by decide) rfl (n_lo _) (n_hi _) fun M26 IM26 fM26 UM26 => ?_
            have FM26 := Fr.pu FMJ105_25 UM26.1 kd_294 (rfl : List.contains [40, 42, 48] 40 = true)
            refine PW.incN q_242_114 rfl (by decide) (by decide) (by omega) (by omega) fun x27 hx27 => ?_
            refine PW.goto q_242_117 rfl ?_
            refine PW.lvS (lk1 rfl (lk1 rfl (lk1 rfl (lk1 rfl (lk1 rfl lk0))))) (ih_L242_14_6 _ ?_ M26 v8 x27 IM26 FM26 (by omega) (by omega) (by omega) (by omega) ⟨((UM26.i (c := 294) (k := 2) (Or.inr (by decide))).trans hbJ105_250.1), (hbJ105_250.2.pu UM26 (by decide))⟩ rfl)
            omega
          refine PW.jz_lt q_242_90 rfl (fun h24 => ?_) (fun h24 => ?_)
          · skip
            exact PW.lvS (lk1 rfl (lk1 rfl (lk1 rfl (lk1 rfl (lk1 rfl (lk1 rfl (lk1 rfl lk0))))))) (J105_25 M23  IM23 FM23 ⟨((congrArg (fun e => o_i e 2) (Fr.at GM23 kd_294 rfl)).trans hbL242_35_152.1), (hbL242_35_152.2.tr TM23.2)⟩)
          · skip
            refine PW.iload q_242_93 rfl ?_
            refine PW.aload_n q_242_95 rfl ?_
            refine PW.gI q_242_96 (Or.inl t_ft_242_340) gF_40_27 kd_294 IM23.1 (by decide) fun x28 fx28 hx28 kx28 => ?_
            clear hx28 kx28
            refine PW.jc_lt q_242_99 rfl (fun h29 => ?_) (fun h29 => ?_)
            · skip
              exact PW.lvS (lk1 rfl (lk1 rfl (lk1 rfl (lk1 rfl (lk1 rfl (lk1 rfl (lk1 rfl lk0))))))) (J105_25 M23  IM23 FM23 ⟨((congrArg (fun e => o_i e 2) (Fr.at GM23 kd_294 rfl)).trans hbL242_35_152.1), (hbL242_35_152.2.tr TM23.2)⟩)
            · skip
              refine PW.goto q_242_102 rfl ?_
              refine PW.incN q_242_114 rfl (by decide) (by decide) (by omega) (by omega) fun x30 hx30 => ?_
              refine PW.goto q_242_117 rfl ?_
              refine PW.lvS (lk1 rfl (lk1 rfl (lk1 rfl (lk1 rfl (lk1 rfl lk0))))) (ih_L242_14_6 _ ?_ M23 v7 x30 IM23 FM23 (by omega) (by omega) (by omega) (by omega) ⟨((congrArg (fun e => o_i e 2) (Fr.at GM23 kd_294 rfl)).trans hbL242_35_152.1), (hbL242_35_152.2.tr TM23.2)⟩ rfl)
              omega
        · skip
          refine PW.iload q_242_42 rfl ?_
          refine PW.iload q_242_44 rfl ?_
          have J59_32 : ∀ (MJ59_32 : pM), Iv (gTT) MJ59_32 → Fr [40, 42, 48] M MJ59_32 → (gLq MJ59_32 M ∧ gHq MJ59_32 M) → PW G false 6 242 (p_mc 242) (p_msl 242) Kr 59 [(0, .ref 294), (1, .int a1), (2, .int a2), (3, .int v7), (4, .int v8), (5, .int x13), (6, .int v16)] [] 311 MJ59_32 0 0 := by
            intro MJ59_32  IMJ59_32 FMJ59_32 hbJ59_320
            refine PW.aload_n q_242_59 rfl ?_
            refine PW.cI q_242_60 (by decide) fun c33 hc33 => ?_
            refine PW.cV (as := [_]) (rest := []) q_242_61 t_mv_242_299 kd_294 IMJ59_32.1 (by decide) rfl (by decide) rfl rfl (Nat.le_of_ble_eq_true rfl) (Nat.le_of_ble_eq_true rfl) (by decide) (by decide) ?_
            refine PW.up (by decide) (c_X12_goesOn G _ MJ59_32 IMJ59_32 c33 fun x35 M34 IM34 GM34 hx35 TM34 => ?_)
            have FM34 := Fr.trans FMJ59_32 GM34 (rfl)
            refine PW.pop q_242_64 rfl ?_
            refine PW.incN q_242_65 rfl (by decide) (by decide) (by omega) (by omega) fun x36 hx36 => ?_
            refine PW.goto q_242_68 rfl ?_
            refine PW.lvS (lk1 rfl (lk1 rfl (lk1 rfl (lk1 rfl (lk1 rfl (lk1 rfl (lk1 rfl lk0))))))) (ih_L242_35_15 _ ?_ M34 x36 IM34 FM34 (by omega) (by omega) ⟨((congrArg (fun e => o_i e 2) (Fr.at GM34 kd_294 rfl)).trans hbJ59_320.1), (hbJ59_320.2.tr TM34.2)⟩ rfl)
            omega
          refine PW.jc_ne q_242_46 rfl (fun h31 => ?_) (fun h31 => ?_)
          · skip
            exact PW.lvS (lk1 rfl (lk1 rfl (lk1 rfl (lk1 rfl (lk1 rfl (lk1 rfl (lk1 rfl lk0))))))) (J59_32 ML242_35_15  IML242_35_15 FML242_35_15 ⟨hbL242_35_152.1, hbL242_35_152.2⟩)
          · skip
            refine PW.aload_n q_242_49 rfl ?_
            refine PW.gR 296 q_242_50 (Or.inl t_ft_242_33) gF_40_6 kd_294 IML242_35_15.1 (by decide) rfl ?_
            refine PW.cB q_242_53 (by decide) fun c37 hc37 => ?_
            refine PW.iload_n q_242_55 rfl ?_
            refine PW.addN q_242_56 (by omega) (by omega) fun x38 hx38 => ?_
            refine PW.cI q_242_57 (by decide) fun c39 hc39 => ?_
            refine PW.wS q_242_58 Stab0 IML242_35_15 gC_42_48_53 gN_48_53 (by decide) (by omega) (by omega) (n_lo _) (n_hi _) fun M40 IM40 fM40 UM40 => ?_
            have FM40 := Fr.pu FML242_35_15 UM40.1 kd_296 (rfl : List.contains [40, 42, 48] 42 = true)
            exact PW.lvS (lk1 rfl (lk1 rfl (lk1 rfl (lk1 rfl (lk1 rfl (lk1 rfl (lk1 rfl lk0))))))) (J59_32 M40  IM40 FM40 ⟨((congrArg (fun e => o_i e 2) (UM40.1 294 (by decide))).trans hbL242_35_152.1), (hbL242_35_152.2.st UM40 (by omega))⟩)
      exact PW.lvS (lk1 rfl (lk1 rfl (lk1 rfl (lk1 rfl (lk1 rfl (lk1 rfl (lk1 rfl lk0))))))) (L242_35_15 _ ML242_14_6 c14 IML242_14_6 FML242_14_6 (by omega) (by omega) ⟨hbL242_14_64.1, hbL242_14_64.2⟩ rfl)
  exact PW.lvS (lk1 rfl (lk1 rfl (lk1 rfl (lk1 rfl (lk1 rfl lk0))))) (L242_14_6 _ M4 c1 c5 IM4 FM4 (by omega) (by omega) (by omega) (by omega) ⟨((congrArg (fun e => o_i e 2) (Fr.at GM4 kd_294 rfl)).trans (UM3.i (c := 294) (k := 2) (Or.inr (by decide)))), ((gHq.refl.pu UM3 (by decide)).cg (Fr.at GM4 kd_296 rfl) (Fr.at GM4 kd_294 rfl))⟩ rfl)
theorem c_X12_least (G : pG) (Kr : pK) (M : pM) (I : Iv gTT M) (a1 : Int32) (a2 : Int32) (hK : ∀ (x : Int32) (M1 : pM), Iv gTT M1 → Fr [40, 42, 48] M M1 → ((gLq M1 M) ∧ gHq M1 M) → Kr.1 (some (.int x)) 311 M1) : PW G false 7 243 (p_mc 243) (p_msl 243) Kr 0 (lv_args 0 [.ref 294, .int a1, .int a2]) [] 311 M 0 0 := by
  have F : Fr [40, 42, 48] M M := Fr.refl
  refine PW.aload_n q_243_0 rfl ?_
  refine PW.cI q_243_1 (by decide) fun c1 hc1 => ?_
  refine PW.pI q_243_2 (Or.inl t_ft_243_1) gF_40_0 gP_40_0 kd_294 Stab0 I (by decide) rfl (n_lo _) (n_hi _) fun M2 IM2 fM2 UM2 => ?_
  have FM2 := Fr.pu F UM2.1 kd_294 (rfl : List.contains [40, 42, 48] 40 = true)
  refine PW.aload_n q_243_5 rfl ?_
  refine PW.iload_n q_243_6 rfl ?_
  refine PW.cV (as := [_]) (rest := []) q_243_7 t_mv_243_241 kd_294 IM2.1 (by decide) rfl (by decide) rfl rfl (Nat.le_of_ble_eq_true rfl) (Nat.le_of_ble_eq_true rfl) (by decide) (by decide) ?_
  refine PW.iload_n q_195_0 rfl ?_
  refine PW.cI q_195_1 (by decide) fun c3 hc3 => ?_
  refine PW.aload_n q_195_2 rfl ?_
  refine PW.gR 296 q_195_3 (Or.inl t_ft_195_33) gF_40_6 kd_294 IM2.1 (by decide) rfl ?_
  refine PW.cI q_195_6 (by decide) fun c4 hc4 => ?_
  refine PW.aI q_195_7 gA_42 kd_296 IM2.1 (by decide) gB_42_0_0 (by decide) (by omega) (by omega) fun x5 fx5 hx5 kx5 => ?_
  refine PW.cI q_195_8 (by decide) fun c6 hc6 => ?_
  refine PW.subN q_195_9 (by omega) (by omega) fun x7 hx7 => ?_
  refine PW.callS (as := [_, _, _]) (rest := []) q_195_10 t_ms_195_176 (by decide) rfl (Nat.le_of_ble_eq_true rfl) (Nat.le_of_ble_eq_true rfl) (by decide) (by decide) ?_
  refine PW.iload_n q_166_0 rfl ?_
  refine PW.iload_n q_166_1 rfl ?_
  refine PW.jc_lt q_166_2 rfl (fun h8 => ?_) (fun h8 => ?_)
  · skip
    refine PW.cI q_166_14 (by decide) fun c9 hc9 => ?_
    refine PW.rZ q_166_15 rfl (by omega) (by omega) (by decide) (by decide) ?_
    refine PW.rZ q_195_13 rfl (by omega) (by omega) (by decide) (by decide) ?_
    refine PW.jz_eq q_243_10 rfl (fun h10 => ?_) (fun h10 => False.elim (by omega))
    refine PW.cI q_243_30 (by decide) fun c11 hc11 => ?_
    refine PW.rI q_243_31 rfl (by decide) (by decide) ?_
    exact hK c11 M2 IM2 FM2 ⟨(UM2.i (c := 294) (k := 2) (Or.inr (by decide))), (gHq.refl.pu UM2 (by decide))⟩
  · skip
    refine PW.iload_n q_166_5 rfl ?_
    refine PW.iload_n q_166_6 rfl ?_
    refine PW.jc_gt q_166_7 rfl (fun h12 => ?_) (fun h12 => ?_)
    · skip
      refine PW.cI q_166_14 (by decide) fun c13 hc13 => ?_
      refine PW.rZ q_166_15 rfl (by omega) (by omega) (by decide) (by decide) ?_
      refine PW.rZ q_195_13 rfl (by omega) (by omega) (by decide) (by decide) ?_
      refine PW.jz_eq q_243_10 rfl (fun h14 => ?_) (fun h14 => False.elim (by omega))
      refine PW.cI q_243_30 (by decide) fun c15 hc15 => ?_
      refine PW.rI q_243_31 rfl (by decide) (by decide) ?_
      exact hK c15 M2 IM2 FM2 ⟨(UM2.i (c := 294) (k := 2) (Or.inr (by decide))), (gHq.refl.pu UM2 (by decide))⟩
    · skip
      refine PW.cI q_166_10 (by decide) fun c16 hc16 => ?_
      refine PW.goto q_166_11 rfl ?_
      refine PW.rZ q_166_15 rfl (by omega) (by omega) (by decide) (by decide) ?_
      refine PW.rZ q_195_13 rfl (by omega) (by omega) (by decide) (by decide) ?_
      refine PW.jz_eq q_243_10 rfl (fun h17 => False.elim (by omega)) (fun h17 => ?_)
      refine PW.aload_n q_243_13 rfl ?_
      refine PW.iload_n q_243_14 rfl ?_
      refine PW.cV (as := [_]) (rest := []) q_243_15 t_mv_243_251 kd_294 IM2.1 (by decide) rfl (by decide) rfl rfl (Nat.le_of_ble_eq_true rfl) (Nat.le_of_ble_eq_true rfl) (by decide) (by decide) ?_
      refine PW.iload_n q_196_0 rfl ?_
      refine PW.cI q_196_1 (by decide) fun c18 hc18 => ?_
      refine PW.aload_n q_196_2 rfl ?_
      refine PW.gR 296 q_196_3 (Or.inl t_ft_196_33) gF_40_6 kd_294 IM2.1 (by decide) rfl ?_
      refine PW.cI q_196_6 (by decide) fun c19 hc19 => ?_
      refine PW.aI q_196_7 gA_42 kd_296 IM2.1 (by decide) gB_42_1_1 (by decide) (by omega) (by omega) fun x20 fx20 hx20 kx20 => ?_
      refine PW.cI q_196_8 (by decide) fun c21 hc21 => ?_
      refine PW.subN q_196_9 (by omega) (by omega) fun x22 hx22 => ?_
      refine PW.callS (as := [_, _, _]) (rest := []) q_196_10 t_ms_196_176 (by decide) rfl (Nat.le_of_ble_eq_true rfl) (Nat.le_of_ble_eq_true rfl) (by decide) (by decide) ?_
      refine PW.iload_n q_166_0 rfl ?_
      refine PW.iload_n q_166_1 rfl ?_
      refine PW.jc_lt q_166_2 rfl (fun h23 => ?_) (fun h23 => ?_)
      · skip
        refine PW.cI q_166_14 (by decide) fun c24 hc24 => ?_
        refine PW.rZ q_166_15 rfl (by omega) (by omega) (by decide) (by decide) ?_
        refine PW.rZ q_196_13 rfl (by omega) (by omega) (by decide) (by decide) ?_
        refine PW.jz_eq q_243_18 rfl (fun h25 => ?_) (fun h25 => False.elim (by omega))
        refine PW.cI q_243_30 (by decide) fun c26 hc26 => ?_
        refine PW.rI q_243_31 rfl (by decide) (by decide) ?_
        exact hK c26 M2 IM2 FM2 ⟨(UM2.i (c := 294) (k := 2) (Or.inr (by decide))), (gHq.refl.pu UM2 (by decide))⟩
      · skip
        refine PW.iload_n q_166_5 rfl ?_
        refine PW.iload_n q_166_6 rfl ?_
        refine PW.jc_gt q_166_7 rfl (fun h27 => ?_) (fun h27 => ?_)
        · skip
          refine PW.cI q_166_14 (by decide) fun c28 hc28 => ?_
          refine PW.rZ q_166_15 rfl (by omega) (by omega) (by decide) (by decide) ?_
          refine PW.rZ q_196_13 rfl (by omega) (by omega) (by decide) (by decide) ?_
          refine PW.jz_eq q_243_18 rfl (fun h29 => ?_) (fun h29 => False.elim (by omega))
          refine PW.cI q_243_30 (by decide) fun c30 hc30 => ?_
          refine PW.rI q_243_31 rfl (by decide) (by decide) ?_
          exact hK c30 M2 IM2 FM2 ⟨(UM2.i (c := 294) (k := 2) (Or.inr (by decide))), (gHq.refl.pu UM2 (by decide))⟩
        · skip
          refine PW.cI q_166_10 (by decide) fun c31 hc31 => ?_
          refine PW.goto q_166_11 rfl ?_
          refine PW.rZ q_166_15 rfl (by omega) (by omega) (by decide) (by decide) ?_
          refine PW.rZ q_196_13 rfl (by omega) (by omega) (by decide) (by decide) ?_
          refine PW.jz_eq q_243_18 rfl (fun h32 => False.elim (by omega)) (fun h32 => ?_)
          refine PW.aload_n q_243_21 rfl ?_
          refine PW.iload_n q_243_22 rfl ?_
          refine PW.iload_n q_243_23 rfl ?_
          refine PW.cV (as := [_, _]) (rest := []) q_243_24 t_mv_243_343 kd_294 IM2.1 (by decide) rfl (by decide) rfl rfl (Nat.le_of_ble_eq_true rfl) (Nat.le_of_ble_eq_true rfl) (by decide) (by decide) ?_
          refine PW.up (by decide) (c_X12_leastOf G _ M2 IM2 a1 a2 (by omega) (by omega) (by omega) (by omega) fun x34 M33 IM33 GM33 TM33 => ?_)
          have FM33 := Fr.trans FM2 GM33 (rfl)
          refine PW.goto q_243_27 rfl ?_
          refine PW.rI q_243_31 rfl (by decide) (by decide) ?_
          exact hK x34 M33 IM33 FM33 ⟨(TM33.1.trans (UM2.i (c := 294) (k := 2) (Or.inr (by decide)))), ((gHq.refl.pu UM2 (by decide)).tr TM33.2)⟩
theorem c_X12_runs (G : pG) (Kr : pK) (M : pM) (I : Iv gTT M) (a1 : Int32) (a2 : Int32) (hK : ∀ (x : Int32) (M1 : pM), Iv gTT M1 → Fr [40, 42, 48] M M1 → ((gLq M1 M) ∧ gHq M1 M) → Kr.1 (some (.int x)) 311 M1) : PW G false 7 244 (p_mc 244) (p_msl 244) Kr 0 (lv_args 0 [.ref 294, .int a1, .int a2]) [] 311 M 0 0 := by
  have F : Fr [40, 42, 48] M M := Fr.refl
  refine PW.aload_n q_244_0 rfl ?_
  refine PW.cI q_244_1 (by decide) fun c1 hc1 => ?_
  refine PW.pI q_244_2 (Or.inl t_ft_244_1) gF_40_0 gP_40_0 kd_294 Stab0 I (by decide) rfl (n_lo _) (n_hi _) fun M2 IM2 fM2 UM2 => ?_
  have FM2 := Fr.pu F UM2.1 kd_294 (rfl : List.contains [40, 42, 48] 40 = true)
  refine PW.aload_n q_244_5 rfl ?_
  refine PW.iload_n q_244_6 rfl ?_
  refine PW.cV (as := [_]) (rest := []) q_244_7 t_mv_244_241 kd_294 IM2.1 (by decide) rfl (by decide) rfl rfl (Nat.le_of_ble_eq_true rfl) (Nat.le_of_ble_eq_true rfl) (by decide) (by decide) ?_
  refine PW.iload_n q_195_0 rfl ?_
  refine PW.cI q_195_1 (by decide) fun c3 hc3 => ?_
  refine PW.aload_n q_195_2 rfl ?_
  refine PW.gR 296 q_195_3 (Or.inl t_ft_195_33) gF_40_6 kd_294 IM2.1 (by decide) rfl ?_
  refine PW.cI q_195_6 (by decide) fun c4 hc4 => ?_
  refine PW.aI q_195_7 gA_42 kd_296 IM2.1 (by decide) gB_42_0_0 (by decide) (by omega) (by omega) fun x5 fx5 hx5 kx5 => ?_
  refine PW.cI q_195_8 (by decide) fun c6 hc6 => ?_
  refine PW.subN q_195_9 (by omega) (by omega) fun x7 hx7 => ?_
  refine PW.callS (as := [_, _, _]) (rest := []) q_195_10 t_ms_195_176 (by decide) rfl (Nat.le_of_ble_eq_true rfl) (Nat.le_of_ble_eq_true rfl) (by decide) (by decide) ?_
  refine PW.iload_n q_166_0 rfl ?_
  refine PW.iload_n q_166_1 rfl ?_
  refine PW.jc_lt q_166_2 rfl (fun h8 => ?_) (fun h8 => ?_)
  · skip
    refine PW.cI q_166_14 (by decide) fun c9 hc9 => ?_
    refine PW.rZ q_166_15 rfl (by omega) (by omega) (by decide) (by decide) ?_
    refine PW.rZ q_195_13 rfl (by omega) (by omega) (by decide) (by decide) ?_
    refine PW.jz_eq q_244_10 rfl (fun h10 => ?_) (fun h10 => False.elim (by omega))
    refine PW.cI q_244_21 (by decide) fun c11 hc11 => ?_
    refine PW.rI q_244_22 rfl (by decide) (by decide) ?_
    exact hK c11 M2 IM2 FM2 ⟨(UM2.i (c := 294) (k := 2) (Or.inr (by decide))), (gHq.refl.pu UM2 (by decide))⟩
  · skip
    refine PW.iload_n q_166_5 rfl ?_
    refine PW.iload_n q_166_6 rfl ?_
    refine PW.jc_gt q_166_7 rfl (fun h12 => ?_) (fun h12 => ?_)
    · skip
      refine PW.cI q_166_14 (by decide) fun c13 hc13 => ?_
      refine PW.rZ q_166_15 rfl (by omega) (by omega) (by decide) (by decide) ?_
      refine PW.rZ q_195_13 rfl (by omega) (by omega) (by decide) (by decide) ?_
      refine PW.jz_eq q_244_10 rfl (fun h14 => ?_) (fun h14 => False.elim (by omega))
      refine PW.cI q_244_21 (by decide) fun c15 hc15 => ?_
      refine PW.rI q_244_22 rfl (by decide) (by decide) ?_
      exact hK c15 M2 IM2 FM2 ⟨(UM2.i (c := 294) (k := 2) (Or.inr (by decide))), (gHq.refl.pu UM2 (by decide))⟩
    · skip
      refine PW.cI q_166_10 (by decide) fun c16 hc16 => ?_
      refine PW.goto q_166_11 rfl ?_
      refine PW.rZ q_166_15 rfl (by omega) (by omega) (by decide) (by decide) ?_
      refine PW.rZ q_195_13 rfl (by omega) (by omega) (by decide) (by decide) ?_
      refine PW.jz_eq q_244_10 rfl (fun h17 => False.elim (by omega)) (fun h17 => ?_)
      refine PW.aload_n q_244_13 rfl ?_
      refine PW.iload_n q_244_14 rfl ?_
      refine PW.cV (as := [_]) (rest := []) q_244_15 t_mv_244_251 kd_294 IM2.1 (by decide) rfl (by decide) rfl rfl (Nat.le_of_ble_eq_true rfl) (Nat.le_of_ble_eq_true rfl) (by decide) (by decide) ?_
      refine PW.iload_n q_196_0 rfl ?_
      refine PW.cI q_196_1 (by decide) fun c18 hc18 => ?_
      refine PW.aload_n q_196_2 rfl ?_
      refine PW.gR 296 q_196_3 (Or.inl t_ft_196_33) gF_40_6 kd_294 IM2.1 (by decide) rfl ?_
      refine PW.cI q_196_6 (by decide) fun c19 hc19 => ?_
      refine PW.aI q_196_7 gA_42 kd_296 IM2.1 (by decide) gB_42_1_1 (by decide) (by omega) (by omega) fun x20 fx20 hx20 kx20 => ?_
      refine PW.cI q_196_8 (by decide) fun c21 hc21 => ?_
      refine PW.subN q_196_9 (by omega) (by omega) fun x22 hx22 => ?_
      refine PW.callS (as := [_, _, _]) (rest := []) q_196_10 t_ms_196_176 (by decide) rfl (Nat.le_of_ble_eq_true rfl) (Nat.le_of_ble_eq_true rfl) (by decide) (by decide) ?_
      refine PW.iload_n q_166_0 rfl ?_
      refine PW.iload_n q_166_1 rfl ?_
      refine PW.jc_lt q_166_2 rfl (fun h23 => ?_) (fun h23 => ?_)
      · skip
        refine PW.cI q_166_14 (by decide) fun c24 hc24 => ?_
        refine PW.rZ q_166_15 rfl (by omega) (by omega) (by decide) (by decide) ?_
        refine PW.rZ q_196_13 rfl (by omega) (by omega) (by decide) (by decide) ?_
        refine PW.jz_ne q_244_18 rfl (fun h25 => False.elim (by omega)) (fun h25 => ?_)
        refine PW.cI q_244_21 (by decide) fun c26 hc26 => ?_
        refine PW.rI q_244_22 rfl (by decide) (by decide) ?_
        exact hK c26 M2 IM2 FM2 ⟨(UM2.i (c := 294) (k := 2) (Or.inr (by decide))), (gHq.refl.pu UM2 (by decide))⟩
      · skip
        refine PW.iload_n q_166_5 rfl ?_
        refine PW.iload_n q_166_6 rfl ?_
        refine PW.jc_gt q_166_7 rfl (fun h27 => ?_) (fun h27 => ?_)
        · skip
          refine PW.cI q_166_14 (by decide) fun c28 hc28 => ?_
          refine PW.rZ q_166_15 rfl (by omega) (by omega) (by decide) (by decide) ?_
          refine PW.rZ q_196_13 rfl (by omega) (by omega) (by decide) (by decide) ?_
          refine PW.jz_ne q_244_18 rfl (fun h29 => False.elim (by omega)) (fun h29 => ?_)
          refine PW.cI q_244_21 (by decide) fun c30 hc30 => ?_
          refine PW.rI q_244_22 rfl (by decide) (by decide) ?_
          exact hK c30 M2 IM2 FM2 ⟨(UM2.i (c := 294) (k := 2) (Or.inr (by decide))), (gHq.refl.pu UM2 (by decide))⟩
        · skip
          refine PW.cI q_166_10 (by decide) fun c31 hc31 => ?_
          refine PW.goto q_166_11 rfl ?_
          refine PW.rZ q_166_15 rfl (by omega) (by omega) (by decide) (by decide) ?_
          refine PW.rZ q_196_13 rfl (by omega) (by omega) (by decide) (by decide) ?_
          refine PW.jz_ne q_244_18 rfl (fun h32 => ?_) (fun h32 => False.elim (by omega))
          refine PW.aload_n q_244_23 rfl ?_
          refine PW.iload_n q_244_24 rfl ?_
          refine PW.iload_n q_244_25 rfl ?_
          refine PW.cV (as := [_, _]) (rest := []) q_244_26 t_mv_244_343 kd_294 IM2.1 (by decide) rfl (by decide) rfl rfl (Nat.le_of_ble_eq_true rfl) (Nat.le_of_ble_eq_true rfl) (by decide) (by decide) ?_
          refine PW.up (by decide) (c_X12_leastOf G _ M2 IM2 a1 a2 (by omega) (by omega) (by omega) (by omega) fun x34 M33 IM33 GM33 TM33 => ?_)
          have FM33 := Fr.trans FM2 GM33 (rfl)
          refine PW.pop q_244_29 rfl ?_
          refine PW.aload_n q_244_30 rfl ?_
          refine PW.gI q_244_31 (Or.inl t_ft_244_340) gF_40_27 kd_294 IM33.1 (by decide) fun x35 fx35 hx35 kx35 => ?_
          clear hx35 kx35
          refine PW.rI q_244_34 rfl (by decide) (by decide) ?_
          exact hK x35 M33 IM33 FM33 ⟨(TM33.1.trans (UM2.i (c := 294) (k := 2) (Or.inr (by decide)))), ((gHq.refl.pu UM2 (by decide)).tr TM33.2)⟩
