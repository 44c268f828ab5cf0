theorem dX12_probeExpression_96 : decode cX12_probeExpression 96 = .ok (.iinc 3 1, 3) := by decide +kernel
theorem dX12_probeExpression_99 : decode cX12_probeExpression 99 = .ok (.goto 213, 3) := by decide +kernel
theorem dX12_probeExpression_102 : decode cX12_probeExpression 102 = .ok (.iload 6, 2) := by decide +kernel
theorem dX12_probeExpression_104 : decode cX12_probeExpression 104 = .ok (.iconst 3, 1) := by decide +kernel
theorem dX12_probeExpression_105 : decode cX12_probeExpression 105 = .ok (.if_icmp .ne 23, 3) := by decide +kernel
theorem dX12_probeExpression_108 : decode cX12_probeExpression 108 = .ok (.aload_n 0, 1) := by decide +kernel
theorem dX12_probeExpression_109 : decode cX12_probeExpression 109 = .ok (.getfield 106, 3) := by decide +kernel
theorem dX12_probeExpression_112 : decode cX12_probeExpression 112 = .ok (.iload_n 3, 1) := by decide +kernel
theorem dX12_probeExpression_113 : decode cX12_probeExpression 113 = .ok (.iconst 1, 1) := by decide +kernel
theorem dX12_probeExpression_114 : decode cX12_probeExpression 114 = .ok (.isub, 1) := by decide +kernel
theorem dX12_probeExpression_115 : decode cX12_probeExpression 115 = .ok (.aload_n 0, 1) := by decide +kernel
theorem dX12_probeExpression_116 : decode cX12_probeExpression 116 = .ok (.getfield 106, 3) := by decide +kernel
theorem dX12_probeExpression_119 : decode cX12_probeExpression 119 = .ok (.iload_n 3, 1) := by decide +kernel
theorem dX12_probeExpression_120 : decode cX12_probeExpression 120 = .ok (.iconst 1, 1) := by decide +kernel
theorem dX12_probeExpression_121 : decode cX12_probeExpression 121 = .ok (.isub, 1) := by decide +kernel
theorem dX12_probeExpression_122 : decode cX12_probeExpression 122 = .ok (.iaload, 1) := by decide +kernel
theorem dX12_probeExpression_123 : decode cX12_probeExpression 123 = .ok (.ineg, 1) := by decide +kernel
theorem dX12_probeExpression_124 : decode cX12_probeExpression 124 = .ok (.iastore, 1) := by decide +kernel
theorem dX12_probeExpression_125 : decode cX12_probeExpression 125 = .ok (.goto 187, 3) := by decide +kernel
theorem dX12_probeExpression_128 : decode cX12_probeExpression 128 = .ok (.iload 6, 2) := by decide +kernel
theorem dX12_probeExpression_130 : decode cX12_probeExpression 130 = .ok (.iconst 4, 1) := by decide +kernel
theorem dX12_probeExpression_131 : decode cX12_probeExpression 131 = .ok (.if_icmp .ne 21, 3) := by decide +kernel
theorem dX12_probeExpression_134 : decode cX12_probeExpression 134 = .ok (.iconst 1, 1) := by decide +kernel
theorem dX12_probeExpression_135 : decode cX12_probeExpression 135 = .ok (.istore 8, 2) := by decide +kernel
theorem dX12_probeExpression_137 : decode cX12_probeExpression 137 = .ok (.aload_n 0, 1) := by decide +kernel
theorem dX12_probeExpression_138 : decode cX12_probeExpression 138 = .ok (.aload_n 0, 1) := by decide +kernel
theorem dX12_probeExpression_139 : decode cX12_probeExpression 139 = .ok (.getfield 106, 3) := by decide +kernel
theorem dX12_probeExpression_142 : decode cX12_probeExpression 142 = .ok (.iload_n 3, 1) := by decide +kernel
theorem dX12_probeExpression_143 : decode cX12_probeExpression 143 = .ok (.iconst 1, 1) := by decide +kernel
theorem dX12_probeExpression_144 : decode cX12_probeExpression 144 = .ok (.isub, 1) := by decide +kernel
theorem dX12_probeExpression_145 : decode cX12_probeExpression 145 = .ok (.iaload, 1) := by decide +kernel
theorem dX12_probeExpression_146 : decode cX12_probeExpression 146 = .ok (.putfield 347, 3) := by decide +kernel
theorem dX12_probeExpression_149 : decode cX12_probeExpression 149 = .ok (.goto 163, 3) := by decide +kernel
theorem dX12_probeExpression_152 : decode cX12_probeExpression 152 = .ok (.iload 6, 2) := by decide +kernel
theorem dX12_probeExpression_154 : decode cX12_probeExpression 154 = .ok (.iconst 5, 1) := by decide +kernel
theorem dX12_probeExpression_155 : decode cX12_probeExpression 155 = .ok (.if_icmp .ne 30, 3) := by decide +kernel
theorem dX12_probeExpression_158 : decode cX12_probeExpression 158 = .ok (.iinc 3 (-1), 3) := by decide +kernel
theorem dX12_probeExpression_161 : decode cX12_probeExpression 161 = .ok (.aload_n 0, 1) := by decide +kernel
theorem dX12_probeExpression_162 : decode cX12_probeExpression 162 = .ok (.getfield 106, 3) := by decide +kernel
theorem dX12_probeExpression_165 : decode cX12_probeExpression 165 = .ok (.iload_n 3, 1) := by decide +kernel
theorem dX12_probeExpression_166 : decode cX12_probeExpression 166 = .ok (.iaload, 1) := by decide +kernel
theorem dX12_probeExpression_167 : decode cX12_probeExpression 167 = .ok (.ifCond .ne 11, 3) := by decide +kernel
theorem dX12_probeExpression_170 : decode cX12_probeExpression 170 = .ok (.iload 5, 2) := by decide +kernel
theorem dX12_probeExpression_172 : decode cX12_probeExpression 172 = .ok (.iload 7, 2) := by decide +kernel
theorem dX12_probeExpression_174 : decode cX12_probeExpression 174 = .ok (.iadd, 1) := by decide +kernel
theorem dX12_probeExpression_175 : decode cX12_probeExpression 175 = .ok (.goto 5, 3) := by decide +kernel
theorem dX12_probeExpression_178 : decode cX12_probeExpression 178 = .ok (.iload 5, 2) := by decide +kernel
theorem dX12_probeExpression_180 : decode cX12_probeExpression 180 = .ok (.istore 5, 2) := by decide +kernel
theorem dX12_probeExpression_182 : decode cX12_probeExpression 182 = .ok (.goto 130, 3) := by decide +kernel
theorem dX12_probeExpression_185 : decode cX12_probeExpression 185 = .ok (.iload 6, 2) := by decide +kernel
theorem dX12_probeExpression_187 : decode cX12_probeExpression 187 = .ok (.bipush 6, 2) := by decide +kernel
theorem dX12_probeExpression_189 : decode cX12_probeExpression 189 = .ok (.if_icmp .ne 13, 3) := by decide +kernel
theorem dX12_probeExpression_192 : decode cX12_probeExpression 192 = .ok (.iload 5, 2) := by decide +kernel
theorem dX12_probeExpression_194 : decode cX12_probeExpression 194 = .ok (.iload 7, 2) := by decide +kernel
theorem dX12_probeExpression_196 : decode cX12_probeExpression 196 = .ok (.iadd, 1) := by decide +kernel
theorem dX12_probeExpression_197 : decode cX12_probeExpression 197 = .ok (.istore 5, 2) := by decide +kernel
theorem dX12_probeExpression_199 : decode cX12_probeExpression 199 = .ok (.goto 113, 3) := by decide +kernel
theorem dX12_probeExpression_202 : decode cX12_probeExpression 202 = .ok (.iload 6, 2) := by decide +kernel
theorem dX12_probeExpression_204 : decode cX12_probeExpression 204 = .ok (.bipush 7, 2) := by decide +kernel
theorem dX12_probeExpression_206 : decode cX12_probeExpression 206 = .ok (.if_icmp .ne 29, 3) := by decide +kernel
theorem dX12_probeExpression_209 : decode cX12_probeExpression 209 = .ok (.aload_n 0, 1) := by decide +kernel
theorem dX12_probeExpression_210 : decode cX12_probeExpression 210 = .ok (.getfield 109, 3) := by decide +kernel
theorem dX12_probeExpression_213 : decode cX12_probeExpression 213 = .ok (.iload 4, 2) := by decide +kernel
theorem dX12_probeExpression_215 : decode cX12_probeExpression 215 = .ok (.iload 5, 2) := by decide +kernel
theorem dX12_probeExpression_217 : decode cX12_probeExpression 217 = .ok (.iload 7, 2) := by decide +kernel
theorem dX12_probeExpression_219 : decode cX12_probeExpression 219 = .ok (.iadd, 1) := by decide +kernel
theorem dX12_probeExpression_220 : decode cX12_probeExpression 220 = .ok (.iastore, 1) := by decide +kernel
theorem dX12_probeExpression_221 : decode cX12_probeExpression 221 = .ok (.aload_n 0, 1) := by decide +kernel
theorem dX12_probeExpression_222 : decode cX12_probeExpression 222 = .ok (.getfield 112, 3) := by decide +kernel
theorem dX12_probeExpression_225 : decode cX12_probeExpression 225 = .ok (.iload 4, 2) := by decide +kernel
theorem dX12_probeExpression_227 : decode cX12_probeExpression 227 = .ok (.iload_n 3, 1) := by decide +kernel
theorem dX12_probeExpression_228 : decode cX12_probeExpression 228 = .ok (.iastore, 1) := by decide +kernel
theorem dX12_probeExpression_229 : decode cX12_probeExpression 229 = .ok (.iinc 4 1, 3) := by decide +kernel
theorem dX12_probeExpression_232 : decode cX12_probeExpression 232 = .ok (.goto 80, 3) := by decide +kernel
theorem dX12_probeExpression_235 : decode cX12_probeExpression 235 = .ok (.iload 6, 2) := by decide +kernel
theorem dX12_probeExpression_237 : decode cX12_probeExpression 237 = .ok (.bipush 8, 2) := by decide +kernel
theorem dX12_probeExpression_239 : decode cX12_probeExpression 239 = .ok (.if_icmp .ne 16, 3) := by decide +kernel
theorem dX12_probeExpression_242 : decode cX12_probeExpression 242 = .ok (.iinc 4 (-1), 3) := by decide +kernel
theorem dX12_probeExpression_245 : decode cX12_probeExpression 245 = .ok (.iload 5, 2) := by decide +kernel
theorem dX12_probeExpression_247 : decode cX12_probeExpression 247 = .ok (.iload 7, 2) := by decide +kernel
theorem dX12_probeExpression_249 : decode cX12_probeExpression 249 = .ok (.iadd, 1) := by decide +kernel
theorem dX12_probeExpression_250 : decode cX12_probeExpression 250 = .ok (.istore 5, 2) := by decide +kernel
theorem dX12_probeExpression_252 : decode cX12_probeExpression 252 = .ok (.goto 60, 3) := by decide +kernel
theorem dX12_probeExpression_255 : decode cX12_probeExpression 255 = .ok (.iload 7, 2) := by decide +kernel
theorem dX12_probeExpression_257 : decode cX12_probeExpression 257 = .ok (.aload_n 0, 1) := by decide +kernel
theorem dX12_probeExpression_258 : decode cX12_probeExpression 258 = .ok (.getfield 106, 3) := by decide +kernel
theorem dX12_probeExpression_261 : decode cX12_probeExpression 261 = .ok (.iload_n 3, 1) := by decide +kernel
theorem dX12_probeExpression_262 : decode cX12_probeExpression 262 = .ok (.iconst 1, 1) := by decide +kernel
theorem dX12_probeExpression_263 : decode cX12_probeExpression 263 = .ok (.isub, 1) := by decide +kernel
theorem dX12_probeExpression_264 : decode cX12_probeExpression 264 = .ok (.iaload, 1) := by decide +kernel
theorem dX12_probeExpression_265 : decode cX12_probeExpression 265 = .ok (.invokestatic 350, 3) := by decide +kernel
theorem dX12_probeExpression_268 : decode cX12_probeExpression 268 = .ok (.ifCond .eq 14, 3) := by decide +kernel
theorem dX12_probeExpression_271 : decode cX12_probeExpression 271 = .ok (.iconst 1, 1) := by decide +kernel
theorem dX12_probeExpression_272 : decode cX12_probeExpression 272 = .ok (.istore 8, 2) := by decide +kernel
theorem dX12_probeExpression_274 : decode cX12_probeExpression 274 = .ok (.aload_n 0, 1) := by decide +kernel
theorem dX12_probeExpression_275 : decode cX12_probeExpression 275 = .ok (.iconst (-1), 1) := by decide +kernel
theorem dX12_probeExpression_276 : decode cX12_probeExpression 276 = .ok (.putfield 347, 3) := by decide +kernel
theorem dX12_probeExpression_279 : decode cX12_probeExpression 279 = .ok (.goto 33, 3) := by decide +kernel
theorem dX12_probeExpression_282 : decode cX12_probeExpression 282 = .ok (.iinc 3 (-1), 3) := by decide +kernel
theorem dX12_probeExpression_285 : decode cX12_probeExpression 285 = .ok (.aload_n 0, 1) := by decide +kernel
theorem dX12_probeExpression_286 : decode cX12_probeExpression 286 = .ok (.getfield 106, 3) := by decide +kernel
theorem dX12_probeExpression_289 : decode cX12_probeExpression 289 = .ok (.iload_n 3, 1) := by decide +kernel
theorem dX12_probeExpression_290 : decode cX12_probeExpression 290 = .ok (.iconst 1, 1) := by decide +kernel
theorem dX12_probeExpression_291 : decode cX12_probeExpression 291 = .ok (.isub, 1) := by decide +kernel
theorem dX12_probeExpression_292 : decode cX12_probeExpression 292 = .ok (.iload 7, 2) := by decide +kernel
theorem dX12_probeExpression_294 : decode cX12_probeExpression 294 = .ok (.aload_n 0, 1) := by decide +kernel
theorem dX12_probeExpression_295 : decode cX12_probeExpression 295 = .ok (.getfield 106, 3) := by decide +kernel
theorem dX12_probeExpression_298 : decode cX12_probeExpression 298 = .ok (.iload_n 3, 1) := by decide +kernel
theorem dX12_probeExpression_299 : decode cX12_probeExpression 299 = .ok (.iconst 1, 1) := by decide +kernel
theorem dX12_probeExpression_300 : decode cX12_probeExpression 300 = .ok (.isub, 1) := by decide +kernel
theorem dX12_probeExpression_301 : decode cX12_probeExpression 301 = .ok (.iaload, 1) := by decide +kernel
theorem dX12_probeExpression_302 : decode cX12_probeExpression 302 = .ok (.aload_n 0, 1) := by decide +kernel
theorem dX12_probeExpression_303 : decode cX12_probeExpression 303 = .ok (.getfield 106, 3) := by decide +kernel
theorem dX12_probeExpression_306 : decode cX12_probeExpression 306 = .ok (.iload_n 3, 1) := by decide +kernel
theorem dX12_probeExpression_307 : decode cX12_probeExpression 307 = .ok (.iaload, 1) := by decide +kernel
theorem dX12_probeExpression_308 : decode cX12_probeExpression 308 = .ok (.invokestatic 353, 3) := by decide +kernel
theorem dX12_probeExpression_311 : decode cX12_probeExpression 311 = .ok (.iastore, 1) := by decide +kernel
theorem dX12_probeExpression_312 : decode cX12_probeExpression 312 = .ok (.iload 8, 2) := by decide +kernel
theorem dX12_probeExpression_314 : decode cX12_probeExpression 314 = .ok (.ifCond .eq 34, 3) := by decide +kernel
theorem dX12_probeExpression_317 : decode cX12_probeExpression 317 = .ok (.iload 4, 2) := by decide +kernel
theorem dX12_probeExpression_319 : decode cX12_probeExpression 319 = .ok (.ifCond .ne 9, 3) := by decide +kernel
theorem dX12_probeExpression_322 : decode cX12_probeExpression 322 = .ok (.aload_n 0, 1) := by decide +kernel
theorem dX12_probeExpression_323 : decode cX12_probeExpression 323 = .ok (.iconst 1, 1) := by decide +kernel
theorem dX12_probeExpression_324 : decode cX12_probeExpression 324 = .ok (.putfield 344, 3) := by decide +kernel
theorem dX12_probeExpression_327 : decode cX12_probeExpression 327 = .ok (.return_, 1) := by decide +kernel
theorem dX12_probeExpression_328 : decode cX12_probeExpression 328 = .ok (.iinc 4 (-1), 3) := by decide +kernel
theorem dX12_probeExpression_331 : decode cX12_probeExpression 331 = .ok (.aload_n 0, 1) := by decide +kernel
theorem dX12_probeExpression_332 : decode cX12_probeExpression 332 = .ok (.getfield 112, 3) := by decide +kernel
theorem dX12_probeExpression_335 : decode cX12_probeExpression 335 = .ok (.iload 4, 2) := by decide +kernel
theorem dX12_probeExpression_337 : decode cX12_probeExpression 337 = .ok (.iaload, 1) := by decide +kernel
theorem dX12_probeExpression_338 : decode cX12_probeExpression 338 = .ok (.istore_n 3, 1) := by decide +kernel
theorem dX12_probeExpression_339 : decode cX12_probeExpression 339 = .ok (.aload_n 0, 1) := by decide +kernel
theorem dX12_probeExpression_340 : decode cX12_probeExpression 340 = .ok (.getfield 109, 3) := by decide +kernel
theorem dX12_probeExpression_343 : decode cX12_probeExpression 343 = .ok (.iload 4, 2) := by decide +kernel
theorem dX12_probeExpression_345 : decode cX12_probeExpression 345 = .ok (.iaload, 1) := by decide +kernel
theorem dX12_probeExpression_346 : decode cX12_probeExpression 346 = .ok (.istore 5, 2) := by decide +kernel
theorem dX12_probeExpression_348 : decode cX12_probeExpression 348 = .ok (.goto (-330), 3) := by decide +kernel
theorem dX12_probeExpression_351 : decode cX12_probeExpression 351 = .ok (.aload_n 0, 1) := by decide +kernel
theorem dX12_probeExpression_352 : decode cX12_probeExpression 352 = .ok (.aload_n 0, 1) := by decide +kernel
theorem dX12_probeExpression_353 : decode cX12_probeExpression 353 = .ok (.getfield 106, 3) := by decide +kernel
theorem dX12_probeExpression_356 : decode cX12_probeExpression 356 = .ok (.iconst 0, 1) := by decide +kernel
theorem dX12_probeExpression_357 : decode cX12_probeExpression 357 = .ok (.iaload, 1) := by decide +kernel
theorem dX12_probeExpression_358 : decode cX12_probeExpression 358 = .ok (.putfield 347, 3) := by decide +kernel
theorem dX12_probeExpression_361 : decode cX12_probeExpression 361 = .ok (.return_, 1) := by decide +kernel
theorem dX12_record_0 : decode cX12_record 0 = .ok (.aload_n 0, 1) := by decide +kernel
theorem dX12_record_1 : decode cX12_record 1 = .ok (.getfield 356, 3) := by decide +kernel
theorem dX12_record_4 : decode cX12_record 4 = .ok (.sipush 300, 3) := by decide +kernel
theorem dX12_record_7 : decode cX12_record 7 = .ok (.if_icmp .ge 83, 3) := by decide +kernel
theorem dX12_record_10 : decode cX12_record 10 = .ok (.iconst 5, 1) := by decide +kernel
theorem dX12_record_11 : decode cX12_record 11 = .ok (.aload_n 0, 1) := by decide +kernel
theorem dX12_record_12 : decode cX12_record 12 = .ok (.getfield 356, 3) := by decide +kernel
theorem dX12_record_15 : decode cX12_record 15 = .ok (.imul, 1) := by decide +kernel
theorem dX12_record_16 : decode cX12_record 16 = .ok (.istore 4, 2) := by decide +kernel
theorem dX12_record_18 : decode cX12_record 18 = .ok (.aload_n 0, 1) := by decide +kernel
theorem dX12_record_19 : decode cX12_record 19 = .ok (.getfield 76, 3) := by decide +kernel
theorem dX12_record_22 : decode cX12_record 22 = .ok (.iload 4, 2) := by decide +kernel
theorem dX12_record_24 : decode cX12_record 24 = .ok (.iload_n 1, 1) := by decide +kernel
theorem dX12_record_25 : decode cX12_record 25 = .ok (.iastore, 1) := by decide +kernel
theorem dX12_record_26 : decode cX12_record 26 = .ok (.aload_n 0, 1) := by decide +kernel
theorem dX12_record_27 : decode cX12_record 27 = .ok (.getfield 76, 3) := by decide +kernel
theorem dX12_record_30 : decode cX12_record 30 = .ok (.iload 4, 2) := by decide +kernel
theorem dX12_record_32 : decode cX12_record 32 = .ok (.iconst 1, 1) := by decide +kernel
theorem dX12_record_33 : decode cX12_record 33 = .ok (.iadd, 1) := by decide +kernel
theorem dX12_record_34 : decode cX12_record 34 = .ok (.iload_n 2, 1) := by decide +kernel
theorem dX12_record_35 : decode cX12_record 35 = .ok (.iastore, 1) := by decide +kernel
theorem dX12_record_36 : decode cX12_record 36 = .ok (.aload_n 0, 1) := by decide +kernel
theorem dX12_record_37 : decode cX12_record 37 = .ok (.getfield 76, 3) := by decide +kernel
theorem dX12_record_40 : decode cX12_record 40 = .ok (.iload 4, 2) := by decide +kernel
theorem dX12_record_42 : decode cX12_record 42 = .ok (.iconst 2, 1) := by decide +kernel
theorem dX12_record_43 : decode cX12_record 43 = .ok (.iadd, 1) := by decide +kernel
theorem dX12_record_44 : decode cX12_record 44 = .ok (.aload_n 0, 1) := by decide +kernel
theorem dX12_record_45 : decode cX12_record 45 = .ok (.getfield 347, 3) := by decide +kernel
theorem dX12_record_48 : decode cX12_record 48 = .ok (.iastore, 1) := by decide +kernel
theorem dX12_record_49 : decode cX12_record 49 = .ok (.aload_n 0, 1) := by decide +kernel
theorem dX12_record_50 : decode cX12_record 50 = .ok (.getfield 76, 3) := by decide +kernel
theorem dX12_record_53 : decode cX12_record 53 = .ok (.iload 4, 2) := by decide +kernel
theorem dX12_record_55 : decode cX12_record 55 = .ok (.iconst 3, 1) := by decide +kernel
theorem dX12_record_56 : decode cX12_record 56 = .ok (.iadd, 1) := by decide +kernel
theorem dX12_record_57 : decode cX12_record 57 = .ok (.aload_n 0, 1) := by decide +kernel
theorem dX12_record_58 : decode cX12_record 58 = .ok (.getfield 344, 3) := by decide +kernel
theorem dX12_record_61 : decode cX12_record 61 = .ok (.ifCond .eq 7, 3) := by decide +kernel
theorem dX12_record_64 : decode cX12_record 64 = .ok (.iconst 1, 1) := by decide +kernel
theorem dX12_record_65 : decode cX12_record 65 = .ok (.goto 4, 3) := by decide +kernel
theorem dX12_record_68 : decode cX12_record 68 = .ok (.iconst 0, 1) := by decide +kernel
theorem dX12_record_69 : decode cX12_record 69 = .ok (.iastore, 1) := by decide +kernel
theorem dX12_record_70 : decode cX12_record 70 = .ok (.aload_n 0, 1) := by decide +kernel
theorem dX12_record_71 : decode cX12_record 71 = .ok (.getfield 76, 3) := by decide +kernel
theorem dX12_record_74 : decode cX12_record 74 = .ok (.iload 4, 2) := by decide +kernel
theorem dX12_record_76 : decode cX12_record 76 = .ok (.iconst 4, 1) := by decide +kernel
theorem dX12_record_77 : decode cX12_record 77 = .ok (.iadd, 1) := by decide +kernel
theorem dX12_record_78 : decode cX12_record 78 = .ok (.iload_n 3, 1) := by decide +kernel
theorem dX12_record_79 : decode cX12_record 79 = .ok (.iastore, 1) := by decide +kernel
theorem dX12_record_80 : decode cX12_record 80 = .ok (.aload_n 0, 1) := by decide +kernel
theorem dX12_record_81 : decode cX12_record 81 = .ok (.dup, 1) := by decide +kernel
theorem dX12_record_82 : decode cX12_record 82 = .ok (.getfield 356, 3) := by decide +kernel
theorem dX12_record_85 : decode cX12_record 85 = .ok (.iconst 1, 1) := by decide +kernel
theorem dX12_record_86 : decode cX12_record 86 = .ok (.iadd, 1) := by decide +kernel
theorem dX12_record_87 : decode cX12_record 87 = .ok (.putfield 356, 3) := by decide +kernel
theorem dX12_record_90 : decode cX12_record 90 = .ok (.aload_n 0, 1) := by decide +kernel
theorem dX12_record_91 : decode cX12_record 91 = .ok (.getfield 57, 3) := by decide +kernel
theorem dX12_record_94 : decode cX12_record 94 = .ok (.iload_n 1, 1) := by decide +kernel
theorem dX12_record_95 : decode cX12_record 95 = .ok (.dup2, 1) := by decide +kernel
theorem dX12_record_96 : decode cX12_record 96 = .ok (.iaload, 1) := by decide +kernel
theorem dX12_record_97 : decode cX12_record 97 = .ok (.iconst 1, 1) := by decide +kernel
theorem dX12_record_98 : decode cX12_record 98 = .ok (.iadd, 1) := by decide +kernel
theorem dX12_record_99 : decode cX12_record 99 = .ok (.iastore, 1) := by decide +kernel
theorem dX12_record_100 : decode cX12_record 100 = .ok (.aload_n 0, 1) := by decide +kernel
theorem dX12_record_101 : decode cX12_record 101 = .ok (.getfield 57, 3) := by decide +kernel
theorem dX12_record_104 : decode cX12_record 104 = .ok (.iload_n 1, 1) := by decide +kernel
theorem dX12_record_105 : decode cX12_record 105 = .ok (.iaload, 1) := by decide +kernel
theorem dX12_record_106 : decode cX12_record 106 = .ok (.aload_n 0, 1) := by decide +kernel
theorem dX12_record_107 : decode cX12_record 107 = .ok (.getfield 54, 3) := by decide +kernel
theorem dX12_record_110 : decode cX12_record 110 = .ok (.iload_n 1, 1) := by decide +kernel
theorem dX12_record_111 : decode cX12_record 111 = .ok (.iaload, 1) := by decide +kernel
theorem dX12_record_112 : decode cX12_record 112 = .ok (.if_icmp .ne 10, 3) := by decide +kernel
theorem dX12_record_115 : decode cX12_record 115 = .ok (.aload_n 0, 1) := by decide +kernel
theorem dX12_record_116 : decode cX12_record 116 = .ok (.getfield 48, 3) := by decide +kernel
theorem dX12_record_119 : decode cX12_record 119 = .ok (.iload_n 1, 1) := by decide +kernel
theorem dX12_record_120 : decode cX12_record 120 = .ok (.iconst 0, 1) := by decide +kernel
theorem dX12_record_121 : decode cX12_record 121 = .ok (.iastore, 1) := by decide +kernel
theorem dX12_record_122 : decode cX12_record 122 = .ok (.return_, 1) := by decide +kernel
theorem dX12_watchOne_0 : decode cX12_watchOne 0 = .ok (.aload_n 0, 1) := by decide +kernel
theorem dX12_watchOne_1 : decode cX12_watchOne 1 = .ok (.getfield 103, 3) := by decide +kernel
theorem dX12_watchOne_4 : decode cX12_watchOne 4 = .ok (.bipush 6, 2) := by decide +kernel
theorem dX12_watchOne_6 : decode cX12_watchOne 6 = .ok (.aload_n 0, 1) := by decide +kernel
theorem dX12_watchOne_7 : decode cX12_watchOne 7 = .ok (.getfield 57, 3) := by decide +kernel
theorem dX12_watchOne_10 : decode cX12_watchOne 10 = .ok (.iload_n 1, 1) := by decide +kernel
theorem dX12_watchOne_11 : decode cX12_watchOne 11 = .ok (.iaload, 1) := by decide +kernel
theorem dX12_watchOne_12 : decode cX12_watchOne 12 = .ok (.iastore, 1) := by decide +kernel
theorem dX12_watchOne_13 : decode cX12_watchOne 13 = .ok (.aload_n 0, 1) := by decide +kernel
theorem dX12_watchOne_14 : decode cX12_watchOne 14 = .ok (.getfield 60, 3) := by decide +kernel
theorem dX12_watchOne_17 : decode cX12_watchOne 17 = .ok (.iload_n 1, 1) := by decide +kernel
theorem dX12_watchOne_18 : decode cX12_watchOne 18 = .ok (.baload, 1) := by decide +kernel
theorem dX12_watchOne_19 : decode cX12_watchOne 19 = .ok (.ifCond .eq 41, 3) := by decide +kernel
theorem dX12_watchOne_22 : decode cX12_watchOne 22 = .ok (.aload_n 0, 1) := by decide +kernel
theorem dX12_watchOne_23 : decode cX12_watchOne 23 = .ok (.bipush 17, 2) := by decide +kernel
theorem dX12_watchOne_25 : decode cX12_watchOne 25 = .ok (.iconst 2, 1) := by decide +kernel
theorem dX12_watchOne_26 : decode cX12_watchOne 26 = .ok (.iload_n 1, 1) := by decide +kernel
theorem dX12_watchOne_27 : decode cX12_watchOne 27 = .ok (.imul, 1) := by decide +kernel
theorem dX12_watchOne_28 : decode cX12_watchOne 28 = .ok (.iadd, 1) := by decide +kernel
theorem dX12_watchOne_29 : decode cX12_watchOne 29 = .ok (.invokevirtual 359, 3) := by decide +kernel
theorem dX12_watchOne_32 : decode cX12_watchOne 32 = .ok (.aload_n 0, 1) := by decide +kernel
theorem dX12_watchOne_33 : decode cX12_watchOne 33 = .ok (.getfield 344, 3) := by decide +kernel
theorem dX12_watchOne_36 : decode cX12_watchOne 36 = .ok (.ifCond .eq 16, 3) := by decide +kernel
theorem dX12_watchOne_39 : decode cX12_watchOne 39 = .ok (.aload_n 0, 1) := by decide +kernel
theorem dX12_watchOne_40 : decode cX12_watchOne 40 = .ok (.iload_n 1, 1) := by decide +kernel
theorem dX12_watchOne_41 : decode cX12_watchOne 41 = .ok (.aload_n 0, 1) := by decide +kernel
theorem dX12_watchOne_42 : decode cX12_watchOne 42 = .ok (.getfield 82, 3) := by decide +kernel
theorem dX12_watchOne_45 : decode cX12_watchOne 45 = .ok (.iload_n 2, 1) := by decide +kernel
theorem dX12_watchOne_46 : decode cX12_watchOne 46 = .ok (.iaload, 1) := by decide +kernel
theorem dX12_watchOne_47 : decode cX12_watchOne 47 = .ok (.iload_n 2, 1) := by decide +kernel
theorem dX12_watchOne_48 : decode cX12_watchOne 48 = .ok (.invokevirtual 362, 3) := by decide +kernel
theorem dX12_watchOne_51 : decode cX12_watchOne 51 = .ok (.return_, 1) := by decide +kernel
theorem dX12_watchOne_52 : decode cX12_watchOne 52 = .ok (.aload_n 0, 1) := by decide +kernel
theorem dX12_watchOne_53 : decode cX12_watchOne 53 = .ok (.getfield 347, 3) := by decide +kernel
theorem dX12_watchOne_56 : decode cX12_watchOne 56 = .ok (.ifCond .ne 4, 3) := by decide +kernel
theorem dX12_watchOne_59 : decode cX12_watchOne 59 = .ok (.return_, 1) := by decide +kernel
theorem dX12_watchOne_60 : decode cX12_watchOne 60 = .ok (.aload_n 0, 1) := by decide +kernel
theorem dX12_watchOne_61 : decode cX12_watchOne 61 = .ok (.bipush 16, 2) := by decide +kernel
theorem dX12_watchOne_63 : decode cX12_watchOne 63 = .ok (.iconst 2, 1) := by decide +kernel
theorem dX12_watchOne_64 : decode cX12_watchOne 64 = .ok (.iload_n 1, 1) := by decide +kernel
theorem dX12_watchOne_65 : decode cX12_watchOne 65 = .ok (.imul, 1) := by decide +kernel
theorem dX12_watchOne_66 : decode cX12_watchOne 66 = .ok (.iadd, 1) := by decide +kernel
theorem dX12_watchOne_67 : decode cX12_watchOne 67 = .ok (.invokevirtual 359, 3) := by decide +kernel
theorem dX12_watchOne_70 : decode cX12_watchOne 70 = .ok (.aload_n 0, 1) := by decide +kernel
theorem dX12_watchOne_71 : decode cX12_watchOne 71 = .ok (.iload_n 1, 1) := by decide +kernel
theorem dX12_watchOne_72 : decode cX12_watchOne 72 = .ok (.aload_n 0, 1) := by decide +kernel
theorem dX12_watchOne_73 : decode cX12_watchOne 73 = .ok (.getfield 82, 3) := by decide +kernel
theorem dX12_watchOne_76 : decode cX12_watchOne 76 = .ok (.iload_n 2, 1) := by decide +kernel
theorem dX12_watchOne_77 : decode cX12_watchOne 77 = .ok (.iaload, 1) := by decide +kernel
theorem dX12_watchOne_78 : decode cX12_watchOne 78 = .ok (.iload_n 2, 1) := by decide +kernel
theorem dX12_watchOne_79 : decode cX12_watchOne 79 = .ok (.invokevirtual 362, 3) := by decide +kernel
theorem dX12_watchOne_82 : decode cX12_watchOne 82 = .ok (.return_, 1) := by decide +kernel
theorem dX12_keepOne_0 : decode cX12_keepOne 0 = .ok (.aload_n 0, 1) := by decide +kernel
theorem dX12_keepOne_1 : decode cX12_keepOne 1 = .ok (.getfield 365, 3) := by decide +kernel
theorem dX12_keepOne_4 : decode cX12_keepOne 4 = .ok (.bipush 40, 2) := by decide +kernel
theorem dX12_keepOne_6 : decode cX12_keepOne 6 = .ok (.if_icmp .ne 4, 3) := by decide +kernel
theorem dX12_keepOne_9 : decode cX12_keepOne 9 = .ok (.return_, 1) := by decide +kernel
theorem dX12_keepOne_10 : decode cX12_keepOne 10 = .ok (.bipush 7, 2) := by decide +kernel
theorem dX12_keepOne_12 : decode cX12_keepOne 12 = .ok (.aload_n 0, 1) := by decide +kernel
theorem dX12_keepOne_13 : decode cX12_keepOne 13 = .ok (.getfield 365, 3) := by decide +kernel
theorem dX12_keepOne_16 : decode cX12_keepOne 16 = .ok (.imul, 1) := by decide +kernel
theorem dX12_keepOne_17 : decode cX12_keepOne 17 = .ok (.istore 5, 2) := by decide +kernel
theorem dX12_keepOne_19 : decode cX12_keepOne 19 = .ok (.aload_n 0, 1) := by decide +kernel
theorem dX12_keepOne_20 : decode cX12_keepOne 20 = .ok (.getfield 79, 3) := by decide +kernel
theorem dX12_keepOne_23 : decode cX12_keepOne 23 = .ok (.iload 5, 2) := by decide +kernel
theorem dX12_keepOne_25 : decode cX12_keepOne 25 = .ok (.iload_n 1, 1) := by decide +kernel
theorem dX12_keepOne_26 : decode cX12_keepOne 26 = .ok (.iastore, 1) := by decide +kernel
theorem dX12_keepOne_27 : decode cX12_keepOne 27 = .ok (.aload_n 0, 1) := by decide +kernel
theorem dX12_keepOne_28 : decode cX12_keepOne 28 = .ok (.getfield 79, 3) := by decide +kernel
theorem dX12_keepOne_31 : decode cX12_keepOne 31 = .ok (.iload 5, 2) := by decide +kernel
theorem dX12_keepOne_33 : decode cX12_keepOne 33 = .ok (.iconst 1, 1) := by decide +kernel
theorem dX12_keepOne_34 : decode cX12_keepOne 34 = .ok (.iadd, 1) := by decide +kernel
theorem dX12_keepOne_35 : decode cX12_keepOne 35 = .ok (.aload_n 0, 1) := by decide +kernel
theorem dX12_keepOne_36 : decode cX12_keepOne 36 = .ok (.getfield 82, 3) := by decide +kernel
theorem dX12_keepOne_39 : decode cX12_keepOne 39 = .ok (.iload_n 2, 1) := by decide +kernel
theorem dX12_keepOne_40 : decode cX12_keepOne 40 = .ok (.iaload, 1) := by decide +kernel
theorem dX12_keepOne_41 : decode cX12_keepOne 41 = .ok (.iastore, 1) := by decide +kernel
theorem dX12_keepOne_42 : decode cX12_keepOne 42 = .ok (.iconst 0, 1) := by decide +kernel
theorem dX12_keepOne_43 : decode cX12_keepOne 43 = .ok (.istore 6, 2) := by decide +kernel
theorem dX12_keepOne_45 : decode cX12_keepOne 45 = .ok (.iload 6, 2) := by decide +kernel
theorem dX12_keepOne_47 : decode cX12_keepOne 47 = .ok (.iconst 3, 1) := by decide +kernel
theorem dX12_keepOne_48 : decode cX12_keepOne 48 = .ok (.if_icmp .ge 32, 3) := by decide +kernel
theorem dX12_keepOne_51 : decode cX12_keepOne 51 = .ok (.aload_n 0, 1) := by decide +kernel
theorem dX12_keepOne_52 : decode cX12_keepOne 52 = .ok (.getfield 79, 3) := by decide +kernel
theorem dX12_keepOne_55 : decode cX12_keepOne 55 = .ok (.iload 5, 2) := by decide +kernel
theorem dX12_keepOne_57 : decode cX12_keepOne 57 = .ok (.iconst 2, 1) := by decide +kernel
theorem dX12_keepOne_58 : decode cX12_keepOne 58 = .ok (.iadd, 1) := by decide +kernel
theorem dX12_keepOne_59 : decode cX12_keepOne 59 = .ok (.iload 6, 2) := by decide +kernel
theorem dX12_keepOne_61 : decode cX12_keepOne 61 = .ok (.iadd, 1) := by decide +kernel
theorem dX12_keepOne_62 : decode cX12_keepOne 62 = .ok (.aload_n 0, 1) := by decide +kernel
theorem dX12_keepOne_63 : decode cX12_keepOne 63 = .ok (.getfield 85, 3) := by decide +kernel
theorem dX12_keepOne_66 : decode cX12_keepOne 66 = .ok (.iconst 3, 1) := by decide +kernel
theorem dX12_keepOne_67 : decode cX12_keepOne 67 = .ok (.iload_n 2, 1) := by decide +kernel
theorem dX12_keepOne_68 : decode cX12_keepOne 68 = .ok (.imul, 1) := by decide +kernel
theorem dX12_keepOne_69 : decode cX12_keepOne 69 = .ok (.iload 6, 2) := by decide +kernel
theorem dX12_keepOne_71 : decode cX12_keepOne 71 = .ok (.iadd, 1) := by decide +kernel
theorem dX12_keepOne_72 : decode cX12_keepOne 72 = .ok (.iaload, 1) := by decide +kernel
theorem dX12_keepOne_73 : decode cX12_keepOne 73 = .ok (.iastore, 1) := by decide +kernel
theorem dX12_keepOne_74 : decode cX12_keepOne 74 = .ok (.iinc 6 1, 3) := by decide +kernel
theorem dX12_keepOne_77 : decode cX12_keepOne 77 = .ok (.goto (-32), 3) := by decide +kernel
theorem dX12_keepOne_80 : decode cX12_keepOne 80 = .ok (.aload_n 0, 1) := by decide +kernel
theorem dX12_keepOne_81 : decode cX12_keepOne 81 = .ok (.getfield 79, 3) := by decide +kernel
theorem dX12_keepOne_84 : decode cX12_keepOne 84 = .ok (.iload 5, 2) := by decide +kernel
theorem dX12_keepOne_86 : decode cX12_keepOne 86 = .ok (.iconst 5, 1) := by decide +kernel
theorem dX12_keepOne_87 : decode cX12_keepOne 87 = .ok (.iadd, 1) := by decide +kernel
theorem dX12_keepOne_88 : decode cX12_keepOne 88 = .ok (.iload_n 3, 1) := by decide +kernel
theorem dX12_keepOne_89 : decode cX12_keepOne 89 = .ok (.iconst 1, 1) := by decide +kernel
theorem dX12_keepOne_90 : decode cX12_keepOne 90 = .ok (.isub, 1) := by decide +kernel
theorem dX12_keepOne_91 : decode cX12_keepOne 91 = .ok (.iastore, 1) := by decide +kernel
theorem dX12_keepOne_92 : decode cX12_keepOne 92 = .ok (.aload_n 0, 1) := by decide +kernel
theorem dX12_keepOne_93 : decode cX12_keepOne 93 = .ok (.getfield 79, 3) := by decide +kernel
theorem dX12_keepOne_96 : decode cX12_keepOne 96 = .ok (.iload 5, 2) := by decide +kernel
theorem dX12_keepOne_98 : decode cX12_keepOne 98 = .ok (.bipush 6, 2) := by decide +kernel
theorem dX12_keepOne_100 : decode cX12_keepOne 100 = .ok (.iadd, 1) := by decide +kernel
theorem dX12_keepOne_101 : decode cX12_keepOne 101 = .ok (.iload 4, 2) := by decide +kernel
theorem dX12_keepOne_103 : decode cX12_keepOne 103 = .ok (.iastore, 1) := by decide +kernel
theorem dX12_keepOne_104 : decode cX12_keepOne 104 = .ok (.aload_n 0, 1) := by decide +kernel
theorem dX12_keepOne_105 : decode cX12_keepOne 105 = .ok (.dup, 1) := by decide +kernel
theorem dX12_keepOne_106 : decode cX12_keepOne 106 = .ok (.getfield 365, 3) := by decide +kernel
theorem dX12_keepOne_109 : decode cX12_keepOne 109 = .ok (.iconst 1, 1) := by decide +kernel
theorem dX12_keepOne_110 : decode cX12_keepOne 110 = .ok (.iadd, 1) := by decide +kernel
theorem dX12_keepOne_111 : decode cX12_keepOne 111 = .ok (.putfield 365, 3) := by decide +kernel
theorem dX12_keepOne_114 : decode cX12_keepOne 114 = .ok (.return_, 1) := by decide +kernel
theorem dX12_probe_0 : decode cX12_probe 0 = .ok (.iconst 0, 1) := by decide +kernel
theorem dX12_probe_1 : decode cX12_probe 1 = .ok (.istore 4, 2) := by decide +kernel
theorem dX12_probe_3 : decode cX12_probe 3 = .ok (.iload 4, 2) := by decide +kernel
theorem dX12_probe_5 : decode cX12_probe 5 = .ok (.bipush 8, 2) := by decide +kernel
theorem dX12_probe_7 : decode cX12_probe 7 = .ok (.if_icmp .ge 208, 3) := by decide +kernel
theorem dX12_probe_10 : decode cX12_probe 10 = .ok (.aload_n 0, 1) := by decide +kernel
theorem dX12_probe_11 : decode cX12_probe 11 = .ok (.getfield 368, 3) := by decide +kernel
theorem dX12_probe_14 : decode cX12_probe 14 = .ok (.ifCond .ne 201, 3) := by decide +kernel
theorem dX12_probe_17 : decode cX12_probe 17 = .ok (.aload_n 0, 1) := by decide +kernel
theorem dX12_probe_18 : decode cX12_probe 18 = .ok (.getfield 48, 3) := by decide +kernel
theorem dX12_probe_21 : decode cX12_probe 21 = .ok (.iload 4, 2) := by decide +kernel
theorem dX12_probe_23 : decode cX12_probe 23 = .ok (.iaload, 1) := by decide +kernel
theorem dX12_probe_24 : decode cX12_probe 24 = .ok (.ifCond .le 185, 3) := by decide +kernel
theorem dX12_probe_27 : decode cX12_probe 27 = .ok (.aload_n 0, 1) := by decide +kernel
theorem dX12_probe_28 : decode cX12_probe 28 = .ok (.iload 4, 2) := by decide +kernel
theorem dX12_probe_30 : decode cX12_probe 30 = .ok (.aload_n 0, 1) := by decide +kernel
theorem dX12_probe_31 : decode cX12_probe 31 = .ok (.getfield 82, 3) := by decide +kernel
theorem dX12_probe_34 : decode cX12_probe 34 = .ok (.iload_n 1, 1) := by decide +kernel
theorem dX12_probe_35 : decode cX12_probe 35 = .ok (.iaload, 1) := by decide +kernel
theorem dX12_probe_36 : decode cX12_probe 36 = .ok (.invokevirtual 371, 3) := by decide +kernel
theorem dX12_probe_39 : decode cX12_probe 39 = .ok (.ifCond .eq 170, 3) := by decide +kernel
theorem dX12_probe_42 : decode cX12_probe 42 = .ok (.iconst 0, 1) := by decide +kernel
theorem dX12_probe_43 : decode cX12_probe 43 = .ok (.istore 5, 2) := by decide +kernel
theorem dX12_probe_45 : decode cX12_probe 45 = .ok (.iload 5, 2) := by decide +kernel
theorem dX12_probe_47 : decode cX12_probe 47 = .ok (.iconst 3, 1) := by decide +kernel
theorem dX12_probe_48 : decode cX12_probe 48 = .ok (.if_icmp .ge 27, 3) := by decide +kernel
theorem dX12_probe_51 : decode cX12_probe 51 = .ok (.aload_n 0, 1) := by decide +kernel
theorem dX12_probe_52 : decode cX12_probe 52 = .ok (.getfield 103, 3) := by decide +kernel
theorem dX12_probe_55 : decode cX12_probe 55 = .ok (.iload 5, 2) := by decide +kernel
theorem dX12_probe_57 : decode cX12_probe 57 = .ok (.aload_n 0, 1) := by decide +kernel
theorem dX12_probe_58 : decode cX12_probe 58 = .ok (.getfield 85, 3) := by decide +kernel
theorem dX12_probe_61 : decode cX12_probe 61 = .ok (.iconst 3, 1) := by decide +kernel
theorem dX12_probe_62 : decode cX12_probe 62 = .ok (.iload_n 1, 1) := by decide +kernel
theorem dX12_probe_63 : decode cX12_probe 63 = .ok (.imul, 1) := by decide +kernel
theorem dX12_probe_64 : decode cX12_probe 64 = .ok (.iload 5, 2) := by decide +kernel
theorem dX12_probe_66 : decode cX12_probe 66 = .ok (.iadd, 1) := by decide +kernel
theorem dX12_probe_67 : decode cX12_probe 67 = .ok (.iaload, 1) := by decide +kernel
theorem dX12_probe_68 : decode cX12_probe 68 = .ok (.iastore, 1) := by decide +kernel
theorem dX12_probe_69 : decode cX12_probe 69 = .ok (.iinc 5 1, 3) := by decide +kernel
theorem dX12_probe_72 : decode cX12_probe 72 = .ok (.goto (-27), 3) := by decide +kernel
theorem dX12_probe_75 : decode cX12_probe 75 = .ok (.aload_n 0, 1) := by decide +kernel
theorem dX12_probe_76 : decode cX12_probe 76 = .ok (.getfield 103, 3) := by decide +kernel
theorem dX12_probe_79 : decode cX12_probe 79 = .ok (.iconst 3, 1) := by decide +kernel
theorem dX12_probe_80 : decode cX12_probe 80 = .ok (.iload_n 2, 1) := by decide +kernel
theorem dX12_probe_81 : decode cX12_probe 81 = .ok (.iconst 1, 1) := by decide +kernel
theorem dX12_probe_82 : decode cX12_probe 82 = .ok (.if_icmp .ne 7, 3) := by decide +kernel
theorem dX12_probe_85 : decode cX12_probe 85 = .ok (.iload_n 3, 1) := by decide +kernel
theorem dX12_probe_86 : decode cX12_probe 86 = .ok (.goto 4, 3) := by decide +kernel
theorem dX12_probe_89 : decode cX12_probe 89 = .ok (.iconst 0, 1) := by decide +kernel
theorem dX12_probe_90 : decode cX12_probe 90 = .ok (.iastore, 1) := by decide +kernel
theorem dX12_probe_91 : decode cX12_probe 91 = .ok (.aload_n 0, 1) := by decide +kernel
theorem dX12_probe_92 : decode cX12_probe 92 = .ok (.getfield 103, 3) := by decide +kernel
theorem dX12_probe_95 : decode cX12_probe 95 = .ok (.iconst 4, 1) := by decide +kernel
theorem dX12_probe_96 : decode cX12_probe 96 = .ok (.iload_n 2, 1) := by decide +kernel
theorem dX12_probe_97 : decode cX12_probe 97 = .ok (.iconst 2, 1) := by decide +kernel
theorem dX12_probe_98 : decode cX12_probe 98 = .ok (.if_icmp .ne 7, 3) := by decide +kernel
theorem dX12_probe_101 : decode cX12_probe 101 = .ok (.iload_n 3, 1) := by decide +kernel
theorem dX12_probe_102 : decode cX12_probe 102 = .ok (.goto 4, 3) := by decide +kernel
theorem dX12_probe_105 : decode cX12_probe 105 = .ok (.iconst 0, 1) := by decide +kernel
theorem dX12_probe_106 : decode cX12_probe 106 = .ok (.iastore, 1) := by decide +kernel
theorem dX12_probe_107 : decode cX12_probe 107 = .ok (.aload_n 0, 1) := by decide +kernel
theorem dX12_probe_108 : decode cX12_probe 108 = .ok (.getfield 103, 3) := by decide +kernel
theorem dX12_probe_111 : decode cX12_probe 111 = .ok (.iconst 5, 1) := by decide +kernel
theorem dX12_probe_112 : decode cX12_probe 112 = .ok (.iload_n 1, 1) := by decide +kernel
theorem dX12_probe_113 : decode cX12_probe 113 = .ok (.iastore, 1) := by decide +kernel
theorem dX12_probe_114 : decode cX12_probe 114 = .ok (.aload_n 0, 1) := by decide +kernel
theorem dX12_probe_115 : decode cX12_probe 115 = .ok (.getfield 48, 3) := by decide +kernel
theorem dX12_probe_118 : decode cX12_probe 118 = .ok (.iload 4, 2) := by decide +kernel
theorem dX12_probe_120 : decode cX12_probe 120 = .ok (.iaload, 1) := by decide +kernel
theorem dX12_probe_121 : decode cX12_probe 121 = .ok (.iconst 1, 1) := by decide +kernel
theorem dX12_probe_122 : decode cX12_probe 122 = .ok (.if_icmp .ne 24, 3) := by decide +kernel
theorem dX12_probe_125 : decode cX12_probe 125 = .ok (.aload_n 0, 1) := by decide +kernel
theorem dX12_probe_126 : decode cX12_probe 126 = .ok (.getfield 51, 3) := by decide +kernel
theorem dX12_probe_129 : decode cX12_probe 129 = .ok (.iload 4, 2) := by decide +kernel
theorem dX12_probe_131 : decode cX12_probe 131 = .ok (.iaload, 1) := by decide +kernel
theorem dX12_probe_132 : decode cX12_probe 132 = .ok (.iload_n 2, 1) := by decide +kernel
theorem dX12_probe_133 : decode cX12_probe 133 = .ok (.if_icmp .ne 13, 3) := by decide +kernel
theorem dX12_probe_136 : decode cX12_probe 136 = .ok (.aload_n 0, 1) := by decide +kernel
theorem dX12_probe_137 : decode cX12_probe 137 = .ok (.iload 4, 2) := by decide +kernel
theorem dX12_probe_139 : decode cX12_probe 139 = .ok (.iload_n 1, 1) := by decide +kernel
theorem dX12_probe_140 : decode cX12_probe 140 = .ok (.invokevirtual 374, 3) := by decide +kernel
theorem dX12_probe_143 : decode cX12_probe 143 = .ok (.goto 66, 3) := by decide +kernel
theorem dX12_probe_146 : decode cX12_probe 146 = .ok (.aload_n 0, 1) := by decide +kernel
theorem dX12_probe_147 : decode cX12_probe 147 = .ok (.getfield 48, 3) := by decide +kernel
theorem dX12_probe_150 : decode cX12_probe 150 = .ok (.iload 4, 2) := by decide +kernel
theorem dX12_probe_152 : decode cX12_probe 152 = .ok (.iaload, 1) := by decide +kernel
theorem dX12_probe_153 : decode cX12_probe 153 = .ok (.iconst 2, 1) := by decide +kernel
theorem dX12_probe_154 : decode cX12_probe 154 = .ok (.if_icmp .ne 31, 3) := by decide +kernel
theorem dX12_probe_157 : decode cX12_probe 157 = .ok (.aload_n 0, 1) := by decide +kernel
theorem dX12_probe_158 : decode cX12_probe 158 = .ok (.getfield 73, 3) := by decide +kernel
theorem dX12_probe_161 : decode cX12_probe 161 = .ok (.bipush 48, 2) := by decide +kernel
theorem dX12_probe_163 : decode cX12_probe 163 = .ok (.iload 4, 2) := by decide +kernel
theorem dX12_probe_165 : decode cX12_probe 165 = .ok (.imul, 1) := by decide +kernel
theorem dX12_probe_166 : decode cX12_probe 166 = .ok (.iconst 3, 1) := by decide +kernel
theorem dX12_probe_167 : decode cX12_probe 167 = .ok (.aload_n 0, 1) := by decide +kernel
theorem dX12_probe_168 : decode cX12_probe 168 = .ok (.getfield 82, 3) := by decide +kernel
theorem dX12_probe_171 : decode cX12_probe 171 = .ok (.iload_n 1, 1) := by decide +kernel
theorem dX12_probe_172 : decode cX12_probe 172 = .ok (.iaload, 1) := by decide +kernel
theorem dX12_probe_173 : decode cX12_probe 173 = .ok (.imul, 1) := by decide +kernel
theorem dX12_probe_174 : decode cX12_probe 174 = .ok (.iadd, 1) := by decide +kernel
theorem dX12_probe_175 : decode cX12_probe 175 = .ok (.iload_n 2, 1) := by decide +kernel
theorem dX12_probe_176 : decode cX12_probe 176 = .ok (.iadd, 1) := by decide +kernel
theorem dX12_probe_177 : decode cX12_probe 177 = .ok (.dup2, 1) := by decide +kernel
theorem dX12_probe_178 : decode cX12_probe 178 = .ok (.iaload, 1) := by decide +kernel
theorem dX12_probe_179 : decode cX12_probe 179 = .ok (.iconst 1, 1) := by decide +kernel
theorem dX12_probe_180 : decode cX12_probe 180 = .ok (.iadd, 1) := by decide +kernel
theorem dX12_probe_181 : decode cX12_probe 181 = .ok (.iastore, 1) := by decide +kernel
theorem dX12_probe_182 : decode cX12_probe 182 = .ok (.goto 27, 3) := by decide +kernel
theorem dX12_probe_185 : decode cX12_probe 185 = .ok (.aload_n 0, 1) := by decide +kernel
theorem dX12_probe_186 : decode cX12_probe 186 = .ok (.getfield 48, 3) := by decide +kernel
theorem dX12_probe_189 : decode cX12_probe 189 = .ok (.iload 4, 2) := by decide +kernel
theorem dX12_probe_191 : decode cX12_probe 191 = .ok (.iaload, 1) := by decide +kernel
theorem dX12_probe_192 : decode cX12_probe 192 = .ok (.iconst 3, 1) := by decide +kernel
theorem dX12_probe_193 : decode cX12_probe 193 = .ok (.if_icmp .ne 16, 3) := by decide +kernel
theorem dX12_probe_196 : decode cX12_probe 196 = .ok (.iload_n 2, 1) := by decide +kernel
theorem dX12_probe_197 : decode cX12_probe 197 = .ok (.ifCond .le 12, 3) := by decide +kernel
theorem dX12_probe_200 : decode cX12_probe 200 = .ok (.aload_n 0, 1) := by decide +kernel
theorem dX12_probe_201 : decode cX12_probe 201 = .ok (.iload 4, 2) := by decide +kernel
theorem dX12_probe_203 : decode cX12_probe 203 = .ok (.iload_n 1, 1) := by decide +kernel
theorem dX12_probe_204 : decode cX12_probe 204 = .ok (.iload_n 2, 1) := by decide +kernel
theorem dX12_probe_205 : decode cX12_probe 205 = .ok (.iload_n 3, 1) := by decide +kernel
theorem dX12_probe_206 : decode cX12_probe 206 = .ok (.invokevirtual 377, 3) := by decide +kernel
theorem dX12_probe_209 : decode cX12_probe 209 = .ok (.iinc 4 1, 3) := by decide +kernel
theorem dX12_probe_212 : decode cX12_probe 212 = .ok (.goto (-209), 3) := by decide +kernel
theorem dX12_probe_215 : decode cX12_probe 215 = .ok (.return_, 1) := by decide +kernel
theorem dX12_enter_0 : decode cX12_enter 0 = .ok (.aload_n 0, 1) := by decide +kernel
theorem dX12_enter_1 : decode cX12_enter 1 = .ok (.dup, 1) := by decide +kernel
theorem dX12_enter_2 : decode cX12_enter 2 = .ok (.getfield 381, 3) := by decide +kernel
theorem dX12_enter_5 : decode cX12_enter 5 = .ok (.iconst 1, 1) := by decide +kernel
theorem dX12_enter_6 : decode cX12_enter 6 = .ok (.iadd, 1) := by decide +kernel
theorem dX12_enter_7 : decode cX12_enter 7 = .ok (.putfield 381, 3) := by decide +kernel
theorem dX12_enter_10 : decode cX12_enter 10 = .ok (.aload_n 0, 1) := by decide +kernel
theorem dX12_enter_11 : decode cX12_enter 11 = .ok (.dup, 1) := by decide +kernel
theorem dX12_enter_12 : decode cX12_enter 12 = .ok (.getfield 384, 3) := by decide +kernel
theorem dX12_enter_15 : decode cX12_enter 15 = .ok (.iconst 1, 1) := by decide +kernel
theorem dX12_enter_16 : decode cX12_enter 16 = .ok (.iadd, 1) := by decide +kernel
theorem dX12_enter_17 : decode cX12_enter 17 = .ok (.putfield 384, 3) := by decide +kernel
theorem dX12_enter_20 : decode cX12_enter 20 = .ok (.aload_n 0, 1) := by decide +kernel
theorem dX12_enter_21 : decode cX12_enter 21 = .ok (.getfield 82, 3) := by decide +kernel
theorem dX12_enter_24 : decode cX12_enter 24 = .ok (.aload_n 0, 1) := by decide +kernel
theorem dX12_enter_25 : decode cX12_enter 25 = .ok (.getfield 381, 3) := by decide +kernel
theorem dX12_enter_28 : decode cX12_enter 28 = .ok (.iload_n 1, 1) := by decide +kernel
theorem dX12_enter_29 : decode cX12_enter 29 = .ok (.iastore, 1) := by decide +kernel
theorem dX12_enter_30 : decode cX12_enter 30 = .ok (.aload_n 0, 1) := by decide +kernel
theorem dX12_enter_31 : decode cX12_enter 31 = .ok (.getfield 88, 3) := by decide +kernel
theorem dX12_enter_34 : decode cX12_enter 34 = .ok (.aload_n 0, 1) := by decide +kernel
theorem dX12_enter_35 : decode cX12_enter 35 = .ok (.getfield 381, 3) := by decide +kernel
theorem dX12_enter_38 : decode cX12_enter 38 = .ok (.iconst 0, 1) := by decide +kernel
theorem dX12_enter_39 : decode cX12_enter 39 = .ok (.iastore, 1) := by decide +kernel
theorem dX12_enter_40 : decode cX12_enter 40 = .ok (.aload_n 0, 1) := by decide +kernel
theorem dX12_enter_41 : decode cX12_enter 41 = .ok (.getfield 30, 3) := by decide +kernel
theorem dX12_enter_44 : decode cX12_enter 44 = .ok (.iload_n 1, 1) := by decide +kernel
theorem dX12_enter_45 : decode cX12_enter 45 = .ok (.iaload, 1) := by decide +kernel
theorem dX12_enter_46 : decode cX12_enter 46 = .ok (.istore_n 2, 1) := by decide +kernel
theorem dX12_enter_47 : decode cX12_enter 47 = .ok (.iload_n 2, 1) := by decide +kernel
theorem dX12_enter_48 : decode cX12_enter 48 = .ok (.iconst 3, 1) := by decide +kernel
theorem dX12_enter_49 : decode cX12_enter 49 = .ok (.if_icmp .ge 23, 3) := by decide +kernel
theorem dX12_enter_52 : decode cX12_enter 52 = .ok (.aload_n 0, 1) := by decide +kernel
theorem dX12_enter_53 : decode cX12_enter 53 = .ok (.getfield 85, 3) := by decide +kernel
theorem dX12_enter_56 : decode cX12_enter 56 = .ok (.iconst 3, 1) := by decide +kernel
theorem dX12_enter_57 : decode cX12_enter 57 = .ok (.aload_n 0, 1) := by decide +kernel
theorem dX12_enter_58 : decode cX12_enter 58 = .ok (.getfield 381, 3) := by decide +kernel
theorem dX12_enter_61 : decode cX12_enter 61 = .ok (.imul, 1) := by decide +kernel
theorem dX12_enter_62 : decode cX12_enter 62 = .ok (.iload_n 2, 1) := by decide +kernel
theorem dX12_enter_63 : decode cX12_enter 63 = .ok (.iadd, 1) := by decide +kernel
theorem dX12_enter_64 : decode cX12_enter 64 = .ok (.iconst 0, 1) := by decide +kernel
theorem dX12_enter_65 : decode cX12_enter 65 = .ok (.iastore, 1) := by decide +kernel
theorem dX12_enter_66 : decode cX12_enter 66 = .ok (.iinc 2 1, 3) := by decide +kernel
theorem dX12_enter_69 : decode cX12_enter 69 = .ok (.goto (-22), 3) := by decide +kernel
theorem dX12_enter_72 : decode cX12_enter 72 = .ok (.aload_n 0, 1) := by decide +kernel
theorem dX12_enter_73 : decode cX12_enter 73 = .ok (.aload_n 0, 1) := by decide +kernel
theorem dX12_enter_74 : decode cX12_enter 74 = .ok (.getfield 381, 3) := by decide +kernel
theorem dX12_enter_77 : decode cX12_enter 77 = .ok (.iconst 0, 1) := by decide +kernel
theorem dX12_enter_78 : decode cX12_enter 78 = .ok (.iconst 0, 1) := by decide +kernel
theorem dX12_enter_79 : decode cX12_enter 79 = .ok (.invokevirtual 387, 3) := by decide +kernel
theorem dX12_enter_82 : decode cX12_enter 82 = .ok (.return_, 1) := by decide +kernel
theorem dX12_throwAll_0 : decode cX12_throwAll 0 = .ok (.aload_n 0, 1) := by decide +kernel
theorem dX12_throwAll_1 : decode cX12_throwAll 1 = .ok (.getfield 381, 3) := by decide +kernel
theorem dX12_throwAll_4 : decode cX12_throwAll 4 = .ok (.ifCond .le 26, 3) := by decide +kernel
theorem dX12_throwAll_7 : decode cX12_throwAll 7 = .ok (.aload_n 0, 1) := by decide +kernel
theorem dX12_throwAll_8 : decode cX12_throwAll 8 = .ok (.aload_n 0, 1) := by decide +kernel
theorem dX12_throwAll_9 : decode cX12_throwAll 9 = .ok (.getfield 381, 3) := by decide +kernel
theorem dX12_throwAll_12 : decode cX12_throwAll 12 = .ok (.iconst 2, 1) := by decide +kernel
theorem dX12_throwAll_13 : decode cX12_throwAll 13 = .ok (.iload_n 1, 1) := by decide +kernel
theorem dX12_throwAll_14 : decode cX12_throwAll 14 = .ok (.invokevirtual 387, 3) := by decide +kernel
theorem dX12_throwAll_17 : decode cX12_throwAll 17 = .ok (.aload_n 0, 1) := by decide +kernel
theorem dX12_throwAll_18 : decode cX12_throwAll 18 = .ok (.dup, 1) := by decide +kernel
theorem dX12_throwAll_19 : decode cX12_throwAll 19 = .ok (.getfield 381, 3) := by decide +kernel
theorem dX12_throwAll_22 : decode cX12_throwAll 22 = .ok (.iconst 1, 1) := by decide +kernel
theorem dX12_throwAll_23 : decode cX12_throwAll 23 = .ok (.isub, 1) := by decide +kernel
theorem dX12_throwAll_24 : decode cX12_throwAll 24 = .ok (.putfield 381, 3) := by decide +kernel
theorem dX12_throwAll_27 : decode cX12_throwAll 27 = .ok (.goto (-27), 3) := by decide +kernel
theorem dX12_throwAll_30 : decode cX12_throwAll 30 = .ok (.aload_n 0, 1) := by decide +kernel
theorem dX12_throwAll_31 : decode cX12_throwAll 31 = .ok (.iconst 1, 1) := by decide +kernel
theorem dX12_throwAll_32 : decode cX12_throwAll 32 = .ok (.putfield 390, 3) := by decide +kernel
theorem dX12_throwAll_35 : decode cX12_throwAll 35 = .ok (.aload_n 0, 1) := by decide +kernel
theorem dX12_throwAll_36 : decode cX12_throwAll 36 = .ok (.iload_n 1, 1) := by decide +kernel
theorem dX12_throwAll_37 : decode cX12_throwAll 37 = .ok (.putfield 393, 3) := by decide +kernel
theorem dX12_throwAll_40 : decode cX12_throwAll 40 = .ok (.return_, 1) := by decide +kernel
theorem dX12_throwUp_0 : decode cX12_throwUp 0 = .ok (.aload_n 0, 1) := by decide +kernel
theorem dX12_throwUp_1 : decode cX12_throwUp 1 = .ok (.getfield 381, 3) := by decide +kernel
theorem dX12_throwUp_4 : decode cX12_throwUp 4 = .ok (.ifCond .le 93, 3) := by decide +kernel
theorem dX12_throwUp_7 : decode cX12_throwUp 7 = .ok (.aload_n 0, 1) := by decide +kernel
theorem dX12_throwUp_8 : decode cX12_throwUp 8 = .ok (.getfield 396, 3) := by decide +kernel
theorem dX12_throwUp_11 : decode cX12_throwUp 11 = .ok (.ifCond .le 63, 3) := by decide +kernel
theorem dX12_throwUp_14 : decode cX12_throwUp 14 = .ok (.aload_n 0, 1) := by decide +kernel
theorem dX12_throwUp_15 : decode cX12_throwUp 15 = .ok (.getfield 100, 3) := by decide +kernel
theorem dX12_throwUp_18 : decode cX12_throwUp 18 = .ok (.aload_n 0, 1) := by decide +kernel
theorem dX12_throwUp_19 : decode cX12_throwUp 19 = .ok (.getfield 396, 3) := by decide +kernel
theorem dX12_throwUp_22 : decode cX12_throwUp 22 = .ok (.iconst 1, 1) := by decide +kernel
theorem dX12_throwUp_23 : decode cX12_throwUp 23 = .ok (.isub, 1) := by decide +kernel
theorem dX12_throwUp_24 : decode cX12_throwUp 24 = .ok (.iaload, 1) := by decide +kernel
theorem dX12_throwUp_25 : decode cX12_throwUp 25 = .ok (.aload_n 0, 1) := by decide +kernel
theorem dX12_throwUp_26 : decode cX12_throwUp 26 = .ok (.getfield 381, 3) := by decide +kernel
theorem dX12_throwUp_29 : decode cX12_throwUp 29 = .ok (.if_icmp .ne 45, 3) := by decide +kernel
theorem dX12_throwUp_32 : decode cX12_throwUp 32 = .ok (.aload_n 0, 1) := by decide +kernel
theorem dX12_throwUp_33 : decode cX12_throwUp 33 = .ok (.dup, 1) := by decide +kernel
theorem dX12_throwUp_34 : decode cX12_throwUp 34 = .ok (.getfield 396, 3) := by decide +kernel
theorem dX12_throwUp_37 : decode cX12_throwUp 37 = .ok (.iconst 1, 1) := by decide +kernel
theorem dX12_throwUp_38 : decode cX12_throwUp 38 = .ok (.isub, 1) := by decide +kernel
theorem dX12_throwUp_39 : decode cX12_throwUp 39 = .ok (.putfield 396, 3) := by decide +kernel
theorem dX12_throwUp_42 : decode cX12_throwUp 42 = .ok (.aload_n 0, 1) := by decide +kernel
theorem dX12_throwUp_43 : decode cX12_throwUp 43 = .ok (.aload_n 0, 1) := by decide +kernel
theorem dX12_throwUp_44 : decode cX12_throwUp 44 = .ok (.getfield 97, 3) := by decide +kernel
theorem dX12_throwUp_47 : decode cX12_throwUp 47 = .ok (.aload_n 0, 1) := by decide +kernel
theorem dX12_throwUp_48 : decode cX12_throwUp 48 = .ok (.getfield 396, 3) := by decide +kernel
theorem dX12_throwUp_51 : decode cX12_throwUp 51 = .ok (.iaload, 1) := by decide +kernel
theorem dX12_throwUp_52 : decode cX12_throwUp 52 = .ok (.putfield 399, 3) := by decide +kernel
theorem dX12_throwUp_55 : decode cX12_throwUp 55 = .ok (.aload_n 0, 1) := by decide +kernel
theorem dX12_throwUp_56 : decode cX12_throwUp 56 = .ok (.getfield 88, 3) := by decide +kernel
theorem dX12_throwUp_59 : decode cX12_throwUp 59 = .ok (.aload_n 0, 1) := by decide +kernel
theorem dX12_throwUp_60 : decode cX12_throwUp 60 = .ok (.getfield 381, 3) := by decide +kernel
theorem dX12_throwUp_63 : decode cX12_throwUp 63 = .ok (.aload_n 0, 1) := by decide +kernel
theorem dX12_throwUp_64 : decode cX12_throwUp 64 = .ok (.getfield 94, 3) := by decide +kernel
theorem dX12_throwUp_67 : decode cX12_throwUp 67 = .ok (.aload_n 0, 1) := by decide +kernel
theorem dX12_throwUp_68 : decode cX12_throwUp 68 = .ok (.getfield 396, 3) := by decide +kernel
theorem dX12_throwUp_71 : decode cX12_throwUp 71 = .ok (.iaload, 1) := by decide +kernel
theorem dX12_throwUp_72 : decode cX12_throwUp 72 = .ok (.iastore, 1) := by decide +kernel
theorem dX12_throwUp_73 : decode cX12_throwUp 73 = .ok (.return_, 1) := by decide +kernel
theorem dX12_throwUp_74 : decode cX12_throwUp 74 = .ok (.aload_n 0, 1) := by decide +kernel
theorem dX12_throwUp_75 : decode cX12_throwUp 75 = .ok (.aload_n 0, 1) := by decide +kernel
theorem dX12_throwUp_76 : decode cX12_throwUp 76 = .ok (.getfield 381, 3) := by decide +kernel
theorem dX12_throwUp_79 : decode cX12_throwUp 79 = .ok (.iconst 2, 1) := by decide +kernel
theorem dX12_throwUp_80 : decode cX12_throwUp 80 = .ok (.iload_n 1, 1) := by decide +kernel
theorem dX12_throwUp_81 : decode cX12_throwUp 81 = .ok (.invokevirtual 387, 3) := by decide +kernel
theorem dX12_throwUp_84 : decode cX12_throwUp 84 = .ok (.aload_n 0, 1) := by decide +kernel
theorem dX12_throwUp_85 : decode cX12_throwUp 85 = .ok (.dup, 1) := by decide +kernel
theorem dX12_throwUp_86 : decode cX12_throwUp 86 = .ok (.getfield 381, 3) := by decide +kernel
theorem dX12_throwUp_89 : decode cX12_throwUp 89 = .ok (.iconst 1, 1) := by decide +kernel
theorem dX12_throwUp_90 : decode cX12_throwUp 90 = .ok (.isub, 1) := by decide +kernel
theorem dX12_throwUp_91 : decode cX12_throwUp 91 = .ok (.putfield 381, 3) := by decide +kernel
theorem dX12_throwUp_94 : decode cX12_throwUp 94 = .ok (.goto (-94), 3) := by decide +kernel
theorem dX12_throwUp_97 : decode cX12_throwUp 97 = .ok (.aload_n 0, 1) := by decide +kernel
theorem dX12_throwUp_98 : decode cX12_throwUp 98 = .ok (.iconst 1, 1) := by decide +kernel
theorem dX12_throwUp_99 : decode cX12_throwUp 99 = .ok (.putfield 390, 3) := by decide +kernel
theorem dX12_throwUp_102 : decode cX12_throwUp 102 = .ok (.aload_n 0, 1) := by decide +kernel
theorem dX12_throwUp_103 : decode cX12_throwUp 103 = .ok (.iload_n 1, 1) := by decide +kernel
theorem dX12_throwUp_104 : decode cX12_throwUp 104 = .ok (.putfield 393, 3) := by decide +kernel
theorem dX12_throwUp_107 : decode cX12_throwUp 107 = .ok (.return_, 1) := by decide +kernel
theorem dX12_push_0 : decode cX12_push 0 = .ok (.aload_n 0, 1) := by decide +kernel
theorem dX12_push_1 : decode cX12_push 1 = .ok (.getfield 91, 3) := by decide +kernel
theorem dX12_push_4 : decode cX12_push 4 = .ok (.aload_n 0, 1) := by decide +kernel
theorem dX12_push_5 : decode cX12_push 5 = .ok (.getfield 399, 3) := by decide +kernel
theorem dX12_push_8 : decode cX12_push 8 = .ok (.iload_n 1, 1) := by decide +kernel
theorem dX12_push_9 : decode cX12_push 9 = .ok (.iastore, 1) := by decide +kernel
theorem dX12_push_10 : decode cX12_push 10 = .ok (.aload_n 0, 1) := by decide +kernel
theorem dX12_push_11 : decode cX12_push 11 = .ok (.dup, 1) := by decide +kernel
theorem dX12_push_12 : decode cX12_push 12 = .ok (.getfield 399, 3) := by decide +kernel
theorem dX12_push_15 : decode cX12_push 15 = .ok (.iconst 1, 1) := by decide +kernel
theorem dX12_push_16 : decode cX12_push 16 = .ok (.iadd, 1) := by decide +kernel
theorem dX12_push_17 : decode cX12_push 17 = .ok (.putfield 399, 3) := by decide +kernel
theorem dX12_push_20 : decode cX12_push 20 = .ok (.return_, 1) := by decide +kernel
theorem dX12_leave_0 : decode cX12_leave 0 = .ok (.aload_n 0, 1) := by decide +kernel
theorem dX12_leave_1 : decode cX12_leave 1 = .ok (.getfield 91, 3) := by decide +kernel
theorem dX12_leave_4 : decode cX12_leave 4 = .ok (.aload_n 0, 1) := by decide +kernel
theorem dX12_leave_5 : decode cX12_leave 5 = .ok (.getfield 399, 3) := by decide +kernel
theorem dX12_leave_8 : decode cX12_leave 8 = .ok (.iconst 1, 1) := by decide +kernel
theorem dX12_leave_9 : decode cX12_leave 9 = .ok (.isub, 1) := by decide +kernel
theorem dX12_leave_10 : decode cX12_leave 10 = .ok (.iaload, 1) := by decide +kernel
theorem dX12_leave_11 : decode cX12_leave 11 = .ok (.istore_n 1, 1) := by decide +kernel
theorem dX12_leave_12 : decode cX12_leave 12 = .ok (.aload_n 0, 1) := by decide +kernel
theorem dX12_leave_13 : decode cX12_leave 13 = .ok (.dup, 1) := by decide +kernel
theorem dX12_leave_14 : decode cX12_leave 14 = .ok (.getfield 399, 3) := by decide +kernel
theorem dX12_leave_17 : decode cX12_leave 17 = .ok (.iconst 1, 1) := by decide +kernel
theorem dX12_leave_18 : decode cX12_leave 18 = .ok (.isub, 1) := by decide +kernel
theorem dX12_leave_19 : decode cX12_leave 19 = .ok (.putfield 399, 3) := by decide +kernel
theorem dX12_leave_22 : decode cX12_leave 22 = .ok (.aload_n 0, 1) := by decide +kernel
theorem dX12_leave_23 : decode cX12_leave 23 = .ok (.aload_n 0, 1) := by decide +kernel
theorem dX12_leave_24 : decode cX12_leave 24 = .ok (.getfield 381, 3) := by decide +kernel
theorem dX12_leave_27 : decode cX12_leave 27 = .ok (.iconst 1, 1) := by decide +kernel
theorem dX12_leave_28 : decode cX12_leave 28 = .ok (.iload_n 1, 1) := by decide +kernel
theorem dX12_leave_29 : decode cX12_leave 29 = .ok (.invokevirtual 387, 3) := by decide +kernel
theorem dX12_leave_32 : decode cX12_leave 32 = .ok (.aload_n 0, 1) := by decide +kernel
theorem dX12_leave_33 : decode cX12_leave 33 = .ok (.dup, 1) := by decide +kernel
theorem dX12_leave_34 : decode cX12_leave 34 = .ok (.getfield 381, 3) := by decide +kernel
theorem dX12_leave_37 : decode cX12_leave 37 = .ok (.iconst 1, 1) := by decide +kernel
theorem dX12_leave_38 : decode cX12_leave 38 = .ok (.isub, 1) := by decide +kernel
theorem dX12_leave_39 : decode cX12_leave 39 = .ok (.putfield 381, 3) := by decide +kernel
theorem dX12_leave_42 : decode cX12_leave 42 = .ok (.aload_n 0, 1) := by decide +kernel
theorem dX12_leave_43 : decode cX12_leave 43 = .ok (.getfield 381, 3) := by decide +kernel
theorem dX12_leave_46 : decode cX12_leave 46 = .ok (.ifCond .ne 16, 3) := by decide +kernel
theorem dX12_leave_49 : decode cX12_leave 49 = .ok (.aload_n 0, 1) := by decide +kernel
theorem dX12_leave_50 : decode cX12_leave 50 = .ok (.iconst 0, 1) := by decide +kernel
theorem dX12_leave_51 : decode cX12_leave 51 = .ok (.putfield 390, 3) := by decide +kernel
theorem dX12_leave_54 : decode cX12_leave 54 = .ok (.aload_n 0, 1) := by decide +kernel
theorem dX12_leave_55 : decode cX12_leave 55 = .ok (.iload_n 1, 1) := by decide +kernel
theorem dX12_leave_56 : decode cX12_leave 56 = .ok (.putfield 393, 3) := by decide +kernel
theorem dX12_leave_59 : decode cX12_leave 59 = .ok (.goto 8, 3) := by decide +kernel
theorem dX12_leave_62 : decode cX12_leave 62 = .ok (.aload_n 0, 1) := by decide +kernel
theorem dX12_leave_63 : decode cX12_leave 63 = .ok (.iload_n 1, 1) := by decide +kernel
theorem dX12_leave_64 : decode cX12_leave 64 = .ok (.invokevirtual 402, 3) := by decide +kernel
theorem dX12_leave_67 : decode cX12_leave 67 = .ok (.return_, 1) := by decide +kernel
theorem dX12_invoke_0 : decode cX12_invoke 0 = .ok (.lload_n 1, 1) := by decide +kernel
theorem dX12_invoke_1 : decode cX12_invoke 1 = .ok (.ldc2_w 405, 3) := by decide +kernel
theorem dX12_invoke_4 : decode cX12_invoke 4 = .ok (.land, 1) := by decide +kernel
theorem dX12_invoke_5 : decode cX12_invoke 5 = .ok (.l2i, 1) := by decide +kernel
theorem dX12_invoke_6 : decode cX12_invoke 6 = .ok (.istore_n 3, 1) := by decide +kernel
theorem dX12_invoke_7 : decode cX12_invoke 7 = .ok (.aload_n 0, 1) := by decide +kernel
theorem dX12_invoke_8 : decode cX12_invoke 8 = .ok (.aload_n 0, 1) := by decide +kernel
theorem dX12_invoke_9 : decode cX12_invoke 9 = .ok (.getfield 399, 3) := by decide +kernel
theorem dX12_invoke_12 : decode cX12_invoke 12 = .ok (.iload_n 3, 1) := by decide +kernel
theorem dX12_invoke_13 : decode cX12_invoke 13 = .ok (.isub, 1) := by decide +kernel
theorem dX12_invoke_14 : decode cX12_invoke 14 = .ok (.putfield 399, 3) := by decide +kernel
theorem dX12_invoke_17 : decode cX12_invoke 17 = .ok (.aload_n 0, 1) := by decide +kernel
theorem dX12_invoke_18 : decode cX12_invoke 18 = .ok (.lload_n 1, 1) := by decide +kernel
theorem dX12_invoke_19 : decode cX12_invoke 19 = .ok (.iconst 2, 1) := by decide +kernel
theorem dX12_invoke_20 : decode cX12_invoke 20 = .ok (.lshr, 1) := by decide +kernel
theorem dX12_invoke_21 : decode cX12_invoke 21 = .ok (.iload_n 3, 1) := by decide +kernel
theorem dX12_invoke_22 : decode cX12_invoke 22 = .ok (.invokevirtual 272, 3) := by decide +kernel
theorem dX12_invoke_25 : decode cX12_invoke 25 = .ok (.istore 4, 2) := by decide +kernel
theorem dX12_invoke_27 : decode cX12_invoke 27 = .ok (.iload 4, 2) := by decide +kernel
theorem dX12_invoke_29 : decode cX12_invoke 29 = .ok (.ifCond .ge 12, 3) := by decide +kernel
theorem dX12_invoke_32 : decode cX12_invoke 32 = .ok (.aload_n 0, 1) := by decide +kernel
theorem dX12_invoke_33 : decode cX12_invoke 33 = .ok (.bipush (-4), 2) := by decide +kernel
theorem dX12_invoke_35 : decode cX12_invoke 35 = .ok (.invokevirtual 407, 3) := by decide +kernel
theorem dX12_invoke_38 : decode cX12_invoke 38 = .ok (.goto 89, 3) := by decide +kernel
theorem dX12_invoke_41 : decode cX12_invoke 41 = .ok (.aload_n 0, 1) := by decide +kernel
theorem dX12_invoke_42 : decode cX12_invoke 42 = .ok (.getfield 381, 3) := by decide +kernel
theorem dX12_invoke_45 : decode cX12_invoke 45 = .ok (.bipush 10, 2) := by decide +kernel
theorem dX12_invoke_47 : decode cX12_invoke 47 = .ok (.if_icmp .ne 12, 3) := by decide +kernel
theorem dX12_invoke_50 : decode cX12_invoke 50 = .ok (.aload_n 0, 1) := by decide +kernel
theorem dX12_invoke_51 : decode cX12_invoke 51 = .ok (.bipush (-2), 2) := by decide +kernel
theorem dX12_invoke_53 : decode cX12_invoke 53 = .ok (.invokevirtual 407, 3) := by decide +kernel
theorem dX12_invoke_56 : decode cX12_invoke 56 = .ok (.goto 71, 3) := by decide +kernel
theorem dX12_invoke_59 : decode cX12_invoke 59 = .ok (.aload_n 0, 1) := by decide +kernel
theorem dX12_invoke_60 : decode cX12_invoke 60 = .ok (.getfield 384, 3) := by decide +kernel
theorem dX12_invoke_63 : decode cX12_invoke 63 = .ok (.sipush 1000, 3) := by decide +kernel
theorem dX12_invoke_66 : decode cX12_invoke 66 = .ok (.if_icmp .ne 12, 3) := by decide +kernel
theorem dX12_invoke_69 : decode cX12_invoke 69 = .ok (.aload_n 0, 1) := by decide +kernel
theorem dX12_invoke_70 : decode cX12_invoke 70 = .ok (.bipush (-3), 2) := by decide +kernel
theorem dX12_invoke_72 : decode cX12_invoke 72 = .ok (.invokevirtual 410, 3) := by decide +kernel
theorem dX12_invoke_75 : decode cX12_invoke 75 = .ok (.goto 52, 3) := by decide +kernel
theorem dX12_invoke_78 : decode cX12_invoke 78 = .ok (.iconst 0, 1) := by decide +kernel
theorem dX12_invoke_79 : decode cX12_invoke 79 = .ok (.istore 5, 2) := by decide +kernel
theorem dX12_invoke_81 : decode cX12_invoke 81 = .ok (.iload 5, 2) := by decide +kernel
theorem dX12_invoke_83 : decode cX12_invoke 83 = .ok (.iload_n 3, 1) := by decide +kernel
theorem dX12_invoke_84 : decode cX12_invoke 84 = .ok (.if_icmp .ge 37, 3) := by decide +kernel
theorem dX12_invoke_87 : decode cX12_invoke 87 = .ok (.aload_n 0, 1) := by decide +kernel
theorem dX12_invoke_88 : decode cX12_invoke 88 = .ok (.getfield 85, 3) := by decide +kernel
theorem dX12_invoke_91 : decode cX12_invoke 91 = .ok (.iconst 3, 1) := by decide +kernel
theorem dX12_invoke_92 : decode cX12_invoke 92 = .ok (.aload_n 0, 1) := by decide +kernel
theorem dX12_invoke_93 : decode cX12_invoke 93 = .ok (.getfield 381, 3) := by decide +kernel
theorem dX12_invoke_96 : decode cX12_invoke 96 = .ok (.imul, 1) := by decide +kernel
theorem dX12_invoke_97 : decode cX12_invoke 97 = .ok (.iconst 3, 1) := by decide +kernel
theorem dX12_invoke_98 : decode cX12_invoke 98 = .ok (.iadd, 1) := by decide +kernel
theorem dX12_invoke_99 : decode cX12_invoke 99 = .ok (.iload 5, 2) := by decide +kernel
theorem dX12_invoke_101 : decode cX12_invoke 101 = .ok (.iadd, 1) := by decide +kernel
theorem dX12_invoke_102 : decode cX12_invoke 102 = .ok (.aload_n 0, 1) := by decide +kernel
theorem dX12_invoke_103 : decode cX12_invoke 103 = .ok (.getfield 91, 3) := by decide +kernel
theorem dX12_invoke_106 : decode cX12_invoke 106 = .ok (.aload_n 0, 1) := by decide +kernel
theorem dX12_invoke_107 : decode cX12_invoke 107 = .ok (.getfield 399, 3) := by decide +kernel
theorem dX12_invoke_110 : decode cX12_invoke 110 = .ok (.iload 5, 2) := by decide +kernel
theorem dX12_invoke_112 : decode cX12_invoke 112 = .ok (.iadd, 1) := by decide +kernel
theorem dX12_invoke_113 : decode cX12_invoke 113 = .ok (.iaload, 1) := by decide +kernel
theorem dX12_invoke_114 : decode cX12_invoke 114 = .ok (.iastore, 1) := by decide +kernel
theorem dX12_invoke_115 : decode cX12_invoke 115 = .ok (.iinc 5 1, 3) := by decide +kernel
theorem dX12_invoke_118 : decode cX12_invoke 118 = .ok (.goto (-37), 3) := by decide +kernel
theorem dX12_invoke_121 : decode cX12_invoke 121 = .ok (.aload_n 0, 1) := by decide +kernel
theorem dX12_invoke_122 : decode cX12_invoke 122 = .ok (.iload 4, 2) := by decide +kernel
theorem dX12_invoke_124 : decode cX12_invoke 124 = .ok (.invokevirtual 413, 3) := by decide +kernel
theorem dX12_invoke_127 : decode cX12_invoke 127 = .ok (.return_, 1) := by decide +kernel
theorem dX12_step_0 : decode cX12_step 0 = .ok (.aload_n 0, 1) := by decide +kernel
theorem dX12_step_1 : decode cX12_step 1 = .ok (.getfield 82, 3) := by decide +kernel
theorem dX12_step_4 : decode cX12_step 4 = .ok (.aload_n 0, 1) := by decide +kernel
theorem dX12_step_5 : decode cX12_step 5 = .ok (.getfield 381, 3) := by decide +kernel
theorem dX12_step_8 : decode cX12_step 8 = .ok (.iaload, 1) := by decide +kernel
theorem dX12_step_9 : decode cX12_step 9 = .ok (.istore_n 1, 1) := by decide +kernel
theorem dX12_step_10 : decode cX12_step 10 = .ok (.aload_n 0, 1) := by decide +kernel
theorem dX12_step_11 : decode cX12_step 11 = .ok (.getfield 88, 3) := by decide +kernel
theorem dX12_step_14 : decode cX12_step 14 = .ok (.aload_n 0, 1) := by decide +kernel
theorem dX12_step_15 : decode cX12_step 15 = .ok (.getfield 381, 3) := by decide +kernel
theorem dX12_step_18 : decode cX12_step 18 = .ok (.iaload, 1) := by decide +kernel
theorem dX12_step_19 : decode cX12_step 19 = .ok (.istore_n 2, 1) := by decide +kernel
theorem dX12_step_20 : decode cX12_step 20 = .ok (.iload_n 2, 1) := by decide +kernel
theorem dX12_step_21 : decode cX12_step 21 = .ok (.aload_n 0, 1) := by decide +kernel
theorem dX12_step_22 : decode cX12_step 22 = .ok (.getfield 24, 3) := by decide +kernel
theorem dX12_step_25 : decode cX12_step 25 = .ok (.iload_n 1, 1) := by decide +kernel
theorem dX12_step_26 : decode cX12_step 26 = .ok (.iaload, 1) := by decide +kernel
theorem dX12_step_27 : decode cX12_step 27 = .ok (.if_icmp .ne 8, 3) := by decide +kernel
theorem dX12_step_30 : decode cX12_step 30 = .ok (.aload_n 0, 1) := by decide +kernel
theorem dX12_step_31 : decode cX12_step 31 = .ok (.invokevirtual 416, 3) := by decide +kernel
theorem dX12_step_34 : decode cX12_step 34 = .ok (.return_, 1) := by decide +kernel
theorem dX12_step_35 : decode cX12_step 35 = .ok (.aload_n 0, 1) := by decide +kernel
theorem dX12_step_36 : decode cX12_step 36 = .ok (.getfield 17, 3) := by decide +kernel
theorem dX12_step_39 : decode cX12_step 39 = .ok (.iload_n 1, 1) := by decide +kernel
theorem dX12_step_40 : decode cX12_step 40 = .ok (.invokestatic 141, 3) := by decide +kernel
theorem dX12_step_43 : decode cX12_step 43 = .ok (.iload_n 2, 1) := by decide +kernel
theorem dX12_step_44 : decode cX12_step 44 = .ok (.iadd, 1) := by decide +kernel
theorem dX12_step_45 : decode cX12_step 45 = .ok (.iaload, 1) := by decide +kernel
theorem dX12_step_46 : decode cX12_step 46 = .ok (.istore_n 3, 1) := by decide +kernel
theorem dX12_step_47 : decode cX12_step 47 = .ok (.aload_n 0, 1) := by decide +kernel
theorem dX12_step_48 : decode cX12_step 48 = .ok (.getfield 20, 3) := by decide +kernel
theorem dX12_step_51 : decode cX12_step 51 = .ok (.iload_n 1, 1) := by decide +kernel
theorem dX12_step_52 : decode cX12_step 52 = .ok (.invokestatic 141, 3) := by decide +kernel
theorem dX12_step_55 : decode cX12_step 55 = .ok (.iload_n 2, 1) := by decide +kernel
theorem dX12_step_56 : decode cX12_step 56 = .ok (.iadd, 1) := by decide +kernel
theorem dX12_step_57 : decode cX12_step 57 = .ok (.laload, 1) := by decide +kernel
theorem dX12_step_58 : decode cX12_step 58 = .ok (.lstore 4, 2) := by decide +kernel
theorem dX12_step_60 : decode cX12_step 60 = .ok (.lload 4, 2) := by decide +kernel
theorem dX12_step_62 : decode cX12_step 62 = .ok (.l2i, 1) := by decide +kernel
theorem dX12_step_63 : decode cX12_step 63 = .ok (.istore 6, 2) := by decide +kernel
theorem dX12_step_65 : decode cX12_step 65 = .ok (.aload_n 0, 1) := by decide +kernel
theorem dX12_step_66 : decode cX12_step 66 = .ok (.getfield 88, 3) := by decide +kernel
theorem dX12_step_69 : decode cX12_step 69 = .ok (.aload_n 0, 1) := by decide +kernel
theorem dX12_step_70 : decode cX12_step 70 = .ok (.getfield 381, 3) := by decide +kernel
theorem dX12_step_73 : decode cX12_step 73 = .ok (.iload_n 2, 1) := by decide +kernel
theorem dX12_step_74 : decode cX12_step 74 = .ok (.iconst 1, 1) := by decide +kernel
theorem dX12_step_75 : decode cX12_step 75 = .ok (.iadd, 1) := by decide +kernel
theorem dX12_step_76 : decode cX12_step 76 = .ok (.iastore, 1) := by decide +kernel
theorem dX12_step_77 : decode cX12_step 77 = .ok (.iload_n 3, 1) := by decide +kernel
theorem dX12_step_78 : decode cX12_step 78 = .ok (.ifCond .ne 12, 3) := by decide +kernel
theorem dX12_step_81 : decode cX12_step 81 = .ok (.aload_n 0, 1) := by decide +kernel
theorem dX12_step_82 : decode cX12_step 82 = .ok (.iload 6, 2) := by decide +kernel
theorem dX12_step_84 : decode cX12_step 84 = .ok (.invokevirtual 402, 3) := by decide +kernel
theorem dX12_step_87 : decode cX12_step 87 = .ok (.goto 358, 3) := by decide +kernel
theorem dX12_step_90 : decode cX12_step 90 = .ok (.iload_n 3, 1) := by decide +kernel
theorem dX12_step_91 : decode cX12_step 91 = .ok (.iconst 1, 1) := by decide +kernel
theorem dX12_step_92 : decode cX12_step 92 = .ok (.if_icmp .ne 24, 3) := by decide +kernel
theorem dX12_step_95 : decode cX12_step 95 = .ok (.aload_n 0, 1) := by decide +kernel
theorem dX12_step_96 : decode cX12_step 96 = .ok (.aload_n 0, 1) := by decide +kernel
theorem dX12_step_97 : decode cX12_step 97 = .ok (.getfield 85, 3) := by decide +kernel
theorem dX12_step_100 : decode cX12_step 100 = .ok (.iconst 3, 1) := by decide +kernel
theorem dX12_step_101 : decode cX12_step 101 = .ok (.aload_n 0, 1) := by decide +kernel
theorem dX12_step_102 : decode cX12_step 102 = .ok (.getfield 381, 3) := by decide +kernel
theorem dX12_step_105 : decode cX12_step 105 = .ok (.imul, 1) := by decide +kernel
theorem dX12_step_106 : decode cX12_step 106 = .ok (.iload 6, 2) := by decide +kernel
theorem dX12_step_108 : decode cX12_step 108 = .ok (.iadd, 1) := by decide +kernel
theorem dX12_step_109 : decode cX12_step 109 = .ok (.iaload, 1) := by decide +kernel
theorem dX12_step_110 : decode cX12_step 110 = .ok (.invokevirtual 402, 3) := by decide +kernel
theorem dX12_step_113 : decode cX12_step 113 = .ok (.goto 332, 3) := by decide +kernel
theorem dX12_step_116 : decode cX12_step 116 = .ok (.iload_n 3, 1) := by decide +kernel
theorem dX12_step_117 : decode cX12_step 117 = .ok (.iconst 3, 1) := by decide +kernel
theorem dX12_step_118 : decode cX12_step 118 = .ok (.if_icmp .ne 29, 3) := by decide +kernel
theorem dX12_step_121 : decode cX12_step 121 = .ok (.aload_n 0, 1) := by decide +kernel
theorem dX12_step_122 : decode cX12_step 122 = .ok (.getfield 91, 3) := by decide +kernel
theorem dX12_step_125 : decode cX12_step 125 = .ok (.aload_n 0, 1) := by decide +kernel
theorem dX12_step_126 : decode cX12_step 126 = .ok (.getfield 399, 3) := by decide +kernel
theorem dX12_step_129 : decode cX12_step 129 = .ok (.iconst 1, 1) := by decide +kernel
theorem dX12_step_130 : decode cX12_step 130 = .ok (.isub, 1) := by decide +kernel
theorem dX12_step_131 : decode cX12_step 131 = .ok (.aload_n 0, 1) := by decide +kernel
theorem dX12_step_132 : decode cX12_step 132 = .ok (.getfield 91, 3) := by decide +kernel
theorem dX12_step_135 : decode cX12_step 135 = .ok (.aload_n 0, 1) := by decide +kernel
theorem dX12_step_136 : decode cX12_step 136 = .ok (.getfield 399, 3) := by decide +kernel
theorem dX12_step_139 : decode cX12_step 139 = .ok (.iconst 1, 1) := by decide +kernel
theorem dX12_step_140 : decode cX12_step 140 = .ok (.isub, 1) := by decide +kernel
theorem dX12_step_141 : decode cX12_step 141 = .ok (.iaload, 1) := by decide +kernel
theorem dX12_step_142 : decode cX12_step 142 = .ok (.ineg, 1) := by decide +kernel
theorem dX12_step_143 : decode cX12_step 143 = .ok (.iastore, 1) := by decide +kernel
theorem dX12_step_144 : decode cX12_step 144 = .ok (.goto 301, 3) := by decide +kernel
theorem dX12_step_147 : decode cX12_step 147 = .ok (.iload_n 3, 1) := by decide +kernel
theorem dX12_step_148 : decode cX12_step 148 = .ok (.iconst 4, 1) := by decide +kernel
theorem dX12_step_149 : decode cX12_step 149 = .ok (.if_icmp .ne 29, 3) := by decide +kernel
theorem dX12_step_152 : decode cX12_step 152 = .ok (.aload_n 0, 1) := by decide +kernel
theorem dX12_step_153 : decode cX12_step 153 = .ok (.dup, 1) := by decide +kernel
theorem dX12_step_154 : decode cX12_step 154 = .ok (.getfield 399, 3) := by decide +kernel
theorem dX12_step_157 : decode cX12_step 157 = .ok (.iconst 1, 1) := by decide +kernel
theorem dX12_step_158 : decode cX12_step 158 = .ok (.isub, 1) := by decide +kernel
theorem dX12_step_159 : decode cX12_step 159 = .ok (.putfield 399, 3) := by decide +kernel
theorem dX12_step_162 : decode cX12_step 162 = .ok (.aload_n 0, 1) := by decide +kernel
theorem dX12_step_163 : decode cX12_step 163 = .ok (.aload_n 0, 1) := by decide +kernel
theorem dX12_step_164 : decode cX12_step 164 = .ok (.getfield 91, 3) := by decide +kernel
theorem dX12_step_167 : decode cX12_step 167 = .ok (.aload_n 0, 1) := by decide +kernel
theorem dX12_step_168 : decode cX12_step 168 = .ok (.getfield 399, 3) := by decide +kernel
theorem dX12_step_171 : decode cX12_step 171 = .ok (.iaload, 1) := by decide +kernel
theorem dX12_step_172 : decode cX12_step 172 = .ok (.invokevirtual 407, 3) := by decide +kernel
theorem dX12_step_175 : decode cX12_step 175 = .ok (.goto 270, 3) := by decide +kernel
theorem dX12_step_178 : decode cX12_step 178 = .ok (.iload_n 3, 1) := by decide +kernel
theorem dX12_step_179 : decode cX12_step 179 = .ok (.iconst 5, 1) := by decide +kernel
theorem dX12_step_180 : decode cX12_step 180 = .ok (.if_icmp .ne 49, 3) := by decide +kernel
theorem dX12_step_183 : decode cX12_step 183 = .ok (.aload_n 0, 1) := by decide +kernel
theorem dX12_step_184 : decode cX12_step 184 = .ok (.dup, 1) := by decide +kernel
theorem dX12_step_185 : decode cX12_step 185 = .ok (.getfield 399, 3) := by decide +kernel
theorem dX12_step_188 : decode cX12_step 188 = .ok (.iconst 1, 1) := by decide +kernel
theorem dX12_step_189 : decode cX12_step 189 = .ok (.isub, 1) := by decide +kernel
theorem dX12_step_190 : decode cX12_step 190 = .ok (.putfield 399, 3) := by decide +kernel
theorem dX12_step_193 : decode cX12_step 193 = .ok (.aload_n 0, 1) := by decide +kernel
theorem dX12_step_194 : decode cX12_step 194 = .ok (.getfield 88, 3) := by decide +kernel
theorem dX12_step_197 : decode cX12_step 197 = .ok (.aload_n 0, 1) := by decide +kernel
theorem dX12_step_198 : decode cX12_step 198 = .ok (.getfield 381, 3) := by decide +kernel
theorem dX12_step_201 : decode cX12_step 201 = .ok (.aload_n 0, 1) := by decide +kernel
theorem dX12_step_202 : decode cX12_step 202 = .ok (.getfield 91, 3) := by decide +kernel
theorem dX12_step_205 : decode cX12_step 205 = .ok (.aload_n 0, 1) := by decide +kernel
theorem dX12_step_206 : decode cX12_step 206 = .ok (.getfield 399, 3) := by decide +kernel
theorem dX12_step_209 : decode cX12_step 209 = .ok (.iaload, 1) := by decide +kernel
theorem dX12_step_210 : decode cX12_step 210 = .ok (.ifCond .ne 12, 3) := by decide +kernel
theorem dX12_step_213 : decode cX12_step 213 = .ok (.iload_n 2, 1) := by decide +kernel
theorem dX12_step_214 : decode cX12_step 214 = .ok (.iconst 1, 1) := by decide +kernel
theorem dX12_step_215 : decode cX12_step 215 = .ok (.iadd, 1) := by decide +kernel
theorem dX12_step_216 : decode cX12_step 216 = .ok (.iload 6, 2) := by decide +kernel
theorem dX12_step_218 : decode cX12_step 218 = .ok (.iadd, 1) := by decide +kernel
theorem dX12_step_219 : decode cX12_step 219 = .ok (.goto 6, 3) := by decide +kernel
theorem dX12_step_222 : decode cX12_step 222 = .ok (.iload_n 2, 1) := by decide +kernel
theorem dX12_step_223 : decode cX12_step 223 = .ok (.iconst 1, 1) := by decide +kernel
theorem dX12_step_224 : decode cX12_step 224 = .ok (.iadd, 1) := by decide +kernel
theorem dX12_step_225 : decode cX12_step 225 = .ok (.iastore, 1) := by decide +kernel
theorem dX12_step_226 : decode cX12_step 226 = .ok (.goto 219, 3) := by decide +kernel
theorem dX12_step_229 : decode cX12_step 229 = .ok (.iload_n 3, 1) := by decide +kernel
theorem dX12_step_230 : decode cX12_step 230 = .ok (.bipush 6, 2) := by decide +kernel
theorem dX12_step_232 : decode cX12_step 232 = .ok (.if_icmp .ne 21, 3) := by decide +kernel
theorem dX12_step_235 : decode cX12_step 235 = .ok (.aload_n 0, 1) := by decide +kernel
theorem dX12_step_236 : decode cX12_step 236 = .ok (.getfield 88, 3) := by decide +kernel
theorem dX12_step_239 : decode cX12_step 239 = .ok (.aload_n 0, 1) := by decide +kernel
theorem dX12_step_240 : decode cX12_step 240 = .ok (.getfield 381, 3) := by decide +kernel
theorem dX12_step_243 : decode cX12_step 243 = .ok (.iload_n 2, 1) := by decide +kernel
theorem dX12_step_244 : decode cX12_step 244 = .ok (.iconst 1, 1) := by decide +kernel
theorem dX12_step_245 : decode cX12_step 245 = .ok (.iadd, 1) := by decide +kernel
theorem dX12_step_246 : decode cX12_step 246 = .ok (.iload 6, 2) := by decide +kernel
theorem dX12_step_248 : decode cX12_step 248 = .ok (.iadd, 1) := by decide +kernel
theorem dX12_step_249 : decode cX12_step 249 = .ok (.iastore, 1) := by decide +kernel
theorem dX12_step_250 : decode cX12_step 250 = .ok (.goto 195, 3) := by decide +kernel
theorem dX12_step_253 : decode cX12_step 253 = .ok (.iload_n 3, 1) := by decide +kernel
theorem dX12_step_254 : decode cX12_step 254 = .ok (.bipush 7, 2) := by decide +kernel
theorem dX12_step_256 : decode cX12_step 256 = .ok (.if_icmp .ne 57, 3) := by decide +kernel
theorem dX12_step_259 : decode cX12_step 259 = .ok (.aload_n 0, 1) := by decide +kernel
theorem dX12_step_260 : decode cX12_step 260 = .ok (.getfield 94, 3) := by decide +kernel
theorem dX12_step_263 : decode cX12_step 263 = .ok (.aload_n 0, 1) := by decide +kernel
theorem dX12_step_264 : decode cX12_step 264 = .ok (.getfield 396, 3) := by decide +kernel
theorem dX12_step_267 : decode cX12_step 267 = .ok (.iload_n 2, 1) := by decide +kernel
theorem dX12_step_268 : decode cX12_step 268 = .ok (.iconst 1, 1) := by decide +kernel
theorem dX12_step_269 : decode cX12_step 269 = .ok (.iadd, 1) := by decide +kernel
theorem dX12_step_270 : decode cX12_step 270 = .ok (.iload 6, 2) := by decide +kernel
theorem dX12_step_272 : decode cX12_step 272 = .ok (.iadd, 1) := by decide +kernel
theorem dX12_step_273 : decode cX12_step 273 = .ok (.iastore, 1) := by decide +kernel
theorem dX12_step_274 : decode cX12_step 274 = .ok (.aload_n 0, 1) := by decide +kernel
theorem dX12_step_275 : decode cX12_step 275 = .ok (.getfield 97, 3) := by decide +kernel
theorem dX12_step_278 : decode cX12_step 278 = .ok (.aload_n 0, 1) := by decide +kernel
theorem dX12_step_279 : decode cX12_step 279 = .ok (.getfield 396, 3) := by decide +kernel
theorem dX12_step_282 : decode cX12_step 282 = .ok (.aload_n 0, 1) := by decide +kernel
theorem dX12_step_283 : decode cX12_step 283 = .ok (.getfield 399, 3) := by decide +kernel
theorem dX12_step_286 : decode cX12_step 286 = .ok (.iastore, 1) := by decide +kernel
theorem dX12_step_287 : decode cX12_step 287 = .ok (.aload_n 0, 1) := by decide +kernel
theorem dX12_step_288 : decode cX12_step 288 = .ok (.getfield 100, 3) := by decide +kernel
theorem dX12_step_291 : decode cX12_step 291 = .ok (.aload_n 0, 1) := by decide +kernel
theorem dX12_step_292 : decode cX12_step 292 = .ok (.getfield 396, 3) := by decide +kernel
theorem dX12_step_295 : decode cX12_step 295 = .ok (.aload_n 0, 1) := by decide +kernel
theorem dX12_step_296 : decode cX12_step 296 = .ok (.getfield 381, 3) := by decide +kernel

