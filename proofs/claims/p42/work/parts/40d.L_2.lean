/-! ===== printed: decode rows of L ===== -/
theorem dL_drawn_4 : decode cL_drawn 4 = .ok (.invokespecial 177, 3) := by decide +kernel
theorem dL_drawn_7 : decode cL_drawn 7 = .ok (.astore_n 1, 1) := by decide +kernel
theorem dL_drawn_8 : decode cL_drawn 8 = .ok (.aload_n 0, 1) := by decide +kernel
theorem dL_drawn_9 : decode cL_drawn 9 = .ok (.iconst 0, 1) := by decide +kernel
theorem dL_drawn_10 : decode cL_drawn 10 = .ok (.invokestatic 152, 3) := by decide +kernel
theorem dL_drawn_13 : decode cL_drawn 13 = .ok (.iconst 1, 1) := by decide +kernel
theorem dL_drawn_14 : decode cL_drawn 14 = .ok (.iushr, 1) := by decide +kernel
theorem dL_drawn_15 : decode cL_drawn 15 = .ok (.istore_n 2, 1) := by decide +kernel
theorem dL_drawn_16 : decode cL_drawn 16 = .ok (.iload_n 2, 1) := by decide +kernel
theorem dL_drawn_17 : decode cL_drawn 17 = .ok (.bipush 40, 2) := by decide +kernel
theorem dL_drawn_19 : decode cL_drawn 19 = .ok (.irem, 1) := by decide +kernel
theorem dL_drawn_20 : decode cL_drawn 20 = .ok (.istore_n 3, 1) := by decide +kernel
theorem dL_drawn_21 : decode cL_drawn 21 = .ok (.iconst 0, 1) := by decide +kernel
theorem dL_drawn_22 : decode cL_drawn 22 = .ok (.istore 4, 2) := by decide +kernel
theorem dL_drawn_24 : decode cL_drawn 24 = .ok (.iload 4, 2) := by decide +kernel
theorem dL_drawn_26 : decode cL_drawn 26 = .ok (.iload_n 3, 1) := by decide +kernel
theorem dL_drawn_27 : decode cL_drawn 27 = .ok (.if_icmp .ge 354, 3) := by decide +kernel
theorem dL_drawn_30 : decode cL_drawn 30 = .ok (.aload_n 0, 1) := by decide +kernel
theorem dL_drawn_31 : decode cL_drawn 31 = .ok (.iconst 1, 1) := by decide +kernel
theorem dL_drawn_32 : decode cL_drawn 32 = .ok (.iload 4, 2) := by decide +kernel
theorem dL_drawn_34 : decode cL_drawn 34 = .ok (.iadd, 1) := by decide +kernel
theorem dL_drawn_35 : decode cL_drawn 35 = .ok (.invokestatic 152, 3) := by decide +kernel
theorem dL_drawn_38 : decode cL_drawn 38 = .ok (.iconst 1, 1) := by decide +kernel
theorem dL_drawn_39 : decode cL_drawn 39 = .ok (.iushr, 1) := by decide +kernel
theorem dL_drawn_40 : decode cL_drawn 40 = .ok (.istore 5, 2) := by decide +kernel
theorem dL_drawn_42 : decode cL_drawn 42 = .ok (.iload 5, 2) := by decide +kernel
theorem dL_drawn_44 : decode cL_drawn 44 = .ok (.iconst 4, 1) := by decide +kernel
theorem dL_drawn_45 : decode cL_drawn 45 = .ok (.iushr, 1) := by decide +kernel
theorem dL_drawn_46 : decode cL_drawn 46 = .ok (.istore 6, 2) := by decide +kernel
theorem dL_drawn_48 : decode cL_drawn 48 = .ok (.iload 5, 2) := by decide +kernel
theorem dL_drawn_50 : decode cL_drawn 50 = .ok (.bipush 10, 2) := by decide +kernel
theorem dL_drawn_52 : decode cL_drawn 52 = .ok (.irem, 1) := by decide +kernel
theorem dL_drawn_53 : decode cL_drawn 53 = .ok (.tableswitch 283 0 8 #[51, 51, 73, 73, 95, 120, 150, 150, 252], 51) := by decide +kernel
theorem dL_drawn_104 : decode cL_drawn 104 = .ok (.aload_n 1, 1) := by decide +kernel
theorem dL_drawn_105 : decode cL_drawn 105 = .ok (.iload 6, 2) := by decide +kernel
theorem dL_drawn_107 : decode cL_drawn 107 = .ok (.iconst 4, 1) := by decide +kernel
theorem dL_drawn_108 : decode cL_drawn 108 = .ok (.irem, 1) := by decide +kernel
theorem dL_drawn_109 : decode cL_drawn 109 = .ok (.iconst 1, 1) := by decide +kernel
theorem dL_drawn_110 : decode cL_drawn 110 = .ok (.iload 6, 2) := by decide +kernel
theorem dL_drawn_112 : decode cL_drawn 112 = .ok (.iconst 2, 1) := by decide +kernel
theorem dL_drawn_113 : decode cL_drawn 113 = .ok (.iushr, 1) := by decide +kernel
theorem dL_drawn_114 : decode cL_drawn 114 = .ok (.bipush 7, 2) := by decide +kernel
theorem dL_drawn_116 : decode cL_drawn 116 = .ok (.irem, 1) := by decide +kernel
theorem dL_drawn_117 : decode cL_drawn 117 = .ok (.iadd, 1) := by decide +kernel
theorem dL_drawn_118 : decode cL_drawn 118 = .ok (.invokestatic 178, 3) := by decide +kernel
theorem dL_drawn_121 : decode cL_drawn 121 = .ok (.istore 7, 2) := by decide +kernel
theorem dL_drawn_123 : decode cL_drawn 123 = .ok (.goto 245, 3) := by decide +kernel
theorem dL_drawn_126 : decode cL_drawn 126 = .ok (.aload_n 1, 1) := by decide +kernel
theorem dL_drawn_127 : decode cL_drawn 127 = .ok (.iload 6, 2) := by decide +kernel
theorem dL_drawn_129 : decode cL_drawn 129 = .ok (.bipush 8, 2) := by decide +kernel
theorem dL_drawn_131 : decode cL_drawn 131 = .ok (.irem, 1) := by decide +kernel
theorem dL_drawn_132 : decode cL_drawn 132 = .ok (.iconst 1, 1) := by decide +kernel
theorem dL_drawn_133 : decode cL_drawn 133 = .ok (.iload 6, 2) := by decide +kernel
theorem dL_drawn_135 : decode cL_drawn 135 = .ok (.iconst 3, 1) := by decide +kernel
theorem dL_drawn_136 : decode cL_drawn 136 = .ok (.iushr, 1) := by decide +kernel
theorem dL_drawn_137 : decode cL_drawn 137 = .ok (.iconst 3, 1) := by decide +kernel
theorem dL_drawn_138 : decode cL_drawn 138 = .ok (.irem, 1) := by decide +kernel
theorem dL_drawn_139 : decode cL_drawn 139 = .ok (.iadd, 1) := by decide +kernel
theorem dL_drawn_140 : decode cL_drawn 140 = .ok (.invokestatic 181, 3) := by decide +kernel
theorem dL_drawn_143 : decode cL_drawn 143 = .ok (.istore 7, 2) := by decide +kernel
theorem dL_drawn_145 : decode cL_drawn 145 = .ok (.goto 223, 3) := by decide +kernel
theorem dL_drawn_148 : decode cL_drawn 148 = .ok (.aload_n 1, 1) := by decide +kernel
theorem dL_drawn_149 : decode cL_drawn 149 = .ok (.iload 6, 2) := by decide +kernel
theorem dL_drawn_151 : decode cL_drawn 151 = .ok (.sipush 10000, 3) := by decide +kernel
theorem dL_drawn_154 : decode cL_drawn 154 = .ok (.irem, 1) := by decide +kernel
theorem dL_drawn_155 : decode cL_drawn 155 = .ok (.iconst 1, 1) := by decide +kernel
theorem dL_drawn_156 : decode cL_drawn 156 = .ok (.iload 6, 2) := by decide +kernel
theorem dL_drawn_158 : decode cL_drawn 158 = .ok (.bipush 14, 2) := by decide +kernel
theorem dL_drawn_160 : decode cL_drawn 160 = .ok (.iushr, 1) := by decide +kernel
theorem dL_drawn_161 : decode cL_drawn 161 = .ok (.bipush 60, 2) := by decide +kernel
theorem dL_drawn_163 : decode cL_drawn 163 = .ok (.irem, 1) := by decide +kernel
theorem dL_drawn_164 : decode cL_drawn 164 = .ok (.iadd, 1) := by decide +kernel
theorem dL_drawn_165 : decode cL_drawn 165 = .ok (.invokestatic 183, 3) := by decide +kernel
theorem dL_drawn_168 : decode cL_drawn 168 = .ok (.istore 7, 2) := by decide +kernel
theorem dL_drawn_170 : decode cL_drawn 170 = .ok (.goto 198, 3) := by decide +kernel
theorem dL_drawn_173 : decode cL_drawn 173 = .ok (.aload_n 1, 1) := by decide +kernel
theorem dL_drawn_174 : decode cL_drawn 174 = .ok (.iload 6, 2) := by decide +kernel
theorem dL_drawn_176 : decode cL_drawn 176 = .ok (.bipush 32, 2) := by decide +kernel
theorem dL_drawn_178 : decode cL_drawn 178 = .ok (.irem, 1) := by decide +kernel
theorem dL_drawn_179 : decode cL_drawn 179 = .ok (.iload 6, 2) := by decide +kernel
theorem dL_drawn_181 : decode cL_drawn 181 = .ok (.iconst 5, 1) := by decide +kernel
theorem dL_drawn_182 : decode cL_drawn 182 = .ok (.iushr, 1) := by decide +kernel
theorem dL_drawn_183 : decode cL_drawn 183 = .ok (.bipush 6, 2) := by decide +kernel
theorem dL_drawn_185 : decode cL_drawn 185 = .ok (.irem, 1) := by decide +kernel
theorem dL_drawn_186 : decode cL_drawn 186 = .ok (.invokestatic 185, 3) := by decide +kernel
theorem dL_drawn_189 : decode cL_drawn 189 = .ok (.iconst (-1), 1) := by decide +kernel
theorem dL_drawn_190 : decode cL_drawn 190 = .ok (.if_icmp .ne 7, 3) := by decide +kernel
theorem dL_drawn_193 : decode cL_drawn 193 = .ok (.iconst (-1), 1) := by decide +kernel
theorem dL_drawn_194 : decode cL_drawn 194 = .ok (.goto 4, 3) := by decide +kernel
theorem dL_drawn_197 : decode cL_drawn 197 = .ok (.iconst 0, 1) := by decide +kernel
theorem dL_drawn_198 : decode cL_drawn 198 = .ok (.istore 7, 2) := by decide +kernel
theorem dL_drawn_200 : decode cL_drawn 200 = .ok (.goto 168, 3) := by decide +kernel
theorem dL_drawn_203 : decode cL_drawn 203 = .ok (.new 157, 3) := by decide +kernel
theorem dL_drawn_206 : decode cL_drawn 206 = .ok (.dup, 1) := by decide +kernel
theorem dL_drawn_207 : decode cL_drawn 207 = .ok (.invokespecial 187, 3) := by decide +kernel
theorem dL_drawn_210 : decode cL_drawn 210 = .ok (.astore 8, 2) := by decide +kernel
theorem dL_drawn_212 : decode cL_drawn 212 = .ok (.iconst 2, 1) := by decide +kernel
theorem dL_drawn_213 : decode cL_drawn 213 = .ok (.newarray .int, 2) := by decide +kernel
theorem dL_drawn_215 : decode cL_drawn 215 = .ok (.dup, 1) := by decide +kernel
theorem dL_drawn_216 : decode cL_drawn 216 = .ok (.iconst 0, 1) := by decide +kernel
theorem dL_drawn_217 : decode cL_drawn 217 = .ok (.bipush 40, 2) := by decide +kernel
theorem dL_drawn_219 : decode cL_drawn 219 = .ok (.iload 6, 2) := by decide +kernel
theorem dL_drawn_221 : decode cL_drawn 221 = .ok (.bipush 60, 2) := by decide +kernel
theorem dL_drawn_223 : decode cL_drawn 223 = .ok (.irem, 1) := by decide +kernel
theorem dL_drawn_224 : decode cL_drawn 224 = .ok (.iadd, 1) := by decide +kernel
theorem dL_drawn_225 : decode cL_drawn 225 = .ok (.iastore, 1) := by decide +kernel
theorem dL_drawn_226 : decode cL_drawn 226 = .ok (.dup, 1) := by decide +kernel
theorem dL_drawn_227 : decode cL_drawn 227 = .ok (.iconst 1, 1) := by decide +kernel
theorem dL_drawn_228 : decode cL_drawn 228 = .ok (.iconst 0, 1) := by decide +kernel
theorem dL_drawn_229 : decode cL_drawn 229 = .ok (.iastore, 1) := by decide +kernel
theorem dL_drawn_230 : decode cL_drawn 230 = .ok (.astore 9, 2) := by decide +kernel
theorem dL_drawn_232 : decode cL_drawn 232 = .ok (.aload_n 0, 1) := by decide +kernel
theorem dL_drawn_233 : decode cL_drawn 233 = .ok (.aload 9, 2) := by decide +kernel
theorem dL_drawn_235 : decode cL_drawn 235 = .ok (.aload 8, 2) := by decide +kernel
theorem dL_drawn_237 : decode cL_drawn 237 = .ok (.iconst 0, 1) := by decide +kernel
theorem dL_drawn_238 : decode cL_drawn 238 = .ok (.invokestatic 162, 3) := by decide +kernel
theorem dL_drawn_241 : decode cL_drawn 241 = .ok (.astore 10, 2) := by decide +kernel
theorem dL_drawn_243 : decode cL_drawn 243 = .ok (.aload_n 1, 1) := by decide +kernel
theorem dL_drawn_244 : decode cL_drawn 244 = .ok (.aload 8, 2) := by decide +kernel
theorem dL_drawn_246 : decode cL_drawn 246 = .ok (.invokevirtual 188, 3) := by decide +kernel
theorem dL_drawn_249 : decode cL_drawn 249 = .ok (.iload 6, 2) := by decide +kernel
theorem dL_drawn_251 : decode cL_drawn 251 = .ok (.bipush 6, 2) := by decide +kernel
theorem dL_drawn_253 : decode cL_drawn 253 = .ok (.iushr, 1) := by decide +kernel
theorem dL_drawn_254 : decode cL_drawn 254 = .ok (.iconst 5, 1) := by decide +kernel
theorem dL_drawn_255 : decode cL_drawn 255 = .ok (.irem, 1) := by decide +kernel
theorem dL_drawn_256 : decode cL_drawn 256 = .ok (.invokestatic 192, 3) := by decide +kernel
theorem dL_drawn_259 : decode cL_drawn 259 = .ok (.istore 7, 2) := by decide +kernel
theorem dL_drawn_261 : decode cL_drawn 261 = .ok (.aload 9, 2) := by decide +kernel
theorem dL_drawn_263 : decode cL_drawn 263 = .ok (.iconst 1, 1) := by decide +kernel
theorem dL_drawn_264 : decode cL_drawn 264 = .ok (.iaload, 1) := by decide +kernel
theorem dL_drawn_265 : decode cL_drawn 265 = .ok (.sipush 200, 3) := by decide +kernel
theorem dL_drawn_268 : decode cL_drawn 268 = .ok (.if_icmp .le 18, 3) := by decide +kernel
theorem dL_drawn_271 : decode cL_drawn 271 = .ok (.iload 7, 2) := by decide +kernel
theorem dL_drawn_273 : decode cL_drawn 273 = .ok (.bipush (-3), 2) := by decide +kernel
theorem dL_drawn_275 : decode cL_drawn 275 = .ok (.if_icmp .ne 7, 3) := by decide +kernel
theorem dL_drawn_278 : decode cL_drawn 278 = .ok (.iconst 0, 1) := by decide +kernel
theorem dL_drawn_279 : decode cL_drawn 279 = .ok (.goto 21, 3) := by decide +kernel
theorem dL_drawn_282 : decode cL_drawn 282 = .ok (.iconst (-1), 1) := by decide +kernel
theorem dL_drawn_283 : decode cL_drawn 283 = .ok (.goto 17, 3) := by decide +kernel
theorem dL_drawn_286 : decode cL_drawn 286 = .ok (.iload 7, 2) := by decide +kernel
theorem dL_drawn_288 : decode cL_drawn 288 = .ok (.aload 9, 2) := by decide +kernel
theorem dL_drawn_290 : decode cL_drawn 290 = .ok (.iconst 1, 1) := by decide +kernel
theorem dL_drawn_291 : decode cL_drawn 291 = .ok (.iaload, 1) := by decide +kernel
theorem dL_drawn_292 : decode cL_drawn 292 = .ok (.if_icmp .ne 7, 3) := by decide +kernel
theorem dL_drawn_295 : decode cL_drawn 295 = .ok (.iconst 0, 1) := by decide +kernel
theorem dL_drawn_296 : decode cL_drawn 296 = .ok (.goto 4, 3) := by decide +kernel
theorem dL_drawn_299 : decode cL_drawn 299 = .ok (.iconst (-1), 1) := by decide +kernel
theorem dL_drawn_300 : decode cL_drawn 300 = .ok (.istore 7, 2) := by decide +kernel
theorem dL_drawn_302 : decode cL_drawn 302 = .ok (.goto 66, 3) := by decide +kernel
theorem dL_drawn_305 : decode cL_drawn 305 = .ok (.aload_n 1, 1) := by decide +kernel
theorem dL_drawn_306 : decode cL_drawn 306 = .ok (.iload 6, 2) := by decide +kernel
theorem dL_drawn_308 : decode cL_drawn 308 = .ok (.iconst 5, 1) := by decide +kernel
theorem dL_drawn_309 : decode cL_drawn 309 = .ok (.irem, 1) := by decide +kernel
theorem dL_drawn_310 : decode cL_drawn 310 = .ok (.iconst 1, 1) := by decide +kernel
theorem dL_drawn_311 : decode cL_drawn 311 = .ok (.iload 6, 2) := by decide +kernel
theorem dL_drawn_313 : decode cL_drawn 313 = .ok (.iconst 3, 1) := by decide +kernel
theorem dL_drawn_314 : decode cL_drawn 314 = .ok (.iushr, 1) := by decide +kernel
theorem dL_drawn_315 : decode cL_drawn 315 = .ok (.bipush 9, 2) := by decide +kernel
theorem dL_drawn_317 : decode cL_drawn 317 = .ok (.irem, 1) := by decide +kernel
theorem dL_drawn_318 : decode cL_drawn 318 = .ok (.iadd, 1) := by decide +kernel
theorem dL_drawn_319 : decode cL_drawn 319 = .ok (.invokestatic 195, 3) := by decide +kernel
theorem dL_drawn_322 : decode cL_drawn 322 = .ok (.iconst (-1), 1) := by decide +kernel
theorem dL_drawn_323 : decode cL_drawn 323 = .ok (.if_icmp .ne 7, 3) := by decide +kernel
theorem dL_drawn_326 : decode cL_drawn 326 = .ok (.iconst (-1), 1) := by decide +kernel
theorem dL_drawn_327 : decode cL_drawn 327 = .ok (.goto 4, 3) := by decide +kernel
theorem dL_drawn_330 : decode cL_drawn 330 = .ok (.iconst 0, 1) := by decide +kernel
theorem dL_drawn_331 : decode cL_drawn 331 = .ok (.istore 7, 2) := by decide +kernel
theorem dL_drawn_333 : decode cL_drawn 333 = .ok (.goto 35, 3) := by decide +kernel
theorem dL_drawn_336 : decode cL_drawn 336 = .ok (.aload_n 1, 1) := by decide +kernel
theorem dL_drawn_337 : decode cL_drawn 337 = .ok (.iload 6, 2) := by decide +kernel
theorem dL_drawn_339 : decode cL_drawn 339 = .ok (.iconst 5, 1) := by decide +kernel
theorem dL_drawn_340 : decode cL_drawn 340 = .ok (.irem, 1) := by decide +kernel
theorem dL_drawn_341 : decode cL_drawn 341 = .ok (.iload 6, 2) := by decide +kernel
theorem dL_drawn_343 : decode cL_drawn 343 = .ok (.iconst 3, 1) := by decide +kernel
theorem dL_drawn_344 : decode cL_drawn 344 = .ok (.iushr, 1) := by decide +kernel
theorem dL_drawn_345 : decode cL_drawn 345 = .ok (.iconst 5, 1) := by decide +kernel
theorem dL_drawn_346 : decode cL_drawn 346 = .ok (.irem, 1) := by decide +kernel
theorem dL_drawn_347 : decode cL_drawn 347 = .ok (.iload 6, 2) := by decide +kernel
theorem dL_drawn_349 : decode cL_drawn 349 = .ok (.bipush 6, 2) := by decide +kernel
theorem dL_drawn_351 : decode cL_drawn 351 = .ok (.iushr, 1) := by decide +kernel
theorem dL_drawn_352 : decode cL_drawn 352 = .ok (.iconst 5, 1) := by decide +kernel
theorem dL_drawn_353 : decode cL_drawn 353 = .ok (.irem, 1) := by decide +kernel
theorem dL_drawn_354 : decode cL_drawn 354 = .ok (.invokestatic 197, 3) := by decide +kernel
theorem dL_drawn_357 : decode cL_drawn 357 = .ok (.iconst (-1), 1) := by decide +kernel
theorem dL_drawn_358 : decode cL_drawn 358 = .ok (.if_icmp .ne 7, 3) := by decide +kernel
theorem dL_drawn_361 : decode cL_drawn 361 = .ok (.iconst (-1), 1) := by decide +kernel
theorem dL_drawn_362 : decode cL_drawn 362 = .ok (.goto 4, 3) := by decide +kernel
theorem dL_drawn_365 : decode cL_drawn 365 = .ok (.iconst 0, 1) := by decide +kernel
theorem dL_drawn_366 : decode cL_drawn 366 = .ok (.istore 7, 2) := by decide +kernel
theorem dL_drawn_368 : decode cL_drawn 368 = .ok (.iload 7, 2) := by decide +kernel
theorem dL_drawn_370 : decode cL_drawn 370 = .ok (.ifCond .ge 5, 3) := by decide +kernel
theorem dL_drawn_373 : decode cL_drawn 373 = .ok (.aconst_null, 1) := by decide +kernel
theorem dL_drawn_374 : decode cL_drawn 374 = .ok (.areturn, 1) := by decide +kernel
theorem dL_drawn_375 : decode cL_drawn 375 = .ok (.iinc 4 1, 3) := by decide +kernel
theorem dL_drawn_378 : decode cL_drawn 378 = .ok (.goto (-354), 3) := by decide +kernel
theorem dL_drawn_381 : decode cL_drawn 381 = .ok (.aload_n 1, 1) := by decide +kernel
theorem dL_drawn_382 : decode cL_drawn 382 = .ok (.areturn, 1) := by decide +kernel
theorem dL_shelf_0 : decode cL_shelf 0 = .ok (.aload_n 0, 1) := by decide +kernel
theorem dL_shelf_1 : decode cL_shelf 1 = .ok (.iload_n 1, 1) := by decide +kernel
theorem dL_shelf_2 : decode cL_shelf 2 = .ok (.iconst 0, 1) := by decide +kernel
theorem dL_shelf_3 : decode cL_shelf 3 = .ok (.invokestatic 200, 3) := by decide +kernel
theorem dL_shelf_6 : decode cL_shelf 6 = .ok (.bipush (-13), 2) := by decide +kernel
theorem dL_shelf_8 : decode cL_shelf 8 = .ok (.if_icmp .ne 5, 3) := by decide +kernel
theorem dL_shelf_11 : decode cL_shelf 11 = .ok (.aconst_null, 1) := by decide +kernel
theorem dL_shelf_12 : decode cL_shelf 12 = .ok (.areturn, 1) := by decide +kernel
theorem dL_shelf_13 : decode cL_shelf 13 = .ok (.bipush 32, 2) := by decide +kernel
theorem dL_shelf_15 : decode cL_shelf 15 = .ok (.newarray .int, 2) := by decide +kernel
theorem dL_shelf_17 : decode cL_shelf 17 = .ok (.astore_n 2, 1) := by decide +kernel
theorem dL_shelf_18 : decode cL_shelf 18 = .ok (.iconst 0, 1) := by decide +kernel
theorem dL_shelf_19 : decode cL_shelf 19 = .ok (.istore_n 3, 1) := by decide +kernel
theorem dL_shelf_20 : decode cL_shelf 20 = .ok (.iload_n 3, 1) := by decide +kernel
theorem dL_shelf_21 : decode cL_shelf 21 = .ok (.bipush 32, 2) := by decide +kernel
theorem dL_shelf_23 : decode cL_shelf 23 = .ok (.if_icmp .ge 18, 3) := by decide +kernel
theorem dL_shelf_26 : decode cL_shelf 26 = .ok (.aload_n 2, 1) := by decide +kernel
theorem dL_shelf_27 : decode cL_shelf 27 = .ok (.iload_n 3, 1) := by decide +kernel
theorem dL_shelf_28 : decode cL_shelf 28 = .ok (.aload_n 0, 1) := by decide +kernel
theorem dL_shelf_29 : decode cL_shelf 29 = .ok (.iload_n 1, 1) := by decide +kernel
theorem dL_shelf_30 : decode cL_shelf 30 = .ok (.iload_n 3, 1) := by decide +kernel
theorem dL_shelf_31 : decode cL_shelf 31 = .ok (.invokestatic 200, 3) := by decide +kernel
theorem dL_shelf_34 : decode cL_shelf 34 = .ok (.iastore, 1) := by decide +kernel
theorem dL_shelf_35 : decode cL_shelf 35 = .ok (.iinc 3 1, 3) := by decide +kernel
theorem dL_shelf_38 : decode cL_shelf 38 = .ok (.goto (-18), 3) := by decide +kernel
theorem dL_shelf_41 : decode cL_shelf 41 = .ok (.aload_n 2, 1) := by decide +kernel
theorem dL_shelf_42 : decode cL_shelf 42 = .ok (.areturn, 1) := by decide +kernel
theorem dL_slots_0 : decode cL_slots 0 = .ok (.bipush 32, 2) := by decide +kernel
theorem dL_slots_2 : decode cL_slots 2 = .ok (.newarray .boolean, 2) := by decide +kernel
theorem dL_slots_4 : decode cL_slots 4 = .ok (.astore_n 1, 1) := by decide +kernel
theorem dL_slots_5 : decode cL_slots 5 = .ok (.iconst 0, 1) := by decide +kernel
theorem dL_slots_6 : decode cL_slots 6 = .ok (.istore_n 2, 1) := by decide +kernel
theorem dL_slots_7 : decode cL_slots 7 = .ok (.iconst 0, 1) := by decide +kernel
theorem dL_slots_8 : decode cL_slots 8 = .ok (.istore_n 3, 1) := by decide +kernel
theorem dL_slots_9 : decode cL_slots 9 = .ok (.iconst 0, 1) := by decide +kernel
theorem dL_slots_10 : decode cL_slots 10 = .ok (.istore 4, 2) := by decide +kernel
theorem dL_slots_12 : decode cL_slots 12 = .ok (.iload 4, 2) := by decide +kernel
theorem dL_slots_14 : decode cL_slots 14 = .ok (.bipush 32, 2) := by decide +kernel
theorem dL_slots_16 : decode cL_slots 16 = .ok (.if_icmp .ge 204, 3) := by decide +kernel
theorem dL_slots_19 : decode cL_slots 19 = .ok (.aload_n 0, 1) := by decide +kernel
theorem dL_slots_20 : decode cL_slots 20 = .ok (.iload 4, 2) := by decide +kernel
theorem dL_slots_22 : decode cL_slots 22 = .ok (.invokestatic 202, 3) := by decide +kernel
theorem dL_slots_25 : decode cL_slots 25 = .ok (.istore 5, 2) := by decide +kernel
theorem dL_slots_27 : decode cL_slots 27 = .ok (.iload 5, 2) := by decide +kernel
theorem dL_slots_29 : decode cL_slots 29 = .ok (.ifCond .lt 47, 3) := by decide +kernel
theorem dL_slots_32 : decode cL_slots 32 = .ok (.iload 5, 2) := by decide +kernel
theorem dL_slots_34 : decode cL_slots 34 = .ok (.bipush 31, 2) := by decide +kernel
theorem dL_slots_36 : decode cL_slots 36 = .ok (.if_icmp .gt 40, 3) := by decide +kernel
theorem dL_slots_39 : decode cL_slots 39 = .ok (.aload_n 1, 1) := by decide +kernel
theorem dL_slots_40 : decode cL_slots 40 = .ok (.iload 5, 2) := by decide +kernel
theorem dL_slots_42 : decode cL_slots 42 = .ok (.baload, 1) := by decide +kernel
theorem dL_slots_43 : decode cL_slots 43 = .ok (.ifCond .ne 33, 3) := by decide +kernel
theorem dL_slots_46 : decode cL_slots 46 = .ok (.aload_n 0, 1) := by decide +kernel
theorem dL_slots_47 : decode cL_slots 47 = .ok (.iload 5, 2) := by decide +kernel
theorem dL_slots_49 : decode cL_slots 49 = .ok (.invokestatic 225, 3) := by decide +kernel
theorem dL_slots_52 : decode cL_slots 52 = .ok (.iload 4, 2) := by decide +kernel
theorem dL_slots_54 : decode cL_slots 54 = .ok (.if_icmp .ne 22, 3) := by decide +kernel
theorem dL_slots_57 : decode cL_slots 57 = .ok (.aload_n 0, 1) := by decide +kernel
theorem dL_slots_58 : decode cL_slots 58 = .ok (.iload 4, 2) := by decide +kernel
theorem dL_slots_60 : decode cL_slots 60 = .ok (.invokestatic 227, 3) := by decide +kernel
theorem dL_slots_63 : decode cL_slots 63 = .ok (.ifCond .lt 13, 3) := by decide +kernel
theorem dL_slots_66 : decode cL_slots 66 = .ok (.aload_n 0, 1) := by decide +kernel
theorem dL_slots_67 : decode cL_slots 67 = .ok (.iload 4, 2) := by decide +kernel
theorem dL_slots_69 : decode cL_slots 69 = .ok (.invokestatic 227, 3) := by decide +kernel
theorem dL_slots_72 : decode cL_slots 72 = .ok (.iconst 5, 1) := by decide +kernel
theorem dL_slots_73 : decode cL_slots 73 = .ok (.if_icmp .le 5, 3) := by decide +kernel
theorem dL_slots_76 : decode cL_slots 76 = .ok (.iconst 0, 1) := by decide +kernel
theorem dL_slots_77 : decode cL_slots 77 = .ok (.ireturn, 1) := by decide +kernel
theorem dL_slots_78 : decode cL_slots 78 = .ok (.aload_n 1, 1) := by decide +kernel
theorem dL_slots_79 : decode cL_slots 79 = .ok (.iload 5, 2) := by decide +kernel
theorem dL_slots_81 : decode cL_slots 81 = .ok (.iconst 1, 1) := by decide +kernel
theorem dL_slots_82 : decode cL_slots 82 = .ok (.bastore, 1) := by decide +kernel
theorem dL_slots_83 : decode cL_slots 83 = .ok (.iload_n 2, 1) := by decide +kernel
theorem dL_slots_84 : decode cL_slots 84 = .ok (.iload 5, 2) := by decide +kernel
theorem dL_slots_86 : decode cL_slots 86 = .ok (.iload 4, 2) := by decide +kernel
theorem dL_slots_88 : decode cL_slots 88 = .ok (.if_icmp .ne 7, 3) := by decide +kernel
theorem dL_slots_91 : decode cL_slots 91 = .ok (.iconst 1, 1) := by decide +kernel
theorem dL_slots_92 : decode cL_slots 92 = .ok (.goto 4, 3) := by decide +kernel
theorem dL_slots_95 : decode cL_slots 95 = .ok (.iconst 0, 1) := by decide +kernel
theorem dL_slots_96 : decode cL_slots 96 = .ok (.iadd, 1) := by decide +kernel
theorem dL_slots_97 : decode cL_slots 97 = .ok (.istore_n 2, 1) := by decide +kernel
theorem dL_slots_98 : decode cL_slots 98 = .ok (.iload_n 3, 1) := by decide +kernel
theorem dL_slots_99 : decode cL_slots 99 = .ok (.iload 5, 2) := by decide +kernel
theorem dL_slots_101 : decode cL_slots 101 = .ok (.iload 4, 2) := by decide +kernel
theorem dL_slots_103 : decode cL_slots 103 = .ok (.if_icmp .ne 7, 3) := by decide +kernel
theorem dL_slots_106 : decode cL_slots 106 = .ok (.iconst 0, 1) := by decide +kernel
theorem dL_slots_107 : decode cL_slots 107 = .ok (.goto 34, 3) := by decide +kernel
theorem dL_slots_110 : decode cL_slots 110 = .ok (.iload 5, 2) := by decide +kernel
theorem dL_slots_112 : decode cL_slots 112 = .ok (.bipush 8, 2) := by decide +kernel
theorem dL_slots_114 : decode cL_slots 114 = .ok (.idiv, 1) := by decide +kernel
theorem dL_slots_115 : decode cL_slots 115 = .ok (.iload 4, 2) := by decide +kernel
theorem dL_slots_117 : decode cL_slots 117 = .ok (.bipush 8, 2) := by decide +kernel
theorem dL_slots_119 : decode cL_slots 119 = .ok (.idiv, 1) := by decide +kernel
theorem dL_slots_120 : decode cL_slots 120 = .ok (.if_icmp .eq 16, 3) := by decide +kernel
theorem dL_slots_123 : decode cL_slots 123 = .ok (.iload 5, 2) := by decide +kernel
theorem dL_slots_125 : decode cL_slots 125 = .ok (.bipush 8, 2) := by decide +kernel
theorem dL_slots_127 : decode cL_slots 127 = .ok (.irem, 1) := by decide +kernel
theorem dL_slots_128 : decode cL_slots 128 = .ok (.iload 4, 2) := by decide +kernel
theorem dL_slots_130 : decode cL_slots 130 = .ok (.bipush 8, 2) := by decide +kernel
theorem dL_slots_132 : decode cL_slots 132 = .ok (.irem, 1) := by decide +kernel
theorem dL_slots_133 : decode cL_slots 133 = .ok (.if_icmp .ne 7, 3) := by decide +kernel
theorem dL_slots_136 : decode cL_slots 136 = .ok (.iconst 1, 1) := by decide +kernel
theorem dL_slots_137 : decode cL_slots 137 = .ok (.goto 4, 3) := by decide +kernel
theorem dL_slots_140 : decode cL_slots 140 = .ok (.iconst 2, 1) := by decide +kernel
theorem dL_slots_141 : decode cL_slots 141 = .ok (.iadd, 1) := by decide +kernel
theorem dL_slots_142 : decode cL_slots 142 = .ok (.istore_n 3, 1) := by decide +kernel
theorem dL_slots_143 : decode cL_slots 143 = .ok (.iconst 0, 1) := by decide +kernel
theorem dL_slots_144 : decode cL_slots 144 = .ok (.istore 6, 2) := by decide +kernel
theorem dL_slots_146 : decode cL_slots 146 = .ok (.iload 6, 2) := by decide +kernel
theorem dL_slots_148 : decode cL_slots 148 = .ok (.bipush 32, 2) := by decide +kernel
theorem dL_slots_150 : decode cL_slots 150 = .ok (.if_icmp .ge 64, 3) := by decide +kernel
theorem dL_slots_153 : decode cL_slots 153 = .ok (.aload_n 0, 1) := by decide +kernel
theorem dL_slots_154 : decode cL_slots 154 = .ok (.iload 4, 2) := by decide +kernel
theorem dL_slots_156 : decode cL_slots 156 = .ok (.iload 6, 2) := by decide +kernel
theorem dL_slots_158 : decode cL_slots 158 = .ok (.invokestatic 229, 3) := by decide +kernel
theorem dL_slots_161 : decode cL_slots 161 = .ok (.iload 6, 2) := by decide +kernel
theorem dL_slots_163 : decode cL_slots 163 = .ok (.iload 4, 2) := by decide +kernel
theorem dL_slots_165 : decode cL_slots 165 = .ok (.if_icmp .ne 7, 3) := by decide +kernel
theorem dL_slots_168 : decode cL_slots 168 = .ok (.iconst 0, 1) := by decide +kernel
theorem dL_slots_169 : decode cL_slots 169 = .ok (.goto 34, 3) := by decide +kernel
theorem dL_slots_172 : decode cL_slots 172 = .ok (.iload 6, 2) := by decide +kernel
theorem dL_slots_174 : decode cL_slots 174 = .ok (.bipush 8, 2) := by decide +kernel
theorem dL_slots_176 : decode cL_slots 176 = .ok (.idiv, 1) := by decide +kernel
theorem dL_slots_177 : decode cL_slots 177 = .ok (.iload 4, 2) := by decide +kernel
theorem dL_slots_179 : decode cL_slots 179 = .ok (.bipush 8, 2) := by decide +kernel
theorem dL_slots_181 : decode cL_slots 181 = .ok (.idiv, 1) := by decide +kernel
theorem dL_slots_182 : decode cL_slots 182 = .ok (.if_icmp .eq 16, 3) := by decide +kernel
theorem dL_slots_185 : decode cL_slots 185 = .ok (.iload 6, 2) := by decide +kernel
theorem dL_slots_187 : decode cL_slots 187 = .ok (.bipush 8, 2) := by decide +kernel
theorem dL_slots_189 : decode cL_slots 189 = .ok (.irem, 1) := by decide +kernel
theorem dL_slots_190 : decode cL_slots 190 = .ok (.iload 4, 2) := by decide +kernel
theorem dL_slots_192 : decode cL_slots 192 = .ok (.bipush 8, 2) := by decide +kernel
theorem dL_slots_194 : decode cL_slots 194 = .ok (.irem, 1) := by decide +kernel
theorem dL_slots_195 : decode cL_slots 195 = .ok (.if_icmp .ne 7, 3) := by decide +kernel
theorem dL_slots_198 : decode cL_slots 198 = .ok (.iconst 1, 1) := by decide +kernel
theorem dL_slots_199 : decode cL_slots 199 = .ok (.goto 4, 3) := by decide +kernel
theorem dL_slots_202 : decode cL_slots 202 = .ok (.iconst 2, 1) := by decide +kernel
theorem dL_slots_203 : decode cL_slots 203 = .ok (.if_icmp .eq 5, 3) := by decide +kernel
theorem dL_slots_206 : decode cL_slots 206 = .ok (.iconst 0, 1) := by decide +kernel
theorem dL_slots_207 : decode cL_slots 207 = .ok (.ireturn, 1) := by decide +kernel
theorem dL_slots_208 : decode cL_slots 208 = .ok (.iinc 6 5, 3) := by decide +kernel
theorem dL_slots_211 : decode cL_slots 211 = .ok (.goto (-65), 3) := by decide +kernel
theorem dL_slots_214 : decode cL_slots 214 = .ok (.iinc 4 1, 3) := by decide +kernel
theorem dL_slots_217 : decode cL_slots 217 = .ok (.goto (-205), 3) := by decide +kernel
theorem dL_slots_220 : decode cL_slots 220 = .ok (.aload_n 0, 1) := by decide +kernel
theorem dL_slots_221 : decode cL_slots 221 = .ok (.iconst 0, 1) := by decide +kernel
theorem dL_slots_222 : decode cL_slots 222 = .ok (.invokevirtual 231, 3) := by decide +kernel
theorem dL_slots_225 : decode cL_slots 225 = .ok (.iload_n 2, 1) := by decide +kernel
theorem dL_slots_226 : decode cL_slots 226 = .ok (.if_icmp .ne 61, 3) := by decide +kernel
theorem dL_slots_229 : decode cL_slots 229 = .ok (.aload_n 0, 1) := by decide +kernel
theorem dL_slots_230 : decode cL_slots 230 = .ok (.invokevirtual 234, 3) := by decide +kernel
theorem dL_slots_233 : decode cL_slots 233 = .ok (.iload_n 3, 1) := by decide +kernel
theorem dL_slots_234 : decode cL_slots 234 = .ok (.i2d, 1) := by decide +kernel
theorem dL_slots_235 : decode cL_slots 235 = .ok (.ldc2_w 238, 3) := by decide +kernel
theorem dL_slots_238 : decode cL_slots 238 = .ok (.ddiv, 1) := by decide +kernel
theorem dL_slots_239 : decode cL_slots 239 = .ok (.dcmp .l, 1) := by decide +kernel
theorem dL_slots_240 : decode cL_slots 240 = .ok (.ifCond .ne 47, 3) := by decide +kernel
theorem dL_slots_243 : decode cL_slots 243 = .ok (.aload_n 0, 1) := by decide +kernel
theorem dL_slots_244 : decode cL_slots 244 = .ok (.bipush 32, 2) := by decide +kernel
theorem dL_slots_246 : decode cL_slots 246 = .ok (.invokestatic 202, 3) := by decide +kernel
theorem dL_slots_249 : decode cL_slots 249 = .ok (.bipush (-11), 2) := by decide +kernel
theorem dL_slots_251 : decode cL_slots 251 = .ok (.if_icmp .ne 36, 3) := by decide +kernel
theorem dL_slots_254 : decode cL_slots 254 = .ok (.aload_n 0, 1) := by decide +kernel
theorem dL_slots_255 : decode cL_slots 255 = .ok (.iconst (-1), 1) := by decide +kernel
theorem dL_slots_256 : decode cL_slots 256 = .ok (.invokestatic 225, 3) := by decide +kernel
theorem dL_slots_259 : decode cL_slots 259 = .ok (.bipush (-11), 2) := by decide +kernel
theorem dL_slots_261 : decode cL_slots 261 = .ok (.if_icmp .ne 26, 3) := by decide +kernel
theorem dL_slots_264 : decode cL_slots 264 = .ok (.aload_n 0, 1) := by decide +kernel
theorem dL_slots_265 : decode cL_slots 265 = .ok (.iconst 0, 1) := by decide +kernel
theorem dL_slots_266 : decode cL_slots 266 = .ok (.bipush 32, 2) := by decide +kernel
theorem dL_slots_268 : decode cL_slots 268 = .ok (.invokestatic 229, 3) := by decide +kernel
theorem dL_slots_271 : decode cL_slots 271 = .ok (.bipush (-11), 2) := by decide +kernel
theorem dL_slots_273 : decode cL_slots 273 = .ok (.if_icmp .ne 14, 3) := by decide +kernel
theorem dL_slots_276 : decode cL_slots 276 = .ok (.aload_n 0, 1) := by decide +kernel
theorem dL_slots_277 : decode cL_slots 277 = .ok (.invokevirtual 240, 3) := by decide +kernel
theorem dL_slots_280 : decode cL_slots 280 = .ok (.ifCond .eq 7, 3) := by decide +kernel
theorem dL_slots_283 : decode cL_slots 283 = .ok (.iconst 1, 1) := by decide +kernel
theorem dL_slots_284 : decode cL_slots 284 = .ok (.goto 4, 3) := by decide +kernel
theorem dL_slots_287 : decode cL_slots 287 = .ok (.iconst 0, 1) := by decide +kernel
theorem dL_slots_288 : decode cL_slots 288 = .ok (.ireturn, 1) := by decide +kernel
theorem dL_spells_0 : decode cL_spells 0 = .ok (.iload_n 1, 1) := by decide +kernel
theorem dL_spells_1 : decode cL_spells 1 = .ok (.aload_n 2, 1) := by decide +kernel
theorem dL_spells_2 : decode cL_spells 2 = .ok (.invokevirtual 113, 3) := by decide +kernel
theorem dL_spells_5 : decode cL_spells 5 = .ok (.if_icmp .ne 7, 3) := by decide +kernel
theorem dL_spells_8 : decode cL_spells 8 = .ok (.iconst 1, 1) := by decide +kernel
theorem dL_spells_9 : decode cL_spells 9 = .ok (.goto 4, 3) := by decide +kernel
theorem dL_spells_12 : decode cL_spells 12 = .ok (.iconst 0, 1) := by decide +kernel
theorem dL_spells_13 : decode cL_spells 13 = .ok (.istore_n 3, 1) := by decide +kernel
theorem dL_spells_14 : decode cL_spells 14 = .ok (.iconst 0, 1) := by decide +kernel
theorem dL_spells_15 : decode cL_spells 15 = .ok (.istore 4, 2) := by decide +kernel
theorem dL_spells_17 : decode cL_spells 17 = .ok (.iload 4, 2) := by decide +kernel
theorem dL_spells_19 : decode cL_spells 19 = .ok (.iload_n 1, 1) := by decide +kernel
theorem dL_spells_20 : decode cL_spells 20 = .ok (.if_icmp .ge 34, 3) := by decide +kernel
theorem dL_spells_23 : decode cL_spells 23 = .ok (.iload_n 3, 1) := by decide +kernel
theorem dL_spells_24 : decode cL_spells 24 = .ok (.ifCond .eq 30, 3) := by decide +kernel
theorem dL_spells_27 : decode cL_spells 27 = .ok (.aload_n 0, 1) := by decide +kernel
theorem dL_spells_28 : decode cL_spells 28 = .ok (.iload 4, 2) := by decide +kernel
theorem dL_spells_30 : decode cL_spells 30 = .ok (.invokestatic 244, 3) := by decide +kernel
theorem dL_spells_33 : decode cL_spells 33 = .ok (.aload_n 2, 1) := by decide +kernel
theorem dL_spells_34 : decode cL_spells 34 = .ok (.iload 4, 2) := by decide +kernel
theorem dL_spells_36 : decode cL_spells 36 = .ok (.invokevirtual 118, 3) := by decide +kernel
theorem dL_spells_39 : decode cL_spells 39 = .ok (.if_icmp .ne 7, 3) := by decide +kernel
theorem dL_spells_42 : decode cL_spells 42 = .ok (.iconst 1, 1) := by decide +kernel
theorem dL_spells_43 : decode cL_spells 43 = .ok (.goto 4, 3) := by decide +kernel
theorem dL_spells_46 : decode cL_spells 46 = .ok (.iconst 0, 1) := by decide +kernel
theorem dL_spells_47 : decode cL_spells 47 = .ok (.istore_n 3, 1) := by decide +kernel
theorem dL_spells_48 : decode cL_spells 48 = .ok (.iinc 4 1, 3) := by decide +kernel
theorem dL_spells_51 : decode cL_spells 51 = .ok (.goto (-34), 3) := by decide +kernel
theorem dL_spells_54 : decode cL_spells 54 = .ok (.iload_n 3, 1) := by decide +kernel
theorem dL_spells_55 : decode cL_spells 55 = .ok (.ifCond .eq 17, 3) := by decide +kernel
theorem dL_spells_58 : decode cL_spells 58 = .ok (.aload_n 0, 1) := by decide +kernel
theorem dL_spells_59 : decode cL_spells 59 = .ok (.iload_n 1, 1) := by decide +kernel
theorem dL_spells_60 : decode cL_spells 60 = .ok (.invokestatic 244, 3) := by decide +kernel
theorem dL_spells_63 : decode cL_spells 63 = .ok (.bipush (-11), 2) := by decide +kernel
theorem dL_spells_65 : decode cL_spells 65 = .ok (.if_icmp .ne 7, 3) := by decide +kernel
theorem dL_spells_68 : decode cL_spells 68 = .ok (.iconst 1, 1) := by decide +kernel
theorem dL_spells_69 : decode cL_spells 69 = .ok (.goto 4, 3) := by decide +kernel
theorem dL_spells_72 : decode cL_spells 72 = .ok (.iconst 0, 1) := by decide +kernel
theorem dL_spells_73 : decode cL_spells 73 = .ok (.ireturn, 1) := by decide +kernel
theorem dL_seams_0 : decode cL_seams 0 = .ok (.iconst 0, 1) := by decide +kernel
theorem dL_seams_1 : decode cL_seams 1 = .ok (.istore_n 1, 1) := by decide +kernel
theorem dL_seams_2 : decode cL_seams 2 = .ok (.iconst 0, 1) := by decide +kernel
theorem dL_seams_3 : decode cL_seams 3 = .ok (.istore_n 2, 1) := by decide +kernel
theorem dL_seams_4 : decode cL_seams 4 = .ok (.iconst 0, 1) := by decide +kernel
theorem dL_seams_5 : decode cL_seams 5 = .ok (.istore_n 3, 1) := by decide +kernel
theorem dL_seams_6 : decode cL_seams 6 = .ok (.iload_n 3, 1) := by decide +kernel
theorem dL_seams_7 : decode cL_seams 7 = .ok (.iconst 4, 1) := by decide +kernel
theorem dL_seams_8 : decode cL_seams 8 = .ok (.if_icmp .ge 192, 3) := by decide +kernel
theorem dL_seams_11 : decode cL_seams 11 = .ok (.new 157, 3) := by decide +kernel
theorem dL_seams_14 : decode cL_seams 14 = .ok (.dup, 1) := by decide +kernel
theorem dL_seams_15 : decode cL_seams 15 = .ok (.invokespecial 187, 3) := by decide +kernel
theorem dL_seams_18 : decode cL_seams 18 = .ok (.astore 4, 2) := by decide +kernel
theorem dL_seams_20 : decode cL_seams 20 = .ok (.iconst 0, 1) := by decide +kernel
theorem dL_seams_21 : decode cL_seams 21 = .ok (.istore 5, 2) := by decide +kernel
theorem dL_seams_23 : decode cL_seams 23 = .ok (.iconst 0, 1) := by decide +kernel
theorem dL_seams_24 : decode cL_seams 24 = .ok (.istore 6, 2) := by decide +kernel
theorem dL_seams_26 : decode cL_seams 26 = .ok (.iload 6, 2) := by decide +kernel
theorem dL_seams_28 : decode cL_seams 28 = .ok (.bipush 8, 2) := by decide +kernel
theorem dL_seams_30 : decode cL_seams 30 = .ok (.if_icmp .ge 110, 3) := by decide +kernel
theorem dL_seams_33 : decode cL_seams 33 = .ok (.aload_n 0, 1) := by decide +kernel
theorem dL_seams_34 : decode cL_seams 34 = .ok (.bipush 8, 2) := by decide +kernel
theorem dL_seams_36 : decode cL_seams 36 = .ok (.iload_n 3, 1) := by decide +kernel
theorem dL_seams_37 : decode cL_seams 37 = .ok (.imul, 1) := by decide +kernel
theorem dL_seams_38 : decode cL_seams 38 = .ok (.iload 6, 2) := by decide +kernel
theorem dL_seams_40 : decode cL_seams 40 = .ok (.iadd, 1) := by decide +kernel
theorem dL_seams_41 : decode cL_seams 41 = .ok (.invokestatic 227, 3) := by decide +kernel
theorem dL_seams_44 : decode cL_seams 44 = .ok (.istore 7, 2) := by decide +kernel
theorem dL_seams_46 : decode cL_seams 46 = .ok (.aload 4, 2) := by decide +kernel
theorem dL_seams_48 : decode cL_seams 48 = .ok (.iload 7, 2) := by decide +kernel
theorem dL_seams_50 : decode cL_seams 50 = .ok (.invokevirtual 166, 3) := by decide +kernel
theorem dL_seams_53 : decode cL_seams 53 = .ok (.pop, 1) := by decide +kernel
theorem dL_seams_54 : decode cL_seams 54 = .ok (.iload 5, 2) := by decide +kernel
theorem dL_seams_56 : decode cL_seams 56 = .ok (.iload 7, 2) := by decide +kernel
theorem dL_seams_58 : decode cL_seams 58 = .ok (.aload_n 0, 1) := by decide +kernel
theorem dL_seams_59 : decode cL_seams 59 = .ok (.bipush 8, 2) := by decide +kernel
theorem dL_seams_61 : decode cL_seams 61 = .ok (.iload_n 3, 1) := by decide +kernel
theorem dL_seams_62 : decode cL_seams 62 = .ok (.imul, 1) := by decide +kernel
theorem dL_seams_63 : decode cL_seams 63 = .ok (.invokestatic 227, 3) := by decide +kernel
theorem dL_seams_66 : decode cL_seams 66 = .ok (.if_icmp .ne 7, 3) := by decide +kernel
theorem dL_seams_69 : decode cL_seams 69 = .ok (.iconst 1, 1) := by decide +kernel
theorem dL_seams_70 : decode cL_seams 70 = .ok (.goto 4, 3) := by decide +kernel
theorem dL_seams_73 : decode cL_seams 73 = .ok (.iconst 0, 1) := by decide +kernel
theorem dL_seams_74 : decode cL_seams 74 = .ok (.iadd, 1) := by decide +kernel
theorem dL_seams_75 : decode cL_seams 75 = .ok (.istore 5, 2) := by decide +kernel
theorem dL_seams_77 : decode cL_seams 77 = .ok (.iload_n 1, 1) := by decide +kernel
theorem dL_seams_78 : decode cL_seams 78 = .ok (.iload 7, 2) := by decide +kernel
theorem dL_seams_80 : decode cL_seams 80 = .ok (.aload_n 0, 1) := by decide +kernel
theorem dL_seams_81 : decode cL_seams 81 = .ok (.bipush 8, 2) := by decide +kernel
theorem dL_seams_83 : decode cL_seams 83 = .ok (.iload_n 3, 1) := by decide +kernel
theorem dL_seams_84 : decode cL_seams 84 = .ok (.imul, 1) := by decide +kernel
theorem dL_seams_85 : decode cL_seams 85 = .ok (.iload 6, 2) := by decide +kernel
theorem dL_seams_87 : decode cL_seams 87 = .ok (.iconst 1, 1) := by decide +kernel
theorem dL_seams_88 : decode cL_seams 88 = .ok (.iadd, 1) := by decide +kernel
theorem dL_seams_89 : decode cL_seams 89 = .ok (.bipush 8, 2) := by decide +kernel
theorem dL_seams_91 : decode cL_seams 91 = .ok (.irem, 1) := by decide +kernel
theorem dL_seams_92 : decode cL_seams 92 = .ok (.iadd, 1) := by decide +kernel
theorem dL_seams_93 : decode cL_seams 93 = .ok (.invokestatic 227, 3) := by decide +kernel
theorem dL_seams_96 : decode cL_seams 96 = .ok (.if_icmp .ne 7, 3) := by decide +kernel
theorem dL_seams_99 : decode cL_seams 99 = .ok (.iconst 0, 1) := by decide +kernel
theorem dL_seams_100 : decode cL_seams 100 = .ok (.goto 4, 3) := by decide +kernel
theorem dL_seams_103 : decode cL_seams 103 = .ok (.iconst 1, 1) := by decide +kernel
theorem dL_seams_104 : decode cL_seams 104 = .ok (.iadd, 1) := by decide +kernel
theorem dL_seams_105 : decode cL_seams 105 = .ok (.istore_n 1, 1) := by decide +kernel
theorem dL_seams_106 : decode cL_seams 106 = .ok (.iload_n 1, 1) := by decide +kernel
theorem dL_seams_107 : decode cL_seams 107 = .ok (.iload 7, 2) := by decide +kernel
theorem dL_seams_109 : decode cL_seams 109 = .ok (.aload_n 0, 1) := by decide +kernel
theorem dL_seams_110 : decode cL_seams 110 = .ok (.bipush 8, 2) := by decide +kernel
theorem dL_seams_112 : decode cL_seams 112 = .ok (.iload_n 3, 1) := by decide +kernel
theorem dL_seams_113 : decode cL_seams 113 = .ok (.iconst 1, 1) := by decide +kernel
theorem dL_seams_114 : decode cL_seams 114 = .ok (.iadd, 1) := by decide +kernel
theorem dL_seams_115 : decode cL_seams 115 = .ok (.iconst 4, 1) := by decide +kernel
theorem dL_seams_116 : decode cL_seams 116 = .ok (.irem, 1) := by decide +kernel
theorem dL_seams_117 : decode cL_seams 117 = .ok (.imul, 1) := by decide +kernel
theorem dL_seams_118 : decode cL_seams 118 = .ok (.iload 6, 2) := by decide +kernel
theorem dL_seams_120 : decode cL_seams 120 = .ok (.iadd, 1) := by decide +kernel
theorem dL_seams_121 : decode cL_seams 121 = .ok (.invokestatic 227, 3) := by decide +kernel
theorem dL_seams_124 : decode cL_seams 124 = .ok (.if_icmp .ne 7, 3) := by decide +kernel
theorem dL_seams_127 : decode cL_seams 127 = .ok (.iconst 0, 1) := by decide +kernel
theorem dL_seams_128 : decode cL_seams 128 = .ok (.goto 4, 3) := by decide +kernel
theorem dL_seams_131 : decode cL_seams 131 = .ok (.iconst 1, 1) := by decide +kernel
theorem dL_seams_132 : decode cL_seams 132 = .ok (.iadd, 1) := by decide +kernel
theorem dL_seams_133 : decode cL_seams 133 = .ok (.istore_n 1, 1) := by decide +kernel
theorem dL_seams_134 : decode cL_seams 134 = .ok (.iinc 6 1, 3) := by decide +kernel
theorem dL_seams_137 : decode cL_seams 137 = .ok (.goto (-111), 3) := by decide +kernel
theorem dL_seams_140 : decode cL_seams 140 = .ok (.iload_n 2, 1) := by decide +kernel
theorem dL_seams_141 : decode cL_seams 141 = .ok (.iload 5, 2) := by decide +kernel
theorem dL_seams_143 : decode cL_seams 143 = .ok (.bipush 8, 2) := by decide +kernel
theorem dL_seams_145 : decode cL_seams 145 = .ok (.if_icmp .ne 7, 3) := by decide +kernel
theorem dL_seams_148 : decode cL_seams 148 = .ok (.iconst 1, 1) := by decide +kernel
theorem dL_seams_149 : decode cL_seams 149 = .ok (.goto 4, 3) := by decide +kernel
theorem dL_seams_152 : decode cL_seams 152 = .ok (.iconst 0, 1) := by decide +kernel
theorem dL_seams_153 : decode cL_seams 153 = .ok (.iadd, 1) := by decide +kernel
theorem dL_seams_154 : decode cL_seams 154 = .ok (.istore_n 2, 1) := by decide +kernel
theorem dL_seams_155 : decode cL_seams 155 = .ok (.aload_n 0, 1) := by decide +kernel
theorem dL_seams_156 : decode cL_seams 156 = .ok (.iload_n 3, 1) := by decide +kernel
theorem dL_seams_157 : decode cL_seams 157 = .ok (.invokestatic 246, 3) := by decide +kernel
theorem dL_seams_160 : decode cL_seams 160 = .ok (.iload 5, 2) := by decide +kernel
theorem dL_seams_162 : decode cL_seams 162 = .ok (.bipush 8, 2) := by decide +kernel
theorem dL_seams_164 : decode cL_seams 164 = .ok (.if_icmp .ne 7, 3) := by decide +kernel
theorem dL_seams_167 : decode cL_seams 167 = .ok (.iconst 1, 1) := by decide +kernel
theorem dL_seams_168 : decode cL_seams 168 = .ok (.goto 4, 3) := by decide +kernel
theorem dL_seams_171 : decode cL_seams 171 = .ok (.iconst 0, 1) := by decide +kernel
theorem dL_seams_172 : decode cL_seams 172 = .ok (.if_icmp .ne 20, 3) := by decide +kernel
theorem dL_seams_175 : decode cL_seams 175 = .ok (.aload_n 0, 1) := by decide +kernel
theorem dL_seams_176 : decode cL_seams 176 = .ok (.aload_n 0, 1) := by decide +kernel
theorem dL_seams_177 : decode cL_seams 177 = .ok (.iload_n 3, 1) := by decide +kernel
theorem dL_seams_178 : decode cL_seams 178 = .ok (.invokestatic 248, 3) := by decide +kernel
theorem dL_seams_181 : decode cL_seams 181 = .ok (.aload 4, 2) := by decide +kernel
theorem dL_seams_183 : decode cL_seams 183 = .ok (.invokevirtual 188, 3) := by decide +kernel
theorem dL_seams_186 : decode cL_seams 186 = .ok (.invokestatic 250, 3) := by decide +kernel
theorem dL_seams_189 : decode cL_seams 189 = .ok (.ifCond .ne 5, 3) := by decide +kernel
theorem dL_seams_192 : decode cL_seams 192 = .ok (.iconst 0, 1) := by decide +kernel
theorem dL_seams_193 : decode cL_seams 193 = .ok (.ireturn, 1) := by decide +kernel
theorem dL_seams_194 : decode cL_seams 194 = .ok (.iinc 3 1, 3) := by decide +kernel
theorem dL_seams_197 : decode cL_seams 197 = .ok (.goto (-191), 3) := by decide +kernel
theorem dL_seams_200 : decode cL_seams 200 = .ok (.aload_n 0, 1) := by decide +kernel
theorem dL_seams_201 : decode cL_seams 201 = .ok (.invokevirtual 254, 3) := by decide +kernel
theorem dL_seams_204 : decode cL_seams 204 = .ok (.iload_n 1, 1) := by decide +kernel
theorem dL_seams_205 : decode cL_seams 205 = .ok (.if_icmp .ne 50, 3) := by decide +kernel
theorem dL_seams_208 : decode cL_seams 208 = .ok (.aload_n 0, 1) := by decide +kernel
theorem dL_seams_209 : decode cL_seams 209 = .ok (.invokevirtual 256, 3) := by decide +kernel
theorem dL_seams_212 : decode cL_seams 212 = .ok (.iload_n 1, 1) := by decide +kernel
theorem dL_seams_213 : decode cL_seams 213 = .ok (.i2f, 1) := by decide +kernel
theorem dL_seams_214 : decode cL_seams 214 = .ok (.ldc_w 260, 3) := by decide +kernel
theorem dL_seams_217 : decode cL_seams 217 = .ok (.fdiv, 1) := by decide +kernel
theorem dL_seams_218 : decode cL_seams 218 = .ok (.fcmp .l, 1) := by decide +kernel
theorem dL_seams_219 : decode cL_seams 219 = .ok (.ifCond .ne 36, 3) := by decide +kernel
theorem dL_seams_222 : decode cL_seams 222 = .ok (.aload_n 0, 1) := by decide +kernel
theorem dL_seams_223 : decode cL_seams 223 = .ok (.iconst 1, 1) := by decide +kernel
theorem dL_seams_224 : decode cL_seams 224 = .ok (.invokevirtual 231, 3) := by decide +kernel
theorem dL_seams_227 : decode cL_seams 227 = .ok (.iload_n 2, 1) := by decide +kernel
theorem dL_seams_228 : decode cL_seams 228 = .ok (.if_icmp .ne 27, 3) := by decide +kernel
theorem dL_seams_231 : decode cL_seams 231 = .ok (.aload_n 0, 1) := by decide +kernel
theorem dL_seams_232 : decode cL_seams 232 = .ok (.iconst 4, 1) := by decide +kernel
theorem dL_seams_233 : decode cL_seams 233 = .ok (.invokestatic 248, 3) := by decide +kernel
theorem dL_seams_236 : decode cL_seams 236 = .ok (.bipush (-11), 2) := by decide +kernel
theorem dL_seams_238 : decode cL_seams 238 = .ok (.if_icmp .ne 17, 3) := by decide +kernel
theorem dL_seams_241 : decode cL_seams 241 = .ok (.aload_n 0, 1) := by decide +kernel
theorem dL_seams_242 : decode cL_seams 242 = .ok (.iconst (-1), 1) := by decide +kernel
theorem dL_seams_243 : decode cL_seams 243 = .ok (.invokestatic 246, 3) := by decide +kernel
theorem dL_seams_246 : decode cL_seams 246 = .ok (.bipush (-11), 2) := by decide +kernel
theorem dL_seams_248 : decode cL_seams 248 = .ok (.if_icmp .ne 7, 3) := by decide +kernel
theorem dL_seams_251 : decode cL_seams 251 = .ok (.iconst 1, 1) := by decide +kernel
theorem dL_seams_252 : decode cL_seams 252 = .ok (.goto 4, 3) := by decide +kernel
theorem dL_seams_255 : decode cL_seams 255 = .ok (.iconst 0, 1) := by decide +kernel
theorem dL_seams_256 : decode cL_seams 256 = .ok (.ireturn, 1) := by decide +kernel
theorem dL_shelves_0 : decode cL_shelves 0 = .ok (.iconst 0, 1) := by decide +kernel
theorem dL_shelves_1 : decode cL_shelves 1 = .ok (.istore_n 1, 1) := by decide +kernel
theorem dL_shelves_2 : decode cL_shelves 2 = .ok (.iconst 0, 1) := by decide +kernel
theorem dL_shelves_3 : decode cL_shelves 3 = .ok (.istore_n 2, 1) := by decide +kernel
theorem dL_shelves_4 : decode cL_shelves 4 = .ok (.iload_n 2, 1) := by decide +kernel
theorem dL_shelves_5 : decode cL_shelves 5 = .ok (.iconst 5, 1) := by decide +kernel
theorem dL_shelves_6 : decode cL_shelves 6 = .ok (.if_icmp .ge 551, 3) := by decide +kernel
theorem dL_shelves_9 : decode cL_shelves 9 = .ok (.aload_n 0, 1) := by decide +kernel
theorem dL_shelves_10 : decode cL_shelves 10 = .ok (.iload_n 2, 1) := by decide +kernel
theorem dL_shelves_11 : decode cL_shelves 11 = .ok (.invokestatic 261, 3) := by decide +kernel
theorem dL_shelves_14 : decode cL_shelves 14 = .ok (.astore_n 3, 1) := by decide +kernel
theorem dL_shelves_15 : decode cL_shelves 15 = .ok (.aload_n 3, 1) := by decide +kernel
theorem dL_shelves_16 : decode cL_shelves 16 = .ok (.ifnonnull 80, 3) := by decide +kernel
theorem dL_shelves_19 : decode cL_shelves 19 = .ok (.aload_n 0, 1) := by decide +kernel
theorem dL_shelves_20 : decode cL_shelves 20 = .ok (.iload_n 2, 1) := by decide +kernel
theorem dL_shelves_21 : decode cL_shelves 21 = .ok (.iconst 0, 1) := by decide +kernel
theorem dL_shelves_22 : decode cL_shelves 22 = .ok (.invokestatic 265, 3) := by decide +kernel
theorem dL_shelves_25 : decode cL_shelves 25 = .ok (.bipush (-13), 2) := by decide +kernel
theorem dL_shelves_27 : decode cL_shelves 27 = .ok (.if_icmp .ne 67, 3) := by decide +kernel
theorem dL_shelves_30 : decode cL_shelves 30 = .ok (.aload_n 0, 1) := by decide +kernel
theorem dL_shelves_31 : decode cL_shelves 31 = .ok (.iload_n 2, 1) := by decide +kernel
theorem dL_shelves_32 : decode cL_shelves 32 = .ok (.invokestatic 267, 3) := by decide +kernel
theorem dL_shelves_35 : decode cL_shelves 35 = .ok (.bipush (-13), 2) := by decide +kernel
theorem dL_shelves_37 : decode cL_shelves 37 = .ok (.if_icmp .ne 57, 3) := by decide +kernel
theorem dL_shelves_40 : decode cL_shelves 40 = .ok (.aload_n 0, 1) := by decide +kernel
theorem dL_shelves_41 : decode cL_shelves 41 = .ok (.iload_n 2, 1) := by decide +kernel
theorem dL_shelves_42 : decode cL_shelves 42 = .ok (.iconst 1, 1) := by decide +kernel
theorem dL_shelves_43 : decode cL_shelves 43 = .ok (.invokestatic 269, 3) := by decide +kernel
theorem dL_shelves_46 : decode cL_shelves 46 = .ok (.bipush (-13), 2) := by decide +kernel
theorem dL_shelves_48 : decode cL_shelves 48 = .ok (.if_icmp .ne 46, 3) := by decide +kernel
theorem dL_shelves_51 : decode cL_shelves 51 = .ok (.aload_n 0, 1) := by decide +kernel
theorem dL_shelves_52 : decode cL_shelves 52 = .ok (.iload_n 2, 1) := by decide +kernel
theorem dL_shelves_53 : decode cL_shelves 53 = .ok (.iconst 0, 1) := by decide +kernel
theorem dL_shelves_54 : decode cL_shelves 54 = .ok (.invokestatic 272, 3) := by decide +kernel
theorem dL_shelves_57 : decode cL_shelves 57 = .ok (.bipush (-13), 2) := by decide +kernel
theorem dL_shelves_59 : decode cL_shelves 59 = .ok (.if_icmp .ne 35, 3) := by decide +kernel
theorem dL_shelves_62 : decode cL_shelves 62 = .ok (.aload_n 0, 1) := by decide +kernel
theorem dL_shelves_63 : decode cL_shelves 63 = .ok (.iload_n 2, 1) := by decide +kernel
theorem dL_shelves_64 : decode cL_shelves 64 = .ok (.iload_n 2, 1) := by decide +kernel
theorem dL_shelves_65 : decode cL_shelves 65 = .ok (.invokestatic 274, 3) := by decide +kernel
theorem dL_shelves_68 : decode cL_shelves 68 = .ok (.bipush (-13), 2) := by decide +kernel
theorem dL_shelves_70 : decode cL_shelves 70 = .ok (.if_icmp .ne 24, 3) := by decide +kernel
theorem dL_shelves_73 : decode cL_shelves 73 = .ok (.aload_n 0, 1) := by decide +kernel
theorem dL_shelves_74 : decode cL_shelves 74 = .ok (.iload_n 2, 1) := by decide +kernel
theorem dL_shelves_75 : decode cL_shelves 75 = .ok (.invokestatic 276, 3) := by decide +kernel
theorem dL_shelves_78 : decode cL_shelves 78 = .ok (.bipush (-13), 2) := by decide +kernel
theorem dL_shelves_80 : decode cL_shelves 80 = .ok (.if_icmp .ne 14, 3) := by decide +kernel
theorem dL_shelves_83 : decode cL_shelves 83 = .ok (.aload_n 0, 1) := by decide +kernel
theorem dL_shelves_84 : decode cL_shelves 84 = .ok (.iload_n 2, 1) := by decide +kernel
theorem dL_shelves_85 : decode cL_shelves 85 = .ok (.iconst 1, 1) := by decide +kernel
theorem dL_shelves_86 : decode cL_shelves 86 = .ok (.invokestatic 195, 3) := by decide +kernel
theorem dL_shelves_89 : decode cL_shelves 89 = .ok (.bipush (-3), 2) := by decide +kernel
theorem dL_shelves_91 : decode cL_shelves 91 = .ok (.if_icmp .eq 460, 3) := by decide +kernel
theorem dL_shelves_94 : decode cL_shelves 94 = .ok (.iconst 0, 1) := by decide +kernel
theorem dL_shelves_95 : decode cL_shelves 95 = .ok (.ireturn, 1) := by decide +kernel
theorem dL_shelves_96 : decode cL_shelves 96 = .ok (.iinc 1 1, 3) := by decide +kernel
theorem dL_shelves_99 : decode cL_shelves 99 = .ok (.iconst 0, 1) := by decide +kernel
theorem dL_shelves_100 : decode cL_shelves 100 = .ok (.istore 4, 2) := by decide +kernel
theorem dL_shelves_102 : decode cL_shelves 102 = .ok (.iconst 0, 1) := by decide +kernel
theorem dL_shelves_103 : decode cL_shelves 103 = .ok (.istore 5, 2) := by decide +kernel
theorem dL_shelves_105 : decode cL_shelves 105 = .ok (.iconst 0, 1) := by decide +kernel
theorem dL_shelves_106 : decode cL_shelves 106 = .ok (.istore 6, 2) := by decide +kernel
theorem dL_shelves_108 : decode cL_shelves 108 = .ok (.iconst 0, 1) := by decide +kernel
theorem dL_shelves_109 : decode cL_shelves 109 = .ok (.istore 7, 2) := by decide +kernel
theorem dL_shelves_111 : decode cL_shelves 111 = .ok (.new 157, 3) := by decide +kernel
theorem dL_shelves_114 : decode cL_shelves 114 = .ok (.dup, 1) := by decide +kernel
theorem dL_shelves_115 : decode cL_shelves 115 = .ok (.invokespecial 187, 3) := by decide +kernel
theorem dL_shelves_118 : decode cL_shelves 118 = .ok (.astore 8, 2) := by decide +kernel
theorem dL_shelves_120 : decode cL_shelves 120 = .ok (.iconst 0, 1) := by decide +kernel
theorem dL_shelves_121 : decode cL_shelves 121 = .ok (.istore 9, 2) := by decide +kernel
theorem dL_shelves_123 : decode cL_shelves 123 = .ok (.iload 9, 2) := by decide +kernel
theorem dL_shelves_125 : decode cL_shelves 125 = .ok (.bipush 32, 2) := by decide +kernel
theorem dL_shelves_127 : decode cL_shelves 127 = .ok (.if_icmp .ge 193, 3) := by decide +kernel
theorem dL_shelves_130 : decode cL_shelves 130 = .ok (.iconst 1, 1) := by decide +kernel
theorem dL_shelves_131 : decode cL_shelves 131 = .ok (.istore 10, 2) := by decide +kernel
theorem dL_shelves_133 : decode cL_shelves 133 = .ok (.iload 9, 2) := by decide +kernel
theorem dL_shelves_135 : decode cL_shelves 135 = .ok (.istore 11, 2) := by decide +kernel
theorem dL_shelves_137 : decode cL_shelves 137 = .ok (.new 157, 3) := by decide +kernel
theorem dL_shelves_140 : decode cL_shelves 140 = .ok (.dup, 1) := by decide +kernel
theorem dL_shelves_141 : decode cL_shelves 141 = .ok (.invokespecial 187, 3) := by decide +kernel
theorem dL_shelves_144 : decode cL_shelves 144 = .ok (.bipush 40, 2) := by decide +kernel
theorem dL_shelves_146 : decode cL_shelves 146 = .ok (.invokevirtual 159, 3) := by decide +kernel
theorem dL_shelves_149 : decode cL_shelves 149 = .ok (.iload 9, 2) := by decide +kernel
theorem dL_shelves_151 : decode cL_shelves 151 = .ok (.invokevirtual 166, 3) := by decide +kernel
theorem dL_shelves_154 : decode cL_shelves 154 = .ok (.astore 12, 2) := by decide +kernel
theorem dL_shelves_156 : decode cL_shelves 156 = .ok (.aload_n 3, 1) := by decide +kernel
theorem dL_shelves_157 : decode cL_shelves 157 = .ok (.iload 9, 2) := by decide +kernel
theorem dL_shelves_159 : decode cL_shelves 159 = .ok (.iaload, 1) := by decide +kernel
theorem dL_shelves_160 : decode cL_shelves 160 = .ok (.istore 13, 2) := by decide +kernel
theorem dL_shelves_162 : decode cL_shelves 162 = .ok (.iload 13, 2) := by decide +kernel
theorem dL_shelves_164 : decode cL_shelves 164 = .ok (.iload 9, 2) := by decide +kernel
theorem dL_shelves_166 : decode cL_shelves 166 = .ok (.if_icmp .eq 37, 3) := by decide +kernel
theorem dL_shelves_169 : decode cL_shelves 169 = .ok (.iinc 10 1, 3) := by decide +kernel
theorem dL_shelves_172 : decode cL_shelves 172 = .ok (.iload 11, 2) := by decide +kernel
theorem dL_shelves_174 : decode cL_shelves 174 = .ok (.iload 13, 2) := by decide +kernel
theorem dL_shelves_176 : decode cL_shelves 176 = .ok (.invokestatic 278, 3) := by decide +kernel
theorem dL_shelves_179 : decode cL_shelves 179 = .ok (.istore 11, 2) := by decide +kernel
theorem dL_shelves_181 : decode cL_shelves 181 = .ok (.aload 12, 2) := by decide +kernel
theorem dL_shelves_183 : decode cL_shelves 183 = .ok (.bipush 32, 2) := by decide +kernel
theorem dL_shelves_185 : decode cL_shelves 185 = .ok (.invokevirtual 159, 3) := by decide +kernel
theorem dL_shelves_188 : decode cL_shelves 188 = .ok (.iload 13, 2) := by decide +kernel
theorem dL_shelves_190 : decode cL_shelves 190 = .ok (.invokevirtual 166, 3) := by decide +kernel
theorem dL_shelves_193 : decode cL_shelves 193 = .ok (.pop, 1) := by decide +kernel
theorem dL_shelves_194 : decode cL_shelves 194 = .ok (.aload_n 3, 1) := by decide +kernel
theorem dL_shelves_195 : decode cL_shelves 195 = .ok (.iload 13, 2) := by decide +kernel
theorem dL_shelves_197 : decode cL_shelves 197 = .ok (.iaload, 1) := by decide +kernel
theorem dL_shelves_198 : decode cL_shelves 198 = .ok (.istore 13, 2) := by decide +kernel
theorem dL_shelves_200 : decode cL_shelves 200 = .ok (.goto (-38), 3) := by decide +kernel
theorem dL_shelves_203 : decode cL_shelves 203 = .ok (.iload 4, 2) := by decide +kernel
theorem dL_shelves_205 : decode cL_shelves 205 = .ok (.iload 10, 2) := by decide +kernel
theorem dL_shelves_207 : decode cL_shelves 207 = .ok (.iconst 1, 1) := by decide +kernel
theorem dL_shelves_208 : decode cL_shelves 208 = .ok (.if_icmp .le 7, 3) := by decide +kernel
theorem dL_shelves_211 : decode cL_shelves 211 = .ok (.iconst 1, 1) := by decide +kernel
theorem dL_shelves_212 : decode cL_shelves 212 = .ok (.goto 4, 3) := by decide +kernel
theorem dL_shelves_215 : decode cL_shelves 215 = .ok (.iconst 0, 1) := by decide +kernel
theorem dL_shelves_216 : decode cL_shelves 216 = .ok (.iadd, 1) := by decide +kernel
theorem dL_shelves_217 : decode cL_shelves 217 = .ok (.istore 4, 2) := by decide +kernel
theorem dL_shelves_219 : decode cL_shelves 219 = .ok (.iload 6, 2) := by decide +kernel
theorem dL_shelves_221 : decode cL_shelves 221 = .ok (.iload 11, 2) := by decide +kernel
theorem dL_shelves_223 : decode cL_shelves 223 = .ok (.iload 9, 2) := by decide +kernel
theorem dL_shelves_225 : decode cL_shelves 225 = .ok (.if_icmp .ne 7, 3) := by decide +kernel
theorem dL_shelves_228 : decode cL_shelves 228 = .ok (.iconst 1, 1) := by decide +kernel
theorem dL_shelves_229 : decode cL_shelves 229 = .ok (.goto 4, 3) := by decide +kernel
theorem dL_shelves_232 : decode cL_shelves 232 = .ok (.iconst 0, 1) := by decide +kernel
theorem dL_shelves_233 : decode cL_shelves 233 = .ok (.iadd, 1) := by decide +kernel
theorem dL_shelves_234 : decode cL_shelves 234 = .ok (.istore 6, 2) := by decide +kernel
theorem dL_shelves_236 : decode cL_shelves 236 = .ok (.iload 5, 2) := by decide +kernel
theorem dL_shelves_238 : decode cL_shelves 238 = .ok (.iload 10, 2) := by decide +kernel
theorem dL_shelves_240 : decode cL_shelves 240 = .ok (.iconst 1, 1) := by decide +kernel
theorem dL_shelves_241 : decode cL_shelves 241 = .ok (.if_icmp .le 14, 3) := by decide +kernel
theorem dL_shelves_244 : decode cL_shelves 244 = .ok (.iload 11, 2) := by decide +kernel
theorem dL_shelves_246 : decode cL_shelves 246 = .ok (.iload 9, 2) := by decide +kernel
theorem dL_shelves_248 : decode cL_shelves 248 = .ok (.if_icmp .ne 7, 3) := by decide +kernel
theorem dL_shelves_251 : decode cL_shelves 251 = .ok (.iconst 1, 1) := by decide +kernel
theorem dL_shelves_252 : decode cL_shelves 252 = .ok (.goto 4, 3) := by decide +kernel
theorem dL_shelves_255 : decode cL_shelves 255 = .ok (.iconst 0, 1) := by decide +kernel
theorem dL_shelves_256 : decode cL_shelves 256 = .ok (.iadd, 1) := by decide +kernel
