/-! ===== printed: decode rows of the model ===== -/
theorem dX8_item_117 : decode cX8_item 117 = .ok (.iadd, 1) := by decide +kernel
theorem dX8_item_118 : decode cX8_item 118 = .ok (.istore 4, 2) := by decide +kernel
theorem dX8_item_120 : decode cX8_item 120 = .ok (.aload_n 0, 1) := by decide +kernel
theorem dX8_item_121 : decode cX8_item 121 = .ok (.getfield 137, 3) := by decide +kernel
theorem dX8_item_124 : decode cX8_item 124 = .ok (.ifCond .eq 7, 3) := by decide +kernel
theorem dX8_item_127 : decode cX8_item 127 = .ok (.iconst 0, 1) := by decide +kernel
theorem dX8_item_128 : decode cX8_item 128 = .ok (.goto 11, 3) := by decide +kernel
theorem dX8_item_131 : decode cX8_item 131 = .ok (.aload_n 0, 1) := by decide +kernel
theorem dX8_item_132 : decode cX8_item 132 = .ok (.iconst 0, 1) := by decide +kernel
theorem dX8_item_133 : decode cX8_item 133 = .ok (.iload_n 3, 1) := by decide +kernel
theorem dX8_item_134 : decode cX8_item 134 = .ok (.iload 4, 2) := by decide +kernel
theorem dX8_item_136 : decode cX8_item 136 = .ok (.invokevirtual 82, 3) := by decide +kernel
theorem dX8_item_139 : decode cX8_item 139 = .ok (.ireturn, 1) := by decide +kernel
theorem dX8_item_140 : decode cX8_item 140 = .ok (.aload_n 0, 1) := by decide +kernel
theorem dX8_item_141 : decode cX8_item 141 = .ok (.bipush 48, 2) := by decide +kernel
theorem dX8_item_143 : decode cX8_item 143 = .ok (.bipush 55, 2) := by decide +kernel
theorem dX8_item_145 : decode cX8_item 145 = .ok (.invokevirtual 155, 3) := by decide +kernel
theorem dX8_item_148 : decode cX8_item 148 = .ok (.istore_n 3, 1) := by decide +kernel
theorem dX8_item_149 : decode cX8_item 149 = .ok (.aload_n 0, 1) := by decide +kernel
theorem dX8_item_150 : decode cX8_item 150 = .ok (.getfield 137, 3) := by decide +kernel
theorem dX8_item_153 : decode cX8_item 153 = .ok (.ifCond .eq 7, 3) := by decide +kernel
theorem dX8_item_156 : decode cX8_item 156 = .ok (.iconst 0, 1) := by decide +kernel
theorem dX8_item_157 : decode cX8_item 157 = .ok (.goto 13, 3) := by decide +kernel
theorem dX8_item_160 : decode cX8_item 160 = .ok (.iconst 1, 1) := by decide +kernel
theorem dX8_item_161 : decode cX8_item 161 = .ok (.aload_n 0, 1) := by decide +kernel
theorem dX8_item_162 : decode cX8_item 162 = .ok (.bipush 49, 2) := by decide +kernel
theorem dX8_item_164 : decode cX8_item 164 = .ok (.bipush 51, 2) := by decide +kernel
theorem dX8_item_166 : decode cX8_item 166 = .ok (.invokevirtual 155, 3) := by decide +kernel
theorem dX8_item_169 : decode cX8_item 169 = .ok (.iadd, 1) := by decide +kernel
theorem dX8_item_170 : decode cX8_item 170 = .ok (.istore 4, 2) := by decide +kernel
theorem dX8_item_172 : decode cX8_item 172 = .ok (.aload_n 0, 1) := by decide +kernel
theorem dX8_item_173 : decode cX8_item 173 = .ok (.getfield 137, 3) := by decide +kernel
theorem dX8_item_176 : decode cX8_item 176 = .ok (.ifCond .eq 7, 3) := by decide +kernel
theorem dX8_item_179 : decode cX8_item 179 = .ok (.iconst 0, 1) := by decide +kernel
theorem dX8_item_180 : decode cX8_item 180 = .ok (.goto 11, 3) := by decide +kernel
theorem dX8_item_183 : decode cX8_item 183 = .ok (.aload_n 0, 1) := by decide +kernel
theorem dX8_item_184 : decode cX8_item 184 = .ok (.iconst 1, 1) := by decide +kernel
theorem dX8_item_185 : decode cX8_item 185 = .ok (.iload_n 3, 1) := by decide +kernel
theorem dX8_item_186 : decode cX8_item 186 = .ok (.iload 4, 2) := by decide +kernel
theorem dX8_item_188 : decode cX8_item 188 = .ok (.invokevirtual 82, 3) := by decide +kernel
theorem dX8_item_191 : decode cX8_item 191 = .ok (.ireturn, 1) := by decide +kernel
theorem dX8_item_192 : decode cX8_item 192 = .ok (.aload_n 0, 1) := by decide +kernel
theorem dX8_item_193 : decode cX8_item 193 = .ok (.bipush 48, 2) := by decide +kernel
theorem dX8_item_195 : decode cX8_item 195 = .ok (.bipush 52, 2) := by decide +kernel
theorem dX8_item_197 : decode cX8_item 197 = .ok (.invokevirtual 144, 3) := by decide +kernel
theorem dX8_item_200 : decode cX8_item 200 = .ok (.ifCond .eq 30, 3) := by decide +kernel
theorem dX8_item_203 : decode cX8_item 203 = .ok (.aload_n 0, 1) := by decide +kernel
theorem dX8_item_204 : decode cX8_item 204 = .ok (.getfield 9, 3) := by decide +kernel
theorem dX8_item_207 : decode cX8_item 207 = .ok (.iconst 3, 1) := by decide +kernel
theorem dX8_item_208 : decode cX8_item 208 = .ok (.aload_n 0, 1) := by decide +kernel
theorem dX8_item_209 : decode cX8_item 209 = .ok (.getfield 31, 3) := by decide +kernel
theorem dX8_item_212 : decode cX8_item 212 = .ok (.aload_n 0, 1) := by decide +kernel
theorem dX8_item_213 : decode cX8_item 213 = .ok (.getfield 141, 3) := by decide +kernel
theorem dX8_item_216 : decode cX8_item 216 = .ok (.caload, 1) := by decide +kernel
theorem dX8_item_217 : decode cX8_item 217 = .ok (.iadd, 1) := by decide +kernel
theorem dX8_item_218 : decode cX8_item 218 = .ok (.bipush 48, 2) := by decide +kernel
theorem dX8_item_220 : decode cX8_item 220 = .ok (.isub, 1) := by decide +kernel
theorem dX8_item_221 : decode cX8_item 221 = .ok (.iaload, 1) := by decide +kernel
theorem dX8_item_222 : decode cX8_item 222 = .ok (.iconst 1, 1) := by decide +kernel
theorem dX8_item_223 : decode cX8_item 223 = .ok (.if_icmp .ne 7, 3) := by decide +kernel
theorem dX8_item_226 : decode cX8_item 226 = .ok (.iconst 1, 1) := by decide +kernel
theorem dX8_item_227 : decode cX8_item 227 = .ok (.goto 4, 3) := by decide +kernel
theorem dX8_item_230 : decode cX8_item 230 = .ok (.iconst 0, 1) := by decide +kernel
theorem dX8_item_231 : decode cX8_item 231 = .ok (.istore 5, 2) := by decide +kernel
theorem dX8_item_233 : decode cX8_item 233 = .ok (.aload_n 0, 1) := by decide +kernel
theorem dX8_item_234 : decode cX8_item 234 = .ok (.iload 5, 2) := by decide +kernel
theorem dX8_item_236 : decode cX8_item 236 = .ok (.ifCond .ne 7, 3) := by decide +kernel
theorem dX8_item_239 : decode cX8_item 239 = .ok (.iconst 1, 1) := by decide +kernel
theorem dX8_item_240 : decode cX8_item 240 = .ok (.goto 4, 3) := by decide +kernel
theorem dX8_item_243 : decode cX8_item 243 = .ok (.iconst 0, 1) := by decide +kernel
theorem dX8_item_244 : decode cX8_item 244 = .ok (.putfield 137, 3) := by decide +kernel
theorem dX8_item_247 : decode cX8_item 247 = .ok (.aload_n 0, 1) := by decide +kernel
theorem dX8_item_248 : decode cX8_item 248 = .ok (.getfield 137, 3) := by decide +kernel
theorem dX8_item_251 : decode cX8_item 251 = .ok (.ifCond .eq 7, 3) := by decide +kernel
theorem dX8_item_254 : decode cX8_item 254 = .ok (.iconst 0, 1) := by decide +kernel
theorem dX8_item_255 : decode cX8_item 255 = .ok (.goto 15, 3) := by decide +kernel
theorem dX8_item_258 : decode cX8_item 258 = .ok (.aload_n 0, 1) := by decide +kernel
theorem dX8_item_259 : decode cX8_item 259 = .ok (.aload_n 0, 1) := by decide +kernel
theorem dX8_item_260 : decode cX8_item 260 = .ok (.bipush 48, 2) := by decide +kernel
theorem dX8_item_262 : decode cX8_item 262 = .ok (.bipush 52, 2) := by decide +kernel
theorem dX8_item_264 : decode cX8_item 264 = .ok (.invokevirtual 155, 3) := by decide +kernel
theorem dX8_item_267 : decode cX8_item 267 = .ok (.invokevirtual 159, 3) := by decide +kernel
theorem dX8_item_270 : decode cX8_item 270 = .ok (.ireturn, 1) := by decide +kernel
theorem dX8_item_271 : decode cX8_item 271 = .ok (.aload_n 0, 1) := by decide +kernel
theorem dX8_item_272 : decode cX8_item 272 = .ok (.iload_n 1, 1) := by decide +kernel
theorem dX8_item_273 : decode cX8_item 273 = .ok (.iconst 1, 1) := by decide +kernel
theorem dX8_item_274 : decode cX8_item 274 = .ok (.iadd, 1) := by decide +kernel
theorem dX8_item_275 : decode cX8_item 275 = .ok (.invokevirtual 162, 3) := by decide +kernel
theorem dX8_item_278 : decode cX8_item 278 = .ok (.istore 6, 2) := by decide +kernel
theorem dX8_item_280 : decode cX8_item 280 = .ok (.aload_n 0, 1) := by decide +kernel
theorem dX8_item_281 : decode cX8_item 281 = .ok (.getfield 137, 3) := by decide +kernel
theorem dX8_item_284 : decode cX8_item 284 = .ok (.ifCond .eq 7, 3) := by decide +kernel
theorem dX8_item_287 : decode cX8_item 287 = .ok (.iconst 0, 1) := by decide +kernel
theorem dX8_item_288 : decode cX8_item 288 = .ok (.goto 11, 3) := by decide +kernel
theorem dX8_item_291 : decode cX8_item 291 = .ok (.aload_n 0, 1) := by decide +kernel
theorem dX8_item_292 : decode cX8_item 292 = .ok (.bipush 41, 2) := by decide +kernel
theorem dX8_item_294 : decode cX8_item 294 = .ok (.bipush 41, 2) := by decide +kernel
theorem dX8_item_296 : decode cX8_item 296 = .ok (.invokevirtual 155, 3) := by decide +kernel
theorem dX8_item_299 : decode cX8_item 299 = .ok (.istore 7, 2) := by decide +kernel
theorem dX8_item_301 : decode cX8_item 301 = .ok (.aload_n 0, 1) := by decide +kernel
theorem dX8_item_302 : decode cX8_item 302 = .ok (.getfield 137, 3) := by decide +kernel
theorem dX8_item_305 : decode cX8_item 305 = .ok (.ifCond .eq 7, 3) := by decide +kernel
theorem dX8_item_308 : decode cX8_item 308 = .ok (.iconst 0, 1) := by decide +kernel
theorem dX8_item_309 : decode cX8_item 309 = .ok (.goto 13, 3) := by decide +kernel
theorem dX8_item_312 : decode cX8_item 312 = .ok (.iconst 2, 1) := by decide +kernel
theorem dX8_item_313 : decode cX8_item 313 = .ok (.aload_n 0, 1) := by decide +kernel
theorem dX8_item_314 : decode cX8_item 314 = .ok (.bipush 50, 2) := by decide +kernel
theorem dX8_item_316 : decode cX8_item 316 = .ok (.bipush 57, 2) := by decide +kernel
theorem dX8_item_318 : decode cX8_item 318 = .ok (.invokevirtual 155, 3) := by decide +kernel
theorem dX8_item_321 : decode cX8_item 321 = .ok (.iadd, 1) := by decide +kernel
theorem dX8_item_322 : decode cX8_item 322 = .ok (.istore 4, 2) := by decide +kernel
theorem dX8_item_324 : decode cX8_item 324 = .ok (.aload_n 0, 1) := by decide +kernel
theorem dX8_item_325 : decode cX8_item 325 = .ok (.getfield 137, 3) := by decide +kernel
theorem dX8_item_328 : decode cX8_item 328 = .ok (.ifCond .eq 7, 3) := by decide +kernel
theorem dX8_item_331 : decode cX8_item 331 = .ok (.iconst 0, 1) := by decide +kernel
theorem dX8_item_332 : decode cX8_item 332 = .ok (.goto 11, 3) := by decide +kernel
theorem dX8_item_335 : decode cX8_item 335 = .ok (.aload_n 0, 1) := by decide +kernel
theorem dX8_item_336 : decode cX8_item 336 = .ok (.iload 6, 2) := by decide +kernel
theorem dX8_item_338 : decode cX8_item 338 = .ok (.iload 4, 2) := by decide +kernel
theorem dX8_item_340 : decode cX8_item 340 = .ok (.invokevirtual 71, 3) := by decide +kernel
theorem dX8_item_343 : decode cX8_item 343 = .ok (.ireturn, 1) := by decide +kernel
theorem dX8_item_344 : decode cX8_item 344 = .ok (.aload_n 0, 1) := by decide +kernel
theorem dX8_item_345 : decode cX8_item 345 = .ok (.iload_n 1, 1) := by decide +kernel
theorem dX8_item_346 : decode cX8_item 346 = .ok (.iconst 1, 1) := by decide +kernel
theorem dX8_item_347 : decode cX8_item 347 = .ok (.iadd, 1) := by decide +kernel
theorem dX8_item_348 : decode cX8_item 348 = .ok (.invokevirtual 162, 3) := by decide +kernel
theorem dX8_item_351 : decode cX8_item 351 = .ok (.istore 8, 2) := by decide +kernel
theorem dX8_item_353 : decode cX8_item 353 = .ok (.aload_n 0, 1) := by decide +kernel
theorem dX8_item_354 : decode cX8_item 354 = .ok (.getfield 137, 3) := by decide +kernel
theorem dX8_item_357 : decode cX8_item 357 = .ok (.ifCond .eq 7, 3) := by decide +kernel
theorem dX8_item_360 : decode cX8_item 360 = .ok (.iconst 0, 1) := by decide +kernel
theorem dX8_item_361 : decode cX8_item 361 = .ok (.goto 11, 3) := by decide +kernel
theorem dX8_item_364 : decode cX8_item 364 = .ok (.aload_n 0, 1) := by decide +kernel
theorem dX8_item_365 : decode cX8_item 365 = .ok (.bipush 44, 2) := by decide +kernel
theorem dX8_item_367 : decode cX8_item 367 = .ok (.bipush 44, 2) := by decide +kernel
theorem dX8_item_369 : decode cX8_item 369 = .ok (.invokevirtual 155, 3) := by decide +kernel
theorem dX8_item_372 : decode cX8_item 372 = .ok (.istore 9, 2) := by decide +kernel
theorem dX8_item_374 : decode cX8_item 374 = .ok (.aload_n 0, 1) := by decide +kernel
theorem dX8_item_375 : decode cX8_item 375 = .ok (.getfield 137, 3) := by decide +kernel
theorem dX8_item_378 : decode cX8_item 378 = .ok (.ifCond .eq 7, 3) := by decide +kernel
theorem dX8_item_381 : decode cX8_item 381 = .ok (.iconst 0, 1) := by decide +kernel
theorem dX8_item_382 : decode cX8_item 382 = .ok (.goto 10, 3) := by decide +kernel
theorem dX8_item_385 : decode cX8_item 385 = .ok (.aload_n 0, 1) := by decide +kernel
theorem dX8_item_386 : decode cX8_item 386 = .ok (.iload_n 1, 1) := by decide +kernel
theorem dX8_item_387 : decode cX8_item 387 = .ok (.iconst 1, 1) := by decide +kernel
theorem dX8_item_388 : decode cX8_item 388 = .ok (.iadd, 1) := by decide +kernel
theorem dX8_item_389 : decode cX8_item 389 = .ok (.invokevirtual 162, 3) := by decide +kernel
theorem dX8_item_392 : decode cX8_item 392 = .ok (.istore 10, 2) := by decide +kernel
theorem dX8_item_394 : decode cX8_item 394 = .ok (.aload_n 0, 1) := by decide +kernel
theorem dX8_item_395 : decode cX8_item 395 = .ok (.getfield 137, 3) := by decide +kernel
theorem dX8_item_398 : decode cX8_item 398 = .ok (.ifCond .eq 7, 3) := by decide +kernel
theorem dX8_item_401 : decode cX8_item 401 = .ok (.iconst 0, 1) := by decide +kernel
theorem dX8_item_402 : decode cX8_item 402 = .ok (.goto 11, 3) := by decide +kernel
theorem dX8_item_405 : decode cX8_item 405 = .ok (.aload_n 0, 1) := by decide +kernel
theorem dX8_item_406 : decode cX8_item 406 = .ok (.bipush 93, 2) := by decide +kernel
theorem dX8_item_408 : decode cX8_item 408 = .ok (.bipush 93, 2) := by decide +kernel
theorem dX8_item_410 : decode cX8_item 410 = .ok (.invokevirtual 155, 3) := by decide +kernel
theorem dX8_item_413 : decode cX8_item 413 = .ok (.istore 11, 2) := by decide +kernel
theorem dX8_item_415 : decode cX8_item 415 = .ok (.aload_n 0, 1) := by decide +kernel
theorem dX8_item_416 : decode cX8_item 416 = .ok (.getfield 137, 3) := by decide +kernel
theorem dX8_item_419 : decode cX8_item 419 = .ok (.ifCond .eq 7, 3) := by decide +kernel
theorem dX8_item_422 : decode cX8_item 422 = .ok (.iconst 0, 1) := by decide +kernel
theorem dX8_item_423 : decode cX8_item 423 = .ok (.goto 11, 3) := by decide +kernel
theorem dX8_item_426 : decode cX8_item 426 = .ok (.aload_n 0, 1) := by decide +kernel
theorem dX8_item_427 : decode cX8_item 427 = .ok (.iload 8, 2) := by decide +kernel
theorem dX8_item_429 : decode cX8_item 429 = .ok (.iload 10, 2) := by decide +kernel
theorem dX8_item_431 : decode cX8_item 431 = .ok (.invokevirtual 165, 3) := by decide +kernel
theorem dX8_item_434 : decode cX8_item 434 = .ok (.ireturn, 1) := by decide +kernel
theorem dX8_readsText_0 : decode cX8_readsText 0 = .ok (.aload_n 0, 1) := by decide +kernel
theorem dX8_readsText_1 : decode cX8_readsText 1 = .ok (.iconst 0, 1) := by decide +kernel
theorem dX8_readsText_2 : decode cX8_readsText 2 = .ok (.putfield 60, 3) := by decide +kernel
theorem dX8_readsText_5 : decode cX8_readsText 5 = .ok (.aload_n 0, 1) := by decide +kernel
theorem dX8_readsText_6 : decode cX8_readsText 6 = .ok (.iconst 0, 1) := by decide +kernel
theorem dX8_readsText_7 : decode cX8_readsText 7 = .ok (.putfield 141, 3) := by decide +kernel
theorem dX8_readsText_10 : decode cX8_readsText 10 = .ok (.aload_n 0, 1) := by decide +kernel
theorem dX8_readsText_11 : decode cX8_readsText 11 = .ok (.iconst 0, 1) := by decide +kernel
theorem dX8_readsText_12 : decode cX8_readsText 12 = .ok (.putfield 137, 3) := by decide +kernel
theorem dX8_readsText_15 : decode cX8_readsText 15 = .ok (.aload_n 0, 1) := by decide +kernel
theorem dX8_readsText_16 : decode cX8_readsText 16 = .ok (.iconst 0, 1) := by decide +kernel
theorem dX8_readsText_17 : decode cX8_readsText 17 = .ok (.invokevirtual 162, 3) := by decide +kernel
theorem dX8_readsText_20 : decode cX8_readsText 20 = .ok (.istore_n 2, 1) := by decide +kernel
theorem dX8_readsText_21 : decode cX8_readsText 21 = .ok (.aload_n 0, 1) := by decide +kernel
theorem dX8_readsText_22 : decode cX8_readsText 22 = .ok (.aload_n 0, 1) := by decide +kernel
theorem dX8_readsText_23 : decode cX8_readsText 23 = .ok (.getfield 137, 3) := by decide +kernel
theorem dX8_readsText_26 : decode cX8_readsText 26 = .ok (.ifCond .ne 14, 3) := by decide +kernel
theorem dX8_readsText_29 : decode cX8_readsText 29 = .ok (.aload_n 0, 1) := by decide +kernel
theorem dX8_readsText_30 : decode cX8_readsText 30 = .ok (.getfield 141, 3) := by decide +kernel
theorem dX8_readsText_33 : decode cX8_readsText 33 = .ok (.aload_n 0, 1) := by decide +kernel
theorem dX8_readsText_34 : decode cX8_readsText 34 = .ok (.getfield 134, 3) := by decide +kernel
theorem dX8_readsText_37 : decode cX8_readsText 37 = .ok (.if_icmp .ge 7, 3) := by decide +kernel
theorem dX8_readsText_40 : decode cX8_readsText 40 = .ok (.iconst 1, 1) := by decide +kernel
theorem dX8_readsText_41 : decode cX8_readsText 41 = .ok (.goto 4, 3) := by decide +kernel
theorem dX8_readsText_44 : decode cX8_readsText 44 = .ok (.iconst 0, 1) := by decide +kernel
theorem dX8_readsText_45 : decode cX8_readsText 45 = .ok (.putfield 137, 3) := by decide +kernel
theorem dX8_readsText_48 : decode cX8_readsText 48 = .ok (.aload_n 0, 1) := by decide +kernel
theorem dX8_readsText_49 : decode cX8_readsText 49 = .ok (.iconst 0, 1) := by decide +kernel
theorem dX8_readsText_50 : decode cX8_readsText 50 = .ok (.putfield 134, 3) := by decide +kernel
theorem dX8_readsText_53 : decode cX8_readsText 53 = .ok (.aload_n 0, 1) := by decide +kernel
theorem dX8_readsText_54 : decode cX8_readsText 54 = .ok (.getfield 137, 3) := by decide +kernel
theorem dX8_readsText_57 : decode cX8_readsText 57 = .ok (.ifCond .eq 17, 3) := by decide +kernel
theorem dX8_readsText_60 : decode cX8_readsText 60 = .ok (.aload_n 0, 1) := by decide +kernel
theorem dX8_readsText_61 : decode cX8_readsText 61 = .ok (.aload_n 0, 1) := by decide +kernel
theorem dX8_readsText_62 : decode cX8_readsText 62 = .ok (.getfield 141, 3) := by decide +kernel
theorem dX8_readsText_65 : decode cX8_readsText 65 = .ok (.putfield 35, 3) := by decide +kernel
theorem dX8_readsText_68 : decode cX8_readsText 68 = .ok (.aload_n 0, 1) := by decide +kernel
theorem dX8_readsText_69 : decode cX8_readsText 69 = .ok (.iload_n 1, 1) := by decide +kernel
theorem dX8_readsText_70 : decode cX8_readsText 70 = .ok (.invokevirtual 97, 3) := by decide +kernel
theorem dX8_readsText_73 : decode cX8_readsText 73 = .ok (.ireturn, 1) := by decide +kernel
theorem dX8_readsText_74 : decode cX8_readsText 74 = .ok (.aload_n 0, 1) := by decide +kernel
theorem dX8_readsText_75 : decode cX8_readsText 75 = .ok (.getfield 25, 3) := by decide +kernel
theorem dX8_readsText_78 : decode cX8_readsText 78 = .ok (.iload_n 2, 1) := by decide +kernel
theorem dX8_readsText_79 : decode cX8_readsText 79 = .ok (.iaload, 1) := by decide +kernel
theorem dX8_readsText_80 : decode cX8_readsText 80 = .ok (.sipush 200, 3) := by decide +kernel
theorem dX8_readsText_83 : decode cX8_readsText 83 = .ok (.if_icmp .le 17, 3) := by decide +kernel
theorem dX8_readsText_86 : decode cX8_readsText 86 = .ok (.aload_n 0, 1) := by decide +kernel
theorem dX8_readsText_87 : decode cX8_readsText 87 = .ok (.iload_n 1, 1) := by decide +kernel
theorem dX8_readsText_88 : decode cX8_readsText 88 = .ok (.iconst 1, 1) := by decide +kernel
theorem dX8_readsText_89 : decode cX8_readsText 89 = .ok (.iadd, 1) := by decide +kernel
theorem dX8_readsText_90 : decode cX8_readsText 90 = .ok (.iconst 2, 1) := by decide +kernel
theorem dX8_readsText_91 : decode cX8_readsText 91 = .ok (.sipush 200, 3) := by decide +kernel
theorem dX8_readsText_94 : decode cX8_readsText 94 = .ok (.invokevirtual 110, 3) := by decide +kernel
theorem dX8_readsText_97 : decode cX8_readsText 97 = .ok (.goto 4, 3) := by decide +kernel
theorem dX8_readsText_100 : decode cX8_readsText 100 = .ok (.iload_n 2, 1) := by decide +kernel
theorem dX8_readsText_101 : decode cX8_readsText 101 = .ok (.ireturn, 1) := by decide +kernel
theorem dX8_read_0 : decode cX8_read 0 = .ok (.aload_n 0, 1) := by decide +kernel
theorem dX8_read_1 : decode cX8_read 1 = .ok (.invokevirtual 90, 3) := by decide +kernel
theorem dX8_read_4 : decode cX8_read 4 = .ok (.aload_n 0, 1) := by decide +kernel
theorem dX8_read_5 : decode cX8_read 5 = .ok (.iconst 1, 1) := by decide +kernel
theorem dX8_read_6 : decode cX8_read 6 = .ok (.invokevirtual 168, 3) := by decide +kernel
theorem dX8_read_9 : decode cX8_read 9 = .ok (.istore_n 1, 1) := by decide +kernel
theorem dX8_read_10 : decode cX8_read 10 = .ok (.aload_n 0, 1) := by decide +kernel
theorem dX8_read_11 : decode cX8_read 11 = .ok (.getfield 42, 3) := by decide +kernel
theorem dX8_read_14 : decode cX8_read 14 = .ok (.ifCond .le 9, 3) := by decide +kernel
theorem dX8_read_17 : decode cX8_read 17 = .ok (.aload_n 0, 1) := by decide +kernel
theorem dX8_read_18 : decode cX8_read 18 = .ok (.iconst 0, 1) := by decide +kernel
theorem dX8_read_19 : decode cX8_read 19 = .ok (.invokevirtual 100, 3) := by decide +kernel
theorem dX8_read_22 : decode cX8_read 22 = .ok (.ireturn, 1) := by decide +kernel
theorem dX8_read_23 : decode cX8_read 23 = .ok (.aload_n 0, 1) := by decide +kernel
theorem dX8_read_24 : decode cX8_read 24 = .ok (.iload_n 1, 1) := by decide +kernel
theorem dX8_read_25 : decode cX8_read 25 = .ok (.invokevirtual 86, 3) := by decide +kernel
theorem dX8_read_28 : decode cX8_read 28 = .ok (.aload_n 0, 1) := by decide +kernel
theorem dX8_read_29 : decode cX8_read 29 = .ok (.getfield 9, 3) := by decide +kernel
theorem dX8_read_32 : decode cX8_read 32 = .ok (.iconst 2, 1) := by decide +kernel
theorem dX8_read_33 : decode cX8_read 33 = .ok (.dup2, 1) := by decide +kernel
theorem dX8_read_34 : decode cX8_read 34 = .ok (.iaload, 1) := by decide +kernel
theorem dX8_read_35 : decode cX8_read 35 = .ok (.iconst 1, 1) := by decide +kernel
theorem dX8_read_36 : decode cX8_read 36 = .ok (.iadd, 1) := by decide +kernel
theorem dX8_read_37 : decode cX8_read 37 = .ok (.iastore, 1) := by decide +kernel
theorem dX8_read_38 : decode cX8_read 38 = .ok (.aload_n 0, 1) := by decide +kernel
theorem dX8_read_39 : decode cX8_read 39 = .ok (.getfield 9, 3) := by decide +kernel
theorem dX8_read_42 : decode cX8_read 42 = .ok (.iconst 0, 1) := by decide +kernel
theorem dX8_read_43 : decode cX8_read 43 = .ok (.iconst 0, 1) := by decide +kernel
theorem dX8_read_44 : decode cX8_read 44 = .ok (.iastore, 1) := by decide +kernel
theorem dX8_read_45 : decode cX8_read 45 = .ok (.aload_n 0, 1) := by decide +kernel
theorem dX8_read_46 : decode cX8_read 46 = .ok (.aload_n 0, 1) := by decide +kernel
theorem dX8_read_47 : decode cX8_read 47 = .ok (.getfield 25, 3) := by decide +kernel
theorem dX8_read_50 : decode cX8_read 50 = .ok (.iload_n 1, 1) := by decide +kernel
theorem dX8_read_51 : decode cX8_read 51 = .ok (.iaload, 1) := by decide +kernel
theorem dX8_read_52 : decode cX8_read 52 = .ok (.invokevirtual 100, 3) := by decide +kernel
theorem dX8_read_55 : decode cX8_read 55 = .ok (.ireturn, 1) := by decide +kernel
theorem dX8_errorPosition_0 : decode cX8_errorPosition 0 = .ok (.aload_n 0, 1) := by decide +kernel
theorem dX8_errorPosition_1 : decode cX8_errorPosition 1 = .ok (.aload_n 0, 1) := by decide +kernel
theorem dX8_errorPosition_2 : decode cX8_errorPosition 2 = .ok (.getfield 35, 3) := by decide +kernel
theorem dX8_errorPosition_5 : decode cX8_errorPosition 5 = .ok (.ifCond .ge 7, 3) := by decide +kernel
theorem dX8_errorPosition_8 : decode cX8_errorPosition 8 = .ok (.iconst 1, 1) := by decide +kernel
theorem dX8_errorPosition_9 : decode cX8_errorPosition 9 = .ok (.goto 4, 3) := by decide +kernel
theorem dX8_errorPosition_12 : decode cX8_errorPosition 12 = .ok (.iconst 0, 1) := by decide +kernel
theorem dX8_errorPosition_13 : decode cX8_errorPosition 13 = .ok (.putfield 42, 3) := by decide +kernel
theorem dX8_errorPosition_16 : decode cX8_errorPosition 16 = .ok (.aload_n 0, 1) := by decide +kernel
theorem dX8_errorPosition_17 : decode cX8_errorPosition 17 = .ok (.getfield 42, 3) := by decide +kernel
theorem dX8_errorPosition_20 : decode cX8_errorPosition 20 = .ok (.ifCond .le 7, 3) := by decide +kernel
theorem dX8_errorPosition_23 : decode cX8_errorPosition 23 = .ok (.iconst 0, 1) := by decide +kernel
theorem dX8_errorPosition_24 : decode cX8_errorPosition 24 = .ok (.goto 7, 3) := by decide +kernel
theorem dX8_errorPosition_27 : decode cX8_errorPosition 27 = .ok (.aload_n 0, 1) := by decide +kernel
theorem dX8_errorPosition_28 : decode cX8_errorPosition 28 = .ok (.getfield 35, 3) := by decide +kernel
theorem dX8_errorPosition_31 : decode cX8_errorPosition 31 = .ok (.ireturn, 1) := by decide +kernel
theorem dX8_isShelf_0 : decode cX8_isShelf 0 = .ok (.iload_n 0, 1) := by decide +kernel
theorem dX8_isShelf_1 : decode cX8_isShelf 1 = .ok (.iconst 0, 1) := by decide +kernel
theorem dX8_isShelf_2 : decode cX8_isShelf 2 = .ok (.iconst 4, 1) := by decide +kernel
theorem dX8_isShelf_3 : decode cX8_isShelf 3 = .ok (.invokestatic 93, 3) := by decide +kernel
theorem dX8_isShelf_6 : decode cX8_isShelf 6 = .ok (.ireturn, 1) := by decide +kernel
theorem dX8_isEmpty_0 : decode cX8_isEmpty 0 = .ok (.aload_n 0, 1) := by decide +kernel
theorem dX8_isEmpty_1 : decode cX8_isEmpty 1 = .ok (.getfield 9, 3) := by decide +kernel
theorem dX8_isEmpty_4 : decode cX8_isEmpty 4 = .ok (.iconst 3, 1) := by decide +kernel
theorem dX8_isEmpty_5 : decode cX8_isEmpty 5 = .ok (.iload_n 1, 1) := by decide +kernel
theorem dX8_isEmpty_6 : decode cX8_isEmpty 6 = .ok (.iadd, 1) := by decide +kernel
theorem dX8_isEmpty_7 : decode cX8_isEmpty 7 = .ok (.iaload, 1) := by decide +kernel
theorem dX8_isEmpty_8 : decode cX8_isEmpty 8 = .ok (.ifCond .ne 7, 3) := by decide +kernel
theorem dX8_isEmpty_11 : decode cX8_isEmpty 11 = .ok (.iconst 1, 1) := by decide +kernel
theorem dX8_isEmpty_12 : decode cX8_isEmpty 12 = .ok (.goto 4, 3) := by decide +kernel
theorem dX8_isEmpty_15 : decode cX8_isEmpty 15 = .ok (.iconst 0, 1) := by decide +kernel
theorem dX8_isEmpty_16 : decode cX8_isEmpty 16 = .ok (.ireturn, 1) := by decide +kernel
theorem dX8_learn_0 : decode cX8_learn 0 = .ok (.aload_n 0, 1) := by decide +kernel
theorem dX8_learn_1 : decode cX8_learn 1 = .ok (.invokevirtual 90, 3) := by decide +kernel
theorem dX8_learn_4 : decode cX8_learn 4 = .ok (.iload_n 1, 1) := by decide +kernel
theorem dX8_learn_5 : decode cX8_learn 5 = .ok (.invokestatic 171, 3) := by decide +kernel
theorem dX8_learn_8 : decode cX8_learn 8 = .ok (.ifCond .ne 18, 3) := by decide +kernel
theorem dX8_learn_11 : decode cX8_learn 11 = .ok (.aload_n 0, 1) := by decide +kernel
theorem dX8_learn_12 : decode cX8_learn 12 = .ok (.iconst 0, 1) := by decide +kernel
theorem dX8_learn_13 : decode cX8_learn 13 = .ok (.putfield 134, 3) := by decide +kernel
theorem dX8_learn_16 : decode cX8_learn 16 = .ok (.aload_n 0, 1) := by decide +kernel
theorem dX8_learn_17 : decode cX8_learn 17 = .ok (.aload_n 0, 1) := by decide +kernel
theorem dX8_learn_18 : decode cX8_learn 18 = .ok (.iconst 1, 1) := by decide +kernel
theorem dX8_learn_19 : decode cX8_learn 19 = .ok (.invokevirtual 97, 3) := by decide +kernel
theorem dX8_learn_22 : decode cX8_learn 22 = .ok (.invokevirtual 100, 3) := by decide +kernel
theorem dX8_learn_25 : decode cX8_learn 25 = .ok (.ireturn, 1) := by decide +kernel
theorem dX8_learn_26 : decode cX8_learn 26 = .ok (.aload_n 0, 1) := by decide +kernel
theorem dX8_learn_27 : decode cX8_learn 27 = .ok (.iconst 2, 1) := by decide +kernel
theorem dX8_learn_28 : decode cX8_learn 28 = .ok (.invokevirtual 168, 3) := by decide +kernel
theorem dX8_learn_31 : decode cX8_learn 31 = .ok (.istore_n 2, 1) := by decide +kernel
theorem dX8_learn_32 : decode cX8_learn 32 = .ok (.aload_n 0, 1) := by decide +kernel
theorem dX8_learn_33 : decode cX8_learn 33 = .ok (.getfield 42, 3) := by decide +kernel
theorem dX8_learn_36 : decode cX8_learn 36 = .ok (.ifCond .le 7, 3) := by decide +kernel
theorem dX8_learn_39 : decode cX8_learn 39 = .ok (.iconst 0, 1) := by decide +kernel
theorem dX8_learn_40 : decode cX8_learn 40 = .ok (.goto 9, 3) := by decide +kernel
theorem dX8_learn_43 : decode cX8_learn 43 = .ok (.aload_n 0, 1) := by decide +kernel
theorem dX8_learn_44 : decode cX8_learn 44 = .ok (.iload_n 2, 1) := by decide +kernel
theorem dX8_learn_45 : decode cX8_learn 45 = .ok (.iload_n 1, 1) := by decide +kernel
theorem dX8_learn_46 : decode cX8_learn 46 = .ok (.invokevirtual 174, 3) := by decide +kernel
theorem dX8_learn_49 : decode cX8_learn 49 = .ok (.istore_n 3, 1) := by decide +kernel
theorem dX8_learn_50 : decode cX8_learn 50 = .ok (.aload_n 0, 1) := by decide +kernel
theorem dX8_learn_51 : decode cX8_learn 51 = .ok (.aload_n 0, 1) := by decide +kernel
theorem dX8_learn_52 : decode cX8_learn 52 = .ok (.getfield 25, 3) := by decide +kernel
theorem dX8_learn_55 : decode cX8_learn 55 = .ok (.iload_n 2, 1) := by decide +kernel
theorem dX8_learn_56 : decode cX8_learn 56 = .ok (.iaload, 1) := by decide +kernel
theorem dX8_learn_57 : decode cX8_learn 57 = .ok (.invokevirtual 100, 3) := by decide +kernel
theorem dX8_learn_60 : decode cX8_learn 60 = .ok (.ireturn, 1) := by decide +kernel
theorem dX8_use_0 : decode cX8_use 0 = .ok (.aload_n 0, 1) := by decide +kernel
theorem dX8_use_1 : decode cX8_use 1 = .ok (.invokevirtual 90, 3) := by decide +kernel
theorem dX8_use_4 : decode cX8_use 4 = .ok (.iload_n 1, 1) := by decide +kernel
theorem dX8_use_5 : decode cX8_use 5 = .ok (.invokestatic 171, 3) := by decide +kernel
theorem dX8_use_8 : decode cX8_use 8 = .ok (.ifCond .ne 13, 3) := by decide +kernel
theorem dX8_use_11 : decode cX8_use 11 = .ok (.aload_n 0, 1) := by decide +kernel
theorem dX8_use_12 : decode cX8_use 12 = .ok (.aload_n 0, 1) := by decide +kernel
theorem dX8_use_13 : decode cX8_use 13 = .ok (.iconst 1, 1) := by decide +kernel
theorem dX8_use_14 : decode cX8_use 14 = .ok (.invokevirtual 97, 3) := by decide +kernel
theorem dX8_use_17 : decode cX8_use 17 = .ok (.invokevirtual 100, 3) := by decide +kernel
theorem dX8_use_20 : decode cX8_use 20 = .ok (.ireturn, 1) := by decide +kernel
theorem dX8_use_21 : decode cX8_use 21 = .ok (.iload_n 2, 1) := by decide +kernel
theorem dX8_use_22 : decode cX8_use 22 = .ok (.ifCond .eq 14, 3) := by decide +kernel
theorem dX8_use_25 : decode cX8_use 25 = .ok (.iload_n 2, 1) := by decide +kernel
theorem dX8_use_26 : decode cX8_use 26 = .ok (.bipush (-99), 2) := by decide +kernel
theorem dX8_use_28 : decode cX8_use 28 = .ok (.bipush 99, 2) := by decide +kernel
theorem dX8_use_30 : decode cX8_use 30 = .ok (.invokestatic 93, 3) := by decide +kernel
theorem dX8_use_33 : decode cX8_use 33 = .ok (.ifCond .ne 13, 3) := by decide +kernel
theorem dX8_use_36 : decode cX8_use 36 = .ok (.aload_n 0, 1) := by decide +kernel
theorem dX8_use_37 : decode cX8_use 37 = .ok (.aload_n 0, 1) := by decide +kernel
theorem dX8_use_38 : decode cX8_use 38 = .ok (.iconst 2, 1) := by decide +kernel
theorem dX8_use_39 : decode cX8_use 39 = .ok (.invokevirtual 97, 3) := by decide +kernel
theorem dX8_use_42 : decode cX8_use 42 = .ok (.invokevirtual 100, 3) := by decide +kernel
theorem dX8_use_45 : decode cX8_use 45 = .ok (.ireturn, 1) := by decide +kernel
theorem dX8_use_46 : decode cX8_use 46 = .ok (.aload_n 0, 1) := by decide +kernel
theorem dX8_use_47 : decode cX8_use 47 = .ok (.iload_n 1, 1) := by decide +kernel
theorem dX8_use_48 : decode cX8_use 48 = .ok (.invokevirtual 177, 3) := by decide +kernel
theorem dX8_use_51 : decode cX8_use 51 = .ok (.ifCond .eq 15, 3) := by decide +kernel
theorem dX8_use_54 : decode cX8_use 54 = .ok (.aload_n 0, 1) := by decide +kernel
theorem dX8_use_55 : decode cX8_use 55 = .ok (.aload_n 0, 1) := by decide +kernel
theorem dX8_use_56 : decode cX8_use 56 = .ok (.iconst 3, 1) := by decide +kernel
theorem dX8_use_57 : decode cX8_use 57 = .ok (.iconst 3, 1) := by decide +kernel
theorem dX8_use_58 : decode cX8_use 58 = .ok (.iload_n 1, 1) := by decide +kernel
theorem dX8_use_59 : decode cX8_use 59 = .ok (.invokevirtual 110, 3) := by decide +kernel
theorem dX8_use_62 : decode cX8_use 62 = .ok (.invokevirtual 100, 3) := by decide +kernel
theorem dX8_use_65 : decode cX8_use 65 = .ok (.ireturn, 1) := by decide +kernel
theorem dX8_use_66 : decode cX8_use 66 = .ok (.aload_n 0, 1) := by decide +kernel
theorem dX8_use_67 : decode cX8_use 67 = .ok (.iconst 0, 1) := by decide +kernel
theorem dX8_use_68 : decode cX8_use 68 = .ok (.putfield 60, 3) := by decide +kernel
theorem dX8_use_71 : decode cX8_use 71 = .ok (.aload_n 0, 1) := by decide +kernel
theorem dX8_use_72 : decode cX8_use 72 = .ok (.iload_n 1, 1) := by decide +kernel
theorem dX8_use_73 : decode cX8_use 73 = .ok (.invokevirtual 159, 3) := by decide +kernel
theorem dX8_use_76 : decode cX8_use 76 = .ok (.istore_n 3, 1) := by decide +kernel
theorem dX8_use_77 : decode cX8_use 77 = .ok (.aload_n 0, 1) := by decide +kernel
theorem dX8_use_78 : decode cX8_use 78 = .ok (.iload_n 2, 1) := by decide +kernel
theorem dX8_use_79 : decode cX8_use 79 = .ok (.ifCond .ge 17, 3) := by decide +kernel
theorem dX8_use_82 : decode cX8_use 82 = .ok (.aload_n 0, 1) := by decide +kernel
theorem dX8_use_83 : decode cX8_use 83 = .ok (.aload_n 0, 1) := by decide +kernel
theorem dX8_use_84 : decode cX8_use 84 = .ok (.iload_n 3, 1) := by decide +kernel
theorem dX8_use_85 : decode cX8_use 85 = .ok (.invokevirtual 75, 3) := by decide +kernel
theorem dX8_use_88 : decode cX8_use 88 = .ok (.iload_n 2, 1) := by decide +kernel
theorem dX8_use_89 : decode cX8_use 89 = .ok (.ineg, 1) := by decide +kernel
theorem dX8_use_90 : decode cX8_use 90 = .ok (.invokevirtual 71, 3) := by decide +kernel
theorem dX8_use_93 : decode cX8_use 93 = .ok (.goto 9, 3) := by decide +kernel
theorem dX8_use_96 : decode cX8_use 96 = .ok (.aload_n 0, 1) := by decide +kernel
theorem dX8_use_97 : decode cX8_use 97 = .ok (.iload_n 3, 1) := by decide +kernel
theorem dX8_use_98 : decode cX8_use 98 = .ok (.iload_n 2, 1) := by decide +kernel
theorem dX8_use_99 : decode cX8_use 99 = .ok (.invokevirtual 71, 3) := by decide +kernel
theorem dX8_use_102 : decode cX8_use 102 = .ok (.invokevirtual 86, 3) := by decide +kernel
theorem dX8_use_105 : decode cX8_use 105 = .ok (.aload_n 0, 1) := by decide +kernel
theorem dX8_use_106 : decode cX8_use 106 = .ok (.getfield 9, 3) := by decide +kernel
theorem dX8_use_109 : decode cX8_use 109 = .ok (.iconst 0, 1) := by decide +kernel
theorem dX8_use_110 : decode cX8_use 110 = .ok (.iconst 0, 1) := by decide +kernel
theorem dX8_use_111 : decode cX8_use 111 = .ok (.iastore, 1) := by decide +kernel
theorem dX8_use_112 : decode cX8_use 112 = .ok (.aload_n 0, 1) := by decide +kernel
theorem dX8_use_113 : decode cX8_use 113 = .ok (.aload_n 0, 1) := by decide +kernel
theorem dX8_use_114 : decode cX8_use 114 = .ok (.invokevirtual 107, 3) := by decide +kernel
theorem dX8_use_117 : decode cX8_use 117 = .ok (.invokevirtual 100, 3) := by decide +kernel
theorem dX8_use_120 : decode cX8_use 120 = .ok (.ireturn, 1) := by decide +kernel
theorem dX8_join_0 : decode cX8_join 0 = .ok (.aload_n 0, 1) := by decide +kernel
theorem dX8_join_1 : decode cX8_join 1 = .ok (.invokevirtual 90, 3) := by decide +kernel
theorem dX8_join_4 : decode cX8_join 4 = .ok (.iload_n 1, 1) := by decide +kernel
theorem dX8_join_5 : decode cX8_join 5 = .ok (.invokestatic 171, 3) := by decide +kernel
theorem dX8_join_8 : decode cX8_join 8 = .ok (.ifCond .eq 17, 3) := by decide +kernel
theorem dX8_join_11 : decode cX8_join 11 = .ok (.iload_n 2, 1) := by decide +kernel
theorem dX8_join_12 : decode cX8_join 12 = .ok (.invokestatic 171, 3) := by decide +kernel
theorem dX8_join_15 : decode cX8_join 15 = .ok (.ifCond .eq 10, 3) := by decide +kernel
theorem dX8_join_18 : decode cX8_join 18 = .ok (.iload_n 3, 1) := by decide +kernel
theorem dX8_join_19 : decode cX8_join 19 = .ok (.invokestatic 171, 3) := by decide +kernel
theorem dX8_join_22 : decode cX8_join 22 = .ok (.ifCond .ne 13, 3) := by decide +kernel
theorem dX8_join_25 : decode cX8_join 25 = .ok (.aload_n 0, 1) := by decide +kernel
theorem dX8_join_26 : decode cX8_join 26 = .ok (.aload_n 0, 1) := by decide +kernel
theorem dX8_join_27 : decode cX8_join 27 = .ok (.iconst 1, 1) := by decide +kernel
theorem dX8_join_28 : decode cX8_join 28 = .ok (.invokevirtual 97, 3) := by decide +kernel
theorem dX8_join_31 : decode cX8_join 31 = .ok (.invokevirtual 100, 3) := by decide +kernel
theorem dX8_join_34 : decode cX8_join 34 = .ok (.ireturn, 1) := by decide +kernel
theorem dX8_join_35 : decode cX8_join 35 = .ok (.aload_n 0, 1) := by decide +kernel
theorem dX8_join_36 : decode cX8_join 36 = .ok (.iload_n 1, 1) := by decide +kernel
theorem dX8_join_37 : decode cX8_join 37 = .ok (.invokevirtual 177, 3) := by decide +kernel
theorem dX8_join_40 : decode cX8_join 40 = .ok (.ifCond .ne 11, 3) := by decide +kernel
theorem dX8_join_43 : decode cX8_join 43 = .ok (.aload_n 0, 1) := by decide +kernel
theorem dX8_join_44 : decode cX8_join 44 = .ok (.iload_n 2, 1) := by decide +kernel
theorem dX8_join_45 : decode cX8_join 45 = .ok (.invokevirtual 177, 3) := by decide +kernel
theorem dX8_join_48 : decode cX8_join 48 = .ok (.ifCond .eq 27, 3) := by decide +kernel
theorem dX8_join_51 : decode cX8_join 51 = .ok (.aload_n 0, 1) := by decide +kernel
theorem dX8_join_52 : decode cX8_join 52 = .ok (.aload_n 0, 1) := by decide +kernel
theorem dX8_join_53 : decode cX8_join 53 = .ok (.iconst 2, 1) := by decide +kernel
theorem dX8_join_54 : decode cX8_join 54 = .ok (.iconst 3, 1) := by decide +kernel
theorem dX8_join_55 : decode cX8_join 55 = .ok (.aload_n 0, 1) := by decide +kernel
theorem dX8_join_56 : decode cX8_join 56 = .ok (.iload_n 1, 1) := by decide +kernel
theorem dX8_join_57 : decode cX8_join 57 = .ok (.invokevirtual 177, 3) := by decide +kernel
theorem dX8_join_60 : decode cX8_join 60 = .ok (.ifCond .eq 7, 3) := by decide +kernel
theorem dX8_join_63 : decode cX8_join 63 = .ok (.iload_n 1, 1) := by decide +kernel
theorem dX8_join_64 : decode cX8_join 64 = .ok (.goto 4, 3) := by decide +kernel
theorem dX8_join_67 : decode cX8_join 67 = .ok (.iload_n 2, 1) := by decide +kernel
theorem dX8_join_68 : decode cX8_join 68 = .ok (.invokevirtual 110, 3) := by decide +kernel
theorem dX8_join_71 : decode cX8_join 71 = .ok (.invokevirtual 100, 3) := by decide +kernel
theorem dX8_join_74 : decode cX8_join 74 = .ok (.ireturn, 1) := by decide +kernel
theorem dX8_join_75 : decode cX8_join 75 = .ok (.aload_n 0, 1) := by decide +kernel
theorem dX8_join_76 : decode cX8_join 76 = .ok (.iconst 0, 1) := by decide +kernel
theorem dX8_join_77 : decode cX8_join 77 = .ok (.putfield 60, 3) := by decide +kernel
theorem dX8_join_80 : decode cX8_join 80 = .ok (.aload_n 0, 1) := by decide +kernel
theorem dX8_join_81 : decode cX8_join 81 = .ok (.iload_n 1, 1) := by decide +kernel
theorem dX8_join_82 : decode cX8_join 82 = .ok (.invokevirtual 159, 3) := by decide +kernel
theorem dX8_join_85 : decode cX8_join 85 = .ok (.istore 4, 2) := by decide +kernel
theorem dX8_join_87 : decode cX8_join 87 = .ok (.aload_n 0, 1) := by decide +kernel
theorem dX8_join_88 : decode cX8_join 88 = .ok (.iload 4, 2) := by decide +kernel
theorem dX8_join_90 : decode cX8_join 90 = .ok (.aload_n 0, 1) := by decide +kernel
theorem dX8_join_91 : decode cX8_join 91 = .ok (.iload_n 2, 1) := by decide +kernel
theorem dX8_join_92 : decode cX8_join 92 = .ok (.invokevirtual 159, 3) := by decide +kernel
theorem dX8_join_95 : decode cX8_join 95 = .ok (.invokevirtual 67, 3) := by decide +kernel
theorem dX8_join_98 : decode cX8_join 98 = .ok (.aload_n 0, 1) := by decide +kernel
theorem dX8_join_99 : decode cX8_join 99 = .ok (.aload_n 0, 1) := by decide +kernel
theorem dX8_join_100 : decode cX8_join 100 = .ok (.iload 4, 2) := by decide +kernel
theorem dX8_join_102 : decode cX8_join 102 = .ok (.iload_n 3, 1) := by decide +kernel
theorem dX8_join_103 : decode cX8_join 103 = .ok (.invokevirtual 174, 3) := by decide +kernel
theorem dX8_join_106 : decode cX8_join 106 = .ok (.invokevirtual 100, 3) := by decide +kernel
theorem dX8_join_109 : decode cX8_join 109 = .ok (.ireturn, 1) := by decide +kernel
theorem dX8_invert_0 : decode cX8_invert 0 = .ok (.aload_n 0, 1) := by decide +kernel
theorem dX8_invert_1 : decode cX8_invert 1 = .ok (.invokevirtual 90, 3) := by decide +kernel
theorem dX8_invert_4 : decode cX8_invert 4 = .ok (.iload_n 1, 1) := by decide +kernel
theorem dX8_invert_5 : decode cX8_invert 5 = .ok (.invokestatic 171, 3) := by decide +kernel
theorem dX8_invert_8 : decode cX8_invert 8 = .ok (.ifCond .eq 10, 3) := by decide +kernel
theorem dX8_invert_11 : decode cX8_invert 11 = .ok (.iload_n 2, 1) := by decide +kernel
theorem dX8_invert_12 : decode cX8_invert 12 = .ok (.invokestatic 171, 3) := by decide +kernel
theorem dX8_invert_15 : decode cX8_invert 15 = .ok (.ifCond .ne 13, 3) := by decide +kernel
theorem dX8_invert_18 : decode cX8_invert 18 = .ok (.aload_n 0, 1) := by decide +kernel
theorem dX8_invert_19 : decode cX8_invert 19 = .ok (.aload_n 0, 1) := by decide +kernel
theorem dX8_invert_20 : decode cX8_invert 20 = .ok (.iconst 1, 1) := by decide +kernel
theorem dX8_invert_21 : decode cX8_invert 21 = .ok (.invokevirtual 97, 3) := by decide +kernel
theorem dX8_invert_24 : decode cX8_invert 24 = .ok (.invokevirtual 100, 3) := by decide +kernel
theorem dX8_invert_27 : decode cX8_invert 27 = .ok (.ireturn, 1) := by decide +kernel
theorem dX8_invert_28 : decode cX8_invert 28 = .ok (.aload_n 0, 1) := by decide +kernel
theorem dX8_invert_29 : decode cX8_invert 29 = .ok (.iload_n 1, 1) := by decide +kernel
theorem dX8_invert_30 : decode cX8_invert 30 = .ok (.invokevirtual 177, 3) := by decide +kernel
theorem dX8_invert_33 : decode cX8_invert 33 = .ok (.ifCond .eq 15, 3) := by decide +kernel
theorem dX8_invert_36 : decode cX8_invert 36 = .ok (.aload_n 0, 1) := by decide +kernel
theorem dX8_invert_37 : decode cX8_invert 37 = .ok (.aload_n 0, 1) := by decide +kernel
theorem dX8_invert_38 : decode cX8_invert 38 = .ok (.iconst 2, 1) := by decide +kernel
theorem dX8_invert_39 : decode cX8_invert 39 = .ok (.iconst 3, 1) := by decide +kernel
theorem dX8_invert_40 : decode cX8_invert 40 = .ok (.iload_n 1, 1) := by decide +kernel
theorem dX8_invert_41 : decode cX8_invert 41 = .ok (.invokevirtual 110, 3) := by decide +kernel
theorem dX8_invert_44 : decode cX8_invert 44 = .ok (.invokevirtual 100, 3) := by decide +kernel
theorem dX8_invert_47 : decode cX8_invert 47 = .ok (.ireturn, 1) := by decide +kernel
theorem dX8_invert_48 : decode cX8_invert 48 = .ok (.aload_n 0, 1) := by decide +kernel
theorem dX8_invert_49 : decode cX8_invert 49 = .ok (.iconst 0, 1) := by decide +kernel
theorem dX8_invert_50 : decode cX8_invert 50 = .ok (.putfield 60, 3) := by decide +kernel
theorem dX8_invert_53 : decode cX8_invert 53 = .ok (.aload_n 0, 1) := by decide +kernel
theorem dX8_invert_54 : decode cX8_invert 54 = .ok (.aload_n 0, 1) := by decide +kernel
theorem dX8_invert_55 : decode cX8_invert 55 = .ok (.aload_n 0, 1) := by decide +kernel
theorem dX8_invert_56 : decode cX8_invert 56 = .ok (.aload_n 0, 1) := by decide +kernel
theorem dX8_invert_57 : decode cX8_invert 57 = .ok (.iload_n 1, 1) := by decide +kernel
theorem dX8_invert_58 : decode cX8_invert 58 = .ok (.invokevirtual 159, 3) := by decide +kernel
theorem dX8_invert_61 : decode cX8_invert 61 = .ok (.invokevirtual 75, 3) := by decide +kernel
theorem dX8_invert_64 : decode cX8_invert 64 = .ok (.iload_n 2, 1) := by decide +kernel
theorem dX8_invert_65 : decode cX8_invert 65 = .ok (.invokevirtual 174, 3) := by decide +kernel
theorem dX8_invert_68 : decode cX8_invert 68 = .ok (.invokevirtual 100, 3) := by decide +kernel
theorem dX8_invert_71 : decode cX8_invert 71 = .ok (.ireturn, 1) := by decide +kernel
theorem dX8_commute_0 : decode cX8_commute 0 = .ok (.aload_n 0, 1) := by decide +kernel
theorem dX8_commute_1 : decode cX8_commute 1 = .ok (.invokevirtual 90, 3) := by decide +kernel
theorem dX8_commute_4 : decode cX8_commute 4 = .ok (.iload_n 1, 1) := by decide +kernel
theorem dX8_commute_5 : decode cX8_commute 5 = .ok (.invokestatic 171, 3) := by decide +kernel
theorem dX8_commute_8 : decode cX8_commute 8 = .ok (.ifCond .eq 17, 3) := by decide +kernel
theorem dX8_commute_11 : decode cX8_commute 11 = .ok (.iload_n 2, 1) := by decide +kernel
theorem dX8_commute_12 : decode cX8_commute 12 = .ok (.invokestatic 171, 3) := by decide +kernel
theorem dX8_commute_15 : decode cX8_commute 15 = .ok (.ifCond .eq 10, 3) := by decide +kernel
theorem dX8_commute_18 : decode cX8_commute 18 = .ok (.iload_n 3, 1) := by decide +kernel
theorem dX8_commute_19 : decode cX8_commute 19 = .ok (.invokestatic 171, 3) := by decide +kernel
theorem dX8_commute_22 : decode cX8_commute 22 = .ok (.ifCond .ne 13, 3) := by decide +kernel
theorem dX8_commute_25 : decode cX8_commute 25 = .ok (.aload_n 0, 1) := by decide +kernel
theorem dX8_commute_26 : decode cX8_commute 26 = .ok (.aload_n 0, 1) := by decide +kernel
theorem dX8_commute_27 : decode cX8_commute 27 = .ok (.iconst 1, 1) := by decide +kernel
theorem dX8_commute_28 : decode cX8_commute 28 = .ok (.invokevirtual 97, 3) := by decide +kernel
theorem dX8_commute_31 : decode cX8_commute 31 = .ok (.invokevirtual 100, 3) := by decide +kernel
theorem dX8_commute_34 : decode cX8_commute 34 = .ok (.ireturn, 1) := by decide +kernel
theorem dX8_commute_35 : decode cX8_commute 35 = .ok (.aload_n 0, 1) := by decide +kernel
theorem dX8_commute_36 : decode cX8_commute 36 = .ok (.iload_n 1, 1) := by decide +kernel
theorem dX8_commute_37 : decode cX8_commute 37 = .ok (.invokevirtual 177, 3) := by decide +kernel
theorem dX8_commute_40 : decode cX8_commute 40 = .ok (.ifCond .ne 11, 3) := by decide +kernel
theorem dX8_commute_43 : decode cX8_commute 43 = .ok (.aload_n 0, 1) := by decide +kernel
theorem dX8_commute_44 : decode cX8_commute 44 = .ok (.iload_n 2, 1) := by decide +kernel
theorem dX8_commute_45 : decode cX8_commute 45 = .ok (.invokevirtual 177, 3) := by decide +kernel
theorem dX8_commute_48 : decode cX8_commute 48 = .ok (.ifCond .eq 27, 3) := by decide +kernel
theorem dX8_commute_51 : decode cX8_commute 51 = .ok (.aload_n 0, 1) := by decide +kernel
theorem dX8_commute_52 : decode cX8_commute 52 = .ok (.aload_n 0, 1) := by decide +kernel
theorem dX8_commute_53 : decode cX8_commute 53 = .ok (.iconst 2, 1) := by decide +kernel
theorem dX8_commute_54 : decode cX8_commute 54 = .ok (.iconst 3, 1) := by decide +kernel
theorem dX8_commute_55 : decode cX8_commute 55 = .ok (.aload_n 0, 1) := by decide +kernel
theorem dX8_commute_56 : decode cX8_commute 56 = .ok (.iload_n 1, 1) := by decide +kernel
theorem dX8_commute_57 : decode cX8_commute 57 = .ok (.invokevirtual 177, 3) := by decide +kernel
theorem dX8_commute_60 : decode cX8_commute 60 = .ok (.ifCond .eq 7, 3) := by decide +kernel
theorem dX8_commute_63 : decode cX8_commute 63 = .ok (.iload_n 1, 1) := by decide +kernel
theorem dX8_commute_64 : decode cX8_commute 64 = .ok (.goto 4, 3) := by decide +kernel
theorem dX8_commute_67 : decode cX8_commute 67 = .ok (.iload_n 2, 1) := by decide +kernel
theorem dX8_commute_68 : decode cX8_commute 68 = .ok (.invokevirtual 110, 3) := by decide +kernel
theorem dX8_commute_71 : decode cX8_commute 71 = .ok (.invokevirtual 100, 3) := by decide +kernel
theorem dX8_commute_74 : decode cX8_commute 74 = .ok (.ireturn, 1) := by decide +kernel
theorem dX8_commute_75 : decode cX8_commute 75 = .ok (.aload_n 0, 1) := by decide +kernel
theorem dX8_commute_76 : decode cX8_commute 76 = .ok (.iconst 0, 1) := by decide +kernel
theorem dX8_commute_77 : decode cX8_commute 77 = .ok (.putfield 60, 3) := by decide +kernel
theorem dX8_commute_80 : decode cX8_commute 80 = .ok (.aload_n 0, 1) := by decide +kernel
theorem dX8_commute_81 : decode cX8_commute 81 = .ok (.aload_n 0, 1) := by decide +kernel
theorem dX8_commute_82 : decode cX8_commute 82 = .ok (.aload_n 0, 1) := by decide +kernel
theorem dX8_commute_83 : decode cX8_commute 83 = .ok (.aload_n 0, 1) := by decide +kernel
theorem dX8_commute_84 : decode cX8_commute 84 = .ok (.iload_n 1, 1) := by decide +kernel
theorem dX8_commute_85 : decode cX8_commute 85 = .ok (.invokevirtual 159, 3) := by decide +kernel
theorem dX8_commute_88 : decode cX8_commute 88 = .ok (.aload_n 0, 1) := by decide +kernel
theorem dX8_commute_89 : decode cX8_commute 89 = .ok (.iload_n 2, 1) := by decide +kernel
theorem dX8_commute_90 : decode cX8_commute 90 = .ok (.invokevirtual 159, 3) := by decide +kernel
theorem dX8_commute_93 : decode cX8_commute 93 = .ok (.invokevirtual 165, 3) := by decide +kernel
theorem dX8_commute_96 : decode cX8_commute 96 = .ok (.iload_n 3, 1) := by decide +kernel
theorem dX8_commute_97 : decode cX8_commute 97 = .ok (.invokevirtual 174, 3) := by decide +kernel
theorem dX8_commute_100 : decode cX8_commute 100 = .ok (.invokevirtual 100, 3) := by decide +kernel
theorem dX8_commute_103 : decode cX8_commute 103 = .ok (.ireturn, 1) := by decide +kernel
theorem dX8_filledMany_0 : decode cX8_filledMany 0 = .ok (.iconst 0, 1) := by decide +kernel
theorem dX8_filledMany_1 : decode cX8_filledMany 1 = .ok (.istore_n 1, 1) := by decide +kernel
theorem dX8_filledMany_2 : decode cX8_filledMany 2 = .ok (.iconst 0, 1) := by decide +kernel
theorem dX8_filledMany_3 : decode cX8_filledMany 3 = .ok (.istore_n 2, 1) := by decide +kernel
theorem dX8_filledMany_4 : decode cX8_filledMany 4 = .ok (.iload_n 2, 1) := by decide +kernel
theorem dX8_filledMany_5 : decode cX8_filledMany 5 = .ok (.iconst 5, 1) := by decide +kernel
theorem dX8_filledMany_6 : decode cX8_filledMany 6 = .ok (.if_icmp .ge 20, 3) := by decide +kernel
theorem dX8_filledMany_9 : decode cX8_filledMany 9 = .ok (.iload_n 1, 1) := by decide +kernel
theorem dX8_filledMany_10 : decode cX8_filledMany 10 = .ok (.aload_n 0, 1) := by decide +kernel
theorem dX8_filledMany_11 : decode cX8_filledMany 11 = .ok (.getfield 9, 3) := by decide +kernel
theorem dX8_filledMany_14 : decode cX8_filledMany 14 = .ok (.iconst 3, 1) := by decide +kernel
theorem dX8_filledMany_15 : decode cX8_filledMany 15 = .ok (.iload_n 2, 1) := by decide +kernel
theorem dX8_filledMany_16 : decode cX8_filledMany 16 = .ok (.iadd, 1) := by decide +kernel
theorem dX8_filledMany_17 : decode cX8_filledMany 17 = .ok (.iaload, 1) := by decide +kernel
theorem dX8_filledMany_18 : decode cX8_filledMany 18 = .ok (.iadd, 1) := by decide +kernel
theorem dX8_filledMany_19 : decode cX8_filledMany 19 = .ok (.istore_n 1, 1) := by decide +kernel
theorem dX8_filledMany_20 : decode cX8_filledMany 20 = .ok (.iinc 2 1, 3) := by decide +kernel
theorem dX8_filledMany_23 : decode cX8_filledMany 23 = .ok (.goto (-19), 3) := by decide +kernel
theorem dX8_filledMany_26 : decode cX8_filledMany 26 = .ok (.iload_n 1, 1) := by decide +kernel
theorem dX8_filledMany_27 : decode cX8_filledMany 27 = .ok (.ireturn, 1) := by decide +kernel
theorem dX8_forget_0 : decode cX8_forget 0 = .ok (.aload_n 0, 1) := by decide +kernel
theorem dX8_forget_1 : decode cX8_forget 1 = .ok (.invokevirtual 90, 3) := by decide +kernel
theorem dX8_forget_4 : decode cX8_forget 4 = .ok (.iload_n 1, 1) := by decide +kernel
theorem dX8_forget_5 : decode cX8_forget 5 = .ok (.invokestatic 171, 3) := by decide +kernel
theorem dX8_forget_8 : decode cX8_forget 8 = .ok (.ifCond .ne 13, 3) := by decide +kernel
theorem dX8_forget_11 : decode cX8_forget 11 = .ok (.aload_n 0, 1) := by decide +kernel
theorem dX8_forget_12 : decode cX8_forget 12 = .ok (.aload_n 0, 1) := by decide +kernel
theorem dX8_forget_13 : decode cX8_forget 13 = .ok (.iconst 1, 1) := by decide +kernel
theorem dX8_forget_14 : decode cX8_forget 14 = .ok (.invokevirtual 97, 3) := by decide +kernel
theorem dX8_forget_17 : decode cX8_forget 17 = .ok (.invokevirtual 100, 3) := by decide +kernel
theorem dX8_forget_20 : decode cX8_forget 20 = .ok (.ireturn, 1) := by decide +kernel
theorem dX8_forget_21 : decode cX8_forget 21 = .ok (.aload_n 0, 1) := by decide +kernel
theorem dX8_forget_22 : decode cX8_forget 22 = .ok (.iload_n 1, 1) := by decide +kernel
theorem dX8_forget_23 : decode cX8_forget 23 = .ok (.invokevirtual 177, 3) := by decide +kernel
theorem dX8_forget_26 : decode cX8_forget 26 = .ok (.ifCond .eq 15, 3) := by decide +kernel
theorem dX8_forget_29 : decode cX8_forget 29 = .ok (.aload_n 0, 1) := by decide +kernel
theorem dX8_forget_30 : decode cX8_forget 30 = .ok (.aload_n 0, 1) := by decide +kernel
theorem dX8_forget_31 : decode cX8_forget 31 = .ok (.iconst 2, 1) := by decide +kernel
theorem dX8_forget_32 : decode cX8_forget 32 = .ok (.iconst 3, 1) := by decide +kernel
theorem dX8_forget_33 : decode cX8_forget 33 = .ok (.iload_n 1, 1) := by decide +kernel
theorem dX8_forget_34 : decode cX8_forget 34 = .ok (.invokevirtual 110, 3) := by decide +kernel
theorem dX8_forget_37 : decode cX8_forget 37 = .ok (.invokevirtual 100, 3) := by decide +kernel
theorem dX8_forget_40 : decode cX8_forget 40 = .ok (.ireturn, 1) := by decide +kernel
theorem dX8_forget_41 : decode cX8_forget 41 = .ok (.aload_n 0, 1) := by decide +kernel
theorem dX8_forget_42 : decode cX8_forget 42 = .ok (.getfield 9, 3) := by decide +kernel
theorem dX8_forget_45 : decode cX8_forget 45 = .ok (.iconst 3, 1) := by decide +kernel
theorem dX8_forget_46 : decode cX8_forget 46 = .ok (.iload_n 1, 1) := by decide +kernel
theorem dX8_forget_47 : decode cX8_forget 47 = .ok (.iadd, 1) := by decide +kernel
theorem dX8_forget_48 : decode cX8_forget 48 = .ok (.iconst 0, 1) := by decide +kernel
theorem dX8_forget_49 : decode cX8_forget 49 = .ok (.iastore, 1) := by decide +kernel
theorem dX8_forget_50 : decode cX8_forget 50 = .ok (.aload_n 0, 1) := by decide +kernel
theorem dX8_forget_51 : decode cX8_forget 51 = .ok (.aload_n 0, 1) := by decide +kernel
theorem dX8_forget_52 : decode cX8_forget 52 = .ok (.invokevirtual 180, 3) := by decide +kernel
theorem dX8_forget_55 : decode cX8_forget 55 = .ok (.invokevirtual 100, 3) := by decide +kernel
theorem dX8_forget_58 : decode cX8_forget 58 = .ok (.ireturn, 1) := by decide +kernel
theorem dX8_goes_0 : decode cX8_goes 0 = .ok (.aload_n 0, 1) := by decide +kernel
theorem dX8_goes_1 : decode cX8_goes 1 = .ok (.getfield 9, 3) := by decide +kernel
theorem dX8_goes_4 : decode cX8_goes 4 = .ok (.sipush 192, 3) := by decide +kernel
theorem dX8_goes_7 : decode cX8_goes 7 = .ok (.bipush 32, 2) := by decide +kernel
theorem dX8_goes_9 : decode cX8_goes 9 = .ok (.iload_n 1, 1) := by decide +kernel
theorem dX8_goes_10 : decode cX8_goes 10 = .ok (.imul, 1) := by decide +kernel
theorem dX8_goes_11 : decode cX8_goes 11 = .ok (.iadd, 1) := by decide +kernel
theorem dX8_goes_12 : decode cX8_goes 12 = .ok (.iload_n 2, 1) := by decide +kernel
theorem dX8_goes_13 : decode cX8_goes 13 = .ok (.iadd, 1) := by decide +kernel
theorem dX8_goes_14 : decode cX8_goes 14 = .ok (.iaload, 1) := by decide +kernel
theorem dX8_goes_15 : decode cX8_goes 15 = .ok (.ireturn, 1) := by decide +kernel
theorem dX8_goesTo_0 : decode cX8_goesTo 0 = .ok (.aload_n 0, 1) := by decide +kernel
theorem dX8_goesTo_1 : decode cX8_goesTo 1 = .ok (.iload_n 1, 1) := by decide +kernel
theorem dX8_goesTo_2 : decode cX8_goesTo 2 = .ok (.invokestatic 171, 3) := by decide +kernel
theorem dX8_goesTo_5 : decode cX8_goesTo 5 = .ok (.ifCond .eq 10, 3) := by decide +kernel
theorem dX8_goesTo_8 : decode cX8_goesTo 8 = .ok (.iload_n 2, 1) := by decide +kernel
theorem dX8_goesTo_9 : decode cX8_goesTo 9 = .ok (.invokestatic 115, 3) := by decide +kernel
theorem dX8_goesTo_12 : decode cX8_goesTo 12 = .ok (.ifCond .ne 7, 3) := by decide +kernel
theorem dX8_goesTo_15 : decode cX8_goesTo 15 = .ok (.iconst 1, 1) := by decide +kernel
theorem dX8_goesTo_16 : decode cX8_goesTo 16 = .ok (.goto 16, 3) := by decide +kernel
theorem dX8_goesTo_19 : decode cX8_goesTo 19 = .ok (.aload_n 0, 1) := by decide +kernel
theorem dX8_goesTo_20 : decode cX8_goesTo 20 = .ok (.iload_n 1, 1) := by decide +kernel
theorem dX8_goesTo_21 : decode cX8_goesTo 21 = .ok (.invokevirtual 177, 3) := by decide +kernel
theorem dX8_goesTo_24 : decode cX8_goesTo 24 = .ok (.ifCond .eq 7, 3) := by decide +kernel
theorem dX8_goesTo_27 : decode cX8_goesTo 27 = .ok (.iconst 2, 1) := by decide +kernel
theorem dX8_goesTo_28 : decode cX8_goesTo 28 = .ok (.goto 4, 3) := by decide +kernel
theorem dX8_goesTo_31 : decode cX8_goesTo 31 = .ok (.iconst 0, 1) := by decide +kernel
theorem dX8_goesTo_32 : decode cX8_goesTo 32 = .ok (.putfield 42, 3) := by decide +kernel
theorem dX8_goesTo_35 : decode cX8_goesTo 35 = .ok (.aload_n 0, 1) := by decide +kernel
theorem dX8_goesTo_36 : decode cX8_goesTo 36 = .ok (.getfield 42, 3) := by decide +kernel
theorem dX8_goesTo_39 : decode cX8_goesTo 39 = .ok (.ifCond .le 7, 3) := by decide +kernel
theorem dX8_goesTo_42 : decode cX8_goesTo 42 = .ok (.iconst 0, 1) := by decide +kernel
theorem dX8_goesTo_43 : decode cX8_goesTo 43 = .ok (.goto 9, 3) := by decide +kernel
theorem dX8_goesTo_46 : decode cX8_goesTo 46 = .ok (.aload_n 0, 1) := by decide +kernel
theorem dX8_goesTo_47 : decode cX8_goesTo 47 = .ok (.iload_n 1, 1) := by decide +kernel
theorem dX8_goesTo_48 : decode cX8_goesTo 48 = .ok (.iload_n 2, 1) := by decide +kernel
theorem dX8_goesTo_49 : decode cX8_goesTo 49 = .ok (.invokevirtual 183, 3) := by decide +kernel
theorem dX8_goesTo_52 : decode cX8_goesTo 52 = .ok (.ireturn, 1) := by decide +kernel
theorem dX8_cycleOf_0 : decode cX8_cycleOf 0 = .ok (.iconst 1, 1) := by decide +kernel
theorem dX8_cycleOf_1 : decode cX8_cycleOf 1 = .ok (.istore_n 3, 1) := by decide +kernel
theorem dX8_cycleOf_2 : decode cX8_cycleOf 2 = .ok (.aload_n 0, 1) := by decide +kernel
theorem dX8_cycleOf_3 : decode cX8_cycleOf 3 = .ok (.iload_n 1, 1) := by decide +kernel
theorem dX8_cycleOf_4 : decode cX8_cycleOf 4 = .ok (.iload_n 2, 1) := by decide +kernel
theorem dX8_cycleOf_5 : decode cX8_cycleOf 5 = .ok (.invokevirtual 183, 3) := by decide +kernel
theorem dX8_cycleOf_8 : decode cX8_cycleOf 8 = .ok (.istore 4, 2) := by decide +kernel
theorem dX8_cycleOf_10 : decode cX8_cycleOf 10 = .ok (.iload 4, 2) := by decide +kernel
theorem dX8_cycleOf_12 : decode cX8_cycleOf 12 = .ok (.iload_n 2, 1) := by decide +kernel
theorem dX8_cycleOf_13 : decode cX8_cycleOf 13 = .ok (.if_icmp .eq 18, 3) := by decide +kernel
theorem dX8_cycleOf_16 : decode cX8_cycleOf 16 = .ok (.iinc 3 1, 3) := by decide +kernel
theorem dX8_cycleOf_19 : decode cX8_cycleOf 19 = .ok (.aload_n 0, 1) := by decide +kernel
theorem dX8_cycleOf_20 : decode cX8_cycleOf 20 = .ok (.iload_n 1, 1) := by decide +kernel
theorem dX8_cycleOf_21 : decode cX8_cycleOf 21 = .ok (.iload 4, 2) := by decide +kernel
theorem dX8_cycleOf_23 : decode cX8_cycleOf 23 = .ok (.invokevirtual 183, 3) := by decide +kernel
theorem dX8_cycleOf_26 : decode cX8_cycleOf 26 = .ok (.istore 4, 2) := by decide +kernel
theorem dX8_cycleOf_28 : decode cX8_cycleOf 28 = .ok (.goto (-18), 3) := by decide +kernel
theorem dX8_cycleOf_31 : decode cX8_cycleOf 31 = .ok (.iload_n 3, 1) := by decide +kernel
theorem dX8_cycleOf_32 : decode cX8_cycleOf 32 = .ok (.ireturn, 1) := by decide +kernel
theorem dX8_isLowest_0 : decode cX8_isLowest 0 = .ok (.iconst 1, 1) := by decide +kernel
theorem dX8_isLowest_1 : decode cX8_isLowest 1 = .ok (.istore_n 3, 1) := by decide +kernel
theorem dX8_isLowest_2 : decode cX8_isLowest 2 = .ok (.aload_n 0, 1) := by decide +kernel
theorem dX8_isLowest_3 : decode cX8_isLowest 3 = .ok (.iload_n 1, 1) := by decide +kernel
theorem dX8_isLowest_4 : decode cX8_isLowest 4 = .ok (.iload_n 2, 1) := by decide +kernel
theorem dX8_isLowest_5 : decode cX8_isLowest 5 = .ok (.invokevirtual 183, 3) := by decide +kernel
theorem dX8_isLowest_8 : decode cX8_isLowest 8 = .ok (.istore 4, 2) := by decide +kernel
theorem dX8_isLowest_10 : decode cX8_isLowest 10 = .ok (.iload 4, 2) := by decide +kernel
theorem dX8_isLowest_12 : decode cX8_isLowest 12 = .ok (.iload_n 2, 1) := by decide +kernel
theorem dX8_isLowest_13 : decode cX8_isLowest 13 = .ok (.if_icmp .eq 31, 3) := by decide +kernel
theorem dX8_isLowest_16 : decode cX8_isLowest 16 = .ok (.iload_n 3, 1) := by decide +kernel
theorem dX8_isLowest_17 : decode cX8_isLowest 17 = .ok (.ifCond .eq 13, 3) := by decide +kernel
theorem dX8_isLowest_20 : decode cX8_isLowest 20 = .ok (.iload 4, 2) := by decide +kernel
theorem dX8_isLowest_22 : decode cX8_isLowest 22 = .ok (.iload_n 2, 1) := by decide +kernel
theorem dX8_isLowest_23 : decode cX8_isLowest 23 = .ok (.if_icmp .le 7, 3) := by decide +kernel
theorem dX8_isLowest_26 : decode cX8_isLowest 26 = .ok (.iconst 1, 1) := by decide +kernel
theorem dX8_isLowest_27 : decode cX8_isLowest 27 = .ok (.goto 4, 3) := by decide +kernel
theorem dX8_isLowest_30 : decode cX8_isLowest 30 = .ok (.iconst 0, 1) := by decide +kernel
theorem dX8_isLowest_31 : decode cX8_isLowest 31 = .ok (.istore_n 3, 1) := by decide +kernel
theorem dX8_isLowest_32 : decode cX8_isLowest 32 = .ok (.aload_n 0, 1) := by decide +kernel
theorem dX8_isLowest_33 : decode cX8_isLowest 33 = .ok (.iload_n 1, 1) := by decide +kernel
theorem dX8_isLowest_34 : decode cX8_isLowest 34 = .ok (.iload 4, 2) := by decide +kernel
theorem dX8_isLowest_36 : decode cX8_isLowest 36 = .ok (.invokevirtual 183, 3) := by decide +kernel
theorem dX8_isLowest_39 : decode cX8_isLowest 39 = .ok (.istore 4, 2) := by decide +kernel
theorem dX8_isLowest_41 : decode cX8_isLowest 41 = .ok (.goto (-31), 3) := by decide +kernel
theorem dX8_isLowest_44 : decode cX8_isLowest 44 = .ok (.iload_n 3, 1) := by decide +kernel
theorem dX8_isLowest_45 : decode cX8_isLowest 45 = .ok (.ireturn, 1) := by decide +kernel
theorem dX8_common_0 : decode cX8_common 0 = .ok (.iload_n 1, 1) := by decide +kernel
theorem dX8_common_1 : decode cX8_common 1 = .ok (.ifCond .ne 7, 3) := by decide +kernel
theorem dX8_common_4 : decode cX8_common 4 = .ok (.iload_n 0, 1) := by decide +kernel
theorem dX8_common_5 : decode cX8_common 5 = .ok (.goto 10, 3) := by decide +kernel
theorem dX8_common_8 : decode cX8_common 8 = .ok (.iload_n 1, 1) := by decide +kernel
theorem dX8_common_9 : decode cX8_common 9 = .ok (.iload_n 0, 1) := by decide +kernel
theorem dX8_common_10 : decode cX8_common 10 = .ok (.iload_n 1, 1) := by decide +kernel
theorem dX8_common_11 : decode cX8_common 11 = .ok (.irem, 1) := by decide +kernel
theorem dX8_common_12 : decode cX8_common 12 = .ok (.invokestatic 186, 3) := by decide +kernel
theorem dX8_common_15 : decode cX8_common 15 = .ok (.ireturn, 1) := by decide +kernel
theorem dX8_order_0 : decode cX8_order 0 = .ok (.iconst 1, 1) := by decide +kernel
theorem dX8_order_1 : decode cX8_order 1 = .ok (.istore_n 2, 1) := by decide +kernel
theorem dX8_order_2 : decode cX8_order 2 = .ok (.iconst 0, 1) := by decide +kernel
