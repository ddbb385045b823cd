theorem dL_numbersFit_131 : decode cL_numbersFit 131 = .ok (.iconst 0, 1) := by decide +kernel
theorem dL_numbersFit_132 : decode cL_numbersFit 132 = .ok (.iadd, 1) := by decide +kernel
theorem dL_numbersFit_133 : decode cL_numbersFit 133 = .ok (.istore_n 1, 1) := by decide +kernel
theorem dL_numbersFit_134 : decode cL_numbersFit 134 = .ok (.iload_n 2, 1) := by decide +kernel
theorem dL_numbersFit_135 : decode cL_numbersFit 135 = .ok (.iload 8, 2) := by decide +kernel
theorem dL_numbersFit_137 : decode cL_numbersFit 137 = .ok (.iadd, 1) := by decide +kernel
theorem dL_numbersFit_138 : decode cL_numbersFit 138 = .ok (.istore_n 2, 1) := by decide +kernel
theorem dL_numbersFit_139 : decode cL_numbersFit 139 = .ok (.iload_n 3, 1) := by decide +kernel
theorem dL_numbersFit_140 : decode cL_numbersFit 140 = .ok (.iload 10, 2) := by decide +kernel
theorem dL_numbersFit_142 : decode cL_numbersFit 142 = .ok (.iadd, 1) := by decide +kernel
theorem dL_numbersFit_143 : decode cL_numbersFit 143 = .ok (.istore_n 3, 1) := by decide +kernel
theorem dL_numbersFit_144 : decode cL_numbersFit 144 = .ok (.iload 11, 2) := by decide +kernel
theorem dL_numbersFit_146 : decode cL_numbersFit 146 = .ok (.ifCond .eq 10, 3) := by decide +kernel
theorem dL_numbersFit_149 : decode cL_numbersFit 149 = .ok (.iload 6, 2) := by decide +kernel
theorem dL_numbersFit_151 : decode cL_numbersFit 151 = .ok (.iconst 1, 1) := by decide +kernel
theorem dL_numbersFit_152 : decode cL_numbersFit 152 = .ok (.iadd, 1) := by decide +kernel
theorem dL_numbersFit_153 : decode cL_numbersFit 153 = .ok (.goto 5, 3) := by decide +kernel
theorem dL_numbersFit_156 : decode cL_numbersFit 156 = .ok (.iload 4, 2) := by decide +kernel
theorem dL_numbersFit_158 : decode cL_numbersFit 158 = .ok (.istore 4, 2) := by decide +kernel
theorem dL_numbersFit_160 : decode cL_numbersFit 160 = .ok (.aload_n 0, 1) := by decide +kernel
theorem dL_numbersFit_161 : decode cL_numbersFit 161 = .ok (.iload 6, 2) := by decide +kernel
theorem dL_numbersFit_163 : decode cL_numbersFit 163 = .ok (.iconst 2, 1) := by decide +kernel
theorem dL_numbersFit_164 : decode cL_numbersFit 164 = .ok (.invokevirtual 27, 3) := by decide +kernel
theorem dL_numbersFit_167 : decode cL_numbersFit 167 = .ok (.iload 10, 2) := by decide +kernel
theorem dL_numbersFit_169 : decode cL_numbersFit 169 = .ok (.if_icmp .ne 52, 3) := by decide +kernel
theorem dL_numbersFit_172 : decode cL_numbersFit 172 = .ok (.iload 10, 2) := by decide +kernel
theorem dL_numbersFit_174 : decode cL_numbersFit 174 = .ok (.iload 8, 2) := by decide +kernel
theorem dL_numbersFit_176 : decode cL_numbersFit 176 = .ok (.if_icmp .gt 45, 3) := by decide +kernel
theorem dL_numbersFit_179 : decode cL_numbersFit 179 = .ok (.iload 11, 2) := by decide +kernel
theorem dL_numbersFit_181 : decode cL_numbersFit 181 = .ok (.iload 8, 2) := by decide +kernel
theorem dL_numbersFit_183 : decode cL_numbersFit 183 = .ok (.ifCond .le 7, 3) := by decide +kernel
theorem dL_numbersFit_186 : decode cL_numbersFit 186 = .ok (.iconst 1, 1) := by decide +kernel
theorem dL_numbersFit_187 : decode cL_numbersFit 187 = .ok (.goto 4, 3) := by decide +kernel
theorem dL_numbersFit_190 : decode cL_numbersFit 190 = .ok (.iconst 0, 1) := by decide +kernel
theorem dL_numbersFit_191 : decode cL_numbersFit 191 = .ok (.if_icmp .ne 30, 3) := by decide +kernel
theorem dL_numbersFit_194 : decode cL_numbersFit 194 = .ok (.iload 8, 2) := by decide +kernel
theorem dL_numbersFit_196 : decode cL_numbersFit 196 = .ok (.sipush 999, 3) := by decide +kernel
theorem dL_numbersFit_199 : decode cL_numbersFit 199 = .ok (.if_icmp .gt 22, 3) := by decide +kernel
theorem dL_numbersFit_202 : decode cL_numbersFit 202 = .ok (.iload 11, 2) := by decide +kernel
theorem dL_numbersFit_204 : decode cL_numbersFit 204 = .ok (.iload 9, 2) := by decide +kernel
theorem dL_numbersFit_206 : decode cL_numbersFit 206 = .ok (.ifCond .lt 7, 3) := by decide +kernel
theorem dL_numbersFit_209 : decode cL_numbersFit 209 = .ok (.iconst 1, 1) := by decide +kernel
theorem dL_numbersFit_210 : decode cL_numbersFit 210 = .ok (.goto 4, 3) := by decide +kernel
theorem dL_numbersFit_213 : decode cL_numbersFit 213 = .ok (.iconst 0, 1) := by decide +kernel
theorem dL_numbersFit_214 : decode cL_numbersFit 214 = .ok (.if_icmp .ne 7, 3) := by decide +kernel
theorem dL_numbersFit_217 : decode cL_numbersFit 217 = .ok (.iconst 1, 1) := by decide +kernel
theorem dL_numbersFit_218 : decode cL_numbersFit 218 = .ok (.goto 4, 3) := by decide +kernel
theorem dL_numbersFit_221 : decode cL_numbersFit 221 = .ok (.iconst 0, 1) := by decide +kernel
theorem dL_numbersFit_222 : decode cL_numbersFit 222 = .ok (.istore 5, 2) := by decide +kernel
theorem dL_numbersFit_224 : decode cL_numbersFit 224 = .ok (.iload 5, 2) := by decide +kernel
theorem dL_numbersFit_226 : decode cL_numbersFit 226 = .ok (.ifCond .eq 135, 3) := by decide +kernel
theorem dL_numbersFit_229 : decode cL_numbersFit 229 = .ok (.iload 11, 2) := by decide +kernel
theorem dL_numbersFit_231 : decode cL_numbersFit 231 = .ok (.ifCond .eq 84, 3) := by decide +kernel
theorem dL_numbersFit_234 : decode cL_numbersFit 234 = .ok (.iload 9, 2) := by decide +kernel
theorem dL_numbersFit_236 : decode cL_numbersFit 236 = .ok (.ldc 38, 2) := by decide +kernel
theorem dL_numbersFit_238 : decode cL_numbersFit 238 = .ok (.aload_n 0, 1) := by decide +kernel
theorem dL_numbersFit_239 : decode cL_numbersFit 239 = .ok (.iconst 3, 1) := by decide +kernel
theorem dL_numbersFit_240 : decode cL_numbersFit 240 = .ok (.invokevirtual 21, 3) := by decide +kernel
theorem dL_numbersFit_243 : decode cL_numbersFit 243 = .ok (.imul, 1) := by decide +kernel
theorem dL_numbersFit_244 : decode cL_numbersFit 244 = .ok (.bipush 100, 2) := by decide +kernel
theorem dL_numbersFit_246 : decode cL_numbersFit 246 = .ok (.aload_n 0, 1) := by decide +kernel
theorem dL_numbersFit_247 : decode cL_numbersFit 247 = .ok (.iload 6, 2) := by decide +kernel
theorem dL_numbersFit_249 : decode cL_numbersFit 249 = .ok (.iconst 3, 1) := by decide +kernel
theorem dL_numbersFit_250 : decode cL_numbersFit 250 = .ok (.invokevirtual 27, 3) := by decide +kernel
theorem dL_numbersFit_253 : decode cL_numbersFit 253 = .ok (.imul, 1) := by decide +kernel
theorem dL_numbersFit_254 : decode cL_numbersFit 254 = .ok (.iadd, 1) := by decide +kernel
theorem dL_numbersFit_255 : decode cL_numbersFit 255 = .ok (.iload 6, 2) := by decide +kernel
theorem dL_numbersFit_257 : decode cL_numbersFit 257 = .ok (.iadd, 1) := by decide +kernel
theorem dL_numbersFit_258 : decode cL_numbersFit 258 = .ok (.if_icmp .ne 103, 3) := by decide +kernel
theorem dL_numbersFit_261 : decode cL_numbersFit 261 = .ok (.aload_n 0, 1) := by decide +kernel
theorem dL_numbersFit_262 : decode cL_numbersFit 262 = .ok (.iload 7, 2) := by decide +kernel
theorem dL_numbersFit_264 : decode cL_numbersFit 264 = .ok (.invokevirtual 39, 3) := by decide +kernel
theorem dL_numbersFit_267 : decode cL_numbersFit 267 = .ok (.iload 6, 2) := by decide +kernel
theorem dL_numbersFit_269 : decode cL_numbersFit 269 = .ok (.if_icmp .ne 92, 3) := by decide +kernel
theorem dL_numbersFit_272 : decode cL_numbersFit 272 = .ok (.aload_n 0, 1) := by decide +kernel
theorem dL_numbersFit_273 : decode cL_numbersFit 273 = .ok (.iload 9, 2) := by decide +kernel
theorem dL_numbersFit_275 : decode cL_numbersFit 275 = .ok (.invokevirtual 42, 3) := by decide +kernel
theorem dL_numbersFit_278 : decode cL_numbersFit 278 = .ok (.ifCond .ne 83, 3) := by decide +kernel
theorem dL_numbersFit_281 : decode cL_numbersFit 281 = .ok (.aload_n 0, 1) := by decide +kernel
theorem dL_numbersFit_282 : decode cL_numbersFit 282 = .ok (.iload 9, 2) := by decide +kernel
theorem dL_numbersFit_284 : decode cL_numbersFit 284 = .ok (.invokevirtual 45, 3) := by decide +kernel
theorem dL_numbersFit_287 : decode cL_numbersFit 287 = .ok (.iload 9, 2) := by decide +kernel
theorem dL_numbersFit_289 : decode cL_numbersFit 289 = .ok (.if_icmp .ne 72, 3) := by decide +kernel
theorem dL_numbersFit_292 : decode cL_numbersFit 292 = .ok (.aload_n 0, 1) := by decide +kernel
theorem dL_numbersFit_293 : decode cL_numbersFit 293 = .ok (.iload 9, 2) := by decide +kernel
theorem dL_numbersFit_295 : decode cL_numbersFit 295 = .ok (.invokevirtual 48, 3) := by decide +kernel
theorem dL_numbersFit_298 : decode cL_numbersFit 298 = .ok (.iload 7, 2) := by decide +kernel
theorem dL_numbersFit_300 : decode cL_numbersFit 300 = .ok (.if_icmp .ne 61, 3) := by decide +kernel
theorem dL_numbersFit_303 : decode cL_numbersFit 303 = .ok (.aload_n 0, 1) := by decide +kernel
theorem dL_numbersFit_304 : decode cL_numbersFit 304 = .ok (.iload 7, 2) := by decide +kernel
theorem dL_numbersFit_306 : decode cL_numbersFit 306 = .ok (.invokevirtual 51, 3) := by decide +kernel
theorem dL_numbersFit_309 : decode cL_numbersFit 309 = .ok (.ifCond .le 52, 3) := by decide +kernel
theorem dL_numbersFit_312 : decode cL_numbersFit 312 = .ok (.goto 45, 3) := by decide +kernel
theorem dL_numbersFit_315 : decode cL_numbersFit 315 = .ok (.aload_n 0, 1) := by decide +kernel
theorem dL_numbersFit_316 : decode cL_numbersFit 316 = .ok (.iload 6, 2) := by decide +kernel
theorem dL_numbersFit_318 : decode cL_numbersFit 318 = .ok (.iconst 0, 1) := by decide +kernel
theorem dL_numbersFit_319 : decode cL_numbersFit 319 = .ok (.invokevirtual 54, 3) := by decide +kernel
theorem dL_numbersFit_322 : decode cL_numbersFit 322 = .ok (.ldc 37, 2) := by decide +kernel
theorem dL_numbersFit_324 : decode cL_numbersFit 324 = .ok (.if_icmp .ne 37, 3) := by decide +kernel
theorem dL_numbersFit_327 : decode cL_numbersFit 327 = .ok (.aload_n 0, 1) := by decide +kernel
theorem dL_numbersFit_328 : decode cL_numbersFit 328 = .ok (.ldc 38, 2) := by decide +kernel
theorem dL_numbersFit_330 : decode cL_numbersFit 330 = .ok (.aload_n 0, 1) := by decide +kernel
theorem dL_numbersFit_331 : decode cL_numbersFit 331 = .ok (.iconst 3, 1) := by decide +kernel
theorem dL_numbersFit_332 : decode cL_numbersFit 332 = .ok (.invokevirtual 21, 3) := by decide +kernel
theorem dL_numbersFit_335 : decode cL_numbersFit 335 = .ok (.imul, 1) := by decide +kernel
theorem dL_numbersFit_336 : decode cL_numbersFit 336 = .ok (.bipush 100, 2) := by decide +kernel
theorem dL_numbersFit_338 : decode cL_numbersFit 338 = .ok (.aload_n 0, 1) := by decide +kernel
theorem dL_numbersFit_339 : decode cL_numbersFit 339 = .ok (.iload 6, 2) := by decide +kernel
theorem dL_numbersFit_341 : decode cL_numbersFit 341 = .ok (.iconst 3, 1) := by decide +kernel
theorem dL_numbersFit_342 : decode cL_numbersFit 342 = .ok (.invokevirtual 27, 3) := by decide +kernel
theorem dL_numbersFit_345 : decode cL_numbersFit 345 = .ok (.imul, 1) := by decide +kernel
theorem dL_numbersFit_346 : decode cL_numbersFit 346 = .ok (.iadd, 1) := by decide +kernel
theorem dL_numbersFit_347 : decode cL_numbersFit 347 = .ok (.iload 6, 2) := by decide +kernel
theorem dL_numbersFit_349 : decode cL_numbersFit 349 = .ok (.iadd, 1) := by decide +kernel
theorem dL_numbersFit_350 : decode cL_numbersFit 350 = .ok (.invokevirtual 42, 3) := by decide +kernel
theorem dL_numbersFit_353 : decode cL_numbersFit 353 = .ok (.iconst 4, 1) := by decide +kernel
theorem dL_numbersFit_354 : decode cL_numbersFit 354 = .ok (.if_icmp .ne 7, 3) := by decide +kernel
theorem dL_numbersFit_357 : decode cL_numbersFit 357 = .ok (.iconst 1, 1) := by decide +kernel
theorem dL_numbersFit_358 : decode cL_numbersFit 358 = .ok (.goto 4, 3) := by decide +kernel
theorem dL_numbersFit_361 : decode cL_numbersFit 361 = .ok (.iconst 0, 1) := by decide +kernel
theorem dL_numbersFit_362 : decode cL_numbersFit 362 = .ok (.istore 5, 2) := by decide +kernel
theorem dL_numbersFit_364 : decode cL_numbersFit 364 = .ok (.iinc 6 1, 3) := by decide +kernel
theorem dL_numbersFit_367 : decode cL_numbersFit 367 = .ok (.goto (-352), 3) := by decide +kernel
theorem dL_numbersFit_370 : decode cL_numbersFit 370 = .ok (.iload 5, 2) := by decide +kernel
theorem dL_numbersFit_372 : decode cL_numbersFit 372 = .ok (.ifCond .eq 83, 3) := by decide +kernel
theorem dL_numbersFit_375 : decode cL_numbersFit 375 = .ok (.iload_n 1, 1) := by decide +kernel
theorem dL_numbersFit_376 : decode cL_numbersFit 376 = .ok (.aload_n 0, 1) := by decide +kernel
theorem dL_numbersFit_377 : decode cL_numbersFit 377 = .ok (.iconst 0, 1) := by decide +kernel
theorem dL_numbersFit_378 : decode cL_numbersFit 378 = .ok (.invokevirtual 21, 3) := by decide +kernel
theorem dL_numbersFit_381 : decode cL_numbersFit 381 = .ok (.if_icmp .ne 74, 3) := by decide +kernel
theorem dL_numbersFit_384 : decode cL_numbersFit 384 = .ok (.iload_n 2, 1) := by decide +kernel
theorem dL_numbersFit_385 : decode cL_numbersFit 385 = .ok (.aload_n 0, 1) := by decide +kernel
theorem dL_numbersFit_386 : decode cL_numbersFit 386 = .ok (.iconst 1, 1) := by decide +kernel
theorem dL_numbersFit_387 : decode cL_numbersFit 387 = .ok (.invokevirtual 21, 3) := by decide +kernel
theorem dL_numbersFit_390 : decode cL_numbersFit 390 = .ok (.if_icmp .ne 65, 3) := by decide +kernel
theorem dL_numbersFit_393 : decode cL_numbersFit 393 = .ok (.iload_n 3, 1) := by decide +kernel
theorem dL_numbersFit_394 : decode cL_numbersFit 394 = .ok (.aload_n 0, 1) := by decide +kernel
theorem dL_numbersFit_395 : decode cL_numbersFit 395 = .ok (.iconst 2, 1) := by decide +kernel
theorem dL_numbersFit_396 : decode cL_numbersFit 396 = .ok (.invokevirtual 21, 3) := by decide +kernel
theorem dL_numbersFit_399 : decode cL_numbersFit 399 = .ok (.if_icmp .ne 56, 3) := by decide +kernel
theorem dL_numbersFit_402 : decode cL_numbersFit 402 = .ok (.iload 4, 2) := by decide +kernel
theorem dL_numbersFit_404 : decode cL_numbersFit 404 = .ok (.aload_n 0, 1) := by decide +kernel
theorem dL_numbersFit_405 : decode cL_numbersFit 405 = .ok (.iconst 4, 1) := by decide +kernel
theorem dL_numbersFit_406 : decode cL_numbersFit 406 = .ok (.invokevirtual 21, 3) := by decide +kernel
theorem dL_numbersFit_409 : decode cL_numbersFit 409 = .ok (.if_icmp .ne 46, 3) := by decide +kernel
theorem dL_numbersFit_412 : decode cL_numbersFit 412 = .ok (.iload 4, 2) := by decide +kernel
theorem dL_numbersFit_414 : decode cL_numbersFit 414 = .ok (.iload_n 1, 1) := by decide +kernel
theorem dL_numbersFit_415 : decode cL_numbersFit 415 = .ok (.isub, 1) := by decide +kernel
theorem dL_numbersFit_416 : decode cL_numbersFit 416 = .ok (.aload_n 0, 1) := by decide +kernel
theorem dL_numbersFit_417 : decode cL_numbersFit 417 = .ok (.iconst 5, 1) := by decide +kernel
theorem dL_numbersFit_418 : decode cL_numbersFit 418 = .ok (.invokevirtual 21, 3) := by decide +kernel
theorem dL_numbersFit_421 : decode cL_numbersFit 421 = .ok (.if_icmp .ne 34, 3) := by decide +kernel
theorem dL_numbersFit_424 : decode cL_numbersFit 424 = .ok (.aload_n 0, 1) := by decide +kernel
theorem dL_numbersFit_425 : decode cL_numbersFit 425 = .ok (.bipush 6, 2) := by decide +kernel
theorem dL_numbersFit_427 : decode cL_numbersFit 427 = .ok (.invokevirtual 21, 3) := by decide +kernel
theorem dL_numbersFit_430 : decode cL_numbersFit 430 = .ok (.iload_n 1, 1) := by decide +kernel
theorem dL_numbersFit_431 : decode cL_numbersFit 431 = .ok (.if_icmp .lt 24, 3) := by decide +kernel
theorem dL_numbersFit_434 : decode cL_numbersFit 434 = .ok (.aload_n 0, 1) := by decide +kernel
theorem dL_numbersFit_435 : decode cL_numbersFit 435 = .ok (.bipush 6, 2) := by decide +kernel
theorem dL_numbersFit_437 : decode cL_numbersFit 437 = .ok (.invokevirtual 21, 3) := by decide +kernel
theorem dL_numbersFit_440 : decode cL_numbersFit 440 = .ok (.aload_n 0, 1) := by decide +kernel
theorem dL_numbersFit_441 : decode cL_numbersFit 441 = .ok (.bipush 7, 2) := by decide +kernel
theorem dL_numbersFit_443 : decode cL_numbersFit 443 = .ok (.invokevirtual 21, 3) := by decide +kernel
theorem dL_numbersFit_446 : decode cL_numbersFit 446 = .ok (.isub, 1) := by decide +kernel
theorem dL_numbersFit_447 : decode cL_numbersFit 447 = .ok (.iload_n 1, 1) := by decide +kernel
theorem dL_numbersFit_448 : decode cL_numbersFit 448 = .ok (.if_icmp .ne 7, 3) := by decide +kernel
theorem dL_numbersFit_451 : decode cL_numbersFit 451 = .ok (.iconst 1, 1) := by decide +kernel
theorem dL_numbersFit_452 : decode cL_numbersFit 452 = .ok (.goto 4, 3) := by decide +kernel
theorem dL_numbersFit_455 : decode cL_numbersFit 455 = .ok (.iconst 0, 1) := by decide +kernel
theorem dL_numbersFit_456 : decode cL_numbersFit 456 = .ok (.ireturn, 1) := by decide +kernel
set_option maxRecDepth 20000 in
theorem ggL_ordersFit_X3_count : GoodIn wsL_ordersFit wsX3_count := goodIn_r _ [6, 7, 8, 9, 10, 11, 12, 13, 14, 15, 16, 17, 18, 19, 20, 21, 22, 23, 24, 25, 26, 27, 28, 29, 30, 31, 32, 33, 34, 35, 36, 37, 38, 39, 103, 104, 105, 106, 107, 108, 109, 110, 111, 112, 113, 114, 115, 116, 117, 118, 119, 120, 121, 122, 123, 124] (by decide +kernel) (by decide +kernel)
set_option maxRecDepth 20000 in
theorem gL_ordersFit_X3_count : GoodIn wsL_ordersFit (wsV RL 21 RX3 yX3_count wsX3_count) := goodIn_app (goodIn_of _ (by decide +kernel)) ggL_ordersFit_X3_count
set_option maxRecDepth 20000 in
theorem ggL_ordersFit_X3_nameAt : GoodIn wsL_ordersFit wsX3_nameAt := goodIn_r _ [43, 19, 7, 44, 45, 46, 47, 5, 48, 49, 50, 51, 23, 52, 25, 53, 54, 55, 56, 30, 57, 58, 59, 103, 104, 105, 106, 107, 108, 109, 110, 111, 112, 113, 114, 115, 116, 117, 118, 119, 120, 121, 122] (by decide +kernel) (by decide +kernel)
set_option maxRecDepth 20000 in
theorem gL_ordersFit_X3_nameAt : GoodIn wsL_ordersFit (wsV RL 57 RX3 yX3_nameAt wsX3_nameAt) := goodIn_app (goodIn_of _ (by decide +kernel)) ggL_ordersFit_X3_nameAt
set_option maxRecDepth 20000 in
theorem ggL_ordersFit_X3_find : GoodIn wsL_ordersFit wsX3_find := goodIn_r _ [63, 19, 7, 45, 64, 65, 5, 66, 67, 68, 69, 70, 23, 71, 25, 103, 104, 105, 106, 107, 108, 109, 110, 111, 112, 113, 114, 115, 116, 117, 118, 119, 120, 121, 122] (by decide +kernel) (by decide +kernel)
set_option maxRecDepth 20000 in
theorem gL_ordersFit_X3_find : GoodIn wsL_ordersFit (wsV RL 39 RX3 yX3_find wsX3_find) := goodIn_app (goodIn_of _ (by decide +kernel)) ggL_ordersFit_X3_find
set_option maxRecDepth 20000 in
theorem ggL_ordersFit_X3_wouldBe : GoodIn wsL_ordersFit wsX3_wouldBe := goodIn_r _ [75, 19, 7, 44, 45, 46, 47, 5, 48, 49, 50, 51, 23, 52, 25, 53, 54, 55, 56, 30, 57, 58, 59, 103, 104, 105, 106, 107, 108, 109, 110, 111, 112, 113, 114, 115, 116, 117, 118, 119, 120, 121, 122] (by decide +kernel) (by decide +kernel)
set_option maxRecDepth 20000 in
theorem gL_ordersFit_X3_wouldBe : GoodIn wsL_ordersFit (wsV RL 54 RX3 yX3_wouldBe wsX3_wouldBe) := goodIn_app (goodIn_of _ (by decide +kernel)) ggL_ordersFit_X3_wouldBe
set_option maxRecDepth 20000 in
theorem ggL_ordersFit_X3_numberOf : GoodIn wsL_ordersFit wsX3_numberOf := goodIn_r _ [79, 19, 7, 44, 45, 80, 81, 46, 47, 5, 48, 31, 32, 33, 23, 34, 35, 82, 83, 84, 85, 86, 87, 88, 89, 90, 91, 92, 103, 104, 105, 106, 107, 108, 109, 110, 111, 112, 113, 114, 115, 116, 117, 118, 119, 120, 121, 122] (by decide +kernel) (by decide +kernel)
set_option maxRecDepth 20000 in
theorem gL_ordersFit_X3_numberOf : GoodIn wsL_ordersFit (wsV RL 27 RX3 yX3_numberOf wsX3_numberOf) := goodIn_app (goodIn_of _ (by decide +kernel)) ggL_ordersFit_X3_numberOf
set_option maxRecDepth 20000 in
theorem ggL_ordersFit_L_padded : GoodIn wsL_ordersFit wsL_padded := goodIn_r _ [96, 97] (by decide +kernel) (by decide +kernel)
set_option maxRecDepth 20000 in
theorem gL_ordersFit_L_padded : GoodIn wsL_ordersFit (va_wsS RL 60 yL_padded wsL_padded) := goodIn_app (goodIn_of _ (by decide +kernel)) ggL_ordersFit_L_padded
set_option maxRecDepth 20000 in
theorem ggL_ordersFit_X3_behind : GoodIn wsL_ordersFit wsX3_behind := goodIn_r _ [101, 19, 7, 44, 45, 64, 65, 5, 66, 67, 102, 57, 58, 59, 103, 104, 105, 106, 107, 108, 109, 110, 111, 112, 113, 114, 115, 116, 117, 118, 119, 120, 121, 122] (by decide +kernel) (by decide +kernel)
set_option maxRecDepth 20000 in
theorem gL_ordersFit_X3_behind : GoodIn wsL_ordersFit (wsV RL 63 RX3 yX3_behind wsX3_behind) := goodIn_app (goodIn_of _ (by decide +kernel)) ggL_ordersFit_X3_behind
theorem dL_ordersFit_0 : decode cL_ordersFit 0 = .ok (.aload_n 0, 1) := by decide +kernel
theorem dL_ordersFit_1 : decode cL_ordersFit 1 = .ok (.iconst 0, 1) := by decide +kernel
theorem dL_ordersFit_2 : decode cL_ordersFit 2 = .ok (.invokevirtual 21, 3) := by decide +kernel
theorem dL_ordersFit_5 : decode cL_ordersFit 5 = .ok (.istore_n 1, 1) := by decide +kernel
theorem dL_ordersFit_6 : decode cL_ordersFit 6 = .ok (.iconst 1, 1) := by decide +kernel
theorem dL_ordersFit_7 : decode cL_ordersFit 7 = .ok (.istore_n 2, 1) := by decide +kernel
theorem dL_ordersFit_8 : decode cL_ordersFit 8 = .ok (.iconst 0, 1) := by decide +kernel
theorem dL_ordersFit_9 : decode cL_ordersFit 9 = .ok (.istore_n 3, 1) := by decide +kernel
theorem dL_ordersFit_10 : decode cL_ordersFit 10 = .ok (.iload_n 3, 1) := by decide +kernel
theorem dL_ordersFit_11 : decode cL_ordersFit 11 = .ok (.iconst 3, 1) := by decide +kernel
theorem dL_ordersFit_12 : decode cL_ordersFit 12 = .ok (.if_icmp .ge 213, 3) := by decide +kernel
theorem dL_ordersFit_15 : decode cL_ordersFit 15 = .ok (.iload_n 2, 1) := by decide +kernel
theorem dL_ordersFit_16 : decode cL_ordersFit 16 = .ok (.ifCond .eq 209, 3) := by decide +kernel
theorem dL_ordersFit_19 : decode cL_ordersFit 19 = .ok (.aload_n 0, 1) := by decide +kernel
theorem dL_ordersFit_20 : decode cL_ordersFit 20 = .ok (.iload_n 3, 1) := by decide +kernel
theorem dL_ordersFit_21 : decode cL_ordersFit 21 = .ok (.iload_n 1, 1) := by decide +kernel
theorem dL_ordersFit_22 : decode cL_ordersFit 22 = .ok (.invokevirtual 57, 3) := by decide +kernel
theorem dL_ordersFit_25 : decode cL_ordersFit 25 = .ok (.ldc 37, 2) := by decide +kernel
theorem dL_ordersFit_27 : decode cL_ordersFit 27 = .ok (.if_icmp .ne 7, 3) := by decide +kernel
theorem dL_ordersFit_30 : decode cL_ordersFit 30 = .ok (.iconst 1, 1) := by decide +kernel
theorem dL_ordersFit_31 : decode cL_ordersFit 31 = .ok (.goto 4, 3) := by decide +kernel
theorem dL_ordersFit_34 : decode cL_ordersFit 34 = .ok (.iconst 0, 1) := by decide +kernel
theorem dL_ordersFit_35 : decode cL_ordersFit 35 = .ok (.istore_n 2, 1) := by decide +kernel
theorem dL_ordersFit_36 : decode cL_ordersFit 36 = .ok (.iconst 0, 1) := by decide +kernel
theorem dL_ordersFit_37 : decode cL_ordersFit 37 = .ok (.istore 4, 2) := by decide +kernel
theorem dL_ordersFit_39 : decode cL_ordersFit 39 = .ok (.iload 4, 2) := by decide +kernel
theorem dL_ordersFit_41 : decode cL_ordersFit 41 = .ok (.iload_n 1, 1) := by decide +kernel
theorem dL_ordersFit_42 : decode cL_ordersFit 42 = .ok (.if_icmp .ge 177, 3) := by decide +kernel
theorem dL_ordersFit_45 : decode cL_ordersFit 45 = .ok (.iload_n 2, 1) := by decide +kernel
theorem dL_ordersFit_46 : decode cL_ordersFit 46 = .ok (.ifCond .eq 173, 3) := by decide +kernel
theorem dL_ordersFit_49 : decode cL_ordersFit 49 = .ok (.aload_n 0, 1) := by decide +kernel
theorem dL_ordersFit_50 : decode cL_ordersFit 50 = .ok (.iload_n 3, 1) := by decide +kernel
theorem dL_ordersFit_51 : decode cL_ordersFit 51 = .ok (.iload 4, 2) := by decide +kernel
theorem dL_ordersFit_53 : decode cL_ordersFit 53 = .ok (.invokevirtual 57, 3) := by decide +kernel
theorem dL_ordersFit_56 : decode cL_ordersFit 56 = .ok (.istore 5, 2) := by decide +kernel
theorem dL_ordersFit_58 : decode cL_ordersFit 58 = .ok (.aload_n 0, 1) := by decide +kernel
theorem dL_ordersFit_59 : decode cL_ordersFit 59 = .ok (.iload 5, 2) := by decide +kernel
theorem dL_ordersFit_61 : decode cL_ordersFit 61 = .ok (.invokevirtual 39, 3) := by decide +kernel
theorem dL_ordersFit_64 : decode cL_ordersFit 64 = .ok (.istore 6, 2) := by decide +kernel
theorem dL_ordersFit_66 : decode cL_ordersFit 66 = .ok (.iload 6, 2) := by decide +kernel
theorem dL_ordersFit_68 : decode cL_ordersFit 68 = .ok (.ifCond .lt 19, 3) := by decide +kernel
theorem dL_ordersFit_71 : decode cL_ordersFit 71 = .ok (.aload_n 0, 1) := by decide +kernel
theorem dL_ordersFit_72 : decode cL_ordersFit 72 = .ok (.iload 6, 2) := by decide +kernel
theorem dL_ordersFit_74 : decode cL_ordersFit 74 = .ok (.iload_n 3, 1) := by decide +kernel
theorem dL_ordersFit_75 : decode cL_ordersFit 75 = .ok (.invokevirtual 54, 3) := by decide +kernel
theorem dL_ordersFit_78 : decode cL_ordersFit 78 = .ok (.iload 4, 2) := by decide +kernel
theorem dL_ordersFit_80 : decode cL_ordersFit 80 = .ok (.if_icmp .ne 7, 3) := by decide +kernel
theorem dL_ordersFit_83 : decode cL_ordersFit 83 = .ok (.iconst 1, 1) := by decide +kernel
theorem dL_ordersFit_84 : decode cL_ordersFit 84 = .ok (.goto 4, 3) := by decide +kernel
theorem dL_ordersFit_87 : decode cL_ordersFit 87 = .ok (.iconst 0, 1) := by decide +kernel
theorem dL_ordersFit_88 : decode cL_ordersFit 88 = .ok (.istore_n 2, 1) := by decide +kernel
theorem dL_ordersFit_89 : decode cL_ordersFit 89 = .ok (.iload_n 2, 1) := by decide +kernel
theorem dL_ordersFit_90 : decode cL_ordersFit 90 = .ok (.ifCond .eq 123, 3) := by decide +kernel
theorem dL_ordersFit_93 : decode cL_ordersFit 93 = .ok (.iload 4, 2) := by decide +kernel
theorem dL_ordersFit_95 : decode cL_ordersFit 95 = .ok (.ifCond .le 118, 3) := by decide +kernel
theorem dL_ordersFit_98 : decode cL_ordersFit 98 = .ok (.aload_n 0, 1) := by decide +kernel
theorem dL_ordersFit_99 : decode cL_ordersFit 99 = .ok (.iload_n 3, 1) := by decide +kernel
theorem dL_ordersFit_100 : decode cL_ordersFit 100 = .ok (.iload 4, 2) := by decide +kernel
theorem dL_ordersFit_102 : decode cL_ordersFit 102 = .ok (.iconst 1, 1) := by decide +kernel
theorem dL_ordersFit_103 : decode cL_ordersFit 103 = .ok (.isub, 1) := by decide +kernel
theorem dL_ordersFit_104 : decode cL_ordersFit 104 = .ok (.invokevirtual 57, 3) := by decide +kernel
theorem dL_ordersFit_107 : decode cL_ordersFit 107 = .ok (.istore 7, 2) := by decide +kernel
theorem dL_ordersFit_109 : decode cL_ordersFit 109 = .ok (.aload_n 0, 1) := by decide +kernel
theorem dL_ordersFit_110 : decode cL_ordersFit 110 = .ok (.iload 7, 2) := by decide +kernel
theorem dL_ordersFit_112 : decode cL_ordersFit 112 = .ok (.invokevirtual 39, 3) := by decide +kernel
theorem dL_ordersFit_115 : decode cL_ordersFit 115 = .ok (.istore 8, 2) := by decide +kernel
theorem dL_ordersFit_117 : decode cL_ordersFit 117 = .ok (.aload_n 0, 1) := by decide +kernel
theorem dL_ordersFit_118 : decode cL_ordersFit 118 = .ok (.iload 8, 2) := by decide +kernel
theorem dL_ordersFit_120 : decode cL_ordersFit 120 = .ok (.iconst 1, 1) := by decide +kernel
theorem dL_ordersFit_121 : decode cL_ordersFit 121 = .ok (.invokevirtual 27, 3) := by decide +kernel
theorem dL_ordersFit_124 : decode cL_ordersFit 124 = .ok (.aload_n 0, 1) := by decide +kernel
theorem dL_ordersFit_125 : decode cL_ordersFit 125 = .ok (.iload 6, 2) := by decide +kernel
theorem dL_ordersFit_127 : decode cL_ordersFit 127 = .ok (.iconst 1, 1) := by decide +kernel
theorem dL_ordersFit_128 : decode cL_ordersFit 128 = .ok (.invokevirtual 27, 3) := by decide +kernel
theorem dL_ordersFit_131 : decode cL_ordersFit 131 = .ok (.isub, 1) := by decide +kernel
theorem dL_ordersFit_132 : decode cL_ordersFit 132 = .ok (.istore 9, 2) := by decide +kernel
theorem dL_ordersFit_134 : decode cL_ordersFit 134 = .ok (.iload_n 3, 1) := by decide +kernel
theorem dL_ordersFit_135 : decode cL_ordersFit 135 = .ok (.ifCond .ne 18, 3) := by decide +kernel
theorem dL_ordersFit_138 : decode cL_ordersFit 138 = .ok (.iload 8, 2) := by decide +kernel
theorem dL_ordersFit_140 : decode cL_ordersFit 140 = .ok (.iload 6, 2) := by decide +kernel
theorem dL_ordersFit_142 : decode cL_ordersFit 142 = .ok (.if_icmp .ge 7, 3) := by decide +kernel
theorem dL_ordersFit_145 : decode cL_ordersFit 145 = .ok (.iconst 1, 1) := by decide +kernel
theorem dL_ordersFit_146 : decode cL_ordersFit 146 = .ok (.goto 66, 3) := by decide +kernel
theorem dL_ordersFit_149 : decode cL_ordersFit 149 = .ok (.iconst 0, 1) := by decide +kernel
theorem dL_ordersFit_150 : decode cL_ordersFit 150 = .ok (.goto 62, 3) := by decide +kernel
theorem dL_ordersFit_153 : decode cL_ordersFit 153 = .ok (.iload_n 3, 1) := by decide +kernel
theorem dL_ordersFit_154 : decode cL_ordersFit 154 = .ok (.iconst 1, 1) := by decide +kernel
theorem dL_ordersFit_155 : decode cL_ordersFit 155 = .ok (.if_icmp .ne 35, 3) := by decide +kernel
theorem dL_ordersFit_158 : decode cL_ordersFit 158 = .ok (.iload 7, 2) := by decide +kernel
theorem dL_ordersFit_160 : decode cL_ordersFit 160 = .ok (.invokestatic 60, 3) := by decide +kernel
theorem dL_ordersFit_163 : decode cL_ordersFit 163 = .ok (.iload 5, 2) := by decide +kernel
theorem dL_ordersFit_165 : decode cL_ordersFit 165 = .ok (.invokestatic 60, 3) := by decide +kernel
theorem dL_ordersFit_168 : decode cL_ordersFit 168 = .ok (.if_icmp .ge 18, 3) := by decide +kernel
theorem dL_ordersFit_171 : decode cL_ordersFit 171 = .ok (.aload_n 0, 1) := by decide +kernel
theorem dL_ordersFit_172 : decode cL_ordersFit 172 = .ok (.iload 7, 2) := by decide +kernel
theorem dL_ordersFit_174 : decode cL_ordersFit 174 = .ok (.invokevirtual 63, 3) := by decide +kernel
theorem dL_ordersFit_177 : decode cL_ordersFit 177 = .ok (.iload 5, 2) := by decide +kernel
theorem dL_ordersFit_179 : decode cL_ordersFit 179 = .ok (.if_icmp .ne 7, 3) := by decide +kernel
theorem dL_ordersFit_182 : decode cL_ordersFit 182 = .ok (.iconst 1, 1) := by decide +kernel
theorem dL_ordersFit_183 : decode cL_ordersFit 183 = .ok (.goto 29, 3) := by decide +kernel
theorem dL_ordersFit_186 : decode cL_ordersFit 186 = .ok (.iconst 0, 1) := by decide +kernel
theorem dL_ordersFit_187 : decode cL_ordersFit 187 = .ok (.goto 25, 3) := by decide +kernel
theorem dL_ordersFit_190 : decode cL_ordersFit 190 = .ok (.iload 9, 2) := by decide +kernel
theorem dL_ordersFit_192 : decode cL_ordersFit 192 = .ok (.ifCond .gt 15, 3) := by decide +kernel
theorem dL_ordersFit_195 : decode cL_ordersFit 195 = .ok (.iload 9, 2) := by decide +kernel
theorem dL_ordersFit_197 : decode cL_ordersFit 197 = .ok (.ifCond .ne 14, 3) := by decide +kernel
theorem dL_ordersFit_200 : decode cL_ordersFit 200 = .ok (.iload 8, 2) := by decide +kernel
theorem dL_ordersFit_202 : decode cL_ordersFit 202 = .ok (.iload 6, 2) := by decide +kernel
theorem dL_ordersFit_204 : decode cL_ordersFit 204 = .ok (.if_icmp .ge 7, 3) := by decide +kernel
theorem dL_ordersFit_207 : decode cL_ordersFit 207 = .ok (.iconst 1, 1) := by decide +kernel
theorem dL_ordersFit_208 : decode cL_ordersFit 208 = .ok (.goto 4, 3) := by decide +kernel
theorem dL_ordersFit_211 : decode cL_ordersFit 211 = .ok (.iconst 0, 1) := by decide +kernel
theorem dL_ordersFit_212 : decode cL_ordersFit 212 = .ok (.istore_n 2, 1) := by decide +kernel
theorem dL_ordersFit_213 : decode cL_ordersFit 213 = .ok (.iinc 4 1, 3) := by decide +kernel
theorem dL_ordersFit_216 : decode cL_ordersFit 216 = .ok (.goto (-177), 3) := by decide +kernel
theorem dL_ordersFit_219 : decode cL_ordersFit 219 = .ok (.iinc 3 1, 3) := by decide +kernel
theorem dL_ordersFit_222 : decode cL_ordersFit 222 = .ok (.goto (-212), 3) := by decide +kernel
theorem dL_ordersFit_225 : decode cL_ordersFit 225 = .ok (.iload_n 2, 1) := by decide +kernel
theorem dL_ordersFit_226 : decode cL_ordersFit 226 = .ok (.ifCond .eq 28, 3) := by decide +kernel
theorem dL_ordersFit_229 : decode cL_ordersFit 229 = .ok (.iload_n 1, 1) := by decide +kernel
theorem dL_ordersFit_230 : decode cL_ordersFit 230 = .ok (.ifCond .eq 20, 3) := by decide +kernel
theorem dL_ordersFit_233 : decode cL_ordersFit 233 = .ok (.aload_n 0, 1) := by decide +kernel
theorem dL_ordersFit_234 : decode cL_ordersFit 234 = .ok (.aload_n 0, 1) := by decide +kernel
theorem dL_ordersFit_235 : decode cL_ordersFit 235 = .ok (.iconst 1, 1) := by decide +kernel
theorem dL_ordersFit_236 : decode cL_ordersFit 236 = .ok (.iload_n 1, 1) := by decide +kernel
theorem dL_ordersFit_237 : decode cL_ordersFit 237 = .ok (.iconst 1, 1) := by decide +kernel
theorem dL_ordersFit_238 : decode cL_ordersFit 238 = .ok (.isub, 1) := by decide +kernel
theorem dL_ordersFit_239 : decode cL_ordersFit 239 = .ok (.invokevirtual 57, 3) := by decide +kernel
theorem dL_ordersFit_242 : decode cL_ordersFit 242 = .ok (.invokevirtual 63, 3) := by decide +kernel
theorem dL_ordersFit_245 : decode cL_ordersFit 245 = .ok (.ldc 37, 2) := by decide +kernel
theorem dL_ordersFit_247 : decode cL_ordersFit 247 = .ok (.if_icmp .ne 7, 3) := by decide +kernel
theorem dL_ordersFit_250 : decode cL_ordersFit 250 = .ok (.iconst 1, 1) := by decide +kernel
theorem dL_ordersFit_251 : decode cL_ordersFit 251 = .ok (.goto 4, 3) := by decide +kernel
theorem dL_ordersFit_254 : decode cL_ordersFit 254 = .ok (.iconst 0, 1) := by decide +kernel
theorem dL_ordersFit_255 : decode cL_ordersFit 255 = .ok (.ireturn, 1) := by decide +kernel
set_option maxRecDepth 20000 in
theorem ggL_tagsFit_X3_why : GoodIn wsL_tagsFit wsX3_why := goodIn_r _ [7, 8, 9, 10, 11, 12, 13, 14, 15, 16, 17, 18, 19, 20, 21, 6, 22, 75, 76, 77, 78, 79, 80, 81, 82, 83, 84, 85, 86, 87, 88, 89, 90, 91, 92, 93, 94] (by decide +kernel) (by decide +kernel)
set_option maxRecDepth 20000 in
theorem gL_tagsFit_X3_why : GoodIn wsL_tagsFit (wsV RL 42 RX3 yX3_why wsX3_why) := goodIn_app (goodIn_of _ (by decide +kernel)) ggL_tagsFit_X3_why
set_option maxRecDepth 20000 in
theorem ggL_tagsFit_X3_follow : GoodIn wsL_tagsFit wsX3_follow := goodIn_r _ [26, 8, 27, 9, 10, 11, 12, 13, 14, 15, 16, 17, 18, 19, 20, 21, 6, 22, 28, 29, 30, 31, 32, 33, 34, 35, 75, 76, 77, 78, 79, 80, 81, 82, 83, 84, 85, 86, 87, 88, 89, 90, 91, 92, 93, 94] (by decide +kernel) (by decide +kernel)
set_option maxRecDepth 20000 in
theorem gL_tagsFit_X3_follow : GoodIn wsL_tagsFit (wsV RL 45 RX3 yX3_follow wsX3_follow) := goodIn_app (goodIn_of _ (by decide +kernel)) ggL_tagsFit_X3_follow
set_option maxRecDepth 20000 in
theorem ggL_tagsFit_X3_count : GoodIn wsL_tagsFit wsX3_count := goodIn_r _ [39, 8, 40, 41, 42, 43, 44, 45, 46, 47, 48, 49, 50, 51, 52, 53, 54, 12, 55, 19, 56, 57, 58, 59, 60, 61, 62, 63, 64, 65, 66, 67, 68, 69, 75, 76, 77, 78, 79, 80, 81, 82, 83, 84, 85, 86, 87, 88, 89, 90, 91, 92, 93, 94, 95, 96] (by decide +kernel) (by decide +kernel)
set_option maxRecDepth 20000 in
theorem gL_tagsFit_X3_count : GoodIn wsL_tagsFit (wsV RL 21 RX3 yX3_count wsX3_count) := goodIn_app (goodIn_of _ (by decide +kernel)) ggL_tagsFit_X3_count
set_option maxRecDepth 20000 in
theorem ggL_tagsFit_X3_nameOf : GoodIn wsL_tagsFit wsX3_nameOf := goodIn_r _ [73, 8, 27, 74, 9, 10, 11, 12, 13, 14, 15, 16, 17, 18, 19, 20, 21, 6, 22, 75, 76, 77, 78, 79, 80, 81, 82, 83, 84, 85, 86, 87, 88, 89, 90, 91, 92, 93, 94] (by decide +kernel) (by decide +kernel)
set_option maxRecDepth 20000 in
theorem gL_tagsFit_X3_nameOf : GoodIn wsL_tagsFit (wsV RL 48 RX3 yX3_nameOf wsX3_nameOf) := goodIn_app (goodIn_of _ (by decide +kernel)) ggL_tagsFit_X3_nameOf
theorem dL_tagsFit_0 : decode cL_tagsFit 0 = .ok (.aload_n 0, 1) := by decide +kernel
theorem dL_tagsFit_1 : decode cL_tagsFit 1 = .ok (.iload_n 1, 1) := by decide +kernel
theorem dL_tagsFit_2 : decode cL_tagsFit 2 = .ok (.invokevirtual 42, 3) := by decide +kernel
theorem dL_tagsFit_5 : decode cL_tagsFit 5 = .ok (.istore_n 2, 1) := by decide +kernel
theorem dL_tagsFit_6 : decode cL_tagsFit 6 = .ok (.aload_n 0, 1) := by decide +kernel
theorem dL_tagsFit_7 : decode cL_tagsFit 7 = .ok (.iload_n 1, 1) := by decide +kernel
theorem dL_tagsFit_8 : decode cL_tagsFit 8 = .ok (.invokevirtual 45, 3) := by decide +kernel
theorem dL_tagsFit_11 : decode cL_tagsFit 11 = .ok (.istore_n 3, 1) := by decide +kernel
theorem dL_tagsFit_12 : decode cL_tagsFit 12 = .ok (.iload_n 1, 1) := by decide +kernel
theorem dL_tagsFit_13 : decode cL_tagsFit 13 = .ok (.ifCond .lt 24, 3) := by decide +kernel
theorem dL_tagsFit_16 : decode cL_tagsFit 16 = .ok (.iload_n 1, 1) := by decide +kernel
theorem dL_tagsFit_17 : decode cL_tagsFit 17 = .ok (.bipush 100, 2) := by decide +kernel
theorem dL_tagsFit_19 : decode cL_tagsFit 19 = .ok (.irem, 1) := by decide +kernel
theorem dL_tagsFit_20 : decode cL_tagsFit 20 = .ok (.bipush 39, 2) := by decide +kernel
theorem dL_tagsFit_22 : decode cL_tagsFit 22 = .ok (.if_icmp .gt 15, 3) := by decide +kernel
theorem dL_tagsFit_25 : decode cL_tagsFit 25 = .ok (.iload_n 1, 1) := by decide +kernel
theorem dL_tagsFit_26 : decode cL_tagsFit 26 = .ok (.ldc 38, 2) := by decide +kernel
theorem dL_tagsFit_28 : decode cL_tagsFit 28 = .ok (.idiv, 1) := by decide +kernel
theorem dL_tagsFit_29 : decode cL_tagsFit 29 = .ok (.aload_n 0, 1) := by decide +kernel
theorem dL_tagsFit_30 : decode cL_tagsFit 30 = .ok (.iconst 3, 1) := by decide +kernel
theorem dL_tagsFit_31 : decode cL_tagsFit 31 = .ok (.invokevirtual 21, 3) := by decide +kernel
theorem dL_tagsFit_34 : decode cL_tagsFit 34 = .ok (.if_icmp .le 7, 3) := by decide +kernel
theorem dL_tagsFit_37 : decode cL_tagsFit 37 = .ok (.iconst 1, 1) := by decide +kernel
theorem dL_tagsFit_38 : decode cL_tagsFit 38 = .ok (.goto 4, 3) := by decide +kernel
theorem dL_tagsFit_41 : decode cL_tagsFit 41 = .ok (.iconst 0, 1) := by decide +kernel
theorem dL_tagsFit_42 : decode cL_tagsFit 42 = .ok (.istore 4, 2) := by decide +kernel
theorem dL_tagsFit_44 : decode cL_tagsFit 44 = .ok (.iload_n 2, 1) := by decide +kernel
theorem dL_tagsFit_45 : decode cL_tagsFit 45 = .ok (.ifCond .lt 58, 3) := by decide +kernel
theorem dL_tagsFit_48 : decode cL_tagsFit 48 = .ok (.iload_n 2, 1) := by decide +kernel
theorem dL_tagsFit_49 : decode cL_tagsFit 49 = .ok (.iconst 4, 1) := by decide +kernel
theorem dL_tagsFit_50 : decode cL_tagsFit 50 = .ok (.if_icmp .gt 53, 3) := by decide +kernel
theorem dL_tagsFit_53 : decode cL_tagsFit 53 = .ok (.iload_n 2, 1) := by decide +kernel
theorem dL_tagsFit_54 : decode cL_tagsFit 54 = .ok (.iconst 1, 1) := by decide +kernel
theorem dL_tagsFit_55 : decode cL_tagsFit 55 = .ok (.if_icmp .ne 7, 3) := by decide +kernel
theorem dL_tagsFit_58 : decode cL_tagsFit 58 = .ok (.iconst 1, 1) := by decide +kernel
theorem dL_tagsFit_59 : decode cL_tagsFit 59 = .ok (.goto 4, 3) := by decide +kernel
theorem dL_tagsFit_62 : decode cL_tagsFit 62 = .ok (.iconst 0, 1) := by decide +kernel
theorem dL_tagsFit_63 : decode cL_tagsFit 63 = .ok (.iload 4, 2) := by decide +kernel
theorem dL_tagsFit_65 : decode cL_tagsFit 65 = .ok (.if_icmp .ne 38, 3) := by decide +kernel
theorem dL_tagsFit_68 : decode cL_tagsFit 68 = .ok (.iload_n 2, 1) := by decide +kernel
theorem dL_tagsFit_69 : decode cL_tagsFit 69 = .ok (.ifCond .ne 7, 3) := by decide +kernel
theorem dL_tagsFit_72 : decode cL_tagsFit 72 = .ok (.iconst 1, 1) := by decide +kernel
theorem dL_tagsFit_73 : decode cL_tagsFit 73 = .ok (.goto 4, 3) := by decide +kernel
theorem dL_tagsFit_76 : decode cL_tagsFit 76 = .ok (.iconst 0, 1) := by decide +kernel
theorem dL_tagsFit_77 : decode cL_tagsFit 77 = .ok (.iload_n 3, 1) := by decide +kernel
theorem dL_tagsFit_78 : decode cL_tagsFit 78 = .ok (.ifCond .lt 7, 3) := by decide +kernel
theorem dL_tagsFit_81 : decode cL_tagsFit 81 = .ok (.iconst 1, 1) := by decide +kernel
theorem dL_tagsFit_82 : decode cL_tagsFit 82 = .ok (.goto 4, 3) := by decide +kernel
theorem dL_tagsFit_85 : decode cL_tagsFit 85 = .ok (.iconst 0, 1) := by decide +kernel
theorem dL_tagsFit_86 : decode cL_tagsFit 86 = .ok (.if_icmp .ne 17, 3) := by decide +kernel
theorem dL_tagsFit_89 : decode cL_tagsFit 89 = .ok (.iload_n 3, 1) := by decide +kernel
theorem dL_tagsFit_90 : decode cL_tagsFit 90 = .ok (.ifCond .ge 9, 3) := by decide +kernel
theorem dL_tagsFit_93 : decode cL_tagsFit 93 = .ok (.iload_n 3, 1) := by decide +kernel
theorem dL_tagsFit_94 : decode cL_tagsFit 94 = .ok (.ldc 16, 2) := by decide +kernel
theorem dL_tagsFit_96 : decode cL_tagsFit 96 = .ok (.if_icmp .ne 7, 3) := by decide +kernel
theorem dL_tagsFit_99 : decode cL_tagsFit 99 = .ok (.iconst 1, 1) := by decide +kernel
theorem dL_tagsFit_100 : decode cL_tagsFit 100 = .ok (.goto 4, 3) := by decide +kernel
theorem dL_tagsFit_103 : decode cL_tagsFit 103 = .ok (.iconst 0, 1) := by decide +kernel
theorem dL_tagsFit_104 : decode cL_tagsFit 104 = .ok (.istore 5, 2) := by decide +kernel
theorem dL_tagsFit_106 : decode cL_tagsFit 106 = .ok (.iload 5, 2) := by decide +kernel
theorem dL_tagsFit_108 : decode cL_tagsFit 108 = .ok (.ifCond .eq 74, 3) := by decide +kernel
theorem dL_tagsFit_111 : decode cL_tagsFit 111 = .ok (.aload_n 0, 1) := by decide +kernel
theorem dL_tagsFit_112 : decode cL_tagsFit 112 = .ok (.iload_n 1, 1) := by decide +kernel
theorem dL_tagsFit_113 : decode cL_tagsFit 113 = .ok (.invokevirtual 48, 3) := by decide +kernel
theorem dL_tagsFit_116 : decode cL_tagsFit 116 = .ok (.ifCond .lt 7, 3) := by decide +kernel
theorem dL_tagsFit_119 : decode cL_tagsFit 119 = .ok (.iconst 1, 1) := by decide +kernel
theorem dL_tagsFit_120 : decode cL_tagsFit 120 = .ok (.goto 4, 3) := by decide +kernel
theorem dL_tagsFit_123 : decode cL_tagsFit 123 = .ok (.iconst 0, 1) := by decide +kernel
theorem dL_tagsFit_124 : decode cL_tagsFit 124 = .ok (.iload_n 2, 1) := by decide +kernel
theorem dL_tagsFit_125 : decode cL_tagsFit 125 = .ok (.ifCond .ne 7, 3) := by decide +kernel
theorem dL_tagsFit_128 : decode cL_tagsFit 128 = .ok (.iconst 1, 1) := by decide +kernel
theorem dL_tagsFit_129 : decode cL_tagsFit 129 = .ok (.goto 4, 3) := by decide +kernel
theorem dL_tagsFit_132 : decode cL_tagsFit 132 = .ok (.iconst 0, 1) := by decide +kernel
theorem dL_tagsFit_133 : decode cL_tagsFit 133 = .ok (.if_icmp .ne 49, 3) := by decide +kernel
theorem dL_tagsFit_136 : decode cL_tagsFit 136 = .ok (.iload 4, 2) := by decide +kernel
theorem dL_tagsFit_138 : decode cL_tagsFit 138 = .ok (.ifCond .ne 40, 3) := by decide +kernel
theorem dL_tagsFit_141 : decode cL_tagsFit 141 = .ok (.iload_n 2, 1) := by decide +kernel
theorem dL_tagsFit_142 : decode cL_tagsFit 142 = .ok (.iconst 2, 1) := by decide +kernel
theorem dL_tagsFit_143 : decode cL_tagsFit 143 = .ok (.if_icmp .ne 7, 3) := by decide +kernel
theorem dL_tagsFit_146 : decode cL_tagsFit 146 = .ok (.iconst 1, 1) := by decide +kernel
theorem dL_tagsFit_147 : decode cL_tagsFit 147 = .ok (.goto 4, 3) := by decide +kernel
theorem dL_tagsFit_150 : decode cL_tagsFit 150 = .ok (.iconst 0, 1) := by decide +kernel
theorem dL_tagsFit_151 : decode cL_tagsFit 151 = .ok (.iload_n 1, 1) := by decide +kernel
theorem dL_tagsFit_152 : decode cL_tagsFit 152 = .ok (.ldc 38, 2) := by decide +kernel
theorem dL_tagsFit_154 : decode cL_tagsFit 154 = .ok (.idiv, 1) := by decide +kernel
theorem dL_tagsFit_155 : decode cL_tagsFit 155 = .ok (.aload_n 0, 1) := by decide +kernel
theorem dL_tagsFit_156 : decode cL_tagsFit 156 = .ok (.iconst 3, 1) := by decide +kernel
theorem dL_tagsFit_157 : decode cL_tagsFit 157 = .ok (.invokevirtual 21, 3) := by decide +kernel
theorem dL_tagsFit_160 : decode cL_tagsFit 160 = .ok (.aload_n 0, 1) := by decide +kernel
theorem dL_tagsFit_161 : decode cL_tagsFit 161 = .ok (.bipush 8, 2) := by decide +kernel
theorem dL_tagsFit_163 : decode cL_tagsFit 163 = .ok (.invokevirtual 21, 3) := by decide +kernel
theorem dL_tagsFit_166 : decode cL_tagsFit 166 = .ok (.isub, 1) := by decide +kernel
theorem dL_tagsFit_167 : decode cL_tagsFit 167 = .ok (.if_icmp .ge 7, 3) := by decide +kernel
theorem dL_tagsFit_170 : decode cL_tagsFit 170 = .ok (.iconst 1, 1) := by decide +kernel
theorem dL_tagsFit_171 : decode cL_tagsFit 171 = .ok (.goto 4, 3) := by decide +kernel
theorem dL_tagsFit_174 : decode cL_tagsFit 174 = .ok (.iconst 0, 1) := by decide +kernel
theorem dL_tagsFit_175 : decode cL_tagsFit 175 = .ok (.if_icmp .ne 7, 3) := by decide +kernel
theorem dL_tagsFit_178 : decode cL_tagsFit 178 = .ok (.iconst 1, 1) := by decide +kernel
theorem dL_tagsFit_179 : decode cL_tagsFit 179 = .ok (.goto 4, 3) := by decide +kernel
theorem dL_tagsFit_182 : decode cL_tagsFit 182 = .ok (.iconst 0, 1) := by decide +kernel
theorem dL_tagsFit_183 : decode cL_tagsFit 183 = .ok (.istore 5, 2) := by decide +kernel
theorem dL_tagsFit_185 : decode cL_tagsFit 185 = .ok (.iload 5, 2) := by decide +kernel
theorem dL_tagsFit_187 : decode cL_tagsFit 187 = .ok (.ifCond .eq 55, 3) := by decide +kernel
theorem dL_tagsFit_190 : decode cL_tagsFit 190 = .ok (.iload_n 2, 1) := by decide +kernel
theorem dL_tagsFit_191 : decode cL_tagsFit 191 = .ok (.ifCond .ne 37, 3) := by decide +kernel
theorem dL_tagsFit_194 : decode cL_tagsFit 194 = .ok (.iload_n 3, 1) := by decide +kernel
theorem dL_tagsFit_195 : decode cL_tagsFit 195 = .ok (.ldc 38, 2) := by decide +kernel
theorem dL_tagsFit_197 : decode cL_tagsFit 197 = .ok (.idiv, 1) := by decide +kernel
theorem dL_tagsFit_198 : decode cL_tagsFit 198 = .ok (.aload_n 0, 1) := by decide +kernel
theorem dL_tagsFit_199 : decode cL_tagsFit 199 = .ok (.iconst 3, 1) := by decide +kernel
theorem dL_tagsFit_200 : decode cL_tagsFit 200 = .ok (.invokevirtual 21, 3) := by decide +kernel
theorem dL_tagsFit_203 : decode cL_tagsFit 203 = .ok (.if_icmp .ne 39, 3) := by decide +kernel
theorem dL_tagsFit_206 : decode cL_tagsFit 206 = .ok (.aload_n 0, 1) := by decide +kernel
theorem dL_tagsFit_207 : decode cL_tagsFit 207 = .ok (.iload_n 3, 1) := by decide +kernel
theorem dL_tagsFit_208 : decode cL_tagsFit 208 = .ok (.invokevirtual 45, 3) := by decide +kernel
theorem dL_tagsFit_211 : decode cL_tagsFit 211 = .ok (.iload_n 3, 1) := by decide +kernel
theorem dL_tagsFit_212 : decode cL_tagsFit 212 = .ok (.if_icmp .ne 30, 3) := by decide +kernel
theorem dL_tagsFit_215 : decode cL_tagsFit 215 = .ok (.aload_n 0, 1) := by decide +kernel
theorem dL_tagsFit_216 : decode cL_tagsFit 216 = .ok (.iload_n 3, 1) := by decide +kernel
theorem dL_tagsFit_217 : decode cL_tagsFit 217 = .ok (.invokevirtual 48, 3) := by decide +kernel
theorem dL_tagsFit_220 : decode cL_tagsFit 220 = .ok (.aload_n 0, 1) := by decide +kernel
theorem dL_tagsFit_221 : decode cL_tagsFit 221 = .ok (.iload_n 1, 1) := by decide +kernel
theorem dL_tagsFit_222 : decode cL_tagsFit 222 = .ok (.invokevirtual 48, 3) := by decide +kernel
theorem dL_tagsFit_225 : decode cL_tagsFit 225 = .ok (.if_icmp .ne 17, 3) := by decide +kernel
theorem dL_tagsFit_228 : decode cL_tagsFit 228 = .ok (.iload_n 2, 1) := by decide +kernel
theorem dL_tagsFit_229 : decode cL_tagsFit 229 = .ok (.iconst 4, 1) := by decide +kernel
theorem dL_tagsFit_230 : decode cL_tagsFit 230 = .ok (.if_icmp .ne 8, 3) := by decide +kernel
theorem dL_tagsFit_233 : decode cL_tagsFit 233 = .ok (.iload 4, 2) := by decide +kernel
theorem dL_tagsFit_235 : decode cL_tagsFit 235 = .ok (.ifCond .ne 7, 3) := by decide +kernel
theorem dL_tagsFit_238 : decode cL_tagsFit 238 = .ok (.iconst 1, 1) := by decide +kernel
theorem dL_tagsFit_239 : decode cL_tagsFit 239 = .ok (.goto 4, 3) := by decide +kernel
theorem dL_tagsFit_242 : decode cL_tagsFit 242 = .ok (.iconst 0, 1) := by decide +kernel
theorem dL_tagsFit_243 : decode cL_tagsFit 243 = .ok (.ireturn, 1) := by decide +kernel
set_option maxRecDepth 20000 in
theorem ggL_fits_L_trace : GoodIn wsL_fits wsL_trace := goodIn_r _ [7, 8, 9, 10, 11, 12, 13, 14, 15, 16, 17, 18, 19, 20, 21, 22, 23, 24, 25, 26, 27, 28, 29, 30, 31, 32, 33, 34, 35, 36, 37, 38, 39, 40, 41, 42, 43, 44, 45, 46, 47, 48, 49, 50, 51, 52, 53, 54, 55, 56, 57, 58, 59, 60, 61, 62, 63, 64, 65, 66, 67, 68, 69, 70, 71, 72, 73, 74, 75, 76, 77, 78, 79, 80, 81, 82, 83, 84, 85, 86, 87, 88, 89, 90, 91, 92, 93, 94, 95, 96, 97, 176, 177, 178, 179, 180, 181, 182, 183, 184, 185, 186, 187, 188, 189, 190, 191, 192, 193, 194, 195, 196, 197] (by decide +kernel) (by decide +kernel)
set_option maxRecDepth 20000 in
theorem gL_fits_L_trace : GoodIn wsL_fits (va_wsS RL 66 yL_trace wsL_trace) := goodIn_app (goodIn_of _ (by decide +kernel)) ggL_fits_L_trace
set_option maxRecDepth 20000 in
theorem ggL_fits_L_near : GoodIn wsL_fits wsL_near := goodIn_r _ [100, 101, 102, 6, 103, 104] (by decide +kernel) (by decide +kernel)
set_option maxRecDepth 20000 in
theorem gL_fits_L_near : GoodIn wsL_fits (va_wsS RL 70 yL_near wsL_near) := goodIn_app (goodIn_of _ (by decide +kernel)) ggL_fits_L_near
set_option maxRecDepth 20000 in
theorem ggL_fits_L_low : GoodIn wsL_fits wsL_low := goodIn_r _ [103, 104] (by decide +kernel) (by decide +kernel)
set_option maxRecDepth 20000 in
theorem gL_fits_L_low : GoodIn wsL_fits (va_wsS RL 9 yL_low wsL_low) := goodIn_app (goodIn_of _ (by decide +kernel)) ggL_fits_L_low
set_option maxRecDepth 20000 in
theorem ggL_fits_X3_count : GoodIn wsL_fits wsX3_count := goodIn_r _ [14, 15, 16, 17, 18, 19, 20, 21, 22, 23, 24, 25, 26, 27, 28, 29, 30, 31, 32, 33, 34, 35, 36, 37, 38, 39, 40, 41, 42, 43, 44, 45, 46, 47, 176, 177, 178, 179, 180, 181, 182, 183, 184, 185, 186, 187, 188, 189, 190, 191, 192, 193, 194, 195, 196, 197] (by decide +kernel) (by decide +kernel)
set_option maxRecDepth 20000 in
theorem gL_fits_X3_count : GoodIn wsL_fits (wsV RL 21 RX3 yX3_count wsX3_count) := goodIn_app (goodIn_of _ (by decide +kernel)) ggL_fits_X3_count
set_option maxRecDepth 20000 in
theorem ggL_fits_L_numbersFit : GoodIn wsL_fits wsL_numbersFit := goodIn_r _ [107, 2, 1, 48, 49, 50, 13, 51, 27, 15, 52, 53, 54, 55, 56, 57, 58, 39, 40, 41, 31, 42, 43, 59, 60, 61, 62, 63, 64, 65, 66, 67, 68, 69, 70, 71, 72, 73, 16, 74, 75, 76, 77, 78, 79, 10, 11, 12, 14, 17, 18, 19, 20, 21, 22, 23, 24, 25, 26, 28, 29, 30, 32, 33, 34, 35, 36, 37, 38, 44, 45, 46, 47, 108, 109, 110, 111, 112, 113, 114, 115, 116, 117, 118, 119, 120, 121, 122, 123, 124, 94, 95, 96, 91, 92, 97, 125, 126, 127, 128, 129, 130, 131, 132, 133, 134, 135, 136, 137, 138, 139, 140, 141, 142, 143, 144, 145, 146, 147, 148, 149, 150, 151, 152, 153, 154, 155, 176, 177, 178, 179, 180, 181, 182, 183, 184, 185, 186, 187, 188, 189, 190, 191, 192, 193, 194, 195, 196, 197] (by decide +kernel) (by decide +kernel)
set_option maxRecDepth 20000 in
theorem gL_fits_L_numbersFit : GoodIn wsL_fits (va_wsS RL 73 yL_numbersFit wsL_numbersFit) := goodIn_app (goodIn_of _ (by decide +kernel)) ggL_fits_L_numbersFit
set_option maxRecDepth 20000 in
theorem ggL_fits_L_ordersFit : GoodIn wsL_fits wsL_ordersFit := goodIn_r _ [158, 2, 10, 11, 12, 13, 14, 15, 16, 17, 18, 19, 20, 21, 22, 23, 24, 25, 26, 27, 28, 29, 30, 31, 32, 33, 34, 35, 36, 37, 38, 39, 40, 41, 42, 43, 44, 45, 46, 47, 159, 160, 161, 162, 52, 53, 56, 57, 58, 145, 146, 147, 148, 149, 150, 151, 152, 153, 154, 155, 108, 109, 110, 111, 112, 113, 114, 115, 116, 117, 118, 119, 141, 142, 143, 144, 48, 49, 50, 51, 54, 55, 59, 60, 61, 62, 63, 64, 65, 66, 67, 68, 69, 163, 164, 6, 165, 166, 167, 168, 169, 170, 171, 176, 177, 178, 179, 180, 181, 182, 183, 184, 185, 186, 187, 188, 189, 190, 191, 192, 193, 194, 195, 196, 197] (by decide +kernel) (by decide +kernel)
set_option maxRecDepth 20000 in
theorem gL_fits_L_ordersFit : GoodIn wsL_fits (va_wsS RL 77 yL_ordersFit wsL_ordersFit) := goodIn_app (goodIn_of _ (by decide +kernel)) ggL_fits_L_ordersFit
set_option maxRecDepth 20000 in
theorem ggL_fits_L_tagsFit : GoodIn wsL_fits wsL_tagsFit := goodIn_r _ [174, 1, 175, 120, 121, 122, 13, 123, 15, 124, 94, 95, 31, 96, 69, 63, 91, 92, 97, 33, 64, 57, 58, 125, 126, 127, 128, 129, 59, 60, 61, 62, 65, 66, 67, 68, 10, 11, 12, 14, 16, 17, 18, 19, 20, 21, 22, 23, 24, 25, 26, 27, 28, 29, 30, 32, 34, 35, 36, 37, 38, 39, 40, 41, 42, 43, 44, 45, 46, 47, 130, 131, 132, 133, 52, 176, 177, 178, 179, 180, 181, 182, 183, 184, 185, 186, 187, 188, 189, 190, 191, 192, 193, 194, 195, 196, 197] (by decide +kernel) (by decide +kernel)
set_option maxRecDepth 20000 in
theorem gL_fits_L_tagsFit : GoodIn wsL_fits (va_wsS RL 80 yL_tagsFit wsL_tagsFit) := goodIn_app (goodIn_of _ (by decide +kernel)) ggL_fits_L_tagsFit
set_option maxRecDepth 20000 in
theorem ggL_fits_X3_compaction : GoodIn wsL_fits wsX3_compaction := goodIn_r _ [83, 27, 15, 17, 53, 84, 85, 86, 56, 57, 13, 58, 87, 88, 89, 31, 90, 91, 92, 66, 67, 68, 69, 93, 94, 95, 96, 63, 97, 33, 64, 176, 177, 178, 179, 180, 181, 182, 183, 184, 185, 186, 187, 188, 189, 190, 191, 192, 193, 194, 195] (by decide +kernel) (by decide +kernel)
set_option maxRecDepth 20000 in
theorem gL_fits_X3_compaction : GoodIn wsL_fits (wsV RL 33 RX3 yX3_compaction wsX3_compaction) := goodIn_app (goodIn_of _ (by decide +kernel)) ggL_fits_X3_compaction
theorem dL_fits_0 : decode cL_fits 0 = .ok (.aload_n 0, 1) := by decide +kernel
theorem dL_fits_1 : decode cL_fits 1 = .ok (.invokestatic 66, 3) := by decide +kernel
theorem dL_fits_4 : decode cL_fits 4 = .ok (.lstore_n 2, 1) := by decide +kernel
theorem dL_fits_5 : decode cL_fits 5 = .ok (.iload_n 1, 1) := by decide +kernel
theorem dL_fits_6 : decode cL_fits 6 = .ok (.iconst 5, 1) := by decide +kernel
theorem dL_fits_7 : decode cL_fits 7 = .ok (.invokestatic 70, 3) := by decide +kernel
theorem dL_fits_10 : decode cL_fits 10 = .ok (.ldc 38, 2) := by decide +kernel
theorem dL_fits_12 : decode cL_fits 12 = .ok (.imul, 1) := by decide +kernel
theorem dL_fits_13 : decode cL_fits 13 = .ok (.iload_n 1, 1) := by decide +kernel
theorem dL_fits_14 : decode cL_fits 14 = .ok (.bipush 9, 2) := by decide +kernel
theorem dL_fits_16 : decode cL_fits 16 = .ok (.ishr, 1) := by decide +kernel
theorem dL_fits_17 : decode cL_fits 17 = .ok (.iconst 4, 1) := by decide +kernel
theorem dL_fits_18 : decode cL_fits 18 = .ok (.invokestatic 9, 3) := by decide +kernel
theorem dL_fits_21 : decode cL_fits 21 = .ok (.bipush 100, 2) := by decide +kernel
theorem dL_fits_23 : decode cL_fits 23 = .ok (.imul, 1) := by decide +kernel
theorem dL_fits_24 : decode cL_fits 24 = .ok (.iadd, 1) := by decide +kernel
theorem dL_fits_25 : decode cL_fits 25 = .ok (.iload_n 1, 1) := by decide +kernel
theorem dL_fits_26 : decode cL_fits 26 = .ok (.iconst 4, 1) := by decide +kernel
theorem dL_fits_27 : decode cL_fits 27 = .ok (.ishr, 1) := by decide +kernel
theorem dL_fits_28 : decode cL_fits 28 = .ok (.bipush 41, 2) := by decide +kernel
theorem dL_fits_30 : decode cL_fits 30 = .ok (.invokestatic 9, 3) := by decide +kernel
theorem dL_fits_33 : decode cL_fits 33 = .ok (.iadd, 1) := by decide +kernel
theorem dL_fits_34 : decode cL_fits 34 = .ok (.istore 4, 2) := by decide +kernel
theorem dL_fits_36 : decode cL_fits 36 = .ok (.aload_n 0, 1) := by decide +kernel
theorem dL_fits_37 : decode cL_fits 37 = .ok (.bipush 8, 2) := by decide +kernel
theorem dL_fits_39 : decode cL_fits 39 = .ok (.invokevirtual 21, 3) := by decide +kernel
theorem dL_fits_42 : decode cL_fits 42 = .ok (.istore 5, 2) := by decide +kernel
theorem dL_fits_44 : decode cL_fits 44 = .ok (.aload_n 0, 1) := by decide +kernel
theorem dL_fits_45 : decode cL_fits 45 = .ok (.invokestatic 73, 3) := by decide +kernel
theorem dL_fits_48 : decode cL_fits 48 = .ok (.ifCond .eq 54, 3) := by decide +kernel
theorem dL_fits_51 : decode cL_fits 51 = .ok (.aload_n 0, 1) := by decide +kernel
theorem dL_fits_52 : decode cL_fits 52 = .ok (.invokestatic 77, 3) := by decide +kernel
theorem dL_fits_55 : decode cL_fits 55 = .ok (.ifCond .eq 47, 3) := by decide +kernel
theorem dL_fits_58 : decode cL_fits 58 = .ok (.aload_n 0, 1) := by decide +kernel
theorem dL_fits_59 : decode cL_fits 59 = .ok (.iload 4, 2) := by decide +kernel
theorem dL_fits_61 : decode cL_fits 61 = .ok (.invokestatic 80, 3) := by decide +kernel
theorem dL_fits_64 : decode cL_fits 64 = .ok (.ifCond .eq 38, 3) := by decide +kernel
theorem dL_fits_67 : decode cL_fits 67 = .ok (.aload_n 0, 1) := by decide +kernel
theorem dL_fits_68 : decode cL_fits 68 = .ok (.iload_n 1, 1) := by decide +kernel
theorem dL_fits_69 : decode cL_fits 69 = .ok (.invokestatic 80, 3) := by decide +kernel
theorem dL_fits_72 : decode cL_fits 72 = .ok (.ifCond .eq 30, 3) := by decide +kernel
theorem dL_fits_75 : decode cL_fits 75 = .ok (.aload_n 0, 1) := by decide +kernel
theorem dL_fits_76 : decode cL_fits 76 = .ok (.iload 5, 2) := by decide +kernel
theorem dL_fits_78 : decode cL_fits 78 = .ok (.iconst 0, 1) := by decide +kernel
theorem dL_fits_79 : decode cL_fits 79 = .ok (.invokevirtual 33, 3) := by decide +kernel
theorem dL_fits_82 : decode cL_fits 82 = .ok (.iload 5, 2) := by decide +kernel
theorem dL_fits_84 : decode cL_fits 84 = .ok (.iconst 3, 1) := by decide +kernel
theorem dL_fits_85 : decode cL_fits 85 = .ok (.if_icmp .ge 8, 3) := by decide +kernel
theorem dL_fits_88 : decode cL_fits 88 = .ok (.ldc 37, 2) := by decide +kernel
theorem dL_fits_90 : decode cL_fits 90 = .ok (.goto 5, 3) := by decide +kernel
theorem dL_fits_93 : decode cL_fits 93 = .ok (.ldc 15, 2) := by decide +kernel
theorem dL_fits_95 : decode cL_fits 95 = .ok (.if_icmp .ne 7, 3) := by decide +kernel
theorem dL_fits_98 : decode cL_fits 98 = .ok (.iconst 1, 1) := by decide +kernel
theorem dL_fits_99 : decode cL_fits 99 = .ok (.goto 4, 3) := by decide +kernel
theorem dL_fits_102 : decode cL_fits 102 = .ok (.iconst 0, 1) := by decide +kernel
theorem dL_fits_103 : decode cL_fits 103 = .ok (.istore 6, 2) := by decide +kernel
theorem dL_fits_105 : decode cL_fits 105 = .ok (.iconst 0, 1) := by decide +kernel
theorem dL_fits_106 : decode cL_fits 106 = .ok (.istore 7, 2) := by decide +kernel
theorem dL_fits_108 : decode cL_fits 108 = .ok (.iload 7, 2) := by decide +kernel
theorem dL_fits_110 : decode cL_fits 110 = .ok (.iload 5, 2) := by decide +kernel
theorem dL_fits_112 : decode cL_fits 112 = .ok (.if_icmp .ge 76, 3) := by decide +kernel
theorem dL_fits_115 : decode cL_fits 115 = .ok (.iload 6, 2) := by decide +kernel
theorem dL_fits_117 : decode cL_fits 117 = .ok (.ifCond .eq 71, 3) := by decide +kernel
theorem dL_fits_120 : decode cL_fits 120 = .ok (.aload_n 0, 1) := by decide +kernel
theorem dL_fits_121 : decode cL_fits 121 = .ok (.iload 7, 2) := by decide +kernel
theorem dL_fits_123 : decode cL_fits 123 = .ok (.iconst 1, 1) := by decide +kernel
theorem dL_fits_124 : decode cL_fits 124 = .ok (.invokevirtual 33, 3) := by decide +kernel
theorem dL_fits_127 : decode cL_fits 127 = .ok (.istore 8, 2) := by decide +kernel
theorem dL_fits_129 : decode cL_fits 129 = .ok (.aload_n 0, 1) := by decide +kernel
theorem dL_fits_130 : decode cL_fits 130 = .ok (.iload 7, 2) := by decide +kernel
theorem dL_fits_132 : decode cL_fits 132 = .ok (.iconst 2, 1) := by decide +kernel
theorem dL_fits_133 : decode cL_fits 133 = .ok (.invokevirtual 33, 3) := by decide +kernel
theorem dL_fits_136 : decode cL_fits 136 = .ok (.iload 8, 2) := by decide +kernel
theorem dL_fits_138 : decode cL_fits 138 = .ok (.if_icmp .gt 41, 3) := by decide +kernel
theorem dL_fits_141 : decode cL_fits 141 = .ok (.aload_n 0, 1) := by decide +kernel
theorem dL_fits_142 : decode cL_fits 142 = .ok (.iload 7, 2) := by decide +kernel
theorem dL_fits_144 : decode cL_fits 144 = .ok (.iconst 3, 1) := by decide +kernel
theorem dL_fits_145 : decode cL_fits 145 = .ok (.invokevirtual 33, 3) := by decide +kernel
theorem dL_fits_148 : decode cL_fits 148 = .ok (.iload 8, 2) := by decide +kernel
theorem dL_fits_150 : decode cL_fits 150 = .ok (.if_icmp .gt 29, 3) := by decide +kernel
theorem dL_fits_153 : decode cL_fits 153 = .ok (.aload_n 0, 1) := by decide +kernel
theorem dL_fits_154 : decode cL_fits 154 = .ok (.iload 7, 2) := by decide +kernel
theorem dL_fits_156 : decode cL_fits 156 = .ok (.iconst 3, 1) := by decide +kernel
theorem dL_fits_157 : decode cL_fits 157 = .ok (.invokevirtual 33, 3) := by decide +kernel
theorem dL_fits_160 : decode cL_fits 160 = .ok (.aload_n 0, 1) := by decide +kernel
theorem dL_fits_161 : decode cL_fits 161 = .ok (.iconst 0, 1) := by decide +kernel
theorem dL_fits_162 : decode cL_fits 162 = .ok (.invokevirtual 21, 3) := by decide +kernel
theorem dL_fits_165 : decode cL_fits 165 = .ok (.if_icmp .gt 14, 3) := by decide +kernel
theorem dL_fits_168 : decode cL_fits 168 = .ok (.iload 8, 2) := by decide +kernel
theorem dL_fits_170 : decode cL_fits 170 = .ok (.bipush 40, 2) := by decide +kernel
theorem dL_fits_172 : decode cL_fits 172 = .ok (.if_icmp .gt 7, 3) := by decide +kernel
theorem dL_fits_175 : decode cL_fits 175 = .ok (.iconst 1, 1) := by decide +kernel
theorem dL_fits_176 : decode cL_fits 176 = .ok (.goto 4, 3) := by decide +kernel
theorem dL_fits_179 : decode cL_fits 179 = .ok (.iconst 0, 1) := by decide +kernel
theorem dL_fits_180 : decode cL_fits 180 = .ok (.istore 6, 2) := by decide +kernel
theorem dL_fits_182 : decode cL_fits 182 = .ok (.iinc 7 1, 3) := by decide +kernel
theorem dL_fits_185 : decode cL_fits 185 = .ok (.goto (-77), 3) := by decide +kernel
theorem dL_fits_188 : decode cL_fits 188 = .ok (.iload 6, 2) := by decide +kernel
theorem dL_fits_190 : decode cL_fits 190 = .ok (.ifCond .eq 16, 3) := by decide +kernel
theorem dL_fits_193 : decode cL_fits 193 = .ok (.aload_n 0, 1) := by decide +kernel
theorem dL_fits_194 : decode cL_fits 194 = .ok (.invokestatic 66, 3) := by decide +kernel
theorem dL_fits_197 : decode cL_fits 197 = .ok (.lload_n 2, 1) := by decide +kernel
theorem dL_fits_198 : decode cL_fits 198 = .ok (.lcmp, 1) := by decide +kernel
theorem dL_fits_199 : decode cL_fits 199 = .ok (.ifCond .ne 7, 3) := by decide +kernel
theorem dL_fits_202 : decode cL_fits 202 = .ok (.iconst 1, 1) := by decide +kernel
theorem dL_fits_203 : decode cL_fits 203 = .ok (.goto 4, 3) := by decide +kernel
theorem dL_fits_206 : decode cL_fits 206 = .ok (.iconst 0, 1) := by decide +kernel
theorem dL_fits_207 : decode cL_fits 207 = .ok (.ireturn, 1) := by decide +kernel
set_option maxRecDepth 20000 in
theorem ggL_name_L_low : GoodIn wsL_name wsL_low := goodIn_r _ [4, 5] (by decide +kernel) (by decide +kernel)
set_option maxRecDepth 20000 in
theorem gL_name_L_low : GoodIn wsL_name (va_wsS RL 9 yL_low wsL_low) := goodIn_app (goodIn_of _ (by decide +kernel)) ggL_name_L_low
theorem dL_name_0 : decode cL_name 0 = .ok (.iconst 1, 1) := by decide +kernel
theorem dL_name_1 : decode cL_name 1 = .ok (.iload_n 0, 1) := by decide +kernel
theorem dL_name_2 : decode cL_name 2 = .ok (.iconst 3, 1) := by decide +kernel
theorem dL_name_3 : decode cL_name 3 = .ok (.invokestatic 9, 3) := by decide +kernel
theorem dL_name_6 : decode cL_name 6 = .ok (.iadd, 1) := by decide +kernel
theorem dL_name_7 : decode cL_name 7 = .ok (.istore_n 1, 1) := by decide +kernel
theorem dL_name_8 : decode cL_name 8 = .ok (.iconst 1, 1) := by decide +kernel
theorem dL_name_9 : decode cL_name 9 = .ok (.iload_n 0, 1) := by decide +kernel
theorem dL_name_10 : decode cL_name 10 = .ok (.iconst 2, 1) := by decide +kernel
theorem dL_name_11 : decode cL_name 11 = .ok (.ishr, 1) := by decide +kernel
theorem dL_name_12 : decode cL_name 12 = .ok (.iconst 2, 1) := by decide +kernel
theorem dL_name_13 : decode cL_name 13 = .ok (.invokestatic 9, 3) := by decide +kernel
theorem dL_name_16 : decode cL_name 16 = .ok (.iadd, 1) := by decide +kernel
theorem dL_name_17 : decode cL_name 17 = .ok (.istore_n 2, 1) := by decide +kernel
theorem dL_name_18 : decode cL_name 18 = .ok (.iload_n 0, 1) := by decide +kernel
theorem dL_name_19 : decode cL_name 19 = .ok (.iconst 4, 1) := by decide +kernel
theorem dL_name_20 : decode cL_name 20 = .ok (.ishr, 1) := by decide +kernel
theorem dL_name_21 : decode cL_name 21 = .ok (.iconst 3, 1) := by decide +kernel
theorem dL_name_22 : decode cL_name 22 = .ok (.invokestatic 9, 3) := by decide +kernel
theorem dL_name_25 : decode cL_name 25 = .ok (.ifCond .ne 7, 3) := by decide +kernel
theorem dL_name_28 : decode cL_name 28 = .ok (.iload_n 1, 1) := by decide +kernel
theorem dL_name_29 : decode cL_name 29 = .ok (.goto 44, 3) := by decide +kernel
theorem dL_name_32 : decode cL_name 32 = .ok (.iload_n 0, 1) := by decide +kernel
theorem dL_name_33 : decode cL_name 33 = .ok (.iconst 4, 1) := by decide +kernel
theorem dL_name_34 : decode cL_name 34 = .ok (.ishr, 1) := by decide +kernel
theorem dL_name_35 : decode cL_name 35 = .ok (.iconst 3, 1) := by decide +kernel
theorem dL_name_36 : decode cL_name 36 = .ok (.invokestatic 9, 3) := by decide +kernel
theorem dL_name_39 : decode cL_name 39 = .ok (.iconst 1, 1) := by decide +kernel
theorem dL_name_40 : decode cL_name 40 = .ok (.if_icmp .ne 12, 3) := by decide +kernel
theorem dL_name_43 : decode cL_name 43 = .ok (.bipush 27, 2) := by decide +kernel
theorem dL_name_45 : decode cL_name 45 = .ok (.iload_n 1, 1) := by decide +kernel
theorem dL_name_46 : decode cL_name 46 = .ok (.imul, 1) := by decide +kernel
theorem dL_name_47 : decode cL_name 47 = .ok (.iload_n 2, 1) := by decide +kernel
theorem dL_name_48 : decode cL_name 48 = .ok (.iadd, 1) := by decide +kernel
theorem dL_name_49 : decode cL_name 49 = .ok (.goto 24, 3) := by decide +kernel
theorem dL_name_52 : decode cL_name 52 = .ok (.sipush 729, 3) := by decide +kernel
theorem dL_name_55 : decode cL_name 55 = .ok (.iload_n 1, 1) := by decide +kernel
theorem dL_name_56 : decode cL_name 56 = .ok (.imul, 1) := by decide +kernel
theorem dL_name_57 : decode cL_name 57 = .ok (.bipush 27, 2) := by decide +kernel
theorem dL_name_59 : decode cL_name 59 = .ok (.iload_n 2, 1) := by decide +kernel
theorem dL_name_60 : decode cL_name 60 = .ok (.imul, 1) := by decide +kernel
theorem dL_name_61 : decode cL_name 61 = .ok (.iadd, 1) := by decide +kernel
theorem dL_name_62 : decode cL_name 62 = .ok (.iconst 1, 1) := by decide +kernel
theorem dL_name_63 : decode cL_name 63 = .ok (.iadd, 1) := by decide +kernel
theorem dL_name_64 : decode cL_name 64 = .ok (.iload_n 0, 1) := by decide +kernel
theorem dL_name_65 : decode cL_name 65 = .ok (.bipush 7, 2) := by decide +kernel
theorem dL_name_67 : decode cL_name 67 = .ok (.ishr, 1) := by decide +kernel
theorem dL_name_68 : decode cL_name 68 = .ok (.iconst 3, 1) := by decide +kernel
theorem dL_name_69 : decode cL_name 69 = .ok (.invokestatic 9, 3) := by decide +kernel
theorem dL_name_72 : decode cL_name 72 = .ok (.iadd, 1) := by decide +kernel
theorem dL_name_73 : decode cL_name 73 = .ok (.ireturn, 1) := by decide +kernel
theorem dL_above_0 : decode cL_above 0 = .ok (.iload_n 0, 1) := by decide +kernel
theorem dL_above_1 : decode cL_above 1 = .ok (.ifCond .ge 7, 3) := by decide +kernel
theorem dL_above_4 : decode cL_above 4 = .ok (.iconst 0, 1) := by decide +kernel
theorem dL_above_5 : decode cL_above 5 = .ok (.goto 4, 3) := by decide +kernel
theorem dL_above_8 : decode cL_above 8 = .ok (.iload_n 0, 1) := by decide +kernel
theorem dL_above_9 : decode cL_above 9 = .ok (.ireturn, 1) := by decide +kernel
set_option maxRecDepth 20000 in
theorem ggL_tag_L_low : GoodIn wsL_tag wsL_low := goodIn_r _ [5, 6] (by decide +kernel) (by decide +kernel)
set_option maxRecDepth 20000 in
theorem gL_tag_L_low : GoodIn wsL_tag (va_wsS RL 9 yL_low wsL_low) := goodIn_app (goodIn_of _ (by decide +kernel)) ggL_tag_L_low
set_option maxRecDepth 20000 in
theorem ggL_tag_X3_count : GoodIn wsL_tag wsX3_count := goodIn_r _ [11, 12, 13, 14, 15, 16, 17, 18, 19, 20, 21, 22, 23, 24, 25, 26, 27, 28, 29, 30, 31, 32, 33, 34, 35, 36, 37, 38, 39, 40, 41, 42, 43, 44, 70, 71, 72, 73, 74, 75, 76, 77, 78, 79, 80, 81, 82, 83, 84, 85, 86, 87, 88, 89, 90, 91] (by decide +kernel) (by decide +kernel)
set_option maxRecDepth 20000 in
theorem gL_tag_X3_count : GoodIn wsL_tag (wsV RL 21 RX3 yX3_count wsX3_count) := goodIn_app (goodIn_of _ (by decide +kernel)) ggL_tag_X3_count
set_option maxRecDepth 20000 in
theorem ggL_tag_L_above : GoodIn wsL_tag wsL_above := goodIn_r _ [47] (by decide +kernel) (by decide +kernel)
set_option maxRecDepth 20000 in
theorem gL_tag_L_above : GoodIn wsL_tag (va_wsS RL 84 yL_above wsL_above) := goodIn_app (goodIn_of _ (by decide +kernel)) ggL_tag_L_above
set_option maxRecDepth 20000 in
theorem ggL_tag_X3_numberOf : GoodIn wsL_tag wsX3_numberOf := goodIn_r _ [51, 24, 12, 52, 53, 54, 55, 56, 57, 10, 58, 36, 37, 38, 28, 39, 40, 59, 60, 61, 62, 63, 64, 65, 66, 67, 68, 69, 70, 71, 72, 73, 74, 75, 76, 77, 78, 79, 80, 81, 82, 83, 84, 85, 86, 87, 88, 89] (by decide +kernel) (by decide +kernel)
set_option maxRecDepth 20000 in
theorem gL_tag_X3_numberOf : GoodIn wsL_tag (wsV RL 27 RX3 yX3_numberOf wsX3_numberOf) := goodIn_app (goodIn_of _ (by decide +kernel)) ggL_tag_X3_numberOf
theorem dL_tag_0 : decode cL_tag 0 = .ok (.iload_n 1, 1) := by decide +kernel
theorem dL_tag_1 : decode cL_tag 1 = .ok (.bipush 8, 2) := by decide +kernel
theorem dL_tag_3 : decode cL_tag 3 = .ok (.invokestatic 9, 3) := by decide +kernel
theorem dL_tag_6 : decode cL_tag 6 = .ok (.istore_n 2, 1) := by decide +kernel
theorem dL_tag_7 : decode cL_tag 7 = .ok (.iload_n 1, 1) := by decide +kernel
theorem dL_tag_8 : decode cL_tag 8 = .ok (.iconst 5, 1) := by decide +kernel
theorem dL_tag_9 : decode cL_tag 9 = .ok (.ishr, 1) := by decide +kernel
theorem dL_tag_10 : decode cL_tag 10 = .ok (.bipush 9, 2) := by decide +kernel
theorem dL_tag_12 : decode cL_tag 12 = .ok (.invokestatic 9, 3) := by decide +kernel
theorem dL_tag_15 : decode cL_tag 15 = .ok (.ifCond .ne 7, 3) := by decide +kernel
theorem dL_tag_18 : decode cL_tag 18 = .ok (.iload_n 1, 1) := by decide +kernel
theorem dL_tag_19 : decode cL_tag 19 = .ok (.goto 77, 3) := by decide +kernel
theorem dL_tag_22 : decode cL_tag 22 = .ok (.ldc 38, 2) := by decide +kernel
theorem dL_tag_24 : decode cL_tag 24 = .ok (.aload_n 0, 1) := by decide +kernel
theorem dL_tag_25 : decode cL_tag 25 = .ok (.iconst 3, 1) := by decide +kernel
theorem dL_tag_26 : decode cL_tag 26 = .ok (.invokevirtual 21, 3) := by decide +kernel
theorem dL_tag_29 : decode cL_tag 29 = .ok (.iload_n 1, 1) := by decide +kernel
theorem dL_tag_30 : decode cL_tag 30 = .ok (.bipush 9, 2) := by decide +kernel
theorem dL_tag_32 : decode cL_tag 32 = .ok (.ishr, 1) := by decide +kernel
theorem dL_tag_33 : decode cL_tag 33 = .ok (.iload_n 1, 1) := by decide +kernel
theorem dL_tag_34 : decode cL_tag 34 = .ok (.bipush 13, 2) := by decide +kernel
theorem dL_tag_36 : decode cL_tag 36 = .ok (.ishr, 1) := by decide +kernel
theorem dL_tag_37 : decode cL_tag 37 = .ok (.iconst 3, 1) := by decide +kernel
theorem dL_tag_38 : decode cL_tag 38 = .ok (.invokestatic 9, 3) := by decide +kernel
theorem dL_tag_41 : decode cL_tag 41 = .ok (.ifCond .ne 7, 3) := by decide +kernel
theorem dL_tag_44 : decode cL_tag 44 = .ok (.iconst 5, 1) := by decide +kernel
theorem dL_tag_45 : decode cL_tag 45 = .ok (.goto 4, 3) := by decide +kernel
theorem dL_tag_48 : decode cL_tag 48 = .ok (.iconst 1, 1) := by decide +kernel
theorem dL_tag_49 : decode cL_tag 49 = .ok (.invokestatic 9, 3) := by decide +kernel
theorem dL_tag_52 : decode cL_tag 52 = .ok (.isub, 1) := by decide +kernel
theorem dL_tag_53 : decode cL_tag 53 = .ok (.invokestatic 84, 3) := by decide +kernel
theorem dL_tag_56 : decode cL_tag 56 = .ok (.imul, 1) := by decide +kernel
theorem dL_tag_57 : decode cL_tag 57 = .ok (.bipush 100, 2) := by decide +kernel
theorem dL_tag_59 : decode cL_tag 59 = .ok (.aload_n 0, 1) := by decide +kernel
theorem dL_tag_60 : decode cL_tag 60 = .ok (.iload_n 2, 1) := by decide +kernel
theorem dL_tag_61 : decode cL_tag 61 = .ok (.iconst 3, 1) := by decide +kernel
theorem dL_tag_62 : decode cL_tag 62 = .ok (.invokevirtual 27, 3) := by decide +kernel
theorem dL_tag_65 : decode cL_tag 65 = .ok (.iload_n 1, 1) := by decide +kernel
theorem dL_tag_66 : decode cL_tag 66 = .ok (.bipush 17, 2) := by decide +kernel
theorem dL_tag_68 : decode cL_tag 68 = .ok (.ishr, 1) := by decide +kernel
theorem dL_tag_69 : decode cL_tag 69 = .ok (.iload_n 1, 1) := by decide +kernel
theorem dL_tag_70 : decode cL_tag 70 = .ok (.bipush 20, 2) := by decide +kernel
theorem dL_tag_72 : decode cL_tag 72 = .ok (.ishr, 1) := by decide +kernel
theorem dL_tag_73 : decode cL_tag 73 = .ok (.iconst 3, 1) := by decide +kernel
theorem dL_tag_74 : decode cL_tag 74 = .ok (.invokestatic 9, 3) := by decide +kernel
theorem dL_tag_77 : decode cL_tag 77 = .ok (.ifCond .ne 7, 3) := by decide +kernel
theorem dL_tag_80 : decode cL_tag 80 = .ok (.iconst 3, 1) := by decide +kernel
theorem dL_tag_81 : decode cL_tag 81 = .ok (.goto 4, 3) := by decide +kernel
theorem dL_tag_84 : decode cL_tag 84 = .ok (.iconst 1, 1) := by decide +kernel
theorem dL_tag_85 : decode cL_tag 85 = .ok (.invokestatic 9, 3) := by decide +kernel
theorem dL_tag_88 : decode cL_tag 88 = .ok (.isub, 1) := by decide +kernel
theorem dL_tag_89 : decode cL_tag 89 = .ok (.invokestatic 84, 3) := by decide +kernel
theorem dL_tag_92 : decode cL_tag 92 = .ok (.imul, 1) := by decide +kernel
theorem dL_tag_93 : decode cL_tag 93 = .ok (.iadd, 1) := by decide +kernel
theorem dL_tag_94 : decode cL_tag 94 = .ok (.iload_n 2, 1) := by decide +kernel
theorem dL_tag_95 : decode cL_tag 95 = .ok (.iadd, 1) := by decide +kernel
theorem dL_tag_96 : decode cL_tag 96 = .ok (.ireturn, 1) := by decide +kernel
set_option maxRecDepth 20000 in
theorem ggL_plays_X3_clearText : GoodIn wsL_plays wsX3_clearText := goodIn_r _ [9, 10, 11, 233, 234, 235, 236, 237, 238, 239] (by decide +kernel) (by decide +kernel)
set_option maxRecDepth 20000 in
theorem gL_plays_X3_clearText : GoodIn wsL_plays (wsV RL 87 RX3 yX3_clearText wsX3_clearText) := goodIn_app (goodIn_of _ (by decide +kernel)) ggL_plays_X3_clearText
set_option maxRecDepth 20000 in
theorem ggL_plays_L_low : GoodIn wsL_plays wsL_low := goodIn_r _ [15, 16] (by decide +kernel) (by decide +kernel)
set_option maxRecDepth 20000 in
theorem gL_plays_L_low : GoodIn wsL_plays (va_wsS RL 9 yL_low wsL_low) := goodIn_app (goodIn_of _ (by decide +kernel)) ggL_plays_L_low
set_option maxRecDepth 20000 in
theorem ggL_plays_X3_type : GoodIn wsL_plays wsX3_type := goodIn_r _ [20, 21, 10, 11, 22, 23, 24, 25, 26, 27, 28, 29, 30, 8, 31, 233, 234, 235, 236, 237, 238, 239] (by decide +kernel) (by decide +kernel)
set_option maxRecDepth 20000 in
theorem gL_plays_X3_type : GoodIn wsL_plays (wsV RL 92 RX3 yX3_type wsX3_type) := goodIn_app (goodIn_of _ (by decide +kernel)) ggL_plays_X3_type
set_option maxRecDepth 20000 in
theorem ggL_plays_X3_fault : GoodIn wsL_plays wsX3_fault := goodIn_r _ [35, 21, 36, 37, 10, 38, 39, 40, 41, 42, 30, 8, 31, 43, 44, 45, 46, 47, 48, 49, 50, 51, 52, 53, 54, 55, 56, 57, 58, 59, 60, 61, 62, 63, 64, 65, 66, 67, 68, 69, 70, 71, 72, 73, 74, 75, 76, 77, 78, 79, 80, 81, 82, 83, 84, 85, 86, 87, 88, 26, 89, 28, 29, 90, 91, 92, 93, 94, 95, 96, 97, 98, 99, 100, 101, 102, 103, 104, 105, 106, 107, 108, 109, 110, 111, 112, 113, 114, 115, 116, 117, 118, 119, 120, 121, 122, 123, 124, 125, 126, 127, 128, 129, 130, 131, 132, 133, 134, 135, 136, 137, 138, 139, 140, 141, 142, 143, 144, 145, 146, 147, 148, 149, 150, 151, 152, 153, 154, 155, 156, 157, 158, 159, 160, 161, 162, 163, 164, 165, 166, 167, 168, 169, 170, 171, 172, 173, 174, 175, 176, 177, 178, 179, 180, 181, 182, 183, 184, 185, 186, 187, 188, 189, 190, 191, 192, 193, 194, 195, 196, 233, 234, 235, 236, 237, 240, 241, 242, 243, 244, 245, 246, 247, 248, 249, 250, 251, 238, 239, 252, 253, 254, 255, 256, 257, 258, 259, 260, 261, 262, 263, 264, 265, 266] (by decide +kernel) (by decide +kernel)
set_option maxRecDepth 20000 in
theorem gL_plays_X3_fault : GoodIn wsL_plays (wsV RL 95 RX3 yX3_fault wsX3_fault) := goodIn_app (goodIn_of _ (by decide +kernel)) ggL_plays_X3_fault
set_option maxRecDepth 20000 in
theorem ggL_plays_X3_play : GoodIn wsL_plays wsX3_play := goodIn_r _ [200, 36, 37, 10, 38, 201, 202, 203, 43, 44, 45, 46, 47, 48, 49, 50, 51, 52, 53, 54, 55, 56, 57, 58, 59, 60, 61, 62, 63, 64, 65, 66, 67, 68, 69, 70, 71, 72, 73, 74, 75, 76, 77, 78, 79, 80, 81, 82, 83, 84, 85, 86, 87, 88, 26, 89, 28, 29, 30, 8, 31, 90, 91, 92, 93, 94, 95, 96, 97, 98, 99, 100, 101, 102, 103, 104, 105, 106, 107, 108, 109, 110, 111, 112, 113, 114, 115, 116, 117, 118, 119, 120, 121, 122, 123, 124, 125, 126, 127, 128, 129, 130, 131, 132, 133, 134, 135, 136, 137, 138, 139, 140, 141, 142, 143, 144, 145, 146, 147, 148, 149, 150, 151, 152, 153, 154, 155, 156, 157, 158, 159, 160, 161, 162, 163, 164, 165, 166, 167, 168, 169, 170, 171, 172, 173, 174, 175, 176, 177, 178, 179, 180, 181, 182, 183, 184, 185, 186, 187, 188, 189, 190, 191, 192, 193, 194, 195, 196, 204, 205, 206, 207, 208, 209, 210, 233, 234, 235, 236, 237, 240, 241, 242, 243, 244, 245, 246, 247, 248, 249, 250, 251, 238, 239, 252, 253, 254, 255, 256, 257, 258, 259, 260, 261, 262, 263, 264, 265, 266] (by decide +kernel) (by decide +kernel)
set_option maxRecDepth 20000 in
theorem gL_plays_X3_play : GoodIn wsL_plays (wsV RL 98 RX3 yX3_play wsX3_play) := goodIn_app (goodIn_of _ (by decide +kernel)) ggL_plays_X3_play
set_option maxRecDepth 20000 in
theorem ggL_plays_X3_count : GoodIn wsL_plays wsX3_count := goodIn_r _ [214, 37, 215, 216, 217, 218, 219, 220, 221, 222, 208, 10, 11, 21, 223, 180, 181, 57, 182, 59, 224, 225, 226, 227, 64, 228, 137, 138, 139, 66, 229, 230, 231, 232, 233, 234, 235, 236, 237, 252, 253, 254, 255, 256, 257, 258, 259, 260, 261, 262, 263, 264, 265, 266, 238, 239] (by decide +kernel) (by decide +kernel)
set_option maxRecDepth 20000 in
theorem gL_plays_X3_count : GoodIn wsL_plays (wsV RL 21 RX3 yX3_count wsX3_count) := goodIn_app (goodIn_of _ (by decide +kernel)) ggL_plays_X3_count
theorem dL_plays_0 : decode cL_plays 0 = .ok (.aload_n 0, 1) := by decide +kernel
theorem dL_plays_1 : decode cL_plays 1 = .ok (.invokevirtual 87, 3) := by decide +kernel
theorem dL_plays_4 : decode cL_plays 4 = .ok (.pop, 1) := by decide +kernel
theorem dL_plays_5 : decode cL_plays 5 = .ok (.iload_n 1, 1) := by decide +kernel
theorem dL_plays_6 : decode cL_plays 6 = .ok (.istore_n 2, 1) := by decide +kernel
theorem dL_plays_7 : decode cL_plays 7 = .ok (.iconst 0, 1) := by decide +kernel
theorem dL_plays_8 : decode cL_plays 8 = .ok (.istore_n 3, 1) := by decide +kernel
theorem dL_plays_9 : decode cL_plays 9 = .ok (.iload_n 3, 1) := by decide +kernel
theorem dL_plays_10 : decode cL_plays 10 = .ok (.iconst 1, 1) := by decide +kernel
theorem dL_plays_11 : decode cL_plays 11 = .ok (.iload_n 1, 1) := by decide +kernel
theorem dL_plays_12 : decode cL_plays 12 = .ok (.iconst 4, 1) := by decide +kernel
theorem dL_plays_13 : decode cL_plays 13 = .ok (.invokestatic 9, 3) := by decide +kernel
theorem dL_plays_16 : decode cL_plays 16 = .ok (.iadd, 1) := by decide +kernel
theorem dL_plays_17 : decode cL_plays 17 = .ok (.if_icmp .ge 222, 3) := by decide +kernel
theorem dL_plays_20 : decode cL_plays 20 = .ok (.ldc 91, 2) := by decide +kernel
theorem dL_plays_22 : decode cL_plays 22 = .ok (.iload_n 2, 1) := by decide +kernel
theorem dL_plays_23 : decode cL_plays 23 = .ok (.imul, 1) := by decide +kernel
theorem dL_plays_24 : decode cL_plays 24 = .ok (.sipush 12345, 3) := by decide +kernel
theorem dL_plays_27 : decode cL_plays 27 = .ok (.iadd, 1) := by decide +kernel
theorem dL_plays_28 : decode cL_plays 28 = .ok (.istore_n 2, 1) := by decide +kernel
theorem dL_plays_29 : decode cL_plays 29 = .ok (.iload_n 2, 1) := by decide +kernel
theorem dL_plays_30 : decode cL_plays 30 = .ok (.bipush 9, 2) := by decide +kernel
theorem dL_plays_32 : decode cL_plays 32 = .ok (.ishr, 1) := by decide +kernel
theorem dL_plays_33 : decode cL_plays 33 = .ok (.bipush 7, 2) := by decide +kernel
theorem dL_plays_35 : decode cL_plays 35 = .ok (.invokestatic 9, 3) := by decide +kernel
theorem dL_plays_38 : decode cL_plays 38 = .ok (.istore 4, 2) := by decide +kernel
theorem dL_plays_40 : decode cL_plays 40 = .ok (.aload_n 0, 1) := by decide +kernel
theorem dL_plays_41 : decode cL_plays 41 = .ok (.iload 4, 2) := by decide +kernel
theorem dL_plays_43 : decode cL_plays 43 = .ok (.iconst 3, 1) := by decide +kernel
theorem dL_plays_44 : decode cL_plays 44 = .ok (.if_icmp .ge 8, 3) := by decide +kernel
theorem dL_plays_47 : decode cL_plays 47 = .ok (.bipush 43, 2) := by decide +kernel
theorem dL_plays_49 : decode cL_plays 49 = .ok (.goto 27, 3) := by decide +kernel
theorem dL_plays_52 : decode cL_plays 52 = .ok (.iload 4, 2) := by decide +kernel
theorem dL_plays_54 : decode cL_plays 54 = .ok (.iconst 5, 1) := by decide +kernel
theorem dL_plays_55 : decode cL_plays 55 = .ok (.if_icmp .ge 8, 3) := by decide +kernel
theorem dL_plays_58 : decode cL_plays 58 = .ok (.bipush 45, 2) := by decide +kernel
theorem dL_plays_60 : decode cL_plays 60 = .ok (.goto 16, 3) := by decide +kernel
theorem dL_plays_63 : decode cL_plays 63 = .ok (.iload 4, 2) := by decide +kernel
theorem dL_plays_65 : decode cL_plays 65 = .ok (.iconst 5, 1) := by decide +kernel
theorem dL_plays_66 : decode cL_plays 66 = .ok (.if_icmp .ne 8, 3) := by decide +kernel
theorem dL_plays_69 : decode cL_plays 69 = .ok (.bipush 61, 2) := by decide +kernel
theorem dL_plays_71 : decode cL_plays 71 = .ok (.goto 5, 3) := by decide +kernel
theorem dL_plays_74 : decode cL_plays 74 = .ok (.bipush 33, 2) := by decide +kernel
theorem dL_plays_76 : decode cL_plays 76 = .ok (.invokevirtual 92, 3) := by decide +kernel
theorem dL_plays_79 : decode cL_plays 79 = .ok (.pop, 1) := by decide +kernel
theorem dL_plays_80 : decode cL_plays 80 = .ok (.iload 4, 2) := by decide +kernel
theorem dL_plays_82 : decode cL_plays 82 = .ok (.iconst 5, 1) := by decide +kernel
theorem dL_plays_83 : decode cL_plays 83 = .ok (.if_icmp .ne 50, 3) := by decide +kernel
theorem dL_plays_86 : decode cL_plays 86 = .ok (.aload_n 0, 1) := by decide +kernel
theorem dL_plays_87 : decode cL_plays 87 = .ok (.bipush 48, 2) := by decide +kernel
theorem dL_plays_89 : decode cL_plays 89 = .ok (.iload_n 2, 1) := by decide +kernel
theorem dL_plays_90 : decode cL_plays 90 = .ok (.bipush 12, 2) := by decide +kernel
theorem dL_plays_92 : decode cL_plays 92 = .ok (.ishr, 1) := by decide +kernel
theorem dL_plays_93 : decode cL_plays 93 = .ok (.iconst 3, 1) := by decide +kernel
theorem dL_plays_94 : decode cL_plays 94 = .ok (.invokestatic 9, 3) := by decide +kernel
theorem dL_plays_97 : decode cL_plays 97 = .ok (.iadd, 1) := by decide +kernel
theorem dL_plays_98 : decode cL_plays 98 = .ok (.invokevirtual 92, 3) := by decide +kernel
theorem dL_plays_101 : decode cL_plays 101 = .ok (.pop, 1) := by decide +kernel
theorem dL_plays_102 : decode cL_plays 102 = .ok (.aload_n 0, 1) := by decide +kernel
theorem dL_plays_103 : decode cL_plays 103 = .ok (.bipush 44, 2) := by decide +kernel
theorem dL_plays_105 : decode cL_plays 105 = .ok (.invokevirtual 92, 3) := by decide +kernel
theorem dL_plays_108 : decode cL_plays 108 = .ok (.pop, 1) := by decide +kernel
theorem dL_plays_109 : decode cL_plays 109 = .ok (.aload_n 0, 1) := by decide +kernel
theorem dL_plays_110 : decode cL_plays 110 = .ok (.bipush 48, 2) := by decide +kernel
theorem dL_plays_112 : decode cL_plays 112 = .ok (.iload_n 2, 1) := by decide +kernel
theorem dL_plays_113 : decode cL_plays 113 = .ok (.bipush 14, 2) := by decide +kernel
theorem dL_plays_115 : decode cL_plays 115 = .ok (.ishr, 1) := by decide +kernel
theorem dL_plays_116 : decode cL_plays 116 = .ok (.bipush 6, 2) := by decide +kernel
theorem dL_plays_118 : decode cL_plays 118 = .ok (.invokestatic 9, 3) := by decide +kernel
theorem dL_plays_121 : decode cL_plays 121 = .ok (.iadd, 1) := by decide +kernel
theorem dL_plays_122 : decode cL_plays 122 = .ok (.invokevirtual 92, 3) := by decide +kernel
theorem dL_plays_125 : decode cL_plays 125 = .ok (.pop, 1) := by decide +kernel
theorem dL_plays_126 : decode cL_plays 126 = .ok (.aload_n 0, 1) := by decide +kernel
theorem dL_plays_127 : decode cL_plays 127 = .ok (.bipush 44, 2) := by decide +kernel
theorem dL_plays_129 : decode cL_plays 129 = .ok (.invokevirtual 92, 3) := by decide +kernel
theorem dL_plays_132 : decode cL_plays 132 = .ok (.pop, 1) := by decide +kernel
theorem dL_plays_133 : decode cL_plays 133 = .ok (.iload 4, 2) := by decide +kernel
theorem dL_plays_135 : decode cL_plays 135 = .ok (.bipush 6, 2) := by decide +kernel
theorem dL_plays_137 : decode cL_plays 137 = .ok (.if_icmp .ne 34, 3) := by decide +kernel
theorem dL_plays_140 : decode cL_plays 140 = .ok (.aload_n 0, 1) := by decide +kernel
theorem dL_plays_141 : decode cL_plays 141 = .ok (.bipush 48, 2) := by decide +kernel
theorem dL_plays_143 : decode cL_plays 143 = .ok (.iload_n 2, 1) := by decide +kernel
theorem dL_plays_144 : decode cL_plays 144 = .ok (.bipush 12, 2) := by decide +kernel
theorem dL_plays_146 : decode cL_plays 146 = .ok (.ishr, 1) := by decide +kernel
theorem dL_plays_147 : decode cL_plays 147 = .ok (.iload_n 2, 1) := by decide +kernel
theorem dL_plays_148 : decode cL_plays 148 = .ok (.iconst 5, 1) := by decide +kernel
theorem dL_plays_149 : decode cL_plays 149 = .ok (.invokestatic 9, 3) := by decide +kernel
theorem dL_plays_152 : decode cL_plays 152 = .ok (.ifCond .ne 7, 3) := by decide +kernel
theorem dL_plays_155 : decode cL_plays 155 = .ok (.iconst 5, 1) := by decide +kernel
theorem dL_plays_156 : decode cL_plays 156 = .ok (.goto 4, 3) := by decide +kernel
theorem dL_plays_159 : decode cL_plays 159 = .ok (.iconst 3, 1) := by decide +kernel
theorem dL_plays_160 : decode cL_plays 160 = .ok (.invokestatic 9, 3) := by decide +kernel
theorem dL_plays_163 : decode cL_plays 163 = .ok (.iadd, 1) := by decide +kernel
theorem dL_plays_164 : decode cL_plays 164 = .ok (.invokevirtual 92, 3) := by decide +kernel
theorem dL_plays_167 : decode cL_plays 167 = .ok (.pop, 1) := by decide +kernel
theorem dL_plays_168 : decode cL_plays 168 = .ok (.goto 46, 3) := by decide +kernel
theorem dL_plays_171 : decode cL_plays 171 = .ok (.aload_n 0, 1) := by decide +kernel
theorem dL_plays_172 : decode cL_plays 172 = .ok (.bipush 97, 2) := by decide +kernel
theorem dL_plays_174 : decode cL_plays 174 = .ok (.iload_n 2, 1) := by decide +kernel
theorem dL_plays_175 : decode cL_plays 175 = .ok (.bipush 17, 2) := by decide +kernel
theorem dL_plays_177 : decode cL_plays 177 = .ok (.ishr, 1) := by decide +kernel
theorem dL_plays_178 : decode cL_plays 178 = .ok (.iconst 3, 1) := by decide +kernel
theorem dL_plays_179 : decode cL_plays 179 = .ok (.invokestatic 9, 3) := by decide +kernel
theorem dL_plays_182 : decode cL_plays 182 = .ok (.iadd, 1) := by decide +kernel
theorem dL_plays_183 : decode cL_plays 183 = .ok (.invokevirtual 92, 3) := by decide +kernel
theorem dL_plays_186 : decode cL_plays 186 = .ok (.pop, 1) := by decide +kernel
theorem dL_plays_187 : decode cL_plays 187 = .ok (.iload_n 2, 1) := by decide +kernel
theorem dL_plays_188 : decode cL_plays 188 = .ok (.bipush 19, 2) := by decide +kernel
theorem dL_plays_190 : decode cL_plays 190 = .ok (.ishr, 1) := by decide +kernel
theorem dL_plays_191 : decode cL_plays 191 = .ok (.iconst 2, 1) := by decide +kernel
theorem dL_plays_192 : decode cL_plays 192 = .ok (.invokestatic 9, 3) := by decide +kernel
theorem dL_plays_195 : decode cL_plays 195 = .ok (.ifCond .ne 19, 3) := by decide +kernel
theorem dL_plays_198 : decode cL_plays 198 = .ok (.aload_n 0, 1) := by decide +kernel
theorem dL_plays_199 : decode cL_plays 199 = .ok (.bipush 97, 2) := by decide +kernel
theorem dL_plays_201 : decode cL_plays 201 = .ok (.iload_n 2, 1) := by decide +kernel
theorem dL_plays_202 : decode cL_plays 202 = .ok (.bipush 20, 2) := by decide +kernel
theorem dL_plays_204 : decode cL_plays 204 = .ok (.ishr, 1) := by decide +kernel
theorem dL_plays_205 : decode cL_plays 205 = .ok (.iconst 2, 1) := by decide +kernel
theorem dL_plays_206 : decode cL_plays 206 = .ok (.invokestatic 9, 3) := by decide +kernel
theorem dL_plays_209 : decode cL_plays 209 = .ok (.iadd, 1) := by decide +kernel
theorem dL_plays_210 : decode cL_plays 210 = .ok (.invokevirtual 92, 3) := by decide +kernel
theorem dL_plays_213 : decode cL_plays 213 = .ok (.pop, 1) := by decide +kernel
theorem dL_plays_214 : decode cL_plays 214 = .ok (.iload_n 2, 1) := by decide +kernel
theorem dL_plays_215 : decode cL_plays 215 = .ok (.bipush 22, 2) := by decide +kernel
theorem dL_plays_217 : decode cL_plays 217 = .ok (.ishr, 1) := by decide +kernel
theorem dL_plays_218 : decode cL_plays 218 = .ok (.bipush 20, 2) := by decide +kernel
theorem dL_plays_220 : decode cL_plays 220 = .ok (.invokestatic 9, 3) := by decide +kernel
theorem dL_plays_223 : decode cL_plays 223 = .ok (.ifCond .le 10, 3) := by decide +kernel
theorem dL_plays_226 : decode cL_plays 226 = .ok (.aload_n 0, 1) := by decide +kernel
theorem dL_plays_227 : decode cL_plays 227 = .ok (.bipush 59, 2) := by decide +kernel
theorem dL_plays_229 : decode cL_plays 229 = .ok (.invokevirtual 92, 3) := by decide +kernel
theorem dL_plays_232 : decode cL_plays 232 = .ok (.pop, 1) := by decide +kernel
theorem dL_plays_233 : decode cL_plays 233 = .ok (.iinc 3 1, 3) := by decide +kernel
theorem dL_plays_236 : decode cL_plays 236 = .ok (.goto (-227), 3) := by decide +kernel
theorem dL_plays_239 : decode cL_plays 239 = .ok (.aload_n 0, 1) := by decide +kernel
theorem dL_plays_240 : decode cL_plays 240 = .ok (.iconst 0, 1) := by decide +kernel
theorem dL_plays_241 : decode cL_plays 241 = .ok (.invokevirtual 95, 3) := by decide +kernel
theorem dL_plays_244 : decode cL_plays 244 = .ok (.istore_n 3, 1) := by decide +kernel
theorem dL_plays_245 : decode cL_plays 245 = .ok (.aload_n 0, 1) := by decide +kernel
theorem dL_plays_246 : decode cL_plays 246 = .ok (.iconst 1, 1) := by decide +kernel
theorem dL_plays_247 : decode cL_plays 247 = .ok (.invokevirtual 95, 3) := by decide +kernel
theorem dL_plays_250 : decode cL_plays 250 = .ok (.istore 4, 2) := by decide +kernel
theorem dL_plays_252 : decode cL_plays 252 = .ok (.aload_n 0, 1) := by decide +kernel
theorem dL_plays_253 : decode cL_plays 253 = .ok (.invokevirtual 98, 3) := by decide +kernel
theorem dL_plays_256 : decode cL_plays 256 = .ok (.istore 5, 2) := by decide +kernel
theorem dL_plays_258 : decode cL_plays 258 = .ok (.iload_n 3, 1) := by decide +kernel
theorem dL_plays_259 : decode cL_plays 259 = .ok (.ldc 37, 2) := by decide +kernel
theorem dL_plays_261 : decode cL_plays 261 = .ok (.if_icmp .ne 23, 3) := by decide +kernel
theorem dL_plays_264 : decode cL_plays 264 = .ok (.iload 4, 2) := by decide +kernel
theorem dL_plays_266 : decode cL_plays 266 = .ok (.ldc 37, 2) := by decide +kernel
theorem dL_plays_268 : decode cL_plays 268 = .ok (.if_icmp .ne 12, 3) := by decide +kernel
theorem dL_plays_271 : decode cL_plays 271 = .ok (.iload 5, 2) := by decide +kernel
theorem dL_plays_273 : decode cL_plays 273 = .ok (.ifCond .lt 7, 3) := by decide +kernel
theorem dL_plays_276 : decode cL_plays 276 = .ok (.iconst 1, 1) := by decide +kernel
theorem dL_plays_277 : decode cL_plays 277 = .ok (.goto 73, 3) := by decide +kernel
theorem dL_plays_280 : decode cL_plays 280 = .ok (.iconst 0, 1) := by decide +kernel
theorem dL_plays_281 : decode cL_plays 281 = .ok (.goto 69, 3) := by decide +kernel
theorem dL_plays_284 : decode cL_plays 284 = .ok (.iload_n 3, 1) := by decide +kernel
theorem dL_plays_285 : decode cL_plays 285 = .ok (.ifCond .lt 64, 3) := by decide +kernel
theorem dL_plays_288 : decode cL_plays 288 = .ok (.iload_n 3, 1) := by decide +kernel
theorem dL_plays_289 : decode cL_plays 289 = .ok (.aload_n 0, 1) := by decide +kernel
theorem dL_plays_290 : decode cL_plays 290 = .ok (.bipush 10, 2) := by decide +kernel
theorem dL_plays_292 : decode cL_plays 292 = .ok (.invokevirtual 21, 3) := by decide +kernel
theorem dL_plays_295 : decode cL_plays 295 = .ok (.if_icmp .ge 54, 3) := by decide +kernel
theorem dL_plays_298 : decode cL_plays 298 = .ok (.iload 4, 2) := by decide +kernel
theorem dL_plays_300 : decode cL_plays 300 = .ok (.ifCond .le 49, 3) := by decide +kernel
theorem dL_plays_303 : decode cL_plays 303 = .ok (.iload 4, 2) := by decide +kernel
theorem dL_plays_305 : decode cL_plays 305 = .ok (.iconst 4, 1) := by decide +kernel
theorem dL_plays_306 : decode cL_plays 306 = .ok (.if_icmp .ge 43, 3) := by decide +kernel
theorem dL_plays_309 : decode cL_plays 309 = .ok (.iload 5, 2) := by decide +kernel
theorem dL_plays_311 : decode cL_plays 311 = .ok (.ldc 101, 2) := by decide +kernel
theorem dL_plays_313 : decode cL_plays 313 = .ok (.if_icmp .ne 36, 3) := by decide +kernel
theorem dL_plays_316 : decode cL_plays 316 = .ok (.aload_n 0, 1) := by decide +kernel
theorem dL_plays_317 : decode cL_plays 317 = .ok (.iconst 2, 1) := by decide +kernel
theorem dL_plays_318 : decode cL_plays 318 = .ok (.invokevirtual 95, 3) := by decide +kernel
theorem dL_plays_321 : decode cL_plays 321 = .ok (.ldc 37, 2) := by decide +kernel
theorem dL_plays_323 : decode cL_plays 323 = .ok (.if_icmp .ne 7, 3) := by decide +kernel
theorem dL_plays_326 : decode cL_plays 326 = .ok (.iconst 1, 1) := by decide +kernel
theorem dL_plays_327 : decode cL_plays 327 = .ok (.goto 4, 3) := by decide +kernel
theorem dL_plays_330 : decode cL_plays 330 = .ok (.iconst 0, 1) := by decide +kernel
theorem dL_plays_331 : decode cL_plays 331 = .ok (.iload 4, 2) := by decide +kernel
theorem dL_plays_333 : decode cL_plays 333 = .ok (.iconst 3, 1) := by decide +kernel
theorem dL_plays_334 : decode cL_plays 334 = .ok (.if_icmp .ne 7, 3) := by decide +kernel
theorem dL_plays_337 : decode cL_plays 337 = .ok (.iconst 1, 1) := by decide +kernel
theorem dL_plays_338 : decode cL_plays 338 = .ok (.goto 4, 3) := by decide +kernel
theorem dL_plays_341 : decode cL_plays 341 = .ok (.iconst 0, 1) := by decide +kernel
theorem dL_plays_342 : decode cL_plays 342 = .ok (.if_icmp .ne 7, 3) := by decide +kernel
theorem dL_plays_345 : decode cL_plays 345 = .ok (.iconst 1, 1) := by decide +kernel
theorem dL_plays_346 : decode cL_plays 346 = .ok (.goto 4, 3) := by decide +kernel
theorem dL_plays_349 : decode cL_plays 349 = .ok (.iconst 0, 1) := by decide +kernel
theorem dL_plays_350 : decode cL_plays 350 = .ok (.istore 6, 2) := by decide +kernel
theorem dL_plays_352 : decode cL_plays 352 = .ok (.iload 6, 2) := by decide +kernel
theorem dL_plays_354 : decode cL_plays 354 = .ok (.ifCond .eq 8, 3) := by decide +kernel
theorem dL_plays_357 : decode cL_plays 357 = .ok (.iload 5, 2) := by decide +kernel
theorem dL_plays_359 : decode cL_plays 359 = .ok (.goto 5, 3) := by decide +kernel
theorem dL_plays_362 : decode cL_plays 362 = .ok (.ldc 102, 2) := by decide +kernel
theorem dL_plays_364 : decode cL_plays 364 = .ok (.ireturn, 1) := by decide +kernel
set_option maxRecDepth 20000 in
theorem ggL_goes_L_low : GoodIn wsL_goes wsL_low := goodIn_r _ [4, 5] (by decide +kernel) (by decide +kernel)
set_option maxRecDepth 20000 in
theorem gL_goes_L_low : GoodIn wsL_goes (va_wsS RL 9 yL_low wsL_low) := goodIn_app (goodIn_of _ (by decide +kernel)) ggL_goes_L_low
set_option maxRecDepth 20000 in
theorem ggL_goes_L_name : GoodIn wsL_goes wsL_name := goodIn_r _ [8, 1, 2, 3, 4, 5] (by decide +kernel) (by decide +kernel)
set_option maxRecDepth 20000 in
theorem gL_goes_L_name : GoodIn wsL_goes (va_wsS RL 103 yL_name wsL_name) := goodIn_app (goodIn_of _ (by decide +kernel)) ggL_goes_L_name
set_option maxRecDepth 20000 in
theorem ggL_goes_X3_acquire : GoodIn wsL_goes wsX3_acquire := goodIn_r _ [13, 14, 15, 16, 17, 18, 12, 19, 20, 21, 22, 23, 24, 25, 26, 27, 28, 29, 30, 31, 32, 33, 34, 35, 36, 37, 38, 39, 40, 41, 42, 43, 44, 45, 46, 47, 48, 49, 50, 51, 52, 53, 54, 55, 56, 57, 58, 59, 60, 61, 62, 63, 64, 65, 66, 67, 68, 69, 70, 71, 72, 73, 74, 75, 76, 77, 78, 79, 315, 316, 317, 318, 319, 320, 321, 322, 323, 324, 325, 326, 327, 328, 329, 330, 331, 332, 333, 334] (by decide +kernel) (by decide +kernel)
set_option maxRecDepth 20000 in
theorem gL_goes_X3_acquire : GoodIn wsL_goes (wsV RL 106 RX3 yX3_acquire wsX3_acquire) := goodIn_app (goodIn_of _ (by decide +kernel)) ggL_goes_X3_acquire
set_option maxRecDepth 20000 in
theorem ggL_goes_L_tag : GoodIn wsL_goes wsL_tag := goodIn_r _ [82, 83, 1, 2, 3, 4, 5, 84, 85, 86, 12, 87, 15, 88, 89, 90, 91, 92, 93, 94, 95, 42, 96, 97, 14, 98, 99, 100, 24, 101, 30, 102, 103, 104, 105, 35, 106, 107, 108, 109, 53, 110, 111, 112, 113, 114, 115, 116, 117, 118, 119, 120, 121, 122, 123, 124, 125, 36, 37, 71, 72, 73, 74, 54, 52, 75, 76, 77, 78, 79, 315, 316, 317, 318, 319, 320, 321, 322, 323, 324, 325, 326, 327, 328, 329, 330, 331, 332, 333, 334, 335, 336] (by decide +kernel) (by decide +kernel)
set_option maxRecDepth 20000 in
theorem gL_goes_L_tag : GoodIn wsL_goes (va_wsS RL 109 yL_tag wsL_tag) := goodIn_app (goodIn_of _ (by decide +kernel)) ggL_goes_L_tag
set_option maxRecDepth 20000 in
theorem ggL_goes_X3_use : GoodIn wsL_goes wsX3_use := goodIn_r _ [129, 15, 130, 16, 131, 132, 133, 24, 134, 79, 54, 61, 60, 62, 30, 52, 36, 12, 37, 135, 32, 33, 34, 35, 38, 39, 40, 41, 42, 43, 44, 45, 46, 47, 48, 49, 50, 51, 53, 55, 56, 57, 58, 59, 136, 68, 69, 70, 315, 316, 317, 318, 319, 320, 321, 322, 323, 324, 325, 326, 327, 328, 329, 330, 331, 332, 333, 334] (by decide +kernel) (by decide +kernel)
set_option maxRecDepth 20000 in
theorem gL_goes_X3_use : GoodIn wsL_goes (wsV RL 113 RX3 yX3_use wsX3_use) := goodIn_app (goodIn_of _ (by decide +kernel)) ggL_goes_X3_use
set_option maxRecDepth 20000 in
theorem ggL_goes_X3_release : GoodIn wsL_goes wsX3_release := goodIn_r _ [140, 15, 130, 141, 131, 132, 133, 24, 134, 79, 54, 61, 60, 62, 30, 52, 36, 12, 37, 142, 143, 144, 145, 35, 146, 107, 108, 109, 53, 38, 39, 40, 41, 42, 43, 44, 45, 46, 47, 48, 49, 50, 51, 55, 56, 57, 58, 59, 147, 148, 149, 150, 315, 316, 317, 318, 319, 320, 321, 322, 323, 324, 325, 326, 327, 328, 329, 330, 331, 332, 333, 334] (by decide +kernel) (by decide +kernel)
set_option maxRecDepth 20000 in
theorem gL_goes_X3_release : GoodIn wsL_goes (wsV RL 116 RX3 yX3_release wsX3_release) := goodIn_app (goodIn_of _ (by decide +kernel)) ggL_goes_X3_release
set_option maxRecDepth 20000 in
theorem ggL_goes_L_near : GoodIn wsL_goes wsL_near := goodIn_r _ [153, 1, 2, 3, 4, 5] (by decide +kernel) (by decide +kernel)
set_option maxRecDepth 20000 in
theorem gL_goes_L_near : GoodIn wsL_goes (va_wsS RL 70 yL_near wsL_near) := goodIn_app (goodIn_of _ (by decide +kernel)) ggL_goes_L_near
set_option maxRecDepth 20000 in
theorem ggL_goes_X3_put : GoodIn wsL_goes wsX3_put := goodIn_r _ [157, 14, 15, 130, 16, 158, 159, 12, 160, 125, 36, 37, 131, 132, 133, 24, 134, 79, 54, 61, 60, 62, 30, 52, 135, 32, 33, 34, 35, 38, 39, 40, 41, 42, 43, 44, 45, 46, 47, 48, 49, 50, 51, 53, 55, 56, 57, 58, 59, 161, 162, 163, 164, 165, 166, 167, 67, 68, 69, 70, 168, 148, 149, 150, 315, 316, 317, 318, 319, 320, 321, 322, 323, 324, 325, 326, 327, 328, 329, 330, 331, 332, 333, 334] (by decide +kernel) (by decide +kernel)
set_option maxRecDepth 20000 in
theorem gL_goes_X3_put : GoodIn wsL_goes (wsV RL 119 RX3 yX3_put wsX3_put) := goodIn_app (goodIn_of _ (by decide +kernel)) ggL_goes_X3_put
set_option maxRecDepth 20000 in
theorem ggL_goes_X3_clear : GoodIn wsL_goes wsX3_clear := goodIn_r _ [172, 14, 15, 88, 141, 158, 159, 12, 160, 125, 36, 37, 161, 162, 163, 38, 39, 40, 41, 42, 43, 44, 45, 46, 24, 47, 30, 48, 49, 50, 51, 35, 52, 53, 54, 55, 56, 57, 58, 59, 60, 61, 62, 173, 174, 175, 176, 168, 148, 149, 150, 315, 316, 317, 318, 319, 320, 321, 322, 323, 324, 325, 326, 327, 328, 329, 330, 331, 332, 333, 334] (by decide +kernel) (by decide +kernel)
set_option maxRecDepth 20000 in
theorem gL_goes_X3_clear : GoodIn wsL_goes (wsV RL 123 RX3 yX3_clear wsX3_clear) := goodIn_app (goodIn_of _ (by decide +kernel)) ggL_goes_X3_clear
set_option maxRecDepth 20000 in
theorem ggL_goes_X3_compact : GoodIn wsL_goes wsX3_compact := goodIn_r _ [180, 14, 15, 16, 125, 36, 12, 37, 181, 182, 183, 24, 184, 54, 38, 39, 40, 41, 42, 43, 44, 45, 46, 47, 30, 48, 49, 50, 51, 35, 52, 53, 55, 56, 57, 58, 59, 60, 61, 62, 185, 186, 187, 188, 189, 190, 191, 192, 193, 194, 195, 196, 197, 198, 199, 200, 99, 100, 101, 201, 202, 203, 204, 205, 206, 207, 208, 209, 210, 211, 212, 213, 214, 315, 316, 317, 318, 319, 320, 321, 322, 323, 324, 325, 326, 327, 328, 329, 330, 331, 332, 333, 334] (by decide +kernel) (by decide +kernel)
set_option maxRecDepth 20000 in
theorem gL_goes_X3_compact : GoodIn wsL_goes (wsV RL 126 RX3 yX3_compact wsX3_compact) := goodIn_app (goodIn_of _ (by decide +kernel)) ggL_goes_X3_compact
set_option maxRecDepth 20000 in
theorem ggL_goes_L_plays : GoodIn wsL_goes wsL_plays := goodIn_r _ [217, 218, 219, 220, 221, 222, 223, 224, 12, 225, 96, 97, 1, 2, 3, 4, 5, 226, 227, 228, 229, 14, 16, 230, 231, 232, 233, 234, 235, 236, 36, 37, 237, 238, 239, 240, 241, 15, 242, 122, 243, 244, 125, 245, 246, 247, 248, 249, 250, 251, 252, 253, 254, 255, 256, 45, 46, 24, 47, 30, 48, 49, 50, 51, 35, 52, 53, 54, 55, 56, 57, 58, 59, 60, 61, 62, 257, 258, 259, 260, 261, 262, 263, 264, 265, 266, 267, 268, 269, 270, 271, 272, 273, 274, 275, 276, 277, 278, 279, 280, 281, 282, 283, 284, 285, 286, 287, 288, 289, 290, 291, 292, 293, 294, 295, 296, 27, 28, 29, 297, 298, 299, 300, 301, 22, 23, 25, 26, 31, 32, 33, 34, 302, 143, 144, 145, 146, 107, 108, 109, 303, 304, 182, 183, 184, 305, 64, 65, 66, 67, 68, 69, 70, 306, 148, 149, 150, 162, 163, 307, 165, 166, 167, 168, 308, 186, 187, 188, 189, 190, 191, 192, 193, 194, 195, 196, 197, 198, 199, 200, 99, 100, 101, 201, 202, 203, 204, 205, 206, 207, 208, 209, 210, 211, 212, 213, 214, 309, 310, 311, 312, 141, 313, 314, 38, 39, 40, 41, 42, 43, 44, 84, 85, 86, 87, 88, 89, 90, 91, 92, 93, 94, 95, 98, 102, 103, 104, 105, 106, 110, 111, 112, 113, 315, 316, 317, 318, 319, 335, 336, 337, 338, 339, 340, 341, 342, 343, 344, 345, 346, 347, 348, 320, 321, 322, 323, 324, 325, 326, 327, 328, 329, 330, 331, 332, 333, 334] (by decide +kernel) (by decide +kernel)
set_option maxRecDepth 20000 in
theorem gL_goes_L_plays : GoodIn wsL_goes (va_wsS RL 129 yL_plays wsL_plays) := goodIn_app (goodIn_of _ (by decide +kernel)) ggL_goes_L_plays
theorem dL_goes_0 : decode cL_goes 0 = .ok (.iload_n 1, 1) := by decide +kernel
theorem dL_goes_1 : decode cL_goes 1 = .ok (.bipush 14, 2) := by decide +kernel
theorem dL_goes_3 : decode cL_goes 3 = .ok (.invokestatic 9, 3) := by decide +kernel
theorem dL_goes_6 : decode cL_goes 6 = .ok (.tableswitch 168 0 12 #[66, 66, 66, 66, 66, 91, 101, 101, 101, 111, 111, 137, 158], 66) := by decide +kernel
theorem dL_goes_72 : decode cL_goes 72 = .ok (.aload_n 0, 1) := by decide +kernel
theorem dL_goes_73 : decode cL_goes 73 = .ok (.iload_n 2, 1) := by decide +kernel
theorem dL_goes_74 : decode cL_goes 74 = .ok (.bipush 11, 2) := by decide +kernel
theorem dL_goes_76 : decode cL_goes 76 = .ok (.ishr, 1) := by decide +kernel
theorem dL_goes_77 : decode cL_goes 77 = .ok (.bipush 30, 2) := by decide +kernel
theorem dL_goes_79 : decode cL_goes 79 = .ok (.invokestatic 9, 3) := by decide +kernel
theorem dL_goes_82 : decode cL_goes 82 = .ok (.ifCond .ne 7, 3) := by decide +kernel
theorem dL_goes_85 : decode cL_goes 85 = .ok (.iload_n 2, 1) := by decide +kernel
theorem dL_goes_86 : decode cL_goes 86 = .ok (.goto 7, 3) := by decide +kernel
theorem dL_goes_89 : decode cL_goes 89 = .ok (.iload_n 2, 1) := by decide +kernel
theorem dL_goes_90 : decode cL_goes 90 = .ok (.invokestatic 103, 3) := by decide +kernel
theorem dL_goes_93 : decode cL_goes 93 = .ok (.invokevirtual 106, 3) := by decide +kernel
theorem dL_goes_96 : decode cL_goes 96 = .ok (.ireturn, 1) := by decide +kernel
theorem dL_goes_97 : decode cL_goes 97 = .ok (.aload_n 0, 1) := by decide +kernel
theorem dL_goes_98 : decode cL_goes 98 = .ok (.aload_n 0, 1) := by decide +kernel
theorem dL_goes_99 : decode cL_goes 99 = .ok (.iload_n 2, 1) := by decide +kernel
theorem dL_goes_100 : decode cL_goes 100 = .ok (.invokestatic 109, 3) := by decide +kernel
theorem dL_goes_103 : decode cL_goes 103 = .ok (.invokevirtual 113, 3) := by decide +kernel
theorem dL_goes_106 : decode cL_goes 106 = .ok (.ireturn, 1) := by decide +kernel
theorem dL_goes_107 : decode cL_goes 107 = .ok (.aload_n 0, 1) := by decide +kernel
theorem dL_goes_108 : decode cL_goes 108 = .ok (.aload_n 0, 1) := by decide +kernel
theorem dL_goes_109 : decode cL_goes 109 = .ok (.iload_n 2, 1) := by decide +kernel
theorem dL_goes_110 : decode cL_goes 110 = .ok (.invokestatic 109, 3) := by decide +kernel
theorem dL_goes_113 : decode cL_goes 113 = .ok (.invokevirtual 116, 3) := by decide +kernel
theorem dL_goes_116 : decode cL_goes 116 = .ok (.ireturn, 1) := by decide +kernel
theorem dL_goes_117 : decode cL_goes 117 = .ok (.aload_n 0, 1) := by decide +kernel
theorem dL_goes_118 : decode cL_goes 118 = .ok (.iload_n 1, 1) := by decide +kernel
theorem dL_goes_119 : decode cL_goes 119 = .ok (.iconst 5, 1) := by decide +kernel
theorem dL_goes_120 : decode cL_goes 120 = .ok (.ishr, 1) := by decide +kernel
theorem dL_goes_121 : decode cL_goes 121 = .ok (.iconst 3, 1) := by decide +kernel
theorem dL_goes_122 : decode cL_goes 122 = .ok (.invokestatic 70, 3) := by decide +kernel
theorem dL_goes_125 : decode cL_goes 125 = .ok (.iload_n 1, 1) := by decide +kernel
theorem dL_goes_126 : decode cL_goes 126 = .ok (.bipush 9, 2) := by decide +kernel
theorem dL_goes_128 : decode cL_goes 128 = .ok (.ishr, 1) := by decide +kernel
theorem dL_goes_129 : decode cL_goes 129 = .ok (.bipush 6, 2) := by decide +kernel
theorem dL_goes_131 : decode cL_goes 131 = .ok (.invokestatic 70, 3) := by decide +kernel
theorem dL_goes_134 : decode cL_goes 134 = .ok (.aload_n 0, 1) := by decide +kernel
theorem dL_goes_135 : decode cL_goes 135 = .ok (.iload_n 2, 1) := by decide +kernel
theorem dL_goes_136 : decode cL_goes 136 = .ok (.invokestatic 109, 3) := by decide +kernel
theorem dL_goes_139 : decode cL_goes 139 = .ok (.invokevirtual 119, 3) := by decide +kernel
theorem dL_goes_142 : decode cL_goes 142 = .ok (.ireturn, 1) := by decide +kernel
theorem dL_goes_143 : decode cL_goes 143 = .ok (.aload_n 0, 1) := by decide +kernel
theorem dL_goes_144 : decode cL_goes 144 = .ok (.iload_n 1, 1) := by decide +kernel
theorem dL_goes_145 : decode cL_goes 145 = .ok (.iconst 5, 1) := by decide +kernel
theorem dL_goes_146 : decode cL_goes 146 = .ok (.ishr, 1) := by decide +kernel
theorem dL_goes_147 : decode cL_goes 147 = .ok (.iconst 3, 1) := by decide +kernel
theorem dL_goes_148 : decode cL_goes 148 = .ok (.invokestatic 70, 3) := by decide +kernel
theorem dL_goes_151 : decode cL_goes 151 = .ok (.iload_n 1, 1) := by decide +kernel
theorem dL_goes_152 : decode cL_goes 152 = .ok (.bipush 9, 2) := by decide +kernel
theorem dL_goes_154 : decode cL_goes 154 = .ok (.ishr, 1) := by decide +kernel
theorem dL_goes_155 : decode cL_goes 155 = .ok (.bipush 6, 2) := by decide +kernel
theorem dL_goes_157 : decode cL_goes 157 = .ok (.invokestatic 70, 3) := by decide +kernel
theorem dL_goes_160 : decode cL_goes 160 = .ok (.invokevirtual 123, 3) := by decide +kernel
theorem dL_goes_163 : decode cL_goes 163 = .ok (.ireturn, 1) := by decide +kernel
theorem dL_goes_164 : decode cL_goes 164 = .ok (.aload_n 0, 1) := by decide +kernel
theorem dL_goes_165 : decode cL_goes 165 = .ok (.iload_n 2, 1) := by decide +kernel
theorem dL_goes_166 : decode cL_goes 166 = .ok (.iconst 3, 1) := by decide +kernel
theorem dL_goes_167 : decode cL_goes 167 = .ok (.invokestatic 70, 3) := by decide +kernel
theorem dL_goes_170 : decode cL_goes 170 = .ok (.invokevirtual 126, 3) := by decide +kernel
theorem dL_goes_173 : decode cL_goes 173 = .ok (.ireturn, 1) := by decide +kernel
theorem dL_goes_174 : decode cL_goes 174 = .ok (.aload_n 0, 1) := by decide +kernel
theorem dL_goes_175 : decode cL_goes 175 = .ok (.iload_n 2, 1) := by decide +kernel
theorem dL_goes_176 : decode cL_goes 176 = .ok (.invokestatic 129, 3) := by decide +kernel
theorem dL_goes_179 : decode cL_goes 179 = .ok (.ireturn, 1) := by decide +kernel
set_option maxRecDepth 20000 in
theorem ggL_law_X3_init : GoodIn wsL_law wsX3_init := goodIn_r _ [6, 7, 8, 9, 10, 11, 12, 13, 14, 15, 16, 17, 18, 19, 20, 21, 22, 23, 24, 25, 26, 27, 28, 29, 30, 31, 32, 33, 34, 35, 36, 37, 38, 39, 40, 41, 42, 43, 44, 45, 46, 47, 48, 49, 50, 51, 52, 53, 54, 438, 439, 440, 441, 442, 443, 444, 445, 446, 447, 448, 449, 450, 451, 452, 433, 434, 435, 436, 437, 453, 454, 455, 456, 457, 458, 459, 460, 461, 462, 463, 464, 465, 466] (by decide +kernel) (by decide +kernel)
set_option maxRecDepth 20000 in
theorem gL_law_X3_init : GoodIn wsL_law (wsX3_init) := ggL_law_X3_init
set_option maxRecDepth 20000 in
theorem ggL_law_L_fits : GoodIn wsL_law wsL_fits := goodIn_r _ [58, 59, 60, 61, 62, 63, 57, 64, 65, 66, 67, 68, 69, 2, 70, 13, 71, 72, 73, 74, 75, 76, 77, 78, 79, 18, 80, 81, 82, 83, 84, 12, 85, 28, 86, 87, 88, 89, 29, 90, 91, 92, 93, 31, 94, 95, 96, 97, 98, 99, 100, 101, 102, 103, 104, 105, 106, 107, 108, 109, 110, 111, 112, 113, 30, 114, 115, 116, 117, 118, 119, 120, 121, 122, 123, 124, 125, 126, 127, 128, 129, 130, 131, 132, 133, 134, 135, 136, 137, 138, 139, 36, 35, 140, 141, 142, 143, 37, 144, 145, 146, 147, 148, 149, 150, 151, 152, 153, 154, 155, 156, 157, 158, 159, 160, 161, 162, 163, 164, 165, 166, 167, 168, 169, 170, 171, 172, 173, 174, 175, 176, 177, 178, 179, 180, 181, 182, 183, 184, 185, 186, 187, 188, 189, 190, 191, 192, 193, 194, 195, 196, 197, 198, 199, 200, 201, 202, 203, 204, 205, 206, 207, 208, 209, 210, 211, 212, 213, 214, 215, 216, 217, 218, 219, 220, 221, 433, 434, 435, 436, 437, 438, 439, 440, 441, 442, 443, 444, 445, 446, 447, 448, 449, 450, 451, 452, 453, 454] (by decide +kernel) (by decide +kernel)
set_option maxRecDepth 20000 in
theorem gL_law_L_fits : GoodIn wsL_law (va_wsS RL 133 yL_fits wsL_fits) := goodIn_app (goodIn_of _ (by decide +kernel)) ggL_law_L_fits
set_option maxRecDepth 20000 in
theorem ggL_law_L_cell : GoodIn wsL_law wsL_cell := goodIn_r _ [224, 225] (by decide +kernel) (by decide +kernel)
set_option maxRecDepth 20000 in
theorem gL_law_L_cell : GoodIn wsL_law (va_wsS RL 136 yL_cell wsL_cell) := goodIn_app (goodIn_of _ (by decide +kernel)) ggL_law_L_cell
set_option maxRecDepth 20000 in
theorem ggL_law_L_trace : GoodIn wsL_law wsL_trace := goodIn_r _ [64, 65, 66, 67, 68, 69, 2, 70, 13, 71, 72, 73, 74, 75, 76, 77, 78, 79, 18, 80, 81, 82, 83, 84, 12, 85, 28, 86, 87, 88, 89, 29, 90, 91, 92, 93, 31, 94, 95, 96, 97, 98, 99, 100, 101, 102, 103, 104, 105, 106, 107, 108, 109, 110, 111, 112, 113, 30, 114, 115, 116, 117, 118, 119, 120, 121, 122, 123, 124, 125, 126, 127, 128, 129, 130, 131, 132, 133, 134, 135, 136, 137, 138, 139, 36, 35, 140, 141, 142, 143, 37, 433, 434, 435, 436, 437, 438, 439, 440, 441, 442, 443, 444, 445, 446, 447, 448, 449, 450, 451, 452, 453, 454] (by decide +kernel) (by decide +kernel)
set_option maxRecDepth 20000 in
theorem gL_law_L_trace : GoodIn wsL_law (va_wsS RL 66 yL_trace wsL_trace) := goodIn_app (goodIn_of _ (by decide +kernel)) ggL_law_L_trace
set_option maxRecDepth 20000 in
theorem ggL_law_X3_count : GoodIn wsL_law wsX3_count := goodIn_r _ [70, 13, 71, 72, 73, 74, 75, 76, 77, 78, 79, 18, 80, 81, 82, 83, 84, 12, 85, 28, 86, 87, 88, 89, 29, 90, 91, 92, 93, 31, 94, 95, 96, 97, 433, 434, 435, 436, 437, 438, 439, 440, 441, 442, 443, 444, 445, 446, 447, 448, 449, 450, 451, 452, 453, 454] (by decide +kernel) (by decide +kernel)
set_option maxRecDepth 20000 in
theorem gL_law_X3_count : GoodIn wsL_law (wsV RL 21 RX3 yX3_count wsX3_count) := goodIn_app (goodIn_of _ (by decide +kernel)) ggL_law_X3_count
set_option maxRecDepth 20000 in
theorem ggL_law_L_goes : GoodIn wsL_law wsL_goes := goodIn_r _ [228, 147, 148, 57, 149, 150, 229, 230, 231, 232, 233, 234, 2, 235, 81, 13, 236, 158, 159, 160, 161, 237, 238, 239, 12, 240, 241, 163, 164, 165, 28, 242, 243, 244, 245, 29, 107, 108, 246, 247, 248, 249, 79, 14, 250, 251, 252, 253, 254, 255, 256, 257, 30, 31, 113, 258, 259, 32, 33, 34, 35, 36, 37, 260, 261, 262, 263, 264, 265, 266, 267, 109, 110, 111, 112, 114, 115, 116, 117, 118, 268, 269, 270, 59, 67, 68, 69, 70, 71, 72, 73, 74, 75, 76, 77, 78, 18, 80, 82, 83, 84, 85, 86, 87, 88, 89, 90, 91, 92, 93, 94, 95, 96, 97, 271, 272, 273, 98, 99, 100, 101, 102, 103, 104, 105, 106, 274, 275, 276, 277, 175, 170, 141, 142, 143, 278, 279, 280, 281, 282, 283, 284, 285, 286, 287, 288, 289, 290, 291, 292, 293, 144, 145, 146, 294, 295, 296, 297, 123, 124, 125, 126, 127, 128, 298, 299, 300, 301, 302, 303, 304, 305, 306, 307, 308, 309, 310, 311, 312, 313, 314, 315, 316, 317, 318, 319, 320, 321, 322, 323, 192, 193, 194, 195, 196, 197, 198, 199, 200, 201, 324, 325, 326, 327, 328, 38, 39, 40, 41, 42, 43, 329, 330, 331, 332, 333, 334, 335, 336, 60, 337, 3, 338, 339, 340, 341, 342, 343, 344, 345, 346, 347, 348, 17, 349, 350, 48, 351, 352, 353, 354, 22, 355, 356, 357, 358, 359, 360, 21, 361, 53, 362, 363, 364, 365, 366, 367, 368, 369, 370, 371, 372, 373, 374, 375, 376, 377, 378, 379, 380, 381, 382, 383, 384, 385, 386, 387, 388, 389, 390, 391, 392, 393, 394, 395, 396, 397, 398, 399, 400, 401, 402, 403, 404, 405, 406, 407, 408, 409, 410, 411, 412, 413, 414, 415, 416, 417, 418, 419, 420, 421, 422, 423, 424, 425, 433, 434, 435, 436, 437, 438, 439, 440, 441, 442, 443, 444, 445, 446, 447, 448, 449, 450, 451, 452, 453, 454, 455, 456, 457, 458, 459, 460, 461, 462, 463, 464, 465, 466] (by decide +kernel) (by decide +kernel)
set_option maxRecDepth 20000 in
theorem gL_law_L_goes : GoodIn wsL_law (va_wsS RL 140 yL_goes wsL_goes) := goodIn_app (goodIn_of _ (by decide +kernel)) ggL_law_L_goes
set_option maxRecDepth 20000 in
theorem ggL_law_L_isError : GoodIn wsL_law wsL_isError := goodIn_r _ [428, 61, 221] (by decide +kernel) (by decide +kernel)
set_option maxRecDepth 20000 in
theorem gL_law_L_isError : GoodIn wsL_law (va_wsS RL 144 yL_isError wsL_isError) := goodIn_app (goodIn_of _ (by decide +kernel)) ggL_law_L_isError
set_option maxRecDepth 20000 in
theorem ggL_law_L_low : GoodIn wsL_law wsL_low := goodIn_r _ [149, 150] (by decide +kernel) (by decide +kernel)
set_option maxRecDepth 20000 in
theorem gL_law_L_low : GoodIn wsL_law (va_wsS RL 9 yL_low wsL_low) := goodIn_app (goodIn_of _ (by decide +kernel)) ggL_law_L_low
set_option maxRecDepth 20000 in
theorem ggL_law_X3_undo : GoodIn wsL_law wsX3_undo := goodIn_r _ [432, 79, 284, 13, 14, 250, 251, 252, 12, 253, 28, 254, 255, 256, 257, 29, 30, 31, 113, 258, 259, 32, 33, 34, 35, 36, 37, 433, 434, 435, 436, 437, 438, 439, 440, 441, 442, 443, 444, 445, 446, 447, 448, 449, 450, 451, 452] (by decide +kernel) (by decide +kernel)
set_option maxRecDepth 20000 in
theorem gL_law_X3_undo : GoodIn wsL_law (wsV RL 148 RX3 yX3_undo wsX3_undo) := goodIn_app (goodIn_of _ (by decide +kernel)) ggL_law_X3_undo
theorem dL_law_0 : decode cL_law 0 = .ok (.new 22, 3) := by decide +kernel
theorem dL_law_3 : decode cL_law 3 = .ok (.dup, 1) := by decide +kernel
theorem dL_law_4 : decode cL_law 4 = .ok (.invokespecial 132, 3) := by decide +kernel
theorem dL_law_7 : decode cL_law 7 = .ok (.astore_n 1, 1) := by decide +kernel
theorem dL_law_8 : decode cL_law 8 = .ok (.aload_n 1, 1) := by decide +kernel
theorem dL_law_9 : decode cL_law 9 = .ok (.iconst 0, 1) := by decide +kernel
theorem dL_law_10 : decode cL_law 10 = .ok (.invokestatic 133, 3) := by decide +kernel
theorem dL_law_13 : decode cL_law 13 = .ok (.istore_n 2, 1) := by decide +kernel
theorem dL_law_14 : decode cL_law 14 = .ok (.iconst 0, 1) := by decide +kernel
theorem dL_law_15 : decode cL_law 15 = .ok (.istore_n 3, 1) := by decide +kernel
theorem dL_law_16 : decode cL_law 16 = .ok (.iload_n 3, 1) := by decide +kernel
theorem dL_law_17 : decode cL_law 17 = .ok (.bipush 40, 2) := by decide +kernel
theorem dL_law_19 : decode cL_law 19 = .ok (.if_icmp .ge 214, 3) := by decide +kernel
theorem dL_law_22 : decode cL_law 22 = .ok (.iload_n 2, 1) := by decide +kernel
theorem dL_law_23 : decode cL_law 23 = .ok (.ifCond .eq 210, 3) := by decide +kernel
theorem dL_law_26 : decode cL_law 26 = .ok (.aload_n 0, 1) := by decide +kernel
theorem dL_law_27 : decode cL_law 27 = .ok (.iconst 2, 1) := by decide +kernel
theorem dL_law_28 : decode cL_law 28 = .ok (.iload_n 3, 1) := by decide +kernel
theorem dL_law_29 : decode cL_law 29 = .ok (.imul, 1) := by decide +kernel
theorem dL_law_30 : decode cL_law 30 = .ok (.invokestatic 136, 3) := by decide +kernel
theorem dL_law_33 : decode cL_law 33 = .ok (.istore 4, 2) := by decide +kernel
theorem dL_law_35 : decode cL_law 35 = .ok (.aload_n 0, 1) := by decide +kernel
theorem dL_law_36 : decode cL_law 36 = .ok (.iconst 2, 1) := by decide +kernel
theorem dL_law_37 : decode cL_law 37 = .ok (.iload_n 3, 1) := by decide +kernel
theorem dL_law_38 : decode cL_law 38 = .ok (.imul, 1) := by decide +kernel
theorem dL_law_39 : decode cL_law 39 = .ok (.iconst 1, 1) := by decide +kernel
theorem dL_law_40 : decode cL_law 40 = .ok (.iadd, 1) := by decide +kernel
theorem dL_law_41 : decode cL_law 41 = .ok (.invokestatic 136, 3) := by decide +kernel
theorem dL_law_44 : decode cL_law 44 = .ok (.istore 5, 2) := by decide +kernel
theorem dL_law_46 : decode cL_law 46 = .ok (.aload_n 1, 1) := by decide +kernel
theorem dL_law_47 : decode cL_law 47 = .ok (.invokestatic 66, 3) := by decide +kernel
theorem dL_law_50 : decode cL_law 50 = .ok (.lstore 6, 2) := by decide +kernel
theorem dL_law_52 : decode cL_law 52 = .ok (.aload_n 1, 1) := by decide +kernel
theorem dL_law_53 : decode cL_law 53 = .ok (.bipush 9, 2) := by decide +kernel
theorem dL_law_55 : decode cL_law 55 = .ok (.invokevirtual 21, 3) := by decide +kernel
theorem dL_law_58 : decode cL_law 58 = .ok (.istore 8, 2) := by decide +kernel
theorem dL_law_60 : decode cL_law 60 = .ok (.aload_n 1, 1) := by decide +kernel
theorem dL_law_61 : decode cL_law 61 = .ok (.iload 4, 2) := by decide +kernel
theorem dL_law_63 : decode cL_law 63 = .ok (.iload 5, 2) := by decide +kernel
theorem dL_law_65 : decode cL_law 65 = .ok (.invokestatic 140, 3) := by decide +kernel
theorem dL_law_68 : decode cL_law 68 = .ok (.istore 9, 2) := by decide +kernel
theorem dL_law_70 : decode cL_law 70 = .ok (.iload 9, 2) := by decide +kernel
theorem dL_law_72 : decode cL_law 72 = .ok (.ldc 102, 2) := by decide +kernel
theorem dL_law_74 : decode cL_law 74 = .ok (.if_icmp .eq 62, 3) := by decide +kernel
theorem dL_law_77 : decode cL_law 77 = .ok (.iload 9, 2) := by decide +kernel
theorem dL_law_79 : decode cL_law 79 = .ok (.invokestatic 144, 3) := by decide +kernel
theorem dL_law_82 : decode cL_law 82 = .ok (.ifCond .eq 27, 3) := by decide +kernel
theorem dL_law_85 : decode cL_law 85 = .ok (.aload_n 1, 1) := by decide +kernel
theorem dL_law_86 : decode cL_law 86 = .ok (.invokestatic 66, 3) := by decide +kernel
theorem dL_law_89 : decode cL_law 89 = .ok (.lload 6, 2) := by decide +kernel
theorem dL_law_91 : decode cL_law 91 = .ok (.lcmp, 1) := by decide +kernel
theorem dL_law_92 : decode cL_law 92 = .ok (.ifCond .ne 44, 3) := by decide +kernel
theorem dL_law_95 : decode cL_law 95 = .ok (.aload_n 1, 1) := by decide +kernel
theorem dL_law_96 : decode cL_law 96 = .ok (.bipush 9, 2) := by decide +kernel
theorem dL_law_98 : decode cL_law 98 = .ok (.invokevirtual 21, 3) := by decide +kernel
theorem dL_law_101 : decode cL_law 101 = .ok (.iload 8, 2) := by decide +kernel
theorem dL_law_103 : decode cL_law 103 = .ok (.if_icmp .ne 33, 3) := by decide +kernel
theorem dL_law_106 : decode cL_law 106 = .ok (.goto 26, 3) := by decide +kernel
theorem dL_law_109 : decode cL_law 109 = .ok (.aload_n 1, 1) := by decide +kernel
theorem dL_law_110 : decode cL_law 110 = .ok (.bipush 9, 2) := by decide +kernel
theorem dL_law_112 : decode cL_law 112 = .ok (.invokevirtual 21, 3) := by decide +kernel
theorem dL_law_115 : decode cL_law 115 = .ok (.iload 8, 2) := by decide +kernel
theorem dL_law_117 : decode cL_law 117 = .ok (.iconst 4, 1) := by decide +kernel
theorem dL_law_118 : decode cL_law 118 = .ok (.if_icmp .ge 10, 3) := by decide +kernel
theorem dL_law_121 : decode cL_law 121 = .ok (.iload 8, 2) := by decide +kernel
theorem dL_law_123 : decode cL_law 123 = .ok (.iconst 1, 1) := by decide +kernel
theorem dL_law_124 : decode cL_law 124 = .ok (.iadd, 1) := by decide +kernel
theorem dL_law_125 : decode cL_law 125 = .ok (.goto 4, 3) := by decide +kernel
theorem dL_law_128 : decode cL_law 128 = .ok (.iconst 4, 1) := by decide +kernel
theorem dL_law_129 : decode cL_law 129 = .ok (.if_icmp .ne 7, 3) := by decide +kernel
theorem dL_law_132 : decode cL_law 132 = .ok (.iconst 1, 1) := by decide +kernel
theorem dL_law_133 : decode cL_law 133 = .ok (.goto 4, 3) := by decide +kernel
theorem dL_law_136 : decode cL_law 136 = .ok (.iconst 0, 1) := by decide +kernel
theorem dL_law_137 : decode cL_law 137 = .ok (.istore_n 2, 1) := by decide +kernel
theorem dL_law_138 : decode cL_law 138 = .ok (.iload_n 2, 1) := by decide +kernel
theorem dL_law_139 : decode cL_law 139 = .ok (.ifCond .eq 66, 3) := by decide +kernel
theorem dL_law_142 : decode cL_law 142 = .ok (.iload 9, 2) := by decide +kernel
theorem dL_law_144 : decode cL_law 144 = .ok (.invokestatic 144, 3) := by decide +kernel
theorem dL_law_147 : decode cL_law 147 = .ok (.ifCond .ne 58, 3) := by decide +kernel
theorem dL_law_150 : decode cL_law 150 = .ok (.iload 5, 2) := by decide +kernel
theorem dL_law_152 : decode cL_law 152 = .ok (.iconst 3, 1) := by decide +kernel
theorem dL_law_153 : decode cL_law 153 = .ok (.ishr, 1) := by decide +kernel
theorem dL_law_154 : decode cL_law 154 = .ok (.iconst 4, 1) := by decide +kernel
theorem dL_law_155 : decode cL_law 155 = .ok (.invokestatic 9, 3) := by decide +kernel
theorem dL_law_158 : decode cL_law 158 = .ok (.ifCond .ne 47, 3) := by decide +kernel
theorem dL_law_161 : decode cL_law 161 = .ok (.aload_n 1, 1) := by decide +kernel
theorem dL_law_162 : decode cL_law 162 = .ok (.invokevirtual 148, 3) := by decide +kernel
theorem dL_law_165 : decode cL_law 165 = .ok (.iload 8, 2) := by decide +kernel
theorem dL_law_167 : decode cL_law 167 = .ok (.iconst 4, 1) := by decide +kernel
theorem dL_law_168 : decode cL_law 168 = .ok (.if_icmp .ge 8, 3) := by decide +kernel
theorem dL_law_171 : decode cL_law 171 = .ok (.iload 8, 2) := by decide +kernel
theorem dL_law_173 : decode cL_law 173 = .ok (.goto 4, 3) := by decide +kernel
theorem dL_law_176 : decode cL_law 176 = .ok (.iconst 3, 1) := by decide +kernel
theorem dL_law_177 : decode cL_law 177 = .ok (.if_icmp .ne 17, 3) := by decide +kernel
theorem dL_law_180 : decode cL_law 180 = .ok (.aload_n 1, 1) := by decide +kernel
theorem dL_law_181 : decode cL_law 181 = .ok (.invokestatic 66, 3) := by decide +kernel
theorem dL_law_184 : decode cL_law 184 = .ok (.lload 6, 2) := by decide +kernel
theorem dL_law_186 : decode cL_law 186 = .ok (.lcmp, 1) := by decide +kernel
theorem dL_law_187 : decode cL_law 187 = .ok (.ifCond .ne 7, 3) := by decide +kernel
theorem dL_law_190 : decode cL_law 190 = .ok (.iconst 1, 1) := by decide +kernel
theorem dL_law_191 : decode cL_law 191 = .ok (.goto 4, 3) := by decide +kernel
theorem dL_law_194 : decode cL_law 194 = .ok (.iconst 0, 1) := by decide +kernel
theorem dL_law_195 : decode cL_law 195 = .ok (.istore_n 2, 1) := by decide +kernel
theorem dL_law_196 : decode cL_law 196 = .ok (.aload_n 1, 1) := by decide +kernel
theorem dL_law_197 : decode cL_law 197 = .ok (.iload 4, 2) := by decide +kernel
theorem dL_law_199 : decode cL_law 199 = .ok (.iload 5, 2) := by decide +kernel
theorem dL_law_201 : decode cL_law 201 = .ok (.invokestatic 140, 3) := by decide +kernel
theorem dL_law_204 : decode cL_law 204 = .ok (.pop, 1) := by decide +kernel
theorem dL_law_205 : decode cL_law 205 = .ok (.iload_n 2, 1) := by decide +kernel
theorem dL_law_206 : decode cL_law 206 = .ok (.ifCond .eq 19, 3) := by decide +kernel
theorem dL_law_209 : decode cL_law 209 = .ok (.aload_n 1, 1) := by decide +kernel
theorem dL_law_210 : decode cL_law 210 = .ok (.iload 4, 2) := by decide +kernel
theorem dL_law_212 : decode cL_law 212 = .ok (.iload 5, 2) := by decide +kernel
theorem dL_law_214 : decode cL_law 214 = .ok (.ixor, 1) := by decide +kernel
theorem dL_law_215 : decode cL_law 215 = .ok (.invokestatic 133, 3) := by decide +kernel
theorem dL_law_218 : decode cL_law 218 = .ok (.ifCond .eq 7, 3) := by decide +kernel
theorem dL_law_221 : decode cL_law 221 = .ok (.iconst 1, 1) := by decide +kernel
theorem dL_law_222 : decode cL_law 222 = .ok (.goto 4, 3) := by decide +kernel
theorem dL_law_225 : decode cL_law 225 = .ok (.iconst 0, 1) := by decide +kernel
theorem dL_law_226 : decode cL_law 226 = .ok (.istore_n 2, 1) := by decide +kernel
theorem dL_law_227 : decode cL_law 227 = .ok (.iinc 3 1, 3) := by decide +kernel
theorem dL_law_230 : decode cL_law 230 = .ok (.goto (-214), 3) := by decide +kernel
theorem dL_law_233 : decode cL_law 233 = .ok (.iload_n 2, 1) := by decide +kernel
theorem dL_law_234 : decode cL_law 234 = .ok (.ireturn, 1) := by decide +kernel
abbrev vwCl : List vw_C := [(RX0, TX0, 12), (RX1, TX1, 15), (RX2, TX2, 2), (RX3, TX3, 5)]
