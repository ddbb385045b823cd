theorem dL_numbersFit_131 : decode cL_numbersFit 131 = .ok (.iconst 0, 1) := by decide +kernel
theorem dL_numbersFit_132 : decode cL_numbersFit 132 = .ok (.iadd, 1) := by decide +kernel
theorem dL_numbersFit_133 : decode cL_numbersFit 133 = .ok (.istore_n 1, 1) := by decide +kernel
theorem dL_numbersFit_134 : decode cL_numbersFit 134 = .ok (.iload_n 2, 1) := by decide +kernel
theorem dL_numbersFit_135 : decode cL_numbersFit 135 = .ok (.iload 8, 2) := by decide +kernel
theorem dL_numbersFit_137 : decode cL_numbersFit 137 = .ok (.iadd, 1) := by decide +kernel
theorem dL_numbersFit_138 : decode cL_numbersFit 138 = .ok (.istore_n 2, 1) := by decide +kernel
theorem dL_numbersFit_139 : decode cL_numbersFit 139 = .ok (.iload_n 3, 1) := by decide +kernel
theorem dL_numbersFit_140 : decode cL_numbersFit 140 = .ok (.iload 10, 2) := by decide +kernel
theorem dL_numbersFit_142 : decode cL_numbersFit 142 = .ok (.iadd, 1) := by decide +kernel
theorem dL_numbersFit_143 : decode cL_numbersFit 143 = .ok (.istore_n 3, 1) := by decide +kernel
theorem dL_numbersFit_144 : decode cL_numbersFit 144 = .ok (.iload 11, 2) := by decide +kernel
theorem dL_numbersFit_146 : decode cL_numbersFit 146 = .ok (.ifCond .eq 10, 3) := by decide +kernel
theorem dL_numbersFit_149 : decode cL_numbersFit 149 = .ok (.iload 6, 2) := by decide +kernel
theorem dL_numbersFit_151 : decode cL_numbersFit 151 = .ok (.iconst 1, 1) := by decide +kernel
theorem dL_numbersFit_152 : decode cL_numbersFit 152 = .ok (.iadd, 1) := by decide +kernel
theorem dL_numbersFit_153 : decode cL_numbersFit 153 = .ok (.goto 5, 3) := by decide +kernel
theorem dL_numbersFit_156 : decode cL_numbersFit 156 = .ok (.iload 4, 2) := by decide +kernel
theorem dL_numbersFit_158 : decode cL_numbersFit 158 = .ok (.istore 4, 2) := by decide +kernel
theorem dL_numbersFit_160 : decode cL_numbersFit 160 = .ok (.aload_n 0, 1) := by decide +kernel
theorem dL_numbersFit_161 : decode cL_numbersFit 161 = .ok (.iload 6, 2) := by decide +kernel
theorem dL_numbersFit_163 : decode cL_numbersFit 163 = .ok (.iconst 2, 1) := by decide +kernel
theorem dL_numbersFit_164 : decode cL_numbersFit 164 = .ok (.invokevirtual 27, 3) := by decide +kernel
theorem dL_numbersFit_167 : decode cL_numbersFit 167 = .ok (.iload 10, 2) := by decide +kernel
theorem dL_numbersFit_169 : decode cL_numbersFit 169 = .ok (.if_icmp .ne 52, 3) := by decide +kernel
theorem dL_numbersFit_172 : decode cL_numbersFit 172 = .ok (.iload 10, 2) := by decide +kernel
theorem dL_numbersFit_174 : decode cL_numbersFit 174 = .ok (.iload 8, 2) := by decide +kernel
theorem dL_numbersFit_176 : decode cL_numbersFit 176 = .ok (.if_icmp .gt 45, 3) := by decide +kernel
theorem dL_numbersFit_179 : decode cL_numbersFit 179 = .ok (.iload 11, 2) := by decide +kernel
theorem dL_numbersFit_181 : decode cL_numbersFit 181 = .ok (.iload 8, 2) := by decide +kernel
theorem dL_numbersFit_183 : decode cL_numbersFit 183 = .ok (.ifCond .le 7, 3) := by decide +kernel
theorem dL_numbersFit_186 : decode cL_numbersFit 186 = .ok (.iconst 1, 1) := by decide +kernel
theorem dL_numbersFit_187 : decode cL_numbersFit 187 = .ok (.goto 4, 3) := by decide +kernel
theorem dL_numbersFit_190 : decode cL_numbersFit 190 = .ok (.iconst 0, 1) := by decide +kernel
theorem dL_numbersFit_191 : decode cL_numbersFit 191 = .ok (.if_icmp .ne 30, 3) := by decide +kernel
theorem dL_numbersFit_194 : decode cL_numbersFit 194 = .ok (.iload 8, 2) := by decide +kernel
theorem dL_numbersFit_196 : decode cL_numbersFit 196 = .ok (.sipush 999, 3) := by decide +kernel
theorem dL_numbersFit_199 : decode cL_numbersFit 199 = .ok (.if_icmp .gt 22, 3) := by decide +kernel
theorem dL_numbersFit_202 : decode cL_numbersFit 202 = .ok (.iload 11, 2) := by decide +kernel
theorem dL_numbersFit_204 : decode cL_numbersFit 204 = .ok (.iload 9, 2) := by decide +kernel
theorem dL_numbersFit_206 : decode cL_numbersFit 206 = .ok (.ifCond .lt 7, 3) := by decide +kernel
theorem dL_numbersFit_209 : decode cL_numbersFit 209 = .ok (.iconst 1, 1) := by decide +kernel
theorem dL_numbersFit_210 : decode cL_numbersFit 210 = .ok (.goto 4, 3) := by decide +kernel
theorem dL_numbersFit_213 : decode cL_numbersFit 213 = .ok (.iconst 0, 1) := by decide +kernel
theorem dL_numbersFit_214 : decode cL_numbersFit 214 = .ok (.if_icmp .ne 7, 3) := by decide +kernel
theorem dL_numbersFit_217 : decode cL_numbersFit 217 = .ok (.iconst 1, 1) := by decide +kernel
theorem dL_numbersFit_218 : decode cL_numbersFit 218 = .ok (.goto 4, 3) := by decide +kernel
theorem dL_numbersFit_221 : decode cL_numbersFit 221 = .ok (.iconst 0, 1) := by decide +kernel
theorem dL_numbersFit_222 : decode cL_numbersFit 222 = .ok (.istore 5, 2) := by decide +kernel
theorem dL_numbersFit_224 : decode cL_numbersFit 224 = .ok (.iload 5, 2) := by decide +kernel
theorem dL_numbersFit_226 : decode cL_numbersFit 226 = .ok (.ifCond .eq 135, 3) := by decide +kernel
theorem dL_numbersFit_229 : decode cL_numbersFit 229 = .ok (.iload 11, 2) := by decide +kernel
theorem dL_numbersFit_231 : decode cL_numbersFit 231 = .ok (.ifCond .eq 84, 3) := by decide +kernel
theorem dL_numbersFit_234 : decode cL_numbersFit 234 = .ok (.iload 9, 2) := by decide +kernel
theorem dL_numbersFit_236 : decode cL_numbersFit 236 = .ok (.ldc 38, 2) := by decide +kernel
theorem dL_numbersFit_238 : decode cL_numbersFit 238 = .ok (.aload_n 0, 1) := by decide +kernel
theorem dL_numbersFit_239 : decode cL_numbersFit 239 = .ok (.iconst 3, 1) := by decide +kernel
theorem dL_numbersFit_240 : decode cL_numbersFit 240 = .ok (.invokevirtual 21, 3) := by decide +kernel
theorem dL_numbersFit_243 : decode cL_numbersFit 243 = .ok (.imul, 1) := by decide +kernel
theorem dL_numbersFit_244 : decode cL_numbersFit 244 = .ok (.bipush 100, 2) := by decide +kernel
theorem dL_numbersFit_246 : decode cL_numbersFit 246 = .ok (.aload_n 0, 1) := by decide +kernel
theorem dL_numbersFit_247 : decode cL_numbersFit 247 = .ok (.iload 6, 2) := by decide +kernel
theorem dL_numbersFit_249 : decode cL_numbersFit 249 = .ok (.iconst 3, 1) := by decide +kernel
theorem dL_numbersFit_250 : decode cL_numbersFit 250 = .ok (.invokevirtual 27, 3) := by decide +kernel
theorem dL_numbersFit_253 : decode cL_numbersFit 253 = .ok (.imul, 1) := by decide +kernel
theorem dL_numbersFit_254 : decode cL_numbersFit 254 = .ok (.iadd, 1) := by decide +kernel
theorem dL_numbersFit_255 : decode cL_numbersFit 255 = .ok (.iload 6, 2) := by decide +kernel
theorem dL_numbersFit_257 : decode cL_numbersFit 257 = .ok (.iadd, 1) := by decide +kernel
theorem dL_numbersFit_258 : decode cL_numbersFit 258 = .ok (.if_icmp .ne 103, 3) := by decide +kernel
theorem dL_numbersFit_261 : decode cL_numbersFit 261 = .ok (.aload_n 0, 1) := by decide +kernel
theorem dL_numbersFit_262 : decode cL_numbersFit 262 = .ok (.iload 7, 2) := by decide +kernel
theorem dL_numbersFit_264 : decode cL_numbersFit 264 = .ok (.invokevirtual 39, 3) := by decide +kernel
theorem dL_numbersFit_267 : decode cL_numbersFit 267 = .ok (.iload 6, 2) := by decide +kernel
theorem dL_numbersFit_269 : decode cL_numbersFit 269 = .ok (.if_icmp .ne 92, 3) := by decide +kernel
theorem dL_numbersFit_272 : decode cL_numbersFit 272 = .ok (.aload_n 0, 1) := by decide +kernel
theorem dL_numbersFit_273 : decode cL_numbersFit 273 = .ok (.iload 9, 2) := by decide +kernel
theorem dL_numbersFit_275 : decode cL_numbersFit 275 = .ok (.invokevirtual 42, 3) := by decide +kernel
theorem dL_numbersFit_278 : decode cL_numbersFit 278 = .ok (.ifCond .ne 83, 3) := by decide +kernel
theorem dL_numbersFit_281 : decode cL_numbersFit 281 = .ok (.aload_n 0, 1) := by decide +kernel
theorem dL_numbersFit_282 : decode cL_numbersFit 282 = .ok (.iload 9, 2) := by decide +kernel
theorem dL_numbersFit_284 : decode cL_numbersFit 284 = .ok (.invokevirtual 45, 3) := by decide +kernel
theorem dL_numbersFit_287 : decode cL_numbersFit 287 = .ok (.iload 9, 2) := by decide +kernel
theorem dL_numbersFit_289 : decode cL_numbersFit 289 = .ok (.if_icmp .ne 72, 3) := by decide +kernel
theorem dL_numbersFit_292 : decode cL_numbersFit 292 = .ok (.aload_n 0, 1) := by decide +kernel
theorem dL_numbersFit_293 : decode cL_numbersFit 293 = .ok (.iload 9, 2) := by decide +kernel
theorem dL_numbersFit_295 : decode cL_numbersFit 295 = .ok (.invokevirtual 48, 3) := by decide +kernel
theorem dL_numbersFit_298 : decode cL_numbersFit 298 = .ok (.iload 7, 2) := by decide +kernel
theorem dL_numbersFit_300 : decode cL_numbersFit 300 = .ok (.if_icmp .ne 61, 3) := by decide +kernel
theorem dL_numbersFit_303 : decode cL_numbersFit 303 = .ok (.aload_n 0, 1) := by decide +kernel
theorem dL_numbersFit_304 : decode cL_numbersFit 304 = .ok (.iload 7, 2) := by decide +kernel
theorem dL_numbersFit_306 : decode cL_numbersFit 306 = .ok (.invokevirtual 51, 3) := by decide +kernel
theorem dL_numbersFit_309 : decode cL_numbersFit 309 = .ok (.ifCond .le 52, 3) := by decide +kernel
theorem dL_numbersFit_312 : decode cL_numbersFit 312 = .ok (.goto 45, 3) := by decide +kernel
theorem dL_numbersFit_315 : decode cL_numbersFit 315 = .ok (.aload_n 0, 1) := by decide +kernel
theorem dL_numbersFit_316 : decode cL_numbersFit 316 = .ok (.iload 6, 2) := by decide +kernel
theorem dL_numbersFit_318 : decode cL_numbersFit 318 = .ok (.iconst 0, 1) := by decide +kernel
theorem dL_numbersFit_319 : decode cL_numbersFit 319 = .ok (.invokevirtual 54, 3) := by decide +kernel
theorem dL_numbersFit_322 : decode cL_numbersFit 322 = .ok (.ldc 37, 2) := by decide +kernel
theorem dL_numbersFit_324 : decode cL_numbersFit 324 = .ok (.if_icmp .ne 37, 3) := by decide +kernel
theorem dL_numbersFit_327 : decode cL_numbersFit 327 = .ok (.aload_n 0, 1) := by decide +kernel
theorem dL_numbersFit_328 : decode cL_numbersFit 328 = .ok (.ldc 38, 2) := by decide +kernel
theorem dL_numbersFit_330 : decode cL_numbersFit 330 = .ok (.aload_n 0, 1) := by decide +kernel
theorem dL_numbersFit_331 : decode cL_numbersFit 331 = .ok (.iconst 3, 1) := by decide +kernel
theorem dL_numbersFit_332 : decode cL_numbersFit 332 = .ok (.invokevirtual 21, 3) := by decide +kernel
theorem dL_numbersFit_335 : decode cL_numbersFit 335 = .ok (.imul, 1) := by decide +kernel
theorem dL_numbersFit_336 : decode cL_numbersFit 336 = .ok (.bipush 100, 2) := by decide +kernel
theorem dL_numbersFit_338 : decode cL_numbersFit 338 = .ok (.aload_n 0, 1) := by decide +kernel
theorem dL_numbersFit_339 : decode cL_numbersFit 339 = .ok (.iload 6, 2) := by decide +kernel
theorem dL_numbersFit_341 : decode cL_numbersFit 341 = .ok (.iconst 3, 1) := by decide +kernel
theorem dL_numbersFit_342 : decode cL_numbersFit 342 = .ok (.invokevirtual 27, 3) := by decide +kernel
theorem dL_numbersFit_345 : decode cL_numbersFit 345 = .ok (.imul, 1) := by decide +kernel
theorem dL_numbersFit_346 : decode cL_numbersFit 346 = .ok (.iadd, 1) := by decide +kernel
theorem dL_numbersFit_347 : decode cL_numbersFit 347 = .ok (.iload 6, 2) := by decide +kernel
theorem dL_numbersFit_349 : decode cL_numbersFit 349 = .ok (.iadd, 1) := by decide +kernel
theorem dL_numbersFit_350 : decode cL_numbersFit 350 = .ok (.invokevirtual 42, 3) := by decide +kernel
theorem dL_numbersFit_353 : decode cL_numbersFit 353 = .ok (.iconst 4, 1) := by decide +kernel
theorem dL_numbersFit_354 : decode cL_numbersFit 354 = .ok (.if_icmp .ne 7, 3) := by decide +kernel
theorem dL_numbersFit_357 : decode cL_numbersFit 357 = .ok (.iconst 1, 1) := by decide +kernel
theorem dL_numbersFit_358 : decode cL_numbersFit 358 = .ok (.goto 4, 3) := by decide +kernel
theorem dL_numbersFit_361 : decode cL_numbersFit 361 = .ok (.iconst 0, 1) := by decide +kernel
theorem dL_numbersFit_362 : decode cL_numbersFit 362 = .ok (.istore 5, 2) := by decide +kernel
theorem dL_numbersFit_364 : decode cL_numbersFit 364 = .ok (.iinc 6 1, 3) := by decide +kernel
theorem dL_numbersFit_367 : decode cL_numbersFit 367 = .ok (.goto (-352), 3) := by decide +kernel
theorem dL_numbersFit_370 : decode cL_numbersFit 370 = .ok (.iload 5, 2) := by decide +kernel
theorem dL_numbersFit_372 : decode cL_numbersFit 372 = .ok (.ifCond .eq 83, 3) := by decide +kernel
theorem dL_numbersFit_375 : decode cL_numbersFit 375 = .ok (.iload_n 1, 1) := by decide +kernel
theorem dL_numbersFit_376 : decode cL_numbersFit 376 = .ok (.aload_n 0, 1) := by decide +kernel
theorem dL_numbersFit_377 : decode cL_numbersFit 377 = .ok (.iconst 0, 1) := by decide +kernel
theorem dL_numbersFit_378 : decode cL_numbersFit 378 = .ok (.invokevirtual 21, 3) := by decide +kernel
theorem dL_numbersFit_381 : decode cL_numbersFit 381 = .ok (.if_icmp .ne 74, 3) := by decide +kernel
theorem dL_numbersFit_384 : decode cL_numbersFit 384 = .ok (.iload_n 2, 1) := by decide +kernel
theorem dL_numbersFit_385 : decode cL_numbersFit 385 = .ok (.aload_n 0, 1) := by decide +kernel
theorem dL_numbersFit_386 : decode cL_numbersFit 386 = .ok (.iconst 1, 1) := by decide +kernel
theorem dL_numbersFit_387 : decode cL_numbersFit 387 = .ok (.invokevirtual 21, 3) := by decide +kernel
theorem dL_numbersFit_390 : decode cL_numbersFit 390 = .ok (.if_icmp .ne 65, 3) := by decide +kernel
theorem dL_numbersFit_393 : decode cL_numbersFit 393 = .ok (.iload_n 3, 1) := by decide +kernel
theorem dL_numbersFit_394 : decode cL_numbersFit 394 = .ok (.aload_n 0, 1) := by decide +kernel
theorem dL_numbersFit_395 : decode cL_numbersFit 395 = .ok (.iconst 2, 1) := by decide +kernel
theorem dL_numbersFit_396 : decode cL_numbersFit 396 = .ok (.invokevirtual 21, 3) := by decide +kernel
theorem dL_numbersFit_399 : decode cL_numbersFit 399 = .ok (.if_icmp .ne 56, 3) := by decide +kernel
theorem dL_numbersFit_402 : decode cL_numbersFit 402 = .ok (.iload 4, 2) := by decide +kernel
theorem dL_numbersFit_404 : decode cL_numbersFit 404 = .ok (.aload_n 0, 1) := by decide +kernel
theorem dL_numbersFit_405 : decode cL_numbersFit 405 = .ok (.iconst 4, 1) := by decide +kernel
theorem dL_numbersFit_406 : decode cL_numbersFit 406 = .ok (.invokevirtual 21, 3) := by decide +kernel
theorem dL_numbersFit_409 : decode cL_numbersFit 409 = .ok (.if_icmp .ne 46, 3) := by decide +kernel
theorem dL_numbersFit_412 : decode cL_numbersFit 412 = .ok (.iload 4, 2) := by decide +kernel
theorem dL_numbersFit_414 : decode cL_numbersFit 414 = .ok (.iload_n 1, 1) := by decide +kernel
theorem dL_numbersFit_415 : decode cL_numbersFit 415 = .ok (.isub, 1) := by decide +kernel
theorem dL_numbersFit_416 : decode cL_numbersFit 416 = .ok (.aload_n 0, 1) := by decide +kernel
theorem dL_numbersFit_417 : decode cL_numbersFit 417 = .ok (.iconst 5, 1) := by decide +kernel
theorem dL_numbersFit_418 : decode cL_numbersFit 418 = .ok (.invokevirtual 21, 3) := by decide +kernel
theorem dL_numbersFit_421 : decode cL_numbersFit 421 = .ok (.if_icmp .ne 34, 3) := by decide +kernel
theorem dL_numbersFit_424 : decode cL_numbersFit 424 = .ok (.aload_n 0, 1) := by decide +kernel
theorem dL_numbersFit_425 : decode cL_numbersFit 425 = .ok (.bipush 6, 2) := by decide +kernel
theorem dL_numbersFit_427 : decode cL_numbersFit 427 = .ok (.invokevirtual 21, 3) := by decide +kernel
theorem dL_numbersFit_430 : decode cL_numbersFit 430 = .ok (.iload_n 1, 1) := by decide +kernel
theorem dL_numbersFit_431 : decode cL_numbersFit 431 = .ok (.if_icmp .lt 24, 3) := by decide +kernel
theorem dL_numbersFit_434 : decode cL_numbersFit 434 = .ok (.aload_n 0, 1) := by decide +kernel
theorem dL_numbersFit_435 : decode cL_numbersFit 435 = .ok (.bipush 6, 2) := by decide +kernel
theorem dL_numbersFit_437 : decode cL_numbersFit 437 = .ok (.invokevirtual 21, 3) := by decide +kernel
theorem dL_numbersFit_440 : decode cL_numbersFit 440 = .ok (.aload_n 0, 1) := by decide +kernel
theorem dL_numbersFit_441 : decode cL_numbersFit 441 = .ok (.bipush 7, 2) := by decide +kernel
theorem dL_numbersFit_443 : decode cL_numbersFit 443 = .ok (.invokevirtual 21, 3) := by decide +kernel
theorem dL_numbersFit_446 : decode cL_numbersFit 446 = .ok (.isub, 1) := by decide +kernel
theorem dL_numbersFit_447 : decode cL_numbersFit 447 = .ok (.iload_n 1, 1) := by decide +kernel
theorem dL_numbersFit_448 : decode cL_numbersFit 448 = .ok (.if_icmp .ne 7, 3) := by decide +kernel
theorem dL_numbersFit_451 : decode cL_numbersFit 451 = .ok (.iconst 1, 1) := by decide +kernel
theorem dL_numbersFit_452 : decode cL_numbersFit 452 = .ok (.goto 4, 3) := by decide +kernel
theorem dL_numbersFit_455 : decode cL_numbersFit 455 = .ok (.iconst 0, 1) := by decide +kernel
theorem dL_numbersFit_456 : decode cL_numbersFit 456 = .ok (.ireturn, 1) := by decide +kernel
set_option maxRecDepth 20000 in
theorem ggL_ordersFit_X3_count : GoodIn wsL_ordersFit wsX3_count := goodIn_r _ [6, 7, 8, 9, 10, 11, 12, 13, 14, 15, 16, 17, 18, 19, 20, 21, 22, 23, 24, 25, 26, 27, 28, 29, 30, 31, 32, 33, 34, 35, 36, 37, 38, 39, 103, 104, 105, 106, 107, 108, 109, 110, 111, 112, 113, 114, 115, 116, 117, 118, 119, 120, 121, 122, 123, 124] (by decide +kernel) (by decide +kernel)
set_option maxRecDepth 20000 in
theorem gL_ordersFit_X3_count : GoodIn wsL_ordersFit (wsV RL 21 RX3 yX3_count wsX3_count) := goodIn_app (goodIn_of _ (by decide +kernel)) ggL_ordersFit_X3_count
set_option maxRecDepth 20000 in
theorem ggL_ordersFit_X3_nameAt : GoodIn wsL_ordersFit wsX3_nameAt := goodIn_r _ [43, 19, 7, 44, 45, 46, 47, 5, 48, 49, 50, 51, 23, 52, 25, 53, 54, 55, 56, 30, 57, 58, 59, 103, 104, 105, 106, 107, 108, 109, 110, 111, 112, 113, 114, 115, 116, 117, 118, 119, 120, 121, 122] (by decide +kernel) (by decide +kernel)
set_option maxRecDepth 20000 in
theorem gL_ordersFit_X3_nameAt : GoodIn wsL_ordersFit (wsV RL 57 RX3 yX3_nameAt wsX3_nameAt) := goodIn_app (goodIn_of _ (by decide +kernel)) ggL_ordersFit_X3_nameAt
set_option maxRecDepth 20000 in
theorem ggL_ordersFit_X3_find : GoodIn wsL_ordersFit wsX3_find := goodIn_r _ [63, 19, 7, 45, 64, 65, 5, 66, 67, 68, 69, 70, 23, 71, 25, 103, 104, 105, 106, 107, 108, 109, 110, 111, 112, 113, 114, 115, 116, 117, 118, 119, 120, 121, 122] (by decide +kernel) (by decide +kernel)
set_option maxRecDepth 20000 in
theorem gL_ordersFit_X3_find : GoodIn wsL_ordersFit (wsV RL 39 RX3 yX3_find wsX3_find) := goodIn_app (goodIn_of _ (by decide +kernel)) ggL_ordersFit_X3_find
set_option maxRecDepth 20000 in
theorem ggL_ordersFit_X3_wouldBe : GoodIn wsL_ordersFit wsX3_wouldBe := goodIn_r _ [75, 19, 7, 44, 45, 46, 47, 5, 48, 49, 50, 51, 23, 52, 25, 53, 54, 55, 56, 30, 57, 58, 59, 103, 104, 105, 106, 107, 108, 109, 110, 111, 112, 113, 114, 115, 116, 117, 118, 119, 120, 121, 122] (by decide +kernel) (by decide +kernel)
set_option maxRecDepth 20000 in
theorem gL_ordersFit_X3_wouldBe : GoodIn wsL_ordersFit (wsV RL 54 RX3 yX3_wouldBe wsX3_wouldBe) := goodIn_app (goodIn_of _ (by decide +kernel)) ggL_ordersFit_X3_wouldBe
set_option maxRecDepth 20000 in
theorem ggL_ordersFit_X3_numberOf : GoodIn wsL_ordersFit wsX3_numberOf := goodIn_r _ [79, 19, 7, 44, 45, 80, 81, 46, 47, 5, 48, 31, 32, 33, 23, 34, 35, 82, 83, 84, 85, 86, 87, 88, 89, 90, 91, 92, 103, 104, 105, 106, 107, 108, 109, 110, 111, 112, 113, 114, 115, 116, 117, 118, 119, 120, 121, 122] (by decide +kernel) (by decide +kernel)
set_option maxRecDepth 20000 in
theorem gL_ordersFit_X3_numberOf : GoodIn wsL_ordersFit (wsV RL 27 RX3 yX3_numberOf wsX3_numberOf) := goodIn_app (goodIn_of _ (by decide +kernel)) ggL_ordersFit_X3_numberOf
set_option maxRecDepth 20000 in
theorem ggL_ordersFit_L_padded : GoodIn wsL_ordersFit wsL_padded := goodIn_r _ [96, 97] (by decide +kernel) (by decide +kernel)
set_option maxRecDepth 20000 in
theorem gL_ordersFit_L_padded : GoodIn wsL_ordersFit (va_wsS RL 60 yL_padded wsL_padded) := goodIn_app (goodIn_of _ (by decide +kernel)) ggL_ordersFit_L_padded
set_option maxRecDepth 20000 in
theorem ggL_ordersFit_X3_behind : GoodIn wsL_ordersFit wsX3_behind := goodIn_r _ [101, 19, 7, 44, 45, 64, 65, 5, 66, 67, 102, 57, 58, 59, 103, 104, 105, 106, 107, 108, 109, 110, 111, 112, 113, 114, 115, 116, 117, 118, 119, 120, 121, 122] (by decide +kernel) (by decide +kernel)
set_option maxRecDepth 20000 in
theorem gL_ordersFit_X3_behind : GoodIn wsL_ordersFit (wsV RL 63 RX3 yX3_behind wsX3_behind) := goodIn_app (goodIn_of _ (by decide +kernel)) ggL_ordersFit_X3_behind
theorem dL_ordersFit_0 : decode cL_ordersFit 0 = .ok (.aload_n 0, 1) := by decide +kernel
theorem dL_ordersFit_1 : decode cL_ordersFit 1 = .ok (.iconst 0, 1) := by decide +kernel
theorem dL_ordersFit_2 : decode cL_ordersFit 2 = .ok (.invokevirtual 21, 3) := by decide +kernel
theorem dL_ordersFit_5 : decode cL_ordersFit 5 = .ok (.istore_n 1, 1) := by decide +kernel
theorem dL_ordersFit_6 : decode cL_ordersFit 6 = .ok (.iconst 1, 1) := by decide +kernel
theorem dL_ordersFit_7 : decode cL_ordersFit 7 = .ok (.istore_n 2, 1) := by decide +kernel
theorem dL_ordersFit_8 : decode cL_ordersFit 8 = .ok (.iconst 0, 1) := by decide +kernel
theorem dL_ordersFit_9 : decode cL_ordersFit 9 = .ok (.istore_n 3, 1) := by decide +kernel
theorem dL_ordersFit_10 : decode cL_ordersFit 10 = .ok (.iload_n 3, 1) := by decide +kernel
theorem dL_ordersFit_11 : decode cL_ordersFit 11 = .ok (.iconst 3, 1) := by decide +kernel
theorem dL_ordersFit_12 : decode cL_ordersFit 12 = .ok (.if_icmp .ge 213, 3) := by decide +kernel
theorem dL_ordersFit_15 : decode cL_ordersFit 15 = .ok (.iload_n 2, 1) := by decide +kernel
theorem dL_ordersFit_16 : decode cL_ordersFit 16 = .ok (.ifCond .eq 209, 3) := by decide +kernel
theorem dL_ordersFit_19 : decode cL_ordersFit 19 = .ok (.aload_n 0, 1) := by decide +kernel
theorem dL_ordersFit_20 : decode cL_ordersFit 20 = .ok (.iload_n 3, 1) := by decide +kernel
theorem dL_ordersFit_21 : decode cL_ordersFit 21 = .ok (.iload_n 1, 1) := by decide +kernel
theorem dL_ordersFit_22 : decode cL_ordersFit 22 = .ok (.invokevirtual 57, 3) := by decide +kernel
theorem dL_ordersFit_25 : decode cL_ordersFit 25 = .ok (.ldc 37, 2) := by decide +kernel
theorem dL_ordersFit_27 : decode cL_ordersFit 27 = .ok (.if_icmp .ne 7, 3) := by decide +kernel
theorem dL_ordersFit_30 : decode cL_ordersFit 30 = .ok (.iconst 1, 1) := by decide +kernel
theorem dL_ordersFit_31 : decode cL_ordersFit 31 = .ok (.goto 4, 3) := by decide +kernel
theorem dL_ordersFit_34 : decode cL_ordersFit 34 = .ok (.iconst 0, 1) := by decide +kernel
theorem dL_ordersFit_35 : decode cL_ordersFit 35 = .ok (.istore_n 2, 1) := by decide +kernel
theorem dL_ordersFit_36 : decode cL_ordersFit 36 = .ok (.iconst 0, 1) := by decide +kernel
theorem dL_ordersFit_37 : decode cL_ordersFit 37 = .ok (.istore 4, 2) := by decide +kernel
theorem dL_ordersFit_39 : decode cL_ordersFit 39 = .ok (.iload 4, 2) := by decide +kernel
theorem dL_ordersFit_41 : decode cL_ordersFit 41 = .ok (.iload_n 1, 1) := by decide +kernel
theorem dL_ordersFit_42 : decode cL_ordersFit 42 = .ok (.if_icmp .ge 177, 3) := by decide +kernel
theorem dL_ordersFit_45 : decode cL_ordersFit 45 = .ok (.iload_n 2, 1) := by decide +kernel
theorem dL_ordersFit_46 : decode cL_ordersFit 46 = .ok (.ifCond .eq 173, 3) := by decide +kernel
theorem dL_ordersFit_49 : decode cL_ordersFit 49 = .ok (.aload_n 0, 1) := by decide +kernel
theorem dL_ordersFit_50 : decode cL_ordersFit 50 = .ok (.iload_n 3, 1) := by decide +kernel
theorem dL_ordersFit_51 : decode cL_ordersFit 51 = .ok (.iload 4, 2) := by decide +kernel
theorem dL_ordersFit_53 : decode cL_ordersFit 53 = .ok (.invokevirtual 57, 3) := by decide +kernel
theorem dL_ordersFit_56 : decode cL_ordersFit 56 = .ok (.istore 5, 2) := by decide +kernel
theorem dL_ordersFit_58 : decode cL_ordersFit 58 = .ok (.aload_n 0, 1) := by decide +kernel
theorem dL_ordersFit_59 : decode cL_ordersFit 59 = .ok (.iload 5, 2) := by decide +kernel
theorem dL_ordersFit_61 : decode cL_ordersFit 61 = .ok (.invokevirtual 39, 3) := by decide +kernel
theorem dL_ordersFit_64 : decode cL_ordersFit 64 = .ok (.istore 6, 2) := by decide +kernel
theorem dL_ordersFit_66 : decode cL_ordersFit 66 = .ok (.iload 6, 2) := by decide +kernel
theorem dL_ordersFit_68 : decode cL_ordersFit 68 = .ok (.ifCond .lt 19, 3) := by decide +kernel
theorem dL_ordersFit_71 : decode cL_ordersFit 71 = .ok (.aload_n 0, 1) := by decide +kernel
theorem dL_ordersFit_72 : decode cL_ordersFit 72 = .ok (.iload 6, 2) := by decide +kernel
theorem dL_ordersFit_74 : decode cL_ordersFit 74 = .ok (.iload_n 3, 1) := by decide +kernel
theorem dL_ordersFit_75 : decode cL_ordersFit 75 = .ok (.invokevirtual 54, 3) := by decide +kernel
theorem dL_ordersFit_78 : decode cL_ordersFit 78 = .ok (.iload 4, 2) := by decide +kernel
theorem dL_ordersFit_80 : decode cL_ordersFit 80 = .ok (.if_icmp .ne 7, 3) := by decide +kernel
theorem dL_ordersFit_83 : decode cL_ordersFit 83 = .ok (.iconst 1, 1) := by decide +kernel
theorem dL_ordersFit_84 : decode cL_ordersFit 84 = .ok (.goto 4, 3) := by decide +kernel
theorem dL_ordersFit_87 : decode cL_ordersFit 87 = .ok (.iconst 0, 1) := by decide +kernel
theorem dL_ordersFit_88 : decode cL_ordersFit 88 = .ok (.istore_n 2, 1) := by decide +kernel
theorem dL_ordersFit_89 : decode cL_ordersFit 89 = .ok (.iload_n 2, 1) := by decide +kernel
theorem dL_ordersFit_90 : decode cL_ordersFit 90 = .ok (.ifCond .eq 123, 3) := by decide +kernel
theorem dL_ordersFit_93 : decode cL_ordersFit 93 = .ok (.iload 4, 2) := by decide +kernel
theorem dL_ordersFit_95 : decode cL_ordersFit 95 = .ok (.ifCond .le 118, 3) := by decide +kernel
theorem dL_ordersFit_98 : decode cL_ordersFit 98 = .ok (.aload_n 0, 1) := by decide +kernel
theorem dL_ordersFit_99 : decode cL_ordersFit 99 = .ok (.iload_n 3, 1) := by decide +kernel
theorem dL_ordersFit_100 : decode cL_ordersFit 100 = .ok (.iload 4, 2) := by decide +kernel
theorem dL_ordersFit_102 : decode cL_ordersFit 102 = .ok (.iconst 1, 1) := by decide +kernel
theorem dL_ordersFit_103 : decode cL_ordersFit 103 = .ok (.isub, 1) := by decide +kernel
theorem dL_ordersFit_104 : decode cL_ordersFit 104 = .ok (.invokevirtual 57, 3) := by decide +kernel
theorem dL_ordersFit_107 : decode cL_ordersFit 107 = .ok (.istore 7, 2) := by decide +kernel
theorem dL_ordersFit_109 : decode cL_ordersFit 109 = .ok (.aload_n 0, 1) := by decide +kernel
theorem dL_ordersFit_110 : decode cL_ordersFit 110 = .ok (.iload 7, 2) := by decide +kernel
theorem dL_ordersFit_112 : decode cL_ordersFit 112 = .ok (.invokevirtual 39, 3) := by decide +kernel
theorem dL_ordersFit_115 : decode cL_ordersFit 115 = .ok (.istore 8, 2) := by decide +kernel
theorem dL_ordersFit_117 : decode cL_ordersFit 117 = .ok (.aload_n 0, 1) := by decide +kernel
theorem dL_ordersFit_118 : decode cL_ordersFit 118 = .ok (.iload 8, 2) := by decide +kernel
theorem dL_ordersFit_120 : decode cL_ordersFit 120 = .ok (.iconst 1, 1) := by decide +kernel
theorem dL_ordersFit_121 : decode cL_ordersFit 121 = .ok (.invokevirtual 27, 3) := by decide +kernel
theorem dL_ordersFit_124 : decode cL_ordersFit 124 = .ok (.aload_n 0, 1) := by decide +kernel
theorem dL_ordersFit_125 : decode cL_ordersFit 125 = .ok (.iload 6, 2) := by decide +kernel
theorem dL_ordersFit_127 : decode cL_ordersFit 127 = .ok (.iconst 1, 1) := by decide +kernel
theorem dL_ordersFit_128 : decode cL_ordersFit 128 = .ok (.invokevirtual 27, 3) := by decide +kernel
theorem dL_ordersFit_131 : decode cL_ordersFit 131 = .ok (.isub, 1) := by decide +kernel
theorem dL_ordersFit_132 : decode cL_ordersFit 132 = .ok (.istore 9, 2) := by decide +kernel
theorem dL_ordersFit_134 : decode cL_ordersFit 134 = .ok (.iload_n 3, 1) := by decide +kernel
theorem dL_ordersFit_135 : decode cL_ordersFit 135 = .ok (.ifCond .ne 18, 3) := by decide +kernel
theorem dL_ordersFit_138 : decode cL_ordersFit 138 = .ok (.iload 8, 2) := by decide +kernel
theorem dL_ordersFit_140 : decode cL_ordersFit 140 = .ok (.iload 6, 2) := by decide +kernel
theorem dL_ordersFit_142 : decode cL_ordersFit 142 = .ok (.if_icmp .ge 7, 3) := by decide +kernel
theorem dL_ordersFit_145 : decode cL_ordersFit 145 = .ok (.iconst 1, 1) := by decide +kernel
theorem dL_ordersFit_146 : decode cL_ordersFit 146 = .ok (.goto 66, 3) := by decide +kernel
theorem dL_ordersFit_149 : decode cL_ordersFit 149 = .ok (.iconst 0, 1) := by decide +kernel
theorem dL_ordersFit_150 : decode cL_ordersFit 150 = .ok (.goto 62, 3) := by decide +kernel
theorem dL_ordersFit_153 : decode cL_ordersFit 153 = .ok (.iload_n 3, 1) := by decide +kernel
theorem dL_ordersFit_154 : decode cL_ordersFit 154 = .ok (.iconst 1, 1) := by decide +kernel
theorem dL_ordersFit_155 : decode cL_ordersFit 155 = .ok (.if_icmp .ne 35, 3) := by decide +kernel
theorem dL_ordersFit_158 : decode cL_ordersFit 158 = .ok (.iload 7, 2) := by decide +kernel
theorem dL_ordersFit_160 : decode cL_ordersFit 160 = .ok (.invokestatic 60, 3) := by decide +kernel
theorem dL_ordersFit_163 : decode cL_ordersFit 163 = .ok (.iload 5, 2) := by decide +kernel
theorem dL_ordersFit_165 : decode cL_ordersFit 165 = .ok (.invokestatic 60, 3) := by decide +kernel
theorem dL_ordersFit_168 : decode cL_ordersFit 168 = .ok (.if_icmp .ge 18, 3) := by decide +kernel
theorem dL_ordersFit_171 : decode cL_ordersFit 171 = .ok (.aload_n 0, 1) := by decide +kernel
theorem dL_ordersFit_172 : decode cL_ordersFit 172 = .ok (.iload 7, 2) := by decide +kernel
theorem dL_ordersFit_174 : decode cL_ordersFit 174 = .ok (.invokevirtual 63, 3) := by decide +kernel
theorem dL_ordersFit_177 : decode cL_ordersFit 177 = .ok (.iload 5, 2) := by decide +kernel
theorem dL_ordersFit_179 : decode cL_ordersFit 179 = .ok (.if_icmp .ne 7, 3) := by decide +kernel
theorem dL_ordersFit_182 : decode cL_ordersFit 182 = .ok (.iconst 1, 1) := by decide +kernel
theorem dL_ordersFit_183 : decode cL_ordersFit 183 = .ok (.goto 29, 3) := by decide +kernel
theorem dL_ordersFit_186 : decode cL_ordersFit 186 = .ok (.iconst 0, 1) := by decide +kernel
theorem dL_ordersFit_187 : decode cL_ordersFit 187 = .ok (.goto 25, 3) := by decide +kernel
theorem dL_ordersFit_190 : decode cL_ordersFit 190 = .ok (.iload 9, 2) := by decide +kernel
theorem dL_ordersFit_192 : decode cL_ordersFit 192 = .ok (.ifCond .gt 15, 3) := by decide +kernel
theorem dL_ordersFit_195 : decode cL_ordersFit 195 = .ok (.iload 9, 2) := by decide +kernel
theorem dL_ordersFit_197 : decode cL_ordersFit 197 = .ok (.ifCond .ne 14, 3) := by decide +kernel
theorem dL_ordersFit_200 : decode cL_ordersFit 200 = .ok (.iload 8, 2) := by decide +kernel
theorem dL_ordersFit_202 : decode cL_ordersFit 202 = .ok (.iload 6, 2) := by decide +kernel
theorem dL_ordersFit_204 : decode cL_ordersFit 204 = .ok (.if_icmp .ge 7, 3) := by decide +kernel
theorem dL_ordersFit_207 : decode cL_ordersFit 207 = .ok (.iconst 1, 1) := by decide +kernel
theorem dL_ordersFit_208 : decode cL_ordersFit 208 = .ok (.goto 4, 3) := by decide +kernel
theorem dL_ordersFit_211 : decode cL_ordersFit 211 = .ok (.iconst 0, 1) := by decide +kernel
theorem dL_ordersFit_212 : decode cL_ordersFit 212 = .ok (.istore_n 2, 1) := by decide +kernel
theorem dL_ordersFit_213 : decode cL_ordersFit 213 = .ok (.iinc 4 1, 3) := by decide +kernel
theorem dL_ordersFit_216 : decode cL_ordersFit 216 = .ok (.goto (-177), 3) := by decide +kernel
theorem dL_ordersFit_219 : decode cL_ordersFit 219 = .ok (.iinc 3 1, 3) := by decide +kernel
theorem dL_ordersFit_222 : decode cL_ordersFit 222 = .ok (.goto (-212), 3) := by decide +kernel
theorem dL_ordersFit_225 : decode cL_ordersFit 225 = .ok (.iload_n 2, 1) := by decide +kernel
theorem dL_ordersFit_226 : decode cL_ordersFit 226 = .ok (.ifCond .eq 28, 3) := by decide +kernel
theorem dL_ordersFit_229 : decode cL_ordersFit 229 = .ok (.iload_n 1, 1) := by decide +kernel
theorem dL_ordersFit_230 : decode cL_ordersFit 230 = .ok (.ifCond .eq 20, 3) := by decide +kernel
theorem dL_ordersFit_233 : decode cL_ordersFit 233 = .ok (.aload_n 0, 1) := by decide +kernel
theorem dL_ordersFit_234 : decode cL_ordersFit 234 = .ok (.aload_n 0, 1) := by decide +kernel
theorem dL_ordersFit_235 : decode cL_ordersFit 235 = .ok (.iconst 1, 1) := by decide +kernel
theorem dL_ordersFit_236 : decode cL_ordersFit 236 = .ok (.iload_n 1, 1) := by decide +kernel
theorem dL_ordersFit_237 : decode cL_ordersFit 237 = .ok (.iconst 1, 1) := by decide +kernel
theorem dL_ordersFit_238 : decode cL_ordersFit 238 = .ok (.isub, 1) := by decide +kernel
theorem dL_ordersFit_239 : decode cL_ordersFit 239 = .ok (.invokevirtual 57, 3) := by decide +kernel
theorem dL_ordersFit_242 : decode cL_ordersFit 242 = .ok (.invokevirtual 63, 3) := by decide +kernel
theorem dL_ordersFit_245 : decode cL_ordersFit 245 = .ok (.ldc 37, 2) := by decide +kernel
theorem dL_ordersFit_247 : decode cL_ordersFit 247 = .ok (.if_icmp .ne 7, 3) := by decide +kernel
theorem dL_ordersFit_250 : decode cL_ordersFit 250 = .ok (.iconst 1, 1) := by decide +kernel
theorem dL_ordersFit_251 : decode cL_ordersFit 251 = .ok (.goto 4, 3) := by decide +kernel
theorem dL_ordersFit_254 : decode cL_ordersFit 254 = .ok (.iconst 0, 1) := by decide +kernel
theorem dL_ordersFit_255 : decode cL_ordersFit 255 = .ok (.ireturn, 1) := by decide +kernel
