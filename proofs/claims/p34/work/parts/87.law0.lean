abbrev cL_law : ByteArray := code
theorem dL_law_0 : decode cL_law 0 = .ok (.new 7, 3) := d_187 (b1 := 0) (b2 := 7) rfl rfl rfl
theorem dL_law_3 : decode cL_law 3 = .ok (.dup, 1) := d_89 rfl
theorem dL_law_4 : decode cL_law 4 = .ok (.invokespecial 9, 3) := d_183 (b1 := 0) (b2 := 9) rfl rfl rfl
theorem dL_law_7 : decode cL_law 7 = .ok (.astore_n 1, 1) := d_76 rfl
theorem dL_law_8 : decode cL_law 8 = .ok (.new 10, 3) := d_187 (b1 := 0) (b2 := 10) rfl rfl rfl
theorem dL_law_11 : decode cL_law 11 = .ok (.dup, 1) := d_89 rfl
theorem dL_law_12 : decode cL_law 12 = .ok (.invokespecial 12, 3) := d_183 (b1 := 0) (b2 := 12) rfl rfl rfl
theorem dL_law_15 : decode cL_law 15 = .ok (.astore_n 2, 1) := d_77 rfl
theorem dL_law_16 : decode cL_law 16 = .ok (.iconst 0, 1) := d_3 rfl
theorem dL_law_17 : decode cL_law 17 = .ok (.istore_n 3, 1) := d_62 rfl
theorem dL_law_18 : decode cL_law 18 = .ok (.iload_n 3, 1) := d_29 rfl
theorem dL_law_19 : decode cL_law 19 = .ok (.aload_n 0, 1) := d_42 rfl
theorem dL_law_20 : decode cL_law 20 = .ok (.arraylength, 1) := d_190 rfl
theorem dL_law_21 : decode cL_law 21 = .ok (.bipush 7, 2) := d_16 (b1 := 7) rfl rfl
theorem dL_law_23 : decode cL_law 23 = .ok (.isub, 1) := d_100 rfl
theorem dL_law_24 : decode cL_law 24 = .ok (.if_icmp .gt 1916, 3) := d_163 (b1 := 7) (b2 := 124) rfl rfl rfl (by decide +kernel)
theorem dL_law_27 : decode cL_law 27 = .ok (.aload_n 0, 1) := d_42 rfl
theorem dL_law_28 : decode cL_law 28 = .ok (.iload_n 3, 1) := d_29 rfl
theorem dL_law_29 : decode cL_law 29 = .ok (.iaload, 1) := d_46 rfl
theorem dL_law_30 : decode cL_law 30 = .ok (.bipush 63, 2) := d_16 (b1 := 63) rfl rfl
theorem dL_law_32 : decode cL_law 32 = .ok (.iand, 1) := d_126 rfl
theorem dL_law_33 : decode cL_law 33 = .ok (.tableswitch 1901 0 42 #[187, 210, 233, 296, 319, 342, 365, 398, 431, 454, 517, 560, 613, 636, 659, 734, 787, 850, 893, 936, 1011, 1064, 1107, 1150, 1203, 1246, 1289, 1312, 1345, 1388, 1431, 1474, 1507, 1531, 1554, 1607, 1650, 1693, 1716, 1749, 1802, 1835, 1878], 187) := by decide +kernel
theorem dL_law_220 : decode cL_law 220 = .ok (.aload_n 1, 1) := d_43 rfl
theorem dL_law_221 : decode cL_law 221 = .ok (.aload_n 0, 1) := d_42 rfl
theorem dL_law_222 : decode cL_law 222 = .ok (.iload_n 3, 1) := d_29 rfl
theorem dL_law_223 : decode cL_law 223 = .ok (.iconst 1, 1) := d_4 rfl
theorem dL_law_224 : decode cL_law 224 = .ok (.iadd, 1) := d_96 rfl
theorem dL_law_225 : decode cL_law 225 = .ok (.iaload, 1) := d_46 rfl
theorem dL_law_226 : decode cL_law 226 = .ok (.invokevirtual 13, 3) := d_182 (b1 := 0) (b2 := 13) rfl rfl rfl
theorem dL_law_229 : decode cL_law 229 = .ok (.pop, 1) := d_87 rfl
theorem dL_law_230 : decode cL_law 230 = .ok (.aload_n 2, 1) := d_44 rfl
theorem dL_law_231 : decode cL_law 231 = .ok (.aload_n 0, 1) := d_42 rfl
theorem dL_law_232 : decode cL_law 232 = .ok (.iload_n 3, 1) := d_29 rfl
theorem dL_law_233 : decode cL_law 233 = .ok (.iconst 1, 1) := d_4 rfl
theorem dL_law_234 : decode cL_law 234 = .ok (.iadd, 1) := d_96 rfl
theorem dL_law_235 : decode cL_law 235 = .ok (.iaload, 1) := d_46 rfl
theorem dL_law_236 : decode cL_law 236 = .ok (.invokevirtual 17, 3) := d_182 (b1 := 0) (b2 := 17) rfl rfl rfl
theorem dL_law_239 : decode cL_law 239 = .ok (.pop, 1) := d_87 rfl
theorem dL_law_240 : decode cL_law 240 = .ok (.goto 1694, 3) := d_167 (b1 := 6) (b2 := 158) rfl rfl rfl (by decide +kernel)
theorem dL_law_243 : decode cL_law 243 = .ok (.aload_n 1, 1) := d_43 rfl
theorem dL_law_244 : decode cL_law 244 = .ok (.aload_n 0, 1) := d_42 rfl
theorem dL_law_245 : decode cL_law 245 = .ok (.iload_n 3, 1) := d_29 rfl
theorem dL_law_246 : decode cL_law 246 = .ok (.iconst 1, 1) := d_4 rfl
theorem dL_law_247 : decode cL_law 247 = .ok (.iadd, 1) := d_96 rfl
theorem dL_law_248 : decode cL_law 248 = .ok (.iaload, 1) := d_46 rfl
theorem dL_law_249 : decode cL_law 249 = .ok (.invokevirtual 18, 3) := d_182 (b1 := 0) (b2 := 18) rfl rfl rfl
set_option maxRecDepth 100000 in
theorem dL_law_252 : decode cL_law 252 = .ok (.pop, 1) := d_87 rfl
set_option maxRecDepth 100000 in
theorem dL_law_253 : decode cL_law 253 = .ok (.aload_n 2, 1) := d_44 rfl
set_option maxRecDepth 100000 in
theorem dL_law_254 : decode cL_law 254 = .ok (.aload_n 0, 1) := d_42 rfl
set_option maxRecDepth 100000 in
theorem dL_law_255 : decode cL_law 255 = .ok (.iload_n 3, 1) := d_29 rfl
set_option maxRecDepth 100000 in
theorem dL_law_256 : decode cL_law 256 = .ok (.iconst 1, 1) := d_4 rfl
set_option maxRecDepth 100000 in
theorem dL_law_257 : decode cL_law 257 = .ok (.iadd, 1) := d_96 rfl
set_option maxRecDepth 100000 in
theorem dL_law_258 : decode cL_law 258 = .ok (.iaload, 1) := d_46 rfl
set_option maxRecDepth 100000 in
theorem dL_law_259 : decode cL_law 259 = .ok (.invokevirtual 21, 3) := d_182 (b1 := 0) (b2 := 21) rfl rfl rfl
set_option maxRecDepth 100000 in
theorem dL_law_262 : decode cL_law 262 = .ok (.pop, 1) := d_87 rfl
set_option maxRecDepth 100000 in
theorem dL_law_263 : decode cL_law 263 = .ok (.goto 1671, 3) := d_167 (b1 := 6) (b2 := 135) rfl rfl rfl (by decide +kernel)
set_option maxRecDepth 100000 in
theorem dL_law_266 : decode cL_law 266 = .ok (.aload_n 1, 1) := d_43 rfl
set_option maxRecDepth 100000 in
theorem dL_law_267 : decode cL_law 267 = .ok (.aload_n 0, 1) := d_42 rfl
set_option maxRecDepth 100000 in
theorem dL_law_268 : decode cL_law 268 = .ok (.iload_n 3, 1) := d_29 rfl
set_option maxRecDepth 100000 in
theorem dL_law_269 : decode cL_law 269 = .ok (.iconst 1, 1) := d_4 rfl
set_option maxRecDepth 100000 in
theorem dL_law_270 : decode cL_law 270 = .ok (.iadd, 1) := d_96 rfl
set_option maxRecDepth 100000 in
theorem dL_law_271 : decode cL_law 271 = .ok (.iaload, 1) := d_46 rfl
set_option maxRecDepth 100000 in
theorem dL_law_272 : decode cL_law 272 = .ok (.aload_n 0, 1) := d_42 rfl
set_option maxRecDepth 100000 in
theorem dL_law_273 : decode cL_law 273 = .ok (.iload_n 3, 1) := d_29 rfl
set_option maxRecDepth 100000 in
theorem dL_law_274 : decode cL_law 274 = .ok (.iconst 2, 1) := d_5 rfl
set_option maxRecDepth 100000 in
theorem dL_law_275 : decode cL_law 275 = .ok (.iadd, 1) := d_96 rfl
set_option maxRecDepth 100000 in
theorem dL_law_276 : decode cL_law 276 = .ok (.iaload, 1) := d_46 rfl
set_option maxRecDepth 100000 in
theorem dL_law_277 : decode cL_law 277 = .ok (.aload_n 0, 1) := d_42 rfl
set_option maxRecDepth 100000 in
theorem dL_law_278 : decode cL_law 278 = .ok (.iload_n 3, 1) := d_29 rfl
set_option maxRecDepth 100000 in
theorem dL_law_279 : decode cL_law 279 = .ok (.iconst 3, 1) := d_6 rfl
set_option maxRecDepth 100000 in
theorem dL_law_280 : decode cL_law 280 = .ok (.iadd, 1) := d_96 rfl
set_option maxRecDepth 100000 in
theorem dL_law_281 : decode cL_law 281 = .ok (.iaload, 1) := d_46 rfl
set_option maxRecDepth 100000 in
theorem dL_law_282 : decode cL_law 282 = .ok (.aload_n 0, 1) := d_42 rfl
set_option maxRecDepth 100000 in
theorem dL_law_283 : decode cL_law 283 = .ok (.iload_n 3, 1) := d_29 rfl
set_option maxRecDepth 100000 in
theorem dL_law_284 : decode cL_law 284 = .ok (.iconst 4, 1) := d_7 rfl
set_option maxRecDepth 100000 in
theorem dL_law_285 : decode cL_law 285 = .ok (.iadd, 1) := d_96 rfl
set_option maxRecDepth 100000 in
theorem dL_law_286 : decode cL_law 286 = .ok (.iaload, 1) := d_46 rfl
set_option maxRecDepth 100000 in
theorem dL_law_287 : decode cL_law 287 = .ok (.aload_n 0, 1) := d_42 rfl
set_option maxRecDepth 100000 in
theorem dL_law_288 : decode cL_law 288 = .ok (.iload_n 3, 1) := d_29 rfl
set_option maxRecDepth 100000 in
theorem dL_law_289 : decode cL_law 289 = .ok (.iconst 5, 1) := d_8 rfl
set_option maxRecDepth 100000 in
theorem dL_law_290 : decode cL_law 290 = .ok (.iadd, 1) := d_96 rfl
set_option maxRecDepth 100000 in
theorem dL_law_291 : decode cL_law 291 = .ok (.iaload, 1) := d_46 rfl
set_option maxRecDepth 100000 in
theorem dL_law_292 : decode cL_law 292 = .ok (.invokevirtual 22, 3) := d_182 (b1 := 0) (b2 := 22) rfl rfl rfl
set_option maxRecDepth 100000 in
theorem dL_law_295 : decode cL_law 295 = .ok (.pop, 1) := d_87 rfl
set_option maxRecDepth 100000 in
theorem dL_law_296 : decode cL_law 296 = .ok (.aload_n 2, 1) := d_44 rfl
set_option maxRecDepth 100000 in
theorem dL_law_297 : decode cL_law 297 = .ok (.aload_n 0, 1) := d_42 rfl
set_option maxRecDepth 100000 in
theorem dL_law_298 : decode cL_law 298 = .ok (.iload_n 3, 1) := d_29 rfl
set_option maxRecDepth 100000 in
theorem dL_law_299 : decode cL_law 299 = .ok (.iconst 1, 1) := d_4 rfl
set_option maxRecDepth 100000 in
theorem dL_law_300 : decode cL_law 300 = .ok (.iadd, 1) := d_96 rfl
set_option maxRecDepth 100000 in
theorem dL_law_301 : decode cL_law 301 = .ok (.iaload, 1) := d_46 rfl
set_option maxRecDepth 100000 in
theorem dL_law_302 : decode cL_law 302 = .ok (.aload_n 0, 1) := d_42 rfl
set_option maxRecDepth 100000 in
theorem dL_law_303 : decode cL_law 303 = .ok (.iload_n 3, 1) := d_29 rfl
set_option maxRecDepth 100000 in
theorem dL_law_304 : decode cL_law 304 = .ok (.iconst 2, 1) := d_5 rfl
set_option maxRecDepth 100000 in
theorem dL_law_305 : decode cL_law 305 = .ok (.iadd, 1) := d_96 rfl
set_option maxRecDepth 100000 in
theorem dL_law_306 : decode cL_law 306 = .ok (.iaload, 1) := d_46 rfl
set_option maxRecDepth 100000 in
theorem dL_law_307 : decode cL_law 307 = .ok (.aload_n 0, 1) := d_42 rfl
set_option maxRecDepth 100000 in
theorem dL_law_308 : decode cL_law 308 = .ok (.iload_n 3, 1) := d_29 rfl
set_option maxRecDepth 100000 in
theorem dL_law_309 : decode cL_law 309 = .ok (.iconst 3, 1) := d_6 rfl
set_option maxRecDepth 100000 in
theorem dL_law_310 : decode cL_law 310 = .ok (.iadd, 1) := d_96 rfl
set_option maxRecDepth 100000 in
theorem dL_law_311 : decode cL_law 311 = .ok (.iaload, 1) := d_46 rfl
set_option maxRecDepth 100000 in
theorem dL_law_312 : decode cL_law 312 = .ok (.aload_n 0, 1) := d_42 rfl
set_option maxRecDepth 100000 in
theorem dL_law_313 : decode cL_law 313 = .ok (.iload_n 3, 1) := d_29 rfl
set_option maxRecDepth 100000 in
theorem dL_law_314 : decode cL_law 314 = .ok (.iconst 4, 1) := d_7 rfl
set_option maxRecDepth 100000 in
theorem dL_law_315 : decode cL_law 315 = .ok (.iadd, 1) := d_96 rfl
set_option maxRecDepth 100000 in
theorem dL_law_316 : decode cL_law 316 = .ok (.iaload, 1) := d_46 rfl
set_option maxRecDepth 100000 in
theorem dL_law_317 : decode cL_law 317 = .ok (.aload_n 0, 1) := d_42 rfl
set_option maxRecDepth 100000 in
theorem dL_law_318 : decode cL_law 318 = .ok (.iload_n 3, 1) := d_29 rfl
set_option maxRecDepth 100000 in
theorem dL_law_319 : decode cL_law 319 = .ok (.iconst 5, 1) := d_8 rfl
set_option maxRecDepth 100000 in
theorem dL_law_320 : decode cL_law 320 = .ok (.iadd, 1) := d_96 rfl
set_option maxRecDepth 100000 in
theorem dL_law_321 : decode cL_law 321 = .ok (.iaload, 1) := d_46 rfl
set_option maxRecDepth 100000 in
theorem dL_law_322 : decode cL_law 322 = .ok (.invokevirtual 26, 3) := d_182 (b1 := 0) (b2 := 26) rfl rfl rfl
set_option maxRecDepth 100000 in
theorem dL_law_325 : decode cL_law 325 = .ok (.pop, 1) := d_87 rfl
set_option maxRecDepth 100000 in
theorem dL_law_326 : decode cL_law 326 = .ok (.goto 1608, 3) := d_167 (b1 := 6) (b2 := 72) rfl rfl rfl (by decide +kernel)
set_option maxRecDepth 100000 in
theorem dL_law_329 : decode cL_law 329 = .ok (.aload_n 1, 1) := d_43 rfl
set_option maxRecDepth 100000 in
theorem dL_law_330 : decode cL_law 330 = .ok (.aload_n 0, 1) := d_42 rfl
set_option maxRecDepth 100000 in
theorem dL_law_331 : decode cL_law 331 = .ok (.iload_n 3, 1) := d_29 rfl
set_option maxRecDepth 100000 in
theorem dL_law_332 : decode cL_law 332 = .ok (.iconst 1, 1) := d_4 rfl
set_option maxRecDepth 100000 in
theorem dL_law_333 : decode cL_law 333 = .ok (.iadd, 1) := d_96 rfl
set_option maxRecDepth 100000 in
theorem dL_law_334 : decode cL_law 334 = .ok (.iaload, 1) := d_46 rfl
set_option maxRecDepth 100000 in
theorem dL_law_335 : decode cL_law 335 = .ok (.invokevirtual 27, 3) := d_182 (b1 := 0) (b2 := 27) rfl rfl rfl
set_option maxRecDepth 100000 in
theorem dL_law_338 : decode cL_law 338 = .ok (.pop, 1) := d_87 rfl
set_option maxRecDepth 100000 in
theorem dL_law_339 : decode cL_law 339 = .ok (.aload_n 2, 1) := d_44 rfl
set_option maxRecDepth 100000 in
theorem dL_law_340 : decode cL_law 340 = .ok (.aload_n 0, 1) := d_42 rfl
set_option maxRecDepth 100000 in
theorem dL_law_341 : decode cL_law 341 = .ok (.iload_n 3, 1) := d_29 rfl
set_option maxRecDepth 100000 in
theorem dL_law_342 : decode cL_law 342 = .ok (.iconst 1, 1) := d_4 rfl
set_option maxRecDepth 100000 in
theorem dL_law_343 : decode cL_law 343 = .ok (.iadd, 1) := d_96 rfl
set_option maxRecDepth 100000 in
theorem dL_law_344 : decode cL_law 344 = .ok (.iaload, 1) := d_46 rfl
set_option maxRecDepth 100000 in
theorem dL_law_345 : decode cL_law 345 = .ok (.invokevirtual 31, 3) := d_182 (b1 := 0) (b2 := 31) rfl rfl rfl
set_option maxRecDepth 100000 in
theorem dL_law_348 : decode cL_law 348 = .ok (.pop, 1) := d_87 rfl
set_option maxRecDepth 100000 in
theorem dL_law_349 : decode cL_law 349 = .ok (.goto 1585, 3) := d_167 (b1 := 6) (b2 := 49) rfl rfl rfl (by decide +kernel)
set_option maxRecDepth 100000 in
theorem dL_law_352 : decode cL_law 352 = .ok (.aload_n 1, 1) := d_43 rfl
set_option maxRecDepth 100000 in
theorem dL_law_353 : decode cL_law 353 = .ok (.aload_n 0, 1) := d_42 rfl
set_option maxRecDepth 100000 in
theorem dL_law_354 : decode cL_law 354 = .ok (.iload_n 3, 1) := d_29 rfl
set_option maxRecDepth 100000 in
theorem dL_law_355 : decode cL_law 355 = .ok (.iconst 1, 1) := d_4 rfl
set_option maxRecDepth 100000 in
theorem dL_law_356 : decode cL_law 356 = .ok (.iadd, 1) := d_96 rfl
set_option maxRecDepth 100000 in
theorem dL_law_357 : decode cL_law 357 = .ok (.iaload, 1) := d_46 rfl
set_option maxRecDepth 100000 in
theorem dL_law_358 : decode cL_law 358 = .ok (.invokevirtual 32, 3) := d_182 (b1 := 0) (b2 := 32) rfl rfl rfl
set_option maxRecDepth 100000 in
theorem dL_law_361 : decode cL_law 361 = .ok (.pop, 1) := d_87 rfl
set_option maxRecDepth 100000 in
theorem dL_law_362 : decode cL_law 362 = .ok (.aload_n 2, 1) := d_44 rfl
set_option maxRecDepth 100000 in
theorem dL_law_363 : decode cL_law 363 = .ok (.aload_n 0, 1) := d_42 rfl
set_option maxRecDepth 100000 in
theorem dL_law_364 : decode cL_law 364 = .ok (.iload_n 3, 1) := d_29 rfl
set_option maxRecDepth 100000 in
theorem dL_law_365 : decode cL_law 365 = .ok (.iconst 1, 1) := d_4 rfl
set_option maxRecDepth 100000 in
theorem dL_law_366 : decode cL_law 366 = .ok (.iadd, 1) := d_96 rfl
set_option maxRecDepth 100000 in
theorem dL_law_367 : decode cL_law 367 = .ok (.iaload, 1) := d_46 rfl
set_option maxRecDepth 100000 in
theorem dL_law_368 : decode cL_law 368 = .ok (.invokevirtual 35, 3) := d_182 (b1 := 0) (b2 := 35) rfl rfl rfl
set_option maxRecDepth 100000 in
theorem dL_law_371 : decode cL_law 371 = .ok (.pop, 1) := d_87 rfl
set_option maxRecDepth 100000 in
theorem dL_law_372 : decode cL_law 372 = .ok (.goto 1562, 3) := d_167 (b1 := 6) (b2 := 26) rfl rfl rfl (by decide +kernel)
set_option maxRecDepth 100000 in
theorem dL_law_375 : decode cL_law 375 = .ok (.aload_n 1, 1) := d_43 rfl
set_option maxRecDepth 100000 in
theorem dL_law_376 : decode cL_law 376 = .ok (.aload_n 0, 1) := d_42 rfl
set_option maxRecDepth 100000 in
theorem dL_law_377 : decode cL_law 377 = .ok (.iload_n 3, 1) := d_29 rfl
set_option maxRecDepth 100000 in
theorem dL_law_378 : decode cL_law 378 = .ok (.iconst 1, 1) := d_4 rfl
set_option maxRecDepth 100000 in
theorem dL_law_379 : decode cL_law 379 = .ok (.iadd, 1) := d_96 rfl
set_option maxRecDepth 100000 in
theorem dL_law_380 : decode cL_law 380 = .ok (.iaload, 1) := d_46 rfl
set_option maxRecDepth 100000 in
theorem dL_law_381 : decode cL_law 381 = .ok (.invokevirtual 36, 3) := d_182 (b1 := 0) (b2 := 36) rfl rfl rfl
set_option maxRecDepth 100000 in
theorem dL_law_384 : decode cL_law 384 = .ok (.pop, 1) := d_87 rfl
set_option maxRecDepth 100000 in
theorem dL_law_385 : decode cL_law 385 = .ok (.aload_n 2, 1) := d_44 rfl
set_option maxRecDepth 100000 in
theorem dL_law_386 : decode cL_law 386 = .ok (.aload_n 0, 1) := d_42 rfl
set_option maxRecDepth 100000 in
theorem dL_law_387 : decode cL_law 387 = .ok (.iload_n 3, 1) := d_29 rfl
set_option maxRecDepth 100000 in
theorem dL_law_388 : decode cL_law 388 = .ok (.iconst 1, 1) := d_4 rfl
set_option maxRecDepth 100000 in
theorem dL_law_389 : decode cL_law 389 = .ok (.iadd, 1) := d_96 rfl
set_option maxRecDepth 100000 in
theorem dL_law_390 : decode cL_law 390 = .ok (.iaload, 1) := d_46 rfl
set_option maxRecDepth 100000 in
theorem dL_law_391 : decode cL_law 391 = .ok (.invokevirtual 39, 3) := d_182 (b1 := 0) (b2 := 39) rfl rfl rfl
set_option maxRecDepth 100000 in
theorem dL_law_394 : decode cL_law 394 = .ok (.pop, 1) := d_87 rfl
set_option maxRecDepth 100000 in
theorem dL_law_395 : decode cL_law 395 = .ok (.goto 1539, 3) := d_167 (b1 := 6) (b2 := 3) rfl rfl rfl (by decide +kernel)
set_option maxRecDepth 100000 in
theorem dL_law_398 : decode cL_law 398 = .ok (.aload_n 1, 1) := d_43 rfl
set_option maxRecDepth 100000 in
theorem dL_law_399 : decode cL_law 399 = .ok (.aload_n 0, 1) := d_42 rfl
set_option maxRecDepth 100000 in
theorem dL_law_400 : decode cL_law 400 = .ok (.iload_n 3, 1) := d_29 rfl
set_option maxRecDepth 100000 in
theorem dL_law_401 : decode cL_law 401 = .ok (.iconst 1, 1) := d_4 rfl
set_option maxRecDepth 100000 in
theorem dL_law_402 : decode cL_law 402 = .ok (.iadd, 1) := d_96 rfl
set_option maxRecDepth 100000 in
theorem dL_law_403 : decode cL_law 403 = .ok (.iaload, 1) := d_46 rfl
set_option maxRecDepth 100000 in
theorem dL_law_404 : decode cL_law 404 = .ok (.aload_n 0, 1) := d_42 rfl
set_option maxRecDepth 100000 in
theorem dL_law_405 : decode cL_law 405 = .ok (.iload_n 3, 1) := d_29 rfl
set_option maxRecDepth 100000 in
theorem dL_law_406 : decode cL_law 406 = .ok (.iconst 2, 1) := d_5 rfl
set_option maxRecDepth 100000 in
theorem dL_law_407 : decode cL_law 407 = .ok (.iadd, 1) := d_96 rfl
set_option maxRecDepth 100000 in
theorem dL_law_408 : decode cL_law 408 = .ok (.iaload, 1) := d_46 rfl
set_option maxRecDepth 100000 in
theorem dL_law_409 : decode cL_law 409 = .ok (.invokevirtual 40, 3) := d_182 (b1 := 0) (b2 := 40) rfl rfl rfl
set_option maxRecDepth 100000 in
theorem dL_law_412 : decode cL_law 412 = .ok (.pop, 1) := d_87 rfl
set_option maxRecDepth 100000 in
theorem dL_law_413 : decode cL_law 413 = .ok (.aload_n 2, 1) := d_44 rfl
set_option maxRecDepth 100000 in
theorem dL_law_414 : decode cL_law 414 = .ok (.aload_n 0, 1) := d_42 rfl
set_option maxRecDepth 100000 in
theorem dL_law_415 : decode cL_law 415 = .ok (.iload_n 3, 1) := d_29 rfl
set_option maxRecDepth 100000 in
theorem dL_law_416 : decode cL_law 416 = .ok (.iconst 1, 1) := d_4 rfl
set_option maxRecDepth 100000 in
theorem dL_law_417 : decode cL_law 417 = .ok (.iadd, 1) := d_96 rfl
set_option maxRecDepth 100000 in
theorem dL_law_418 : decode cL_law 418 = .ok (.iaload, 1) := d_46 rfl
set_option maxRecDepth 100000 in
theorem dL_law_419 : decode cL_law 419 = .ok (.aload_n 0, 1) := d_42 rfl
set_option maxRecDepth 100000 in
theorem dL_law_420 : decode cL_law 420 = .ok (.iload_n 3, 1) := d_29 rfl
set_option maxRecDepth 100000 in
theorem dL_law_421 : decode cL_law 421 = .ok (.iconst 2, 1) := d_5 rfl
set_option maxRecDepth 100000 in
theorem dL_law_422 : decode cL_law 422 = .ok (.iadd, 1) := d_96 rfl
set_option maxRecDepth 100000 in
theorem dL_law_423 : decode cL_law 423 = .ok (.iaload, 1) := d_46 rfl
set_option maxRecDepth 100000 in
theorem dL_law_424 : decode cL_law 424 = .ok (.invokevirtual 44, 3) := d_182 (b1 := 0) (b2 := 44) rfl rfl rfl
set_option maxRecDepth 100000 in
theorem dL_law_427 : decode cL_law 427 = .ok (.pop, 1) := d_87 rfl
set_option maxRecDepth 100000 in
theorem dL_law_428 : decode cL_law 428 = .ok (.goto 1506, 3) := d_167 (b1 := 5) (b2 := 226) rfl rfl rfl (by decide +kernel)
set_option maxRecDepth 100000 in
theorem dL_law_431 : decode cL_law 431 = .ok (.aload_n 1, 1) := d_43 rfl
set_option maxRecDepth 100000 in
theorem dL_law_432 : decode cL_law 432 = .ok (.aload_n 0, 1) := d_42 rfl
set_option maxRecDepth 100000 in
theorem dL_law_433 : decode cL_law 433 = .ok (.iload_n 3, 1) := d_29 rfl
set_option maxRecDepth 100000 in
theorem dL_law_434 : decode cL_law 434 = .ok (.iconst 1, 1) := d_4 rfl
set_option maxRecDepth 100000 in
theorem dL_law_435 : decode cL_law 435 = .ok (.iadd, 1) := d_96 rfl
set_option maxRecDepth 100000 in
theorem dL_law_436 : decode cL_law 436 = .ok (.iaload, 1) := d_46 rfl
set_option maxRecDepth 100000 in
theorem dL_law_437 : decode cL_law 437 = .ok (.aload_n 0, 1) := d_42 rfl
set_option maxRecDepth 100000 in
theorem dL_law_438 : decode cL_law 438 = .ok (.iload_n 3, 1) := d_29 rfl
set_option maxRecDepth 100000 in
theorem dL_law_439 : decode cL_law 439 = .ok (.iconst 2, 1) := d_5 rfl
set_option maxRecDepth 100000 in
theorem dL_law_440 : decode cL_law 440 = .ok (.iadd, 1) := d_96 rfl
set_option maxRecDepth 100000 in
theorem dL_law_441 : decode cL_law 441 = .ok (.iaload, 1) := d_46 rfl
set_option maxRecDepth 100000 in
theorem dL_law_442 : decode cL_law 442 = .ok (.invokevirtual 45, 3) := d_182 (b1 := 0) (b2 := 45) rfl rfl rfl
set_option maxRecDepth 100000 in
theorem dL_law_445 : decode cL_law 445 = .ok (.pop, 1) := d_87 rfl
set_option maxRecDepth 100000 in
theorem dL_law_446 : decode cL_law 446 = .ok (.aload_n 2, 1) := d_44 rfl
set_option maxRecDepth 100000 in
theorem dL_law_447 : decode cL_law 447 = .ok (.aload_n 0, 1) := d_42 rfl
set_option maxRecDepth 100000 in
theorem dL_law_448 : decode cL_law 448 = .ok (.iload_n 3, 1) := d_29 rfl
set_option maxRecDepth 100000 in
theorem dL_law_449 : decode cL_law 449 = .ok (.iconst 1, 1) := d_4 rfl
set_option maxRecDepth 100000 in
theorem dL_law_450 : decode cL_law 450 = .ok (.iadd, 1) := d_96 rfl
set_option maxRecDepth 100000 in
theorem dL_law_451 : decode cL_law 451 = .ok (.iaload, 1) := d_46 rfl
set_option maxRecDepth 100000 in
theorem dL_law_452 : decode cL_law 452 = .ok (.aload_n 0, 1) := d_42 rfl
set_option maxRecDepth 100000 in
theorem dL_law_453 : decode cL_law 453 = .ok (.iload_n 3, 1) := d_29 rfl
set_option maxRecDepth 100000 in
theorem dL_law_454 : decode cL_law 454 = .ok (.iconst 2, 1) := d_5 rfl
set_option maxRecDepth 100000 in
theorem dL_law_455 : decode cL_law 455 = .ok (.iadd, 1) := d_96 rfl
set_option maxRecDepth 100000 in
theorem dL_law_456 : decode cL_law 456 = .ok (.iaload, 1) := d_46 rfl
set_option maxRecDepth 100000 in
theorem dL_law_457 : decode cL_law 457 = .ok (.invokevirtual 49, 3) := d_182 (b1 := 0) (b2 := 49) rfl rfl rfl
set_option maxRecDepth 100000 in
theorem dL_law_460 : decode cL_law 460 = .ok (.pop, 1) := d_87 rfl
set_option maxRecDepth 100000 in
theorem dL_law_461 : decode cL_law 461 = .ok (.goto 1473, 3) := d_167 (b1 := 5) (b2 := 193) rfl rfl rfl (by decide +kernel)
set_option maxRecDepth 100000 in
theorem dL_law_464 : decode cL_law 464 = .ok (.aload_n 1, 1) := d_43 rfl
set_option maxRecDepth 100000 in
theorem dL_law_465 : decode cL_law 465 = .ok (.aload_n 0, 1) := d_42 rfl
set_option maxRecDepth 100000 in
theorem dL_law_466 : decode cL_law 466 = .ok (.iload_n 3, 1) := d_29 rfl
set_option maxRecDepth 100000 in
theorem dL_law_467 : decode cL_law 467 = .ok (.iconst 1, 1) := d_4 rfl
set_option maxRecDepth 100000 in
theorem dL_law_468 : decode cL_law 468 = .ok (.iadd, 1) := d_96 rfl
set_option maxRecDepth 100000 in
theorem dL_law_469 : decode cL_law 469 = .ok (.iaload, 1) := d_46 rfl
set_option maxRecDepth 100000 in
theorem dL_law_470 : decode cL_law 470 = .ok (.invokevirtual 50, 3) := d_182 (b1 := 0) (b2 := 50) rfl rfl rfl
set_option maxRecDepth 100000 in
theorem dL_law_473 : decode cL_law 473 = .ok (.pop, 1) := d_87 rfl
set_option maxRecDepth 100000 in
theorem dL_law_474 : decode cL_law 474 = .ok (.aload_n 2, 1) := d_44 rfl
set_option maxRecDepth 100000 in
theorem dL_law_475 : decode cL_law 475 = .ok (.aload_n 0, 1) := d_42 rfl
set_option maxRecDepth 100000 in
theorem dL_law_476 : decode cL_law 476 = .ok (.iload_n 3, 1) := d_29 rfl
set_option maxRecDepth 100000 in
theorem dL_law_477 : decode cL_law 477 = .ok (.iconst 1, 1) := d_4 rfl
set_option maxRecDepth 100000 in
theorem dL_law_478 : decode cL_law 478 = .ok (.iadd, 1) := d_96 rfl
set_option maxRecDepth 100000 in
theorem dL_law_479 : decode cL_law 479 = .ok (.iaload, 1) := d_46 rfl
set_option maxRecDepth 100000 in
theorem dL_law_480 : decode cL_law 480 = .ok (.invokevirtual 53, 3) := d_182 (b1 := 0) (b2 := 53) rfl rfl rfl
set_option maxRecDepth 100000 in
theorem dL_law_483 : decode cL_law 483 = .ok (.pop, 1) := d_87 rfl
set_option maxRecDepth 100000 in
theorem dL_law_484 : decode cL_law 484 = .ok (.goto 1450, 3) := d_167 (b1 := 5) (b2 := 170) rfl rfl rfl (by decide +kernel)
set_option maxRecDepth 100000 in
theorem dL_law_487 : decode cL_law 487 = .ok (.aload_n 1, 1) := d_43 rfl
set_option maxRecDepth 100000 in
theorem dL_law_488 : decode cL_law 488 = .ok (.aload_n 0, 1) := d_42 rfl
set_option maxRecDepth 100000 in
theorem dL_law_489 : decode cL_law 489 = .ok (.iload_n 3, 1) := d_29 rfl
set_option maxRecDepth 100000 in
theorem dL_law_490 : decode cL_law 490 = .ok (.iconst 1, 1) := d_4 rfl
set_option maxRecDepth 100000 in
theorem dL_law_491 : decode cL_law 491 = .ok (.iadd, 1) := d_96 rfl
set_option maxRecDepth 100000 in
theorem dL_law_492 : decode cL_law 492 = .ok (.iaload, 1) := d_46 rfl
set_option maxRecDepth 100000 in
theorem dL_law_493 : decode cL_law 493 = .ok (.aload_n 0, 1) := d_42 rfl
set_option maxRecDepth 100000 in
theorem dL_law_494 : decode cL_law 494 = .ok (.iload_n 3, 1) := d_29 rfl
set_option maxRecDepth 100000 in
theorem dL_law_495 : decode cL_law 495 = .ok (.iconst 2, 1) := d_5 rfl
set_option maxRecDepth 100000 in
theorem dL_law_496 : decode cL_law 496 = .ok (.iadd, 1) := d_96 rfl
set_option maxRecDepth 100000 in
theorem dL_law_497 : decode cL_law 497 = .ok (.iaload, 1) := d_46 rfl
set_option maxRecDepth 100000 in
theorem dL_law_498 : decode cL_law 498 = .ok (.aload_n 0, 1) := d_42 rfl
set_option maxRecDepth 100000 in
theorem dL_law_499 : decode cL_law 499 = .ok (.iload_n 3, 1) := d_29 rfl
set_option maxRecDepth 100000 in
theorem dL_law_500 : decode cL_law 500 = .ok (.iconst 3, 1) := d_6 rfl
set_option maxRecDepth 100000 in
theorem dL_law_501 : decode cL_law 501 = .ok (.iadd, 1) := d_96 rfl
set_option maxRecDepth 100000 in
theorem dL_law_502 : decode cL_law 502 = .ok (.iaload, 1) := d_46 rfl
set_option maxRecDepth 100000 in
theorem dL_law_503 : decode cL_law 503 = .ok (.aload_n 0, 1) := d_42 rfl
set_option maxRecDepth 100000 in
theorem dL_law_504 : decode cL_law 504 = .ok (.iload_n 3, 1) := d_29 rfl
set_option maxRecDepth 100000 in
theorem dL_law_505 : decode cL_law 505 = .ok (.iconst 4, 1) := d_7 rfl
set_option maxRecDepth 100000 in
theorem dL_law_506 : decode cL_law 506 = .ok (.iadd, 1) := d_96 rfl
set_option maxRecDepth 100000 in
theorem dL_law_507 : decode cL_law 507 = .ok (.iaload, 1) := d_46 rfl
set_option maxRecDepth 100000 in
theorem dL_law_508 : decode cL_law 508 = .ok (.aload_n 0, 1) := d_42 rfl
set_option maxRecDepth 100000 in
theorem dL_law_509 : decode cL_law 509 = .ok (.iload_n 3, 1) := d_29 rfl
set_option maxRecDepth 100000 in
theorem dL_law_510 : decode cL_law 510 = .ok (.iconst 5, 1) := d_8 rfl
set_option maxRecDepth 100000 in
theorem dL_law_511 : decode cL_law 511 = .ok (.iadd, 1) := d_96 rfl
set_option maxRecDepth 100000 in
theorem dL_law_512 : decode cL_law 512 = .ok (.iaload, 1) := d_46 rfl
set_option maxRecDepth 100000 in
theorem dL_law_513 : decode cL_law 513 = .ok (.invokevirtual 54, 3) := d_182 (b1 := 0) (b2 := 54) rfl rfl rfl
set_option maxRecDepth 100000 in
theorem dL_law_516 : decode cL_law 516 = .ok (.pop, 1) := d_87 rfl
set_option maxRecDepth 100000 in
theorem dL_law_517 : decode cL_law 517 = .ok (.aload_n 2, 1) := d_44 rfl
set_option maxRecDepth 100000 in
theorem dL_law_518 : decode cL_law 518 = .ok (.aload_n 0, 1) := d_42 rfl
set_option maxRecDepth 100000 in
theorem dL_law_519 : decode cL_law 519 = .ok (.iload_n 3, 1) := d_29 rfl
set_option maxRecDepth 100000 in
theorem dL_law_520 : decode cL_law 520 = .ok (.iconst 1, 1) := d_4 rfl
set_option maxRecDepth 100000 in
theorem dL_law_521 : decode cL_law 521 = .ok (.iadd, 1) := d_96 rfl
set_option maxRecDepth 100000 in
theorem dL_law_522 : decode cL_law 522 = .ok (.iaload, 1) := d_46 rfl
set_option maxRecDepth 100000 in
theorem dL_law_523 : decode cL_law 523 = .ok (.aload_n 0, 1) := d_42 rfl
set_option maxRecDepth 100000 in
theorem dL_law_524 : decode cL_law 524 = .ok (.iload_n 3, 1) := d_29 rfl
set_option maxRecDepth 100000 in
theorem dL_law_525 : decode cL_law 525 = .ok (.iconst 2, 1) := d_5 rfl
set_option maxRecDepth 100000 in
theorem dL_law_526 : decode cL_law 526 = .ok (.iadd, 1) := d_96 rfl
set_option maxRecDepth 100000 in
theorem dL_law_527 : decode cL_law 527 = .ok (.iaload, 1) := d_46 rfl
set_option maxRecDepth 100000 in
theorem dL_law_528 : decode cL_law 528 = .ok (.aload_n 0, 1) := d_42 rfl
set_option maxRecDepth 100000 in
theorem dL_law_529 : decode cL_law 529 = .ok (.iload_n 3, 1) := d_29 rfl
set_option maxRecDepth 100000 in
theorem dL_law_530 : decode cL_law 530 = .ok (.iconst 3, 1) := d_6 rfl
set_option maxRecDepth 100000 in
theorem dL_law_531 : decode cL_law 531 = .ok (.iadd, 1) := d_96 rfl
set_option maxRecDepth 100000 in
theorem dL_law_532 : decode cL_law 532 = .ok (.iaload, 1) := d_46 rfl
set_option maxRecDepth 100000 in
theorem dL_law_533 : decode cL_law 533 = .ok (.aload_n 0, 1) := d_42 rfl
set_option maxRecDepth 100000 in
theorem dL_law_534 : decode cL_law 534 = .ok (.iload_n 3, 1) := d_29 rfl
set_option maxRecDepth 100000 in
theorem dL_law_535 : decode cL_law 535 = .ok (.iconst 4, 1) := d_7 rfl
set_option maxRecDepth 100000 in
theorem dL_law_536 : decode cL_law 536 = .ok (.iadd, 1) := d_96 rfl
set_option maxRecDepth 100000 in
theorem dL_law_537 : decode cL_law 537 = .ok (.iaload, 1) := d_46 rfl
set_option maxRecDepth 100000 in
theorem dL_law_538 : decode cL_law 538 = .ok (.aload_n 0, 1) := d_42 rfl
set_option maxRecDepth 100000 in
theorem dL_law_539 : decode cL_law 539 = .ok (.iload_n 3, 1) := d_29 rfl
set_option maxRecDepth 100000 in
theorem dL_law_540 : decode cL_law 540 = .ok (.iconst 5, 1) := d_8 rfl
set_option maxRecDepth 100000 in
theorem dL_law_541 : decode cL_law 541 = .ok (.iadd, 1) := d_96 rfl
set_option maxRecDepth 100000 in
theorem dL_law_542 : decode cL_law 542 = .ok (.iaload, 1) := d_46 rfl
set_option maxRecDepth 100000 in
theorem dL_law_543 : decode cL_law 543 = .ok (.invokevirtual 58, 3) := d_182 (b1 := 0) (b2 := 58) rfl rfl rfl
set_option maxRecDepth 100000 in
theorem dL_law_546 : decode cL_law 546 = .ok (.pop, 1) := d_87 rfl
set_option maxRecDepth 100000 in
theorem dL_law_547 : decode cL_law 547 = .ok (.goto 1387, 3) := d_167 (b1 := 5) (b2 := 107) rfl rfl rfl (by decide +kernel)
set_option maxRecDepth 100000 in
theorem dL_law_550 : decode cL_law 550 = .ok (.aload_n 1, 1) := d_43 rfl
set_option maxRecDepth 100000 in
theorem dL_law_551 : decode cL_law 551 = .ok (.aload_n 0, 1) := d_42 rfl
set_option maxRecDepth 100000 in
theorem dL_law_552 : decode cL_law 552 = .ok (.iload_n 3, 1) := d_29 rfl
set_option maxRecDepth 100000 in
theorem dL_law_553 : decode cL_law 553 = .ok (.iconst 1, 1) := d_4 rfl
set_option maxRecDepth 100000 in
theorem dL_law_554 : decode cL_law 554 = .ok (.iadd, 1) := d_96 rfl
set_option maxRecDepth 100000 in
theorem dL_law_555 : decode cL_law 555 = .ok (.iaload, 1) := d_46 rfl
set_option maxRecDepth 100000 in
theorem dL_law_556 : decode cL_law 556 = .ok (.aload_n 0, 1) := d_42 rfl
set_option maxRecDepth 100000 in
theorem dL_law_557 : decode cL_law 557 = .ok (.iload_n 3, 1) := d_29 rfl
set_option maxRecDepth 100000 in
theorem dL_law_558 : decode cL_law 558 = .ok (.iconst 2, 1) := d_5 rfl
set_option maxRecDepth 100000 in
theorem dL_law_559 : decode cL_law 559 = .ok (.iadd, 1) := d_96 rfl
set_option maxRecDepth 100000 in
theorem dL_law_560 : decode cL_law 560 = .ok (.iaload, 1) := d_46 rfl
set_option maxRecDepth 100000 in
theorem dL_law_561 : decode cL_law 561 = .ok (.aload_n 0, 1) := d_42 rfl
set_option maxRecDepth 100000 in
theorem dL_law_562 : decode cL_law 562 = .ok (.iload_n 3, 1) := d_29 rfl
set_option maxRecDepth 100000 in
theorem dL_law_563 : decode cL_law 563 = .ok (.iconst 3, 1) := d_6 rfl
set_option maxRecDepth 100000 in
theorem dL_law_564 : decode cL_law 564 = .ok (.iadd, 1) := d_96 rfl
set_option maxRecDepth 100000 in
theorem dL_law_565 : decode cL_law 565 = .ok (.iaload, 1) := d_46 rfl
set_option maxRecDepth 100000 in
theorem dL_law_566 : decode cL_law 566 = .ok (.invokevirtual 59, 3) := d_182 (b1 := 0) (b2 := 59) rfl rfl rfl
set_option maxRecDepth 100000 in
theorem dL_law_569 : decode cL_law 569 = .ok (.pop, 1) := d_87 rfl
set_option maxRecDepth 100000 in
theorem dL_law_570 : decode cL_law 570 = .ok (.aload_n 2, 1) := d_44 rfl
set_option maxRecDepth 100000 in
theorem dL_law_571 : decode cL_law 571 = .ok (.aload_n 0, 1) := d_42 rfl
set_option maxRecDepth 100000 in
theorem dL_law_572 : decode cL_law 572 = .ok (.iload_n 3, 1) := d_29 rfl
set_option maxRecDepth 100000 in
theorem dL_law_573 : decode cL_law 573 = .ok (.iconst 1, 1) := d_4 rfl
set_option maxRecDepth 100000 in
theorem dL_law_574 : decode cL_law 574 = .ok (.iadd, 1) := d_96 rfl
set_option maxRecDepth 100000 in
theorem dL_law_575 : decode cL_law 575 = .ok (.iaload, 1) := d_46 rfl
set_option maxRecDepth 100000 in
theorem dL_law_576 : decode cL_law 576 = .ok (.aload_n 0, 1) := d_42 rfl
set_option maxRecDepth 100000 in
theorem dL_law_577 : decode cL_law 577 = .ok (.iload_n 3, 1) := d_29 rfl
set_option maxRecDepth 100000 in
theorem dL_law_578 : decode cL_law 578 = .ok (.iconst 2, 1) := d_5 rfl
set_option maxRecDepth 100000 in
theorem dL_law_579 : decode cL_law 579 = .ok (.iadd, 1) := d_96 rfl
set_option maxRecDepth 100000 in
theorem dL_law_580 : decode cL_law 580 = .ok (.iaload, 1) := d_46 rfl
set_option maxRecDepth 100000 in
theorem dL_law_581 : decode cL_law 581 = .ok (.aload_n 0, 1) := d_42 rfl
set_option maxRecDepth 100000 in
theorem dL_law_582 : decode cL_law 582 = .ok (.iload_n 3, 1) := d_29 rfl
set_option maxRecDepth 100000 in
theorem dL_law_583 : decode cL_law 583 = .ok (.iconst 3, 1) := d_6 rfl
set_option maxRecDepth 100000 in
theorem dL_law_584 : decode cL_law 584 = .ok (.iadd, 1) := d_96 rfl
set_option maxRecDepth 100000 in
theorem dL_law_585 : decode cL_law 585 = .ok (.iaload, 1) := d_46 rfl
set_option maxRecDepth 100000 in
theorem dL_law_586 : decode cL_law 586 = .ok (.invokevirtual 63, 3) := d_182 (b1 := 0) (b2 := 63) rfl rfl rfl
set_option maxRecDepth 100000 in
theorem dL_law_589 : decode cL_law 589 = .ok (.pop, 1) := d_87 rfl
set_option maxRecDepth 100000 in
theorem dL_law_590 : decode cL_law 590 = .ok (.goto 1344, 3) := d_167 (b1 := 5) (b2 := 64) rfl rfl rfl (by decide +kernel)
set_option maxRecDepth 100000 in
theorem dL_law_593 : decode cL_law 593 = .ok (.aload_n 1, 1) := d_43 rfl
set_option maxRecDepth 100000 in
theorem dL_law_594 : decode cL_law 594 = .ok (.aload_n 0, 1) := d_42 rfl
set_option maxRecDepth 100000 in
theorem dL_law_595 : decode cL_law 595 = .ok (.iload_n 3, 1) := d_29 rfl
set_option maxRecDepth 100000 in
theorem dL_law_596 : decode cL_law 596 = .ok (.iconst 1, 1) := d_4 rfl
set_option maxRecDepth 100000 in
theorem dL_law_597 : decode cL_law 597 = .ok (.iadd, 1) := d_96 rfl
set_option maxRecDepth 100000 in
theorem dL_law_598 : decode cL_law 598 = .ok (.iaload, 1) := d_46 rfl
set_option maxRecDepth 100000 in
theorem dL_law_599 : decode cL_law 599 = .ok (.aload_n 0, 1) := d_42 rfl
set_option maxRecDepth 100000 in
theorem dL_law_600 : decode cL_law 600 = .ok (.iload_n 3, 1) := d_29 rfl
set_option maxRecDepth 100000 in
theorem dL_law_601 : decode cL_law 601 = .ok (.iconst 2, 1) := d_5 rfl
set_option maxRecDepth 100000 in
theorem dL_law_602 : decode cL_law 602 = .ok (.iadd, 1) := d_96 rfl
set_option maxRecDepth 100000 in
theorem dL_law_603 : decode cL_law 603 = .ok (.iaload, 1) := d_46 rfl
set_option maxRecDepth 100000 in
theorem dL_law_604 : decode cL_law 604 = .ok (.aload_n 0, 1) := d_42 rfl
set_option maxRecDepth 100000 in
theorem dL_law_605 : decode cL_law 605 = .ok (.iload_n 3, 1) := d_29 rfl
set_option maxRecDepth 100000 in
theorem dL_law_606 : decode cL_law 606 = .ok (.iconst 3, 1) := d_6 rfl
set_option maxRecDepth 100000 in
theorem dL_law_607 : decode cL_law 607 = .ok (.iadd, 1) := d_96 rfl
set_option maxRecDepth 100000 in
theorem dL_law_608 : decode cL_law 608 = .ok (.iaload, 1) := d_46 rfl
set_option maxRecDepth 100000 in
theorem dL_law_609 : decode cL_law 609 = .ok (.aload_n 0, 1) := d_42 rfl
set_option maxRecDepth 100000 in
theorem dL_law_610 : decode cL_law 610 = .ok (.iload_n 3, 1) := d_29 rfl
set_option maxRecDepth 100000 in
theorem dL_law_611 : decode cL_law 611 = .ok (.iconst 4, 1) := d_7 rfl
set_option maxRecDepth 100000 in
theorem dL_law_612 : decode cL_law 612 = .ok (.iadd, 1) := d_96 rfl
set_option maxRecDepth 100000 in
theorem dL_law_613 : decode cL_law 613 = .ok (.iaload, 1) := d_46 rfl
set_option maxRecDepth 100000 in
theorem dL_law_614 : decode cL_law 614 = .ok (.invokevirtual 64, 3) := d_182 (b1 := 0) (b2 := 64) rfl rfl rfl
set_option maxRecDepth 100000 in
theorem dL_law_617 : decode cL_law 617 = .ok (.pop, 1) := d_87 rfl
set_option maxRecDepth 100000 in
theorem dL_law_618 : decode cL_law 618 = .ok (.aload_n 2, 1) := d_44 rfl
set_option maxRecDepth 100000 in
theorem dL_law_619 : decode cL_law 619 = .ok (.aload_n 0, 1) := d_42 rfl
set_option maxRecDepth 100000 in
theorem dL_law_620 : decode cL_law 620 = .ok (.iload_n 3, 1) := d_29 rfl
set_option maxRecDepth 100000 in
theorem dL_law_621 : decode cL_law 621 = .ok (.iconst 1, 1) := d_4 rfl
set_option maxRecDepth 100000 in
theorem dL_law_622 : decode cL_law 622 = .ok (.iadd, 1) := d_96 rfl
set_option maxRecDepth 100000 in
theorem dL_law_623 : decode cL_law 623 = .ok (.iaload, 1) := d_46 rfl
set_option maxRecDepth 100000 in
theorem dL_law_624 : decode cL_law 624 = .ok (.aload_n 0, 1) := d_42 rfl
set_option maxRecDepth 100000 in
theorem dL_law_625 : decode cL_law 625 = .ok (.iload_n 3, 1) := d_29 rfl
set_option maxRecDepth 100000 in
theorem dL_law_626 : decode cL_law 626 = .ok (.iconst 2, 1) := d_5 rfl
set_option maxRecDepth 100000 in
theorem dL_law_627 : decode cL_law 627 = .ok (.iadd, 1) := d_96 rfl
set_option maxRecDepth 100000 in
theorem dL_law_628 : decode cL_law 628 = .ok (.iaload, 1) := d_46 rfl
set_option maxRecDepth 100000 in
theorem dL_law_629 : decode cL_law 629 = .ok (.aload_n 0, 1) := d_42 rfl
set_option maxRecDepth 100000 in
theorem dL_law_630 : decode cL_law 630 = .ok (.iload_n 3, 1) := d_29 rfl
set_option maxRecDepth 100000 in
theorem dL_law_631 : decode cL_law 631 = .ok (.iconst 3, 1) := d_6 rfl
set_option maxRecDepth 100000 in
theorem dL_law_632 : decode cL_law 632 = .ok (.iadd, 1) := d_96 rfl
set_option maxRecDepth 100000 in
theorem dL_law_633 : decode cL_law 633 = .ok (.iaload, 1) := d_46 rfl
set_option maxRecDepth 100000 in
theorem dL_law_634 : decode cL_law 634 = .ok (.aload_n 0, 1) := d_42 rfl
set_option maxRecDepth 100000 in
theorem dL_law_635 : decode cL_law 635 = .ok (.iload_n 3, 1) := d_29 rfl
set_option maxRecDepth 100000 in
theorem dL_law_636 : decode cL_law 636 = .ok (.iconst 4, 1) := d_7 rfl
set_option maxRecDepth 100000 in
theorem dL_law_637 : decode cL_law 637 = .ok (.iadd, 1) := d_96 rfl
set_option maxRecDepth 100000 in
theorem dL_law_638 : decode cL_law 638 = .ok (.iaload, 1) := d_46 rfl
set_option maxRecDepth 100000 in
theorem dL_law_639 : decode cL_law 639 = .ok (.invokevirtual 68, 3) := d_182 (b1 := 0) (b2 := 68) rfl rfl rfl
set_option maxRecDepth 100000 in
theorem dL_law_642 : decode cL_law 642 = .ok (.pop, 1) := d_87 rfl
set_option maxRecDepth 100000 in
theorem dL_law_643 : decode cL_law 643 = .ok (.goto 1291, 3) := d_167 (b1 := 5) (b2 := 11) rfl rfl rfl (by decide +kernel)
set_option maxRecDepth 100000 in
theorem dL_law_646 : decode cL_law 646 = .ok (.aload_n 1, 1) := d_43 rfl
set_option maxRecDepth 100000 in
theorem dL_law_647 : decode cL_law 647 = .ok (.aload_n 0, 1) := d_42 rfl
set_option maxRecDepth 100000 in
theorem dL_law_648 : decode cL_law 648 = .ok (.iload_n 3, 1) := d_29 rfl
set_option maxRecDepth 100000 in
theorem dL_law_649 : decode cL_law 649 = .ok (.iconst 1, 1) := d_4 rfl
set_option maxRecDepth 100000 in
theorem dL_law_650 : decode cL_law 650 = .ok (.iadd, 1) := d_96 rfl
set_option maxRecDepth 100000 in
theorem dL_law_651 : decode cL_law 651 = .ok (.iaload, 1) := d_46 rfl
set_option maxRecDepth 100000 in
theorem dL_law_652 : decode cL_law 652 = .ok (.invokevirtual 69, 3) := d_182 (b1 := 0) (b2 := 69) rfl rfl rfl
set_option maxRecDepth 100000 in
theorem dL_law_655 : decode cL_law 655 = .ok (.pop, 1) := d_87 rfl
set_option maxRecDepth 100000 in
theorem dL_law_656 : decode cL_law 656 = .ok (.aload_n 2, 1) := d_44 rfl
set_option maxRecDepth 100000 in
theorem dL_law_657 : decode cL_law 657 = .ok (.aload_n 0, 1) := d_42 rfl
set_option maxRecDepth 100000 in
theorem dL_law_658 : decode cL_law 658 = .ok (.iload_n 3, 1) := d_29 rfl
set_option maxRecDepth 100000 in
theorem dL_law_659 : decode cL_law 659 = .ok (.iconst 1, 1) := d_4 rfl
set_option maxRecDepth 100000 in
theorem dL_law_660 : decode cL_law 660 = .ok (.iadd, 1) := d_96 rfl
set_option maxRecDepth 100000 in
theorem dL_law_661 : decode cL_law 661 = .ok (.iaload, 1) := d_46 rfl
set_option maxRecDepth 100000 in
theorem dL_law_662 : decode cL_law 662 = .ok (.invokevirtual 72, 3) := d_182 (b1 := 0) (b2 := 72) rfl rfl rfl
set_option maxRecDepth 100000 in
theorem dL_law_665 : decode cL_law 665 = .ok (.pop, 1) := d_87 rfl
set_option maxRecDepth 100000 in
theorem dL_law_666 : decode cL_law 666 = .ok (.goto 1268, 3) := d_167 (b1 := 4) (b2 := 244) rfl rfl rfl (by decide +kernel)
set_option maxRecDepth 100000 in
theorem dL_law_669 : decode cL_law 669 = .ok (.aload_n 1, 1) := d_43 rfl
set_option maxRecDepth 100000 in
theorem dL_law_670 : decode cL_law 670 = .ok (.aload_n 0, 1) := d_42 rfl
set_option maxRecDepth 100000 in
theorem dL_law_671 : decode cL_law 671 = .ok (.iload_n 3, 1) := d_29 rfl
set_option maxRecDepth 100000 in
theorem dL_law_672 : decode cL_law 672 = .ok (.iconst 1, 1) := d_4 rfl
set_option maxRecDepth 100000 in
theorem dL_law_673 : decode cL_law 673 = .ok (.iadd, 1) := d_96 rfl
set_option maxRecDepth 100000 in
theorem dL_law_674 : decode cL_law 674 = .ok (.iaload, 1) := d_46 rfl
set_option maxRecDepth 100000 in
theorem dL_law_675 : decode cL_law 675 = .ok (.invokevirtual 73, 3) := d_182 (b1 := 0) (b2 := 73) rfl rfl rfl
set_option maxRecDepth 100000 in
theorem dL_law_678 : decode cL_law 678 = .ok (.pop, 1) := d_87 rfl
set_option maxRecDepth 100000 in
theorem dL_law_679 : decode cL_law 679 = .ok (.aload_n 2, 1) := d_44 rfl
set_option maxRecDepth 100000 in
theorem dL_law_680 : decode cL_law 680 = .ok (.aload_n 0, 1) := d_42 rfl
set_option maxRecDepth 100000 in
theorem dL_law_681 : decode cL_law 681 = .ok (.iload_n 3, 1) := d_29 rfl
set_option maxRecDepth 100000 in
theorem dL_law_682 : decode cL_law 682 = .ok (.iconst 1, 1) := d_4 rfl
set_option maxRecDepth 100000 in
theorem dL_law_683 : decode cL_law 683 = .ok (.iadd, 1) := d_96 rfl
set_option maxRecDepth 100000 in
theorem dL_law_684 : decode cL_law 684 = .ok (.iaload, 1) := d_46 rfl
set_option maxRecDepth 100000 in
theorem dL_law_685 : decode cL_law 685 = .ok (.invokevirtual 76, 3) := d_182 (b1 := 0) (b2 := 76) rfl rfl rfl
set_option maxRecDepth 100000 in
theorem dL_law_688 : decode cL_law 688 = .ok (.pop, 1) := d_87 rfl
set_option maxRecDepth 100000 in
theorem dL_law_689 : decode cL_law 689 = .ok (.goto 1245, 3) := d_167 (b1 := 4) (b2 := 221) rfl rfl rfl (by decide +kernel)
set_option maxRecDepth 100000 in
theorem dL_law_692 : decode cL_law 692 = .ok (.aload_n 1, 1) := d_43 rfl
set_option maxRecDepth 100000 in
theorem dL_law_693 : decode cL_law 693 = .ok (.aload_n 0, 1) := d_42 rfl
set_option maxRecDepth 100000 in
theorem dL_law_694 : decode cL_law 694 = .ok (.iload_n 3, 1) := d_29 rfl
set_option maxRecDepth 100000 in
theorem dL_law_695 : decode cL_law 695 = .ok (.iconst 1, 1) := d_4 rfl
set_option maxRecDepth 100000 in
theorem dL_law_696 : decode cL_law 696 = .ok (.iadd, 1) := d_96 rfl
set_option maxRecDepth 100000 in
theorem dL_law_697 : decode cL_law 697 = .ok (.iaload, 1) := d_46 rfl
set_option maxRecDepth 100000 in
theorem dL_law_698 : decode cL_law 698 = .ok (.aload_n 0, 1) := d_42 rfl
set_option maxRecDepth 100000 in
theorem dL_law_699 : decode cL_law 699 = .ok (.iload_n 3, 1) := d_29 rfl
set_option maxRecDepth 100000 in
theorem dL_law_700 : decode cL_law 700 = .ok (.iconst 2, 1) := d_5 rfl
set_option maxRecDepth 100000 in
theorem dL_law_701 : decode cL_law 701 = .ok (.iadd, 1) := d_96 rfl
set_option maxRecDepth 100000 in
theorem dL_law_702 : decode cL_law 702 = .ok (.iaload, 1) := d_46 rfl
set_option maxRecDepth 100000 in
theorem dL_law_703 : decode cL_law 703 = .ok (.aload_n 0, 1) := d_42 rfl
set_option maxRecDepth 100000 in
theorem dL_law_704 : decode cL_law 704 = .ok (.iload_n 3, 1) := d_29 rfl
set_option maxRecDepth 100000 in
theorem dL_law_705 : decode cL_law 705 = .ok (.iconst 3, 1) := d_6 rfl
set_option maxRecDepth 100000 in
theorem dL_law_706 : decode cL_law 706 = .ok (.iadd, 1) := d_96 rfl
set_option maxRecDepth 100000 in
theorem dL_law_707 : decode cL_law 707 = .ok (.iaload, 1) := d_46 rfl
set_option maxRecDepth 100000 in
theorem dL_law_708 : decode cL_law 708 = .ok (.aload_n 0, 1) := d_42 rfl
set_option maxRecDepth 100000 in
theorem dL_law_709 : decode cL_law 709 = .ok (.iload_n 3, 1) := d_29 rfl
set_option maxRecDepth 100000 in
theorem dL_law_710 : decode cL_law 710 = .ok (.iconst 4, 1) := d_7 rfl
set_option maxRecDepth 100000 in
theorem dL_law_711 : decode cL_law 711 = .ok (.iadd, 1) := d_96 rfl
set_option maxRecDepth 100000 in
theorem dL_law_712 : decode cL_law 712 = .ok (.iaload, 1) := d_46 rfl
set_option maxRecDepth 100000 in
theorem dL_law_713 : decode cL_law 713 = .ok (.aload_n 0, 1) := d_42 rfl
set_option maxRecDepth 100000 in
theorem dL_law_714 : decode cL_law 714 = .ok (.iload_n 3, 1) := d_29 rfl
set_option maxRecDepth 100000 in
theorem dL_law_715 : decode cL_law 715 = .ok (.iconst 5, 1) := d_8 rfl
set_option maxRecDepth 100000 in
theorem dL_law_716 : decode cL_law 716 = .ok (.iadd, 1) := d_96 rfl
set_option maxRecDepth 100000 in
theorem dL_law_717 : decode cL_law 717 = .ok (.iaload, 1) := d_46 rfl
set_option maxRecDepth 100000 in
theorem dL_law_718 : decode cL_law 718 = .ok (.aload_n 0, 1) := d_42 rfl
set_option maxRecDepth 100000 in
theorem dL_law_719 : decode cL_law 719 = .ok (.iload_n 3, 1) := d_29 rfl
set_option maxRecDepth 100000 in
theorem dL_law_720 : decode cL_law 720 = .ok (.bipush 6, 2) := d_16 (b1 := 6) rfl rfl
set_option maxRecDepth 100000 in
theorem dL_law_722 : decode cL_law 722 = .ok (.iadd, 1) := d_96 rfl
set_option maxRecDepth 100000 in
theorem dL_law_723 : decode cL_law 723 = .ok (.iaload, 1) := d_46 rfl
set_option maxRecDepth 100000 in
theorem dL_law_724 : decode cL_law 724 = .ok (.invokevirtual 77, 3) := d_182 (b1 := 0) (b2 := 77) rfl rfl rfl
set_option maxRecDepth 100000 in
theorem dL_law_727 : decode cL_law 727 = .ok (.pop, 1) := d_87 rfl
set_option maxRecDepth 100000 in
theorem dL_law_728 : decode cL_law 728 = .ok (.aload_n 2, 1) := d_44 rfl
set_option maxRecDepth 100000 in
theorem dL_law_729 : decode cL_law 729 = .ok (.aload_n 0, 1) := d_42 rfl
set_option maxRecDepth 100000 in
theorem dL_law_730 : decode cL_law 730 = .ok (.iload_n 3, 1) := d_29 rfl
set_option maxRecDepth 100000 in
theorem dL_law_731 : decode cL_law 731 = .ok (.iconst 1, 1) := d_4 rfl
set_option maxRecDepth 100000 in
theorem dL_law_732 : decode cL_law 732 = .ok (.iadd, 1) := d_96 rfl
set_option maxRecDepth 100000 in
theorem dL_law_733 : decode cL_law 733 = .ok (.iaload, 1) := d_46 rfl
set_option maxRecDepth 100000 in
theorem dL_law_734 : decode cL_law 734 = .ok (.aload_n 0, 1) := d_42 rfl
set_option maxRecDepth 100000 in
theorem dL_law_735 : decode cL_law 735 = .ok (.iload_n 3, 1) := d_29 rfl
set_option maxRecDepth 100000 in
theorem dL_law_736 : decode cL_law 736 = .ok (.iconst 2, 1) := d_5 rfl
set_option maxRecDepth 100000 in
theorem dL_law_737 : decode cL_law 737 = .ok (.iadd, 1) := d_96 rfl
set_option maxRecDepth 100000 in
theorem dL_law_738 : decode cL_law 738 = .ok (.iaload, 1) := d_46 rfl
set_option maxRecDepth 100000 in
theorem dL_law_739 : decode cL_law 739 = .ok (.aload_n 0, 1) := d_42 rfl
set_option maxRecDepth 100000 in
theorem dL_law_740 : decode cL_law 740 = .ok (.iload_n 3, 1) := d_29 rfl
set_option maxRecDepth 100000 in
theorem dL_law_741 : decode cL_law 741 = .ok (.iconst 3, 1) := d_6 rfl
set_option maxRecDepth 100000 in
theorem dL_law_742 : decode cL_law 742 = .ok (.iadd, 1) := d_96 rfl
set_option maxRecDepth 100000 in
theorem dL_law_743 : decode cL_law 743 = .ok (.iaload, 1) := d_46 rfl
set_option maxRecDepth 100000 in
theorem dL_law_744 : decode cL_law 744 = .ok (.aload_n 0, 1) := d_42 rfl
set_option maxRecDepth 100000 in
theorem dL_law_745 : decode cL_law 745 = .ok (.iload_n 3, 1) := d_29 rfl
set_option maxRecDepth 100000 in
theorem dL_law_746 : decode cL_law 746 = .ok (.iconst 4, 1) := d_7 rfl
set_option maxRecDepth 100000 in
theorem dL_law_747 : decode cL_law 747 = .ok (.iadd, 1) := d_96 rfl
set_option maxRecDepth 100000 in
theorem dL_law_748 : decode cL_law 748 = .ok (.iaload, 1) := d_46 rfl
set_option maxRecDepth 100000 in
theorem dL_law_749 : decode cL_law 749 = .ok (.aload_n 0, 1) := d_42 rfl
set_option maxRecDepth 100000 in
theorem dL_law_750 : decode cL_law 750 = .ok (.iload_n 3, 1) := d_29 rfl
set_option maxRecDepth 100000 in
theorem dL_law_751 : decode cL_law 751 = .ok (.iconst 5, 1) := d_8 rfl
set_option maxRecDepth 100000 in
theorem dL_law_752 : decode cL_law 752 = .ok (.iadd, 1) := d_96 rfl
set_option maxRecDepth 100000 in
theorem dL_law_753 : decode cL_law 753 = .ok (.iaload, 1) := d_46 rfl
set_option maxRecDepth 100000 in
theorem dL_law_754 : decode cL_law 754 = .ok (.aload_n 0, 1) := d_42 rfl
set_option maxRecDepth 100000 in
theorem dL_law_755 : decode cL_law 755 = .ok (.iload_n 3, 1) := d_29 rfl
set_option maxRecDepth 100000 in
theorem dL_law_756 : decode cL_law 756 = .ok (.bipush 6, 2) := d_16 (b1 := 6) rfl rfl
set_option maxRecDepth 100000 in
theorem dL_law_758 : decode cL_law 758 = .ok (.iadd, 1) := d_96 rfl
set_option maxRecDepth 100000 in
theorem dL_law_759 : decode cL_law 759 = .ok (.iaload, 1) := d_46 rfl
set_option maxRecDepth 100000 in
theorem dL_law_760 : decode cL_law 760 = .ok (.invokevirtual 81, 3) := d_182 (b1 := 0) (b2 := 81) rfl rfl rfl
set_option maxRecDepth 100000 in
theorem dL_law_763 : decode cL_law 763 = .ok (.pop, 1) := d_87 rfl
set_option maxRecDepth 100000 in
theorem dL_law_764 : decode cL_law 764 = .ok (.goto 1170, 3) := d_167 (b1 := 4) (b2 := 146) rfl rfl rfl (by decide +kernel)
set_option maxRecDepth 100000 in
theorem dL_law_767 : decode cL_law 767 = .ok (.aload_n 1, 1) := d_43 rfl
set_option maxRecDepth 100000 in
theorem dL_law_768 : decode cL_law 768 = .ok (.aload_n 0, 1) := d_42 rfl
set_option maxRecDepth 100000 in
theorem dL_law_769 : decode cL_law 769 = .ok (.iload_n 3, 1) := d_29 rfl
set_option maxRecDepth 100000 in
theorem dL_law_770 : decode cL_law 770 = .ok (.iconst 1, 1) := d_4 rfl
set_option maxRecDepth 100000 in
theorem dL_law_771 : decode cL_law 771 = .ok (.iadd, 1) := d_96 rfl
set_option maxRecDepth 100000 in
theorem dL_law_772 : decode cL_law 772 = .ok (.iaload, 1) := d_46 rfl
set_option maxRecDepth 100000 in
theorem dL_law_773 : decode cL_law 773 = .ok (.aload_n 0, 1) := d_42 rfl
set_option maxRecDepth 100000 in
theorem dL_law_774 : decode cL_law 774 = .ok (.iload_n 3, 1) := d_29 rfl
set_option maxRecDepth 100000 in
theorem dL_law_775 : decode cL_law 775 = .ok (.iconst 2, 1) := d_5 rfl
set_option maxRecDepth 100000 in
theorem dL_law_776 : decode cL_law 776 = .ok (.iadd, 1) := d_96 rfl
set_option maxRecDepth 100000 in
theorem dL_law_777 : decode cL_law 777 = .ok (.iaload, 1) := d_46 rfl
set_option maxRecDepth 100000 in
theorem dL_law_778 : decode cL_law 778 = .ok (.aload_n 0, 1) := d_42 rfl
set_option maxRecDepth 100000 in
theorem dL_law_779 : decode cL_law 779 = .ok (.iload_n 3, 1) := d_29 rfl
set_option maxRecDepth 100000 in
theorem dL_law_780 : decode cL_law 780 = .ok (.iconst 3, 1) := d_6 rfl
set_option maxRecDepth 100000 in
theorem dL_law_781 : decode cL_law 781 = .ok (.iadd, 1) := d_96 rfl
set_option maxRecDepth 100000 in
theorem dL_law_782 : decode cL_law 782 = .ok (.iaload, 1) := d_46 rfl
set_option maxRecDepth 100000 in
theorem dL_law_783 : decode cL_law 783 = .ok (.aload_n 0, 1) := d_42 rfl
set_option maxRecDepth 100000 in
theorem dL_law_784 : decode cL_law 784 = .ok (.iload_n 3, 1) := d_29 rfl
set_option maxRecDepth 100000 in
theorem dL_law_785 : decode cL_law 785 = .ok (.iconst 4, 1) := d_7 rfl
set_option maxRecDepth 100000 in
theorem dL_law_786 : decode cL_law 786 = .ok (.iadd, 1) := d_96 rfl
set_option maxRecDepth 100000 in
theorem dL_law_787 : decode cL_law 787 = .ok (.iaload, 1) := d_46 rfl
set_option maxRecDepth 100000 in
theorem dL_law_788 : decode cL_law 788 = .ok (.invokevirtual 82, 3) := d_182 (b1 := 0) (b2 := 82) rfl rfl rfl
set_option maxRecDepth 100000 in
theorem dL_law_791 : decode cL_law 791 = .ok (.pop, 1) := d_87 rfl
set_option maxRecDepth 100000 in
theorem dL_law_792 : decode cL_law 792 = .ok (.aload_n 2, 1) := d_44 rfl
set_option maxRecDepth 100000 in
theorem dL_law_793 : decode cL_law 793 = .ok (.aload_n 0, 1) := d_42 rfl
set_option maxRecDepth 100000 in
theorem dL_law_794 : decode cL_law 794 = .ok (.iload_n 3, 1) := d_29 rfl
set_option maxRecDepth 100000 in
theorem dL_law_795 : decode cL_law 795 = .ok (.iconst 1, 1) := d_4 rfl
set_option maxRecDepth 100000 in
theorem dL_law_796 : decode cL_law 796 = .ok (.iadd, 1) := d_96 rfl
set_option maxRecDepth 100000 in
theorem dL_law_797 : decode cL_law 797 = .ok (.iaload, 1) := d_46 rfl
set_option maxRecDepth 100000 in
theorem dL_law_798 : decode cL_law 798 = .ok (.aload_n 0, 1) := d_42 rfl
set_option maxRecDepth 100000 in
theorem dL_law_799 : decode cL_law 799 = .ok (.iload_n 3, 1) := d_29 rfl
set_option maxRecDepth 100000 in
theorem dL_law_800 : decode cL_law 800 = .ok (.iconst 2, 1) := d_5 rfl
set_option maxRecDepth 100000 in
theorem dL_law_801 : decode cL_law 801 = .ok (.iadd, 1) := d_96 rfl
set_option maxRecDepth 100000 in
theorem dL_law_802 : decode cL_law 802 = .ok (.iaload, 1) := d_46 rfl
set_option maxRecDepth 100000 in
theorem dL_law_803 : decode cL_law 803 = .ok (.aload_n 0, 1) := d_42 rfl
set_option maxRecDepth 100000 in
theorem dL_law_804 : decode cL_law 804 = .ok (.iload_n 3, 1) := d_29 rfl
set_option maxRecDepth 100000 in
theorem dL_law_805 : decode cL_law 805 = .ok (.iconst 3, 1) := d_6 rfl
set_option maxRecDepth 100000 in
theorem dL_law_806 : decode cL_law 806 = .ok (.iadd, 1) := d_96 rfl
set_option maxRecDepth 100000 in
theorem dL_law_807 : decode cL_law 807 = .ok (.iaload, 1) := d_46 rfl
set_option maxRecDepth 100000 in
theorem dL_law_808 : decode cL_law 808 = .ok (.aload_n 0, 1) := d_42 rfl
set_option maxRecDepth 100000 in
theorem dL_law_809 : decode cL_law 809 = .ok (.iload_n 3, 1) := d_29 rfl
set_option maxRecDepth 100000 in
theorem dL_law_810 : decode cL_law 810 = .ok (.iconst 4, 1) := d_7 rfl
set_option maxRecDepth 100000 in
theorem dL_law_811 : decode cL_law 811 = .ok (.iadd, 1) := d_96 rfl
set_option maxRecDepth 100000 in
theorem dL_law_812 : decode cL_law 812 = .ok (.iaload, 1) := d_46 rfl
set_option maxRecDepth 100000 in
theorem dL_law_813 : decode cL_law 813 = .ok (.invokevirtual 85, 3) := d_182 (b1 := 0) (b2 := 85) rfl rfl rfl
set_option maxRecDepth 100000 in
theorem dL_law_816 : decode cL_law 816 = .ok (.pop, 1) := d_87 rfl
set_option maxRecDepth 100000 in
theorem dL_law_817 : decode cL_law 817 = .ok (.goto 1117, 3) := d_167 (b1 := 4) (b2 := 93) rfl rfl rfl (by decide +kernel)
set_option maxRecDepth 100000 in
theorem dL_law_820 : decode cL_law 820 = .ok (.aload_n 1, 1) := d_43 rfl
set_option maxRecDepth 100000 in
theorem dL_law_821 : decode cL_law 821 = .ok (.aload_n 0, 1) := d_42 rfl
set_option maxRecDepth 100000 in
theorem dL_law_822 : decode cL_law 822 = .ok (.iload_n 3, 1) := d_29 rfl
set_option maxRecDepth 100000 in
theorem dL_law_823 : decode cL_law 823 = .ok (.iconst 1, 1) := d_4 rfl
set_option maxRecDepth 100000 in
theorem dL_law_824 : decode cL_law 824 = .ok (.iadd, 1) := d_96 rfl
set_option maxRecDepth 100000 in
theorem dL_law_825 : decode cL_law 825 = .ok (.iaload, 1) := d_46 rfl
set_option maxRecDepth 100000 in
theorem dL_law_826 : decode cL_law 826 = .ok (.aload_n 0, 1) := d_42 rfl
set_option maxRecDepth 100000 in
theorem dL_law_827 : decode cL_law 827 = .ok (.iload_n 3, 1) := d_29 rfl
set_option maxRecDepth 100000 in
theorem dL_law_828 : decode cL_law 828 = .ok (.iconst 2, 1) := d_5 rfl
set_option maxRecDepth 100000 in
theorem dL_law_829 : decode cL_law 829 = .ok (.iadd, 1) := d_96 rfl
set_option maxRecDepth 100000 in
theorem dL_law_830 : decode cL_law 830 = .ok (.iaload, 1) := d_46 rfl
set_option maxRecDepth 100000 in
theorem dL_law_831 : decode cL_law 831 = .ok (.aload_n 0, 1) := d_42 rfl
set_option maxRecDepth 100000 in
theorem dL_law_832 : decode cL_law 832 = .ok (.iload_n 3, 1) := d_29 rfl
set_option maxRecDepth 100000 in
theorem dL_law_833 : decode cL_law 833 = .ok (.iconst 3, 1) := d_6 rfl
set_option maxRecDepth 100000 in
theorem dL_law_834 : decode cL_law 834 = .ok (.iadd, 1) := d_96 rfl
set_option maxRecDepth 100000 in
theorem dL_law_835 : decode cL_law 835 = .ok (.iaload, 1) := d_46 rfl
set_option maxRecDepth 100000 in
theorem dL_law_836 : decode cL_law 836 = .ok (.aload_n 0, 1) := d_42 rfl
set_option maxRecDepth 100000 in
theorem dL_law_837 : decode cL_law 837 = .ok (.iload_n 3, 1) := d_29 rfl
set_option maxRecDepth 100000 in
theorem dL_law_838 : decode cL_law 838 = .ok (.iconst 4, 1) := d_7 rfl
set_option maxRecDepth 100000 in
theorem dL_law_839 : decode cL_law 839 = .ok (.iadd, 1) := d_96 rfl
set_option maxRecDepth 100000 in
theorem dL_law_840 : decode cL_law 840 = .ok (.iaload, 1) := d_46 rfl
set_option maxRecDepth 100000 in
theorem dL_law_841 : decode cL_law 841 = .ok (.aload_n 0, 1) := d_42 rfl
set_option maxRecDepth 100000 in
theorem dL_law_842 : decode cL_law 842 = .ok (.iload_n 3, 1) := d_29 rfl
set_option maxRecDepth 100000 in
theorem dL_law_843 : decode cL_law 843 = .ok (.iconst 5, 1) := d_8 rfl
set_option maxRecDepth 100000 in
theorem dL_law_844 : decode cL_law 844 = .ok (.iadd, 1) := d_96 rfl
set_option maxRecDepth 100000 in
theorem dL_law_845 : decode cL_law 845 = .ok (.iaload, 1) := d_46 rfl
set_option maxRecDepth 100000 in
theorem dL_law_846 : decode cL_law 846 = .ok (.invokevirtual 86, 3) := d_182 (b1 := 0) (b2 := 86) rfl rfl rfl
set_option maxRecDepth 100000 in
theorem dL_law_849 : decode cL_law 849 = .ok (.pop, 1) := d_87 rfl
set_option maxRecDepth 100000 in
theorem dL_law_850 : decode cL_law 850 = .ok (.aload_n 2, 1) := d_44 rfl
set_option maxRecDepth 100000 in
theorem dL_law_851 : decode cL_law 851 = .ok (.aload_n 0, 1) := d_42 rfl
set_option maxRecDepth 100000 in
theorem dL_law_852 : decode cL_law 852 = .ok (.iload_n 3, 1) := d_29 rfl
set_option maxRecDepth 100000 in
theorem dL_law_853 : decode cL_law 853 = .ok (.iconst 1, 1) := d_4 rfl
set_option maxRecDepth 100000 in
theorem dL_law_854 : decode cL_law 854 = .ok (.iadd, 1) := d_96 rfl
set_option maxRecDepth 100000 in
theorem dL_law_855 : decode cL_law 855 = .ok (.iaload, 1) := d_46 rfl
set_option maxRecDepth 100000 in
theorem dL_law_856 : decode cL_law 856 = .ok (.aload_n 0, 1) := d_42 rfl
set_option maxRecDepth 100000 in
theorem dL_law_857 : decode cL_law 857 = .ok (.iload_n 3, 1) := d_29 rfl
set_option maxRecDepth 100000 in
theorem dL_law_858 : decode cL_law 858 = .ok (.iconst 2, 1) := d_5 rfl
set_option maxRecDepth 100000 in
theorem dL_law_859 : decode cL_law 859 = .ok (.iadd, 1) := d_96 rfl
set_option maxRecDepth 100000 in
theorem dL_law_860 : decode cL_law 860 = .ok (.iaload, 1) := d_46 rfl
set_option maxRecDepth 100000 in
theorem dL_law_861 : decode cL_law 861 = .ok (.aload_n 0, 1) := d_42 rfl
set_option maxRecDepth 100000 in
theorem dL_law_862 : decode cL_law 862 = .ok (.iload_n 3, 1) := d_29 rfl
set_option maxRecDepth 100000 in
theorem dL_law_863 : decode cL_law 863 = .ok (.iconst 3, 1) := d_6 rfl
set_option maxRecDepth 100000 in
theorem dL_law_864 : decode cL_law 864 = .ok (.iadd, 1) := d_96 rfl
set_option maxRecDepth 100000 in
theorem dL_law_865 : decode cL_law 865 = .ok (.iaload, 1) := d_46 rfl
set_option maxRecDepth 100000 in
theorem dL_law_866 : decode cL_law 866 = .ok (.aload_n 0, 1) := d_42 rfl
set_option maxRecDepth 100000 in
theorem dL_law_867 : decode cL_law 867 = .ok (.iload_n 3, 1) := d_29 rfl
set_option maxRecDepth 100000 in
theorem dL_law_868 : decode cL_law 868 = .ok (.iconst 4, 1) := d_7 rfl
set_option maxRecDepth 100000 in
theorem dL_law_869 : decode cL_law 869 = .ok (.iadd, 1) := d_96 rfl
set_option maxRecDepth 100000 in
theorem dL_law_870 : decode cL_law 870 = .ok (.iaload, 1) := d_46 rfl
set_option maxRecDepth 100000 in
theorem dL_law_871 : decode cL_law 871 = .ok (.aload_n 0, 1) := d_42 rfl
set_option maxRecDepth 100000 in
theorem dL_law_872 : decode cL_law 872 = .ok (.iload_n 3, 1) := d_29 rfl
set_option maxRecDepth 100000 in
theorem dL_law_873 : decode cL_law 873 = .ok (.iconst 5, 1) := d_8 rfl
set_option maxRecDepth 100000 in
theorem dL_law_874 : decode cL_law 874 = .ok (.iadd, 1) := d_96 rfl
set_option maxRecDepth 100000 in
theorem dL_law_875 : decode cL_law 875 = .ok (.iaload, 1) := d_46 rfl
set_option maxRecDepth 100000 in
theorem dL_law_876 : decode cL_law 876 = .ok (.invokevirtual 89, 3) := d_182 (b1 := 0) (b2 := 89) rfl rfl rfl
set_option maxRecDepth 100000 in
theorem dL_law_879 : decode cL_law 879 = .ok (.pop, 1) := d_87 rfl
set_option maxRecDepth 100000 in
theorem dL_law_880 : decode cL_law 880 = .ok (.goto 1054, 3) := d_167 (b1 := 4) (b2 := 30) rfl rfl rfl (by decide +kernel)
set_option maxRecDepth 100000 in
theorem dL_law_883 : decode cL_law 883 = .ok (.aload_n 1, 1) := d_43 rfl
set_option maxRecDepth 100000 in
theorem dL_law_884 : decode cL_law 884 = .ok (.aload_n 0, 1) := d_42 rfl
set_option maxRecDepth 100000 in
theorem dL_law_885 : decode cL_law 885 = .ok (.iload_n 3, 1) := d_29 rfl
set_option maxRecDepth 100000 in
theorem dL_law_886 : decode cL_law 886 = .ok (.iconst 1, 1) := d_4 rfl
set_option maxRecDepth 100000 in
theorem dL_law_887 : decode cL_law 887 = .ok (.iadd, 1) := d_96 rfl
set_option maxRecDepth 100000 in
theorem dL_law_888 : decode cL_law 888 = .ok (.iaload, 1) := d_46 rfl
set_option maxRecDepth 100000 in
theorem dL_law_889 : decode cL_law 889 = .ok (.aload_n 0, 1) := d_42 rfl
set_option maxRecDepth 100000 in
theorem dL_law_890 : decode cL_law 890 = .ok (.iload_n 3, 1) := d_29 rfl
set_option maxRecDepth 100000 in
theorem dL_law_891 : decode cL_law 891 = .ok (.iconst 2, 1) := d_5 rfl
set_option maxRecDepth 100000 in
theorem dL_law_892 : decode cL_law 892 = .ok (.iadd, 1) := d_96 rfl
set_option maxRecDepth 100000 in
theorem dL_law_893 : decode cL_law 893 = .ok (.iaload, 1) := d_46 rfl
set_option maxRecDepth 100000 in
theorem dL_law_894 : decode cL_law 894 = .ok (.aload_n 0, 1) := d_42 rfl
set_option maxRecDepth 100000 in
theorem dL_law_895 : decode cL_law 895 = .ok (.iload_n 3, 1) := d_29 rfl
set_option maxRecDepth 100000 in
theorem dL_law_896 : decode cL_law 896 = .ok (.iconst 3, 1) := d_6 rfl
set_option maxRecDepth 100000 in
theorem dL_law_897 : decode cL_law 897 = .ok (.iadd, 1) := d_96 rfl
set_option maxRecDepth 100000 in
theorem dL_law_898 : decode cL_law 898 = .ok (.iaload, 1) := d_46 rfl
set_option maxRecDepth 100000 in
theorem dL_law_899 : decode cL_law 899 = .ok (.invokevirtual 90, 3) := d_182 (b1 := 0) (b2 := 90) rfl rfl rfl
set_option maxRecDepth 100000 in
theorem dL_law_902 : decode cL_law 902 = .ok (.pop, 1) := d_87 rfl
set_option maxRecDepth 100000 in
theorem dL_law_903 : decode cL_law 903 = .ok (.aload_n 2, 1) := d_44 rfl
set_option maxRecDepth 100000 in
theorem dL_law_904 : decode cL_law 904 = .ok (.aload_n 0, 1) := d_42 rfl
set_option maxRecDepth 100000 in
theorem dL_law_905 : decode cL_law 905 = .ok (.iload_n 3, 1) := d_29 rfl
set_option maxRecDepth 100000 in
theorem dL_law_906 : decode cL_law 906 = .ok (.iconst 1, 1) := d_4 rfl
set_option maxRecDepth 100000 in
theorem dL_law_907 : decode cL_law 907 = .ok (.iadd, 1) := d_96 rfl
set_option maxRecDepth 100000 in
theorem dL_law_908 : decode cL_law 908 = .ok (.iaload, 1) := d_46 rfl
set_option maxRecDepth 100000 in
theorem dL_law_909 : decode cL_law 909 = .ok (.aload_n 0, 1) := d_42 rfl
set_option maxRecDepth 100000 in
theorem dL_law_910 : decode cL_law 910 = .ok (.iload_n 3, 1) := d_29 rfl
set_option maxRecDepth 100000 in
theorem dL_law_911 : decode cL_law 911 = .ok (.iconst 2, 1) := d_5 rfl
set_option maxRecDepth 100000 in
theorem dL_law_912 : decode cL_law 912 = .ok (.iadd, 1) := d_96 rfl
set_option maxRecDepth 100000 in
theorem dL_law_913 : decode cL_law 913 = .ok (.iaload, 1) := d_46 rfl
set_option maxRecDepth 100000 in
theorem dL_law_914 : decode cL_law 914 = .ok (.aload_n 0, 1) := d_42 rfl
set_option maxRecDepth 100000 in
theorem dL_law_915 : decode cL_law 915 = .ok (.iload_n 3, 1) := d_29 rfl
set_option maxRecDepth 100000 in
theorem dL_law_916 : decode cL_law 916 = .ok (.iconst 3, 1) := d_6 rfl
set_option maxRecDepth 100000 in
theorem dL_law_917 : decode cL_law 917 = .ok (.iadd, 1) := d_96 rfl
set_option maxRecDepth 100000 in
theorem dL_law_918 : decode cL_law 918 = .ok (.iaload, 1) := d_46 rfl
set_option maxRecDepth 100000 in
theorem dL_law_919 : decode cL_law 919 = .ok (.invokevirtual 94, 3) := d_182 (b1 := 0) (b2 := 94) rfl rfl rfl
set_option maxRecDepth 100000 in
theorem dL_law_922 : decode cL_law 922 = .ok (.pop, 1) := d_87 rfl
set_option maxRecDepth 100000 in
theorem dL_law_923 : decode cL_law 923 = .ok (.goto 1011, 3) := d_167 (b1 := 3) (b2 := 243) rfl rfl rfl (by decide +kernel)
set_option maxRecDepth 100000 in
theorem dL_law_926 : decode cL_law 926 = .ok (.aload_n 1, 1) := d_43 rfl
set_option maxRecDepth 100000 in
theorem dL_law_927 : decode cL_law 927 = .ok (.aload_n 0, 1) := d_42 rfl
set_option maxRecDepth 100000 in
theorem dL_law_928 : decode cL_law 928 = .ok (.iload_n 3, 1) := d_29 rfl
set_option maxRecDepth 100000 in
theorem dL_law_929 : decode cL_law 929 = .ok (.iconst 1, 1) := d_4 rfl
set_option maxRecDepth 100000 in
theorem dL_law_930 : decode cL_law 930 = .ok (.iadd, 1) := d_96 rfl
set_option maxRecDepth 100000 in
theorem dL_law_931 : decode cL_law 931 = .ok (.iaload, 1) := d_46 rfl
set_option maxRecDepth 100000 in
theorem dL_law_932 : decode cL_law 932 = .ok (.aload_n 0, 1) := d_42 rfl
set_option maxRecDepth 100000 in
theorem dL_law_933 : decode cL_law 933 = .ok (.iload_n 3, 1) := d_29 rfl
set_option maxRecDepth 100000 in
theorem dL_law_934 : decode cL_law 934 = .ok (.iconst 2, 1) := d_5 rfl
set_option maxRecDepth 100000 in
theorem dL_law_935 : decode cL_law 935 = .ok (.iadd, 1) := d_96 rfl
set_option maxRecDepth 100000 in
theorem dL_law_936 : decode cL_law 936 = .ok (.iaload, 1) := d_46 rfl
set_option maxRecDepth 100000 in
theorem dL_law_937 : decode cL_law 937 = .ok (.aload_n 0, 1) := d_42 rfl
set_option maxRecDepth 100000 in
theorem dL_law_938 : decode cL_law 938 = .ok (.iload_n 3, 1) := d_29 rfl
set_option maxRecDepth 100000 in
theorem dL_law_939 : decode cL_law 939 = .ok (.iconst 3, 1) := d_6 rfl
set_option maxRecDepth 100000 in
theorem dL_law_940 : decode cL_law 940 = .ok (.iadd, 1) := d_96 rfl
set_option maxRecDepth 100000 in
theorem dL_law_941 : decode cL_law 941 = .ok (.iaload, 1) := d_46 rfl
set_option maxRecDepth 100000 in
theorem dL_law_942 : decode cL_law 942 = .ok (.invokevirtual 95, 3) := d_182 (b1 := 0) (b2 := 95) rfl rfl rfl
set_option maxRecDepth 100000 in
theorem dL_law_945 : decode cL_law 945 = .ok (.pop, 1) := d_87 rfl
set_option maxRecDepth 100000 in
theorem dL_law_946 : decode cL_law 946 = .ok (.aload_n 2, 1) := d_44 rfl
set_option maxRecDepth 100000 in
theorem dL_law_947 : decode cL_law 947 = .ok (.aload_n 0, 1) := d_42 rfl
set_option maxRecDepth 100000 in
theorem dL_law_948 : decode cL_law 948 = .ok (.iload_n 3, 1) := d_29 rfl
set_option maxRecDepth 100000 in
theorem dL_law_949 : decode cL_law 949 = .ok (.iconst 1, 1) := d_4 rfl
set_option maxRecDepth 100000 in
theorem dL_law_950 : decode cL_law 950 = .ok (.iadd, 1) := d_96 rfl
set_option maxRecDepth 100000 in
theorem dL_law_951 : decode cL_law 951 = .ok (.iaload, 1) := d_46 rfl
set_option maxRecDepth 100000 in
theorem dL_law_952 : decode cL_law 952 = .ok (.aload_n 0, 1) := d_42 rfl
set_option maxRecDepth 100000 in
theorem dL_law_953 : decode cL_law 953 = .ok (.iload_n 3, 1) := d_29 rfl
set_option maxRecDepth 100000 in
theorem dL_law_954 : decode cL_law 954 = .ok (.iconst 2, 1) := d_5 rfl
set_option maxRecDepth 100000 in
theorem dL_law_955 : decode cL_law 955 = .ok (.iadd, 1) := d_96 rfl
set_option maxRecDepth 100000 in
theorem dL_law_956 : decode cL_law 956 = .ok (.iaload, 1) := d_46 rfl
set_option maxRecDepth 100000 in
theorem dL_law_957 : decode cL_law 957 = .ok (.aload_n 0, 1) := d_42 rfl
set_option maxRecDepth 100000 in
theorem dL_law_958 : decode cL_law 958 = .ok (.iload_n 3, 1) := d_29 rfl
set_option maxRecDepth 100000 in
theorem dL_law_959 : decode cL_law 959 = .ok (.iconst 3, 1) := d_6 rfl
set_option maxRecDepth 100000 in
theorem dL_law_960 : decode cL_law 960 = .ok (.iadd, 1) := d_96 rfl
set_option maxRecDepth 100000 in
theorem dL_law_961 : decode cL_law 961 = .ok (.iaload, 1) := d_46 rfl
set_option maxRecDepth 100000 in
theorem dL_law_962 : decode cL_law 962 = .ok (.invokevirtual 98, 3) := d_182 (b1 := 0) (b2 := 98) rfl rfl rfl
set_option maxRecDepth 100000 in
theorem dL_law_965 : decode cL_law 965 = .ok (.pop, 1) := d_87 rfl
set_option maxRecDepth 100000 in
theorem dL_law_966 : decode cL_law 966 = .ok (.goto 968, 3) := d_167 (b1 := 3) (b2 := 200) rfl rfl rfl (by decide +kernel)
set_option maxRecDepth 100000 in
theorem dL_law_969 : decode cL_law 969 = .ok (.aload_n 1, 1) := d_43 rfl
set_option maxRecDepth 100000 in
theorem dL_law_970 : decode cL_law 970 = .ok (.aload_n 0, 1) := d_42 rfl
set_option maxRecDepth 100000 in
theorem dL_law_971 : decode cL_law 971 = .ok (.iload_n 3, 1) := d_29 rfl
set_option maxRecDepth 100000 in
theorem dL_law_972 : decode cL_law 972 = .ok (.iconst 1, 1) := d_4 rfl
set_option maxRecDepth 100000 in
theorem dL_law_973 : decode cL_law 973 = .ok (.iadd, 1) := d_96 rfl
set_option maxRecDepth 100000 in
theorem dL_law_974 : decode cL_law 974 = .ok (.iaload, 1) := d_46 rfl
set_option maxRecDepth 100000 in
theorem dL_law_975 : decode cL_law 975 = .ok (.aload_n 0, 1) := d_42 rfl
set_option maxRecDepth 100000 in
theorem dL_law_976 : decode cL_law 976 = .ok (.iload_n 3, 1) := d_29 rfl
set_option maxRecDepth 100000 in
theorem dL_law_977 : decode cL_law 977 = .ok (.iconst 2, 1) := d_5 rfl
set_option maxRecDepth 100000 in
theorem dL_law_978 : decode cL_law 978 = .ok (.iadd, 1) := d_96 rfl
set_option maxRecDepth 100000 in
theorem dL_law_979 : decode cL_law 979 = .ok (.iaload, 1) := d_46 rfl
set_option maxRecDepth 100000 in
theorem dL_law_980 : decode cL_law 980 = .ok (.aload_n 0, 1) := d_42 rfl
set_option maxRecDepth 100000 in
theorem dL_law_981 : decode cL_law 981 = .ok (.iload_n 3, 1) := d_29 rfl
set_option maxRecDepth 100000 in
theorem dL_law_982 : decode cL_law 982 = .ok (.iconst 3, 1) := d_6 rfl
set_option maxRecDepth 100000 in
theorem dL_law_983 : decode cL_law 983 = .ok (.iadd, 1) := d_96 rfl
set_option maxRecDepth 100000 in
theorem dL_law_984 : decode cL_law 984 = .ok (.iaload, 1) := d_46 rfl
set_option maxRecDepth 100000 in
theorem dL_law_985 : decode cL_law 985 = .ok (.aload_n 0, 1) := d_42 rfl
set_option maxRecDepth 100000 in
theorem dL_law_986 : decode cL_law 986 = .ok (.iload_n 3, 1) := d_29 rfl
set_option maxRecDepth 100000 in
theorem dL_law_987 : decode cL_law 987 = .ok (.iconst 4, 1) := d_7 rfl
set_option maxRecDepth 100000 in
theorem dL_law_988 : decode cL_law 988 = .ok (.iadd, 1) := d_96 rfl
set_option maxRecDepth 100000 in
theorem dL_law_989 : decode cL_law 989 = .ok (.iaload, 1) := d_46 rfl
set_option maxRecDepth 100000 in
theorem dL_law_990 : decode cL_law 990 = .ok (.aload_n 0, 1) := d_42 rfl
set_option maxRecDepth 100000 in
theorem dL_law_991 : decode cL_law 991 = .ok (.iload_n 3, 1) := d_29 rfl
set_option maxRecDepth 100000 in
theorem dL_law_992 : decode cL_law 992 = .ok (.iconst 5, 1) := d_8 rfl
set_option maxRecDepth 100000 in
theorem dL_law_993 : decode cL_law 993 = .ok (.iadd, 1) := d_96 rfl
set_option maxRecDepth 100000 in
theorem dL_law_994 : decode cL_law 994 = .ok (.iaload, 1) := d_46 rfl
set_option maxRecDepth 100000 in
theorem dL_law_995 : decode cL_law 995 = .ok (.aload_n 0, 1) := d_42 rfl
set_option maxRecDepth 100000 in
theorem dL_law_996 : decode cL_law 996 = .ok (.iload_n 3, 1) := d_29 rfl
set_option maxRecDepth 100000 in
theorem dL_law_997 : decode cL_law 997 = .ok (.bipush 6, 2) := d_16 (b1 := 6) rfl rfl
set_option maxRecDepth 100000 in
theorem dL_law_999 : decode cL_law 999 = .ok (.iadd, 1) := d_96 rfl
set_option maxRecDepth 100000 in
theorem dL_law_1000 : decode cL_law 1000 = .ok (.iaload, 1) := d_46 rfl
set_option maxRecDepth 100000 in
theorem dL_law_1001 : decode cL_law 1001 = .ok (.invokevirtual 99, 3) := d_182 (b1 := 0) (b2 := 99) rfl rfl rfl
set_option maxRecDepth 100000 in
theorem dL_law_1004 : decode cL_law 1004 = .ok (.pop, 1) := d_87 rfl
set_option maxRecDepth 100000 in
theorem dL_law_1005 : decode cL_law 1005 = .ok (.aload_n 2, 1) := d_44 rfl
set_option maxRecDepth 100000 in
theorem dL_law_1006 : decode cL_law 1006 = .ok (.aload_n 0, 1) := d_42 rfl
set_option maxRecDepth 100000 in
theorem dL_law_1007 : decode cL_law 1007 = .ok (.iload_n 3, 1) := d_29 rfl
set_option maxRecDepth 100000 in
theorem dL_law_1008 : decode cL_law 1008 = .ok (.iconst 1, 1) := d_4 rfl
set_option maxRecDepth 100000 in
theorem dL_law_1009 : decode cL_law 1009 = .ok (.iadd, 1) := d_96 rfl
set_option maxRecDepth 100000 in
theorem dL_law_1010 : decode cL_law 1010 = .ok (.iaload, 1) := d_46 rfl
set_option maxRecDepth 100000 in
theorem dL_law_1011 : decode cL_law 1011 = .ok (.aload_n 0, 1) := d_42 rfl
set_option maxRecDepth 100000 in
theorem dL_law_1012 : decode cL_law 1012 = .ok (.iload_n 3, 1) := d_29 rfl
set_option maxRecDepth 100000 in
theorem dL_law_1013 : decode cL_law 1013 = .ok (.iconst 2, 1) := d_5 rfl
set_option maxRecDepth 100000 in
theorem dL_law_1014 : decode cL_law 1014 = .ok (.iadd, 1) := d_96 rfl
set_option maxRecDepth 100000 in
theorem dL_law_1015 : decode cL_law 1015 = .ok (.iaload, 1) := d_46 rfl
set_option maxRecDepth 100000 in
theorem dL_law_1016 : decode cL_law 1016 = .ok (.aload_n 0, 1) := d_42 rfl
set_option maxRecDepth 100000 in
theorem dL_law_1017 : decode cL_law 1017 = .ok (.iload_n 3, 1) := d_29 rfl
set_option maxRecDepth 100000 in
theorem dL_law_1018 : decode cL_law 1018 = .ok (.iconst 3, 1) := d_6 rfl
set_option maxRecDepth 100000 in
theorem dL_law_1019 : decode cL_law 1019 = .ok (.iadd, 1) := d_96 rfl
set_option maxRecDepth 100000 in
theorem dL_law_1020 : decode cL_law 1020 = .ok (.iaload, 1) := d_46 rfl
set_option maxRecDepth 100000 in
theorem dL_law_1021 : decode cL_law 1021 = .ok (.aload_n 0, 1) := d_42 rfl
set_option maxRecDepth 100000 in
theorem dL_law_1022 : decode cL_law 1022 = .ok (.iload_n 3, 1) := d_29 rfl
set_option maxRecDepth 100000 in
theorem dL_law_1023 : decode cL_law 1023 = .ok (.iconst 4, 1) := d_7 rfl
set_option maxRecDepth 100000 in
theorem dL_law_1024 : decode cL_law 1024 = .ok (.iadd, 1) := d_96 rfl
set_option maxRecDepth 100000 in
theorem dL_law_1025 : decode cL_law 1025 = .ok (.iaload, 1) := d_46 rfl
set_option maxRecDepth 100000 in
theorem dL_law_1026 : decode cL_law 1026 = .ok (.aload_n 0, 1) := d_42 rfl
set_option maxRecDepth 100000 in
theorem dL_law_1027 : decode cL_law 1027 = .ok (.iload_n 3, 1) := d_29 rfl
set_option maxRecDepth 100000 in
theorem dL_law_1028 : decode cL_law 1028 = .ok (.iconst 5, 1) := d_8 rfl
set_option maxRecDepth 100000 in
theorem dL_law_1029 : decode cL_law 1029 = .ok (.iadd, 1) := d_96 rfl
set_option maxRecDepth 100000 in
theorem dL_law_1030 : decode cL_law 1030 = .ok (.iaload, 1) := d_46 rfl
set_option maxRecDepth 100000 in
theorem dL_law_1031 : decode cL_law 1031 = .ok (.aload_n 0, 1) := d_42 rfl
set_option maxRecDepth 100000 in
theorem dL_law_1032 : decode cL_law 1032 = .ok (.iload_n 3, 1) := d_29 rfl
set_option maxRecDepth 100000 in
theorem dL_law_1033 : decode cL_law 1033 = .ok (.bipush 6, 2) := d_16 (b1 := 6) rfl rfl
set_option maxRecDepth 100000 in
theorem dL_law_1035 : decode cL_law 1035 = .ok (.iadd, 1) := d_96 rfl
set_option maxRecDepth 100000 in
theorem dL_law_1036 : decode cL_law 1036 = .ok (.iaload, 1) := d_46 rfl
set_option maxRecDepth 100000 in
theorem dL_law_1037 : decode cL_law 1037 = .ok (.invokevirtual 103, 3) := d_182 (b1 := 0) (b2 := 103) rfl rfl rfl
set_option maxRecDepth 100000 in
theorem dL_law_1040 : decode cL_law 1040 = .ok (.pop, 1) := d_87 rfl
set_option maxRecDepth 100000 in
theorem dL_law_1041 : decode cL_law 1041 = .ok (.goto 893, 3) := d_167 (b1 := 3) (b2 := 125) rfl rfl rfl (by decide +kernel)
set_option maxRecDepth 100000 in
theorem dL_law_1044 : decode cL_law 1044 = .ok (.aload_n 1, 1) := d_43 rfl
set_option maxRecDepth 100000 in
theorem dL_law_1045 : decode cL_law 1045 = .ok (.aload_n 0, 1) := d_42 rfl
set_option maxRecDepth 100000 in
theorem dL_law_1046 : decode cL_law 1046 = .ok (.iload_n 3, 1) := d_29 rfl
set_option maxRecDepth 100000 in
theorem dL_law_1047 : decode cL_law 1047 = .ok (.iconst 1, 1) := d_4 rfl
set_option maxRecDepth 100000 in
theorem dL_law_1048 : decode cL_law 1048 = .ok (.iadd, 1) := d_96 rfl
set_option maxRecDepth 100000 in
theorem dL_law_1049 : decode cL_law 1049 = .ok (.iaload, 1) := d_46 rfl
set_option maxRecDepth 100000 in
theorem dL_law_1050 : decode cL_law 1050 = .ok (.aload_n 0, 1) := d_42 rfl
set_option maxRecDepth 100000 in
theorem dL_law_1051 : decode cL_law 1051 = .ok (.iload_n 3, 1) := d_29 rfl
set_option maxRecDepth 100000 in
theorem dL_law_1052 : decode cL_law 1052 = .ok (.iconst 2, 1) := d_5 rfl
set_option maxRecDepth 100000 in
theorem dL_law_1053 : decode cL_law 1053 = .ok (.iadd, 1) := d_96 rfl
set_option maxRecDepth 100000 in
theorem dL_law_1054 : decode cL_law 1054 = .ok (.iaload, 1) := d_46 rfl
set_option maxRecDepth 100000 in
theorem dL_law_1055 : decode cL_law 1055 = .ok (.aload_n 0, 1) := d_42 rfl
set_option maxRecDepth 100000 in
theorem dL_law_1056 : decode cL_law 1056 = .ok (.iload_n 3, 1) := d_29 rfl
set_option maxRecDepth 100000 in
theorem dL_law_1057 : decode cL_law 1057 = .ok (.iconst 3, 1) := d_6 rfl
set_option maxRecDepth 100000 in
theorem dL_law_1058 : decode cL_law 1058 = .ok (.iadd, 1) := d_96 rfl
set_option maxRecDepth 100000 in
theorem dL_law_1059 : decode cL_law 1059 = .ok (.iaload, 1) := d_46 rfl
set_option maxRecDepth 100000 in
theorem dL_law_1060 : decode cL_law 1060 = .ok (.aload_n 0, 1) := d_42 rfl
set_option maxRecDepth 100000 in
theorem dL_law_1061 : decode cL_law 1061 = .ok (.iload_n 3, 1) := d_29 rfl
set_option maxRecDepth 100000 in
theorem dL_law_1062 : decode cL_law 1062 = .ok (.iconst 4, 1) := d_7 rfl
set_option maxRecDepth 100000 in
theorem dL_law_1063 : decode cL_law 1063 = .ok (.iadd, 1) := d_96 rfl
set_option maxRecDepth 100000 in
theorem dL_law_1064 : decode cL_law 1064 = .ok (.iaload, 1) := d_46 rfl
set_option maxRecDepth 100000 in
theorem dL_law_1065 : decode cL_law 1065 = .ok (.invokevirtual 104, 3) := d_182 (b1 := 0) (b2 := 104) rfl rfl rfl
set_option maxRecDepth 100000 in
theorem dL_law_1068 : decode cL_law 1068 = .ok (.pop, 1) := d_87 rfl
set_option maxRecDepth 100000 in
theorem dL_law_1069 : decode cL_law 1069 = .ok (.aload_n 2, 1) := d_44 rfl
set_option maxRecDepth 100000 in
theorem dL_law_1070 : decode cL_law 1070 = .ok (.aload_n 0, 1) := d_42 rfl
set_option maxRecDepth 100000 in
theorem dL_law_1071 : decode cL_law 1071 = .ok (.iload_n 3, 1) := d_29 rfl
set_option maxRecDepth 100000 in
theorem dL_law_1072 : decode cL_law 1072 = .ok (.iconst 1, 1) := d_4 rfl
set_option maxRecDepth 100000 in
theorem dL_law_1073 : decode cL_law 1073 = .ok (.iadd, 1) := d_96 rfl
set_option maxRecDepth 100000 in
theorem dL_law_1074 : decode cL_law 1074 = .ok (.iaload, 1) := d_46 rfl
set_option maxRecDepth 100000 in
theorem dL_law_1075 : decode cL_law 1075 = .ok (.aload_n 0, 1) := d_42 rfl
set_option maxRecDepth 100000 in
theorem dL_law_1076 : decode cL_law 1076 = .ok (.iload_n 3, 1) := d_29 rfl
set_option maxRecDepth 100000 in
theorem dL_law_1077 : decode cL_law 1077 = .ok (.iconst 2, 1) := d_5 rfl
set_option maxRecDepth 100000 in
theorem dL_law_1078 : decode cL_law 1078 = .ok (.iadd, 1) := d_96 rfl
set_option maxRecDepth 100000 in
theorem dL_law_1079 : decode cL_law 1079 = .ok (.iaload, 1) := d_46 rfl
set_option maxRecDepth 100000 in
theorem dL_law_1080 : decode cL_law 1080 = .ok (.aload_n 0, 1) := d_42 rfl
set_option maxRecDepth 100000 in
theorem dL_law_1081 : decode cL_law 1081 = .ok (.iload_n 3, 1) := d_29 rfl
set_option maxRecDepth 100000 in
theorem dL_law_1082 : decode cL_law 1082 = .ok (.iconst 3, 1) := d_6 rfl
set_option maxRecDepth 100000 in
theorem dL_law_1083 : decode cL_law 1083 = .ok (.iadd, 1) := d_96 rfl
set_option maxRecDepth 100000 in
theorem dL_law_1084 : decode cL_law 1084 = .ok (.iaload, 1) := d_46 rfl
set_option maxRecDepth 100000 in
theorem dL_law_1085 : decode cL_law 1085 = .ok (.aload_n 0, 1) := d_42 rfl
set_option maxRecDepth 100000 in
theorem dL_law_1086 : decode cL_law 1086 = .ok (.iload_n 3, 1) := d_29 rfl
set_option maxRecDepth 100000 in
theorem dL_law_1087 : decode cL_law 1087 = .ok (.iconst 4, 1) := d_7 rfl
set_option maxRecDepth 100000 in
theorem dL_law_1088 : decode cL_law 1088 = .ok (.iadd, 1) := d_96 rfl
set_option maxRecDepth 100000 in
theorem dL_law_1089 : decode cL_law 1089 = .ok (.iaload, 1) := d_46 rfl
set_option maxRecDepth 100000 in
theorem dL_law_1090 : decode cL_law 1090 = .ok (.invokevirtual 107, 3) := d_182 (b1 := 0) (b2 := 107) rfl rfl rfl
set_option maxRecDepth 100000 in
theorem dL_law_1093 : decode cL_law 1093 = .ok (.pop, 1) := d_87 rfl
set_option maxRecDepth 100000 in
theorem dL_law_1094 : decode cL_law 1094 = .ok (.goto 840, 3) := d_167 (b1 := 3) (b2 := 72) rfl rfl rfl (by decide +kernel)
set_option maxRecDepth 100000 in
theorem dL_law_1097 : decode cL_law 1097 = .ok (.aload_n 1, 1) := d_43 rfl
set_option maxRecDepth 100000 in
theorem dL_law_1098 : decode cL_law 1098 = .ok (.aload_n 0, 1) := d_42 rfl
set_option maxRecDepth 100000 in
theorem dL_law_1099 : decode cL_law 1099 = .ok (.iload_n 3, 1) := d_29 rfl
set_option maxRecDepth 100000 in
theorem dL_law_1100 : decode cL_law 1100 = .ok (.iconst 1, 1) := d_4 rfl
set_option maxRecDepth 100000 in
theorem dL_law_1101 : decode cL_law 1101 = .ok (.iadd, 1) := d_96 rfl
set_option maxRecDepth 100000 in
theorem dL_law_1102 : decode cL_law 1102 = .ok (.iaload, 1) := d_46 rfl
set_option maxRecDepth 100000 in
theorem dL_law_1103 : decode cL_law 1103 = .ok (.aload_n 0, 1) := d_42 rfl
set_option maxRecDepth 100000 in
theorem dL_law_1104 : decode cL_law 1104 = .ok (.iload_n 3, 1) := d_29 rfl
set_option maxRecDepth 100000 in
theorem dL_law_1105 : decode cL_law 1105 = .ok (.iconst 2, 1) := d_5 rfl
set_option maxRecDepth 100000 in
theorem dL_law_1106 : decode cL_law 1106 = .ok (.iadd, 1) := d_96 rfl
set_option maxRecDepth 100000 in
theorem dL_law_1107 : decode cL_law 1107 = .ok (.iaload, 1) := d_46 rfl
set_option maxRecDepth 100000 in
theorem dL_law_1108 : decode cL_law 1108 = .ok (.aload_n 0, 1) := d_42 rfl
set_option maxRecDepth 100000 in
theorem dL_law_1109 : decode cL_law 1109 = .ok (.iload_n 3, 1) := d_29 rfl
set_option maxRecDepth 100000 in
theorem dL_law_1110 : decode cL_law 1110 = .ok (.iconst 3, 1) := d_6 rfl
set_option maxRecDepth 100000 in
theorem dL_law_1111 : decode cL_law 1111 = .ok (.iadd, 1) := d_96 rfl
set_option maxRecDepth 100000 in
theorem dL_law_1112 : decode cL_law 1112 = .ok (.iaload, 1) := d_46 rfl
set_option maxRecDepth 100000 in
theorem dL_law_1113 : decode cL_law 1113 = .ok (.invokevirtual 108, 3) := d_182 (b1 := 0) (b2 := 108) rfl rfl rfl
set_option maxRecDepth 100000 in
theorem dL_law_1116 : decode cL_law 1116 = .ok (.pop2, 1) := d_88 rfl
set_option maxRecDepth 100000 in
theorem dL_law_1117 : decode cL_law 1117 = .ok (.aload_n 2, 1) := d_44 rfl
set_option maxRecDepth 100000 in
theorem dL_law_1118 : decode cL_law 1118 = .ok (.aload_n 0, 1) := d_42 rfl
set_option maxRecDepth 100000 in
theorem dL_law_1119 : decode cL_law 1119 = .ok (.iload_n 3, 1) := d_29 rfl
set_option maxRecDepth 100000 in
theorem dL_law_1120 : decode cL_law 1120 = .ok (.iconst 1, 1) := d_4 rfl
set_option maxRecDepth 100000 in
theorem dL_law_1121 : decode cL_law 1121 = .ok (.iadd, 1) := d_96 rfl
set_option maxRecDepth 100000 in
theorem dL_law_1122 : decode cL_law 1122 = .ok (.iaload, 1) := d_46 rfl
set_option maxRecDepth 100000 in
theorem dL_law_1123 : decode cL_law 1123 = .ok (.aload_n 0, 1) := d_42 rfl
set_option maxRecDepth 100000 in
theorem dL_law_1124 : decode cL_law 1124 = .ok (.iload_n 3, 1) := d_29 rfl
set_option maxRecDepth 100000 in
theorem dL_law_1125 : decode cL_law 1125 = .ok (.iconst 2, 1) := d_5 rfl
set_option maxRecDepth 100000 in
theorem dL_law_1126 : decode cL_law 1126 = .ok (.iadd, 1) := d_96 rfl
set_option maxRecDepth 100000 in
theorem dL_law_1127 : decode cL_law 1127 = .ok (.iaload, 1) := d_46 rfl
set_option maxRecDepth 100000 in
theorem dL_law_1128 : decode cL_law 1128 = .ok (.aload_n 0, 1) := d_42 rfl
set_option maxRecDepth 100000 in
theorem dL_law_1129 : decode cL_law 1129 = .ok (.iload_n 3, 1) := d_29 rfl
set_option maxRecDepth 100000 in
theorem dL_law_1130 : decode cL_law 1130 = .ok (.iconst 3, 1) := d_6 rfl
set_option maxRecDepth 100000 in
theorem dL_law_1131 : decode cL_law 1131 = .ok (.iadd, 1) := d_96 rfl
set_option maxRecDepth 100000 in
theorem dL_law_1132 : decode cL_law 1132 = .ok (.iaload, 1) := d_46 rfl
set_option maxRecDepth 100000 in
theorem dL_law_1133 : decode cL_law 1133 = .ok (.invokevirtual 112, 3) := d_182 (b1 := 0) (b2 := 112) rfl rfl rfl
set_option maxRecDepth 100000 in
theorem dL_law_1136 : decode cL_law 1136 = .ok (.pop2, 1) := d_88 rfl
set_option maxRecDepth 100000 in
theorem dL_law_1137 : decode cL_law 1137 = .ok (.goto 797, 3) := d_167 (b1 := 3) (b2 := 29) rfl rfl rfl (by decide +kernel)
set_option maxRecDepth 100000 in
theorem dL_law_1140 : decode cL_law 1140 = .ok (.aload_n 1, 1) := d_43 rfl
set_option maxRecDepth 100000 in
theorem dL_law_1141 : decode cL_law 1141 = .ok (.aload_n 0, 1) := d_42 rfl
set_option maxRecDepth 100000 in
theorem dL_law_1142 : decode cL_law 1142 = .ok (.iload_n 3, 1) := d_29 rfl
set_option maxRecDepth 100000 in
theorem dL_law_1143 : decode cL_law 1143 = .ok (.iconst 1, 1) := d_4 rfl
set_option maxRecDepth 100000 in
theorem dL_law_1144 : decode cL_law 1144 = .ok (.iadd, 1) := d_96 rfl
set_option maxRecDepth 100000 in
theorem dL_law_1145 : decode cL_law 1145 = .ok (.iaload, 1) := d_46 rfl
set_option maxRecDepth 100000 in
theorem dL_law_1146 : decode cL_law 1146 = .ok (.aload_n 0, 1) := d_42 rfl
set_option maxRecDepth 100000 in
theorem dL_law_1147 : decode cL_law 1147 = .ok (.iload_n 3, 1) := d_29 rfl
set_option maxRecDepth 100000 in
theorem dL_law_1148 : decode cL_law 1148 = .ok (.iconst 2, 1) := d_5 rfl
set_option maxRecDepth 100000 in
theorem dL_law_1149 : decode cL_law 1149 = .ok (.iadd, 1) := d_96 rfl
set_option maxRecDepth 100000 in
theorem dL_law_1150 : decode cL_law 1150 = .ok (.iaload, 1) := d_46 rfl
set_option maxRecDepth 100000 in
theorem dL_law_1151 : decode cL_law 1151 = .ok (.aload_n 0, 1) := d_42 rfl
set_option maxRecDepth 100000 in
theorem dL_law_1152 : decode cL_law 1152 = .ok (.iload_n 3, 1) := d_29 rfl
set_option maxRecDepth 100000 in
theorem dL_law_1153 : decode cL_law 1153 = .ok (.iconst 3, 1) := d_6 rfl
set_option maxRecDepth 100000 in
theorem dL_law_1154 : decode cL_law 1154 = .ok (.iadd, 1) := d_96 rfl
set_option maxRecDepth 100000 in
theorem dL_law_1155 : decode cL_law 1155 = .ok (.iaload, 1) := d_46 rfl
set_option maxRecDepth 100000 in
theorem dL_law_1156 : decode cL_law 1156 = .ok (.invokevirtual 113, 3) := d_182 (b1 := 0) (b2 := 113) rfl rfl rfl
set_option maxRecDepth 100000 in
theorem dL_law_1159 : decode cL_law 1159 = .ok (.pop, 1) := d_87 rfl
set_option maxRecDepth 100000 in
theorem dL_law_1160 : decode cL_law 1160 = .ok (.aload_n 2, 1) := d_44 rfl
set_option maxRecDepth 100000 in
theorem dL_law_1161 : decode cL_law 1161 = .ok (.aload_n 0, 1) := d_42 rfl
set_option maxRecDepth 100000 in
theorem dL_law_1162 : decode cL_law 1162 = .ok (.iload_n 3, 1) := d_29 rfl
set_option maxRecDepth 100000 in
theorem dL_law_1163 : decode cL_law 1163 = .ok (.iconst 1, 1) := d_4 rfl
set_option maxRecDepth 100000 in
theorem dL_law_1164 : decode cL_law 1164 = .ok (.iadd, 1) := d_96 rfl
set_option maxRecDepth 100000 in
theorem dL_law_1165 : decode cL_law 1165 = .ok (.iaload, 1) := d_46 rfl
set_option maxRecDepth 100000 in
theorem dL_law_1166 : decode cL_law 1166 = .ok (.aload_n 0, 1) := d_42 rfl
set_option maxRecDepth 100000 in
theorem dL_law_1167 : decode cL_law 1167 = .ok (.iload_n 3, 1) := d_29 rfl
set_option maxRecDepth 100000 in
theorem dL_law_1168 : decode cL_law 1168 = .ok (.iconst 2, 1) := d_5 rfl
set_option maxRecDepth 100000 in
theorem dL_law_1169 : decode cL_law 1169 = .ok (.iadd, 1) := d_96 rfl
set_option maxRecDepth 100000 in
theorem dL_law_1170 : decode cL_law 1170 = .ok (.iaload, 1) := d_46 rfl
set_option maxRecDepth 100000 in
theorem dL_law_1171 : decode cL_law 1171 = .ok (.aload_n 0, 1) := d_42 rfl
set_option maxRecDepth 100000 in
theorem dL_law_1172 : decode cL_law 1172 = .ok (.iload_n 3, 1) := d_29 rfl
set_option maxRecDepth 100000 in
theorem dL_law_1173 : decode cL_law 1173 = .ok (.iconst 3, 1) := d_6 rfl
set_option maxRecDepth 100000 in
theorem dL_law_1174 : decode cL_law 1174 = .ok (.iadd, 1) := d_96 rfl
set_option maxRecDepth 100000 in
theorem dL_law_1175 : decode cL_law 1175 = .ok (.iaload, 1) := d_46 rfl
set_option maxRecDepth 100000 in
theorem dL_law_1176 : decode cL_law 1176 = .ok (.invokevirtual 116, 3) := d_182 (b1 := 0) (b2 := 116) rfl rfl rfl
set_option maxRecDepth 100000 in
theorem dL_law_1179 : decode cL_law 1179 = .ok (.pop, 1) := d_87 rfl
set_option maxRecDepth 100000 in
theorem dL_law_1180 : decode cL_law 1180 = .ok (.goto 754, 3) := d_167 (b1 := 2) (b2 := 242) rfl rfl rfl (by decide +kernel)
set_option maxRecDepth 100000 in
theorem dL_law_1183 : decode cL_law 1183 = .ok (.aload_n 1, 1) := d_43 rfl
set_option maxRecDepth 100000 in
theorem dL_law_1184 : decode cL_law 1184 = .ok (.aload_n 0, 1) := d_42 rfl
set_option maxRecDepth 100000 in
theorem dL_law_1185 : decode cL_law 1185 = .ok (.iload_n 3, 1) := d_29 rfl
set_option maxRecDepth 100000 in
theorem dL_law_1186 : decode cL_law 1186 = .ok (.iconst 1, 1) := d_4 rfl
set_option maxRecDepth 100000 in
theorem dL_law_1187 : decode cL_law 1187 = .ok (.iadd, 1) := d_96 rfl
set_option maxRecDepth 100000 in
theorem dL_law_1188 : decode cL_law 1188 = .ok (.iaload, 1) := d_46 rfl
set_option maxRecDepth 100000 in
theorem dL_law_1189 : decode cL_law 1189 = .ok (.aload_n 0, 1) := d_42 rfl
set_option maxRecDepth 100000 in
theorem dL_law_1190 : decode cL_law 1190 = .ok (.iload_n 3, 1) := d_29 rfl
set_option maxRecDepth 100000 in
theorem dL_law_1191 : decode cL_law 1191 = .ok (.iconst 2, 1) := d_5 rfl
set_option maxRecDepth 100000 in
theorem dL_law_1192 : decode cL_law 1192 = .ok (.iadd, 1) := d_96 rfl
set_option maxRecDepth 100000 in
theorem dL_law_1193 : decode cL_law 1193 = .ok (.iaload, 1) := d_46 rfl
set_option maxRecDepth 100000 in
theorem dL_law_1194 : decode cL_law 1194 = .ok (.aload_n 0, 1) := d_42 rfl
set_option maxRecDepth 100000 in
theorem dL_law_1195 : decode cL_law 1195 = .ok (.iload_n 3, 1) := d_29 rfl
set_option maxRecDepth 100000 in
theorem dL_law_1196 : decode cL_law 1196 = .ok (.iconst 3, 1) := d_6 rfl
set_option maxRecDepth 100000 in
theorem dL_law_1197 : decode cL_law 1197 = .ok (.iadd, 1) := d_96 rfl
set_option maxRecDepth 100000 in
theorem dL_law_1198 : decode cL_law 1198 = .ok (.iaload, 1) := d_46 rfl
set_option maxRecDepth 100000 in
theorem dL_law_1199 : decode cL_law 1199 = .ok (.aload_n 0, 1) := d_42 rfl
set_option maxRecDepth 100000 in
theorem dL_law_1200 : decode cL_law 1200 = .ok (.iload_n 3, 1) := d_29 rfl
set_option maxRecDepth 100000 in
theorem dL_law_1201 : decode cL_law 1201 = .ok (.iconst 4, 1) := d_7 rfl
set_option maxRecDepth 100000 in
theorem dL_law_1202 : decode cL_law 1202 = .ok (.iadd, 1) := d_96 rfl
set_option maxRecDepth 100000 in
theorem dL_law_1203 : decode cL_law 1203 = .ok (.iaload, 1) := d_46 rfl
set_option maxRecDepth 100000 in
theorem dL_law_1204 : decode cL_law 1204 = .ok (.invokevirtual 117, 3) := d_182 (b1 := 0) (b2 := 117) rfl rfl rfl
set_option maxRecDepth 100000 in
theorem dL_law_1207 : decode cL_law 1207 = .ok (.pop, 1) := d_87 rfl
set_option maxRecDepth 100000 in
theorem dL_law_1208 : decode cL_law 1208 = .ok (.aload_n 2, 1) := d_44 rfl
set_option maxRecDepth 100000 in
theorem dL_law_1209 : decode cL_law 1209 = .ok (.aload_n 0, 1) := d_42 rfl
set_option maxRecDepth 100000 in
theorem dL_law_1210 : decode cL_law 1210 = .ok (.iload_n 3, 1) := d_29 rfl
set_option maxRecDepth 100000 in
theorem dL_law_1211 : decode cL_law 1211 = .ok (.iconst 1, 1) := d_4 rfl
set_option maxRecDepth 100000 in
theorem dL_law_1212 : decode cL_law 1212 = .ok (.iadd, 1) := d_96 rfl
set_option maxRecDepth 100000 in
theorem dL_law_1213 : decode cL_law 1213 = .ok (.iaload, 1) := d_46 rfl
set_option maxRecDepth 100000 in
theorem dL_law_1214 : decode cL_law 1214 = .ok (.aload_n 0, 1) := d_42 rfl
set_option maxRecDepth 100000 in
theorem dL_law_1215 : decode cL_law 1215 = .ok (.iload_n 3, 1) := d_29 rfl
set_option maxRecDepth 100000 in
theorem dL_law_1216 : decode cL_law 1216 = .ok (.iconst 2, 1) := d_5 rfl
set_option maxRecDepth 100000 in
theorem dL_law_1217 : decode cL_law 1217 = .ok (.iadd, 1) := d_96 rfl
set_option maxRecDepth 100000 in
theorem dL_law_1218 : decode cL_law 1218 = .ok (.iaload, 1) := d_46 rfl
set_option maxRecDepth 100000 in
theorem dL_law_1219 : decode cL_law 1219 = .ok (.aload_n 0, 1) := d_42 rfl
set_option maxRecDepth 100000 in
theorem dL_law_1220 : decode cL_law 1220 = .ok (.iload_n 3, 1) := d_29 rfl
set_option maxRecDepth 100000 in
theorem dL_law_1221 : decode cL_law 1221 = .ok (.iconst 3, 1) := d_6 rfl
set_option maxRecDepth 100000 in
theorem dL_law_1222 : decode cL_law 1222 = .ok (.iadd, 1) := d_96 rfl
set_option maxRecDepth 100000 in
theorem dL_law_1223 : decode cL_law 1223 = .ok (.iaload, 1) := d_46 rfl
set_option maxRecDepth 100000 in
theorem dL_law_1224 : decode cL_law 1224 = .ok (.aload_n 0, 1) := d_42 rfl
set_option maxRecDepth 100000 in
theorem dL_law_1225 : decode cL_law 1225 = .ok (.iload_n 3, 1) := d_29 rfl
set_option maxRecDepth 100000 in
theorem dL_law_1226 : decode cL_law 1226 = .ok (.iconst 4, 1) := d_7 rfl
set_option maxRecDepth 100000 in
theorem dL_law_1227 : decode cL_law 1227 = .ok (.iadd, 1) := d_96 rfl
set_option maxRecDepth 100000 in
theorem dL_law_1228 : decode cL_law 1228 = .ok (.iaload, 1) := d_46 rfl
set_option maxRecDepth 100000 in
theorem dL_law_1229 : decode cL_law 1229 = .ok (.invokevirtual 121, 3) := d_182 (b1 := 0) (b2 := 121) rfl rfl rfl
set_option maxRecDepth 100000 in
theorem dL_law_1232 : decode cL_law 1232 = .ok (.pop, 1) := d_87 rfl
set_option maxRecDepth 100000 in
theorem dL_law_1233 : decode cL_law 1233 = .ok (.goto 701, 3) := d_167 (b1 := 2) (b2 := 189) rfl rfl rfl (by decide +kernel)
set_option maxRecDepth 100000 in
theorem dL_law_1236 : decode cL_law 1236 = .ok (.aload_n 1, 1) := d_43 rfl
set_option maxRecDepth 100000 in
theorem dL_law_1237 : decode cL_law 1237 = .ok (.aload_n 0, 1) := d_42 rfl
set_option maxRecDepth 100000 in
theorem dL_law_1238 : decode cL_law 1238 = .ok (.iload_n 3, 1) := d_29 rfl
set_option maxRecDepth 100000 in
theorem dL_law_1239 : decode cL_law 1239 = .ok (.iconst 1, 1) := d_4 rfl
set_option maxRecDepth 100000 in
theorem dL_law_1240 : decode cL_law 1240 = .ok (.iadd, 1) := d_96 rfl
set_option maxRecDepth 100000 in
theorem dL_law_1241 : decode cL_law 1241 = .ok (.iaload, 1) := d_46 rfl
set_option maxRecDepth 100000 in
theorem dL_law_1242 : decode cL_law 1242 = .ok (.aload_n 0, 1) := d_42 rfl
set_option maxRecDepth 100000 in
theorem dL_law_1243 : decode cL_law 1243 = .ok (.iload_n 3, 1) := d_29 rfl
set_option maxRecDepth 100000 in
theorem dL_law_1244 : decode cL_law 1244 = .ok (.iconst 2, 1) := d_5 rfl
set_option maxRecDepth 100000 in
theorem dL_law_1245 : decode cL_law 1245 = .ok (.iadd, 1) := d_96 rfl
set_option maxRecDepth 100000 in
theorem dL_law_1246 : decode cL_law 1246 = .ok (.iaload, 1) := d_46 rfl
set_option maxRecDepth 100000 in
theorem dL_law_1247 : decode cL_law 1247 = .ok (.aload_n 0, 1) := d_42 rfl
set_option maxRecDepth 100000 in
theorem dL_law_1248 : decode cL_law 1248 = .ok (.iload_n 3, 1) := d_29 rfl
set_option maxRecDepth 100000 in
theorem dL_law_1249 : decode cL_law 1249 = .ok (.iconst 3, 1) := d_6 rfl
set_option maxRecDepth 100000 in
theorem dL_law_1250 : decode cL_law 1250 = .ok (.iadd, 1) := d_96 rfl
set_option maxRecDepth 100000 in
theorem dL_law_1251 : decode cL_law 1251 = .ok (.iaload, 1) := d_46 rfl
set_option maxRecDepth 100000 in
theorem dL_law_1252 : decode cL_law 1252 = .ok (.invokevirtual 122, 3) := d_182 (b1 := 0) (b2 := 122) rfl rfl rfl
set_option maxRecDepth 100000 in
theorem dL_law_1255 : decode cL_law 1255 = .ok (.pop2, 1) := d_88 rfl
set_option maxRecDepth 100000 in
theorem dL_law_1256 : decode cL_law 1256 = .ok (.aload_n 2, 1) := d_44 rfl
set_option maxRecDepth 100000 in
theorem dL_law_1257 : decode cL_law 1257 = .ok (.aload_n 0, 1) := d_42 rfl
set_option maxRecDepth 100000 in
theorem dL_law_1258 : decode cL_law 1258 = .ok (.iload_n 3, 1) := d_29 rfl
set_option maxRecDepth 100000 in
theorem dL_law_1259 : decode cL_law 1259 = .ok (.iconst 1, 1) := d_4 rfl
set_option maxRecDepth 100000 in
theorem dL_law_1260 : decode cL_law 1260 = .ok (.iadd, 1) := d_96 rfl
set_option maxRecDepth 100000 in
theorem dL_law_1261 : decode cL_law 1261 = .ok (.iaload, 1) := d_46 rfl
set_option maxRecDepth 100000 in
theorem dL_law_1262 : decode cL_law 1262 = .ok (.aload_n 0, 1) := d_42 rfl
set_option maxRecDepth 100000 in
theorem dL_law_1263 : decode cL_law 1263 = .ok (.iload_n 3, 1) := d_29 rfl
set_option maxRecDepth 100000 in
theorem dL_law_1264 : decode cL_law 1264 = .ok (.iconst 2, 1) := d_5 rfl
set_option maxRecDepth 100000 in
theorem dL_law_1265 : decode cL_law 1265 = .ok (.iadd, 1) := d_96 rfl
set_option maxRecDepth 100000 in
theorem dL_law_1266 : decode cL_law 1266 = .ok (.iaload, 1) := d_46 rfl
set_option maxRecDepth 100000 in
theorem dL_law_1267 : decode cL_law 1267 = .ok (.aload_n 0, 1) := d_42 rfl
set_option maxRecDepth 100000 in
theorem dL_law_1268 : decode cL_law 1268 = .ok (.iload_n 3, 1) := d_29 rfl
set_option maxRecDepth 100000 in
theorem dL_law_1269 : decode cL_law 1269 = .ok (.iconst 3, 1) := d_6 rfl
set_option maxRecDepth 100000 in
theorem dL_law_1270 : decode cL_law 1270 = .ok (.iadd, 1) := d_96 rfl
set_option maxRecDepth 100000 in
theorem dL_law_1271 : decode cL_law 1271 = .ok (.iaload, 1) := d_46 rfl
set_option maxRecDepth 100000 in
theorem dL_law_1272 : decode cL_law 1272 = .ok (.invokevirtual 125, 3) := d_182 (b1 := 0) (b2 := 125) rfl rfl rfl
set_option maxRecDepth 100000 in
theorem dL_law_1275 : decode cL_law 1275 = .ok (.pop2, 1) := d_88 rfl
set_option maxRecDepth 100000 in
theorem dL_law_1276 : decode cL_law 1276 = .ok (.goto 658, 3) := d_167 (b1 := 2) (b2 := 146) rfl rfl rfl (by decide +kernel)
set_option maxRecDepth 100000 in
theorem dL_law_1279 : decode cL_law 1279 = .ok (.aload_n 1, 1) := d_43 rfl
set_option maxRecDepth 100000 in
theorem dL_law_1280 : decode cL_law 1280 = .ok (.aload_n 0, 1) := d_42 rfl
set_option maxRecDepth 100000 in
theorem dL_law_1281 : decode cL_law 1281 = .ok (.iload_n 3, 1) := d_29 rfl
set_option maxRecDepth 100000 in
theorem dL_law_1282 : decode cL_law 1282 = .ok (.iconst 1, 1) := d_4 rfl
set_option maxRecDepth 100000 in
theorem dL_law_1283 : decode cL_law 1283 = .ok (.iadd, 1) := d_96 rfl
set_option maxRecDepth 100000 in
theorem dL_law_1284 : decode cL_law 1284 = .ok (.iaload, 1) := d_46 rfl
set_option maxRecDepth 100000 in
theorem dL_law_1285 : decode cL_law 1285 = .ok (.aload_n 0, 1) := d_42 rfl
set_option maxRecDepth 100000 in
theorem dL_law_1286 : decode cL_law 1286 = .ok (.iload_n 3, 1) := d_29 rfl
set_option maxRecDepth 100000 in
theorem dL_law_1287 : decode cL_law 1287 = .ok (.iconst 2, 1) := d_5 rfl
set_option maxRecDepth 100000 in
theorem dL_law_1288 : decode cL_law 1288 = .ok (.iadd, 1) := d_96 rfl
set_option maxRecDepth 100000 in
theorem dL_law_1289 : decode cL_law 1289 = .ok (.iaload, 1) := d_46 rfl
set_option maxRecDepth 100000 in
theorem dL_law_1290 : decode cL_law 1290 = .ok (.aload_n 0, 1) := d_42 rfl
set_option maxRecDepth 100000 in
theorem dL_law_1291 : decode cL_law 1291 = .ok (.iload_n 3, 1) := d_29 rfl
set_option maxRecDepth 100000 in
theorem dL_law_1292 : decode cL_law 1292 = .ok (.iconst 3, 1) := d_6 rfl
set_option maxRecDepth 100000 in
theorem dL_law_1293 : decode cL_law 1293 = .ok (.iadd, 1) := d_96 rfl
set_option maxRecDepth 100000 in
theorem dL_law_1294 : decode cL_law 1294 = .ok (.iaload, 1) := d_46 rfl
set_option maxRecDepth 100000 in
theorem dL_law_1295 : decode cL_law 1295 = .ok (.invokevirtual 126, 3) := d_182 (b1 := 0) (b2 := 126) rfl rfl rfl
set_option maxRecDepth 100000 in
theorem dL_law_1298 : decode cL_law 1298 = .ok (.pop, 1) := d_87 rfl
set_option maxRecDepth 100000 in
theorem dL_law_1299 : decode cL_law 1299 = .ok (.aload_n 2, 1) := d_44 rfl
set_option maxRecDepth 100000 in
theorem dL_law_1300 : decode cL_law 1300 = .ok (.aload_n 0, 1) := d_42 rfl
set_option maxRecDepth 100000 in
theorem dL_law_1301 : decode cL_law 1301 = .ok (.iload_n 3, 1) := d_29 rfl
set_option maxRecDepth 100000 in
theorem dL_law_1302 : decode cL_law 1302 = .ok (.iconst 1, 1) := d_4 rfl
set_option maxRecDepth 100000 in
theorem dL_law_1303 : decode cL_law 1303 = .ok (.iadd, 1) := d_96 rfl
set_option maxRecDepth 100000 in
theorem dL_law_1304 : decode cL_law 1304 = .ok (.iaload, 1) := d_46 rfl
set_option maxRecDepth 100000 in
theorem dL_law_1305 : decode cL_law 1305 = .ok (.aload_n 0, 1) := d_42 rfl
set_option maxRecDepth 100000 in
theorem dL_law_1306 : decode cL_law 1306 = .ok (.iload_n 3, 1) := d_29 rfl
set_option maxRecDepth 100000 in
theorem dL_law_1307 : decode cL_law 1307 = .ok (.iconst 2, 1) := d_5 rfl
set_option maxRecDepth 100000 in
theorem dL_law_1308 : decode cL_law 1308 = .ok (.iadd, 1) := d_96 rfl
set_option maxRecDepth 100000 in
theorem dL_law_1309 : decode cL_law 1309 = .ok (.iaload, 1) := d_46 rfl
set_option maxRecDepth 100000 in
theorem dL_law_1310 : decode cL_law 1310 = .ok (.aload_n 0, 1) := d_42 rfl
set_option maxRecDepth 100000 in
theorem dL_law_1311 : decode cL_law 1311 = .ok (.iload_n 3, 1) := d_29 rfl
set_option maxRecDepth 100000 in
theorem dL_law_1312 : decode cL_law 1312 = .ok (.iconst 3, 1) := d_6 rfl
set_option maxRecDepth 100000 in
theorem dL_law_1313 : decode cL_law 1313 = .ok (.iadd, 1) := d_96 rfl
set_option maxRecDepth 100000 in
theorem dL_law_1314 : decode cL_law 1314 = .ok (.iaload, 1) := d_46 rfl
set_option maxRecDepth 100000 in
theorem dL_law_1315 : decode cL_law 1315 = .ok (.invokevirtual 129, 3) := d_182 (b1 := 0) (b2 := 129) rfl rfl rfl
set_option maxRecDepth 100000 in
theorem dL_law_1318 : decode cL_law 1318 = .ok (.pop, 1) := d_87 rfl
set_option maxRecDepth 100000 in
theorem dL_law_1319 : decode cL_law 1319 = .ok (.goto 615, 3) := d_167 (b1 := 2) (b2 := 103) rfl rfl rfl (by decide +kernel)
set_option maxRecDepth 100000 in
theorem dL_law_1322 : decode cL_law 1322 = .ok (.aload_n 1, 1) := d_43 rfl
set_option maxRecDepth 100000 in
theorem dL_law_1323 : decode cL_law 1323 = .ok (.aload_n 0, 1) := d_42 rfl
set_option maxRecDepth 100000 in
theorem dL_law_1324 : decode cL_law 1324 = .ok (.iload_n 3, 1) := d_29 rfl
set_option maxRecDepth 100000 in
theorem dL_law_1325 : decode cL_law 1325 = .ok (.iconst 1, 1) := d_4 rfl
set_option maxRecDepth 100000 in
theorem dL_law_1326 : decode cL_law 1326 = .ok (.iadd, 1) := d_96 rfl
set_option maxRecDepth 100000 in
theorem dL_law_1327 : decode cL_law 1327 = .ok (.iaload, 1) := d_46 rfl
set_option maxRecDepth 100000 in
theorem dL_law_1328 : decode cL_law 1328 = .ok (.invokevirtual 130, 3) := d_182 (b1 := 0) (b2 := 130) rfl rfl rfl
set_option maxRecDepth 100000 in
theorem dL_law_1331 : decode cL_law 1331 = .ok (.pop, 1) := d_87 rfl
set_option maxRecDepth 100000 in
theorem dL_law_1332 : decode cL_law 1332 = .ok (.aload_n 2, 1) := d_44 rfl
set_option maxRecDepth 100000 in
theorem dL_law_1333 : decode cL_law 1333 = .ok (.aload_n 0, 1) := d_42 rfl
set_option maxRecDepth 100000 in
theorem dL_law_1334 : decode cL_law 1334 = .ok (.iload_n 3, 1) := d_29 rfl
set_option maxRecDepth 100000 in
theorem dL_law_1335 : decode cL_law 1335 = .ok (.iconst 1, 1) := d_4 rfl
set_option maxRecDepth 100000 in
theorem dL_law_1336 : decode cL_law 1336 = .ok (.iadd, 1) := d_96 rfl
set_option maxRecDepth 100000 in
theorem dL_law_1337 : decode cL_law 1337 = .ok (.iaload, 1) := d_46 rfl
set_option maxRecDepth 100000 in
theorem dL_law_1338 : decode cL_law 1338 = .ok (.invokevirtual 133, 3) := d_182 (b1 := 0) (b2 := 133) rfl rfl rfl
set_option maxRecDepth 100000 in
theorem dL_law_1341 : decode cL_law 1341 = .ok (.pop, 1) := d_87 rfl
set_option maxRecDepth 100000 in
theorem dL_law_1342 : decode cL_law 1342 = .ok (.goto 592, 3) := d_167 (b1 := 2) (b2 := 80) rfl rfl rfl (by decide +kernel)
set_option maxRecDepth 100000 in
theorem dL_law_1345 : decode cL_law 1345 = .ok (.aload_n 1, 1) := d_43 rfl
set_option maxRecDepth 100000 in
theorem dL_law_1346 : decode cL_law 1346 = .ok (.aload_n 0, 1) := d_42 rfl
set_option maxRecDepth 100000 in
theorem dL_law_1347 : decode cL_law 1347 = .ok (.iload_n 3, 1) := d_29 rfl
set_option maxRecDepth 100000 in
theorem dL_law_1348 : decode cL_law 1348 = .ok (.iconst 1, 1) := d_4 rfl
set_option maxRecDepth 100000 in
theorem dL_law_1349 : decode cL_law 1349 = .ok (.iadd, 1) := d_96 rfl
set_option maxRecDepth 100000 in
theorem dL_law_1350 : decode cL_law 1350 = .ok (.iaload, 1) := d_46 rfl
set_option maxRecDepth 100000 in
theorem dL_law_1351 : decode cL_law 1351 = .ok (.aload_n 0, 1) := d_42 rfl
set_option maxRecDepth 100000 in
theorem dL_law_1352 : decode cL_law 1352 = .ok (.iload_n 3, 1) := d_29 rfl
set_option maxRecDepth 100000 in
theorem dL_law_1353 : decode cL_law 1353 = .ok (.iconst 2, 1) := d_5 rfl
set_option maxRecDepth 100000 in
theorem dL_law_1354 : decode cL_law 1354 = .ok (.iadd, 1) := d_96 rfl
set_option maxRecDepth 100000 in
theorem dL_law_1355 : decode cL_law 1355 = .ok (.iaload, 1) := d_46 rfl
set_option maxRecDepth 100000 in
theorem dL_law_1356 : decode cL_law 1356 = .ok (.invokevirtual 134, 3) := d_182 (b1 := 0) (b2 := 134) rfl rfl rfl
set_option maxRecDepth 100000 in
theorem dL_law_1359 : decode cL_law 1359 = .ok (.pop2, 1) := d_88 rfl
set_option maxRecDepth 100000 in
theorem dL_law_1360 : decode cL_law 1360 = .ok (.aload_n 2, 1) := d_44 rfl
set_option maxRecDepth 100000 in
theorem dL_law_1361 : decode cL_law 1361 = .ok (.aload_n 0, 1) := d_42 rfl
set_option maxRecDepth 100000 in
theorem dL_law_1362 : decode cL_law 1362 = .ok (.iload_n 3, 1) := d_29 rfl
set_option maxRecDepth 100000 in
theorem dL_law_1363 : decode cL_law 1363 = .ok (.iconst 1, 1) := d_4 rfl
set_option maxRecDepth 100000 in
theorem dL_law_1364 : decode cL_law 1364 = .ok (.iadd, 1) := d_96 rfl
set_option maxRecDepth 100000 in
theorem dL_law_1365 : decode cL_law 1365 = .ok (.iaload, 1) := d_46 rfl
set_option maxRecDepth 100000 in
theorem dL_law_1366 : decode cL_law 1366 = .ok (.aload_n 0, 1) := d_42 rfl
set_option maxRecDepth 100000 in
theorem dL_law_1367 : decode cL_law 1367 = .ok (.iload_n 3, 1) := d_29 rfl
set_option maxRecDepth 100000 in
theorem dL_law_1368 : decode cL_law 1368 = .ok (.iconst 2, 1) := d_5 rfl
set_option maxRecDepth 100000 in
theorem dL_law_1369 : decode cL_law 1369 = .ok (.iadd, 1) := d_96 rfl
set_option maxRecDepth 100000 in
theorem dL_law_1370 : decode cL_law 1370 = .ok (.iaload, 1) := d_46 rfl
set_option maxRecDepth 100000 in
theorem dL_law_1371 : decode cL_law 1371 = .ok (.invokevirtual 138, 3) := d_182 (b1 := 0) (b2 := 138) rfl rfl rfl
set_option maxRecDepth 100000 in
theorem dL_law_1374 : decode cL_law 1374 = .ok (.pop2, 1) := d_88 rfl
set_option maxRecDepth 100000 in
theorem dL_law_1375 : decode cL_law 1375 = .ok (.goto 559, 3) := d_167 (b1 := 2) (b2 := 47) rfl rfl rfl (by decide +kernel)
set_option maxRecDepth 100000 in
theorem dL_law_1378 : decode cL_law 1378 = .ok (.aload_n 1, 1) := d_43 rfl
set_option maxRecDepth 100000 in
theorem dL_law_1379 : decode cL_law 1379 = .ok (.aload_n 0, 1) := d_42 rfl
set_option maxRecDepth 100000 in
theorem dL_law_1380 : decode cL_law 1380 = .ok (.iload_n 3, 1) := d_29 rfl
set_option maxRecDepth 100000 in
theorem dL_law_1381 : decode cL_law 1381 = .ok (.iconst 1, 1) := d_4 rfl
set_option maxRecDepth 100000 in
theorem dL_law_1382 : decode cL_law 1382 = .ok (.iadd, 1) := d_96 rfl
set_option maxRecDepth 100000 in
theorem dL_law_1383 : decode cL_law 1383 = .ok (.iaload, 1) := d_46 rfl
set_option maxRecDepth 100000 in
theorem dL_law_1384 : decode cL_law 1384 = .ok (.aload_n 0, 1) := d_42 rfl
set_option maxRecDepth 100000 in
theorem dL_law_1385 : decode cL_law 1385 = .ok (.iload_n 3, 1) := d_29 rfl
set_option maxRecDepth 100000 in
theorem dL_law_1386 : decode cL_law 1386 = .ok (.iconst 2, 1) := d_5 rfl
set_option maxRecDepth 100000 in
theorem dL_law_1387 : decode cL_law 1387 = .ok (.iadd, 1) := d_96 rfl
set_option maxRecDepth 100000 in
theorem dL_law_1388 : decode cL_law 1388 = .ok (.iaload, 1) := d_46 rfl
set_option maxRecDepth 100000 in
theorem dL_law_1389 : decode cL_law 1389 = .ok (.aload_n 0, 1) := d_42 rfl
set_option maxRecDepth 100000 in
theorem dL_law_1390 : decode cL_law 1390 = .ok (.iload_n 3, 1) := d_29 rfl
set_option maxRecDepth 100000 in
theorem dL_law_1391 : decode cL_law 1391 = .ok (.iconst 3, 1) := d_6 rfl
set_option maxRecDepth 100000 in
theorem dL_law_1392 : decode cL_law 1392 = .ok (.iadd, 1) := d_96 rfl
set_option maxRecDepth 100000 in
theorem dL_law_1393 : decode cL_law 1393 = .ok (.iaload, 1) := d_46 rfl
set_option maxRecDepth 100000 in
theorem dL_law_1394 : decode cL_law 1394 = .ok (.invokevirtual 139, 3) := d_182 (b1 := 0) (b2 := 139) rfl rfl rfl
set_option maxRecDepth 100000 in
theorem dL_law_1397 : decode cL_law 1397 = .ok (.pop, 1) := d_87 rfl
set_option maxRecDepth 100000 in
theorem dL_law_1398 : decode cL_law 1398 = .ok (.aload_n 2, 1) := d_44 rfl
set_option maxRecDepth 100000 in
theorem dL_law_1399 : decode cL_law 1399 = .ok (.aload_n 0, 1) := d_42 rfl
set_option maxRecDepth 100000 in
theorem dL_law_1400 : decode cL_law 1400 = .ok (.iload_n 3, 1) := d_29 rfl
set_option maxRecDepth 100000 in
theorem dL_law_1401 : decode cL_law 1401 = .ok (.iconst 1, 1) := d_4 rfl
set_option maxRecDepth 100000 in
theorem dL_law_1402 : decode cL_law 1402 = .ok (.iadd, 1) := d_96 rfl
set_option maxRecDepth 100000 in
theorem dL_law_1403 : decode cL_law 1403 = .ok (.iaload, 1) := d_46 rfl
set_option maxRecDepth 100000 in
theorem dL_law_1404 : decode cL_law 1404 = .ok (.aload_n 0, 1) := d_42 rfl
set_option maxRecDepth 100000 in
theorem dL_law_1405 : decode cL_law 1405 = .ok (.iload_n 3, 1) := d_29 rfl
set_option maxRecDepth 100000 in
theorem dL_law_1406 : decode cL_law 1406 = .ok (.iconst 2, 1) := d_5 rfl
set_option maxRecDepth 100000 in
theorem dL_law_1407 : decode cL_law 1407 = .ok (.iadd, 1) := d_96 rfl
set_option maxRecDepth 100000 in
theorem dL_law_1408 : decode cL_law 1408 = .ok (.iaload, 1) := d_46 rfl
set_option maxRecDepth 100000 in
theorem dL_law_1409 : decode cL_law 1409 = .ok (.aload_n 0, 1) := d_42 rfl
set_option maxRecDepth 100000 in
theorem dL_law_1410 : decode cL_law 1410 = .ok (.iload_n 3, 1) := d_29 rfl
set_option maxRecDepth 100000 in
theorem dL_law_1411 : decode cL_law 1411 = .ok (.iconst 3, 1) := d_6 rfl
set_option maxRecDepth 100000 in
theorem dL_law_1412 : decode cL_law 1412 = .ok (.iadd, 1) := d_96 rfl
set_option maxRecDepth 100000 in
theorem dL_law_1413 : decode cL_law 1413 = .ok (.iaload, 1) := d_46 rfl
set_option maxRecDepth 100000 in
theorem dL_law_1414 : decode cL_law 1414 = .ok (.invokevirtual 142, 3) := d_182 (b1 := 0) (b2 := 142) rfl rfl rfl
set_option maxRecDepth 100000 in
theorem dL_law_1417 : decode cL_law 1417 = .ok (.pop, 1) := d_87 rfl
set_option maxRecDepth 100000 in
theorem dL_law_1418 : decode cL_law 1418 = .ok (.goto 516, 3) := d_167 (b1 := 2) (b2 := 4) rfl rfl rfl (by decide +kernel)
set_option maxRecDepth 100000 in
theorem dL_law_1421 : decode cL_law 1421 = .ok (.aload_n 1, 1) := d_43 rfl
set_option maxRecDepth 100000 in
theorem dL_law_1422 : decode cL_law 1422 = .ok (.aload_n 0, 1) := d_42 rfl
set_option maxRecDepth 100000 in
theorem dL_law_1423 : decode cL_law 1423 = .ok (.iload_n 3, 1) := d_29 rfl
set_option maxRecDepth 100000 in
theorem dL_law_1424 : decode cL_law 1424 = .ok (.iconst 1, 1) := d_4 rfl
set_option maxRecDepth 100000 in
theorem dL_law_1425 : decode cL_law 1425 = .ok (.iadd, 1) := d_96 rfl
set_option maxRecDepth 100000 in
theorem dL_law_1426 : decode cL_law 1426 = .ok (.iaload, 1) := d_46 rfl
set_option maxRecDepth 100000 in
theorem dL_law_1427 : decode cL_law 1427 = .ok (.aload_n 0, 1) := d_42 rfl
set_option maxRecDepth 100000 in
theorem dL_law_1428 : decode cL_law 1428 = .ok (.iload_n 3, 1) := d_29 rfl
set_option maxRecDepth 100000 in
theorem dL_law_1429 : decode cL_law 1429 = .ok (.iconst 2, 1) := d_5 rfl
set_option maxRecDepth 100000 in
theorem dL_law_1430 : decode cL_law 1430 = .ok (.iadd, 1) := d_96 rfl
set_option maxRecDepth 100000 in
theorem dL_law_1431 : decode cL_law 1431 = .ok (.iaload, 1) := d_46 rfl
set_option maxRecDepth 100000 in
theorem dL_law_1432 : decode cL_law 1432 = .ok (.aload_n 0, 1) := d_42 rfl
set_option maxRecDepth 100000 in
theorem dL_law_1433 : decode cL_law 1433 = .ok (.iload_n 3, 1) := d_29 rfl
set_option maxRecDepth 100000 in
theorem dL_law_1434 : decode cL_law 1434 = .ok (.iconst 3, 1) := d_6 rfl
set_option maxRecDepth 100000 in
theorem dL_law_1435 : decode cL_law 1435 = .ok (.iadd, 1) := d_96 rfl
set_option maxRecDepth 100000 in
theorem dL_law_1436 : decode cL_law 1436 = .ok (.iaload, 1) := d_46 rfl
set_option maxRecDepth 100000 in
theorem dL_law_1437 : decode cL_law 1437 = .ok (.invokevirtual 143, 3) := d_182 (b1 := 0) (b2 := 143) rfl rfl rfl
set_option maxRecDepth 100000 in
theorem dL_law_1440 : decode cL_law 1440 = .ok (.pop, 1) := d_87 rfl
set_option maxRecDepth 100000 in
theorem dL_law_1441 : decode cL_law 1441 = .ok (.aload_n 2, 1) := d_44 rfl
set_option maxRecDepth 100000 in
theorem dL_law_1442 : decode cL_law 1442 = .ok (.aload_n 0, 1) := d_42 rfl
set_option maxRecDepth 100000 in
theorem dL_law_1443 : decode cL_law 1443 = .ok (.iload_n 3, 1) := d_29 rfl
set_option maxRecDepth 100000 in
theorem dL_law_1444 : decode cL_law 1444 = .ok (.iconst 1, 1) := d_4 rfl
set_option maxRecDepth 100000 in
theorem dL_law_1445 : decode cL_law 1445 = .ok (.iadd, 1) := d_96 rfl
set_option maxRecDepth 100000 in
theorem dL_law_1446 : decode cL_law 1446 = .ok (.iaload, 1) := d_46 rfl
set_option maxRecDepth 100000 in
theorem dL_law_1447 : decode cL_law 1447 = .ok (.aload_n 0, 1) := d_42 rfl
set_option maxRecDepth 100000 in
theorem dL_law_1448 : decode cL_law 1448 = .ok (.iload_n 3, 1) := d_29 rfl
set_option maxRecDepth 100000 in
theorem dL_law_1449 : decode cL_law 1449 = .ok (.iconst 2, 1) := d_5 rfl
set_option maxRecDepth 100000 in
theorem dL_law_1450 : decode cL_law 1450 = .ok (.iadd, 1) := d_96 rfl
set_option maxRecDepth 100000 in
theorem dL_law_1451 : decode cL_law 1451 = .ok (.iaload, 1) := d_46 rfl
set_option maxRecDepth 100000 in
theorem dL_law_1452 : decode cL_law 1452 = .ok (.aload_n 0, 1) := d_42 rfl
set_option maxRecDepth 100000 in
theorem dL_law_1453 : decode cL_law 1453 = .ok (.iload_n 3, 1) := d_29 rfl
set_option maxRecDepth 100000 in
theorem dL_law_1454 : decode cL_law 1454 = .ok (.iconst 3, 1) := d_6 rfl
set_option maxRecDepth 100000 in
theorem dL_law_1455 : decode cL_law 1455 = .ok (.iadd, 1) := d_96 rfl
set_option maxRecDepth 100000 in
theorem dL_law_1456 : decode cL_law 1456 = .ok (.iaload, 1) := d_46 rfl
set_option maxRecDepth 100000 in
theorem dL_law_1457 : decode cL_law 1457 = .ok (.invokevirtual 146, 3) := d_182 (b1 := 0) (b2 := 146) rfl rfl rfl
set_option maxRecDepth 100000 in
theorem dL_law_1460 : decode cL_law 1460 = .ok (.pop, 1) := d_87 rfl
set_option maxRecDepth 100000 in
theorem dL_law_1461 : decode cL_law 1461 = .ok (.goto 473, 3) := d_167 (b1 := 1) (b2 := 217) rfl rfl rfl (by decide +kernel)
set_option maxRecDepth 100000 in
theorem dL_law_1464 : decode cL_law 1464 = .ok (.aload_n 1, 1) := d_43 rfl
set_option maxRecDepth 100000 in
theorem dL_law_1465 : decode cL_law 1465 = .ok (.aload_n 0, 1) := d_42 rfl
set_option maxRecDepth 100000 in
theorem dL_law_1466 : decode cL_law 1466 = .ok (.iload_n 3, 1) := d_29 rfl
set_option maxRecDepth 100000 in
theorem dL_law_1467 : decode cL_law 1467 = .ok (.iconst 1, 1) := d_4 rfl
set_option maxRecDepth 100000 in
theorem dL_law_1468 : decode cL_law 1468 = .ok (.iadd, 1) := d_96 rfl
set_option maxRecDepth 100000 in
theorem dL_law_1469 : decode cL_law 1469 = .ok (.iaload, 1) := d_46 rfl
set_option maxRecDepth 100000 in
theorem dL_law_1470 : decode cL_law 1470 = .ok (.aload_n 0, 1) := d_42 rfl
set_option maxRecDepth 100000 in
theorem dL_law_1471 : decode cL_law 1471 = .ok (.iload_n 3, 1) := d_29 rfl
set_option maxRecDepth 100000 in
theorem dL_law_1472 : decode cL_law 1472 = .ok (.iconst 2, 1) := d_5 rfl
set_option maxRecDepth 100000 in
theorem dL_law_1473 : decode cL_law 1473 = .ok (.iadd, 1) := d_96 rfl
set_option maxRecDepth 100000 in
theorem dL_law_1474 : decode cL_law 1474 = .ok (.iaload, 1) := d_46 rfl
set_option maxRecDepth 100000 in
theorem dL_law_1475 : decode cL_law 1475 = .ok (.aload_n 0, 1) := d_42 rfl
set_option maxRecDepth 100000 in
theorem dL_law_1476 : decode cL_law 1476 = .ok (.iload_n 3, 1) := d_29 rfl
set_option maxRecDepth 100000 in
theorem dL_law_1477 : decode cL_law 1477 = .ok (.iconst 3, 1) := d_6 rfl
set_option maxRecDepth 100000 in
theorem dL_law_1478 : decode cL_law 1478 = .ok (.iadd, 1) := d_96 rfl
set_option maxRecDepth 100000 in
theorem dL_law_1479 : decode cL_law 1479 = .ok (.iaload, 1) := d_46 rfl
set_option maxRecDepth 100000 in
theorem dL_law_1480 : decode cL_law 1480 = .ok (.invokevirtual 147, 3) := d_182 (b1 := 0) (b2 := 147) rfl rfl rfl
set_option maxRecDepth 100000 in
theorem dL_law_1483 : decode cL_law 1483 = .ok (.pop, 1) := d_87 rfl
set_option maxRecDepth 100000 in
theorem dL_law_1484 : decode cL_law 1484 = .ok (.aload_n 2, 1) := d_44 rfl
set_option maxRecDepth 100000 in
theorem dL_law_1485 : decode cL_law 1485 = .ok (.aload_n 0, 1) := d_42 rfl
set_option maxRecDepth 100000 in
theorem dL_law_1486 : decode cL_law 1486 = .ok (.iload_n 3, 1) := d_29 rfl
set_option maxRecDepth 100000 in
theorem dL_law_1487 : decode cL_law 1487 = .ok (.iconst 1, 1) := d_4 rfl
set_option maxRecDepth 100000 in
theorem dL_law_1488 : decode cL_law 1488 = .ok (.iadd, 1) := d_96 rfl
set_option maxRecDepth 100000 in
theorem dL_law_1489 : decode cL_law 1489 = .ok (.iaload, 1) := d_46 rfl
set_option maxRecDepth 100000 in
theorem dL_law_1490 : decode cL_law 1490 = .ok (.aload_n 0, 1) := d_42 rfl
set_option maxRecDepth 100000 in
theorem dL_law_1491 : decode cL_law 1491 = .ok (.iload_n 3, 1) := d_29 rfl
set_option maxRecDepth 100000 in
theorem dL_law_1492 : decode cL_law 1492 = .ok (.iconst 2, 1) := d_5 rfl
set_option maxRecDepth 100000 in
theorem dL_law_1493 : decode cL_law 1493 = .ok (.iadd, 1) := d_96 rfl
set_option maxRecDepth 100000 in
theorem dL_law_1494 : decode cL_law 1494 = .ok (.iaload, 1) := d_46 rfl
set_option maxRecDepth 100000 in
theorem dL_law_1495 : decode cL_law 1495 = .ok (.aload_n 0, 1) := d_42 rfl
set_option maxRecDepth 100000 in
theorem dL_law_1496 : decode cL_law 1496 = .ok (.iload_n 3, 1) := d_29 rfl
set_option maxRecDepth 100000 in
theorem dL_law_1497 : decode cL_law 1497 = .ok (.iconst 3, 1) := d_6 rfl
set_option maxRecDepth 100000 in
theorem dL_law_1498 : decode cL_law 1498 = .ok (.iadd, 1) := d_96 rfl
set_option maxRecDepth 100000 in
theorem dL_law_1499 : decode cL_law 1499 = .ok (.iaload, 1) := d_46 rfl
set_option maxRecDepth 100000 in
theorem dL_law_1500 : decode cL_law 1500 = .ok (.invokevirtual 150, 3) := d_182 (b1 := 0) (b2 := 150) rfl rfl rfl
set_option maxRecDepth 100000 in
theorem dL_law_1503 : decode cL_law 1503 = .ok (.pop, 1) := d_87 rfl
set_option maxRecDepth 100000 in
theorem dL_law_1504 : decode cL_law 1504 = .ok (.goto 430, 3) := d_167 (b1 := 1) (b2 := 174) rfl rfl rfl (by decide +kernel)
set_option maxRecDepth 100000 in
theorem dL_law_1507 : decode cL_law 1507 = .ok (.aload_n 1, 1) := d_43 rfl
set_option maxRecDepth 100000 in
theorem dL_law_1508 : decode cL_law 1508 = .ok (.aload_n 0, 1) := d_42 rfl
set_option maxRecDepth 100000 in
theorem dL_law_1509 : decode cL_law 1509 = .ok (.iload_n 3, 1) := d_29 rfl
set_option maxRecDepth 100000 in
theorem dL_law_1510 : decode cL_law 1510 = .ok (.iconst 1, 1) := d_4 rfl
set_option maxRecDepth 100000 in
theorem dL_law_1511 : decode cL_law 1511 = .ok (.iadd, 1) := d_96 rfl
set_option maxRecDepth 100000 in
theorem dL_law_1512 : decode cL_law 1512 = .ok (.iaload, 1) := d_46 rfl
set_option maxRecDepth 100000 in
theorem dL_law_1513 : decode cL_law 1513 = .ok (.aload_n 0, 1) := d_42 rfl
set_option maxRecDepth 100000 in
theorem dL_law_1514 : decode cL_law 1514 = .ok (.iload_n 3, 1) := d_29 rfl
set_option maxRecDepth 100000 in
theorem dL_law_1515 : decode cL_law 1515 = .ok (.iconst 2, 1) := d_5 rfl
set_option maxRecDepth 100000 in
theorem dL_law_1516 : decode cL_law 1516 = .ok (.iadd, 1) := d_96 rfl
set_option maxRecDepth 100000 in
theorem dL_law_1517 : decode cL_law 1517 = .ok (.iaload, 1) := d_46 rfl
set_option maxRecDepth 100000 in
theorem dL_law_1518 : decode cL_law 1518 = .ok (.invokevirtual 151, 3) := d_182 (b1 := 0) (b2 := 151) rfl rfl rfl
set_option maxRecDepth 100000 in
theorem dL_law_1521 : decode cL_law 1521 = .ok (.pop, 1) := d_87 rfl
set_option maxRecDepth 100000 in
theorem dL_law_1522 : decode cL_law 1522 = .ok (.aload_n 2, 1) := d_44 rfl
set_option maxRecDepth 100000 in
theorem dL_law_1523 : decode cL_law 1523 = .ok (.aload_n 0, 1) := d_42 rfl
set_option maxRecDepth 100000 in
theorem dL_law_1524 : decode cL_law 1524 = .ok (.iload_n 3, 1) := d_29 rfl
set_option maxRecDepth 100000 in
theorem dL_law_1525 : decode cL_law 1525 = .ok (.iconst 1, 1) := d_4 rfl
set_option maxRecDepth 100000 in
theorem dL_law_1526 : decode cL_law 1526 = .ok (.iadd, 1) := d_96 rfl
set_option maxRecDepth 100000 in
theorem dL_law_1527 : decode cL_law 1527 = .ok (.iaload, 1) := d_46 rfl
set_option maxRecDepth 100000 in
theorem dL_law_1528 : decode cL_law 1528 = .ok (.aload_n 0, 1) := d_42 rfl
set_option maxRecDepth 100000 in
theorem dL_law_1529 : decode cL_law 1529 = .ok (.iload_n 3, 1) := d_29 rfl
set_option maxRecDepth 100000 in
theorem dL_law_1530 : decode cL_law 1530 = .ok (.iconst 2, 1) := d_5 rfl
set_option maxRecDepth 100000 in
theorem dL_law_1531 : decode cL_law 1531 = .ok (.iadd, 1) := d_96 rfl
set_option maxRecDepth 100000 in
theorem dL_law_1532 : decode cL_law 1532 = .ok (.iaload, 1) := d_46 rfl
set_option maxRecDepth 100000 in
theorem dL_law_1533 : decode cL_law 1533 = .ok (.invokevirtual 154, 3) := d_182 (b1 := 0) (b2 := 154) rfl rfl rfl
set_option maxRecDepth 100000 in
theorem dL_law_1536 : decode cL_law 1536 = .ok (.pop, 1) := d_87 rfl
set_option maxRecDepth 100000 in
theorem dL_law_1537 : decode cL_law 1537 = .ok (.goto 397, 3) := d_167 (b1 := 1) (b2 := 141) rfl rfl rfl (by decide +kernel)
set_option maxRecDepth 100000 in
theorem dL_law_1540 : decode cL_law 1540 = .ok (.aload_n 1, 1) := d_43 rfl
set_option maxRecDepth 100000 in
theorem dL_law_1541 : decode cL_law 1541 = .ok (.aload_n 0, 1) := d_42 rfl
set_option maxRecDepth 100000 in
theorem dL_law_1542 : decode cL_law 1542 = .ok (.iload_n 3, 1) := d_29 rfl
set_option maxRecDepth 100000 in
theorem dL_law_1543 : decode cL_law 1543 = .ok (.iconst 1, 1) := d_4 rfl
set_option maxRecDepth 100000 in
theorem dL_law_1544 : decode cL_law 1544 = .ok (.iadd, 1) := d_96 rfl
set_option maxRecDepth 100000 in
theorem dL_law_1545 : decode cL_law 1545 = .ok (.iaload, 1) := d_46 rfl
set_option maxRecDepth 100000 in
theorem dL_law_1546 : decode cL_law 1546 = .ok (.invokevirtual 155, 3) := d_182 (b1 := 0) (b2 := 155) rfl rfl rfl
set_option maxRecDepth 100000 in
theorem dL_law_1549 : decode cL_law 1549 = .ok (.aload_n 2, 1) := d_44 rfl
set_option maxRecDepth 100000 in
theorem dL_law_1550 : decode cL_law 1550 = .ok (.aload_n 0, 1) := d_42 rfl
set_option maxRecDepth 100000 in
theorem dL_law_1551 : decode cL_law 1551 = .ok (.iload_n 3, 1) := d_29 rfl
set_option maxRecDepth 100000 in
theorem dL_law_1552 : decode cL_law 1552 = .ok (.iconst 1, 1) := d_4 rfl
set_option maxRecDepth 100000 in
theorem dL_law_1553 : decode cL_law 1553 = .ok (.iadd, 1) := d_96 rfl
set_option maxRecDepth 100000 in
theorem dL_law_1554 : decode cL_law 1554 = .ok (.iaload, 1) := d_46 rfl
set_option maxRecDepth 100000 in
theorem dL_law_1555 : decode cL_law 1555 = .ok (.invokevirtual 159, 3) := d_182 (b1 := 0) (b2 := 159) rfl rfl rfl
set_option maxRecDepth 100000 in
theorem dL_law_1558 : decode cL_law 1558 = .ok (.lcmp, 1) := d_148 rfl
set_option maxRecDepth 100000 in
theorem dL_law_1559 : decode cL_law 1559 = .ok (.ifCond .eq 375, 3) := d_153 (b1 := 1) (b2 := 119) rfl rfl rfl (by decide +kernel)
set_option maxRecDepth 100000 in
theorem dL_law_1562 : decode cL_law 1562 = .ok (.iconst 0, 1) := d_3 rfl
set_option maxRecDepth 100000 in
theorem dL_law_1563 : decode cL_law 1563 = .ok (.ireturn, 1) := d_172 rfl
set_option maxRecDepth 100000 in
theorem dL_law_1564 : decode cL_law 1564 = .ok (.aload_n 1, 1) := d_43 rfl
set_option maxRecDepth 100000 in
theorem dL_law_1565 : decode cL_law 1565 = .ok (.aload_n 0, 1) := d_42 rfl
set_option maxRecDepth 100000 in
theorem dL_law_1566 : decode cL_law 1566 = .ok (.iload_n 3, 1) := d_29 rfl
set_option maxRecDepth 100000 in
theorem dL_law_1567 : decode cL_law 1567 = .ok (.iconst 1, 1) := d_4 rfl
set_option maxRecDepth 100000 in
theorem dL_law_1568 : decode cL_law 1568 = .ok (.iadd, 1) := d_96 rfl
set_option maxRecDepth 100000 in
theorem dL_law_1569 : decode cL_law 1569 = .ok (.iaload, 1) := d_46 rfl
set_option maxRecDepth 100000 in
theorem dL_law_1570 : decode cL_law 1570 = .ok (.invokevirtual 160, 3) := d_182 (b1 := 0) (b2 := 160) rfl rfl rfl
set_option maxRecDepth 100000 in
theorem dL_law_1573 : decode cL_law 1573 = .ok (.pop, 1) := d_87 rfl
set_option maxRecDepth 100000 in
theorem dL_law_1574 : decode cL_law 1574 = .ok (.aload_n 2, 1) := d_44 rfl
set_option maxRecDepth 100000 in
theorem dL_law_1575 : decode cL_law 1575 = .ok (.aload_n 0, 1) := d_42 rfl
set_option maxRecDepth 100000 in
theorem dL_law_1576 : decode cL_law 1576 = .ok (.iload_n 3, 1) := d_29 rfl
set_option maxRecDepth 100000 in
theorem dL_law_1577 : decode cL_law 1577 = .ok (.iconst 1, 1) := d_4 rfl
set_option maxRecDepth 100000 in
theorem dL_law_1578 : decode cL_law 1578 = .ok (.iadd, 1) := d_96 rfl
set_option maxRecDepth 100000 in
theorem dL_law_1579 : decode cL_law 1579 = .ok (.iaload, 1) := d_46 rfl
set_option maxRecDepth 100000 in
theorem dL_law_1580 : decode cL_law 1580 = .ok (.invokevirtual 163, 3) := d_182 (b1 := 0) (b2 := 163) rfl rfl rfl
set_option maxRecDepth 100000 in
theorem dL_law_1583 : decode cL_law 1583 = .ok (.pop, 1) := d_87 rfl
set_option maxRecDepth 100000 in
theorem dL_law_1584 : decode cL_law 1584 = .ok (.goto 350, 3) := d_167 (b1 := 1) (b2 := 94) rfl rfl rfl (by decide +kernel)
set_option maxRecDepth 100000 in
theorem dL_law_1587 : decode cL_law 1587 = .ok (.aload_n 1, 1) := d_43 rfl
set_option maxRecDepth 100000 in
theorem dL_law_1588 : decode cL_law 1588 = .ok (.aload_n 0, 1) := d_42 rfl
set_option maxRecDepth 100000 in
theorem dL_law_1589 : decode cL_law 1589 = .ok (.iload_n 3, 1) := d_29 rfl
set_option maxRecDepth 100000 in
theorem dL_law_1590 : decode cL_law 1590 = .ok (.iconst 1, 1) := d_4 rfl
set_option maxRecDepth 100000 in
theorem dL_law_1591 : decode cL_law 1591 = .ok (.iadd, 1) := d_96 rfl
set_option maxRecDepth 100000 in
theorem dL_law_1592 : decode cL_law 1592 = .ok (.iaload, 1) := d_46 rfl
set_option maxRecDepth 100000 in
theorem dL_law_1593 : decode cL_law 1593 = .ok (.aload_n 0, 1) := d_42 rfl
set_option maxRecDepth 100000 in
theorem dL_law_1594 : decode cL_law 1594 = .ok (.iload_n 3, 1) := d_29 rfl
set_option maxRecDepth 100000 in
theorem dL_law_1595 : decode cL_law 1595 = .ok (.iconst 2, 1) := d_5 rfl
set_option maxRecDepth 100000 in
theorem dL_law_1596 : decode cL_law 1596 = .ok (.iadd, 1) := d_96 rfl
set_option maxRecDepth 100000 in
theorem dL_law_1597 : decode cL_law 1597 = .ok (.iaload, 1) := d_46 rfl
set_option maxRecDepth 100000 in
theorem dL_law_1598 : decode cL_law 1598 = .ok (.aload_n 0, 1) := d_42 rfl
set_option maxRecDepth 100000 in
theorem dL_law_1599 : decode cL_law 1599 = .ok (.iload_n 3, 1) := d_29 rfl
set_option maxRecDepth 100000 in
theorem dL_law_1600 : decode cL_law 1600 = .ok (.iconst 3, 1) := d_6 rfl
set_option maxRecDepth 100000 in
theorem dL_law_1601 : decode cL_law 1601 = .ok (.iadd, 1) := d_96 rfl
set_option maxRecDepth 100000 in
theorem dL_law_1602 : decode cL_law 1602 = .ok (.iaload, 1) := d_46 rfl
set_option maxRecDepth 100000 in
theorem dL_law_1603 : decode cL_law 1603 = .ok (.aload_n 0, 1) := d_42 rfl
set_option maxRecDepth 100000 in
theorem dL_law_1604 : decode cL_law 1604 = .ok (.iload_n 3, 1) := d_29 rfl
set_option maxRecDepth 100000 in
theorem dL_law_1605 : decode cL_law 1605 = .ok (.iconst 4, 1) := d_7 rfl
set_option maxRecDepth 100000 in
theorem dL_law_1606 : decode cL_law 1606 = .ok (.iadd, 1) := d_96 rfl
set_option maxRecDepth 100000 in
theorem dL_law_1607 : decode cL_law 1607 = .ok (.iaload, 1) := d_46 rfl
set_option maxRecDepth 100000 in
theorem dL_law_1608 : decode cL_law 1608 = .ok (.invokevirtual 164, 3) := d_182 (b1 := 0) (b2 := 164) rfl rfl rfl
set_option maxRecDepth 100000 in
theorem dL_law_1611 : decode cL_law 1611 = .ok (.pop2, 1) := d_88 rfl
set_option maxRecDepth 100000 in
theorem dL_law_1612 : decode cL_law 1612 = .ok (.aload_n 2, 1) := d_44 rfl
set_option maxRecDepth 100000 in
theorem dL_law_1613 : decode cL_law 1613 = .ok (.aload_n 0, 1) := d_42 rfl
set_option maxRecDepth 100000 in
theorem dL_law_1614 : decode cL_law 1614 = .ok (.iload_n 3, 1) := d_29 rfl
set_option maxRecDepth 100000 in
theorem dL_law_1615 : decode cL_law 1615 = .ok (.iconst 1, 1) := d_4 rfl
set_option maxRecDepth 100000 in
theorem dL_law_1616 : decode cL_law 1616 = .ok (.iadd, 1) := d_96 rfl
set_option maxRecDepth 100000 in
theorem dL_law_1617 : decode cL_law 1617 = .ok (.iaload, 1) := d_46 rfl
set_option maxRecDepth 100000 in
theorem dL_law_1618 : decode cL_law 1618 = .ok (.aload_n 0, 1) := d_42 rfl
set_option maxRecDepth 100000 in
theorem dL_law_1619 : decode cL_law 1619 = .ok (.iload_n 3, 1) := d_29 rfl
set_option maxRecDepth 100000 in
theorem dL_law_1620 : decode cL_law 1620 = .ok (.iconst 2, 1) := d_5 rfl
set_option maxRecDepth 100000 in
theorem dL_law_1621 : decode cL_law 1621 = .ok (.iadd, 1) := d_96 rfl
set_option maxRecDepth 100000 in
theorem dL_law_1622 : decode cL_law 1622 = .ok (.iaload, 1) := d_46 rfl
set_option maxRecDepth 100000 in
theorem dL_law_1623 : decode cL_law 1623 = .ok (.aload_n 0, 1) := d_42 rfl
set_option maxRecDepth 100000 in
theorem dL_law_1624 : decode cL_law 1624 = .ok (.iload_n 3, 1) := d_29 rfl
set_option maxRecDepth 100000 in
theorem dL_law_1625 : decode cL_law 1625 = .ok (.iconst 3, 1) := d_6 rfl
set_option maxRecDepth 100000 in
theorem dL_law_1626 : decode cL_law 1626 = .ok (.iadd, 1) := d_96 rfl
set_option maxRecDepth 100000 in
theorem dL_law_1627 : decode cL_law 1627 = .ok (.iaload, 1) := d_46 rfl
set_option maxRecDepth 100000 in
theorem dL_law_1628 : decode cL_law 1628 = .ok (.aload_n 0, 1) := d_42 rfl
set_option maxRecDepth 100000 in
theorem dL_law_1629 : decode cL_law 1629 = .ok (.iload_n 3, 1) := d_29 rfl
set_option maxRecDepth 100000 in
theorem dL_law_1630 : decode cL_law 1630 = .ok (.iconst 4, 1) := d_7 rfl
set_option maxRecDepth 100000 in
theorem dL_law_1631 : decode cL_law 1631 = .ok (.iadd, 1) := d_96 rfl
set_option maxRecDepth 100000 in
theorem dL_law_1632 : decode cL_law 1632 = .ok (.iaload, 1) := d_46 rfl
set_option maxRecDepth 100000 in
theorem dL_law_1633 : decode cL_law 1633 = .ok (.invokevirtual 168, 3) := d_182 (b1 := 0) (b2 := 168) rfl rfl rfl
set_option maxRecDepth 100000 in
theorem dL_law_1636 : decode cL_law 1636 = .ok (.pop2, 1) := d_88 rfl
set_option maxRecDepth 100000 in
theorem dL_law_1637 : decode cL_law 1637 = .ok (.goto 297, 3) := d_167 (b1 := 1) (b2 := 41) rfl rfl rfl (by decide +kernel)
set_option maxRecDepth 100000 in
theorem dL_law_1640 : decode cL_law 1640 = .ok (.aload_n 1, 1) := d_43 rfl
set_option maxRecDepth 100000 in
theorem dL_law_1641 : decode cL_law 1641 = .ok (.aload_n 0, 1) := d_42 rfl
set_option maxRecDepth 100000 in
theorem dL_law_1642 : decode cL_law 1642 = .ok (.iload_n 3, 1) := d_29 rfl
set_option maxRecDepth 100000 in
theorem dL_law_1643 : decode cL_law 1643 = .ok (.iconst 1, 1) := d_4 rfl
set_option maxRecDepth 100000 in
theorem dL_law_1644 : decode cL_law 1644 = .ok (.iadd, 1) := d_96 rfl
set_option maxRecDepth 100000 in
theorem dL_law_1645 : decode cL_law 1645 = .ok (.iaload, 1) := d_46 rfl
set_option maxRecDepth 100000 in
theorem dL_law_1646 : decode cL_law 1646 = .ok (.aload_n 0, 1) := d_42 rfl
set_option maxRecDepth 100000 in
theorem dL_law_1647 : decode cL_law 1647 = .ok (.iload_n 3, 1) := d_29 rfl
set_option maxRecDepth 100000 in
theorem dL_law_1648 : decode cL_law 1648 = .ok (.iconst 2, 1) := d_5 rfl
set_option maxRecDepth 100000 in
theorem dL_law_1649 : decode cL_law 1649 = .ok (.iadd, 1) := d_96 rfl
set_option maxRecDepth 100000 in
theorem dL_law_1650 : decode cL_law 1650 = .ok (.iaload, 1) := d_46 rfl
set_option maxRecDepth 100000 in
theorem dL_law_1651 : decode cL_law 1651 = .ok (.aload_n 0, 1) := d_42 rfl
set_option maxRecDepth 100000 in
theorem dL_law_1652 : decode cL_law 1652 = .ok (.iload_n 3, 1) := d_29 rfl
set_option maxRecDepth 100000 in
theorem dL_law_1653 : decode cL_law 1653 = .ok (.iconst 3, 1) := d_6 rfl
set_option maxRecDepth 100000 in
theorem dL_law_1654 : decode cL_law 1654 = .ok (.iadd, 1) := d_96 rfl
set_option maxRecDepth 100000 in
theorem dL_law_1655 : decode cL_law 1655 = .ok (.iaload, 1) := d_46 rfl
set_option maxRecDepth 100000 in
theorem dL_law_1656 : decode cL_law 1656 = .ok (.invokevirtual 169, 3) := d_182 (b1 := 0) (b2 := 169) rfl rfl rfl
set_option maxRecDepth 100000 in
theorem dL_law_1659 : decode cL_law 1659 = .ok (.pop2, 1) := d_88 rfl
set_option maxRecDepth 100000 in
theorem dL_law_1660 : decode cL_law 1660 = .ok (.aload_n 2, 1) := d_44 rfl
set_option maxRecDepth 100000 in
theorem dL_law_1661 : decode cL_law 1661 = .ok (.aload_n 0, 1) := d_42 rfl
set_option maxRecDepth 100000 in
theorem dL_law_1662 : decode cL_law 1662 = .ok (.iload_n 3, 1) := d_29 rfl
set_option maxRecDepth 100000 in
theorem dL_law_1663 : decode cL_law 1663 = .ok (.iconst 1, 1) := d_4 rfl
set_option maxRecDepth 100000 in
theorem dL_law_1664 : decode cL_law 1664 = .ok (.iadd, 1) := d_96 rfl
set_option maxRecDepth 100000 in
theorem dL_law_1665 : decode cL_law 1665 = .ok (.iaload, 1) := d_46 rfl
set_option maxRecDepth 100000 in
theorem dL_law_1666 : decode cL_law 1666 = .ok (.aload_n 0, 1) := d_42 rfl
set_option maxRecDepth 100000 in
theorem dL_law_1667 : decode cL_law 1667 = .ok (.iload_n 3, 1) := d_29 rfl
set_option maxRecDepth 100000 in
theorem dL_law_1668 : decode cL_law 1668 = .ok (.iconst 2, 1) := d_5 rfl
set_option maxRecDepth 100000 in
theorem dL_law_1669 : decode cL_law 1669 = .ok (.iadd, 1) := d_96 rfl
set_option maxRecDepth 100000 in
theorem dL_law_1670 : decode cL_law 1670 = .ok (.iaload, 1) := d_46 rfl
set_option maxRecDepth 100000 in
theorem dL_law_1671 : decode cL_law 1671 = .ok (.aload_n 0, 1) := d_42 rfl
set_option maxRecDepth 100000 in
theorem dL_law_1672 : decode cL_law 1672 = .ok (.iload_n 3, 1) := d_29 rfl
set_option maxRecDepth 100000 in
theorem dL_law_1673 : decode cL_law 1673 = .ok (.iconst 3, 1) := d_6 rfl
set_option maxRecDepth 100000 in
theorem dL_law_1674 : decode cL_law 1674 = .ok (.iadd, 1) := d_96 rfl
set_option maxRecDepth 100000 in
theorem dL_law_1675 : decode cL_law 1675 = .ok (.iaload, 1) := d_46 rfl
set_option maxRecDepth 100000 in
theorem dL_law_1676 : decode cL_law 1676 = .ok (.invokevirtual 172, 3) := d_182 (b1 := 0) (b2 := 172) rfl rfl rfl
set_option maxRecDepth 100000 in
theorem dL_law_1679 : decode cL_law 1679 = .ok (.pop2, 1) := d_88 rfl
set_option maxRecDepth 100000 in
theorem dL_law_1680 : decode cL_law 1680 = .ok (.goto 254, 3) := d_167 (b1 := 0) (b2 := 254) rfl rfl rfl (by decide +kernel)
set_option maxRecDepth 100000 in
theorem dL_law_1683 : decode cL_law 1683 = .ok (.aload_n 1, 1) := d_43 rfl
set_option maxRecDepth 100000 in
theorem dL_law_1684 : decode cL_law 1684 = .ok (.aload_n 0, 1) := d_42 rfl
set_option maxRecDepth 100000 in
theorem dL_law_1685 : decode cL_law 1685 = .ok (.iload_n 3, 1) := d_29 rfl
set_option maxRecDepth 100000 in
theorem dL_law_1686 : decode cL_law 1686 = .ok (.iconst 1, 1) := d_4 rfl
set_option maxRecDepth 100000 in
theorem dL_law_1687 : decode cL_law 1687 = .ok (.iadd, 1) := d_96 rfl
set_option maxRecDepth 100000 in
theorem dL_law_1688 : decode cL_law 1688 = .ok (.iaload, 1) := d_46 rfl
set_option maxRecDepth 100000 in
theorem dL_law_1689 : decode cL_law 1689 = .ok (.aload_n 0, 1) := d_42 rfl
set_option maxRecDepth 100000 in
theorem dL_law_1690 : decode cL_law 1690 = .ok (.iload_n 3, 1) := d_29 rfl
set_option maxRecDepth 100000 in
theorem dL_law_1691 : decode cL_law 1691 = .ok (.iconst 2, 1) := d_5 rfl
set_option maxRecDepth 100000 in
theorem dL_law_1692 : decode cL_law 1692 = .ok (.iadd, 1) := d_96 rfl
set_option maxRecDepth 100000 in
theorem dL_law_1693 : decode cL_law 1693 = .ok (.iaload, 1) := d_46 rfl
set_option maxRecDepth 100000 in
theorem dL_law_1694 : decode cL_law 1694 = .ok (.aload_n 0, 1) := d_42 rfl
set_option maxRecDepth 100000 in
theorem dL_law_1695 : decode cL_law 1695 = .ok (.iload_n 3, 1) := d_29 rfl
set_option maxRecDepth 100000 in
theorem dL_law_1696 : decode cL_law 1696 = .ok (.iconst 3, 1) := d_6 rfl
set_option maxRecDepth 100000 in
theorem dL_law_1697 : decode cL_law 1697 = .ok (.iadd, 1) := d_96 rfl
set_option maxRecDepth 100000 in
theorem dL_law_1698 : decode cL_law 1698 = .ok (.iaload, 1) := d_46 rfl
set_option maxRecDepth 100000 in
theorem dL_law_1699 : decode cL_law 1699 = .ok (.invokevirtual 173, 3) := d_182 (b1 := 0) (b2 := 173) rfl rfl rfl
set_option maxRecDepth 100000 in
theorem dL_law_1702 : decode cL_law 1702 = .ok (.pop, 1) := d_87 rfl
set_option maxRecDepth 100000 in
theorem dL_law_1703 : decode cL_law 1703 = .ok (.aload_n 2, 1) := d_44 rfl
set_option maxRecDepth 100000 in
theorem dL_law_1704 : decode cL_law 1704 = .ok (.aload_n 0, 1) := d_42 rfl
set_option maxRecDepth 100000 in
theorem dL_law_1705 : decode cL_law 1705 = .ok (.iload_n 3, 1) := d_29 rfl
set_option maxRecDepth 100000 in
theorem dL_law_1706 : decode cL_law 1706 = .ok (.iconst 1, 1) := d_4 rfl
set_option maxRecDepth 100000 in
theorem dL_law_1707 : decode cL_law 1707 = .ok (.iadd, 1) := d_96 rfl
set_option maxRecDepth 100000 in
theorem dL_law_1708 : decode cL_law 1708 = .ok (.iaload, 1) := d_46 rfl
set_option maxRecDepth 100000 in
theorem dL_law_1709 : decode cL_law 1709 = .ok (.aload_n 0, 1) := d_42 rfl
set_option maxRecDepth 100000 in
theorem dL_law_1710 : decode cL_law 1710 = .ok (.iload_n 3, 1) := d_29 rfl
set_option maxRecDepth 100000 in
theorem dL_law_1711 : decode cL_law 1711 = .ok (.iconst 2, 1) := d_5 rfl
set_option maxRecDepth 100000 in
theorem dL_law_1712 : decode cL_law 1712 = .ok (.iadd, 1) := d_96 rfl
set_option maxRecDepth 100000 in
theorem dL_law_1713 : decode cL_law 1713 = .ok (.iaload, 1) := d_46 rfl
set_option maxRecDepth 100000 in
theorem dL_law_1714 : decode cL_law 1714 = .ok (.aload_n 0, 1) := d_42 rfl
set_option maxRecDepth 100000 in
theorem dL_law_1715 : decode cL_law 1715 = .ok (.iload_n 3, 1) := d_29 rfl
set_option maxRecDepth 100000 in
theorem dL_law_1716 : decode cL_law 1716 = .ok (.iconst 3, 1) := d_6 rfl
set_option maxRecDepth 100000 in
theorem dL_law_1717 : decode cL_law 1717 = .ok (.iadd, 1) := d_96 rfl
set_option maxRecDepth 100000 in
theorem dL_law_1718 : decode cL_law 1718 = .ok (.iaload, 1) := d_46 rfl
set_option maxRecDepth 100000 in
theorem dL_law_1719 : decode cL_law 1719 = .ok (.invokevirtual 176, 3) := d_182 (b1 := 0) (b2 := 176) rfl rfl rfl
set_option maxRecDepth 100000 in
theorem dL_law_1722 : decode cL_law 1722 = .ok (.pop, 1) := d_87 rfl
set_option maxRecDepth 100000 in
theorem dL_law_1723 : decode cL_law 1723 = .ok (.goto 211, 3) := d_167 (b1 := 0) (b2 := 211) rfl rfl rfl (by decide +kernel)
set_option maxRecDepth 100000 in
theorem dL_law_1726 : decode cL_law 1726 = .ok (.aload_n 1, 1) := d_43 rfl
set_option maxRecDepth 100000 in
theorem dL_law_1727 : decode cL_law 1727 = .ok (.aload_n 0, 1) := d_42 rfl
set_option maxRecDepth 100000 in
theorem dL_law_1728 : decode cL_law 1728 = .ok (.iload_n 3, 1) := d_29 rfl
set_option maxRecDepth 100000 in
theorem dL_law_1729 : decode cL_law 1729 = .ok (.iconst 1, 1) := d_4 rfl
set_option maxRecDepth 100000 in
theorem dL_law_1730 : decode cL_law 1730 = .ok (.iadd, 1) := d_96 rfl
set_option maxRecDepth 100000 in
theorem dL_law_1731 : decode cL_law 1731 = .ok (.iaload, 1) := d_46 rfl
set_option maxRecDepth 100000 in
theorem dL_law_1732 : decode cL_law 1732 = .ok (.invokevirtual 177, 3) := d_182 (b1 := 0) (b2 := 177) rfl rfl rfl
set_option maxRecDepth 100000 in
theorem dL_law_1735 : decode cL_law 1735 = .ok (.pop, 1) := d_87 rfl
set_option maxRecDepth 100000 in
theorem dL_law_1736 : decode cL_law 1736 = .ok (.aload_n 2, 1) := d_44 rfl
set_option maxRecDepth 100000 in
theorem dL_law_1737 : decode cL_law 1737 = .ok (.aload_n 0, 1) := d_42 rfl
set_option maxRecDepth 100000 in
theorem dL_law_1738 : decode cL_law 1738 = .ok (.iload_n 3, 1) := d_29 rfl
set_option maxRecDepth 100000 in
theorem dL_law_1739 : decode cL_law 1739 = .ok (.iconst 1, 1) := d_4 rfl
set_option maxRecDepth 100000 in
theorem dL_law_1740 : decode cL_law 1740 = .ok (.iadd, 1) := d_96 rfl
set_option maxRecDepth 100000 in
theorem dL_law_1741 : decode cL_law 1741 = .ok (.iaload, 1) := d_46 rfl
set_option maxRecDepth 100000 in
theorem dL_law_1742 : decode cL_law 1742 = .ok (.invokevirtual 180, 3) := d_182 (b1 := 0) (b2 := 180) rfl rfl rfl
set_option maxRecDepth 100000 in
theorem dL_law_1745 : decode cL_law 1745 = .ok (.pop, 1) := d_87 rfl
set_option maxRecDepth 100000 in
theorem dL_law_1746 : decode cL_law 1746 = .ok (.goto 188, 3) := d_167 (b1 := 0) (b2 := 188) rfl rfl rfl (by decide +kernel)
set_option maxRecDepth 100000 in
theorem dL_law_1749 : decode cL_law 1749 = .ok (.aload_n 1, 1) := d_43 rfl
set_option maxRecDepth 100000 in
theorem dL_law_1750 : decode cL_law 1750 = .ok (.aload_n 0, 1) := d_42 rfl
set_option maxRecDepth 100000 in
theorem dL_law_1751 : decode cL_law 1751 = .ok (.iload_n 3, 1) := d_29 rfl
set_option maxRecDepth 100000 in
theorem dL_law_1752 : decode cL_law 1752 = .ok (.iconst 1, 1) := d_4 rfl
set_option maxRecDepth 100000 in
theorem dL_law_1753 : decode cL_law 1753 = .ok (.iadd, 1) := d_96 rfl
set_option maxRecDepth 100000 in
theorem dL_law_1754 : decode cL_law 1754 = .ok (.iaload, 1) := d_46 rfl
set_option maxRecDepth 100000 in
theorem dL_law_1755 : decode cL_law 1755 = .ok (.aload_n 0, 1) := d_42 rfl
set_option maxRecDepth 100000 in
theorem dL_law_1756 : decode cL_law 1756 = .ok (.iload_n 3, 1) := d_29 rfl
set_option maxRecDepth 100000 in
theorem dL_law_1757 : decode cL_law 1757 = .ok (.iconst 2, 1) := d_5 rfl
set_option maxRecDepth 100000 in
theorem dL_law_1758 : decode cL_law 1758 = .ok (.iadd, 1) := d_96 rfl
set_option maxRecDepth 100000 in
theorem dL_law_1759 : decode cL_law 1759 = .ok (.iaload, 1) := d_46 rfl
set_option maxRecDepth 100000 in
theorem dL_law_1760 : decode cL_law 1760 = .ok (.invokevirtual 181, 3) := d_182 (b1 := 0) (b2 := 181) rfl rfl rfl
set_option maxRecDepth 100000 in
theorem dL_law_1763 : decode cL_law 1763 = .ok (.pop, 1) := d_87 rfl
set_option maxRecDepth 100000 in
theorem dL_law_1764 : decode cL_law 1764 = .ok (.aload_n 2, 1) := d_44 rfl
set_option maxRecDepth 100000 in
theorem dL_law_1765 : decode cL_law 1765 = .ok (.aload_n 0, 1) := d_42 rfl
set_option maxRecDepth 100000 in
theorem dL_law_1766 : decode cL_law 1766 = .ok (.iload_n 3, 1) := d_29 rfl
set_option maxRecDepth 100000 in
theorem dL_law_1767 : decode cL_law 1767 = .ok (.iconst 1, 1) := d_4 rfl
set_option maxRecDepth 100000 in
theorem dL_law_1768 : decode cL_law 1768 = .ok (.iadd, 1) := d_96 rfl
set_option maxRecDepth 100000 in
theorem dL_law_1769 : decode cL_law 1769 = .ok (.iaload, 1) := d_46 rfl
set_option maxRecDepth 100000 in
theorem dL_law_1770 : decode cL_law 1770 = .ok (.aload_n 0, 1) := d_42 rfl
set_option maxRecDepth 100000 in
theorem dL_law_1771 : decode cL_law 1771 = .ok (.iload_n 3, 1) := d_29 rfl
set_option maxRecDepth 100000 in
theorem dL_law_1772 : decode cL_law 1772 = .ok (.iconst 2, 1) := d_5 rfl
set_option maxRecDepth 100000 in
theorem dL_law_1773 : decode cL_law 1773 = .ok (.iadd, 1) := d_96 rfl
set_option maxRecDepth 100000 in
theorem dL_law_1774 : decode cL_law 1774 = .ok (.iaload, 1) := d_46 rfl
set_option maxRecDepth 100000 in
theorem dL_law_1775 : decode cL_law 1775 = .ok (.invokevirtual 184, 3) := d_182 (b1 := 0) (b2 := 184) rfl rfl rfl
set_option maxRecDepth 100000 in
theorem dL_law_1778 : decode cL_law 1778 = .ok (.pop, 1) := d_87 rfl
set_option maxRecDepth 100000 in
theorem dL_law_1779 : decode cL_law 1779 = .ok (.goto 155, 3) := d_167 (b1 := 0) (b2 := 155) rfl rfl rfl (by decide +kernel)
set_option maxRecDepth 100000 in
theorem dL_law_1782 : decode cL_law 1782 = .ok (.aload_n 1, 1) := d_43 rfl
set_option maxRecDepth 100000 in
theorem dL_law_1783 : decode cL_law 1783 = .ok (.aload_n 0, 1) := d_42 rfl
set_option maxRecDepth 100000 in
theorem dL_law_1784 : decode cL_law 1784 = .ok (.iload_n 3, 1) := d_29 rfl
set_option maxRecDepth 100000 in
theorem dL_law_1785 : decode cL_law 1785 = .ok (.iconst 1, 1) := d_4 rfl
set_option maxRecDepth 100000 in
theorem dL_law_1786 : decode cL_law 1786 = .ok (.iadd, 1) := d_96 rfl
set_option maxRecDepth 100000 in
theorem dL_law_1787 : decode cL_law 1787 = .ok (.iaload, 1) := d_46 rfl
set_option maxRecDepth 100000 in
theorem dL_law_1788 : decode cL_law 1788 = .ok (.aload_n 0, 1) := d_42 rfl
set_option maxRecDepth 100000 in
theorem dL_law_1789 : decode cL_law 1789 = .ok (.iload_n 3, 1) := d_29 rfl
set_option maxRecDepth 100000 in
theorem dL_law_1790 : decode cL_law 1790 = .ok (.iconst 2, 1) := d_5 rfl
set_option maxRecDepth 100000 in
theorem dL_law_1791 : decode cL_law 1791 = .ok (.iadd, 1) := d_96 rfl
set_option maxRecDepth 100000 in
theorem dL_law_1792 : decode cL_law 1792 = .ok (.iaload, 1) := d_46 rfl
set_option maxRecDepth 100000 in
theorem dL_law_1793 : decode cL_law 1793 = .ok (.aload_n 0, 1) := d_42 rfl
set_option maxRecDepth 100000 in
theorem dL_law_1794 : decode cL_law 1794 = .ok (.iload_n 3, 1) := d_29 rfl
set_option maxRecDepth 100000 in
theorem dL_law_1795 : decode cL_law 1795 = .ok (.iconst 3, 1) := d_6 rfl
set_option maxRecDepth 100000 in
theorem dL_law_1796 : decode cL_law 1796 = .ok (.iadd, 1) := d_96 rfl
set_option maxRecDepth 100000 in
theorem dL_law_1797 : decode cL_law 1797 = .ok (.iaload, 1) := d_46 rfl
set_option maxRecDepth 100000 in
theorem dL_law_1798 : decode cL_law 1798 = .ok (.aload_n 0, 1) := d_42 rfl
set_option maxRecDepth 100000 in
theorem dL_law_1799 : decode cL_law 1799 = .ok (.iload_n 3, 1) := d_29 rfl
set_option maxRecDepth 100000 in
theorem dL_law_1800 : decode cL_law 1800 = .ok (.iconst 4, 1) := d_7 rfl
set_option maxRecDepth 100000 in
theorem dL_law_1801 : decode cL_law 1801 = .ok (.iadd, 1) := d_96 rfl
set_option maxRecDepth 100000 in
theorem dL_law_1802 : decode cL_law 1802 = .ok (.iaload, 1) := d_46 rfl
set_option maxRecDepth 100000 in
theorem dL_law_1803 : decode cL_law 1803 = .ok (.invokevirtual 185, 3) := d_182 (b1 := 0) (b2 := 185) rfl rfl rfl
set_option maxRecDepth 100000 in
theorem dL_law_1806 : decode cL_law 1806 = .ok (.pop, 1) := d_87 rfl
set_option maxRecDepth 100000 in
theorem dL_law_1807 : decode cL_law 1807 = .ok (.aload_n 2, 1) := d_44 rfl
set_option maxRecDepth 100000 in
theorem dL_law_1808 : decode cL_law 1808 = .ok (.aload_n 0, 1) := d_42 rfl
set_option maxRecDepth 100000 in
theorem dL_law_1809 : decode cL_law 1809 = .ok (.iload_n 3, 1) := d_29 rfl
set_option maxRecDepth 100000 in
theorem dL_law_1810 : decode cL_law 1810 = .ok (.iconst 1, 1) := d_4 rfl
set_option maxRecDepth 100000 in
theorem dL_law_1811 : decode cL_law 1811 = .ok (.iadd, 1) := d_96 rfl
set_option maxRecDepth 100000 in
theorem dL_law_1812 : decode cL_law 1812 = .ok (.iaload, 1) := d_46 rfl
set_option maxRecDepth 100000 in
theorem dL_law_1813 : decode cL_law 1813 = .ok (.aload_n 0, 1) := d_42 rfl
set_option maxRecDepth 100000 in
theorem dL_law_1814 : decode cL_law 1814 = .ok (.iload_n 3, 1) := d_29 rfl
set_option maxRecDepth 100000 in
theorem dL_law_1815 : decode cL_law 1815 = .ok (.iconst 2, 1) := d_5 rfl
set_option maxRecDepth 100000 in
theorem dL_law_1816 : decode cL_law 1816 = .ok (.iadd, 1) := d_96 rfl
set_option maxRecDepth 100000 in
theorem dL_law_1817 : decode cL_law 1817 = .ok (.iaload, 1) := d_46 rfl
set_option maxRecDepth 100000 in
theorem dL_law_1818 : decode cL_law 1818 = .ok (.aload_n 0, 1) := d_42 rfl
set_option maxRecDepth 100000 in
theorem dL_law_1819 : decode cL_law 1819 = .ok (.iload_n 3, 1) := d_29 rfl
set_option maxRecDepth 100000 in
theorem dL_law_1820 : decode cL_law 1820 = .ok (.iconst 3, 1) := d_6 rfl
set_option maxRecDepth 100000 in
theorem dL_law_1821 : decode cL_law 1821 = .ok (.iadd, 1) := d_96 rfl
set_option maxRecDepth 100000 in
theorem dL_law_1822 : decode cL_law 1822 = .ok (.iaload, 1) := d_46 rfl
set_option maxRecDepth 100000 in
theorem dL_law_1823 : decode cL_law 1823 = .ok (.aload_n 0, 1) := d_42 rfl
set_option maxRecDepth 100000 in
theorem dL_law_1824 : decode cL_law 1824 = .ok (.iload_n 3, 1) := d_29 rfl
set_option maxRecDepth 100000 in
theorem dL_law_1825 : decode cL_law 1825 = .ok (.iconst 4, 1) := d_7 rfl
set_option maxRecDepth 100000 in
theorem dL_law_1826 : decode cL_law 1826 = .ok (.iadd, 1) := d_96 rfl
set_option maxRecDepth 100000 in
theorem dL_law_1827 : decode cL_law 1827 = .ok (.iaload, 1) := d_46 rfl
set_option maxRecDepth 100000 in
theorem dL_law_1828 : decode cL_law 1828 = .ok (.invokevirtual 188, 3) := d_182 (b1 := 0) (b2 := 188) rfl rfl rfl
set_option maxRecDepth 100000 in
theorem dL_law_1831 : decode cL_law 1831 = .ok (.pop, 1) := d_87 rfl
set_option maxRecDepth 100000 in
theorem dL_law_1832 : decode cL_law 1832 = .ok (.goto 102, 3) := d_167 (b1 := 0) (b2 := 102) rfl rfl rfl (by decide +kernel)
set_option maxRecDepth 100000 in
theorem dL_law_1835 : decode cL_law 1835 = .ok (.aload_n 1, 1) := d_43 rfl
set_option maxRecDepth 100000 in
theorem dL_law_1836 : decode cL_law 1836 = .ok (.aload_n 0, 1) := d_42 rfl
set_option maxRecDepth 100000 in
theorem dL_law_1837 : decode cL_law 1837 = .ok (.iload_n 3, 1) := d_29 rfl
set_option maxRecDepth 100000 in
theorem dL_law_1838 : decode cL_law 1838 = .ok (.iconst 1, 1) := d_4 rfl
set_option maxRecDepth 100000 in
theorem dL_law_1839 : decode cL_law 1839 = .ok (.iadd, 1) := d_96 rfl
set_option maxRecDepth 100000 in
theorem dL_law_1840 : decode cL_law 1840 = .ok (.iaload, 1) := d_46 rfl
set_option maxRecDepth 100000 in
theorem dL_law_1841 : decode cL_law 1841 = .ok (.aload_n 0, 1) := d_42 rfl
set_option maxRecDepth 100000 in
theorem dL_law_1842 : decode cL_law 1842 = .ok (.iload_n 3, 1) := d_29 rfl
set_option maxRecDepth 100000 in
theorem dL_law_1843 : decode cL_law 1843 = .ok (.iconst 2, 1) := d_5 rfl
set_option maxRecDepth 100000 in
theorem dL_law_1844 : decode cL_law 1844 = .ok (.iadd, 1) := d_96 rfl
set_option maxRecDepth 100000 in
theorem dL_law_1845 : decode cL_law 1845 = .ok (.iaload, 1) := d_46 rfl
set_option maxRecDepth 100000 in
theorem dL_law_1846 : decode cL_law 1846 = .ok (.invokevirtual 189, 3) := d_182 (b1 := 0) (b2 := 189) rfl rfl rfl
set_option maxRecDepth 100000 in
theorem dL_law_1849 : decode cL_law 1849 = .ok (.pop, 1) := d_87 rfl
set_option maxRecDepth 100000 in
theorem dL_law_1850 : decode cL_law 1850 = .ok (.aload_n 2, 1) := d_44 rfl
set_option maxRecDepth 100000 in
theorem dL_law_1851 : decode cL_law 1851 = .ok (.aload_n 0, 1) := d_42 rfl
set_option maxRecDepth 100000 in
theorem dL_law_1852 : decode cL_law 1852 = .ok (.iload_n 3, 1) := d_29 rfl
set_option maxRecDepth 100000 in
theorem dL_law_1853 : decode cL_law 1853 = .ok (.iconst 1, 1) := d_4 rfl
set_option maxRecDepth 100000 in
theorem dL_law_1854 : decode cL_law 1854 = .ok (.iadd, 1) := d_96 rfl
set_option maxRecDepth 100000 in
theorem dL_law_1855 : decode cL_law 1855 = .ok (.iaload, 1) := d_46 rfl
set_option maxRecDepth 100000 in
theorem dL_law_1856 : decode cL_law 1856 = .ok (.aload_n 0, 1) := d_42 rfl
set_option maxRecDepth 100000 in
theorem dL_law_1857 : decode cL_law 1857 = .ok (.iload_n 3, 1) := d_29 rfl
set_option maxRecDepth 100000 in
theorem dL_law_1858 : decode cL_law 1858 = .ok (.iconst 2, 1) := d_5 rfl
set_option maxRecDepth 100000 in
theorem dL_law_1859 : decode cL_law 1859 = .ok (.iadd, 1) := d_96 rfl
set_option maxRecDepth 100000 in
theorem dL_law_1860 : decode cL_law 1860 = .ok (.iaload, 1) := d_46 rfl
set_option maxRecDepth 100000 in
theorem dL_law_1861 : decode cL_law 1861 = .ok (.invokevirtual 192, 3) := d_182 (b1 := 0) (b2 := 192) rfl rfl rfl
set_option maxRecDepth 100000 in
theorem dL_law_1864 : decode cL_law 1864 = .ok (.pop, 1) := d_87 rfl
set_option maxRecDepth 100000 in
theorem dL_law_1865 : decode cL_law 1865 = .ok (.goto 69, 3) := d_167 (b1 := 0) (b2 := 69) rfl rfl rfl (by decide +kernel)
set_option maxRecDepth 100000 in
theorem dL_law_1868 : decode cL_law 1868 = .ok (.aload_n 1, 1) := d_43 rfl
set_option maxRecDepth 100000 in
theorem dL_law_1869 : decode cL_law 1869 = .ok (.aload_n 0, 1) := d_42 rfl
set_option maxRecDepth 100000 in
theorem dL_law_1870 : decode cL_law 1870 = .ok (.iload_n 3, 1) := d_29 rfl
set_option maxRecDepth 100000 in
theorem dL_law_1871 : decode cL_law 1871 = .ok (.iconst 1, 1) := d_4 rfl
set_option maxRecDepth 100000 in
theorem dL_law_1872 : decode cL_law 1872 = .ok (.iadd, 1) := d_96 rfl
set_option maxRecDepth 100000 in
theorem dL_law_1873 : decode cL_law 1873 = .ok (.iaload, 1) := d_46 rfl
set_option maxRecDepth 100000 in
theorem dL_law_1874 : decode cL_law 1874 = .ok (.aload_n 0, 1) := d_42 rfl
set_option maxRecDepth 100000 in
theorem dL_law_1875 : decode cL_law 1875 = .ok (.iload_n 3, 1) := d_29 rfl
set_option maxRecDepth 100000 in
theorem dL_law_1876 : decode cL_law 1876 = .ok (.iconst 2, 1) := d_5 rfl
set_option maxRecDepth 100000 in
theorem dL_law_1877 : decode cL_law 1877 = .ok (.iadd, 1) := d_96 rfl
set_option maxRecDepth 100000 in
theorem dL_law_1878 : decode cL_law 1878 = .ok (.iaload, 1) := d_46 rfl
set_option maxRecDepth 100000 in
theorem dL_law_1879 : decode cL_law 1879 = .ok (.aload_n 0, 1) := d_42 rfl
set_option maxRecDepth 100000 in
theorem dL_law_1880 : decode cL_law 1880 = .ok (.iload_n 3, 1) := d_29 rfl
set_option maxRecDepth 100000 in
theorem dL_law_1881 : decode cL_law 1881 = .ok (.iconst 3, 1) := d_6 rfl
set_option maxRecDepth 100000 in
theorem dL_law_1882 : decode cL_law 1882 = .ok (.iadd, 1) := d_96 rfl
set_option maxRecDepth 100000 in
theorem dL_law_1883 : decode cL_law 1883 = .ok (.iaload, 1) := d_46 rfl
set_option maxRecDepth 100000 in
theorem dL_law_1884 : decode cL_law 1884 = .ok (.invokevirtual 193, 3) := d_182 (b1 := 0) (b2 := 193) rfl rfl rfl
set_option maxRecDepth 100000 in
theorem dL_law_1887 : decode cL_law 1887 = .ok (.pop, 1) := d_87 rfl
set_option maxRecDepth 100000 in
theorem dL_law_1888 : decode cL_law 1888 = .ok (.aload_n 2, 1) := d_44 rfl
set_option maxRecDepth 100000 in
theorem dL_law_1889 : decode cL_law 1889 = .ok (.aload_n 0, 1) := d_42 rfl
set_option maxRecDepth 100000 in
theorem dL_law_1890 : decode cL_law 1890 = .ok (.iload_n 3, 1) := d_29 rfl
set_option maxRecDepth 100000 in
theorem dL_law_1891 : decode cL_law 1891 = .ok (.iconst 1, 1) := d_4 rfl
set_option maxRecDepth 100000 in
theorem dL_law_1892 : decode cL_law 1892 = .ok (.iadd, 1) := d_96 rfl
set_option maxRecDepth 100000 in
theorem dL_law_1893 : decode cL_law 1893 = .ok (.iaload, 1) := d_46 rfl
set_option maxRecDepth 100000 in
theorem dL_law_1894 : decode cL_law 1894 = .ok (.aload_n 0, 1) := d_42 rfl
set_option maxRecDepth 100000 in
theorem dL_law_1895 : decode cL_law 1895 = .ok (.iload_n 3, 1) := d_29 rfl
set_option maxRecDepth 100000 in
theorem dL_law_1896 : decode cL_law 1896 = .ok (.iconst 2, 1) := d_5 rfl
set_option maxRecDepth 100000 in
theorem dL_law_1897 : decode cL_law 1897 = .ok (.iadd, 1) := d_96 rfl
set_option maxRecDepth 100000 in
theorem dL_law_1898 : decode cL_law 1898 = .ok (.iaload, 1) := d_46 rfl
set_option maxRecDepth 100000 in
theorem dL_law_1899 : decode cL_law 1899 = .ok (.aload_n 0, 1) := d_42 rfl
set_option maxRecDepth 100000 in
theorem dL_law_1900 : decode cL_law 1900 = .ok (.iload_n 3, 1) := d_29 rfl
set_option maxRecDepth 100000 in
theorem dL_law_1901 : decode cL_law 1901 = .ok (.iconst 3, 1) := d_6 rfl
set_option maxRecDepth 100000 in
theorem dL_law_1902 : decode cL_law 1902 = .ok (.iadd, 1) := d_96 rfl
set_option maxRecDepth 100000 in
theorem dL_law_1903 : decode cL_law 1903 = .ok (.iaload, 1) := d_46 rfl
set_option maxRecDepth 100000 in
theorem dL_law_1904 : decode cL_law 1904 = .ok (.invokevirtual 196, 3) := d_182 (b1 := 0) (b2 := 196) rfl rfl rfl
set_option maxRecDepth 100000 in
theorem dL_law_1907 : decode cL_law 1907 = .ok (.pop, 1) := d_87 rfl
set_option maxRecDepth 100000 in
theorem dL_law_1908 : decode cL_law 1908 = .ok (.goto 26, 3) := d_167 (b1 := 0) (b2 := 26) rfl rfl rfl (by decide +kernel)
set_option maxRecDepth 100000 in
theorem dL_law_1911 : decode cL_law 1911 = .ok (.aload_n 1, 1) := d_43 rfl
set_option maxRecDepth 100000 in
theorem dL_law_1912 : decode cL_law 1912 = .ok (.aload_n 0, 1) := d_42 rfl
set_option maxRecDepth 100000 in
theorem dL_law_1913 : decode cL_law 1913 = .ok (.iload_n 3, 1) := d_29 rfl
set_option maxRecDepth 100000 in
theorem dL_law_1914 : decode cL_law 1914 = .ok (.iconst 1, 1) := d_4 rfl
set_option maxRecDepth 100000 in
theorem dL_law_1915 : decode cL_law 1915 = .ok (.iadd, 1) := d_96 rfl
set_option maxRecDepth 100000 in
theorem dL_law_1916 : decode cL_law 1916 = .ok (.iaload, 1) := d_46 rfl
set_option maxRecDepth 100000 in
theorem dL_law_1917 : decode cL_law 1917 = .ok (.invokevirtual 197, 3) := d_182 (b1 := 0) (b2 := 197) rfl rfl rfl
set_option maxRecDepth 100000 in
theorem dL_law_1920 : decode cL_law 1920 = .ok (.pop, 1) := d_87 rfl
set_option maxRecDepth 100000 in
theorem dL_law_1921 : decode cL_law 1921 = .ok (.aload_n 2, 1) := d_44 rfl
set_option maxRecDepth 100000 in
theorem dL_law_1922 : decode cL_law 1922 = .ok (.aload_n 0, 1) := d_42 rfl
set_option maxRecDepth 100000 in
theorem dL_law_1923 : decode cL_law 1923 = .ok (.iload_n 3, 1) := d_29 rfl
set_option maxRecDepth 100000 in
theorem dL_law_1924 : decode cL_law 1924 = .ok (.iconst 1, 1) := d_4 rfl
set_option maxRecDepth 100000 in
theorem dL_law_1925 : decode cL_law 1925 = .ok (.iadd, 1) := d_96 rfl
set_option maxRecDepth 100000 in
theorem dL_law_1926 : decode cL_law 1926 = .ok (.iaload, 1) := d_46 rfl
set_option maxRecDepth 100000 in
theorem dL_law_1927 : decode cL_law 1927 = .ok (.invokevirtual 200, 3) := d_182 (b1 := 0) (b2 := 200) rfl rfl rfl
set_option maxRecDepth 100000 in
theorem dL_law_1930 : decode cL_law 1930 = .ok (.pop, 1) := d_87 rfl
set_option maxRecDepth 100000 in
theorem dL_law_1931 : decode cL_law 1931 = .ok (.goto 3, 3) := d_167 (b1 := 0) (b2 := 3) rfl rfl rfl (by decide +kernel)
set_option maxRecDepth 100000 in
theorem dL_law_1934 : decode cL_law 1934 = .ok (.iinc 3 7, 3) := d_132 (b1 := 3) (b2 := 7) rfl rfl rfl
set_option maxRecDepth 100000 in
theorem dL_law_1937 : decode cL_law 1937 = .ok (.goto (-1919), 3) := d_167 (b1 := 248) (b2 := 129) rfl rfl rfl (by decide +kernel)
set_option maxRecDepth 100000 in
theorem dL_law_1940 : decode cL_law 1940 = .ok (.iconst 1, 1) := d_4 rfl
set_option maxRecDepth 100000 in
theorem dL_law_1941 : decode cL_law 1941 = .ok (.ireturn, 1) := d_172 rfl
