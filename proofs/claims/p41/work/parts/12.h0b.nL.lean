theorem dL_act_222 : decode cL_act 222 = .ok (.aload_n 1, 1) := by decide +kernel
theorem dL_act_223 : decode cL_act 223 = .ok (.getfield 38, 3) := by decide +kernel
theorem dL_act_226 : decode cL_act 226 = .ok (.istore 5, 2) := by decide +kernel
theorem dL_act_228 : decode cL_act 228 = .ok (.aload_n 1, 1) := by decide +kernel
theorem dL_act_229 : decode cL_act 229 = .ok (.iload_n 2, 1) := by decide +kernel
theorem dL_act_230 : decode cL_act 230 = .ok (.bipush 6, 2) := by decide +kernel
theorem dL_act_232 : decode cL_act 232 = .ok (.ishr, 1) := by decide +kernel
theorem dL_act_233 : decode cL_act 233 = .ok (.iload_n 2, 1) := by decide +kernel
theorem dL_act_234 : decode cL_act 234 = .ok (.bipush 9, 2) := by decide +kernel
theorem dL_act_236 : decode cL_act 236 = .ok (.ishr, 1) := by decide +kernel
theorem dL_act_237 : decode cL_act 237 = .ok (.iconst 3, 1) := by decide +kernel
theorem dL_act_238 : decode cL_act 238 = .ok (.invokestatic 15, 3) := by decide +kernel
theorem dL_act_241 : decode cL_act 241 = .ok (.ifCond .ne 8, 3) := by decide +kernel
theorem dL_act_244 : decode cL_act 244 = .ok (.bipush 61, 2) := by decide +kernel
theorem dL_act_246 : decode cL_act 246 = .ok (.goto 5, 3) := by decide +kernel
theorem dL_act_249 : decode cL_act 249 = .ok (.bipush 12, 2) := by decide +kernel
theorem dL_act_251 : decode cL_act 251 = .ok (.invokestatic 15, 3) := by decide +kernel
theorem dL_act_254 : decode cL_act 254 = .ok (.putfield 38, 3) := by decide +kernel
theorem dL_act_257 : decode cL_act 257 = .ok (.aload_n 0, 1) := by decide +kernel
theorem dL_act_258 : decode cL_act 258 = .ok (.aload_n 1, 1) := by decide +kernel
theorem dL_act_259 : decode cL_act 259 = .ok (.getfield 38, 3) := by decide +kernel
theorem dL_act_262 : decode cL_act 262 = .ok (.invokevirtual 42, 3) := by decide +kernel
theorem dL_act_265 : decode cL_act 265 = .ok (.iload 5, 2) := by decide +kernel
theorem dL_act_267 : decode cL_act 267 = .ok (.if_icmp .ne 7, 3) := by decide +kernel
theorem dL_act_270 : decode cL_act 270 = .ok (.iconst 1, 1) := by decide +kernel
theorem dL_act_271 : decode cL_act 271 = .ok (.goto 4, 3) := by decide +kernel
theorem dL_act_274 : decode cL_act 274 = .ok (.iconst 0, 1) := by decide +kernel
theorem dL_act_275 : decode cL_act 275 = .ok (.ireturn, 1) := by decide +kernel
theorem dL_act_276 : decode cL_act 276 = .ok (.aload_n 1, 1) := by decide +kernel
theorem dL_act_277 : decode cL_act 277 = .ok (.getfield 9, 3) := by decide +kernel
theorem dL_act_280 : decode cL_act 280 = .ok (.iload_n 3, 1) := by decide +kernel
theorem dL_act_281 : decode cL_act 281 = .ok (.aaload, 1) := by decide +kernel
theorem dL_act_282 : decode cL_act 282 = .ok (.iconst 1, 1) := by decide +kernel
theorem dL_act_283 : decode cL_act 283 = .ok (.iaload, 1) := by decide +kernel
theorem dL_act_284 : decode cL_act 284 = .ok (.istore 5, 2) := by decide +kernel
theorem dL_act_286 : decode cL_act 286 = .ok (.aload_n 1, 1) := by decide +kernel
theorem dL_act_287 : decode cL_act 287 = .ok (.getfield 9, 3) := by decide +kernel
theorem dL_act_290 : decode cL_act 290 = .ok (.iload_n 3, 1) := by decide +kernel
theorem dL_act_291 : decode cL_act 291 = .ok (.aaload, 1) := by decide +kernel
theorem dL_act_292 : decode cL_act 292 = .ok (.iconst 1, 1) := by decide +kernel
theorem dL_act_293 : decode cL_act 293 = .ok (.iconst 0, 1) := by decide +kernel
theorem dL_act_294 : decode cL_act 294 = .ok (.iastore, 1) := by decide +kernel
theorem dL_act_295 : decode cL_act 295 = .ok (.aload_n 0, 1) := by decide +kernel
theorem dL_act_296 : decode cL_act 296 = .ok (.iload_n 3, 1) := by decide +kernel
theorem dL_act_297 : decode cL_act 297 = .ok (.invokevirtual 46, 3) := by decide +kernel
theorem dL_act_300 : decode cL_act 300 = .ok (.iload 5, 2) := by decide +kernel
theorem dL_act_302 : decode cL_act 302 = .ok (.if_icmp .ne 7, 3) := by decide +kernel
theorem dL_act_305 : decode cL_act 305 = .ok (.iconst 1, 1) := by decide +kernel
theorem dL_act_306 : decode cL_act 306 = .ok (.goto 4, 3) := by decide +kernel
theorem dL_act_309 : decode cL_act 309 = .ok (.iconst 0, 1) := by decide +kernel
theorem dL_act_310 : decode cL_act 310 = .ok (.ireturn, 1) := by decide +kernel
theorem dL_act_311 : decode cL_act 311 = .ok (.aload_n 1, 1) := by decide +kernel
theorem dL_act_312 : decode cL_act 312 = .ok (.getfield 24, 3) := by decide +kernel
theorem dL_act_315 : decode cL_act 315 = .ok (.arraylength, 1) := by decide +kernel
theorem dL_act_316 : decode cL_act 316 = .ok (.ifCond .ne 5, 3) := by decide +kernel
theorem dL_act_319 : decode cL_act 319 = .ok (.iconst 1, 1) := by decide +kernel
theorem dL_act_320 : decode cL_act 320 = .ok (.ireturn, 1) := by decide +kernel
theorem dL_act_321 : decode cL_act 321 = .ok (.aload_n 1, 1) := by decide +kernel
theorem dL_act_322 : decode cL_act 322 = .ok (.getfield 24, 3) := by decide +kernel
theorem dL_act_325 : decode cL_act 325 = .ok (.iload_n 2, 1) := by decide +kernel
theorem dL_act_326 : decode cL_act 326 = .ok (.bipush 6, 2) := by decide +kernel
theorem dL_act_328 : decode cL_act 328 = .ok (.ishr, 1) := by decide +kernel
theorem dL_act_329 : decode cL_act 329 = .ok (.aload_n 1, 1) := by decide +kernel
theorem dL_act_330 : decode cL_act 330 = .ok (.getfield 24, 3) := by decide +kernel
theorem dL_act_333 : decode cL_act 333 = .ok (.arraylength, 1) := by decide +kernel
theorem dL_act_334 : decode cL_act 334 = .ok (.invokestatic 15, 3) := by decide +kernel
theorem dL_act_337 : decode cL_act 337 = .ok (.aaload, 1) := by decide +kernel
theorem dL_act_338 : decode cL_act 338 = .ok (.astore 5, 2) := by decide +kernel
theorem dL_act_340 : decode cL_act 340 = .ok (.iload_n 2, 1) := by decide +kernel
theorem dL_act_341 : decode cL_act 341 = .ok (.bipush 6, 2) := by decide +kernel
theorem dL_act_343 : decode cL_act 343 = .ok (.ishr, 1) := by decide +kernel
theorem dL_act_344 : decode cL_act 344 = .ok (.aload_n 1, 1) := by decide +kernel
theorem dL_act_345 : decode cL_act 345 = .ok (.getfield 24, 3) := by decide +kernel
theorem dL_act_348 : decode cL_act 348 = .ok (.arraylength, 1) := by decide +kernel
theorem dL_act_349 : decode cL_act 349 = .ok (.invokestatic 15, 3) := by decide +kernel
theorem dL_act_352 : decode cL_act 352 = .ok (.istore 6, 2) := by decide +kernel
theorem dL_act_354 : decode cL_act 354 = .ok (.aload 5, 2) := by decide +kernel
theorem dL_act_356 : decode cL_act 356 = .ok (.iconst 1, 1) := by decide +kernel
theorem dL_act_357 : decode cL_act 357 = .ok (.iaload, 1) := by decide +kernel
theorem dL_act_358 : decode cL_act 358 = .ok (.ifCond .lt 31, 3) := by decide +kernel
theorem dL_act_361 : decode cL_act 361 = .ok (.aload 5, 2) := by decide +kernel
theorem dL_act_363 : decode cL_act 363 = .ok (.iconst 1, 1) := by decide +kernel
theorem dL_act_364 : decode cL_act 364 = .ok (.iaload, 1) := by decide +kernel
theorem dL_act_365 : decode cL_act 365 = .ok (.iload_n 3, 1) := by decide +kernel
theorem dL_act_366 : decode cL_act 366 = .ok (.if_icmp .eq 23, 3) := by decide +kernel
theorem dL_act_369 : decode cL_act 369 = .ok (.aload_n 1, 1) := by decide +kernel
theorem dL_act_370 : decode cL_act 370 = .ok (.iload_n 3, 1) := by decide +kernel
theorem dL_act_371 : decode cL_act 371 = .ok (.invokevirtual 49, 3) := by decide +kernel
theorem dL_act_374 : decode cL_act 374 = .ok (.aload_n 1, 1) := by decide +kernel
theorem dL_act_375 : decode cL_act 375 = .ok (.getfield 9, 3) := by decide +kernel
theorem dL_act_378 : decode cL_act 378 = .ok (.iload_n 3, 1) := by decide +kernel
theorem dL_act_379 : decode cL_act 379 = .ok (.aaload, 1) := by decide +kernel
theorem dL_act_380 : decode cL_act 380 = .ok (.iconst 0, 1) := by decide +kernel
theorem dL_act_381 : decode cL_act 381 = .ok (.iaload, 1) := by decide +kernel
theorem dL_act_382 : decode cL_act 382 = .ok (.if_icmp .ge 7, 3) := by decide +kernel
theorem dL_act_385 : decode cL_act 385 = .ok (.iconst 1, 1) := by decide +kernel
theorem dL_act_386 : decode cL_act 386 = .ok (.goto 4, 3) := by decide +kernel
theorem dL_act_389 : decode cL_act 389 = .ok (.iconst 0, 1) := by decide +kernel
theorem dL_act_390 : decode cL_act 390 = .ok (.istore 7, 2) := by decide +kernel
theorem dL_act_392 : decode cL_act 392 = .ok (.aload 5, 2) := by decide +kernel
theorem dL_act_394 : decode cL_act 394 = .ok (.iconst 1, 1) := by decide +kernel
theorem dL_act_395 : decode cL_act 395 = .ok (.iaload, 1) := by decide +kernel
theorem dL_act_396 : decode cL_act 396 = .ok (.istore 8, 2) := by decide +kernel
theorem dL_act_398 : decode cL_act 398 = .ok (.iload 7, 2) := by decide +kernel
theorem dL_act_400 : decode cL_act 400 = .ok (.ifCond .eq 8, 3) := by decide +kernel
theorem dL_act_403 : decode cL_act 403 = .ok (.aload 5, 2) := by decide +kernel
theorem dL_act_405 : decode cL_act 405 = .ok (.iconst 1, 1) := by decide +kernel
theorem dL_act_406 : decode cL_act 406 = .ok (.iload_n 3, 1) := by decide +kernel
theorem dL_act_407 : decode cL_act 407 = .ok (.iastore, 1) := by decide +kernel
theorem dL_act_408 : decode cL_act 408 = .ok (.aload_n 0, 1) := by decide +kernel
theorem dL_act_409 : decode cL_act 409 = .ok (.iload 6, 2) := by decide +kernel
theorem dL_act_411 : decode cL_act 411 = .ok (.iload_n 3, 1) := by decide +kernel
theorem dL_act_412 : decode cL_act 412 = .ok (.invokevirtual 52, 3) := by decide +kernel
theorem dL_act_415 : decode cL_act 415 = .ok (.iload 8, 2) := by decide +kernel
theorem dL_act_417 : decode cL_act 417 = .ok (.if_icmp .ne 12, 3) := by decide +kernel
theorem dL_act_420 : decode cL_act 420 = .ok (.iload 7, 2) := by decide +kernel
theorem dL_act_422 : decode cL_act 422 = .ok (.ifCond .eq 7, 3) := by decide +kernel
theorem dL_act_425 : decode cL_act 425 = .ok (.iconst 1, 1) := by decide +kernel
theorem dL_act_426 : decode cL_act 426 = .ok (.goto 4, 3) := by decide +kernel
theorem dL_act_429 : decode cL_act 429 = .ok (.iconst 0, 1) := by decide +kernel
theorem dL_act_430 : decode cL_act 430 = .ok (.ireturn, 1) := by decide +kernel
theorem dL_act_431 : decode cL_act 431 = .ok (.astore 9, 2) := by decide +kernel
theorem dL_act_433 : decode cL_act 433 = .ok (.iload 7, 2) := by decide +kernel
theorem dL_act_435 : decode cL_act 435 = .ok (.ifCond .ne 7, 3) := by decide +kernel
theorem dL_act_438 : decode cL_act 438 = .ok (.iconst 1, 1) := by decide +kernel
theorem dL_act_439 : decode cL_act 439 = .ok (.goto 4, 3) := by decide +kernel
theorem dL_act_442 : decode cL_act 442 = .ok (.iconst 0, 1) := by decide +kernel
theorem dL_act_443 : decode cL_act 443 = .ok (.ireturn, 1) := by decide +kernel
theorem dL_act_444 : decode cL_act 444 = .ok (.iconst 1, 1) := by decide +kernel
theorem dL_act_445 : decode cL_act 445 = .ok (.iload_n 2, 1) := by decide +kernel
theorem dL_act_446 : decode cL_act 446 = .ok (.bipush 8, 2) := by decide +kernel
theorem dL_act_448 : decode cL_act 448 = .ok (.ishr, 1) := by decide +kernel
theorem dL_act_449 : decode cL_act 449 = .ok (.iload_n 2, 1) := by decide +kernel
theorem dL_act_450 : decode cL_act 450 = .ok (.iconst 5, 1) := by decide +kernel
theorem dL_act_451 : decode cL_act 451 = .ok (.ishr, 1) := by decide +kernel
theorem dL_act_452 : decode cL_act 452 = .ok (.bipush 6, 2) := by decide +kernel
theorem dL_act_454 : decode cL_act 454 = .ok (.invokestatic 15, 3) := by decide +kernel
theorem dL_act_457 : decode cL_act 457 = .ok (.ifCond .ne 8, 3) := by decide +kernel
theorem dL_act_460 : decode cL_act 460 = .ok (.bipush 20, 2) := by decide +kernel
theorem dL_act_462 : decode cL_act 462 = .ok (.goto 4, 3) := by decide +kernel
theorem dL_act_465 : decode cL_act 465 = .ok (.iconst 3, 1) := by decide +kernel
theorem dL_act_466 : decode cL_act 466 = .ok (.invokestatic 15, 3) := by decide +kernel
theorem dL_act_469 : decode cL_act 469 = .ok (.iadd, 1) := by decide +kernel
theorem dL_act_470 : decode cL_act 470 = .ok (.istore 5, 2) := by decide +kernel
theorem dL_act_472 : decode cL_act 472 = .ok (.aload_n 1, 1) := by decide +kernel
theorem dL_act_473 : decode cL_act 473 = .ok (.iconst 3, 1) := by decide +kernel
theorem dL_act_474 : decode cL_act 474 = .ok (.invokevirtual 55, 3) := by decide +kernel
theorem dL_act_477 : decode cL_act 477 = .ok (.istore 6, 2) := by decide +kernel
theorem dL_act_479 : decode cL_act 479 = .ok (.aload_n 1, 1) := by decide +kernel
theorem dL_act_480 : decode cL_act 480 = .ok (.iload 5, 2) := by decide +kernel
theorem dL_act_482 : decode cL_act 482 = .ok (.invokevirtual 58, 3) := by decide +kernel
theorem dL_act_485 : decode cL_act 485 = .ok (.aload_n 0, 1) := by decide +kernel
theorem dL_act_486 : decode cL_act 486 = .ok (.iload 5, 2) := by decide +kernel
theorem dL_act_488 : decode cL_act 488 = .ok (.invokevirtual 62, 3) := by decide +kernel
theorem dL_act_491 : decode cL_act 491 = .ok (.aload_n 1, 1) := by decide +kernel
theorem dL_act_492 : decode cL_act 492 = .ok (.iconst 3, 1) := by decide +kernel
theorem dL_act_493 : decode cL_act 493 = .ok (.invokevirtual 55, 3) := by decide +kernel
theorem dL_act_496 : decode cL_act 496 = .ok (.iload 6, 2) := by decide +kernel
theorem dL_act_498 : decode cL_act 498 = .ok (.isub, 1) := by decide +kernel
theorem dL_act_499 : decode cL_act 499 = .ok (.if_icmp .ne 7, 3) := by decide +kernel
theorem dL_act_502 : decode cL_act 502 = .ok (.iconst 1, 1) := by decide +kernel
theorem dL_act_503 : decode cL_act 503 = .ok (.goto 4, 3) := by decide +kernel
theorem dL_act_506 : decode cL_act 506 = .ok (.iconst 0, 1) := by decide +kernel
theorem dL_act_507 : decode cL_act 507 = .ok (.ireturn, 1) := by decide +kernel
set_option maxRecDepth 20000 in
theorem ggL_build_X2_init : GoodIn wsL_build wsX2_init := goodIn_r _ [9, 10, 11, 12, 13, 14, 15, 16, 17, 83, 84, 85, 86, 87, 88] (by decide +kernel) (by decide +kernel)
set_option maxRecDepth 20000 in
theorem gL_build_X2_init_n64 : GoodIn wsL_build (wsX2_init) := ggL_build_X2_init
set_option maxRecDepth 20000 in
theorem ggL_build_L_cell : GoodIn wsL_build wsL_cell := goodIn_r _ [21, 22] (by decide +kernel) (by decide +kernel)
