theorem dL_build_258 : decode cL_build 258 = .ok (.invokevirtual 31, 3) := by decide +kernel
theorem dL_build_261 : decode cL_build 261 = .ok (.iload 6, 2) := by decide +kernel
theorem dL_build_263 : decode cL_build 263 = .ok (.if_icmp .eq 5, 3) := by decide +kernel
theorem dL_build_266 : decode cL_build 266 = .ok (.aconst_null, 1) := by decide +kernel
theorem dL_build_267 : decode cL_build 267 = .ok (.areturn, 1) := by decide +kernel
theorem dL_build_268 : decode cL_build 268 = .ok (.aload_n 2, 1) := by decide +kernel
theorem dL_build_269 : decode cL_build 269 = .ok (.aload_n 2, 1) := by decide +kernel
theorem dL_build_270 : decode cL_build 270 = .ok (.getfield 24, 3) := by decide +kernel
theorem dL_build_273 : decode cL_build 273 = .ok (.bipush 6, 2) := by decide +kernel
theorem dL_build_275 : decode cL_build 275 = .ok (.newarray .int, 2) := by decide +kernel
theorem dL_build_277 : decode cL_build 277 = .ok (.dup, 1) := by decide +kernel
theorem dL_build_278 : decode cL_build 278 = .ok (.iconst 0, 1) := by decide +kernel
theorem dL_build_279 : decode cL_build 279 = .ok (.iload 8, 2) := by decide +kernel
theorem dL_build_281 : decode cL_build 281 = .ok (.iastore, 1) := by decide +kernel
theorem dL_build_282 : decode cL_build 282 = .ok (.dup, 1) := by decide +kernel
theorem dL_build_283 : decode cL_build 283 = .ok (.iconst 1, 1) := by decide +kernel
theorem dL_build_284 : decode cL_build 284 = .ok (.iconst (-1), 1) := by decide +kernel
theorem dL_build_285 : decode cL_build 285 = .ok (.iastore, 1) := by decide +kernel
theorem dL_build_286 : decode cL_build 286 = .ok (.dup, 1) := by decide +kernel
theorem dL_build_287 : decode cL_build 287 = .ok (.iconst 2, 1) := by decide +kernel
theorem dL_build_288 : decode cL_build 288 = .ok (.iload 9, 2) := by decide +kernel
theorem dL_build_290 : decode cL_build 290 = .ok (.iastore, 1) := by decide +kernel
theorem dL_build_291 : decode cL_build 291 = .ok (.dup, 1) := by decide +kernel
theorem dL_build_292 : decode cL_build 292 = .ok (.iconst 3, 1) := by decide +kernel
theorem dL_build_293 : decode cL_build 293 = .ok (.iconst 0, 1) := by decide +kernel
theorem dL_build_294 : decode cL_build 294 = .ok (.iastore, 1) := by decide +kernel
theorem dL_build_295 : decode cL_build 295 = .ok (.dup, 1) := by decide +kernel
theorem dL_build_296 : decode cL_build 296 = .ok (.iconst 4, 1) := by decide +kernel
theorem dL_build_297 : decode cL_build 297 = .ok (.iconst 0, 1) := by decide +kernel
theorem dL_build_298 : decode cL_build 298 = .ok (.iastore, 1) := by decide +kernel
theorem dL_build_299 : decode cL_build 299 = .ok (.dup, 1) := by decide +kernel
theorem dL_build_300 : decode cL_build 300 = .ok (.iconst 5, 1) := by decide +kernel
theorem dL_build_301 : decode cL_build 301 = .ok (.iconst 0, 1) := by decide +kernel
theorem dL_build_302 : decode cL_build 302 = .ok (.iastore, 1) := by decide +kernel
theorem dL_build_303 : decode cL_build 303 = .ok (.invokestatic 27, 3) := by decide +kernel
theorem dL_build_306 : decode cL_build 306 = .ok (.putfield 24, 3) := by decide +kernel
theorem dL_build_309 : decode cL_build 309 = .ok (.iinc 6 1, 3) := by decide +kernel
theorem dL_build_312 : decode cL_build 312 = .ok (.goto (-122), 3) := by decide +kernel
theorem dL_build_315 : decode cL_build 315 = .ok (.aload_n 2, 1) := by decide +kernel
theorem dL_build_316 : decode cL_build 316 = .ok (.areturn, 1) := by decide +kernel
