theorem dX2_pass_149 : decode cX2_pass 149 = .ok (.aaload, 1) := by decide +kernel
theorem dX2_pass_150 : decode cX2_pass 150 = .ok (.iconst 1, 1) := by decide +kernel
theorem dX2_pass_151 : decode cX2_pass 151 = .ok (.iaload, 1) := by decide +kernel
theorem dX2_pass_152 : decode cX2_pass 152 = .ok (.iconst 5, 1) := by decide +kernel
theorem dX2_pass_153 : decode cX2_pass 153 = .ok (.if_icmp .ge 7, 3) := by decide +kernel
theorem dX2_pass_156 : decode cX2_pass 156 = .ok (.iconst (-1), 1) := by decide +kernel
theorem dX2_pass_157 : decode cX2_pass 157 = .ok (.goto 4, 3) := by decide +kernel
theorem dX2_pass_160 : decode cX2_pass 160 = .ok (.iconst 1, 1) := by decide +kernel
theorem dX2_pass_161 : decode cX2_pass 161 = .ok (.iadd, 1) := by decide +kernel
theorem dX2_pass_162 : decode cX2_pass 162 = .ok (.iastore, 1) := by decide +kernel
theorem dX2_pass_163 : decode cX2_pass 163 = .ok (.aload 4, 2) := by decide +kernel
theorem dX2_pass_165 : decode cX2_pass 165 = .ok (.iconst 0, 1) := by decide +kernel
theorem dX2_pass_166 : decode cX2_pass 166 = .ok (.iaload, 1) := by decide +kernel
theorem dX2_pass_167 : decode cX2_pass 167 = .ok (.bipush 10, 2) := by decide +kernel
theorem dX2_pass_169 : decode cX2_pass 169 = .ok (.if_icmp .le 9, 3) := by decide +kernel
theorem dX2_pass_172 : decode cX2_pass 172 = .ok (.aload 4, 2) := by decide +kernel
theorem dX2_pass_174 : decode cX2_pass 174 = .ok (.iconst 0, 1) := by decide +kernel
theorem dX2_pass_175 : decode cX2_pass 175 = .ok (.bipush 10, 2) := by decide +kernel
theorem dX2_pass_177 : decode cX2_pass 177 = .ok (.iastore, 1) := by decide +kernel
theorem dX2_pass_178 : decode cX2_pass 178 = .ok (.aload 4, 2) := by decide +kernel
theorem dX2_pass_180 : decode cX2_pass 180 = .ok (.iconst 0, 1) := by decide +kernel
theorem dX2_pass_181 : decode cX2_pass 181 = .ok (.iaload, 1) := by decide +kernel
theorem dX2_pass_182 : decode cX2_pass 182 = .ok (.ifCond .ge 8, 3) := by decide +kernel
theorem dX2_pass_185 : decode cX2_pass 185 = .ok (.aload 4, 2) := by decide +kernel
theorem dX2_pass_187 : decode cX2_pass 187 = .ok (.iconst 0, 1) := by decide +kernel
theorem dX2_pass_188 : decode cX2_pass 188 = .ok (.iconst 0, 1) := by decide +kernel
theorem dX2_pass_189 : decode cX2_pass 189 = .ok (.iastore, 1) := by decide +kernel
theorem dX2_pass_190 : decode cX2_pass 190 = .ok (.iinc 3 1, 3) := by decide +kernel
theorem dX2_pass_193 : decode cX2_pass 193 = .ok (.goto (-104), 3) := by decide +kernel
theorem dX2_pass_196 : decode cX2_pass 196 = .ok (.iconst 0, 1) := by decide +kernel
theorem dX2_pass_197 : decode cX2_pass 197 = .ok (.istore_n 3, 1) := by decide +kernel
theorem dX2_pass_198 : decode cX2_pass 198 = .ok (.iload_n 3, 1) := by decide +kernel
theorem dX2_pass_199 : decode cX2_pass 199 = .ok (.aload_n 0, 1) := by decide +kernel
theorem dX2_pass_200 : decode cX2_pass 200 = .ok (.getfield 19, 3) := by decide +kernel
theorem dX2_pass_203 : decode cX2_pass 203 = .ok (.arraylength, 1) := by decide +kernel
theorem dX2_pass_204 : decode cX2_pass 204 = .ok (.if_icmp .ge 215, 3) := by decide +kernel
theorem dX2_pass_207 : decode cX2_pass 207 = .ok (.aload_n 0, 1) := by decide +kernel
theorem dX2_pass_208 : decode cX2_pass 208 = .ok (.getfield 19, 3) := by decide +kernel
theorem dX2_pass_211 : decode cX2_pass 211 = .ok (.iload_n 3, 1) := by decide +kernel
theorem dX2_pass_212 : decode cX2_pass 212 = .ok (.aaload, 1) := by decide +kernel
theorem dX2_pass_213 : decode cX2_pass 213 = .ok (.iconst 1, 1) := by decide +kernel
theorem dX2_pass_214 : decode cX2_pass 214 = .ok (.iaload, 1) := by decide +kernel
theorem dX2_pass_215 : decode cX2_pass 215 = .ok (.ifCond .ne 6, 3) := by decide +kernel
theorem dX2_pass_218 : decode cX2_pass 218 = .ok (.goto 195, 3) := by decide +kernel
theorem dX2_pass_221 : decode cX2_pass 221 = .ok (.aload_n 0, 1) := by decide +kernel
theorem dX2_pass_222 : decode cX2_pass 222 = .ok (.getfield 19, 3) := by decide +kernel
theorem dX2_pass_225 : decode cX2_pass 225 = .ok (.iload_n 3, 1) := by decide +kernel
theorem dX2_pass_226 : decode cX2_pass 226 = .ok (.aaload, 1) := by decide +kernel
theorem dX2_pass_227 : decode cX2_pass 227 = .ok (.iconst 1, 1) := by decide +kernel
theorem dX2_pass_228 : decode cX2_pass 228 = .ok (.dup2, 1) := by decide +kernel
theorem dX2_pass_229 : decode cX2_pass 229 = .ok (.iaload, 1) := by decide +kernel
theorem dX2_pass_230 : decode cX2_pass 230 = .ok (.iconst 1, 1) := by decide +kernel
theorem dX2_pass_231 : decode cX2_pass 231 = .ok (.isub, 1) := by decide +kernel
theorem dX2_pass_232 : decode cX2_pass 232 = .ok (.iastore, 1) := by decide +kernel
theorem dX2_pass_233 : decode cX2_pass 233 = .ok (.aload_n 0, 1) := by decide +kernel
theorem dX2_pass_234 : decode cX2_pass 234 = .ok (.getfield 19, 3) := by decide +kernel
theorem dX2_pass_237 : decode cX2_pass 237 = .ok (.iload_n 3, 1) := by decide +kernel
theorem dX2_pass_238 : decode cX2_pass 238 = .ok (.aaload, 1) := by decide +kernel
theorem dX2_pass_239 : decode cX2_pass 239 = .ok (.iconst 1, 1) := by decide +kernel
theorem dX2_pass_240 : decode cX2_pass 240 = .ok (.iaload, 1) := by decide +kernel
theorem dX2_pass_241 : decode cX2_pass 241 = .ok (.ifCond .ne 6, 3) := by decide +kernel
theorem dX2_pass_244 : decode cX2_pass 244 = .ok (.goto 169, 3) := by decide +kernel
theorem dX2_pass_247 : decode cX2_pass 247 = .ok (.aload_n 0, 1) := by decide +kernel
theorem dX2_pass_248 : decode cX2_pass 248 = .ok (.getfield 22, 3) := by decide +kernel
theorem dX2_pass_251 : decode cX2_pass 251 = .ok (.arraylength, 1) := by decide +kernel
theorem dX2_pass_252 : decode cX2_pass 252 = .ok (.newarray .int, 2) := by decide +kernel
theorem dX2_pass_254 : decode cX2_pass 254 = .ok (.astore 4, 2) := by decide +kernel
theorem dX2_pass_256 : decode cX2_pass 256 = .ok (.iconst 0, 1) := by decide +kernel
theorem dX2_pass_257 : decode cX2_pass 257 = .ok (.istore 5, 2) := by decide +kernel
theorem dX2_pass_259 : decode cX2_pass 259 = .ok (.iload 5, 2) := by decide +kernel
theorem dX2_pass_261 : decode cX2_pass 261 = .ok (.aload_n 0, 1) := by decide +kernel
theorem dX2_pass_262 : decode cX2_pass 262 = .ok (.getfield 22, 3) := by decide +kernel
theorem dX2_pass_265 : decode cX2_pass 265 = .ok (.arraylength, 1) := by decide +kernel
theorem dX2_pass_266 : decode cX2_pass 266 = .ok (.if_icmp .ge 23, 3) := by decide +kernel
theorem dX2_pass_269 : decode cX2_pass 269 = .ok (.aload 4, 2) := by decide +kernel
theorem dX2_pass_271 : decode cX2_pass 271 = .ok (.iload 5, 2) := by decide +kernel
theorem dX2_pass_273 : decode cX2_pass 273 = .ok (.aload_n 0, 1) := by decide +kernel
theorem dX2_pass_274 : decode cX2_pass 274 = .ok (.getfield 22, 3) := by decide +kernel
theorem dX2_pass_277 : decode cX2_pass 277 = .ok (.iload 5, 2) := by decide +kernel
theorem dX2_pass_279 : decode cX2_pass 279 = .ok (.aaload, 1) := by decide +kernel
theorem dX2_pass_280 : decode cX2_pass 280 = .ok (.iconst 0, 1) := by decide +kernel
theorem dX2_pass_281 : decode cX2_pass 281 = .ok (.iaload, 1) := by decide +kernel
theorem dX2_pass_282 : decode cX2_pass 282 = .ok (.iastore, 1) := by decide +kernel
theorem dX2_pass_283 : decode cX2_pass 283 = .ok (.iinc 5 1, 3) := by decide +kernel
theorem dX2_pass_286 : decode cX2_pass 286 = .ok (.goto (-27), 3) := by decide +kernel
theorem dX2_pass_289 : decode cX2_pass 289 = .ok (.iconst 0, 1) := by decide +kernel
theorem dX2_pass_290 : decode cX2_pass 290 = .ok (.istore 5, 2) := by decide +kernel
theorem dX2_pass_292 : decode cX2_pass 292 = .ok (.iload 5, 2) := by decide +kernel
theorem dX2_pass_294 : decode cX2_pass 294 = .ok (.aload_n 0, 1) := by decide +kernel
theorem dX2_pass_295 : decode cX2_pass 295 = .ok (.getfield 22, 3) := by decide +kernel
theorem dX2_pass_298 : decode cX2_pass 298 = .ok (.arraylength, 1) := by decide +kernel
theorem dX2_pass_299 : decode cX2_pass 299 = .ok (.if_icmp .ge 114, 3) := by decide +kernel
theorem dX2_pass_302 : decode cX2_pass 302 = .ok (.aload_n 0, 1) := by decide +kernel
theorem dX2_pass_303 : decode cX2_pass 303 = .ok (.getfield 22, 3) := by decide +kernel
theorem dX2_pass_306 : decode cX2_pass 306 = .ok (.iload 5, 2) := by decide +kernel
theorem dX2_pass_308 : decode cX2_pass 308 = .ok (.aaload, 1) := by decide +kernel
theorem dX2_pass_309 : decode cX2_pass 309 = .ok (.iconst 2, 1) := by decide +kernel
theorem dX2_pass_310 : decode cX2_pass 310 = .ok (.iaload, 1) := by decide +kernel
theorem dX2_pass_311 : decode cX2_pass 311 = .ok (.iload_n 3, 1) := by decide +kernel
theorem dX2_pass_312 : decode cX2_pass 312 = .ok (.if_icmp .eq 6, 3) := by decide +kernel
theorem dX2_pass_315 : decode cX2_pass 315 = .ok (.goto 92, 3) := by decide +kernel
theorem dX2_pass_318 : decode cX2_pass 318 = .ok (.iconst 0, 1) := by decide +kernel
theorem dX2_pass_319 : decode cX2_pass 319 = .ok (.istore 6, 2) := by decide +kernel
theorem dX2_pass_321 : decode cX2_pass 321 = .ok (.iconst 0, 1) := by decide +kernel
theorem dX2_pass_322 : decode cX2_pass 322 = .ok (.istore 7, 2) := by decide +kernel
theorem dX2_pass_324 : decode cX2_pass 324 = .ok (.iload 7, 2) := by decide +kernel
theorem dX2_pass_326 : decode cX2_pass 326 = .ok (.aload_n 0, 1) := by decide +kernel
theorem dX2_pass_327 : decode cX2_pass 327 = .ok (.getfield 22, 3) := by decide +kernel
theorem dX2_pass_330 : decode cX2_pass 330 = .ok (.arraylength, 1) := by decide +kernel
theorem dX2_pass_331 : decode cX2_pass 331 = .ok (.if_icmp .ge 48, 3) := by decide +kernel
theorem dX2_pass_334 : decode cX2_pass 334 = .ok (.iload 6, 2) := by decide +kernel
theorem dX2_pass_336 : decode cX2_pass 336 = .ok (.iload 7, 2) := by decide +kernel
theorem dX2_pass_338 : decode cX2_pass 338 = .ok (.iload 5, 2) := by decide +kernel
theorem dX2_pass_340 : decode cX2_pass 340 = .ok (.if_icmp .eq 29, 3) := by decide +kernel
theorem dX2_pass_343 : decode cX2_pass 343 = .ok (.aload_n 0, 1) := by decide +kernel
theorem dX2_pass_344 : decode cX2_pass 344 = .ok (.getfield 22, 3) := by decide +kernel
theorem dX2_pass_347 : decode cX2_pass 347 = .ok (.iload 7, 2) := by decide +kernel
theorem dX2_pass_349 : decode cX2_pass 349 = .ok (.aaload, 1) := by decide +kernel
theorem dX2_pass_350 : decode cX2_pass 350 = .ok (.iconst 2, 1) := by decide +kernel
theorem dX2_pass_351 : decode cX2_pass 351 = .ok (.iaload, 1) := by decide +kernel
theorem dX2_pass_352 : decode cX2_pass 352 = .ok (.iload_n 3, 1) := by decide +kernel
theorem dX2_pass_353 : decode cX2_pass 353 = .ok (.if_icmp .ne 16, 3) := by decide +kernel
theorem dX2_pass_356 : decode cX2_pass 356 = .ok (.aload 4, 2) := by decide +kernel
theorem dX2_pass_358 : decode cX2_pass 358 = .ok (.iload 7, 2) := by decide +kernel
theorem dX2_pass_360 : decode cX2_pass 360 = .ok (.iaload, 1) := by decide +kernel
theorem dX2_pass_361 : decode cX2_pass 361 = .ok (.iconst 1, 1) := by decide +kernel
theorem dX2_pass_362 : decode cX2_pass 362 = .ok (.if_icmp .lt 7, 3) := by decide +kernel
theorem dX2_pass_365 : decode cX2_pass 365 = .ok (.iconst 1, 1) := by decide +kernel
theorem dX2_pass_366 : decode cX2_pass 366 = .ok (.goto 4, 3) := by decide +kernel
theorem dX2_pass_369 : decode cX2_pass 369 = .ok (.iconst 0, 1) := by decide +kernel
theorem dX2_pass_370 : decode cX2_pass 370 = .ok (.ior, 1) := by decide +kernel
theorem dX2_pass_371 : decode cX2_pass 371 = .ok (.istore 6, 2) := by decide +kernel
theorem dX2_pass_373 : decode cX2_pass 373 = .ok (.iinc 7 1, 3) := by decide +kernel
theorem dX2_pass_376 : decode cX2_pass 376 = .ok (.goto (-52), 3) := by decide +kernel
theorem dX2_pass_379 : decode cX2_pass 379 = .ok (.iload 6, 2) := by decide +kernel
theorem dX2_pass_381 : decode cX2_pass 381 = .ok (.ifCond .eq 26, 3) := by decide +kernel
theorem dX2_pass_384 : decode cX2_pass 384 = .ok (.aload 4, 2) := by decide +kernel
theorem dX2_pass_386 : decode cX2_pass 386 = .ok (.iload 5, 2) := by decide +kernel
theorem dX2_pass_388 : decode cX2_pass 388 = .ok (.iaload, 1) := by decide +kernel
theorem dX2_pass_389 : decode cX2_pass 389 = .ok (.bipush 10, 2) := by decide +kernel
theorem dX2_pass_391 : decode cX2_pass 391 = .ok (.if_icmp .ge 16, 3) := by decide +kernel
theorem dX2_pass_394 : decode cX2_pass 394 = .ok (.aload_n 0, 1) := by decide +kernel
theorem dX2_pass_395 : decode cX2_pass 395 = .ok (.getfield 22, 3) := by decide +kernel
theorem dX2_pass_398 : decode cX2_pass 398 = .ok (.iload 5, 2) := by decide +kernel
theorem dX2_pass_400 : decode cX2_pass 400 = .ok (.aaload, 1) := by decide +kernel
theorem dX2_pass_401 : decode cX2_pass 401 = .ok (.iconst 0, 1) := by decide +kernel
theorem dX2_pass_402 : decode cX2_pass 402 = .ok (.dup2, 1) := by decide +kernel
theorem dX2_pass_403 : decode cX2_pass 403 = .ok (.iaload, 1) := by decide +kernel
theorem dX2_pass_404 : decode cX2_pass 404 = .ok (.iconst 1, 1) := by decide +kernel
theorem dX2_pass_405 : decode cX2_pass 405 = .ok (.iadd, 1) := by decide +kernel
theorem dX2_pass_406 : decode cX2_pass 406 = .ok (.iastore, 1) := by decide +kernel
theorem dX2_pass_407 : decode cX2_pass 407 = .ok (.iinc 5 1, 3) := by decide +kernel
theorem dX2_pass_410 : decode cX2_pass 410 = .ok (.goto (-118), 3) := by decide +kernel
theorem dX2_pass_413 : decode cX2_pass 413 = .ok (.iinc 3 1, 3) := by decide +kernel
theorem dX2_pass_416 : decode cX2_pass 416 = .ok (.goto (-218), 3) := by decide +kernel
theorem dX2_pass_419 : decode cX2_pass 419 = .ok (.aload_n 0, 1) := by decide +kernel
theorem dX2_pass_420 : decode cX2_pass 420 = .ok (.getfield 15, 3) := by decide +kernel
theorem dX2_pass_423 : decode cX2_pass 423 = .ok (.astore_n 3, 1) := by decide +kernel
theorem dX2_pass_424 : decode cX2_pass 424 = .ok (.aload_n 3, 1) := by decide +kernel
theorem dX2_pass_425 : decode cX2_pass 425 = .ok (.arraylength, 1) := by decide +kernel
theorem dX2_pass_426 : decode cX2_pass 426 = .ok (.istore 4, 2) := by decide +kernel
theorem dX2_pass_428 : decode cX2_pass 428 = .ok (.iconst 0, 1) := by decide +kernel
theorem dX2_pass_429 : decode cX2_pass 429 = .ok (.istore 5, 2) := by decide +kernel
theorem dX2_pass_431 : decode cX2_pass 431 = .ok (.iload 5, 2) := by decide +kernel
theorem dX2_pass_433 : decode cX2_pass 433 = .ok (.iload 4, 2) := by decide +kernel
theorem dX2_pass_435 : decode cX2_pass 435 = .ok (.if_icmp .ge 23, 3) := by decide +kernel
theorem dX2_pass_438 : decode cX2_pass 438 = .ok (.aload_n 3, 1) := by decide +kernel
theorem dX2_pass_439 : decode cX2_pass 439 = .ok (.iload 5, 2) := by decide +kernel
theorem dX2_pass_441 : decode cX2_pass 441 = .ok (.aaload, 1) := by decide +kernel
theorem dX2_pass_442 : decode cX2_pass 442 = .ok (.astore 6, 2) := by decide +kernel
