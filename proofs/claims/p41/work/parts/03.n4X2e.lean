theorem dX2_isSame_34 : decode cX2_isSame 34 = .ok (.iconst 0, 1) := by decide +kernel
theorem dX2_isSame_35 : decode cX2_isSame 35 = .ok (.istore 9, 2) := by decide +kernel
theorem dX2_isSame_37 : decode cX2_isSame 37 = .ok (.iload 9, 2) := by decide +kernel
theorem dX2_isSame_39 : decode cX2_isSame 39 = .ok (.iload 8, 2) := by decide +kernel
theorem dX2_isSame_41 : decode cX2_isSame 41 = .ok (.if_icmp .ge 38, 3) := by decide +kernel
theorem dX2_isSame_44 : decode cX2_isSame 44 = .ok (.aload 7, 2) := by decide +kernel
theorem dX2_isSame_46 : decode cX2_isSame 46 = .ok (.iload 9, 2) := by decide +kernel
theorem dX2_isSame_48 : decode cX2_isSame 48 = .ok (.aaload, 1) := by decide +kernel
theorem dX2_isSame_49 : decode cX2_isSame 49 = .ok (.astore 10, 2) := by decide +kernel
theorem dX2_isSame_51 : decode cX2_isSame 51 = .ok (.iload 6, 2) := by decide +kernel
theorem dX2_isSame_53 : decode cX2_isSame 53 = .ok (.aload 10, 2) := by decide +kernel
theorem dX2_isSame_55 : decode cX2_isSame 55 = .ok (.iconst 1, 1) := by decide +kernel
theorem dX2_isSame_56 : decode cX2_isSame 56 = .ok (.iaload, 1) := by decide +kernel
theorem dX2_isSame_57 : decode cX2_isSame 57 = .ok (.iload 5, 2) := by decide +kernel
theorem dX2_isSame_59 : decode cX2_isSame 59 = .ok (.if_icmp .ne 10, 3) := by decide +kernel
theorem dX2_isSame_62 : decode cX2_isSame 62 = .ok (.aload 10, 2) := by decide +kernel
theorem dX2_isSame_64 : decode cX2_isSame 64 = .ok (.iconst 0, 1) := by decide +kernel
theorem dX2_isSame_65 : decode cX2_isSame 65 = .ok (.iaload, 1) := by decide +kernel
theorem dX2_isSame_66 : decode cX2_isSame 66 = .ok (.goto 4, 3) := by decide +kernel
theorem dX2_isSame_69 : decode cX2_isSame 69 = .ok (.iconst 0, 1) := by decide +kernel
theorem dX2_isSame_70 : decode cX2_isSame 70 = .ok (.iadd, 1) := by decide +kernel
theorem dX2_isSame_71 : decode cX2_isSame 71 = .ok (.istore 6, 2) := by decide +kernel
theorem dX2_isSame_73 : decode cX2_isSame 73 = .ok (.iinc 9 1, 3) := by decide +kernel
theorem dX2_isSame_76 : decode cX2_isSame 76 = .ok (.goto (-39), 3) := by decide +kernel
theorem dX2_isSame_79 : decode cX2_isSame 79 = .ok (.aload_n 1, 1) := by decide +kernel
theorem dX2_isSame_80 : decode cX2_isSame 80 = .ok (.iload 5, 2) := by decide +kernel
theorem dX2_isSame_82 : decode cX2_isSame 82 = .ok (.invokevirtual 49, 3) := by decide +kernel
theorem dX2_isSame_85 : decode cX2_isSame 85 = .ok (.aload_n 0, 1) := by decide +kernel
theorem dX2_isSame_86 : decode cX2_isSame 86 = .ok (.getfield 15, 3) := by decide +kernel
theorem dX2_isSame_89 : decode cX2_isSame 89 = .ok (.iload 5, 2) := by decide +kernel
theorem dX2_isSame_91 : decode cX2_isSame 91 = .ok (.aaload, 1) := by decide +kernel
theorem dX2_isSame_92 : decode cX2_isSame 92 = .ok (.iconst 0, 1) := by decide +kernel
theorem dX2_isSame_93 : decode cX2_isSame 93 = .ok (.iaload, 1) := by decide +kernel
theorem dX2_isSame_94 : decode cX2_isSame 94 = .ok (.if_icmp .ne 47, 3) := by decide +kernel
theorem dX2_isSame_97 : decode cX2_isSame 97 = .ok (.aload_n 1, 1) := by decide +kernel
theorem dX2_isSame_98 : decode cX2_isSame 98 = .ok (.iload 5, 2) := by decide +kernel
theorem dX2_isSame_100 : decode cX2_isSame 100 = .ok (.invokevirtual 54, 3) := by decide +kernel
theorem dX2_isSame_103 : decode cX2_isSame 103 = .ok (.aload_n 0, 1) := by decide +kernel
theorem dX2_isSame_104 : decode cX2_isSame 104 = .ok (.iload 5, 2) := by decide +kernel
theorem dX2_isSame_106 : decode cX2_isSame 106 = .ok (.invokevirtual 42, 3) := by decide +kernel
theorem dX2_isSame_109 : decode cX2_isSame 109 = .ok (.if_icmp .ne 32, 3) := by decide +kernel
theorem dX2_isSame_112 : decode cX2_isSame 112 = .ok (.aload_n 1, 1) := by decide +kernel
theorem dX2_isSame_113 : decode cX2_isSame 113 = .ok (.iload 5, 2) := by decide +kernel
theorem dX2_isSame_115 : decode cX2_isSame 115 = .ok (.invokevirtual 57, 3) := by decide +kernel
theorem dX2_isSame_118 : decode cX2_isSame 118 = .ok (.aload_n 0, 1) := by decide +kernel
theorem dX2_isSame_119 : decode cX2_isSame 119 = .ok (.getfield 15, 3) := by decide +kernel
theorem dX2_isSame_122 : decode cX2_isSame 122 = .ok (.iload 5, 2) := by decide +kernel
theorem dX2_isSame_124 : decode cX2_isSame 124 = .ok (.aaload, 1) := by decide +kernel
theorem dX2_isSame_125 : decode cX2_isSame 125 = .ok (.iconst 1, 1) := by decide +kernel
theorem dX2_isSame_126 : decode cX2_isSame 126 = .ok (.iaload, 1) := by decide +kernel
theorem dX2_isSame_127 : decode cX2_isSame 127 = .ok (.if_icmp .ne 14, 3) := by decide +kernel
theorem dX2_isSame_130 : decode cX2_isSame 130 = .ok (.aload_n 1, 1) := by decide +kernel
theorem dX2_isSame_131 : decode cX2_isSame 131 = .ok (.iload 5, 2) := by decide +kernel
theorem dX2_isSame_133 : decode cX2_isSame 133 = .ok (.invokevirtual 60, 3) := by decide +kernel
theorem dX2_isSame_136 : decode cX2_isSame 136 = .ok (.iload 6, 2) := by decide +kernel
theorem dX2_isSame_138 : decode cX2_isSame 138 = .ok (.if_icmp .eq 5, 3) := by decide +kernel
theorem dX2_isSame_141 : decode cX2_isSame 141 = .ok (.iconst 0, 1) := by decide +kernel
theorem dX2_isSame_142 : decode cX2_isSame 142 = .ok (.ireturn, 1) := by decide +kernel
theorem dX2_isSame_143 : decode cX2_isSame 143 = .ok (.iload_n 2, 1) := by decide +kernel
theorem dX2_isSame_144 : decode cX2_isSame 144 = .ok (.aload_n 0, 1) := by decide +kernel
theorem dX2_isSame_145 : decode cX2_isSame 145 = .ok (.getfield 15, 3) := by decide +kernel
theorem dX2_isSame_148 : decode cX2_isSame 148 = .ok (.iload 5, 2) := by decide +kernel
theorem dX2_isSame_150 : decode cX2_isSame 150 = .ok (.aaload, 1) := by decide +kernel
theorem dX2_isSame_151 : decode cX2_isSame 151 = .ok (.iconst 0, 1) := by decide +kernel
theorem dX2_isSame_152 : decode cX2_isSame 152 = .ok (.iaload, 1) := by decide +kernel
theorem dX2_isSame_153 : decode cX2_isSame 153 = .ok (.iadd, 1) := by decide +kernel
theorem dX2_isSame_154 : decode cX2_isSame 154 = .ok (.istore_n 2, 1) := by decide +kernel
theorem dX2_isSame_155 : decode cX2_isSame 155 = .ok (.iload_n 3, 1) := by decide +kernel
theorem dX2_isSame_156 : decode cX2_isSame 156 = .ok (.aload_n 0, 1) := by decide +kernel
theorem dX2_isSame_157 : decode cX2_isSame 157 = .ok (.iload 5, 2) := by decide +kernel
theorem dX2_isSame_159 : decode cX2_isSame 159 = .ok (.invokevirtual 42, 3) := by decide +kernel
theorem dX2_isSame_162 : decode cX2_isSame 162 = .ok (.iadd, 1) := by decide +kernel
theorem dX2_isSame_163 : decode cX2_isSame 163 = .ok (.istore_n 3, 1) := by decide +kernel
theorem dX2_isSame_164 : decode cX2_isSame 164 = .ok (.iload 4, 2) := by decide +kernel
theorem dX2_isSame_166 : decode cX2_isSame 166 = .ok (.iload 6, 2) := by decide +kernel
theorem dX2_isSame_168 : decode cX2_isSame 168 = .ok (.iadd, 1) := by decide +kernel
theorem dX2_isSame_169 : decode cX2_isSame 169 = .ok (.istore 4, 2) := by decide +kernel
theorem dX2_isSame_171 : decode cX2_isSame 171 = .ok (.iinc 5 1, 3) := by decide +kernel
theorem dX2_isSame_174 : decode cX2_isSame 174 = .ok (.goto (-164), 3) := by decide +kernel
theorem dX2_isSame_177 : decode cX2_isSame 177 = .ok (.iconst 0, 1) := by decide +kernel
theorem dX2_isSame_178 : decode cX2_isSame 178 = .ok (.istore 5, 2) := by decide +kernel
theorem dX2_isSame_180 : decode cX2_isSame 180 = .ok (.iload 5, 2) := by decide +kernel
theorem dX2_isSame_182 : decode cX2_isSame 182 = .ok (.aload_n 0, 1) := by decide +kernel
theorem dX2_isSame_183 : decode cX2_isSame 183 = .ok (.getfield 19, 3) := by decide +kernel
theorem dX2_isSame_186 : decode cX2_isSame 186 = .ok (.arraylength, 1) := by decide +kernel
theorem dX2_isSame_187 : decode cX2_isSame 187 = .ok (.if_icmp .ge 135, 3) := by decide +kernel
theorem dX2_isSame_190 : decode cX2_isSame 190 = .ok (.iconst 0, 1) := by decide +kernel
theorem dX2_isSame_191 : decode cX2_isSame 191 = .ok (.istore 6, 2) := by decide +kernel
theorem dX2_isSame_193 : decode cX2_isSame 193 = .ok (.iconst 0, 1) := by decide +kernel
theorem dX2_isSame_194 : decode cX2_isSame 194 = .ok (.istore 7, 2) := by decide +kernel
theorem dX2_isSame_196 : decode cX2_isSame 196 = .ok (.aload_n 0, 1) := by decide +kernel
theorem dX2_isSame_197 : decode cX2_isSame 197 = .ok (.getfield 22, 3) := by decide +kernel
theorem dX2_isSame_200 : decode cX2_isSame 200 = .ok (.astore 8, 2) := by decide +kernel
theorem dX2_isSame_202 : decode cX2_isSame 202 = .ok (.aload 8, 2) := by decide +kernel
theorem dX2_isSame_204 : decode cX2_isSame 204 = .ok (.arraylength, 1) := by decide +kernel
theorem dX2_isSame_205 : decode cX2_isSame 205 = .ok (.istore 9, 2) := by decide +kernel
theorem dX2_isSame_207 : decode cX2_isSame 207 = .ok (.iconst 0, 1) := by decide +kernel
theorem dX2_isSame_208 : decode cX2_isSame 208 = .ok (.istore 10, 2) := by decide +kernel
theorem dX2_isSame_210 : decode cX2_isSame 210 = .ok (.iload 10, 2) := by decide +kernel
theorem dX2_isSame_212 : decode cX2_isSame 212 = .ok (.iload 9, 2) := by decide +kernel
theorem dX2_isSame_214 : decode cX2_isSame 214 = .ok (.if_icmp .ge 42, 3) := by decide +kernel
theorem dX2_isSame_217 : decode cX2_isSame 217 = .ok (.aload 8, 2) := by decide +kernel
theorem dX2_isSame_219 : decode cX2_isSame 219 = .ok (.iload 10, 2) := by decide +kernel
theorem dX2_isSame_221 : decode cX2_isSame 221 = .ok (.aaload, 1) := by decide +kernel
theorem dX2_isSame_222 : decode cX2_isSame 222 = .ok (.astore 11, 2) := by decide +kernel
theorem dX2_isSame_224 : decode cX2_isSame 224 = .ok (.aload 11, 2) := by decide +kernel
theorem dX2_isSame_226 : decode cX2_isSame 226 = .ok (.iconst 2, 1) := by decide +kernel
theorem dX2_isSame_227 : decode cX2_isSame 227 = .ok (.iaload, 1) := by decide +kernel
theorem dX2_isSame_228 : decode cX2_isSame 228 = .ok (.iload 5, 2) := by decide +kernel
theorem dX2_isSame_230 : decode cX2_isSame 230 = .ok (.if_icmp .eq 6, 3) := by decide +kernel
theorem dX2_isSame_233 : decode cX2_isSame 233 = .ok (.goto 17, 3) := by decide +kernel
theorem dX2_isSame_236 : decode cX2_isSame 236 = .ok (.iinc 6 1, 3) := by decide +kernel
theorem dX2_isSame_239 : decode cX2_isSame 239 = .ok (.iload 7, 2) := by decide +kernel
theorem dX2_isSame_241 : decode cX2_isSame 241 = .ok (.aload 11, 2) := by decide +kernel
theorem dX2_isSame_243 : decode cX2_isSame 243 = .ok (.iconst 0, 1) := by decide +kernel
theorem dX2_isSame_244 : decode cX2_isSame 244 = .ok (.iaload, 1) := by decide +kernel
theorem dX2_isSame_245 : decode cX2_isSame 245 = .ok (.invokestatic 63, 3) := by decide +kernel
theorem dX2_isSame_248 : decode cX2_isSame 248 = .ok (.istore 7, 2) := by decide +kernel
theorem dX2_isSame_250 : decode cX2_isSame 250 = .ok (.iinc 10 1, 3) := by decide +kernel
theorem dX2_isSame_253 : decode cX2_isSame 253 = .ok (.goto (-43), 3) := by decide +kernel
theorem dX2_isSame_256 : decode cX2_isSame 256 = .ok (.aload_n 1, 1) := by decide +kernel
theorem dX2_isSame_257 : decode cX2_isSame 257 = .ok (.iload 5, 2) := by decide +kernel
theorem dX2_isSame_259 : decode cX2_isSame 259 = .ok (.invokevirtual 69, 3) := by decide +kernel
theorem dX2_isSame_262 : decode cX2_isSame 262 = .ok (.aload_n 0, 1) := by decide +kernel
theorem dX2_isSame_263 : decode cX2_isSame 263 = .ok (.getfield 19, 3) := by decide +kernel
theorem dX2_isSame_266 : decode cX2_isSame 266 = .ok (.iload 5, 2) := by decide +kernel
theorem dX2_isSame_268 : decode cX2_isSame 268 = .ok (.aaload, 1) := by decide +kernel
theorem dX2_isSame_269 : decode cX2_isSame 269 = .ok (.iconst 1, 1) := by decide +kernel
theorem dX2_isSame_270 : decode cX2_isSame 270 = .ok (.iaload, 1) := by decide +kernel
theorem dX2_isSame_271 : decode cX2_isSame 271 = .ok (.if_icmp .ne 43, 3) := by decide +kernel
theorem dX2_isSame_274 : decode cX2_isSame 274 = .ok (.aload_n 1, 1) := by decide +kernel
theorem dX2_isSame_275 : decode cX2_isSame 275 = .ok (.iload 5, 2) := by decide +kernel
theorem dX2_isSame_277 : decode cX2_isSame 277 = .ok (.invokevirtual 72, 3) := by decide +kernel
theorem dX2_isSame_280 : decode cX2_isSame 280 = .ok (.aload_n 0, 1) := by decide +kernel
theorem dX2_isSame_281 : decode cX2_isSame 281 = .ok (.getfield 19, 3) := by decide +kernel
theorem dX2_isSame_284 : decode cX2_isSame 284 = .ok (.iload 5, 2) := by decide +kernel
theorem dX2_isSame_286 : decode cX2_isSame 286 = .ok (.aaload, 1) := by decide +kernel
theorem dX2_isSame_287 : decode cX2_isSame 287 = .ok (.iconst 0, 1) := by decide +kernel
theorem dX2_isSame_288 : decode cX2_isSame 288 = .ok (.iaload, 1) := by decide +kernel
theorem dX2_isSame_289 : decode cX2_isSame 289 = .ok (.if_icmp .ne 25, 3) := by decide +kernel
theorem dX2_isSame_292 : decode cX2_isSame 292 = .ok (.aload_n 1, 1) := by decide +kernel
theorem dX2_isSame_293 : decode cX2_isSame 293 = .ok (.iload 5, 2) := by decide +kernel
theorem dX2_isSame_295 : decode cX2_isSame 295 = .ok (.invokevirtual 75, 3) := by decide +kernel
theorem dX2_isSame_298 : decode cX2_isSame 298 = .ok (.iload 6, 2) := by decide +kernel
theorem dX2_isSame_300 : decode cX2_isSame 300 = .ok (.if_icmp .ne 14, 3) := by decide +kernel
theorem dX2_isSame_303 : decode cX2_isSame 303 = .ok (.aload_n 1, 1) := by decide +kernel
theorem dX2_isSame_304 : decode cX2_isSame 304 = .ok (.iload 5, 2) := by decide +kernel
theorem dX2_isSame_306 : decode cX2_isSame 306 = .ok (.invokevirtual 78, 3) := by decide +kernel
theorem dX2_isSame_309 : decode cX2_isSame 309 = .ok (.iload 7, 2) := by decide +kernel
theorem dX2_isSame_311 : decode cX2_isSame 311 = .ok (.if_icmp .eq 5, 3) := by decide +kernel
theorem dX2_isSame_314 : decode cX2_isSame 314 = .ok (.iconst 0, 1) := by decide +kernel
theorem dX2_isSame_315 : decode cX2_isSame 315 = .ok (.ireturn, 1) := by decide +kernel
theorem dX2_isSame_316 : decode cX2_isSame 316 = .ok (.iinc 5 1, 3) := by decide +kernel
theorem dX2_isSame_319 : decode cX2_isSame 319 = .ok (.goto (-139), 3) := by decide +kernel
theorem dX2_isSame_322 : decode cX2_isSame 322 = .ok (.iconst 0, 1) := by decide +kernel
theorem dX2_isSame_323 : decode cX2_isSame 323 = .ok (.istore 5, 2) := by decide +kernel
theorem dX2_isSame_325 : decode cX2_isSame 325 = .ok (.iload 5, 2) := by decide +kernel
theorem dX2_isSame_327 : decode cX2_isSame 327 = .ok (.aload_n 0, 1) := by decide +kernel
theorem dX2_isSame_328 : decode cX2_isSame 328 = .ok (.getfield 22, 3) := by decide +kernel
theorem dX2_isSame_331 : decode cX2_isSame 331 = .ok (.arraylength, 1) := by decide +kernel
theorem dX2_isSame_332 : decode cX2_isSame 332 = .ok (.if_icmp .ge 116, 3) := by decide +kernel
theorem dX2_isSame_335 : decode cX2_isSame 335 = .ok (.aload_n 0, 1) := by decide +kernel
theorem dX2_isSame_336 : decode cX2_isSame 336 = .ok (.getfield 22, 3) := by decide +kernel
theorem dX2_isSame_339 : decode cX2_isSame 339 = .ok (.iload 5, 2) := by decide +kernel
theorem dX2_isSame_341 : decode cX2_isSame 341 = .ok (.aaload, 1) := by decide +kernel
theorem dX2_isSame_342 : decode cX2_isSame 342 = .ok (.astore 6, 2) := by decide +kernel
theorem dX2_isSame_344 : decode cX2_isSame 344 = .ok (.aload_n 1, 1) := by decide +kernel
theorem dX2_isSame_345 : decode cX2_isSame 345 = .ok (.iload 5, 2) := by decide +kernel
theorem dX2_isSame_347 : decode cX2_isSame 347 = .ok (.invokevirtual 81, 3) := by decide +kernel
theorem dX2_isSame_350 : decode cX2_isSame 350 = .ok (.aload 6, 2) := by decide +kernel
