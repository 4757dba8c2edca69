theorem dL_law_0 : decode cL_law 0 = .ok (.new 32, 3) := by decide +kernel
theorem dL_law_3 : decode cL_law 3 = .ok (.dup, 1) := by decide +kernel
theorem dL_law_4 : decode cL_law 4 = .ok (.invokespecial 75, 3) := by decide +kernel
theorem dL_law_7 : decode cL_law 7 = .ok (.astore_n 1, 1) := by decide +kernel
theorem dL_law_8 : decode cL_law 8 = .ok (.aload_n 1, 1) := by decide +kernel
theorem dL_law_9 : decode cL_law 9 = .ok (.aload_n 0, 1) := by decide +kernel
theorem dL_law_10 : decode cL_law 10 = .ok (.invokestatic 76, 3) := by decide +kernel
theorem dL_law_13 : decode cL_law 13 = .ok (.astore_n 2, 1) := by decide +kernel
theorem dL_law_14 : decode cL_law 14 = .ok (.aload_n 2, 1) := by decide +kernel
theorem dL_law_15 : decode cL_law 15 = .ok (.ifnonnull 5, 3) := by decide +kernel
theorem dL_law_18 : decode cL_law 18 = .ok (.iconst 0, 1) := by decide +kernel
theorem dL_law_19 : decode cL_law 19 = .ok (.ireturn, 1) := by decide +kernel
theorem dL_law_20 : decode cL_law 20 = .ok (.aload_n 1, 1) := by decide +kernel
theorem dL_law_21 : decode cL_law 21 = .ok (.invokevirtual 80, 3) := by decide +kernel
theorem dL_law_24 : decode cL_law 24 = .ok (.istore_n 3, 1) := by decide +kernel
theorem dL_law_25 : decode cL_law 25 = .ok (.aload_n 1, 1) := by decide +kernel
theorem dL_law_26 : decode cL_law 26 = .ok (.invokevirtual 83, 3) := by decide +kernel
theorem dL_law_29 : decode cL_law 29 = .ok (.istore 4, 2) := by decide +kernel
theorem dL_law_31 : decode cL_law 31 = .ok (.iconst 0, 1) := by decide +kernel
theorem dL_law_32 : decode cL_law 32 = .ok (.istore 5, 2) := by decide +kernel
theorem dL_law_34 : decode cL_law 34 = .ok (.iload 5, 2) := by decide +kernel
theorem dL_law_36 : decode cL_law 36 = .ok (.bipush 14, 2) := by decide +kernel
theorem dL_law_38 : decode cL_law 38 = .ok (.if_icmp .ge 748, 3) := by decide +kernel
theorem dL_law_41 : decode cL_law 41 = .ok (.aload_n 0, 1) := by decide +kernel
theorem dL_law_42 : decode cL_law 42 = .ok (.iconst 2, 1) := by decide +kernel
theorem dL_law_43 : decode cL_law 43 = .ok (.iload 5, 2) := by decide +kernel
theorem dL_law_45 : decode cL_law 45 = .ok (.iadd, 1) := by decide +kernel
theorem dL_law_46 : decode cL_law 46 = .ok (.invokestatic 65, 3) := by decide +kernel
theorem dL_law_49 : decode cL_law 49 = .ok (.iconst 1, 1) := by decide +kernel
theorem dL_law_50 : decode cL_law 50 = .ok (.ishr, 1) := by decide +kernel
theorem dL_law_51 : decode cL_law 51 = .ok (.sipush 263, 3) := by decide +kernel
theorem dL_law_54 : decode cL_law 54 = .ok (.iload 5, 2) := by decide +kernel
theorem dL_law_56 : decode cL_law 56 = .ok (.imul, 1) := by decide +kernel
theorem dL_law_57 : decode cL_law 57 = .ok (.iadd, 1) := by decide +kernel
theorem dL_law_58 : decode cL_law 58 = .ok (.istore 6, 2) := by decide +kernel
theorem dL_law_60 : decode cL_law 60 = .ok (.aload_n 1, 1) := by decide +kernel
theorem dL_law_61 : decode cL_law 61 = .ok (.aload_n 2, 1) := by decide +kernel
theorem dL_law_62 : decode cL_law 62 = .ok (.iload 6, 2) := by decide +kernel
theorem dL_law_64 : decode cL_law 64 = .ok (.invokestatic 85, 3) := by decide +kernel
theorem dL_law_67 : decode cL_law 67 = .ok (.ifCond .ne 5, 3) := by decide +kernel
theorem dL_law_70 : decode cL_law 70 = .ok (.iconst 0, 1) := by decide +kernel
theorem dL_law_71 : decode cL_law 71 = .ok (.ireturn, 1) := by decide +kernel
theorem dL_law_72 : decode cL_law 72 = .ok (.aload_n 1, 1) := by decide +kernel
theorem dL_law_73 : decode cL_law 73 = .ok (.invokevirtual 89, 3) := by decide +kernel
theorem dL_law_76 : decode cL_law 76 = .ok (.lstore 7, 2) := by decide +kernel
theorem dL_law_78 : decode cL_law 78 = .ok (.iconst 1, 1) := by decide +kernel
theorem dL_law_79 : decode cL_law 79 = .ok (.iload 6, 2) := by decide +kernel
theorem dL_law_81 : decode cL_law 81 = .ok (.iconst 4, 1) := by decide +kernel
theorem dL_law_82 : decode cL_law 82 = .ok (.ishr, 1) := by decide +kernel
theorem dL_law_83 : decode cL_law 83 = .ok (.bipush 6, 2) := by decide +kernel
theorem dL_law_85 : decode cL_law 85 = .ok (.invokestatic 15, 3) := by decide +kernel
theorem dL_law_88 : decode cL_law 88 = .ok (.iadd, 1) := by decide +kernel
theorem dL_law_89 : decode cL_law 89 = .ok (.istore 9, 2) := by decide +kernel
theorem dL_law_91 : decode cL_law 91 = .ok (.aload_n 1, 1) := by decide +kernel
theorem dL_law_92 : decode cL_law 92 = .ok (.iload 9, 2) := by decide +kernel
theorem dL_law_94 : decode cL_law 94 = .ok (.invokevirtual 93, 3) := by decide +kernel
theorem dL_law_97 : decode cL_law 97 = .ok (.istore 10, 2) := by decide +kernel
theorem dL_law_99 : decode cL_law 99 = .ok (.aload_n 1, 1) := by decide +kernel
theorem dL_law_100 : decode cL_law 100 = .ok (.iload 9, 2) := by decide +kernel
theorem dL_law_102 : decode cL_law 102 = .ok (.invokevirtual 96, 3) := by decide +kernel
theorem dL_law_105 : decode cL_law 105 = .ok (.istore 11, 2) := by decide +kernel
theorem dL_law_107 : decode cL_law 107 = .ok (.aload_n 1, 1) := by decide +kernel
theorem dL_law_108 : decode cL_law 108 = .ok (.invokevirtual 99, 3) := by decide +kernel
theorem dL_law_111 : decode cL_law 111 = .ok (.istore 12, 2) := by decide +kernel
theorem dL_law_113 : decode cL_law 113 = .ok (.iload 12, 2) := by decide +kernel
theorem dL_law_115 : decode cL_law 115 = .ok (.ifCond .ne 7, 3) := by decide +kernel
theorem dL_law_118 : decode cL_law 118 = .ok (.iconst (-1), 1) := by decide +kernel
theorem dL_law_119 : decode cL_law 119 = .ok (.goto 13, 3) := by decide +kernel
theorem dL_law_122 : decode cL_law 122 = .ok (.iload 6, 2) := by decide +kernel
theorem dL_law_124 : decode cL_law 124 = .ok (.bipush 6, 2) := by decide +kernel
theorem dL_law_126 : decode cL_law 126 = .ok (.ishr, 1) := by decide +kernel
theorem dL_law_127 : decode cL_law 127 = .ok (.iload 12, 2) := by decide +kernel
theorem dL_law_129 : decode cL_law 129 = .ok (.invokestatic 15, 3) := by decide +kernel
theorem dL_law_132 : decode cL_law 132 = .ok (.istore 13, 2) := by decide +kernel
theorem dL_law_134 : decode cL_law 134 = .ok (.iload 12, 2) := by decide +kernel
theorem dL_law_136 : decode cL_law 136 = .ok (.ifCond .ne 7, 3) := by decide +kernel
theorem dL_law_139 : decode cL_law 139 = .ok (.iconst (-1), 1) := by decide +kernel
theorem dL_law_140 : decode cL_law 140 = .ok (.goto 9, 3) := by decide +kernel
theorem dL_law_143 : decode cL_law 143 = .ok (.aload_n 1, 1) := by decide +kernel
theorem dL_law_144 : decode cL_law 144 = .ok (.iload 13, 2) := by decide +kernel
theorem dL_law_146 : decode cL_law 146 = .ok (.invokevirtual 101, 3) := by decide +kernel
theorem dL_law_149 : decode cL_law 149 = .ok (.istore 14, 2) := by decide +kernel
theorem dL_law_151 : decode cL_law 151 = .ok (.aload_n 1, 1) := by decide +kernel
theorem dL_law_152 : decode cL_law 152 = .ok (.invokevirtual 89, 3) := by decide +kernel
theorem dL_law_155 : decode cL_law 155 = .ok (.lload 7, 2) := by decide +kernel
theorem dL_law_157 : decode cL_law 157 = .ok (.lcmp, 1) := by decide +kernel
theorem dL_law_158 : decode cL_law 158 = .ok (.ifCond .eq 5, 3) := by decide +kernel
theorem dL_law_161 : decode cL_law 161 = .ok (.iconst 0, 1) := by decide +kernel
theorem dL_law_162 : decode cL_law 162 = .ok (.ireturn, 1) := by decide +kernel
theorem dL_law_163 : decode cL_law 163 = .ok (.iconst 0, 1) := by decide +kernel
theorem dL_law_164 : decode cL_law 164 = .ok (.istore 15, 2) := by decide +kernel
theorem dL_law_166 : decode cL_law 166 = .ok (.iload 15, 2) := by decide +kernel
theorem dL_law_168 : decode cL_law 168 = .ok (.iload 9, 2) := by decide +kernel
theorem dL_law_170 : decode cL_law 170 = .ok (.if_icmp .gt 590, 3) := by decide +kernel
theorem dL_law_173 : decode cL_law 173 = .ok (.iconst 0, 1) := by decide +kernel
theorem dL_law_174 : decode cL_law 174 = .ok (.istore 16, 2) := by decide +kernel
theorem dL_law_176 : decode cL_law 176 = .ok (.iconst 0, 1) := by decide +kernel
theorem dL_law_177 : decode cL_law 177 = .ok (.istore 17, 2) := by decide +kernel
theorem dL_law_179 : decode cL_law 179 = .ok (.iconst 0, 1) := by decide +kernel
theorem dL_law_180 : decode cL_law 180 = .ok (.istore 18, 2) := by decide +kernel
theorem dL_law_182 : decode cL_law 182 = .ok (.iconst 0, 1) := by decide +kernel
theorem dL_law_183 : decode cL_law 183 = .ok (.istore 19, 2) := by decide +kernel
theorem dL_law_185 : decode cL_law 185 = .ok (.iload 19, 2) := by decide +kernel
theorem dL_law_187 : decode cL_law 187 = .ok (.iload_n 3, 1) := by decide +kernel
theorem dL_law_188 : decode cL_law 188 = .ok (.if_icmp .ge 81, 3) := by decide +kernel
theorem dL_law_191 : decode cL_law 191 = .ok (.iload 16, 2) := by decide +kernel
theorem dL_law_193 : decode cL_law 193 = .ok (.aload_n 1, 1) := by decide +kernel
theorem dL_law_194 : decode cL_law 194 = .ok (.iload 19, 2) := by decide +kernel
theorem dL_law_196 : decode cL_law 196 = .ok (.invokevirtual 104, 3) := by decide +kernel
theorem dL_law_199 : decode cL_law 199 = .ok (.iadd, 1) := by decide +kernel
theorem dL_law_200 : decode cL_law 200 = .ok (.istore 16, 2) := by decide +kernel
theorem dL_law_202 : decode cL_law 202 = .ok (.iload 18, 2) := by decide +kernel
theorem dL_law_204 : decode cL_law 204 = .ok (.aload_n 1, 1) := by decide +kernel
theorem dL_law_205 : decode cL_law 205 = .ok (.iload 19, 2) := by decide +kernel
theorem dL_law_207 : decode cL_law 207 = .ok (.invokevirtual 107, 3) := by decide +kernel
theorem dL_law_210 : decode cL_law 210 = .ok (.iadd, 1) := by decide +kernel
theorem dL_law_211 : decode cL_law 211 = .ok (.istore 18, 2) := by decide +kernel
theorem dL_law_213 : decode cL_law 213 = .ok (.aload_n 1, 1) := by decide +kernel
theorem dL_law_214 : decode cL_law 214 = .ok (.iload 19, 2) := by decide +kernel
theorem dL_law_216 : decode cL_law 216 = .ok (.invokevirtual 104, 3) := by decide +kernel
theorem dL_law_219 : decode cL_law 219 = .ok (.aload_n 1, 1) := by decide +kernel
theorem dL_law_220 : decode cL_law 220 = .ok (.iload 19, 2) := by decide +kernel
theorem dL_law_222 : decode cL_law 222 = .ok (.invokevirtual 107, 3) := by decide +kernel
theorem dL_law_225 : decode cL_law 225 = .ok (.if_icmp .gt 36, 3) := by decide +kernel
theorem dL_law_228 : decode cL_law 228 = .ok (.aload_n 1, 1) := by decide +kernel
theorem dL_law_229 : decode cL_law 229 = .ok (.iload 19, 2) := by decide +kernel
theorem dL_law_231 : decode cL_law 231 = .ok (.invokevirtual 110, 3) := by decide +kernel
theorem dL_law_234 : decode cL_law 234 = .ok (.aload_n 1, 1) := by decide +kernel
theorem dL_law_235 : decode cL_law 235 = .ok (.iload 19, 2) := by decide +kernel
theorem dL_law_237 : decode cL_law 237 = .ok (.invokevirtual 104, 3) := by decide +kernel
theorem dL_law_240 : decode cL_law 240 = .ok (.if_icmp .lt 21, 3) := by decide +kernel
theorem dL_law_243 : decode cL_law 243 = .ok (.aload_n 1, 1) := by decide +kernel
theorem dL_law_244 : decode cL_law 244 = .ok (.iload 19, 2) := by decide +kernel
theorem dL_law_246 : decode cL_law 246 = .ok (.invokevirtual 110, 3) := by decide +kernel
theorem dL_law_249 : decode cL_law 249 = .ok (.bipush 10, 2) := by decide +kernel
theorem dL_law_251 : decode cL_law 251 = .ok (.aload_n 1, 1) := by decide +kernel
theorem dL_law_252 : decode cL_law 252 = .ok (.iload 19, 2) := by decide +kernel
theorem dL_law_254 : decode cL_law 254 = .ok (.invokevirtual 104, 3) := by decide +kernel
theorem dL_law_257 : decode cL_law 257 = .ok (.imul, 1) := by decide +kernel
theorem dL_law_258 : decode cL_law 258 = .ok (.if_icmp .le 5, 3) := by decide +kernel
theorem dL_law_261 : decode cL_law 261 = .ok (.iconst 0, 1) := by decide +kernel
theorem dL_law_262 : decode cL_law 262 = .ok (.ireturn, 1) := by decide +kernel
theorem dL_law_263 : decode cL_law 263 = .ok (.iinc 19 1, 3) := by decide +kernel
theorem dL_law_266 : decode cL_law 266 = .ok (.goto (-81), 3) := by decide +kernel
theorem dL_law_269 : decode cL_law 269 = .ok (.iconst 0, 1) := by decide +kernel
theorem dL_law_270 : decode cL_law 270 = .ok (.istore 19, 2) := by decide +kernel
theorem dL_law_272 : decode cL_law 272 = .ok (.iload 19, 2) := by decide +kernel
theorem dL_law_274 : decode cL_law 274 = .ok (.iload 4, 2) := by decide +kernel
theorem dL_law_276 : decode cL_law 276 = .ok (.if_icmp .ge 82, 3) := by decide +kernel
theorem dL_law_279 : decode cL_law 279 = .ok (.iload 17, 2) := by decide +kernel
theorem dL_law_281 : decode cL_law 281 = .ok (.aload_n 1, 1) := by decide +kernel
theorem dL_law_282 : decode cL_law 282 = .ok (.iload 19, 2) := by decide +kernel
theorem dL_law_284 : decode cL_law 284 = .ok (.invokevirtual 113, 3) := by decide +kernel
theorem dL_law_287 : decode cL_law 287 = .ok (.iadd, 1) := by decide +kernel
theorem dL_law_288 : decode cL_law 288 = .ok (.istore 17, 2) := by decide +kernel
theorem dL_law_290 : decode cL_law 290 = .ok (.aload_n 1, 1) := by decide +kernel
theorem dL_law_291 : decode cL_law 291 = .ok (.iload 19, 2) := by decide +kernel
theorem dL_law_293 : decode cL_law 293 = .ok (.invokevirtual 116, 3) := by decide +kernel
theorem dL_law_296 : decode cL_law 296 = .ok (.ifCond .lt 54, 3) := by decide +kernel
theorem dL_law_299 : decode cL_law 299 = .ok (.aload_n 1, 1) := by decide +kernel
theorem dL_law_300 : decode cL_law 300 = .ok (.iload 19, 2) := by decide +kernel
theorem dL_law_302 : decode cL_law 302 = .ok (.invokevirtual 116, 3) := by decide +kernel
theorem dL_law_305 : decode cL_law 305 = .ok (.aload_n 1, 1) := by decide +kernel
theorem dL_law_306 : decode cL_law 306 = .ok (.iload 19, 2) := by decide +kernel
theorem dL_law_308 : decode cL_law 308 = .ok (.invokevirtual 119, 3) := by decide +kernel
theorem dL_law_311 : decode cL_law 311 = .ok (.if_icmp .gt 39, 3) := by decide +kernel
theorem dL_law_314 : decode cL_law 314 = .ok (.aload_n 1, 1) := by decide +kernel
theorem dL_law_315 : decode cL_law 315 = .ok (.iload 19, 2) := by decide +kernel
theorem dL_law_317 : decode cL_law 317 = .ok (.invokevirtual 113, 3) := by decide +kernel
theorem dL_law_320 : decode cL_law 320 = .ok (.ifCond .le 12, 3) := by decide +kernel
