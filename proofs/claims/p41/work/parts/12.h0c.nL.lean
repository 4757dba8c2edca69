set_option maxRecDepth 20000 in
theorem gL_build_L_cell : GoodIn wsL_build (va_wsS RL 65 yL_cell wsL_cell) := goodIn_app (goodIn_of _ (by decide +kernel)) ggL_build_L_cell
set_option maxRecDepth 20000 in
theorem ggL_build_L_below : GoodIn wsL_build wsL_below := goodIn_r _ [25, 26] (by decide +kernel) (by decide +kernel)
set_option maxRecDepth 20000 in
theorem gL_build_L_below : GoodIn wsL_build (va_wsS RL 15 yL_below wsL_below) := goodIn_app (goodIn_of _ (by decide +kernel)) ggL_build_L_below
set_option maxRecDepth 20000 in
theorem ggL_build_X1_addWard : GoodIn wsL_build wsX1_addWard := goodIn_ca (goodIn_ca (goodIn_r _ [31, 32, 33, 34, 35, 36, 37, 38, 39, 40, 41, 42, 43, 44, 89, 90, 91, 92, 93, 94, 95, 96, 97, 98, 99, 100, 101, 102, 103, 104, 105, 106] (by decide +kernel) (by decide +kernel)) (goodIn_sub (fun _ h => List.mem_cons_of_mem _ (List.mem_append_left _ (List.mem_append_left _ (List.mem_append_right _ h)))) (by decide +kernel))) (goodIn_sub (fun _ h => List.mem_cons_of_mem _ (List.mem_append_left _ (List.mem_append_right _ h))) (by decide +kernel))
set_option maxRecDepth 20000 in
theorem gL_build_X1_addWard : GoodIn wsL_build (wsV RL 69 RX1 yX1_addWard wsX1_addWard) := goodIn_app (goodIn_of _ (by decide +kernel)) ggL_build_X1_addWard
set_option maxRecDepth 20000 in
theorem ggL_build_X2_with : GoodIn wsL_build wsX2_with := goodIn_r _ [47, 14] (by decide +kernel) (by decide +kernel)
set_option maxRecDepth 20000 in
theorem gL_build_X2_with : GoodIn wsL_build (va_wsS RL 27 yX2_with wsX2_with) := goodIn_app (goodIn_of _ (by decide +kernel)) ggL_build_X2_with
set_option maxRecDepth 20000 in
theorem ggL_build_X1_addBarge : GoodIn wsL_build wsX1_addBarge := goodIn_ca (goodIn_ca (goodIn_r _ [51, 32, 33, 34, 35, 36, 52, 53, 54, 55, 41, 56, 57, 58, 59, 89, 90, 91, 92, 93, 94, 95, 96, 97, 98, 99, 100, 101, 102, 103, 104, 105, 106] (by decide +kernel) (by decide +kernel)) (goodIn_sub (fun _ h => List.mem_cons_of_mem _ (List.mem_append_left _ (List.mem_append_left _ (List.mem_append_right _ h)))) (by decide +kernel))) (goodIn_sub (fun _ h => List.mem_cons_of_mem _ (List.mem_append_left _ (List.mem_append_right _ h))) (by decide +kernel))
set_option maxRecDepth 20000 in
theorem gL_build_X1_addBarge : GoodIn wsL_build (wsV RL 72 RX1 yX1_addBarge wsX1_addBarge) := goodIn_app (goodIn_of _ (by decide +kernel)) ggL_build_X1_addBarge
set_option maxRecDepth 20000 in
theorem ggL_build_X1_board : GoodIn wsL_build wsX1_board := goodIn_ca (goodIn_ca (goodIn_ca (goodIn_r _ [63, 32, 33, 34, 35, 36, 64, 65, 66, 67, 30, 68, 69, 70, 52, 71, 72, 73, 41, 74, 75, 76, 59, 58, 77, 78, 79, 80, 81, 82, 89, 90, 91, 92, 93, 94, 95, 96, 97, 98, 99, 100, 101, 102, 103, 104, 105, 106] (by decide +kernel) (by decide +kernel)) (goodIn_sub (fun _ h => List.mem_cons_of_mem _ (List.mem_append_left _ (List.mem_append_left _ (List.mem_append_right _ h)))) (by decide +kernel))) (goodIn_sub (fun _ h => List.mem_cons_of_mem _ (List.mem_append_left _ (List.mem_append_right _ h))) (by decide +kernel))) (goodIn_sub (fun _ h => List.mem_cons_of_mem _ (List.mem_append_right _ h)) (by decide +kernel))
set_option maxRecDepth 20000 in
theorem gL_build_X1_board : GoodIn wsL_build (wsV RL 31 RX1 yX1_board wsX1_board) := goodIn_app (goodIn_of _ (by decide +kernel)) ggL_build_X1_board
theorem dL_build_0 : decode cL_build 0 = .ok (.new 10, 3) := by decide +kernel
theorem dL_build_3 : decode cL_build 3 = .ok (.dup, 1) := by decide +kernel
theorem dL_build_4 : decode cL_build 4 = .ok (.invokespecial 64, 3) := by decide +kernel
theorem dL_build_7 : decode cL_build 7 = .ok (.astore_n 2, 1) := by decide +kernel
theorem dL_build_8 : decode cL_build 8 = .ok (.iconst 1, 1) := by decide +kernel
theorem dL_build_9 : decode cL_build 9 = .ok (.aload_n 1, 1) := by decide +kernel
theorem dL_build_10 : decode cL_build 10 = .ok (.iconst 0, 1) := by decide +kernel
theorem dL_build_11 : decode cL_build 11 = .ok (.invokestatic 65, 3) := by decide +kernel
theorem dL_build_14 : decode cL_build 14 = .ok (.iconst 5, 1) := by decide +kernel
theorem dL_build_15 : decode cL_build 15 = .ok (.invokestatic 15, 3) := by decide +kernel
theorem dL_build_18 : decode cL_build 18 = .ok (.iadd, 1) := by decide +kernel
theorem dL_build_19 : decode cL_build 19 = .ok (.istore_n 3, 1) := by decide +kernel
theorem dL_build_20 : decode cL_build 20 = .ok (.iconst 1, 1) := by decide +kernel
theorem dL_build_21 : decode cL_build 21 = .ok (.aload_n 1, 1) := by decide +kernel
theorem dL_build_22 : decode cL_build 22 = .ok (.iconst 1, 1) := by decide +kernel
theorem dL_build_23 : decode cL_build 23 = .ok (.invokestatic 65, 3) := by decide +kernel
theorem dL_build_26 : decode cL_build 26 = .ok (.iconst 4, 1) := by decide +kernel
theorem dL_build_27 : decode cL_build 27 = .ok (.invokestatic 15, 3) := by decide +kernel
theorem dL_build_30 : decode cL_build 30 = .ok (.iadd, 1) := by decide +kernel
theorem dL_build_31 : decode cL_build 31 = .ok (.istore 4, 2) := by decide +kernel
theorem dL_build_33 : decode cL_build 33 = .ok (.iconst 0, 1) := by decide +kernel
theorem dL_build_34 : decode cL_build 34 = .ok (.istore 5, 2) := by decide +kernel
theorem dL_build_36 : decode cL_build 36 = .ok (.iload 5, 2) := by decide +kernel
theorem dL_build_38 : decode cL_build 38 = .ok (.iload_n 3, 1) := by decide +kernel
theorem dL_build_39 : decode cL_build 39 = .ok (.if_icmp .ge 64, 3) := by decide +kernel
theorem dL_build_42 : decode cL_build 42 = .ok (.iconst 1, 1) := by decide +kernel
theorem dL_build_43 : decode cL_build 43 = .ok (.aload_n 1, 1) := by decide +kernel
theorem dL_build_44 : decode cL_build 44 = .ok (.iconst 2, 1) := by decide +kernel
theorem dL_build_45 : decode cL_build 45 = .ok (.invokestatic 65, 3) := by decide +kernel
theorem dL_build_48 : decode cL_build 48 = .ok (.iconst 2, 1) := by decide +kernel
theorem dL_build_49 : decode cL_build 49 = .ok (.iload 5, 2) := by decide +kernel
theorem dL_build_51 : decode cL_build 51 = .ok (.imul, 1) := by decide +kernel
theorem dL_build_52 : decode cL_build 52 = .ok (.ishr, 1) := by decide +kernel
theorem dL_build_53 : decode cL_build 53 = .ok (.bipush 8, 2) := by decide +kernel
theorem dL_build_55 : decode cL_build 55 = .ok (.invokestatic 15, 3) := by decide +kernel
theorem dL_build_58 : decode cL_build 58 = .ok (.iadd, 1) := by decide +kernel
theorem dL_build_59 : decode cL_build 59 = .ok (.istore 6, 2) := by decide +kernel
theorem dL_build_61 : decode cL_build 61 = .ok (.aload_n 0, 1) := by decide +kernel
theorem dL_build_62 : decode cL_build 62 = .ok (.iload 6, 2) := by decide +kernel
theorem dL_build_64 : decode cL_build 64 = .ok (.invokevirtual 69, 3) := by decide +kernel
theorem dL_build_67 : decode cL_build 67 = .ok (.iload 5, 2) := by decide +kernel
theorem dL_build_69 : decode cL_build 69 = .ok (.if_icmp .eq 5, 3) := by decide +kernel
theorem dL_build_72 : decode cL_build 72 = .ok (.aconst_null, 1) := by decide +kernel
theorem dL_build_73 : decode cL_build 73 = .ok (.areturn, 1) := by decide +kernel
theorem dL_build_74 : decode cL_build 74 = .ok (.aload_n 2, 1) := by decide +kernel
theorem dL_build_75 : decode cL_build 75 = .ok (.aload_n 2, 1) := by decide +kernel
theorem dL_build_76 : decode cL_build 76 = .ok (.getfield 9, 3) := by decide +kernel
theorem dL_build_79 : decode cL_build 79 = .ok (.iconst 2, 1) := by decide +kernel
theorem dL_build_80 : decode cL_build 80 = .ok (.newarray .int, 2) := by decide +kernel
theorem dL_build_82 : decode cL_build 82 = .ok (.dup, 1) := by decide +kernel
theorem dL_build_83 : decode cL_build 83 = .ok (.iconst 0, 1) := by decide +kernel
theorem dL_build_84 : decode cL_build 84 = .ok (.iload 6, 2) := by decide +kernel
theorem dL_build_86 : decode cL_build 86 = .ok (.iastore, 1) := by decide +kernel
theorem dL_build_87 : decode cL_build 87 = .ok (.dup, 1) := by decide +kernel
theorem dL_build_88 : decode cL_build 88 = .ok (.iconst 1, 1) := by decide +kernel
theorem dL_build_89 : decode cL_build 89 = .ok (.iconst 0, 1) := by decide +kernel
theorem dL_build_90 : decode cL_build 90 = .ok (.iastore, 1) := by decide +kernel
theorem dL_build_91 : decode cL_build 91 = .ok (.invokestatic 27, 3) := by decide +kernel
theorem dL_build_94 : decode cL_build 94 = .ok (.putfield 9, 3) := by decide +kernel
theorem dL_build_97 : decode cL_build 97 = .ok (.iinc 5 1, 3) := by decide +kernel
theorem dL_build_100 : decode cL_build 100 = .ok (.goto (-64), 3) := by decide +kernel
theorem dL_build_103 : decode cL_build 103 = .ok (.iconst 0, 1) := by decide +kernel
theorem dL_build_104 : decode cL_build 104 = .ok (.istore 5, 2) := by decide +kernel
theorem dL_build_106 : decode cL_build 106 = .ok (.iload 5, 2) := by decide +kernel
theorem dL_build_108 : decode cL_build 108 = .ok (.iload 4, 2) := by decide +kernel
theorem dL_build_110 : decode cL_build 110 = .ok (.if_icmp .ge 65, 3) := by decide +kernel
theorem dL_build_113 : decode cL_build 113 = .ok (.iconst 1, 1) := by decide +kernel
theorem dL_build_114 : decode cL_build 114 = .ok (.aload_n 1, 1) := by decide +kernel
theorem dL_build_115 : decode cL_build 115 = .ok (.iconst 3, 1) := by decide +kernel
theorem dL_build_116 : decode cL_build 116 = .ok (.invokestatic 65, 3) := by decide +kernel
theorem dL_build_119 : decode cL_build 119 = .ok (.iconst 3, 1) := by decide +kernel
theorem dL_build_120 : decode cL_build 120 = .ok (.iload 5, 2) := by decide +kernel
theorem dL_build_122 : decode cL_build 122 = .ok (.imul, 1) := by decide +kernel
theorem dL_build_123 : decode cL_build 123 = .ok (.ishr, 1) := by decide +kernel
theorem dL_build_124 : decode cL_build 124 = .ok (.bipush 9, 2) := by decide +kernel
theorem dL_build_126 : decode cL_build 126 = .ok (.invokestatic 15, 3) := by decide +kernel
theorem dL_build_129 : decode cL_build 129 = .ok (.iadd, 1) := by decide +kernel
theorem dL_build_130 : decode cL_build 130 = .ok (.istore 6, 2) := by decide +kernel
theorem dL_build_132 : decode cL_build 132 = .ok (.aload_n 0, 1) := by decide +kernel
theorem dL_build_133 : decode cL_build 133 = .ok (.iload 6, 2) := by decide +kernel
theorem dL_build_135 : decode cL_build 135 = .ok (.invokevirtual 72, 3) := by decide +kernel
theorem dL_build_138 : decode cL_build 138 = .ok (.iload 5, 2) := by decide +kernel
theorem dL_build_140 : decode cL_build 140 = .ok (.if_icmp .eq 5, 3) := by decide +kernel
theorem dL_build_143 : decode cL_build 143 = .ok (.aconst_null, 1) := by decide +kernel
theorem dL_build_144 : decode cL_build 144 = .ok (.areturn, 1) := by decide +kernel
theorem dL_build_145 : decode cL_build 145 = .ok (.aload_n 2, 1) := by decide +kernel
theorem dL_build_146 : decode cL_build 146 = .ok (.aload_n 2, 1) := by decide +kernel
theorem dL_build_147 : decode cL_build 147 = .ok (.getfield 21, 3) := by decide +kernel
theorem dL_build_150 : decode cL_build 150 = .ok (.iconst 2, 1) := by decide +kernel
theorem dL_build_151 : decode cL_build 151 = .ok (.newarray .int, 2) := by decide +kernel
theorem dL_build_153 : decode cL_build 153 = .ok (.dup, 1) := by decide +kernel
theorem dL_build_154 : decode cL_build 154 = .ok (.iconst 0, 1) := by decide +kernel
theorem dL_build_155 : decode cL_build 155 = .ok (.iload 6, 2) := by decide +kernel
theorem dL_build_157 : decode cL_build 157 = .ok (.iastore, 1) := by decide +kernel
theorem dL_build_158 : decode cL_build 158 = .ok (.dup, 1) := by decide +kernel
theorem dL_build_159 : decode cL_build 159 = .ok (.iconst 1, 1) := by decide +kernel
theorem dL_build_160 : decode cL_build 160 = .ok (.iload 6, 2) := by decide +kernel
theorem dL_build_162 : decode cL_build 162 = .ok (.iastore, 1) := by decide +kernel
theorem dL_build_163 : decode cL_build 163 = .ok (.invokestatic 27, 3) := by decide +kernel
theorem dL_build_166 : decode cL_build 166 = .ok (.putfield 21, 3) := by decide +kernel
theorem dL_build_169 : decode cL_build 169 = .ok (.iinc 5 1, 3) := by decide +kernel
theorem dL_build_172 : decode cL_build 172 = .ok (.goto (-66), 3) := by decide +kernel
theorem dL_build_175 : decode cL_build 175 = .ok (.aload_n 1, 1) := by decide +kernel
theorem dL_build_176 : decode cL_build 176 = .ok (.iconst 4, 1) := by decide +kernel
theorem dL_build_177 : decode cL_build 177 = .ok (.invokestatic 65, 3) := by decide +kernel
theorem dL_build_180 : decode cL_build 180 = .ok (.bipush 25, 2) := by decide +kernel
theorem dL_build_182 : decode cL_build 182 = .ok (.invokestatic 15, 3) := by decide +kernel
theorem dL_build_185 : decode cL_build 185 = .ok (.istore 5, 2) := by decide +kernel
theorem dL_build_187 : decode cL_build 187 = .ok (.iconst 0, 1) := by decide +kernel
theorem dL_build_188 : decode cL_build 188 = .ok (.istore 6, 2) := by decide +kernel
theorem dL_build_190 : decode cL_build 190 = .ok (.iload 6, 2) := by decide +kernel
theorem dL_build_192 : decode cL_build 192 = .ok (.iload 5, 2) := by decide +kernel
theorem dL_build_194 : decode cL_build 194 = .ok (.if_icmp .ge 121, 3) := by decide +kernel
theorem dL_build_197 : decode cL_build 197 = .ok (.aload_n 1, 1) := by decide +kernel
theorem dL_build_198 : decode cL_build 198 = .ok (.iconst 5, 1) := by decide +kernel
theorem dL_build_199 : decode cL_build 199 = .ok (.iload 6, 2) := by decide +kernel
theorem dL_build_201 : decode cL_build 201 = .ok (.bipush 10, 2) := by decide +kernel
theorem dL_build_203 : decode cL_build 203 = .ok (.irem, 1) := by decide +kernel
theorem dL_build_204 : decode cL_build 204 = .ok (.iadd, 1) := by decide +kernel
theorem dL_build_205 : decode cL_build 205 = .ok (.invokestatic 65, 3) := by decide +kernel
theorem dL_build_208 : decode cL_build 208 = .ok (.iload 6, 2) := by decide +kernel
theorem dL_build_210 : decode cL_build 210 = .ok (.bipush 10, 2) := by decide +kernel
theorem dL_build_212 : decode cL_build 212 = .ok (.idiv, 1) := by decide +kernel
theorem dL_build_213 : decode cL_build 213 = .ok (.iconst 4, 1) := by decide +kernel
theorem dL_build_214 : decode cL_build 214 = .ok (.imul, 1) := by decide +kernel
theorem dL_build_215 : decode cL_build 215 = .ok (.ishr, 1) := by decide +kernel
theorem dL_build_216 : decode cL_build 216 = .ok (.istore 7, 2) := by decide +kernel
theorem dL_build_218 : decode cL_build 218 = .ok (.iload 7, 2) := by decide +kernel
theorem dL_build_220 : decode cL_build 220 = .ok (.iconst 3, 1) := by decide +kernel
theorem dL_build_221 : decode cL_build 221 = .ok (.invokestatic 15, 3) := by decide +kernel
theorem dL_build_224 : decode cL_build 224 = .ok (.ifCond .ne 7, 3) := by decide +kernel
theorem dL_build_227 : decode cL_build 227 = .ok (.iconst 0, 1) := by decide +kernel
theorem dL_build_228 : decode cL_build 228 = .ok (.goto 12, 3) := by decide +kernel
theorem dL_build_231 : decode cL_build 231 = .ok (.iload 7, 2) := by decide +kernel
theorem dL_build_233 : decode cL_build 233 = .ok (.iconst 2, 1) := by decide +kernel
theorem dL_build_234 : decode cL_build 234 = .ok (.ishr, 1) := by decide +kernel
theorem dL_build_235 : decode cL_build 235 = .ok (.bipush 10, 2) := by decide +kernel
theorem dL_build_237 : decode cL_build 237 = .ok (.invokestatic 15, 3) := by decide +kernel
theorem dL_build_240 : decode cL_build 240 = .ok (.istore 8, 2) := by decide +kernel
theorem dL_build_242 : decode cL_build 242 = .ok (.iload 7, 2) := by decide +kernel
theorem dL_build_244 : decode cL_build 244 = .ok (.iconst 5, 1) := by decide +kernel
theorem dL_build_245 : decode cL_build 245 = .ok (.ishr, 1) := by decide +kernel
theorem dL_build_246 : decode cL_build 246 = .ok (.iload 4, 2) := by decide +kernel
theorem dL_build_248 : decode cL_build 248 = .ok (.invokestatic 15, 3) := by decide +kernel
theorem dL_build_251 : decode cL_build 251 = .ok (.istore 9, 2) := by decide +kernel
theorem dL_build_253 : decode cL_build 253 = .ok (.aload_n 0, 1) := by decide +kernel
theorem dL_build_254 : decode cL_build 254 = .ok (.iload 9, 2) := by decide +kernel
theorem dL_build_256 : decode cL_build 256 = .ok (.iload 8, 2) := by decide +kernel
