theorem dX2_init_0 : decode cX2_init 0 = .ok (.aload_n 0, 1) := by decide +kernel
theorem dX2_init_1 : decode cX2_init 1 = .ok (.invokespecial 1, 3) := by decide +kernel
theorem dX2_init_4 : decode cX2_init 4 = .ok (.aload_n 0, 1) := by decide +kernel
theorem dX2_init_5 : decode cX2_init 5 = .ok (.bipush 20, 2) := by decide +kernel
theorem dX2_init_7 : decode cX2_init 7 = .ok (.putfield 7, 3) := by decide +kernel
theorem dX2_init_10 : decode cX2_init 10 = .ok (.aload_n 0, 1) := by decide +kernel
theorem dX2_init_11 : decode cX2_init 11 = .ok (.iconst 0, 1) := by decide +kernel
theorem dX2_init_12 : decode cX2_init 12 = .ok (.anewarray 13, 3) := by decide +kernel
theorem dX2_init_15 : decode cX2_init 15 = .ok (.putfield 15, 3) := by decide +kernel
theorem dX2_init_18 : decode cX2_init 18 = .ok (.aload_n 0, 1) := by decide +kernel
theorem dX2_init_19 : decode cX2_init 19 = .ok (.iconst 0, 1) := by decide +kernel
theorem dX2_init_20 : decode cX2_init 20 = .ok (.anewarray 13, 3) := by decide +kernel
theorem dX2_init_23 : decode cX2_init 23 = .ok (.putfield 19, 3) := by decide +kernel
theorem dX2_init_26 : decode cX2_init 26 = .ok (.aload_n 0, 1) := by decide +kernel
theorem dX2_init_27 : decode cX2_init 27 = .ok (.iconst 0, 1) := by decide +kernel
theorem dX2_init_28 : decode cX2_init 28 = .ok (.anewarray 13, 3) := by decide +kernel
theorem dX2_init_31 : decode cX2_init 31 = .ok (.putfield 22, 3) := by decide +kernel
theorem dX2_init_34 : decode cX2_init 34 = .ok (.return_, 1) := by decide +kernel
theorem dX2_with_0 : decode cX2_with 0 = .ok (.aload_n 0, 1) := by decide +kernel
theorem dX2_with_1 : decode cX2_with 1 = .ok (.arraylength, 1) := by decide +kernel
theorem dX2_with_2 : decode cX2_with 2 = .ok (.iconst 1, 1) := by decide +kernel
theorem dX2_with_3 : decode cX2_with 3 = .ok (.iadd, 1) := by decide +kernel
theorem dX2_with_4 : decode cX2_with 4 = .ok (.anewarray 13, 3) := by decide +kernel
theorem dX2_with_7 : decode cX2_with 7 = .ok (.astore_n 2, 1) := by decide +kernel
theorem dX2_with_8 : decode cX2_with 8 = .ok (.iconst 0, 1) := by decide +kernel
theorem dX2_with_9 : decode cX2_with 9 = .ok (.istore_n 3, 1) := by decide +kernel
theorem dX2_with_10 : decode cX2_with 10 = .ok (.iload_n 3, 1) := by decide +kernel
theorem dX2_with_11 : decode cX2_with 11 = .ok (.aload_n 0, 1) := by decide +kernel
theorem dX2_with_12 : decode cX2_with 12 = .ok (.arraylength, 1) := by decide +kernel
theorem dX2_with_13 : decode cX2_with 13 = .ok (.if_icmp .ge 15, 3) := by decide +kernel
theorem dX2_with_16 : decode cX2_with 16 = .ok (.aload_n 2, 1) := by decide +kernel
theorem dX2_with_17 : decode cX2_with 17 = .ok (.iload_n 3, 1) := by decide +kernel
theorem dX2_with_18 : decode cX2_with 18 = .ok (.aload_n 0, 1) := by decide +kernel
theorem dX2_with_19 : decode cX2_with 19 = .ok (.iload_n 3, 1) := by decide +kernel
theorem dX2_with_20 : decode cX2_with 20 = .ok (.aaload, 1) := by decide +kernel
theorem dX2_with_21 : decode cX2_with 21 = .ok (.aastore, 1) := by decide +kernel
theorem dX2_with_22 : decode cX2_with 22 = .ok (.iinc 3 1, 3) := by decide +kernel
theorem dX2_with_25 : decode cX2_with 25 = .ok (.goto (-15), 3) := by decide +kernel
theorem dX2_with_28 : decode cX2_with 28 = .ok (.aload_n 2, 1) := by decide +kernel
theorem dX2_with_29 : decode cX2_with 29 = .ok (.aload_n 0, 1) := by decide +kernel
theorem dX2_with_30 : decode cX2_with 30 = .ok (.arraylength, 1) := by decide +kernel
theorem dX2_with_31 : decode cX2_with 31 = .ok (.aload_n 1, 1) := by decide +kernel
theorem dX2_with_32 : decode cX2_with 32 = .ok (.aastore, 1) := by decide +kernel
theorem dX2_with_33 : decode cX2_with 33 = .ok (.aload_n 2, 1) := by decide +kernel
theorem dX2_with_34 : decode cX2_with 34 = .ok (.areturn, 1) := by decide +kernel
theorem dX2_in_0 : decode cX2_in 0 = .ok (.iconst 0, 1) := by decide +kernel
theorem dX2_in_1 : decode cX2_in 1 = .ok (.istore_n 2, 1) := by decide +kernel
theorem dX2_in_2 : decode cX2_in 2 = .ok (.aload_n 0, 1) := by decide +kernel
theorem dX2_in_3 : decode cX2_in 3 = .ok (.getfield 22, 3) := by decide +kernel
theorem dX2_in_6 : decode cX2_in 6 = .ok (.astore_n 3, 1) := by decide +kernel
theorem dX2_in_7 : decode cX2_in 7 = .ok (.aload_n 3, 1) := by decide +kernel
theorem dX2_in_8 : decode cX2_in 8 = .ok (.arraylength, 1) := by decide +kernel
theorem dX2_in_9 : decode cX2_in 9 = .ok (.istore 4, 2) := by decide +kernel
theorem dX2_in_11 : decode cX2_in 11 = .ok (.iconst 0, 1) := by decide +kernel
theorem dX2_in_12 : decode cX2_in 12 = .ok (.istore 5, 2) := by decide +kernel
theorem dX2_in_14 : decode cX2_in 14 = .ok (.iload 5, 2) := by decide +kernel
theorem dX2_in_16 : decode cX2_in 16 = .ok (.iload 4, 2) := by decide +kernel
theorem dX2_in_18 : decode cX2_in 18 = .ok (.if_icmp .ge 31, 3) := by decide +kernel
theorem dX2_in_21 : decode cX2_in 21 = .ok (.aload_n 3, 1) := by decide +kernel
theorem dX2_in_22 : decode cX2_in 22 = .ok (.iload 5, 2) := by decide +kernel
theorem dX2_in_24 : decode cX2_in 24 = .ok (.aaload, 1) := by decide +kernel
theorem dX2_in_25 : decode cX2_in 25 = .ok (.astore 6, 2) := by decide +kernel
theorem dX2_in_27 : decode cX2_in 27 = .ok (.iload_n 2, 1) := by decide +kernel
theorem dX2_in_28 : decode cX2_in 28 = .ok (.aload 6, 2) := by decide +kernel
theorem dX2_in_30 : decode cX2_in 30 = .ok (.iconst 1, 1) := by decide +kernel
theorem dX2_in_31 : decode cX2_in 31 = .ok (.iaload, 1) := by decide +kernel
theorem dX2_in_32 : decode cX2_in 32 = .ok (.iload_n 1, 1) := by decide +kernel
theorem dX2_in_33 : decode cX2_in 33 = .ok (.if_icmp .ne 7, 3) := by decide +kernel
theorem dX2_in_36 : decode cX2_in 36 = .ok (.iconst 1, 1) := by decide +kernel
theorem dX2_in_37 : decode cX2_in 37 = .ok (.goto 4, 3) := by decide +kernel
theorem dX2_in_40 : decode cX2_in 40 = .ok (.iconst 0, 1) := by decide +kernel
theorem dX2_in_41 : decode cX2_in 41 = .ok (.iadd, 1) := by decide +kernel
theorem dX2_in_42 : decode cX2_in 42 = .ok (.istore_n 2, 1) := by decide +kernel
theorem dX2_in_43 : decode cX2_in 43 = .ok (.iinc 5 1, 3) := by decide +kernel
theorem dX2_in_46 : decode cX2_in 46 = .ok (.goto (-32), 3) := by decide +kernel
theorem dX2_in_49 : decode cX2_in 49 = .ok (.iload_n 2, 1) := by decide +kernel
theorem dX2_in_50 : decode cX2_in 50 = .ok (.ireturn, 1) := by decide +kernel
set_option maxRecDepth 20000 in
theorem ggX2_pass_X2_in : GoodIn wsX2_pass wsX2_in := goodIn_r _ [13, 2, 14, 15, 16, 17, 18, 19] (by decide +kernel) (by decide +kernel)
set_option maxRecDepth 20000 in
theorem gX2_pass_X2_in : GoodIn wsX2_pass (wsV RX2 42 RX2 yX2_in wsX2_in) := goodIn_app (goodIn_of _ (by decide +kernel)) ggX2_pass_X2_in
theorem dX2_pass_0 : decode cX2_pass 0 = .ok (.aload_n 0, 1) := by decide +kernel
theorem dX2_pass_1 : decode cX2_pass 1 = .ok (.getfield 7, 3) := by decide +kernel
theorem dX2_pass_4 : decode cX2_pass 4 = .ok (.istore_n 1, 1) := by decide +kernel
theorem dX2_pass_5 : decode cX2_pass 5 = .ok (.aload_n 0, 1) := by decide +kernel
theorem dX2_pass_6 : decode cX2_pass 6 = .ok (.getfield 22, 3) := by decide +kernel
theorem dX2_pass_9 : decode cX2_pass 9 = .ok (.arraylength, 1) := by decide +kernel
theorem dX2_pass_10 : decode cX2_pass 10 = .ok (.newarray .boolean, 2) := by decide +kernel
theorem dX2_pass_12 : decode cX2_pass 12 = .ok (.astore_n 2, 1) := by decide +kernel
theorem dX2_pass_13 : decode cX2_pass 13 = .ok (.iconst 0, 1) := by decide +kernel
theorem dX2_pass_14 : decode cX2_pass 14 = .ok (.istore_n 3, 1) := by decide +kernel
theorem dX2_pass_15 : decode cX2_pass 15 = .ok (.iload_n 3, 1) := by decide +kernel
theorem dX2_pass_16 : decode cX2_pass 16 = .ok (.aload_n 0, 1) := by decide +kernel
theorem dX2_pass_17 : decode cX2_pass 17 = .ok (.getfield 15, 3) := by decide +kernel
theorem dX2_pass_20 : decode cX2_pass 20 = .ok (.arraylength, 1) := by decide +kernel
theorem dX2_pass_21 : decode cX2_pass 21 = .ok (.if_icmp .ge 66, 3) := by decide +kernel
theorem dX2_pass_24 : decode cX2_pass 24 = .ok (.iconst 0, 1) := by decide +kernel
theorem dX2_pass_25 : decode cX2_pass 25 = .ok (.istore 4, 2) := by decide +kernel
theorem dX2_pass_27 : decode cX2_pass 27 = .ok (.iload 4, 2) := by decide +kernel
theorem dX2_pass_29 : decode cX2_pass 29 = .ok (.aload_n 0, 1) := by decide +kernel
theorem dX2_pass_30 : decode cX2_pass 30 = .ok (.getfield 22, 3) := by decide +kernel
theorem dX2_pass_33 : decode cX2_pass 33 = .ok (.arraylength, 1) := by decide +kernel
theorem dX2_pass_34 : decode cX2_pass 34 = .ok (.if_icmp .ge 47, 3) := by decide +kernel
theorem dX2_pass_37 : decode cX2_pass 37 = .ok (.aload_n 0, 1) := by decide +kernel
theorem dX2_pass_38 : decode cX2_pass 38 = .ok (.getfield 22, 3) := by decide +kernel
theorem dX2_pass_41 : decode cX2_pass 41 = .ok (.iload 4, 2) := by decide +kernel
theorem dX2_pass_43 : decode cX2_pass 43 = .ok (.aaload, 1) := by decide +kernel
theorem dX2_pass_44 : decode cX2_pass 44 = .ok (.iconst 1, 1) := by decide +kernel
theorem dX2_pass_45 : decode cX2_pass 45 = .ok (.iaload, 1) := by decide +kernel
theorem dX2_pass_46 : decode cX2_pass 46 = .ok (.iload_n 3, 1) := by decide +kernel
theorem dX2_pass_47 : decode cX2_pass 47 = .ok (.if_icmp .ne 28, 3) := by decide +kernel
theorem dX2_pass_50 : decode cX2_pass 50 = .ok (.iload_n 1, 1) := by decide +kernel
theorem dX2_pass_51 : decode cX2_pass 51 = .ok (.ifCond .ne 6, 3) := by decide +kernel
theorem dX2_pass_54 : decode cX2_pass 54 = .ok (.goto 21, 3) := by decide +kernel
theorem dX2_pass_57 : decode cX2_pass 57 = .ok (.iinc 1 (-1), 3) := by decide +kernel
theorem dX2_pass_60 : decode cX2_pass 60 = .ok (.aload_n 2, 1) := by decide +kernel
theorem dX2_pass_61 : decode cX2_pass 61 = .ok (.iload 4, 2) := by decide +kernel
theorem dX2_pass_63 : decode cX2_pass 63 = .ok (.iconst 1, 1) := by decide +kernel
theorem dX2_pass_64 : decode cX2_pass 64 = .ok (.bastore, 1) := by decide +kernel
theorem dX2_pass_65 : decode cX2_pass 65 = .ok (.aload_n 0, 1) := by decide +kernel
theorem dX2_pass_66 : decode cX2_pass 66 = .ok (.dup, 1) := by decide +kernel
theorem dX2_pass_67 : decode cX2_pass 67 = .ok (.getfield 35, 3) := by decide +kernel
theorem dX2_pass_70 : decode cX2_pass 70 = .ok (.iconst 1, 1) := by decide +kernel
theorem dX2_pass_71 : decode cX2_pass 71 = .ok (.iadd, 1) := by decide +kernel
theorem dX2_pass_72 : decode cX2_pass 72 = .ok (.putfield 35, 3) := by decide +kernel
theorem dX2_pass_75 : decode cX2_pass 75 = .ok (.iinc 4 1, 3) := by decide +kernel
theorem dX2_pass_78 : decode cX2_pass 78 = .ok (.goto (-51), 3) := by decide +kernel
theorem dX2_pass_81 : decode cX2_pass 81 = .ok (.iinc 3 1, 3) := by decide +kernel
theorem dX2_pass_84 : decode cX2_pass 84 = .ok (.goto (-69), 3) := by decide +kernel
theorem dX2_pass_87 : decode cX2_pass 87 = .ok (.iconst 0, 1) := by decide +kernel
theorem dX2_pass_88 : decode cX2_pass 88 = .ok (.istore_n 3, 1) := by decide +kernel
theorem dX2_pass_89 : decode cX2_pass 89 = .ok (.iload_n 3, 1) := by decide +kernel
theorem dX2_pass_90 : decode cX2_pass 90 = .ok (.aload_n 0, 1) := by decide +kernel
theorem dX2_pass_91 : decode cX2_pass 91 = .ok (.getfield 22, 3) := by decide +kernel
theorem dX2_pass_94 : decode cX2_pass 94 = .ok (.arraylength, 1) := by decide +kernel
theorem dX2_pass_95 : decode cX2_pass 95 = .ok (.if_icmp .ge 101, 3) := by decide +kernel
theorem dX2_pass_98 : decode cX2_pass 98 = .ok (.aload_n 0, 1) := by decide +kernel
theorem dX2_pass_99 : decode cX2_pass 99 = .ok (.getfield 22, 3) := by decide +kernel
theorem dX2_pass_102 : decode cX2_pass 102 = .ok (.iload_n 3, 1) := by decide +kernel
theorem dX2_pass_103 : decode cX2_pass 103 = .ok (.aaload, 1) := by decide +kernel
theorem dX2_pass_104 : decode cX2_pass 104 = .ok (.astore 4, 2) := by decide +kernel
theorem dX2_pass_106 : decode cX2_pass 106 = .ok (.aload 4, 2) := by decide +kernel
theorem dX2_pass_108 : decode cX2_pass 108 = .ok (.iconst 1, 1) := by decide +kernel
theorem dX2_pass_109 : decode cX2_pass 109 = .ok (.iaload, 1) := by decide +kernel
theorem dX2_pass_110 : decode cX2_pass 110 = .ok (.ifCond .ge 6, 3) := by decide +kernel
theorem dX2_pass_113 : decode cX2_pass 113 = .ok (.goto 77, 3) := by decide +kernel
theorem dX2_pass_116 : decode cX2_pass 116 = .ok (.aload_n 2, 1) := by decide +kernel
theorem dX2_pass_117 : decode cX2_pass 117 = .ok (.iload_n 3, 1) := by decide +kernel
theorem dX2_pass_118 : decode cX2_pass 118 = .ok (.baload, 1) := by decide +kernel
theorem dX2_pass_119 : decode cX2_pass 119 = .ok (.ifCond .ne 11, 3) := by decide +kernel
theorem dX2_pass_122 : decode cX2_pass 122 = .ok (.aload 4, 2) := by decide +kernel
theorem dX2_pass_124 : decode cX2_pass 124 = .ok (.iconst 5, 1) := by decide +kernel
theorem dX2_pass_125 : decode cX2_pass 125 = .ok (.dup2, 1) := by decide +kernel
theorem dX2_pass_126 : decode cX2_pass 126 = .ok (.iaload, 1) := by decide +kernel
theorem dX2_pass_127 : decode cX2_pass 127 = .ok (.iconst 1, 1) := by decide +kernel
theorem dX2_pass_128 : decode cX2_pass 128 = .ok (.iadd, 1) := by decide +kernel
theorem dX2_pass_129 : decode cX2_pass 129 = .ok (.iastore, 1) := by decide +kernel
theorem dX2_pass_130 : decode cX2_pass 130 = .ok (.aload 4, 2) := by decide +kernel
theorem dX2_pass_132 : decode cX2_pass 132 = .ok (.iconst 0, 1) := by decide +kernel
theorem dX2_pass_133 : decode cX2_pass 133 = .ok (.dup2, 1) := by decide +kernel
theorem dX2_pass_134 : decode cX2_pass 134 = .ok (.iaload, 1) := by decide +kernel
theorem dX2_pass_135 : decode cX2_pass 135 = .ok (.aload_n 2, 1) := by decide +kernel
theorem dX2_pass_136 : decode cX2_pass 136 = .ok (.iload_n 3, 1) := by decide +kernel
theorem dX2_pass_137 : decode cX2_pass 137 = .ok (.baload, 1) := by decide +kernel
theorem dX2_pass_138 : decode cX2_pass 138 = .ok (.ifCond .eq 22, 3) := by decide +kernel
theorem dX2_pass_141 : decode cX2_pass 141 = .ok (.aload_n 0, 1) := by decide +kernel
theorem dX2_pass_142 : decode cX2_pass 142 = .ok (.getfield 15, 3) := by decide +kernel
theorem dX2_pass_145 : decode cX2_pass 145 = .ok (.aload 4, 2) := by decide +kernel
theorem dX2_pass_147 : decode cX2_pass 147 = .ok (.iconst 1, 1) := by decide +kernel
theorem dX2_pass_148 : decode cX2_pass 148 = .ok (.iaload, 1) := by decide +kernel
theorem dX2_pass_149 : decode cX2_pass 149 = .ok (.aaload, 1) := by decide +kernel
theorem dX2_pass_150 : decode cX2_pass 150 = .ok (.iconst 1, 1) := by decide +kernel
theorem dX2_pass_151 : decode cX2_pass 151 = .ok (.iaload, 1) := by decide +kernel
theorem dX2_pass_152 : decode cX2_pass 152 = .ok (.iconst 5, 1) := by decide +kernel
theorem dX2_pass_153 : decode cX2_pass 153 = .ok (.if_icmp .ge 7, 3) := by decide +kernel
theorem dX2_pass_156 : decode cX2_pass 156 = .ok (.iconst (-1), 1) := by decide +kernel
theorem dX2_pass_157 : decode cX2_pass 157 = .ok (.goto 4, 3) := by decide +kernel
theorem dX2_pass_160 : decode cX2_pass 160 = .ok (.iconst 1, 1) := by decide +kernel
theorem dX2_pass_161 : decode cX2_pass 161 = .ok (.iadd, 1) := by decide +kernel
theorem dX2_pass_162 : decode cX2_pass 162 = .ok (.iastore, 1) := by decide +kernel
theorem dX2_pass_163 : decode cX2_pass 163 = .ok (.aload 4, 2) := by decide +kernel
theorem dX2_pass_165 : decode cX2_pass 165 = .ok (.iconst 0, 1) := by decide +kernel
theorem dX2_pass_166 : decode cX2_pass 166 = .ok (.iaload, 1) := by decide +kernel
theorem dX2_pass_167 : decode cX2_pass 167 = .ok (.bipush 10, 2) := by decide +kernel
theorem dX2_pass_169 : decode cX2_pass 169 = .ok (.if_icmp .le 9, 3) := by decide +kernel
theorem dX2_pass_172 : decode cX2_pass 172 = .ok (.aload 4, 2) := by decide +kernel
theorem dX2_pass_174 : decode cX2_pass 174 = .ok (.iconst 0, 1) := by decide +kernel
theorem dX2_pass_175 : decode cX2_pass 175 = .ok (.bipush 10, 2) := by decide +kernel
theorem dX2_pass_177 : decode cX2_pass 177 = .ok (.iastore, 1) := by decide +kernel
theorem dX2_pass_178 : decode cX2_pass 178 = .ok (.aload 4, 2) := by decide +kernel
theorem dX2_pass_180 : decode cX2_pass 180 = .ok (.iconst 0, 1) := by decide +kernel
theorem dX2_pass_181 : decode cX2_pass 181 = .ok (.iaload, 1) := by decide +kernel
theorem dX2_pass_182 : decode cX2_pass 182 = .ok (.ifCond .ge 8, 3) := by decide +kernel
theorem dX2_pass_185 : decode cX2_pass 185 = .ok (.aload 4, 2) := by decide +kernel
theorem dX2_pass_187 : decode cX2_pass 187 = .ok (.iconst 0, 1) := by decide +kernel
theorem dX2_pass_188 : decode cX2_pass 188 = .ok (.iconst 0, 1) := by decide +kernel
theorem dX2_pass_189 : decode cX2_pass 189 = .ok (.iastore, 1) := by decide +kernel
theorem dX2_pass_190 : decode cX2_pass 190 = .ok (.iinc 3 1, 3) := by decide +kernel
theorem dX2_pass_193 : decode cX2_pass 193 = .ok (.goto (-104), 3) := by decide +kernel
theorem dX2_pass_196 : decode cX2_pass 196 = .ok (.iconst 0, 1) := by decide +kernel
theorem dX2_pass_197 : decode cX2_pass 197 = .ok (.istore_n 3, 1) := by decide +kernel
theorem dX2_pass_198 : decode cX2_pass 198 = .ok (.iload_n 3, 1) := by decide +kernel
theorem dX2_pass_199 : decode cX2_pass 199 = .ok (.aload_n 0, 1) := by decide +kernel
theorem dX2_pass_200 : decode cX2_pass 200 = .ok (.getfield 19, 3) := by decide +kernel
theorem dX2_pass_203 : decode cX2_pass 203 = .ok (.arraylength, 1) := by decide +kernel
theorem dX2_pass_204 : decode cX2_pass 204 = .ok (.if_icmp .ge 215, 3) := by decide +kernel
theorem dX2_pass_207 : decode cX2_pass 207 = .ok (.aload_n 0, 1) := by decide +kernel
theorem dX2_pass_208 : decode cX2_pass 208 = .ok (.getfield 19, 3) := by decide +kernel
theorem dX2_pass_211 : decode cX2_pass 211 = .ok (.iload_n 3, 1) := by decide +kernel
theorem dX2_pass_212 : decode cX2_pass 212 = .ok (.aaload, 1) := by decide +kernel
theorem dX2_pass_213 : decode cX2_pass 213 = .ok (.iconst 1, 1) := by decide +kernel
theorem dX2_pass_214 : decode cX2_pass 214 = .ok (.iaload, 1) := by decide +kernel
theorem dX2_pass_215 : decode cX2_pass 215 = .ok (.ifCond .ne 6, 3) := by decide +kernel
theorem dX2_pass_218 : decode cX2_pass 218 = .ok (.goto 195, 3) := by decide +kernel
theorem dX2_pass_221 : decode cX2_pass 221 = .ok (.aload_n 0, 1) := by decide +kernel
theorem dX2_pass_222 : decode cX2_pass 222 = .ok (.getfield 19, 3) := by decide +kernel
theorem dX2_pass_225 : decode cX2_pass 225 = .ok (.iload_n 3, 1) := by decide +kernel
theorem dX2_pass_226 : decode cX2_pass 226 = .ok (.aaload, 1) := by decide +kernel
theorem dX2_pass_227 : decode cX2_pass 227 = .ok (.iconst 1, 1) := by decide +kernel
theorem dX2_pass_228 : decode cX2_pass 228 = .ok (.dup2, 1) := by decide +kernel
theorem dX2_pass_229 : decode cX2_pass 229 = .ok (.iaload, 1) := by decide +kernel
theorem dX2_pass_230 : decode cX2_pass 230 = .ok (.iconst 1, 1) := by decide +kernel
theorem dX2_pass_231 : decode cX2_pass 231 = .ok (.isub, 1) := by decide +kernel
theorem dX2_pass_232 : decode cX2_pass 232 = .ok (.iastore, 1) := by decide +kernel
theorem dX2_pass_233 : decode cX2_pass 233 = .ok (.aload_n 0, 1) := by decide +kernel
theorem dX2_pass_234 : decode cX2_pass 234 = .ok (.getfield 19, 3) := by decide +kernel
theorem dX2_pass_237 : decode cX2_pass 237 = .ok (.iload_n 3, 1) := by decide +kernel
theorem dX2_pass_238 : decode cX2_pass 238 = .ok (.aaload, 1) := by decide +kernel
theorem dX2_pass_239 : decode cX2_pass 239 = .ok (.iconst 1, 1) := by decide +kernel
theorem dX2_pass_240 : decode cX2_pass 240 = .ok (.iaload, 1) := by decide +kernel
theorem dX2_pass_241 : decode cX2_pass 241 = .ok (.ifCond .ne 6, 3) := by decide +kernel
theorem dX2_pass_244 : decode cX2_pass 244 = .ok (.goto 169, 3) := by decide +kernel
theorem dX2_pass_247 : decode cX2_pass 247 = .ok (.aload_n 0, 1) := by decide +kernel
theorem dX2_pass_248 : decode cX2_pass 248 = .ok (.getfield 22, 3) := by decide +kernel
theorem dX2_pass_251 : decode cX2_pass 251 = .ok (.arraylength, 1) := by decide +kernel
theorem dX2_pass_252 : decode cX2_pass 252 = .ok (.newarray .int, 2) := by decide +kernel
theorem dX2_pass_254 : decode cX2_pass 254 = .ok (.astore 4, 2) := by decide +kernel
theorem dX2_pass_256 : decode cX2_pass 256 = .ok (.iconst 0, 1) := by decide +kernel
theorem dX2_pass_257 : decode cX2_pass 257 = .ok (.istore 5, 2) := by decide +kernel
theorem dX2_pass_259 : decode cX2_pass 259 = .ok (.iload 5, 2) := by decide +kernel
theorem dX2_pass_261 : decode cX2_pass 261 = .ok (.aload_n 0, 1) := by decide +kernel
theorem dX2_pass_262 : decode cX2_pass 262 = .ok (.getfield 22, 3) := by decide +kernel
theorem dX2_pass_265 : decode cX2_pass 265 = .ok (.arraylength, 1) := by decide +kernel
theorem dX2_pass_266 : decode cX2_pass 266 = .ok (.if_icmp .ge 23, 3) := by decide +kernel
theorem dX2_pass_269 : decode cX2_pass 269 = .ok (.aload 4, 2) := by decide +kernel
theorem dX2_pass_271 : decode cX2_pass 271 = .ok (.iload 5, 2) := by decide +kernel
theorem dX2_pass_273 : decode cX2_pass 273 = .ok (.aload_n 0, 1) := by decide +kernel
theorem dX2_pass_274 : decode cX2_pass 274 = .ok (.getfield 22, 3) := by decide +kernel
theorem dX2_pass_277 : decode cX2_pass 277 = .ok (.iload 5, 2) := by decide +kernel
theorem dX2_pass_279 : decode cX2_pass 279 = .ok (.aaload, 1) := by decide +kernel
theorem dX2_pass_280 : decode cX2_pass 280 = .ok (.iconst 0, 1) := by decide +kernel
theorem dX2_pass_281 : decode cX2_pass 281 = .ok (.iaload, 1) := by decide +kernel
theorem dX2_pass_282 : decode cX2_pass 282 = .ok (.iastore, 1) := by decide +kernel
theorem dX2_pass_283 : decode cX2_pass 283 = .ok (.iinc 5 1, 3) := by decide +kernel
theorem dX2_pass_286 : decode cX2_pass 286 = .ok (.goto (-27), 3) := by decide +kernel
theorem dX2_pass_289 : decode cX2_pass 289 = .ok (.iconst 0, 1) := by decide +kernel
theorem dX2_pass_290 : decode cX2_pass 290 = .ok (.istore 5, 2) := by decide +kernel
theorem dX2_pass_292 : decode cX2_pass 292 = .ok (.iload 5, 2) := by decide +kernel
theorem dX2_pass_294 : decode cX2_pass 294 = .ok (.aload_n 0, 1) := by decide +kernel
theorem dX2_pass_295 : decode cX2_pass 295 = .ok (.getfield 22, 3) := by decide +kernel
theorem dX2_pass_298 : decode cX2_pass 298 = .ok (.arraylength, 1) := by decide +kernel
theorem dX2_pass_299 : decode cX2_pass 299 = .ok (.if_icmp .ge 114, 3) := by decide +kernel
theorem dX2_pass_302 : decode cX2_pass 302 = .ok (.aload_n 0, 1) := by decide +kernel
theorem dX2_pass_303 : decode cX2_pass 303 = .ok (.getfield 22, 3) := by decide +kernel
theorem dX2_pass_306 : decode cX2_pass 306 = .ok (.iload 5, 2) := by decide +kernel
theorem dX2_pass_308 : decode cX2_pass 308 = .ok (.aaload, 1) := by decide +kernel
theorem dX2_pass_309 : decode cX2_pass 309 = .ok (.iconst 2, 1) := by decide +kernel
theorem dX2_pass_310 : decode cX2_pass 310 = .ok (.iaload, 1) := by decide +kernel
theorem dX2_pass_311 : decode cX2_pass 311 = .ok (.iload_n 3, 1) := by decide +kernel
theorem dX2_pass_312 : decode cX2_pass 312 = .ok (.if_icmp .eq 6, 3) := by decide +kernel
theorem dX2_pass_315 : decode cX2_pass 315 = .ok (.goto 92, 3) := by decide +kernel
theorem dX2_pass_318 : decode cX2_pass 318 = .ok (.iconst 0, 1) := by decide +kernel
theorem dX2_pass_319 : decode cX2_pass 319 = .ok (.istore 6, 2) := by decide +kernel
theorem dX2_pass_321 : decode cX2_pass 321 = .ok (.iconst 0, 1) := by decide +kernel
theorem dX2_pass_322 : decode cX2_pass 322 = .ok (.istore 7, 2) := by decide +kernel
theorem dX2_pass_324 : decode cX2_pass 324 = .ok (.iload 7, 2) := by decide +kernel
theorem dX2_pass_326 : decode cX2_pass 326 = .ok (.aload_n 0, 1) := by decide +kernel
theorem dX2_pass_327 : decode cX2_pass 327 = .ok (.getfield 22, 3) := by decide +kernel
theorem dX2_pass_330 : decode cX2_pass 330 = .ok (.arraylength, 1) := by decide +kernel
theorem dX2_pass_331 : decode cX2_pass 331 = .ok (.if_icmp .ge 48, 3) := by decide +kernel
theorem dX2_pass_334 : decode cX2_pass 334 = .ok (.iload 6, 2) := by decide +kernel
theorem dX2_pass_336 : decode cX2_pass 336 = .ok (.iload 7, 2) := by decide +kernel
theorem dX2_pass_338 : decode cX2_pass 338 = .ok (.iload 5, 2) := by decide +kernel
theorem dX2_pass_340 : decode cX2_pass 340 = .ok (.if_icmp .eq 29, 3) := by decide +kernel
theorem dX2_pass_343 : decode cX2_pass 343 = .ok (.aload_n 0, 1) := by decide +kernel
theorem dX2_pass_344 : decode cX2_pass 344 = .ok (.getfield 22, 3) := by decide +kernel
theorem dX2_pass_347 : decode cX2_pass 347 = .ok (.iload 7, 2) := by decide +kernel
theorem dX2_pass_349 : decode cX2_pass 349 = .ok (.aaload, 1) := by decide +kernel
theorem dX2_pass_350 : decode cX2_pass 350 = .ok (.iconst 2, 1) := by decide +kernel
theorem dX2_pass_351 : decode cX2_pass 351 = .ok (.iaload, 1) := by decide +kernel
theorem dX2_pass_352 : decode cX2_pass 352 = .ok (.iload_n 3, 1) := by decide +kernel
theorem dX2_pass_353 : decode cX2_pass 353 = .ok (.if_icmp .ne 16, 3) := by decide +kernel
theorem dX2_pass_356 : decode cX2_pass 356 = .ok (.aload 4, 2) := by decide +kernel
theorem dX2_pass_358 : decode cX2_pass 358 = .ok (.iload 7, 2) := by decide +kernel
theorem dX2_pass_360 : decode cX2_pass 360 = .ok (.iaload, 1) := by decide +kernel
theorem dX2_pass_361 : decode cX2_pass 361 = .ok (.iconst 1, 1) := by decide +kernel
theorem dX2_pass_362 : decode cX2_pass 362 = .ok (.if_icmp .lt 7, 3) := by decide +kernel
theorem dX2_pass_365 : decode cX2_pass 365 = .ok (.iconst 1, 1) := by decide +kernel
theorem dX2_pass_366 : decode cX2_pass 366 = .ok (.goto 4, 3) := by decide +kernel
theorem dX2_pass_369 : decode cX2_pass 369 = .ok (.iconst 0, 1) := by decide +kernel
theorem dX2_pass_370 : decode cX2_pass 370 = .ok (.ior, 1) := by decide +kernel
theorem dX2_pass_371 : decode cX2_pass 371 = .ok (.istore 6, 2) := by decide +kernel
theorem dX2_pass_373 : decode cX2_pass 373 = .ok (.iinc 7 1, 3) := by decide +kernel
theorem dX2_pass_376 : decode cX2_pass 376 = .ok (.goto (-52), 3) := by decide +kernel
theorem dX2_pass_379 : decode cX2_pass 379 = .ok (.iload 6, 2) := by decide +kernel
theorem dX2_pass_381 : decode cX2_pass 381 = .ok (.ifCond .eq 26, 3) := by decide +kernel
theorem dX2_pass_384 : decode cX2_pass 384 = .ok (.aload 4, 2) := by decide +kernel
theorem dX2_pass_386 : decode cX2_pass 386 = .ok (.iload 5, 2) := by decide +kernel
theorem dX2_pass_388 : decode cX2_pass 388 = .ok (.iaload, 1) := by decide +kernel
theorem dX2_pass_389 : decode cX2_pass 389 = .ok (.bipush 10, 2) := by decide +kernel
theorem dX2_pass_391 : decode cX2_pass 391 = .ok (.if_icmp .ge 16, 3) := by decide +kernel
theorem dX2_pass_394 : decode cX2_pass 394 = .ok (.aload_n 0, 1) := by decide +kernel
theorem dX2_pass_395 : decode cX2_pass 395 = .ok (.getfield 22, 3) := by decide +kernel
theorem dX2_pass_398 : decode cX2_pass 398 = .ok (.iload 5, 2) := by decide +kernel
theorem dX2_pass_400 : decode cX2_pass 400 = .ok (.aaload, 1) := by decide +kernel
theorem dX2_pass_401 : decode cX2_pass 401 = .ok (.iconst 0, 1) := by decide +kernel
theorem dX2_pass_402 : decode cX2_pass 402 = .ok (.dup2, 1) := by decide +kernel
theorem dX2_pass_403 : decode cX2_pass 403 = .ok (.iaload, 1) := by decide +kernel
theorem dX2_pass_404 : decode cX2_pass 404 = .ok (.iconst 1, 1) := by decide +kernel
theorem dX2_pass_405 : decode cX2_pass 405 = .ok (.iadd, 1) := by decide +kernel
theorem dX2_pass_406 : decode cX2_pass 406 = .ok (.iastore, 1) := by decide +kernel
theorem dX2_pass_407 : decode cX2_pass 407 = .ok (.iinc 5 1, 3) := by decide +kernel
theorem dX2_pass_410 : decode cX2_pass 410 = .ok (.goto (-118), 3) := by decide +kernel
theorem dX2_pass_413 : decode cX2_pass 413 = .ok (.iinc 3 1, 3) := by decide +kernel
theorem dX2_pass_416 : decode cX2_pass 416 = .ok (.goto (-218), 3) := by decide +kernel
theorem dX2_pass_419 : decode cX2_pass 419 = .ok (.aload_n 0, 1) := by decide +kernel
theorem dX2_pass_420 : decode cX2_pass 420 = .ok (.getfield 15, 3) := by decide +kernel
theorem dX2_pass_423 : decode cX2_pass 423 = .ok (.astore_n 3, 1) := by decide +kernel
theorem dX2_pass_424 : decode cX2_pass 424 = .ok (.aload_n 3, 1) := by decide +kernel
theorem dX2_pass_425 : decode cX2_pass 425 = .ok (.arraylength, 1) := by decide +kernel
theorem dX2_pass_426 : decode cX2_pass 426 = .ok (.istore 4, 2) := by decide +kernel
theorem dX2_pass_428 : decode cX2_pass 428 = .ok (.iconst 0, 1) := by decide +kernel
theorem dX2_pass_429 : decode cX2_pass 429 = .ok (.istore 5, 2) := by decide +kernel
theorem dX2_pass_431 : decode cX2_pass 431 = .ok (.iload 5, 2) := by decide +kernel
theorem dX2_pass_433 : decode cX2_pass 433 = .ok (.iload 4, 2) := by decide +kernel
theorem dX2_pass_435 : decode cX2_pass 435 = .ok (.if_icmp .ge 23, 3) := by decide +kernel
theorem dX2_pass_438 : decode cX2_pass 438 = .ok (.aload_n 3, 1) := by decide +kernel
theorem dX2_pass_439 : decode cX2_pass 439 = .ok (.iload 5, 2) := by decide +kernel
theorem dX2_pass_441 : decode cX2_pass 441 = .ok (.aaload, 1) := by decide +kernel
theorem dX2_pass_442 : decode cX2_pass 442 = .ok (.astore 6, 2) := by decide +kernel
theorem dX2_pass_444 : decode cX2_pass 444 = .ok (.aload 6, 2) := by decide +kernel
theorem dX2_pass_446 : decode cX2_pass 446 = .ok (.iconst 1, 1) := by decide +kernel
theorem dX2_pass_447 : decode cX2_pass 447 = .ok (.dup2, 1) := by decide +kernel
theorem dX2_pass_448 : decode cX2_pass 448 = .ok (.iaload, 1) := by decide +kernel
theorem dX2_pass_449 : decode cX2_pass 449 = .ok (.iconst 1, 1) := by decide +kernel
theorem dX2_pass_450 : decode cX2_pass 450 = .ok (.iadd, 1) := by decide +kernel
theorem dX2_pass_451 : decode cX2_pass 451 = .ok (.iastore, 1) := by decide +kernel
theorem dX2_pass_452 : decode cX2_pass 452 = .ok (.iinc 5 1, 3) := by decide +kernel
theorem dX2_pass_455 : decode cX2_pass 455 = .ok (.goto (-24), 3) := by decide +kernel
theorem dX2_pass_458 : decode cX2_pass 458 = .ok (.aload_n 0, 1) := by decide +kernel
theorem dX2_pass_459 : decode cX2_pass 459 = .ok (.getfield 22, 3) := by decide +kernel
theorem dX2_pass_462 : decode cX2_pass 462 = .ok (.astore_n 3, 1) := by decide +kernel
theorem dX2_pass_463 : decode cX2_pass 463 = .ok (.aload_n 3, 1) := by decide +kernel
theorem dX2_pass_464 : decode cX2_pass 464 = .ok (.arraylength, 1) := by decide +kernel
theorem dX2_pass_465 : decode cX2_pass 465 = .ok (.istore 4, 2) := by decide +kernel
theorem dX2_pass_467 : decode cX2_pass 467 = .ok (.iconst 0, 1) := by decide +kernel
theorem dX2_pass_468 : decode cX2_pass 468 = .ok (.istore 5, 2) := by decide +kernel
theorem dX2_pass_470 : decode cX2_pass 470 = .ok (.iload 5, 2) := by decide +kernel
theorem dX2_pass_472 : decode cX2_pass 472 = .ok (.iload 4, 2) := by decide +kernel
theorem dX2_pass_474 : decode cX2_pass 474 = .ok (.if_icmp .ge 62, 3) := by decide +kernel
theorem dX2_pass_477 : decode cX2_pass 477 = .ok (.aload_n 3, 1) := by decide +kernel
theorem dX2_pass_478 : decode cX2_pass 478 = .ok (.iload 5, 2) := by decide +kernel
theorem dX2_pass_480 : decode cX2_pass 480 = .ok (.aaload, 1) := by decide +kernel
theorem dX2_pass_481 : decode cX2_pass 481 = .ok (.astore 6, 2) := by decide +kernel
theorem dX2_pass_483 : decode cX2_pass 483 = .ok (.aload 6, 2) := by decide +kernel
theorem dX2_pass_485 : decode cX2_pass 485 = .ok (.iconst 1, 1) := by decide +kernel
theorem dX2_pass_486 : decode cX2_pass 486 = .ok (.iaload, 1) := by decide +kernel
theorem dX2_pass_487 : decode cX2_pass 487 = .ok (.ifCond .lt 43, 3) := by decide +kernel
theorem dX2_pass_490 : decode cX2_pass 490 = .ok (.aload 6, 2) := by decide +kernel
theorem dX2_pass_492 : decode cX2_pass 492 = .ok (.iconst 0, 1) := by decide +kernel
theorem dX2_pass_493 : decode cX2_pass 493 = .ok (.iaload, 1) := by decide +kernel
theorem dX2_pass_494 : decode cX2_pass 494 = .ok (.ifCond .le 15, 3) := by decide +kernel
theorem dX2_pass_497 : decode cX2_pass 497 = .ok (.aload 6, 2) := by decide +kernel
theorem dX2_pass_499 : decode cX2_pass 499 = .ok (.iconst 0, 1) := by decide +kernel
theorem dX2_pass_500 : decode cX2_pass 500 = .ok (.iaload, 1) := by decide +kernel
theorem dX2_pass_501 : decode cX2_pass 501 = .ok (.bipush 10, 2) := by decide +kernel
theorem dX2_pass_503 : decode cX2_pass 503 = .ok (.if_icmp .ge 6, 3) := by decide +kernel
theorem dX2_pass_506 : decode cX2_pass 506 = .ok (.goto 24, 3) := by decide +kernel
theorem dX2_pass_509 : decode cX2_pass 509 = .ok (.aload 6, 2) := by decide +kernel
theorem dX2_pass_511 : decode cX2_pass 511 = .ok (.iconst 1, 1) := by decide +kernel
theorem dX2_pass_512 : decode cX2_pass 512 = .ok (.iconst (-1), 1) := by decide +kernel
theorem dX2_pass_513 : decode cX2_pass 513 = .ok (.iastore, 1) := by decide +kernel
theorem dX2_pass_514 : decode cX2_pass 514 = .ok (.aload 6, 2) := by decide +kernel
theorem dX2_pass_516 : decode cX2_pass 516 = .ok (.aload 6, 2) := by decide +kernel
theorem dX2_pass_518 : decode cX2_pass 518 = .ok (.iconst 0, 1) := by decide +kernel
theorem dX2_pass_519 : decode cX2_pass 519 = .ok (.iaload, 1) := by decide +kernel
theorem dX2_pass_520 : decode cX2_pass 520 = .ok (.ifCond .ne 7, 3) := by decide +kernel
theorem dX2_pass_523 : decode cX2_pass 523 = .ok (.iconst 3, 1) := by decide +kernel
theorem dX2_pass_524 : decode cX2_pass 524 = .ok (.goto 4, 3) := by decide +kernel
theorem dX2_pass_527 : decode cX2_pass 527 = .ok (.iconst 4, 1) := by decide +kernel
theorem dX2_pass_528 : decode cX2_pass 528 = .ok (.iconst 1, 1) := by decide +kernel
theorem dX2_pass_529 : decode cX2_pass 529 = .ok (.iastore, 1) := by decide +kernel
theorem dX2_pass_530 : decode cX2_pass 530 = .ok (.iinc 5 1, 3) := by decide +kernel
theorem dX2_pass_533 : decode cX2_pass 533 = .ok (.goto (-63), 3) := by decide +kernel
theorem dX2_pass_536 : decode cX2_pass 536 = .ok (.iconst 0, 1) := by decide +kernel
theorem dX2_pass_537 : decode cX2_pass 537 = .ok (.istore_n 3, 1) := by decide +kernel
theorem dX2_pass_538 : decode cX2_pass 538 = .ok (.iload_n 3, 1) := by decide +kernel
theorem dX2_pass_539 : decode cX2_pass 539 = .ok (.aload_n 0, 1) := by decide +kernel
theorem dX2_pass_540 : decode cX2_pass 540 = .ok (.getfield 19, 3) := by decide +kernel
theorem dX2_pass_543 : decode cX2_pass 543 = .ok (.arraylength, 1) := by decide +kernel
theorem dX2_pass_544 : decode cX2_pass 544 = .ok (.if_icmp .ge 181, 3) := by decide +kernel
theorem dX2_pass_547 : decode cX2_pass 547 = .ok (.aload_n 0, 1) := by decide +kernel
theorem dX2_pass_548 : decode cX2_pass 548 = .ok (.getfield 19, 3) := by decide +kernel
theorem dX2_pass_551 : decode cX2_pass 551 = .ok (.iload_n 3, 1) := by decide +kernel
theorem dX2_pass_552 : decode cX2_pass 552 = .ok (.aaload, 1) := by decide +kernel
theorem dX2_pass_553 : decode cX2_pass 553 = .ok (.iconst 1, 1) := by decide +kernel
theorem dX2_pass_554 : decode cX2_pass 554 = .ok (.iaload, 1) := by decide +kernel
theorem dX2_pass_555 : decode cX2_pass 555 = .ok (.ifCond .le 6, 3) := by decide +kernel
theorem dX2_pass_558 : decode cX2_pass 558 = .ok (.goto 161, 3) := by decide +kernel
theorem dX2_pass_561 : decode cX2_pass 561 = .ok (.iconst 0, 1) := by decide +kernel
theorem dX2_pass_562 : decode cX2_pass 562 = .ok (.istore 4, 2) := by decide +kernel
theorem dX2_pass_564 : decode cX2_pass 564 = .ok (.aload_n 0, 1) := by decide +kernel
theorem dX2_pass_565 : decode cX2_pass 565 = .ok (.getfield 22, 3) := by decide +kernel
theorem dX2_pass_568 : decode cX2_pass 568 = .ok (.astore 5, 2) := by decide +kernel
theorem dX2_pass_570 : decode cX2_pass 570 = .ok (.aload 5, 2) := by decide +kernel
theorem dX2_pass_572 : decode cX2_pass 572 = .ok (.arraylength, 1) := by decide +kernel
theorem dX2_pass_573 : decode cX2_pass 573 = .ok (.istore 6, 2) := by decide +kernel
theorem dX2_pass_575 : decode cX2_pass 575 = .ok (.iconst 0, 1) := by decide +kernel
theorem dX2_pass_576 : decode cX2_pass 576 = .ok (.istore 7, 2) := by decide +kernel
theorem dX2_pass_578 : decode cX2_pass 578 = .ok (.iload 7, 2) := by decide +kernel
theorem dX2_pass_580 : decode cX2_pass 580 = .ok (.iload 6, 2) := by decide +kernel
theorem dX2_pass_582 : decode cX2_pass 582 = .ok (.if_icmp .ge 116, 3) := by decide +kernel
theorem dX2_pass_585 : decode cX2_pass 585 = .ok (.aload 5, 2) := by decide +kernel
theorem dX2_pass_587 : decode cX2_pass 587 = .ok (.iload 7, 2) := by decide +kernel
theorem dX2_pass_589 : decode cX2_pass 589 = .ok (.aaload, 1) := by decide +kernel
theorem dX2_pass_590 : decode cX2_pass 590 = .ok (.astore 8, 2) := by decide +kernel
theorem dX2_pass_592 : decode cX2_pass 592 = .ok (.aload 8, 2) := by decide +kernel
theorem dX2_pass_594 : decode cX2_pass 594 = .ok (.iconst 2, 1) := by decide +kernel
theorem dX2_pass_595 : decode cX2_pass 595 = .ok (.iaload, 1) := by decide +kernel
theorem dX2_pass_596 : decode cX2_pass 596 = .ok (.iload_n 3, 1) := by decide +kernel
theorem dX2_pass_597 : decode cX2_pass 597 = .ok (.if_icmp .eq 6, 3) := by decide +kernel
theorem dX2_pass_600 : decode cX2_pass 600 = .ok (.goto 92, 3) := by decide +kernel
theorem dX2_pass_603 : decode cX2_pass 603 = .ok (.iconst (-1), 1) := by decide +kernel
theorem dX2_pass_604 : decode cX2_pass 604 = .ok (.istore 9, 2) := by decide +kernel
theorem dX2_pass_606 : decode cX2_pass 606 = .ok (.aload_n 0, 1) := by decide +kernel
theorem dX2_pass_607 : decode cX2_pass 607 = .ok (.getfield 15, 3) := by decide +kernel
theorem dX2_pass_610 : decode cX2_pass 610 = .ok (.arraylength, 1) := by decide +kernel
theorem dX2_pass_611 : decode cX2_pass 611 = .ok (.iconst 1, 1) := by decide +kernel
theorem dX2_pass_612 : decode cX2_pass 612 = .ok (.isub, 1) := by decide +kernel
theorem dX2_pass_613 : decode cX2_pass 613 = .ok (.istore 10, 2) := by decide +kernel
theorem dX2_pass_615 : decode cX2_pass 615 = .ok (.iload 10, 2) := by decide +kernel
theorem dX2_pass_617 : decode cX2_pass 617 = .ok (.ifCond .lt 31, 3) := by decide +kernel
theorem dX2_pass_620 : decode cX2_pass 620 = .ok (.aload_n 0, 1) := by decide +kernel
theorem dX2_pass_621 : decode cX2_pass 621 = .ok (.iload 10, 2) := by decide +kernel
theorem dX2_pass_623 : decode cX2_pass 623 = .ok (.invokevirtual 42, 3) := by decide +kernel
theorem dX2_pass_626 : decode cX2_pass 626 = .ok (.aload_n 0, 1) := by decide +kernel
theorem dX2_pass_627 : decode cX2_pass 627 = .ok (.getfield 15, 3) := by decide +kernel
theorem dX2_pass_630 : decode cX2_pass 630 = .ok (.iload 10, 2) := by decide +kernel
theorem dX2_pass_632 : decode cX2_pass 632 = .ok (.aaload, 1) := by decide +kernel
theorem dX2_pass_633 : decode cX2_pass 633 = .ok (.iconst 0, 1) := by decide +kernel
theorem dX2_pass_634 : decode cX2_pass 634 = .ok (.iaload, 1) := by decide +kernel
theorem dX2_pass_635 : decode cX2_pass 635 = .ok (.if_icmp .ge 7, 3) := by decide +kernel
theorem dX2_pass_638 : decode cX2_pass 638 = .ok (.iload 10, 2) := by decide +kernel
theorem dX2_pass_640 : decode cX2_pass 640 = .ok (.istore 9, 2) := by decide +kernel
theorem dX2_pass_642 : decode cX2_pass 642 = .ok (.iinc 10 (-1), 3) := by decide +kernel
theorem dX2_pass_645 : decode cX2_pass 645 = .ok (.goto (-30), 3) := by decide +kernel
theorem dX2_pass_648 : decode cX2_pass 648 = .ok (.aload 8, 2) := by decide +kernel
theorem dX2_pass_650 : decode cX2_pass 650 = .ok (.iconst 0, 1) := by decide +kernel
theorem dX2_pass_651 : decode cX2_pass 651 = .ok (.iaload, 1) := by decide +kernel
theorem dX2_pass_652 : decode cX2_pass 652 = .ok (.ifCond .le 14, 3) := by decide +kernel
theorem dX2_pass_655 : decode cX2_pass 655 = .ok (.iload 9, 2) := by decide +kernel
theorem dX2_pass_657 : decode cX2_pass 657 = .ok (.ifCond .ge 9, 3) := by decide +kernel
theorem dX2_pass_660 : decode cX2_pass 660 = .ok (.iconst 1, 1) := by decide +kernel
theorem dX2_pass_661 : decode cX2_pass 661 = .ok (.istore 4, 2) := by decide +kernel
theorem dX2_pass_663 : decode cX2_pass 663 = .ok (.goto 29, 3) := by decide +kernel
theorem dX2_pass_666 : decode cX2_pass 666 = .ok (.aload 8, 2) := by decide +kernel
theorem dX2_pass_668 : decode cX2_pass 668 = .ok (.iconst 2, 1) := by decide +kernel
theorem dX2_pass_669 : decode cX2_pass 669 = .ok (.iconst (-1), 1) := by decide +kernel
theorem dX2_pass_670 : decode cX2_pass 670 = .ok (.iastore, 1) := by decide +kernel
theorem dX2_pass_671 : decode cX2_pass 671 = .ok (.aload 8, 2) := by decide +kernel
theorem dX2_pass_673 : decode cX2_pass 673 = .ok (.iconst 0, 1) := by decide +kernel
theorem dX2_pass_674 : decode cX2_pass 674 = .ok (.iaload, 1) := by decide +kernel
theorem dX2_pass_675 : decode cX2_pass 675 = .ok (.ifCond .ne 11, 3) := by decide +kernel
theorem dX2_pass_678 : decode cX2_pass 678 = .ok (.aload 8, 2) := by decide +kernel
theorem dX2_pass_680 : decode cX2_pass 680 = .ok (.iconst 3, 1) := by decide +kernel
theorem dX2_pass_681 : decode cX2_pass 681 = .ok (.iconst 1, 1) := by decide +kernel
theorem dX2_pass_682 : decode cX2_pass 682 = .ok (.iastore, 1) := by decide +kernel
theorem dX2_pass_683 : decode cX2_pass 683 = .ok (.goto 9, 3) := by decide +kernel
theorem dX2_pass_686 : decode cX2_pass 686 = .ok (.aload 8, 2) := by decide +kernel
theorem dX2_pass_688 : decode cX2_pass 688 = .ok (.iconst 1, 1) := by decide +kernel
theorem dX2_pass_689 : decode cX2_pass 689 = .ok (.iload 9, 2) := by decide +kernel
theorem dX2_pass_691 : decode cX2_pass 691 = .ok (.iastore, 1) := by decide +kernel
theorem dX2_pass_692 : decode cX2_pass 692 = .ok (.iinc 7 1, 3) := by decide +kernel
theorem dX2_pass_695 : decode cX2_pass 695 = .ok (.goto (-117), 3) := by decide +kernel
theorem dX2_pass_698 : decode cX2_pass 698 = .ok (.iload 4, 2) := by decide +kernel
theorem dX2_pass_700 : decode cX2_pass 700 = .ok (.ifCond .eq 19, 3) := by decide +kernel
theorem dX2_pass_703 : decode cX2_pass 703 = .ok (.aload_n 0, 1) := by decide +kernel
theorem dX2_pass_704 : decode cX2_pass 704 = .ok (.getfield 19, 3) := by decide +kernel
theorem dX2_pass_707 : decode cX2_pass 707 = .ok (.iload_n 3, 1) := by decide +kernel
theorem dX2_pass_708 : decode cX2_pass 708 = .ok (.aaload, 1) := by decide +kernel
theorem dX2_pass_709 : decode cX2_pass 709 = .ok (.iconst 1, 1) := by decide +kernel
theorem dX2_pass_710 : decode cX2_pass 710 = .ok (.aload_n 0, 1) := by decide +kernel
theorem dX2_pass_711 : decode cX2_pass 711 = .ok (.getfield 19, 3) := by decide +kernel
theorem dX2_pass_714 : decode cX2_pass 714 = .ok (.iload_n 3, 1) := by decide +kernel
theorem dX2_pass_715 : decode cX2_pass 715 = .ok (.aaload, 1) := by decide +kernel
theorem dX2_pass_716 : decode cX2_pass 716 = .ok (.iconst 0, 1) := by decide +kernel
theorem dX2_pass_717 : decode cX2_pass 717 = .ok (.iaload, 1) := by decide +kernel
theorem dX2_pass_718 : decode cX2_pass 718 = .ok (.iastore, 1) := by decide +kernel
theorem dX2_pass_719 : decode cX2_pass 719 = .ok (.iinc 3 1, 3) := by decide +kernel
theorem dX2_pass_722 : decode cX2_pass 722 = .ok (.goto (-184), 3) := by decide +kernel
theorem dX2_pass_725 : decode cX2_pass 725 = .ok (.aload_n 0, 1) := by decide +kernel
theorem dX2_pass_726 : decode cX2_pass 726 = .ok (.dup, 1) := by decide +kernel
theorem dX2_pass_727 : decode cX2_pass 727 = .ok (.getfield 32, 3) := by decide +kernel
theorem dX2_pass_730 : decode cX2_pass 730 = .ok (.iconst 1, 1) := by decide +kernel
theorem dX2_pass_731 : decode cX2_pass 731 = .ok (.iadd, 1) := by decide +kernel
theorem dX2_pass_732 : decode cX2_pass 732 = .ok (.putfield 32, 3) := by decide +kernel
theorem dX2_pass_735 : decode cX2_pass 735 = .ok (.return_, 1) := by decide +kernel
set_option maxRecDepth 20000 in
theorem ggX2_pass__X2_pass : GoodIn wsX2_pass_ wsX2_pass := goodIn_r _ [5, 6, 7, 8, 9, 10, 11, 12, 13, 14, 15, 16, 4, 17, 18, 19, 20, 21, 22, 23] (by decide +kernel) (by decide +kernel)
set_option maxRecDepth 20000 in
theorem gX2_pass__X2_pass : GoodIn wsX2_pass_ (wsV RX2 46 RX2 yX2_pass wsX2_pass) := goodIn_app (goodIn_of _ (by decide +kernel)) ggX2_pass__X2_pass
theorem dX2_pass__0 : decode cX2_pass_ 0 = .ok (.iconst 0, 1) := by decide +kernel
theorem dX2_pass__1 : decode cX2_pass_ 1 = .ok (.istore_n 2, 1) := by decide +kernel
theorem dX2_pass__2 : decode cX2_pass_ 2 = .ok (.iload_n 2, 1) := by decide +kernel
theorem dX2_pass__3 : decode cX2_pass_ 3 = .ok (.iload_n 1, 1) := by decide +kernel
theorem dX2_pass__4 : decode cX2_pass_ 4 = .ok (.if_icmp .ge 13, 3) := by decide +kernel
theorem dX2_pass__7 : decode cX2_pass_ 7 = .ok (.aload_n 0, 1) := by decide +kernel
theorem dX2_pass__8 : decode cX2_pass_ 8 = .ok (.invokevirtual 46, 3) := by decide +kernel
theorem dX2_pass__11 : decode cX2_pass_ 11 = .ok (.iinc 2 1, 3) := by decide +kernel
theorem dX2_pass__14 : decode cX2_pass_ 14 = .ok (.goto (-12), 3) := by decide +kernel
theorem dX2_pass__17 : decode cX2_pass_ 17 = .ok (.return_, 1) := by decide +kernel
theorem dX2_all_0 : decode cX2_all 0 = .ok (.iconst 0, 1) := by decide +kernel
theorem dX2_all_1 : decode cX2_all 1 = .ok (.istore_n 2, 1) := by decide +kernel
theorem dX2_all_2 : decode cX2_all 2 = .ok (.aload_n 0, 1) := by decide +kernel
theorem dX2_all_3 : decode cX2_all 3 = .ok (.getfield 22, 3) := by decide +kernel
theorem dX2_all_6 : decode cX2_all 6 = .ok (.astore_n 3, 1) := by decide +kernel
theorem dX2_all_7 : decode cX2_all 7 = .ok (.aload_n 3, 1) := by decide +kernel
theorem dX2_all_8 : decode cX2_all 8 = .ok (.arraylength, 1) := by decide +kernel
theorem dX2_all_9 : decode cX2_all 9 = .ok (.istore 4, 2) := by decide +kernel
theorem dX2_all_11 : decode cX2_all 11 = .ok (.iconst 0, 1) := by decide +kernel
theorem dX2_all_12 : decode cX2_all 12 = .ok (.istore 5, 2) := by decide +kernel
theorem dX2_all_14 : decode cX2_all 14 = .ok (.iload 5, 2) := by decide +kernel
theorem dX2_all_16 : decode cX2_all 16 = .ok (.iload 4, 2) := by decide +kernel
theorem dX2_all_18 : decode cX2_all 18 = .ok (.if_icmp .ge 22, 3) := by decide +kernel
theorem dX2_all_21 : decode cX2_all 21 = .ok (.aload_n 3, 1) := by decide +kernel
theorem dX2_all_22 : decode cX2_all 22 = .ok (.iload 5, 2) := by decide +kernel
theorem dX2_all_24 : decode cX2_all 24 = .ok (.aaload, 1) := by decide +kernel
theorem dX2_all_25 : decode cX2_all 25 = .ok (.astore 6, 2) := by decide +kernel
theorem dX2_all_27 : decode cX2_all 27 = .ok (.iload_n 2, 1) := by decide +kernel
theorem dX2_all_28 : decode cX2_all 28 = .ok (.aload 6, 2) := by decide +kernel
theorem dX2_all_30 : decode cX2_all 30 = .ok (.iload_n 1, 1) := by decide +kernel
theorem dX2_all_31 : decode cX2_all 31 = .ok (.iaload, 1) := by decide +kernel
theorem dX2_all_32 : decode cX2_all 32 = .ok (.iadd, 1) := by decide +kernel
theorem dX2_all_33 : decode cX2_all 33 = .ok (.istore_n 2, 1) := by decide +kernel
theorem dX2_all_34 : decode cX2_all 34 = .ok (.iinc 5 1, 3) := by decide +kernel
theorem dX2_all_37 : decode cX2_all 37 = .ok (.goto (-23), 3) := by decide +kernel
theorem dX2_all_40 : decode cX2_all 40 = .ok (.iload_n 2, 1) := by decide +kernel
theorem dX2_all_41 : decode cX2_all 41 = .ok (.ireturn, 1) := by decide +kernel
set_option maxRecDepth 20000 in
theorem ggX2_isSame_X1_placesOf : GoodIn wsX2_isSame wsX1_placesOf := goodIn_ca (goodIn_r _ [15, 16, 17, 18, 19, 20, 14, 21, 22, 23, 24, 196, 197, 198, 199, 200, 201, 202, 203, 204, 205, 206, 207, 208, 209, 210, 211, 212, 213] (by decide +kernel) (by decide +kernel)) (goodIn_sub (fun _ h => List.mem_cons_of_mem _ (List.mem_append_right _ h)) (by decide +kernel))
set_option maxRecDepth 20000 in
theorem gX2_isSame_X1_placesOf : GoodIn wsX2_isSame (wsV RX2 49 RX1 yX1_placesOf wsX1_placesOf) := goodIn_app (goodIn_of _ (by decide +kernel)) ggX2_isSame_X1_placesOf
set_option maxRecDepth 20000 in
theorem ggX2_isSame_X1_peopleIn : GoodIn wsX2_isSame wsX1_peopleIn := goodIn_ca (goodIn_r _ [28, 16, 18, 19, 20, 14, 21, 22, 23, 24, 29, 30, 31, 32, 33, 34, 35, 36, 37, 38, 39, 40, 196, 197, 198, 199, 200, 201, 202, 203, 204, 205, 206, 207, 208, 209, 210, 211, 212, 213] (by decide +kernel) (by decide +kernel)) (goodIn_sub (fun _ h => List.mem_cons_of_mem _ (List.mem_append_right _ h)) (by decide +kernel))
set_option maxRecDepth 20000 in
theorem gX2_isSame_X1_peopleIn : GoodIn wsX2_isSame (wsV RX2 54 RX1 yX1_peopleIn wsX1_peopleIn) := goodIn_app (goodIn_of _ (by decide +kernel)) ggX2_isSame_X1_peopleIn
set_option maxRecDepth 20000 in
theorem ggX2_isSame_X2_in : GoodIn wsX2_isSame wsX2_in := goodIn_r _ [45, 2, 190, 191, 192, 193, 194, 195] (by decide +kernel) (by decide +kernel)
set_option maxRecDepth 20000 in
theorem gX2_isSame_X2_in : GoodIn wsX2_isSame (wsV RX2 42 RX2 yX2_in wsX2_in) := goodIn_app (goodIn_of _ (by decide +kernel)) ggX2_isSame_X2_in
set_option maxRecDepth 20000 in
theorem ggX2_isSame_X1_strawOf : GoodIn wsX2_isSame wsX1_strawOf := goodIn_ca (goodIn_r _ [49, 16, 50, 18, 19, 20, 14, 21, 22, 23, 24, 196, 197, 198, 199, 200, 201, 202, 203, 204, 205, 206, 207, 208, 209, 210, 211, 212, 213] (by decide +kernel) (by decide +kernel)) (goodIn_sub (fun _ h => List.mem_cons_of_mem _ (List.mem_append_right _ h)) (by decide +kernel))
set_option maxRecDepth 20000 in
theorem gX2_isSame_X1_strawOf : GoodIn wsX2_isSame (wsV RX2 57 RX1 yX1_strawOf wsX1_strawOf) := goodIn_app (goodIn_of _ (by decide +kernel)) ggX2_isSame_X1_strawOf
set_option maxRecDepth 20000 in
theorem ggX2_isSame_X1_feversIn : GoodIn wsX2_isSame wsX1_feversIn := goodIn_ca (goodIn_r _ [54, 16, 18, 19, 20, 14, 21, 22, 23, 24, 55, 56, 57, 32, 58, 34, 59, 35, 36, 37, 38, 39, 40, 196, 197, 198, 199, 200, 201, 202, 203, 204, 205, 206, 207, 208, 209, 210, 211, 212, 213] (by decide +kernel) (by decide +kernel)) (goodIn_sub (fun _ h => List.mem_cons_of_mem _ (List.mem_append_right _ h)) (by decide +kernel))
set_option maxRecDepth 20000 in
theorem gX2_isSame_X1_feversIn : GoodIn wsX2_isSame (wsV RX2 60 RX1 yX1_feversIn wsX1_feversIn) := goodIn_app (goodIn_of _ (by decide +kernel)) ggX2_isSame_X1_feversIn
set_option maxRecDepth 20000 in
theorem ggX2_isSame_X1_daysToGo : GoodIn wsX2_isSame wsX1_daysToGo := goodIn_ca (goodIn_r _ [63, 16, 64, 65, 66, 67, 14, 68, 22, 23, 69, 196, 197, 198, 199, 200, 201, 202, 203, 204, 205, 206, 207, 208, 209, 210, 211, 212, 213] (by decide +kernel) (by decide +kernel)) (goodIn_sub (fun _ h => List.mem_cons_of_mem _ (List.mem_append_right _ h)) (by decide +kernel))
set_option maxRecDepth 20000 in
theorem gX2_isSame_X1_daysToGo : GoodIn wsX2_isSame (wsV RX2 69 RX1 yX1_daysToGo wsX1_daysToGo) := goodIn_app (goodIn_of _ (by decide +kernel)) ggX2_isSame_X1_daysToGo
set_option maxRecDepth 20000 in
theorem ggX2_isSame_X1_keptFor : GoodIn wsX2_isSame wsX1_keptFor := goodIn_ca (goodIn_r _ [73, 16, 74, 65, 66, 67, 14, 68, 22, 23, 69, 196, 197, 198, 199, 200, 201, 202, 203, 204, 205, 206, 207, 208, 209, 210, 211, 212, 213] (by decide +kernel) (by decide +kernel)) (goodIn_sub (fun _ h => List.mem_cons_of_mem _ (List.mem_append_right _ h)) (by decide +kernel))
set_option maxRecDepth 20000 in
theorem gX2_isSame_X1_keptFor : GoodIn wsX2_isSame (wsV RX2 72 RX1 yX1_keptFor wsX1_keptFor) := goodIn_app (goodIn_of _ (by decide +kernel)) ggX2_isSame_X1_keptFor
set_option maxRecDepth 20000 in
theorem ggX2_isSame_X1_peopleOn : GoodIn wsX2_isSame wsX1_peopleOn := goodIn_ca (goodIn_r _ [78, 16, 65, 66, 67, 14, 68, 22, 23, 69, 29, 30, 31, 32, 33, 34, 35, 36, 37, 38, 39, 40, 196, 197, 198, 199, 200, 201, 202, 203, 204, 205, 206, 207, 208, 209, 210, 211, 212, 213] (by decide +kernel) (by decide +kernel)) (goodIn_sub (fun _ h => List.mem_cons_of_mem _ (List.mem_append_right _ h)) (by decide +kernel))
set_option maxRecDepth 20000 in
theorem gX2_isSame_X1_peopleOn : GoodIn wsX2_isSame (wsV RX2 75 RX1 yX1_peopleOn wsX1_peopleOn) := goodIn_app (goodIn_of _ (by decide +kernel)) ggX2_isSame_X1_peopleOn
set_option maxRecDepth 20000 in
theorem ggX2_isSame_X1_highestFeverOn : GoodIn wsX2_isSame wsX1_highestFeverOn := goodIn_ca (goodIn_r _ [82, 16, 65, 66, 67, 14, 68, 22, 23, 69, 83, 84, 85, 32, 86, 34, 59, 87, 5, 6, 7, 35, 36, 37, 38, 39, 40, 196, 197, 198, 199, 200, 201, 202, 203, 204, 205, 206, 207, 208, 209, 210, 211, 212, 213] (by decide +kernel) (by decide +kernel)) (goodIn_sub (fun _ h => List.mem_cons_of_mem _ (List.mem_append_right _ h)) (by decide +kernel))
set_option maxRecDepth 20000 in
theorem gX2_isSame_X1_highestFeverOn : GoodIn wsX2_isSame (wsV RX2 78 RX1 yX1_highestFeverOn wsX1_highestFeverOn) := goodIn_app (goodIn_of _ (by decide +kernel)) ggX2_isSame_X1_highestFeverOn
set_option maxRecDepth 20000 in
theorem ggX2_isSame_X1_feverOf : GoodIn wsX2_isSame wsX1_feverOf := goodIn_ca (goodIn_r _ [91, 16, 92, 93, 94, 95, 14, 96, 22, 23, 97, 196, 197, 198, 199, 200, 201, 202, 203, 204, 205, 206, 207, 208, 209, 210, 211, 212, 213] (by decide +kernel) (by decide +kernel)) (goodIn_sub (fun _ h => List.mem_cons_of_mem _ (List.mem_append_right _ h)) (by decide +kernel))
set_option maxRecDepth 20000 in
theorem gX2_isSame_X1_feverOf : GoodIn wsX2_isSame (wsV RX2 81 RX1 yX1_feverOf wsX1_feverOf) := goodIn_app (goodIn_of _ (by decide +kernel)) ggX2_isSame_X1_feverOf
set_option maxRecDepth 20000 in
theorem ggX2_isSame_X1_wardOf : GoodIn wsX2_isSame wsX1_wardOf := goodIn_ca (goodIn_r _ [101, 16, 93, 94, 95, 14, 96, 22, 23, 97, 102, 103, 104, 32, 105, 39, 40, 196, 197, 198, 199, 200, 201, 202, 203, 204, 205, 206, 207, 208, 209, 210, 211, 212, 213] (by decide +kernel) (by decide +kernel)) (goodIn_sub (fun _ h => List.mem_cons_of_mem _ (List.mem_append_right _ h)) (by decide +kernel))
set_option maxRecDepth 20000 in
theorem gX2_isSame_X1_wardOf : GoodIn wsX2_isSame (wsV RX2 84 RX1 yX1_wardOf wsX1_wardOf) := goodIn_app (goodIn_of _ (by decide +kernel)) ggX2_isSame_X1_wardOf
set_option maxRecDepth 20000 in
theorem ggX2_isSame_X1_bargeOf : GoodIn wsX2_isSame wsX1_bargeOf := goodIn_ca (goodIn_r _ [109, 16, 93, 94, 95, 14, 96, 22, 23, 97, 102, 103, 104, 32, 105, 39, 40, 196, 197, 198, 199, 200, 201, 202, 203, 204, 205, 206, 207, 208, 209, 210, 211, 212, 213] (by decide +kernel) (by decide +kernel)) (goodIn_sub (fun _ h => List.mem_cons_of_mem _ (List.mem_append_right _ h)) (by decide +kernel))
set_option maxRecDepth 20000 in
theorem gX2_isSame_X1_bargeOf : GoodIn wsX2_isSame (wsV RX2 87 RX1 yX1_bargeOf wsX1_bargeOf) := goodIn_app (goodIn_of _ (by decide +kernel)) ggX2_isSame_X1_bargeOf
set_option maxRecDepth 20000 in
theorem ggX2_isSame_X1_isHome : GoodIn wsX2_isSame wsX1_isHome := goodIn_ca (goodIn_r _ [113, 16, 114, 93, 94, 95, 14, 96, 22, 23, 97, 196, 197, 198, 199, 200, 201, 202, 203, 204, 205, 206, 207, 208, 209, 210, 211, 212, 213] (by decide +kernel) (by decide +kernel)) (goodIn_sub (fun _ h => List.mem_cons_of_mem _ (List.mem_append_right _ h)) (by decide +kernel))
set_option maxRecDepth 20000 in
theorem gX2_isSame_X1_isHome : GoodIn wsX2_isSame (wsV RX2 90 RX1 yX1_isHome wsX1_isHome) := goodIn_app (goodIn_of _ (by decide +kernel)) ggX2_isSame_X1_isHome
set_option maxRecDepth 20000 in
theorem ggX2_isSame_X1_isInGreatHouse : GoodIn wsX2_isSame wsX1_isInGreatHouse := goodIn_ca (goodIn_r _ [118, 16, 114, 93, 94, 95, 14, 96, 22, 23, 97, 196, 197, 198, 199, 200, 201, 202, 203, 204, 205, 206, 207, 208, 209, 210, 211, 212, 213] (by decide +kernel) (by decide +kernel)) (goodIn_sub (fun _ h => List.mem_cons_of_mem _ (List.mem_append_right _ h)) (by decide +kernel))
set_option maxRecDepth 20000 in
theorem gX2_isSame_X1_isInGreatHouse : GoodIn wsX2_isSame (wsV RX2 94 RX1 yX1_isInGreatHouse wsX1_isInGreatHouse) := goodIn_app (goodIn_of _ (by decide +kernel)) ggX2_isSame_X1_isInGreatHouse
set_option maxRecDepth 20000 in
theorem ggX2_isSame_X1_hungryDaysOf : GoodIn wsX2_isSame wsX1_hungryDaysOf := goodIn_ca (goodIn_r _ [122, 16, 123, 93, 94, 95, 14, 96, 22, 23, 97, 196, 197, 198, 199, 200, 201, 202, 203, 204, 205, 206, 207, 208, 209, 210, 211, 212, 213] (by decide +kernel) (by decide +kernel)) (goodIn_sub (fun _ h => List.mem_cons_of_mem _ (List.mem_append_right _ h)) (by decide +kernel))
set_option maxRecDepth 20000 in
theorem gX2_isSame_X1_hungryDaysOf : GoodIn wsX2_isSame (wsV RX2 97 RX1 yX1_hungryDaysOf wsX1_hungryDaysOf) := goodIn_app (goodIn_of _ (by decide +kernel)) ggX2_isSame_X1_hungryDaysOf
set_option maxRecDepth 20000 in
theorem ggX2_isSame_X1_day : GoodIn wsX2_isSame wsX1_day := goodIn_r _ [127, 16, 128, 196, 197, 198, 199, 200, 201, 202, 203, 204, 205, 206, 207, 208, 209, 210, 211, 212, 213] (by decide +kernel) (by decide +kernel)
set_option maxRecDepth 20000 in
theorem gX2_isSame_X1_day : GoodIn wsX2_isSame (wsV RX2 100 RX1 yX1_day wsX1_day) := goodIn_app (goodIn_of _ (by decide +kernel)) ggX2_isSame_X1_day
set_option maxRecDepth 20000 in
theorem ggX2_isSame_X1_wards : GoodIn wsX2_isSame wsX1_wards := goodIn_r _ [132, 16, 24, 196, 197, 198, 199, 200, 201, 202, 203, 204, 205, 206, 207, 208, 209, 210, 211, 212, 213] (by decide +kernel) (by decide +kernel)
set_option maxRecDepth 20000 in
theorem gX2_isSame_X1_wards : GoodIn wsX2_isSame (wsV RX2 103 RX1 yX1_wards wsX1_wards) := goodIn_app (goodIn_of _ (by decide +kernel)) ggX2_isSame_X1_wards
set_option maxRecDepth 20000 in
theorem ggX2_isSame_X1_barges : GoodIn wsX2_isSame wsX1_barges := goodIn_r _ [136, 16, 69, 196, 197, 198, 199, 200, 201, 202, 203, 204, 205, 206, 207, 208, 209, 210, 211, 212, 213] (by decide +kernel) (by decide +kernel)
set_option maxRecDepth 20000 in
theorem gX2_isSame_X1_barges : GoodIn wsX2_isSame (wsV RX2 105 RX1 yX1_barges wsX1_barges) := goodIn_app (goodIn_of _ (by decide +kernel)) ggX2_isSame_X1_barges
set_option maxRecDepth 20000 in
theorem ggX2_isSame_X1_people : GoodIn wsX2_isSame wsX1_people := goodIn_r _ [140, 16, 97, 196, 197, 198, 199, 200, 201, 202, 203, 204, 205, 206, 207, 208, 209, 210, 211, 212, 213] (by decide +kernel) (by decide +kernel)
set_option maxRecDepth 20000 in
theorem gX2_isSame_X1_people : GoodIn wsX2_isSame (wsV RX2 107 RX1 yX1_people wsX1_people) := goodIn_app (goodIn_of _ (by decide +kernel)) ggX2_isSame_X1_people
set_option maxRecDepth 20000 in
theorem ggX2_isSame_X1_bowls : GoodIn wsX2_isSame wsX1_bowls := goodIn_r _ [144, 16, 145, 196, 197, 198, 199, 200, 201, 202, 203, 204, 205, 206, 207, 208, 209, 210, 211, 212, 213] (by decide +kernel) (by decide +kernel)
set_option maxRecDepth 20000 in
theorem gX2_isSame_X1_bowls : GoodIn wsX2_isSame (wsV RX2 109 RX1 yX1_bowls wsX1_bowls) := goodIn_app (goodIn_of _ (by decide +kernel)) ggX2_isSame_X1_bowls
set_option maxRecDepth 20000 in
theorem ggX2_isSame_X1_bowlsEaten : GoodIn wsX2_isSame wsX1_bowlsEaten := goodIn_r _ [149, 16, 150, 196, 197, 198, 199, 200, 201, 202, 203, 204, 205, 206, 207, 208, 209, 210, 211, 212, 213] (by decide +kernel) (by decide +kernel)
set_option maxRecDepth 20000 in
theorem gX2_isSame_X1_bowlsEaten : GoodIn wsX2_isSame (wsV RX2 111 RX1 yX1_bowlsEaten wsX1_bowlsEaten) := goodIn_app (goodIn_of _ (by decide +kernel)) ggX2_isSame_X1_bowlsEaten
set_option maxRecDepth 20000 in
theorem ggX2_isSame_X1_freePlaces : GoodIn wsX2_isSame wsX1_freePlaces := goodIn_r _ [154, 16, 24, 155, 156, 157, 32, 158, 159, 160, 30, 31, 33, 34, 35, 36, 37, 38, 39, 40, 196, 197, 198, 199, 200, 201, 202, 203, 204, 205, 206, 207, 208, 209, 210, 211, 212, 213] (by decide +kernel) (by decide +kernel)
set_option maxRecDepth 20000 in
theorem gX2_isSame_X1_freePlaces : GoodIn wsX2_isSame (wsV RX2 114 RX1 yX1_freePlaces wsX1_freePlaces) := goodIn_app (goodIn_of _ (by decide +kernel)) ggX2_isSame_X1_freePlaces
set_option maxRecDepth 20000 in
theorem ggX2_isSame_X1_bowlsShort : GoodIn wsX2_isSame wsX1_bowlsShort := goodIn_r _ [164, 16, 145, 165, 5, 6, 7, 166, 167, 168, 32, 169, 34, 39, 196, 197, 198, 199, 200, 201, 202, 203, 204, 205, 206, 207, 208, 209, 210, 211, 212, 213] (by decide +kernel) (by decide +kernel)
set_option maxRecDepth 20000 in
theorem gX2_isSame_X1_bowlsShort : GoodIn wsX2_isSame (wsV RX2 117 RX1 yX1_bowlsShort wsX1_bowlsShort) := goodIn_app (goodIn_of _ (by decide +kernel)) ggX2_isSame_X1_bowlsShort
set_option maxRecDepth 20000 in
theorem ggX2_isSame_X1_bowlsNeeded : GoodIn wsX2_isSame wsX1_bowlsNeeded := goodIn_r _ [173, 16, 166, 167, 168, 32, 169, 34, 39, 196, 197, 198, 199, 200, 201, 202, 203, 204, 205, 206, 207, 208, 209, 210, 211, 212, 213] (by decide +kernel) (by decide +kernel)
set_option maxRecDepth 20000 in
theorem gX2_isSame_X1_bowlsNeeded : GoodIn wsX2_isSame (wsV RX2 120 RX1 yX1_bowlsNeeded wsX1_bowlsNeeded) := goodIn_app (goodIn_of _ (by decide +kernel)) ggX2_isSame_X1_bowlsNeeded
set_option maxRecDepth 20000 in
theorem ggX2_isSame_X1_peopleHome : GoodIn wsX2_isSame wsX1_peopleHome := goodIn_r _ [177, 16, 166, 167, 168, 32, 169, 34, 39, 196, 197, 198, 199, 200, 201, 202, 203, 204, 205, 206, 207, 208, 209, 210, 211, 212, 213] (by decide +kernel) (by decide +kernel)
set_option maxRecDepth 20000 in
theorem gX2_isSame_X1_peopleHome : GoodIn wsX2_isSame (wsV RX2 123 RX1 yX1_peopleHome wsX1_peopleHome) := goodIn_app (goodIn_of _ (by decide +kernel)) ggX2_isSame_X1_peopleHome
set_option maxRecDepth 20000 in
theorem ggX2_isSame_X2_all : GoodIn wsX2_isSame wsX2_all := goodIn_r _ [181, 2, 190, 191, 192, 193, 194, 195] (by decide +kernel) (by decide +kernel)
set_option maxRecDepth 20000 in
theorem gX2_isSame_X2_all : GoodIn wsX2_isSame (wsV RX2 126 RX2 yX2_all wsX2_all) := goodIn_app (goodIn_of _ (by decide +kernel)) ggX2_isSame_X2_all
set_option maxRecDepth 20000 in
theorem ggX2_isSame_X1_peopleInGreatHouse : GoodIn wsX2_isSame wsX1_peopleInGreatHouse := goodIn_r _ [185, 16, 166, 167, 168, 32, 169, 34, 39, 196, 197, 198, 199, 200, 201, 202, 203, 204, 205, 206, 207, 208, 209, 210, 211, 212, 213] (by decide +kernel) (by decide +kernel)
set_option maxRecDepth 20000 in
theorem gX2_isSame_X1_peopleInGreatHouse : GoodIn wsX2_isSame (wsV RX2 129 RX1 yX1_peopleInGreatHouse wsX1_peopleInGreatHouse) := goodIn_app (goodIn_of _ (by decide +kernel)) ggX2_isSame_X1_peopleInGreatHouse
set_option maxRecDepth 20000 in
theorem ggX2_isSame_X1_meanFever : GoodIn wsX2_isSame wsX1_meanFever := goodIn_r _ [189, 16, 24, 166, 167, 168, 32, 169, 34, 39, 55, 56, 57, 58, 59, 35, 36, 37, 38, 40, 196, 197, 198, 199, 200, 201, 202, 203, 204, 205, 206, 207, 208, 209, 210, 211, 212, 213] (by decide +kernel) (by decide +kernel)
set_option maxRecDepth 20000 in
theorem gX2_isSame_X1_meanFever : GoodIn wsX2_isSame (wsV RX2 132 RX1 yX1_meanFever wsX1_meanFever) := goodIn_app (goodIn_of _ (by decide +kernel)) ggX2_isSame_X1_meanFever
theorem dX2_isSame_0 : decode cX2_isSame 0 = .ok (.iconst 0, 1) := by decide +kernel
theorem dX2_isSame_1 : decode cX2_isSame 1 = .ok (.istore_n 2, 1) := by decide +kernel
theorem dX2_isSame_2 : decode cX2_isSame 2 = .ok (.iconst 0, 1) := by decide +kernel
theorem dX2_isSame_3 : decode cX2_isSame 3 = .ok (.istore_n 3, 1) := by decide +kernel
theorem dX2_isSame_4 : decode cX2_isSame 4 = .ok (.iconst 0, 1) := by decide +kernel
theorem dX2_isSame_5 : decode cX2_isSame 5 = .ok (.istore 4, 2) := by decide +kernel
theorem dX2_isSame_7 : decode cX2_isSame 7 = .ok (.iconst 0, 1) := by decide +kernel
theorem dX2_isSame_8 : decode cX2_isSame 8 = .ok (.istore 5, 2) := by decide +kernel
theorem dX2_isSame_10 : decode cX2_isSame 10 = .ok (.iload 5, 2) := by decide +kernel
theorem dX2_isSame_12 : decode cX2_isSame 12 = .ok (.aload_n 0, 1) := by decide +kernel
theorem dX2_isSame_13 : decode cX2_isSame 13 = .ok (.getfield 15, 3) := by decide +kernel
theorem dX2_isSame_16 : decode cX2_isSame 16 = .ok (.arraylength, 1) := by decide +kernel
theorem dX2_isSame_17 : decode cX2_isSame 17 = .ok (.if_icmp .ge 160, 3) := by decide +kernel
theorem dX2_isSame_20 : decode cX2_isSame 20 = .ok (.iconst 0, 1) := by decide +kernel
theorem dX2_isSame_21 : decode cX2_isSame 21 = .ok (.istore 6, 2) := by decide +kernel
theorem dX2_isSame_23 : decode cX2_isSame 23 = .ok (.aload_n 0, 1) := by decide +kernel
theorem dX2_isSame_24 : decode cX2_isSame 24 = .ok (.getfield 22, 3) := by decide +kernel
theorem dX2_isSame_27 : decode cX2_isSame 27 = .ok (.astore 7, 2) := by decide +kernel
theorem dX2_isSame_29 : decode cX2_isSame 29 = .ok (.aload 7, 2) := by decide +kernel
theorem dX2_isSame_31 : decode cX2_isSame 31 = .ok (.arraylength, 1) := by decide +kernel
theorem dX2_isSame_32 : decode cX2_isSame 32 = .ok (.istore 8, 2) := by decide +kernel
theorem dX2_isSame_34 : decode cX2_isSame 34 = .ok (.iconst 0, 1) := by decide +kernel
theorem dX2_isSame_35 : decode cX2_isSame 35 = .ok (.istore 9, 2) := by decide +kernel
theorem dX2_isSame_37 : decode cX2_isSame 37 = .ok (.iload 9, 2) := by decide +kernel
theorem dX2_isSame_39 : decode cX2_isSame 39 = .ok (.iload 8, 2) := by decide +kernel
theorem dX2_isSame_41 : decode cX2_isSame 41 = .ok (.if_icmp .ge 38, 3) := by decide +kernel
theorem dX2_isSame_44 : decode cX2_isSame 44 = .ok (.aload 7, 2) := by decide +kernel
theorem dX2_isSame_46 : decode cX2_isSame 46 = .ok (.iload 9, 2) := by decide +kernel
theorem dX2_isSame_48 : decode cX2_isSame 48 = .ok (.aaload, 1) := by decide +kernel
theorem dX2_isSame_49 : decode cX2_isSame 49 = .ok (.astore 10, 2) := by decide +kernel
theorem dX2_isSame_51 : decode cX2_isSame 51 = .ok (.iload 6, 2) := by decide +kernel
theorem dX2_isSame_53 : decode cX2_isSame 53 = .ok (.aload 10, 2) := by decide +kernel
theorem dX2_isSame_55 : decode cX2_isSame 55 = .ok (.iconst 1, 1) := by decide +kernel
theorem dX2_isSame_56 : decode cX2_isSame 56 = .ok (.iaload, 1) := by decide +kernel
theorem dX2_isSame_57 : decode cX2_isSame 57 = .ok (.iload 5, 2) := by decide +kernel
theorem dX2_isSame_59 : decode cX2_isSame 59 = .ok (.if_icmp .ne 10, 3) := by decide +kernel
theorem dX2_isSame_62 : decode cX2_isSame 62 = .ok (.aload 10, 2) := by decide +kernel
theorem dX2_isSame_64 : decode cX2_isSame 64 = .ok (.iconst 0, 1) := by decide +kernel
theorem dX2_isSame_65 : decode cX2_isSame 65 = .ok (.iaload, 1) := by decide +kernel
theorem dX2_isSame_66 : decode cX2_isSame 66 = .ok (.goto 4, 3) := by decide +kernel
theorem dX2_isSame_69 : decode cX2_isSame 69 = .ok (.iconst 0, 1) := by decide +kernel
theorem dX2_isSame_70 : decode cX2_isSame 70 = .ok (.iadd, 1) := by decide +kernel
theorem dX2_isSame_71 : decode cX2_isSame 71 = .ok (.istore 6, 2) := by decide +kernel
theorem dX2_isSame_73 : decode cX2_isSame 73 = .ok (.iinc 9 1, 3) := by decide +kernel
theorem dX2_isSame_76 : decode cX2_isSame 76 = .ok (.goto (-39), 3) := by decide +kernel
theorem dX2_isSame_79 : decode cX2_isSame 79 = .ok (.aload_n 1, 1) := by decide +kernel
theorem dX2_isSame_80 : decode cX2_isSame 80 = .ok (.iload 5, 2) := by decide +kernel
theorem dX2_isSame_82 : decode cX2_isSame 82 = .ok (.invokevirtual 49, 3) := by decide +kernel
theorem dX2_isSame_85 : decode cX2_isSame 85 = .ok (.aload_n 0, 1) := by decide +kernel
theorem dX2_isSame_86 : decode cX2_isSame 86 = .ok (.getfield 15, 3) := by decide +kernel
theorem dX2_isSame_89 : decode cX2_isSame 89 = .ok (.iload 5, 2) := by decide +kernel
theorem dX2_isSame_91 : decode cX2_isSame 91 = .ok (.aaload, 1) := by decide +kernel
theorem dX2_isSame_92 : decode cX2_isSame 92 = .ok (.iconst 0, 1) := by decide +kernel
theorem dX2_isSame_93 : decode cX2_isSame 93 = .ok (.iaload, 1) := by decide +kernel
theorem dX2_isSame_94 : decode cX2_isSame 94 = .ok (.if_icmp .ne 47, 3) := by decide +kernel
theorem dX2_isSame_97 : decode cX2_isSame 97 = .ok (.aload_n 1, 1) := by decide +kernel
theorem dX2_isSame_98 : decode cX2_isSame 98 = .ok (.iload 5, 2) := by decide +kernel
theorem dX2_isSame_100 : decode cX2_isSame 100 = .ok (.invokevirtual 54, 3) := by decide +kernel
theorem dX2_isSame_103 : decode cX2_isSame 103 = .ok (.aload_n 0, 1) := by decide +kernel
theorem dX2_isSame_104 : decode cX2_isSame 104 = .ok (.iload 5, 2) := by decide +kernel
theorem dX2_isSame_106 : decode cX2_isSame 106 = .ok (.invokevirtual 42, 3) := by decide +kernel
theorem dX2_isSame_109 : decode cX2_isSame 109 = .ok (.if_icmp .ne 32, 3) := by decide +kernel
theorem dX2_isSame_112 : decode cX2_isSame 112 = .ok (.aload_n 1, 1) := by decide +kernel
theorem dX2_isSame_113 : decode cX2_isSame 113 = .ok (.iload 5, 2) := by decide +kernel
theorem dX2_isSame_115 : decode cX2_isSame 115 = .ok (.invokevirtual 57, 3) := by decide +kernel
theorem dX2_isSame_118 : decode cX2_isSame 118 = .ok (.aload_n 0, 1) := by decide +kernel
theorem dX2_isSame_119 : decode cX2_isSame 119 = .ok (.getfield 15, 3) := by decide +kernel
theorem dX2_isSame_122 : decode cX2_isSame 122 = .ok (.iload 5, 2) := by decide +kernel
theorem dX2_isSame_124 : decode cX2_isSame 124 = .ok (.aaload, 1) := by decide +kernel
theorem dX2_isSame_125 : decode cX2_isSame 125 = .ok (.iconst 1, 1) := by decide +kernel
theorem dX2_isSame_126 : decode cX2_isSame 126 = .ok (.iaload, 1) := by decide +kernel
theorem dX2_isSame_127 : decode cX2_isSame 127 = .ok (.if_icmp .ne 14, 3) := by decide +kernel
theorem dX2_isSame_130 : decode cX2_isSame 130 = .ok (.aload_n 1, 1) := by decide +kernel
theorem dX2_isSame_131 : decode cX2_isSame 131 = .ok (.iload 5, 2) := by decide +kernel
theorem dX2_isSame_133 : decode cX2_isSame 133 = .ok (.invokevirtual 60, 3) := by decide +kernel
theorem dX2_isSame_136 : decode cX2_isSame 136 = .ok (.iload 6, 2) := by decide +kernel
theorem dX2_isSame_138 : decode cX2_isSame 138 = .ok (.if_icmp .eq 5, 3) := by decide +kernel
theorem dX2_isSame_141 : decode cX2_isSame 141 = .ok (.iconst 0, 1) := by decide +kernel
theorem dX2_isSame_142 : decode cX2_isSame 142 = .ok (.ireturn, 1) := by decide +kernel
theorem dX2_isSame_143 : decode cX2_isSame 143 = .ok (.iload_n 2, 1) := by decide +kernel
theorem dX2_isSame_144 : decode cX2_isSame 144 = .ok (.aload_n 0, 1) := by decide +kernel
theorem dX2_isSame_145 : decode cX2_isSame 145 = .ok (.getfield 15, 3) := by decide +kernel
theorem dX2_isSame_148 : decode cX2_isSame 148 = .ok (.iload 5, 2) := by decide +kernel
theorem dX2_isSame_150 : decode cX2_isSame 150 = .ok (.aaload, 1) := by decide +kernel
theorem dX2_isSame_151 : decode cX2_isSame 151 = .ok (.iconst 0, 1) := by decide +kernel
theorem dX2_isSame_152 : decode cX2_isSame 152 = .ok (.iaload, 1) := by decide +kernel
theorem dX2_isSame_153 : decode cX2_isSame 153 = .ok (.iadd, 1) := by decide +kernel
theorem dX2_isSame_154 : decode cX2_isSame 154 = .ok (.istore_n 2, 1) := by decide +kernel
theorem dX2_isSame_155 : decode cX2_isSame 155 = .ok (.iload_n 3, 1) := by decide +kernel
theorem dX2_isSame_156 : decode cX2_isSame 156 = .ok (.aload_n 0, 1) := by decide +kernel
theorem dX2_isSame_157 : decode cX2_isSame 157 = .ok (.iload 5, 2) := by decide +kernel
theorem dX2_isSame_159 : decode cX2_isSame 159 = .ok (.invokevirtual 42, 3) := by decide +kernel
theorem dX2_isSame_162 : decode cX2_isSame 162 = .ok (.iadd, 1) := by decide +kernel
theorem dX2_isSame_163 : decode cX2_isSame 163 = .ok (.istore_n 3, 1) := by decide +kernel
theorem dX2_isSame_164 : decode cX2_isSame 164 = .ok (.iload 4, 2) := by decide +kernel
theorem dX2_isSame_166 : decode cX2_isSame 166 = .ok (.iload 6, 2) := by decide +kernel
theorem dX2_isSame_168 : decode cX2_isSame 168 = .ok (.iadd, 1) := by decide +kernel
theorem dX2_isSame_169 : decode cX2_isSame 169 = .ok (.istore 4, 2) := by decide +kernel
theorem dX2_isSame_171 : decode cX2_isSame 171 = .ok (.iinc 5 1, 3) := by decide +kernel
theorem dX2_isSame_174 : decode cX2_isSame 174 = .ok (.goto (-164), 3) := by decide +kernel
theorem dX2_isSame_177 : decode cX2_isSame 177 = .ok (.iconst 0, 1) := by decide +kernel
theorem dX2_isSame_178 : decode cX2_isSame 178 = .ok (.istore 5, 2) := by decide +kernel
theorem dX2_isSame_180 : decode cX2_isSame 180 = .ok (.iload 5, 2) := by decide +kernel
theorem dX2_isSame_182 : decode cX2_isSame 182 = .ok (.aload_n 0, 1) := by decide +kernel
theorem dX2_isSame_183 : decode cX2_isSame 183 = .ok (.getfield 19, 3) := by decide +kernel
theorem dX2_isSame_186 : decode cX2_isSame 186 = .ok (.arraylength, 1) := by decide +kernel
theorem dX2_isSame_187 : decode cX2_isSame 187 = .ok (.if_icmp .ge 135, 3) := by decide +kernel
theorem dX2_isSame_190 : decode cX2_isSame 190 = .ok (.iconst 0, 1) := by decide +kernel
theorem dX2_isSame_191 : decode cX2_isSame 191 = .ok (.istore 6, 2) := by decide +kernel
theorem dX2_isSame_193 : decode cX2_isSame 193 = .ok (.iconst 0, 1) := by decide +kernel
theorem dX2_isSame_194 : decode cX2_isSame 194 = .ok (.istore 7, 2) := by decide +kernel
theorem dX2_isSame_196 : decode cX2_isSame 196 = .ok (.aload_n 0, 1) := by decide +kernel
theorem dX2_isSame_197 : decode cX2_isSame 197 = .ok (.getfield 22, 3) := by decide +kernel
theorem dX2_isSame_200 : decode cX2_isSame 200 = .ok (.astore 8, 2) := by decide +kernel
theorem dX2_isSame_202 : decode cX2_isSame 202 = .ok (.aload 8, 2) := by decide +kernel
theorem dX2_isSame_204 : decode cX2_isSame 204 = .ok (.arraylength, 1) := by decide +kernel
theorem dX2_isSame_205 : decode cX2_isSame 205 = .ok (.istore 9, 2) := by decide +kernel
theorem dX2_isSame_207 : decode cX2_isSame 207 = .ok (.iconst 0, 1) := by decide +kernel
theorem dX2_isSame_208 : decode cX2_isSame 208 = .ok (.istore 10, 2) := by decide +kernel
theorem dX2_isSame_210 : decode cX2_isSame 210 = .ok (.iload 10, 2) := by decide +kernel
theorem dX2_isSame_212 : decode cX2_isSame 212 = .ok (.iload 9, 2) := by decide +kernel
theorem dX2_isSame_214 : decode cX2_isSame 214 = .ok (.if_icmp .ge 42, 3) := by decide +kernel
theorem dX2_isSame_217 : decode cX2_isSame 217 = .ok (.aload 8, 2) := by decide +kernel
theorem dX2_isSame_219 : decode cX2_isSame 219 = .ok (.iload 10, 2) := by decide +kernel
theorem dX2_isSame_221 : decode cX2_isSame 221 = .ok (.aaload, 1) := by decide +kernel
theorem dX2_isSame_222 : decode cX2_isSame 222 = .ok (.astore 11, 2) := by decide +kernel
theorem dX2_isSame_224 : decode cX2_isSame 224 = .ok (.aload 11, 2) := by decide +kernel
theorem dX2_isSame_226 : decode cX2_isSame 226 = .ok (.iconst 2, 1) := by decide +kernel
theorem dX2_isSame_227 : decode cX2_isSame 227 = .ok (.iaload, 1) := by decide +kernel
theorem dX2_isSame_228 : decode cX2_isSame 228 = .ok (.iload 5, 2) := by decide +kernel
theorem dX2_isSame_230 : decode cX2_isSame 230 = .ok (.if_icmp .eq 6, 3) := by decide +kernel
theorem dX2_isSame_233 : decode cX2_isSame 233 = .ok (.goto 17, 3) := by decide +kernel
theorem dX2_isSame_236 : decode cX2_isSame 236 = .ok (.iinc 6 1, 3) := by decide +kernel
theorem dX2_isSame_239 : decode cX2_isSame 239 = .ok (.iload 7, 2) := by decide +kernel
theorem dX2_isSame_241 : decode cX2_isSame 241 = .ok (.aload 11, 2) := by decide +kernel
theorem dX2_isSame_243 : decode cX2_isSame 243 = .ok (.iconst 0, 1) := by decide +kernel
theorem dX2_isSame_244 : decode cX2_isSame 244 = .ok (.iaload, 1) := by decide +kernel
theorem dX2_isSame_245 : decode cX2_isSame 245 = .ok (.invokestatic 63, 3) := by decide +kernel
theorem dX2_isSame_248 : decode cX2_isSame 248 = .ok (.istore 7, 2) := by decide +kernel
theorem dX2_isSame_250 : decode cX2_isSame 250 = .ok (.iinc 10 1, 3) := by decide +kernel
theorem dX2_isSame_253 : decode cX2_isSame 253 = .ok (.goto (-43), 3) := by decide +kernel
theorem dX2_isSame_256 : decode cX2_isSame 256 = .ok (.aload_n 1, 1) := by decide +kernel
theorem dX2_isSame_257 : decode cX2_isSame 257 = .ok (.iload 5, 2) := by decide +kernel
theorem dX2_isSame_259 : decode cX2_isSame 259 = .ok (.invokevirtual 69, 3) := by decide +kernel
theorem dX2_isSame_262 : decode cX2_isSame 262 = .ok (.aload_n 0, 1) := by decide +kernel
theorem dX2_isSame_263 : decode cX2_isSame 263 = .ok (.getfield 19, 3) := by decide +kernel
theorem dX2_isSame_266 : decode cX2_isSame 266 = .ok (.iload 5, 2) := by decide +kernel
theorem dX2_isSame_268 : decode cX2_isSame 268 = .ok (.aaload, 1) := by decide +kernel
theorem dX2_isSame_269 : decode cX2_isSame 269 = .ok (.iconst 1, 1) := by decide +kernel
theorem dX2_isSame_270 : decode cX2_isSame 270 = .ok (.iaload, 1) := by decide +kernel
theorem dX2_isSame_271 : decode cX2_isSame 271 = .ok (.if_icmp .ne 43, 3) := by decide +kernel
theorem dX2_isSame_274 : decode cX2_isSame 274 = .ok (.aload_n 1, 1) := by decide +kernel
theorem dX2_isSame_275 : decode cX2_isSame 275 = .ok (.iload 5, 2) := by decide +kernel
theorem dX2_isSame_277 : decode cX2_isSame 277 = .ok (.invokevirtual 72, 3) := by decide +kernel
theorem dX2_isSame_280 : decode cX2_isSame 280 = .ok (.aload_n 0, 1) := by decide +kernel
theorem dX2_isSame_281 : decode cX2_isSame 281 = .ok (.getfield 19, 3) := by decide +kernel
theorem dX2_isSame_284 : decode cX2_isSame 284 = .ok (.iload 5, 2) := by decide +kernel
theorem dX2_isSame_286 : decode cX2_isSame 286 = .ok (.aaload, 1) := by decide +kernel
theorem dX2_isSame_287 : decode cX2_isSame 287 = .ok (.iconst 0, 1) := by decide +kernel
theorem dX2_isSame_288 : decode cX2_isSame 288 = .ok (.iaload, 1) := by decide +kernel
theorem dX2_isSame_289 : decode cX2_isSame 289 = .ok (.if_icmp .ne 25, 3) := by decide +kernel
theorem dX2_isSame_292 : decode cX2_isSame 292 = .ok (.aload_n 1, 1) := by decide +kernel
theorem dX2_isSame_293 : decode cX2_isSame 293 = .ok (.iload 5, 2) := by decide +kernel
theorem dX2_isSame_295 : decode cX2_isSame 295 = .ok (.invokevirtual 75, 3) := by decide +kernel
theorem dX2_isSame_298 : decode cX2_isSame 298 = .ok (.iload 6, 2) := by decide +kernel
theorem dX2_isSame_300 : decode cX2_isSame 300 = .ok (.if_icmp .ne 14, 3) := by decide +kernel
theorem dX2_isSame_303 : decode cX2_isSame 303 = .ok (.aload_n 1, 1) := by decide +kernel
theorem dX2_isSame_304 : decode cX2_isSame 304 = .ok (.iload 5, 2) := by decide +kernel
theorem dX2_isSame_306 : decode cX2_isSame 306 = .ok (.invokevirtual 78, 3) := by decide +kernel
theorem dX2_isSame_309 : decode cX2_isSame 309 = .ok (.iload 7, 2) := by decide +kernel
theorem dX2_isSame_311 : decode cX2_isSame 311 = .ok (.if_icmp .eq 5, 3) := by decide +kernel
theorem dX2_isSame_314 : decode cX2_isSame 314 = .ok (.iconst 0, 1) := by decide +kernel
theorem dX2_isSame_315 : decode cX2_isSame 315 = .ok (.ireturn, 1) := by decide +kernel
theorem dX2_isSame_316 : decode cX2_isSame 316 = .ok (.iinc 5 1, 3) := by decide +kernel
theorem dX2_isSame_319 : decode cX2_isSame 319 = .ok (.goto (-139), 3) := by decide +kernel
theorem dX2_isSame_322 : decode cX2_isSame 322 = .ok (.iconst 0, 1) := by decide +kernel
theorem dX2_isSame_323 : decode cX2_isSame 323 = .ok (.istore 5, 2) := by decide +kernel
theorem dX2_isSame_325 : decode cX2_isSame 325 = .ok (.iload 5, 2) := by decide +kernel
theorem dX2_isSame_327 : decode cX2_isSame 327 = .ok (.aload_n 0, 1) := by decide +kernel
theorem dX2_isSame_328 : decode cX2_isSame 328 = .ok (.getfield 22, 3) := by decide +kernel
theorem dX2_isSame_331 : decode cX2_isSame 331 = .ok (.arraylength, 1) := by decide +kernel
theorem dX2_isSame_332 : decode cX2_isSame 332 = .ok (.if_icmp .ge 116, 3) := by decide +kernel
theorem dX2_isSame_335 : decode cX2_isSame 335 = .ok (.aload_n 0, 1) := by decide +kernel
theorem dX2_isSame_336 : decode cX2_isSame 336 = .ok (.getfield 22, 3) := by decide +kernel
theorem dX2_isSame_339 : decode cX2_isSame 339 = .ok (.iload 5, 2) := by decide +kernel
theorem dX2_isSame_341 : decode cX2_isSame 341 = .ok (.aaload, 1) := by decide +kernel
theorem dX2_isSame_342 : decode cX2_isSame 342 = .ok (.astore 6, 2) := by decide +kernel
theorem dX2_isSame_344 : decode cX2_isSame 344 = .ok (.aload_n 1, 1) := by decide +kernel
theorem dX2_isSame_345 : decode cX2_isSame 345 = .ok (.iload 5, 2) := by decide +kernel
theorem dX2_isSame_347 : decode cX2_isSame 347 = .ok (.invokevirtual 81, 3) := by decide +kernel
theorem dX2_isSame_350 : decode cX2_isSame 350 = .ok (.aload 6, 2) := by decide +kernel
theorem dX2_isSame_352 : decode cX2_isSame 352 = .ok (.iconst 0, 1) := by decide +kernel
theorem dX2_isSame_353 : decode cX2_isSame 353 = .ok (.iaload, 1) := by decide +kernel
theorem dX2_isSame_354 : decode cX2_isSame 354 = .ok (.if_icmp .ne 86, 3) := by decide +kernel
theorem dX2_isSame_357 : decode cX2_isSame 357 = .ok (.aload_n 1, 1) := by decide +kernel
theorem dX2_isSame_358 : decode cX2_isSame 358 = .ok (.iload 5, 2) := by decide +kernel
theorem dX2_isSame_360 : decode cX2_isSame 360 = .ok (.invokevirtual 84, 3) := by decide +kernel
theorem dX2_isSame_363 : decode cX2_isSame 363 = .ok (.aload 6, 2) := by decide +kernel
theorem dX2_isSame_365 : decode cX2_isSame 365 = .ok (.iconst 1, 1) := by decide +kernel
theorem dX2_isSame_366 : decode cX2_isSame 366 = .ok (.iaload, 1) := by decide +kernel
theorem dX2_isSame_367 : decode cX2_isSame 367 = .ok (.if_icmp .ne 73, 3) := by decide +kernel
theorem dX2_isSame_370 : decode cX2_isSame 370 = .ok (.aload_n 1, 1) := by decide +kernel
theorem dX2_isSame_371 : decode cX2_isSame 371 = .ok (.iload 5, 2) := by decide +kernel
theorem dX2_isSame_373 : decode cX2_isSame 373 = .ok (.invokevirtual 87, 3) := by decide +kernel
theorem dX2_isSame_376 : decode cX2_isSame 376 = .ok (.aload 6, 2) := by decide +kernel
theorem dX2_isSame_378 : decode cX2_isSame 378 = .ok (.iconst 2, 1) := by decide +kernel
theorem dX2_isSame_379 : decode cX2_isSame 379 = .ok (.iaload, 1) := by decide +kernel
theorem dX2_isSame_380 : decode cX2_isSame 380 = .ok (.if_icmp .ne 60, 3) := by decide +kernel
theorem dX2_isSame_383 : decode cX2_isSame 383 = .ok (.aload_n 1, 1) := by decide +kernel
theorem dX2_isSame_384 : decode cX2_isSame 384 = .ok (.iload 5, 2) := by decide +kernel
theorem dX2_isSame_386 : decode cX2_isSame 386 = .ok (.invokevirtual 90, 3) := by decide +kernel
theorem dX2_isSame_389 : decode cX2_isSame 389 = .ok (.aload 6, 2) := by decide +kernel
theorem dX2_isSame_391 : decode cX2_isSame 391 = .ok (.iconst 3, 1) := by decide +kernel
theorem dX2_isSame_392 : decode cX2_isSame 392 = .ok (.iaload, 1) := by decide +kernel
theorem dX2_isSame_393 : decode cX2_isSame 393 = .ok (.iconst 1, 1) := by decide +kernel
theorem dX2_isSame_394 : decode cX2_isSame 394 = .ok (.if_icmp .ne 7, 3) := by decide +kernel
theorem dX2_isSame_397 : decode cX2_isSame 397 = .ok (.iconst 1, 1) := by decide +kernel
theorem dX2_isSame_398 : decode cX2_isSame 398 = .ok (.goto 4, 3) := by decide +kernel
theorem dX2_isSame_401 : decode cX2_isSame 401 = .ok (.iconst 0, 1) := by decide +kernel
theorem dX2_isSame_402 : decode cX2_isSame 402 = .ok (.if_icmp .ne 38, 3) := by decide +kernel
theorem dX2_isSame_405 : decode cX2_isSame 405 = .ok (.aload_n 1, 1) := by decide +kernel
theorem dX2_isSame_406 : decode cX2_isSame 406 = .ok (.iload 5, 2) := by decide +kernel
theorem dX2_isSame_408 : decode cX2_isSame 408 = .ok (.invokevirtual 94, 3) := by decide +kernel
theorem dX2_isSame_411 : decode cX2_isSame 411 = .ok (.aload 6, 2) := by decide +kernel
theorem dX2_isSame_413 : decode cX2_isSame 413 = .ok (.iconst 4, 1) := by decide +kernel
theorem dX2_isSame_414 : decode cX2_isSame 414 = .ok (.iaload, 1) := by decide +kernel
theorem dX2_isSame_415 : decode cX2_isSame 415 = .ok (.iconst 1, 1) := by decide +kernel
theorem dX2_isSame_416 : decode cX2_isSame 416 = .ok (.if_icmp .ne 7, 3) := by decide +kernel
theorem dX2_isSame_419 : decode cX2_isSame 419 = .ok (.iconst 1, 1) := by decide +kernel
theorem dX2_isSame_420 : decode cX2_isSame 420 = .ok (.goto 4, 3) := by decide +kernel
theorem dX2_isSame_423 : decode cX2_isSame 423 = .ok (.iconst 0, 1) := by decide +kernel
theorem dX2_isSame_424 : decode cX2_isSame 424 = .ok (.if_icmp .ne 16, 3) := by decide +kernel
theorem dX2_isSame_427 : decode cX2_isSame 427 = .ok (.aload_n 1, 1) := by decide +kernel
theorem dX2_isSame_428 : decode cX2_isSame 428 = .ok (.iload 5, 2) := by decide +kernel
theorem dX2_isSame_430 : decode cX2_isSame 430 = .ok (.invokevirtual 97, 3) := by decide +kernel
theorem dX2_isSame_433 : decode cX2_isSame 433 = .ok (.aload 6, 2) := by decide +kernel
theorem dX2_isSame_435 : decode cX2_isSame 435 = .ok (.iconst 5, 1) := by decide +kernel
theorem dX2_isSame_436 : decode cX2_isSame 436 = .ok (.iaload, 1) := by decide +kernel
theorem dX2_isSame_437 : decode cX2_isSame 437 = .ok (.if_icmp .eq 5, 3) := by decide +kernel
theorem dX2_isSame_440 : decode cX2_isSame 440 = .ok (.iconst 0, 1) := by decide +kernel
theorem dX2_isSame_441 : decode cX2_isSame 441 = .ok (.ireturn, 1) := by decide +kernel
theorem dX2_isSame_442 : decode cX2_isSame 442 = .ok (.iinc 5 1, 3) := by decide +kernel
theorem dX2_isSame_445 : decode cX2_isSame 445 = .ok (.goto (-120), 3) := by decide +kernel
theorem dX2_isSame_448 : decode cX2_isSame 448 = .ok (.aload_n 1, 1) := by decide +kernel
theorem dX2_isSame_449 : decode cX2_isSame 449 = .ok (.invokevirtual 100, 3) := by decide +kernel
theorem dX2_isSame_452 : decode cX2_isSame 452 = .ok (.aload_n 0, 1) := by decide +kernel
theorem dX2_isSame_453 : decode cX2_isSame 453 = .ok (.getfield 32, 3) := by decide +kernel
theorem dX2_isSame_456 : decode cX2_isSame 456 = .ok (.if_icmp .ne 61, 3) := by decide +kernel
theorem dX2_isSame_459 : decode cX2_isSame 459 = .ok (.aload_n 1, 1) := by decide +kernel
theorem dX2_isSame_460 : decode cX2_isSame 460 = .ok (.invokevirtual 103, 3) := by decide +kernel
theorem dX2_isSame_463 : decode cX2_isSame 463 = .ok (.aload_n 0, 1) := by decide +kernel
theorem dX2_isSame_464 : decode cX2_isSame 464 = .ok (.getfield 15, 3) := by decide +kernel
theorem dX2_isSame_467 : decode cX2_isSame 467 = .ok (.arraylength, 1) := by decide +kernel
theorem dX2_isSame_468 : decode cX2_isSame 468 = .ok (.if_icmp .ne 49, 3) := by decide +kernel
theorem dX2_isSame_471 : decode cX2_isSame 471 = .ok (.aload_n 1, 1) := by decide +kernel
theorem dX2_isSame_472 : decode cX2_isSame 472 = .ok (.invokevirtual 105, 3) := by decide +kernel
theorem dX2_isSame_475 : decode cX2_isSame 475 = .ok (.aload_n 0, 1) := by decide +kernel
theorem dX2_isSame_476 : decode cX2_isSame 476 = .ok (.getfield 19, 3) := by decide +kernel
theorem dX2_isSame_479 : decode cX2_isSame 479 = .ok (.arraylength, 1) := by decide +kernel
theorem dX2_isSame_480 : decode cX2_isSame 480 = .ok (.if_icmp .ne 37, 3) := by decide +kernel
theorem dX2_isSame_483 : decode cX2_isSame 483 = .ok (.aload_n 1, 1) := by decide +kernel
theorem dX2_isSame_484 : decode cX2_isSame 484 = .ok (.invokevirtual 107, 3) := by decide +kernel
theorem dX2_isSame_487 : decode cX2_isSame 487 = .ok (.aload_n 0, 1) := by decide +kernel
theorem dX2_isSame_488 : decode cX2_isSame 488 = .ok (.getfield 22, 3) := by decide +kernel
theorem dX2_isSame_491 : decode cX2_isSame 491 = .ok (.arraylength, 1) := by decide +kernel
theorem dX2_isSame_492 : decode cX2_isSame 492 = .ok (.if_icmp .ne 25, 3) := by decide +kernel
theorem dX2_isSame_495 : decode cX2_isSame 495 = .ok (.aload_n 1, 1) := by decide +kernel
theorem dX2_isSame_496 : decode cX2_isSame 496 = .ok (.invokevirtual 109, 3) := by decide +kernel
theorem dX2_isSame_499 : decode cX2_isSame 499 = .ok (.aload_n 0, 1) := by decide +kernel
theorem dX2_isSame_500 : decode cX2_isSame 500 = .ok (.getfield 7, 3) := by decide +kernel
theorem dX2_isSame_503 : decode cX2_isSame 503 = .ok (.if_icmp .ne 14, 3) := by decide +kernel
theorem dX2_isSame_506 : decode cX2_isSame 506 = .ok (.aload_n 1, 1) := by decide +kernel
theorem dX2_isSame_507 : decode cX2_isSame 507 = .ok (.invokevirtual 111, 3) := by decide +kernel
theorem dX2_isSame_510 : decode cX2_isSame 510 = .ok (.aload_n 0, 1) := by decide +kernel
theorem dX2_isSame_511 : decode cX2_isSame 511 = .ok (.getfield 35, 3) := by decide +kernel
theorem dX2_isSame_514 : decode cX2_isSame 514 = .ok (.if_icmp .eq 5, 3) := by decide +kernel
theorem dX2_isSame_517 : decode cX2_isSame 517 = .ok (.iconst 0, 1) := by decide +kernel
theorem dX2_isSame_518 : decode cX2_isSame 518 = .ok (.ireturn, 1) := by decide +kernel
theorem dX2_isSame_519 : decode cX2_isSame 519 = .ok (.aload_n 1, 1) := by decide +kernel
theorem dX2_isSame_520 : decode cX2_isSame 520 = .ok (.invokevirtual 114, 3) := by decide +kernel
theorem dX2_isSame_523 : decode cX2_isSame 523 = .ok (.iload_n 2, 1) := by decide +kernel
theorem dX2_isSame_524 : decode cX2_isSame 524 = .ok (.iload_n 3, 1) := by decide +kernel
theorem dX2_isSame_525 : decode cX2_isSame 525 = .ok (.isub, 1) := by decide +kernel
theorem dX2_isSame_526 : decode cX2_isSame 526 = .ok (.if_icmp .ne 78, 3) := by decide +kernel
theorem dX2_isSame_529 : decode cX2_isSame 529 = .ok (.aload_n 1, 1) := by decide +kernel
theorem dX2_isSame_530 : decode cX2_isSame 530 = .ok (.invokevirtual 117, 3) := by decide +kernel
theorem dX2_isSame_533 : decode cX2_isSame 533 = .ok (.iconst 0, 1) := by decide +kernel
theorem dX2_isSame_534 : decode cX2_isSame 534 = .ok (.iload_n 3, 1) := by decide +kernel
theorem dX2_isSame_535 : decode cX2_isSame 535 = .ok (.aload_n 0, 1) := by decide +kernel
theorem dX2_isSame_536 : decode cX2_isSame 536 = .ok (.getfield 7, 3) := by decide +kernel
theorem dX2_isSame_539 : decode cX2_isSame 539 = .ok (.isub, 1) := by decide +kernel
theorem dX2_isSame_540 : decode cX2_isSame 540 = .ok (.invokestatic 63, 3) := by decide +kernel
theorem dX2_isSame_543 : decode cX2_isSame 543 = .ok (.if_icmp .ne 61, 3) := by decide +kernel
theorem dX2_isSame_546 : decode cX2_isSame 546 = .ok (.aload_n 1, 1) := by decide +kernel
theorem dX2_isSame_547 : decode cX2_isSame 547 = .ok (.invokevirtual 120, 3) := by decide +kernel
theorem dX2_isSame_550 : decode cX2_isSame 550 = .ok (.iload_n 3, 1) := by decide +kernel
theorem dX2_isSame_551 : decode cX2_isSame 551 = .ok (.if_icmp .ne 53, 3) := by decide +kernel
theorem dX2_isSame_554 : decode cX2_isSame 554 = .ok (.aload_n 1, 1) := by decide +kernel
theorem dX2_isSame_555 : decode cX2_isSame 555 = .ok (.invokevirtual 123, 3) := by decide +kernel
theorem dX2_isSame_558 : decode cX2_isSame 558 = .ok (.aload_n 0, 1) := by decide +kernel
theorem dX2_isSame_559 : decode cX2_isSame 559 = .ok (.iconst 3, 1) := by decide +kernel
theorem dX2_isSame_560 : decode cX2_isSame 560 = .ok (.invokevirtual 126, 3) := by decide +kernel
theorem dX2_isSame_563 : decode cX2_isSame 563 = .ok (.if_icmp .ne 41, 3) := by decide +kernel
theorem dX2_isSame_566 : decode cX2_isSame 566 = .ok (.aload_n 1, 1) := by decide +kernel
theorem dX2_isSame_567 : decode cX2_isSame 567 = .ok (.invokevirtual 129, 3) := by decide +kernel
theorem dX2_isSame_570 : decode cX2_isSame 570 = .ok (.aload_n 0, 1) := by decide +kernel
theorem dX2_isSame_571 : decode cX2_isSame 571 = .ok (.iconst 4, 1) := by decide +kernel
theorem dX2_isSame_572 : decode cX2_isSame 572 = .ok (.invokevirtual 126, 3) := by decide +kernel
theorem dX2_isSame_575 : decode cX2_isSame 575 = .ok (.if_icmp .ne 29, 3) := by decide +kernel
theorem dX2_isSame_578 : decode cX2_isSame 578 = .ok (.aload_n 1, 1) := by decide +kernel
theorem dX2_isSame_579 : decode cX2_isSame 579 = .ok (.invokevirtual 132, 3) := by decide +kernel
theorem dX2_isSame_582 : decode cX2_isSame 582 = .ok (.iload_n 3, 1) := by decide +kernel
theorem dX2_isSame_583 : decode cX2_isSame 583 = .ok (.ifCond .ne 7, 3) := by decide +kernel
theorem dX2_isSame_586 : decode cX2_isSame 586 = .ok (.dconst 0, 1) := by decide +kernel
theorem dX2_isSame_587 : decode cX2_isSame 587 = .ok (.goto 9, 3) := by decide +kernel
theorem dX2_isSame_590 : decode cX2_isSame 590 = .ok (.iload 4, 2) := by decide +kernel
theorem dX2_isSame_592 : decode cX2_isSame 592 = .ok (.i2d, 1) := by decide +kernel
theorem dX2_isSame_593 : decode cX2_isSame 593 = .ok (.iload_n 3, 1) := by decide +kernel
theorem dX2_isSame_594 : decode cX2_isSame 594 = .ok (.i2d, 1) := by decide +kernel
theorem dX2_isSame_595 : decode cX2_isSame 595 = .ok (.ddiv, 1) := by decide +kernel
theorem dX2_isSame_596 : decode cX2_isSame 596 = .ok (.dcmp .l, 1) := by decide +kernel
theorem dX2_isSame_597 : decode cX2_isSame 597 = .ok (.ifCond .ne 7, 3) := by decide +kernel
theorem dX2_isSame_600 : decode cX2_isSame 600 = .ok (.iconst 1, 1) := by decide +kernel
theorem dX2_isSame_601 : decode cX2_isSame 601 = .ok (.goto 4, 3) := by decide +kernel
theorem dX2_isSame_604 : decode cX2_isSame 604 = .ok (.iconst 0, 1) := by decide +kernel
theorem dX2_isSame_605 : decode cX2_isSame 605 = .ok (.ireturn, 1) := by decide +kernel
