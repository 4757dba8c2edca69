theorem dX2_init_0 : decode cX2_init 0 = .ok (.aload_n 0, 1) := by decide +kernel
theorem dX2_init_1 : decode cX2_init 1 = .ok (.invokespecial 1, 3) := by decide +kernel
theorem dX2_init_4 : decode cX2_init 4 = .ok (.aload_n 0, 1) := by decide +kernel
theorem dX2_init_5 : decode cX2_init 5 = .ok (.bipush 20, 2) := by decide +kernel
theorem dX2_init_7 : decode cX2_init 7 = .ok (.putfield 7, 3) := by decide +kernel
theorem dX2_init_10 : decode cX2_init 10 = .ok (.aload_n 0, 1) := by decide +kernel
theorem dX2_init_11 : decode cX2_init 11 = .ok (.iconst 0, 1) := by decide +kernel
theorem dX2_init_12 : decode cX2_init 12 = .ok (.anewarray 13, 3) := by decide +kernel
theorem dX2_init_15 : decode cX2_init 15 = .ok (.putfield 15, 3) := by decide +kernel
theorem dX2_init_18 : decode cX2_init 18 = .ok (.aload_n 0, 1) := by decide +kernel
theorem dX2_init_19 : decode cX2_init 19 = .ok (.iconst 0, 1) := by decide +kernel
theorem dX2_init_20 : decode cX2_init 20 = .ok (.anewarray 13, 3) := by decide +kernel
theorem dX2_init_23 : decode cX2_init 23 = .ok (.putfield 19, 3) := by decide +kernel
theorem dX2_init_26 : decode cX2_init 26 = .ok (.aload_n 0, 1) := by decide +kernel
theorem dX2_init_27 : decode cX2_init 27 = .ok (.iconst 0, 1) := by decide +kernel
theorem dX2_init_28 : decode cX2_init 28 = .ok (.anewarray 13, 3) := by decide +kernel
theorem dX2_init_31 : decode cX2_init 31 = .ok (.putfield 22, 3) := by decide +kernel
theorem dX2_init_34 : decode cX2_init 34 = .ok (.return_, 1) := by decide +kernel
theorem dX2_with_0 : decode cX2_with 0 = .ok (.aload_n 0, 1) := by decide +kernel
theorem dX2_with_1 : decode cX2_with 1 = .ok (.arraylength, 1) := by decide +kernel
theorem dX2_with_2 : decode cX2_with 2 = .ok (.iconst 1, 1) := by decide +kernel
theorem dX2_with_3 : decode cX2_with 3 = .ok (.iadd, 1) := by decide +kernel
theorem dX2_with_4 : decode cX2_with 4 = .ok (.anewarray 13, 3) := by decide +kernel
theorem dX2_with_7 : decode cX2_with 7 = .ok (.astore_n 2, 1) := by decide +kernel
theorem dX2_with_8 : decode cX2_with 8 = .ok (.iconst 0, 1) := by decide +kernel
theorem dX2_with_9 : decode cX2_with 9 = .ok (.istore_n 3, 1) := by decide +kernel
theorem dX2_with_10 : decode cX2_with 10 = .ok (.iload_n 3, 1) := by decide +kernel
theorem dX2_with_11 : decode cX2_with 11 = .ok (.aload_n 0, 1) := by decide +kernel
theorem dX2_with_12 : decode cX2_with 12 = .ok (.arraylength, 1) := by decide +kernel
theorem dX2_with_13 : decode cX2_with 13 = .ok (.if_icmp .ge 15, 3) := by decide +kernel
theorem dX2_with_16 : decode cX2_with 16 = .ok (.aload_n 2, 1) := by decide +kernel
theorem dX2_with_17 : decode cX2_with 17 = .ok (.iload_n 3, 1) := by decide +kernel
theorem dX2_with_18 : decode cX2_with 18 = .ok (.aload_n 0, 1) := by decide +kernel
theorem dX2_with_19 : decode cX2_with 19 = .ok (.iload_n 3, 1) := by decide +kernel
theorem dX2_with_20 : decode cX2_with 20 = .ok (.aaload, 1) := by decide +kernel
theorem dX2_with_21 : decode cX2_with 21 = .ok (.aastore, 1) := by decide +kernel
theorem dX2_with_22 : decode cX2_with 22 = .ok (.iinc 3 1, 3) := by decide +kernel
theorem dX2_with_25 : decode cX2_with 25 = .ok (.goto (-15), 3) := by decide +kernel
theorem dX2_with_28 : decode cX2_with 28 = .ok (.aload_n 2, 1) := by decide +kernel
theorem dX2_with_29 : decode cX2_with 29 = .ok (.aload_n 0, 1) := by decide +kernel
theorem dX2_with_30 : decode cX2_with 30 = .ok (.arraylength, 1) := by decide +kernel
theorem dX2_with_31 : decode cX2_with 31 = .ok (.aload_n 1, 1) := by decide +kernel
theorem dX2_with_32 : decode cX2_with 32 = .ok (.aastore, 1) := by decide +kernel
theorem dX2_with_33 : decode cX2_with 33 = .ok (.aload_n 2, 1) := by decide +kernel
theorem dX2_with_34 : decode cX2_with 34 = .ok (.areturn, 1) := by decide +kernel
theorem dX2_in_0 : decode cX2_in 0 = .ok (.iconst 0, 1) := by decide +kernel
theorem dX2_in_1 : decode cX2_in 1 = .ok (.istore_n 2, 1) := by decide +kernel
theorem dX2_in_2 : decode cX2_in 2 = .ok (.aload_n 0, 1) := by decide +kernel
theorem dX2_in_3 : decode cX2_in 3 = .ok (.getfield 22, 3) := by decide +kernel
theorem dX2_in_6 : decode cX2_in 6 = .ok (.astore_n 3, 1) := by decide +kernel
theorem dX2_in_7 : decode cX2_in 7 = .ok (.aload_n 3, 1) := by decide +kernel
theorem dX2_in_8 : decode cX2_in 8 = .ok (.arraylength, 1) := by decide +kernel
theorem dX2_in_9 : decode cX2_in 9 = .ok (.istore 4, 2) := by decide +kernel
theorem dX2_in_11 : decode cX2_in 11 = .ok (.iconst 0, 1) := by decide +kernel
theorem dX2_in_12 : decode cX2_in 12 = .ok (.istore 5, 2) := by decide +kernel
theorem dX2_in_14 : decode cX2_in 14 = .ok (.iload 5, 2) := by decide +kernel
theorem dX2_in_16 : decode cX2_in 16 = .ok (.iload 4, 2) := by decide +kernel
theorem dX2_in_18 : decode cX2_in 18 = .ok (.if_icmp .ge 31, 3) := by decide +kernel
theorem dX2_in_21 : decode cX2_in 21 = .ok (.aload_n 3, 1) := by decide +kernel
theorem dX2_in_22 : decode cX2_in 22 = .ok (.iload 5, 2) := by decide +kernel
theorem dX2_in_24 : decode cX2_in 24 = .ok (.aaload, 1) := by decide +kernel
theorem dX2_in_25 : decode cX2_in 25 = .ok (.astore 6, 2) := by decide +kernel
theorem dX2_in_27 : decode cX2_in 27 = .ok (.iload_n 2, 1) := by decide +kernel
theorem dX2_in_28 : decode cX2_in 28 = .ok (.aload 6, 2) := by decide +kernel
theorem dX2_in_30 : decode cX2_in 30 = .ok (.iconst 1, 1) := by decide +kernel
theorem dX2_in_31 : decode cX2_in 31 = .ok (.iaload, 1) := by decide +kernel
theorem dX2_in_32 : decode cX2_in 32 = .ok (.iload_n 1, 1) := by decide +kernel
theorem dX2_in_33 : decode cX2_in 33 = .ok (.if_icmp .ne 7, 3) := by decide +kernel
theorem dX2_in_36 : decode cX2_in 36 = .ok (.iconst 1, 1) := by decide +kernel
theorem dX2_in_37 : decode cX2_in 37 = .ok (.goto 4, 3) := by decide +kernel
theorem dX2_in_40 : decode cX2_in 40 = .ok (.iconst 0, 1) := by decide +kernel
theorem dX2_in_41 : decode cX2_in 41 = .ok (.iadd, 1) := by decide +kernel
theorem dX2_in_42 : decode cX2_in 42 = .ok (.istore_n 2, 1) := by decide +kernel
theorem dX2_in_43 : decode cX2_in 43 = .ok (.iinc 5 1, 3) := by decide +kernel
theorem dX2_in_46 : decode cX2_in 46 = .ok (.goto (-32), 3) := by decide +kernel
theorem dX2_in_49 : decode cX2_in 49 = .ok (.iload_n 2, 1) := by decide +kernel
theorem dX2_in_50 : decode cX2_in 50 = .ok (.ireturn, 1) := by decide +kernel
set_option maxRecDepth 20000 in
theorem ggX2_pass_X2_in : GoodIn wsX2_pass wsX2_in := goodIn_r _ [13, 2, 14, 15, 16, 17, 18, 19] (by decide +kernel) (by decide +kernel)
set_option maxRecDepth 20000 in
theorem gX2_pass_X2_in : GoodIn wsX2_pass (wsV RX2 42 RX2 yX2_in wsX2_in) := goodIn_app (goodIn_of _ (by decide +kernel)) ggX2_pass_X2_in
theorem dX2_pass_0 : decode cX2_pass 0 = .ok (.aload_n 0, 1) := by decide +kernel
theorem dX2_pass_1 : decode cX2_pass 1 = .ok (.getfield 7, 3) := by decide +kernel
theorem dX2_pass_4 : decode cX2_pass 4 = .ok (.istore_n 1, 1) := by decide +kernel
theorem dX2_pass_5 : decode cX2_pass 5 = .ok (.aload_n 0, 1) := by decide +kernel
theorem dX2_pass_6 : decode cX2_pass 6 = .ok (.getfield 22, 3) := by decide +kernel
theorem dX2_pass_9 : decode cX2_pass 9 = .ok (.arraylength, 1) := by decide +kernel
theorem dX2_pass_10 : decode cX2_pass 10 = .ok (.newarray .boolean, 2) := by decide +kernel
theorem dX2_pass_12 : decode cX2_pass 12 = .ok (.astore_n 2, 1) := by decide +kernel
theorem dX2_pass_13 : decode cX2_pass 13 = .ok (.iconst 0, 1) := by decide +kernel
theorem dX2_pass_14 : decode cX2_pass 14 = .ok (.istore_n 3, 1) := by decide +kernel
theorem dX2_pass_15 : decode cX2_pass 15 = .ok (.iload_n 3, 1) := by decide +kernel
theorem dX2_pass_16 : decode cX2_pass 16 = .ok (.aload_n 0, 1) := by decide +kernel
theorem dX2_pass_17 : decode cX2_pass 17 = .ok (.getfield 15, 3) := by decide +kernel
theorem dX2_pass_20 : decode cX2_pass 20 = .ok (.arraylength, 1) := by decide +kernel
theorem dX2_pass_21 : decode cX2_pass 21 = .ok (.if_icmp .ge 66, 3) := by decide +kernel
theorem dX2_pass_24 : decode cX2_pass 24 = .ok (.iconst 0, 1) := by decide +kernel
theorem dX2_pass_25 : decode cX2_pass 25 = .ok (.istore 4, 2) := by decide +kernel
theorem dX2_pass_27 : decode cX2_pass 27 = .ok (.iload 4, 2) := by decide +kernel
theorem dX2_pass_29 : decode cX2_pass 29 = .ok (.aload_n 0, 1) := by decide +kernel
theorem dX2_pass_30 : decode cX2_pass 30 = .ok (.getfield 22, 3) := by decide +kernel
theorem dX2_pass_33 : decode cX2_pass 33 = .ok (.arraylength, 1) := by decide +kernel
theorem dX2_pass_34 : decode cX2_pass 34 = .ok (.if_icmp .ge 47, 3) := by decide +kernel
theorem dX2_pass_37 : decode cX2_pass 37 = .ok (.aload_n 0, 1) := by decide +kernel
theorem dX2_pass_38 : decode cX2_pass 38 = .ok (.getfield 22, 3) := by decide +kernel
theorem dX2_pass_41 : decode cX2_pass 41 = .ok (.iload 4, 2) := by decide +kernel
theorem dX2_pass_43 : decode cX2_pass 43 = .ok (.aaload, 1) := by decide +kernel
theorem dX2_pass_44 : decode cX2_pass 44 = .ok (.iconst 1, 1) := by decide +kernel
theorem dX2_pass_45 : decode cX2_pass 45 = .ok (.iaload, 1) := by decide +kernel
theorem dX2_pass_46 : decode cX2_pass 46 = .ok (.iload_n 3, 1) := by decide +kernel
theorem dX2_pass_47 : decode cX2_pass 47 = .ok (.if_icmp .ne 28, 3) := by decide +kernel
theorem dX2_pass_50 : decode cX2_pass 50 = .ok (.iload_n 1, 1) := by decide +kernel
theorem dX2_pass_51 : decode cX2_pass 51 = .ok (.ifCond .ne 6, 3) := by decide +kernel
theorem dX2_pass_54 : decode cX2_pass 54 = .ok (.goto 21, 3) := by decide +kernel
theorem dX2_pass_57 : decode cX2_pass 57 = .ok (.iinc 1 (-1), 3) := by decide +kernel
theorem dX2_pass_60 : decode cX2_pass 60 = .ok (.aload_n 2, 1) := by decide +kernel
theorem dX2_pass_61 : decode cX2_pass 61 = .ok (.iload 4, 2) := by decide +kernel
theorem dX2_pass_63 : decode cX2_pass 63 = .ok (.iconst 1, 1) := by decide +kernel
theorem dX2_pass_64 : decode cX2_pass 64 = .ok (.bastore, 1) := by decide +kernel
theorem dX2_pass_65 : decode cX2_pass 65 = .ok (.aload_n 0, 1) := by decide +kernel
theorem dX2_pass_66 : decode cX2_pass 66 = .ok (.dup, 1) := by decide +kernel
theorem dX2_pass_67 : decode cX2_pass 67 = .ok (.getfield 35, 3) := by decide +kernel
theorem dX2_pass_70 : decode cX2_pass 70 = .ok (.iconst 1, 1) := by decide +kernel
theorem dX2_pass_71 : decode cX2_pass 71 = .ok (.iadd, 1) := by decide +kernel
theorem dX2_pass_72 : decode cX2_pass 72 = .ok (.putfield 35, 3) := by decide +kernel
theorem dX2_pass_75 : decode cX2_pass 75 = .ok (.iinc 4 1, 3) := by decide +kernel
theorem dX2_pass_78 : decode cX2_pass 78 = .ok (.goto (-51), 3) := by decide +kernel
theorem dX2_pass_81 : decode cX2_pass 81 = .ok (.iinc 3 1, 3) := by decide +kernel
theorem dX2_pass_84 : decode cX2_pass 84 = .ok (.goto (-69), 3) := by decide +kernel
theorem dX2_pass_87 : decode cX2_pass 87 = .ok (.iconst 0, 1) := by decide +kernel
theorem dX2_pass_88 : decode cX2_pass 88 = .ok (.istore_n 3, 1) := by decide +kernel
theorem dX2_pass_89 : decode cX2_pass 89 = .ok (.iload_n 3, 1) := by decide +kernel
theorem dX2_pass_90 : decode cX2_pass 90 = .ok (.aload_n 0, 1) := by decide +kernel
theorem dX2_pass_91 : decode cX2_pass 91 = .ok (.getfield 22, 3) := by decide +kernel
theorem dX2_pass_94 : decode cX2_pass 94 = .ok (.arraylength, 1) := by decide +kernel
theorem dX2_pass_95 : decode cX2_pass 95 = .ok (.if_icmp .ge 101, 3) := by decide +kernel
theorem dX2_pass_98 : decode cX2_pass 98 = .ok (.aload_n 0, 1) := by decide +kernel
theorem dX2_pass_99 : decode cX2_pass 99 = .ok (.getfield 22, 3) := by decide +kernel
theorem dX2_pass_102 : decode cX2_pass 102 = .ok (.iload_n 3, 1) := by decide +kernel
theorem dX2_pass_103 : decode cX2_pass 103 = .ok (.aaload, 1) := by decide +kernel
theorem dX2_pass_104 : decode cX2_pass 104 = .ok (.astore 4, 2) := by decide +kernel
theorem dX2_pass_106 : decode cX2_pass 106 = .ok (.aload 4, 2) := by decide +kernel
theorem dX2_pass_108 : decode cX2_pass 108 = .ok (.iconst 1, 1) := by decide +kernel
theorem dX2_pass_109 : decode cX2_pass 109 = .ok (.iaload, 1) := by decide +kernel
theorem dX2_pass_110 : decode cX2_pass 110 = .ok (.ifCond .ge 6, 3) := by decide +kernel
theorem dX2_pass_113 : decode cX2_pass 113 = .ok (.goto 77, 3) := by decide +kernel
theorem dX2_pass_116 : decode cX2_pass 116 = .ok (.aload_n 2, 1) := by decide +kernel
theorem dX2_pass_117 : decode cX2_pass 117 = .ok (.iload_n 3, 1) := by decide +kernel
theorem dX2_pass_118 : decode cX2_pass 118 = .ok (.baload, 1) := by decide +kernel
theorem dX2_pass_119 : decode cX2_pass 119 = .ok (.ifCond .ne 11, 3) := by decide +kernel
theorem dX2_pass_122 : decode cX2_pass 122 = .ok (.aload 4, 2) := by decide +kernel
theorem dX2_pass_124 : decode cX2_pass 124 = .ok (.iconst 5, 1) := by decide +kernel
theorem dX2_pass_125 : decode cX2_pass 125 = .ok (.dup2, 1) := by decide +kernel
theorem dX2_pass_126 : decode cX2_pass 126 = .ok (.iaload, 1) := by decide +kernel
theorem dX2_pass_127 : decode cX2_pass 127 = .ok (.iconst 1, 1) := by decide +kernel
theorem dX2_pass_128 : decode cX2_pass 128 = .ok (.iadd, 1) := by decide +kernel
theorem dX2_pass_129 : decode cX2_pass 129 = .ok (.iastore, 1) := by decide +kernel
theorem dX2_pass_130 : decode cX2_pass 130 = .ok (.aload 4, 2) := by decide +kernel
theorem dX2_pass_132 : decode cX2_pass 132 = .ok (.iconst 0, 1) := by decide +kernel
theorem dX2_pass_133 : decode cX2_pass 133 = .ok (.dup2, 1) := by decide +kernel
theorem dX2_pass_134 : decode cX2_pass 134 = .ok (.iaload, 1) := by decide +kernel
theorem dX2_pass_135 : decode cX2_pass 135 = .ok (.aload_n 2, 1) := by decide +kernel
theorem dX2_pass_136 : decode cX2_pass 136 = .ok (.iload_n 3, 1) := by decide +kernel
theorem dX2_pass_137 : decode cX2_pass 137 = .ok (.baload, 1) := by decide +kernel
theorem dX2_pass_138 : decode cX2_pass 138 = .ok (.ifCond .eq 22, 3) := by decide +kernel
theorem dX2_pass_141 : decode cX2_pass 141 = .ok (.aload_n 0, 1) := by decide +kernel
theorem dX2_pass_142 : decode cX2_pass 142 = .ok (.getfield 15, 3) := by decide +kernel
theorem dX2_pass_145 : decode cX2_pass 145 = .ok (.aload 4, 2) := by decide +kernel
theorem dX2_pass_147 : decode cX2_pass 147 = .ok (.iconst 1, 1) := by decide +kernel
theorem dX2_pass_148 : decode cX2_pass 148 = .ok (.iaload, 1) := by decide +kernel
