theorem dX0_init_0 : decode cX0_init 0 = .ok (.aload_n 0, 1) := by decide +kernel
theorem dX0_init_1 : decode cX0_init 1 = .ok (.invokespecial 3, 3) := by decide +kernel
theorem dX0_init_4 : decode cX0_init 4 = .ok (.aload_n 0, 1) := by decide +kernel
theorem dX0_init_5 : decode cX0_init 5 = .ok (.bipush 20, 2) := by decide +kernel
theorem dX0_init_7 : decode cX0_init 7 = .ok (.putfield 9, 3) := by decide +kernel
theorem dX0_init_10 : decode cX0_init 10 = .ok (.aload_n 0, 1) := by decide +kernel
theorem dX0_init_11 : decode cX0_init 11 = .ok (.iconst 5, 1) := by decide +kernel
theorem dX0_init_12 : decode cX0_init 12 = .ok (.newarray .int, 2) := by decide +kernel
theorem dX0_init_14 : decode cX0_init 14 = .ok (.putfield 15, 3) := by decide +kernel
theorem dX0_init_17 : decode cX0_init 17 = .ok (.aload_n 0, 1) := by decide +kernel
theorem dX0_init_18 : decode cX0_init 18 = .ok (.iconst 5, 1) := by decide +kernel
theorem dX0_init_19 : decode cX0_init 19 = .ok (.newarray .int, 2) := by decide +kernel
theorem dX0_init_21 : decode cX0_init 21 = .ok (.putfield 19, 3) := by decide +kernel
theorem dX0_init_24 : decode cX0_init 24 = .ok (.aload_n 0, 1) := by decide +kernel
theorem dX0_init_25 : decode cX0_init 25 = .ok (.iconst 4, 1) := by decide +kernel
theorem dX0_init_26 : decode cX0_init 26 = .ok (.newarray .int, 2) := by decide +kernel
theorem dX0_init_28 : decode cX0_init 28 = .ok (.putfield 22, 3) := by decide +kernel
theorem dX0_init_31 : decode cX0_init 31 = .ok (.aload_n 0, 1) := by decide +kernel
theorem dX0_init_32 : decode cX0_init 32 = .ok (.iconst 4, 1) := by decide +kernel
theorem dX0_init_33 : decode cX0_init 33 = .ok (.newarray .int, 2) := by decide +kernel
theorem dX0_init_35 : decode cX0_init 35 = .ok (.putfield 25, 3) := by decide +kernel
theorem dX0_init_38 : decode cX0_init 38 = .ok (.aload_n 0, 1) := by decide +kernel
theorem dX0_init_39 : decode cX0_init 39 = .ok (.bipush 30, 2) := by decide +kernel
theorem dX0_init_41 : decode cX0_init 41 = .ok (.newarray .int, 2) := by decide +kernel
theorem dX0_init_43 : decode cX0_init 43 = .ok (.putfield 28, 3) := by decide +kernel
theorem dX0_init_46 : decode cX0_init 46 = .ok (.aload_n 0, 1) := by decide +kernel
theorem dX0_init_47 : decode cX0_init 47 = .ok (.bipush 30, 2) := by decide +kernel
theorem dX0_init_49 : decode cX0_init 49 = .ok (.newarray .int, 2) := by decide +kernel
theorem dX0_init_51 : decode cX0_init 51 = .ok (.putfield 31, 3) := by decide +kernel
theorem dX0_init_54 : decode cX0_init 54 = .ok (.aload_n 0, 1) := by decide +kernel
theorem dX0_init_55 : decode cX0_init 55 = .ok (.bipush 30, 2) := by decide +kernel
theorem dX0_init_57 : decode cX0_init 57 = .ok (.newarray .int, 2) := by decide +kernel
theorem dX0_init_59 : decode cX0_init 59 = .ok (.putfield 34, 3) := by decide +kernel
theorem dX0_init_62 : decode cX0_init 62 = .ok (.aload_n 0, 1) := by decide +kernel
theorem dX0_init_63 : decode cX0_init 63 = .ok (.bipush 30, 2) := by decide +kernel
theorem dX0_init_65 : decode cX0_init 65 = .ok (.newarray .int, 2) := by decide +kernel
theorem dX0_init_67 : decode cX0_init 67 = .ok (.putfield 37, 3) := by decide +kernel
theorem dX0_init_70 : decode cX0_init 70 = .ok (.aload_n 0, 1) := by decide +kernel
theorem dX0_init_71 : decode cX0_init 71 = .ok (.bipush 30, 2) := by decide +kernel
theorem dX0_init_73 : decode cX0_init 73 = .ok (.newarray .boolean, 2) := by decide +kernel
theorem dX0_init_75 : decode cX0_init 75 = .ok (.putfield 40, 3) := by decide +kernel
theorem dX0_init_78 : decode cX0_init 78 = .ok (.aload_n 0, 1) := by decide +kernel
theorem dX0_init_79 : decode cX0_init 79 = .ok (.iconst 5, 1) := by decide +kernel
theorem dX0_init_80 : decode cX0_init 80 = .ok (.newarray .int, 2) := by decide +kernel
theorem dX0_init_82 : decode cX0_init 82 = .ok (.putfield 44, 3) := by decide +kernel
theorem dX0_init_85 : decode cX0_init 85 = .ok (.return_, 1) := by decide +kernel
theorem dX0_copyFrom_0 : decode cX0_copyFrom 0 = .ok (.aload_n 0, 1) := by decide +kernel
theorem dX0_copyFrom_1 : decode cX0_copyFrom 1 = .ok (.aload_n 1, 1) := by decide +kernel
theorem dX0_copyFrom_2 : decode cX0_copyFrom 2 = .ok (.getfield 47, 3) := by decide +kernel
theorem dX0_copyFrom_5 : decode cX0_copyFrom 5 = .ok (.putfield 47, 3) := by decide +kernel
theorem dX0_copyFrom_8 : decode cX0_copyFrom 8 = .ok (.aload_n 0, 1) := by decide +kernel
theorem dX0_copyFrom_9 : decode cX0_copyFrom 9 = .ok (.aload_n 1, 1) := by decide +kernel
theorem dX0_copyFrom_10 : decode cX0_copyFrom 10 = .ok (.getfield 9, 3) := by decide +kernel
theorem dX0_copyFrom_13 : decode cX0_copyFrom 13 = .ok (.putfield 9, 3) := by decide +kernel
theorem dX0_copyFrom_16 : decode cX0_copyFrom 16 = .ok (.aload_n 0, 1) := by decide +kernel
theorem dX0_copyFrom_17 : decode cX0_copyFrom 17 = .ok (.aload_n 1, 1) := by decide +kernel
theorem dX0_copyFrom_18 : decode cX0_copyFrom 18 = .ok (.getfield 50, 3) := by decide +kernel
theorem dX0_copyFrom_21 : decode cX0_copyFrom 21 = .ok (.putfield 50, 3) := by decide +kernel
theorem dX0_copyFrom_24 : decode cX0_copyFrom 24 = .ok (.aload_n 0, 1) := by decide +kernel
theorem dX0_copyFrom_25 : decode cX0_copyFrom 25 = .ok (.aload_n 1, 1) := by decide +kernel
theorem dX0_copyFrom_26 : decode cX0_copyFrom 26 = .ok (.getfield 53, 3) := by decide +kernel
theorem dX0_copyFrom_29 : decode cX0_copyFrom 29 = .ok (.putfield 53, 3) := by decide +kernel
theorem dX0_copyFrom_32 : decode cX0_copyFrom 32 = .ok (.aload_n 0, 1) := by decide +kernel
theorem dX0_copyFrom_33 : decode cX0_copyFrom 33 = .ok (.aload_n 1, 1) := by decide +kernel
theorem dX0_copyFrom_34 : decode cX0_copyFrom 34 = .ok (.getfield 56, 3) := by decide +kernel
theorem dX0_copyFrom_37 : decode cX0_copyFrom 37 = .ok (.putfield 56, 3) := by decide +kernel
theorem dX0_copyFrom_40 : decode cX0_copyFrom 40 = .ok (.aload_n 0, 1) := by decide +kernel
theorem dX0_copyFrom_41 : decode cX0_copyFrom 41 = .ok (.aload_n 1, 1) := by decide +kernel
theorem dX0_copyFrom_42 : decode cX0_copyFrom 42 = .ok (.getfield 59, 3) := by decide +kernel
theorem dX0_copyFrom_45 : decode cX0_copyFrom 45 = .ok (.putfield 59, 3) := by decide +kernel
theorem dX0_copyFrom_48 : decode cX0_copyFrom 48 = .ok (.aload_n 1, 1) := by decide +kernel
theorem dX0_copyFrom_49 : decode cX0_copyFrom 49 = .ok (.getfield 15, 3) := by decide +kernel
theorem dX0_copyFrom_52 : decode cX0_copyFrom 52 = .ok (.iconst 0, 1) := by decide +kernel
theorem dX0_copyFrom_53 : decode cX0_copyFrom 53 = .ok (.aload_n 0, 1) := by decide +kernel
theorem dX0_copyFrom_54 : decode cX0_copyFrom 54 = .ok (.getfield 15, 3) := by decide +kernel
theorem dX0_copyFrom_57 : decode cX0_copyFrom 57 = .ok (.iconst 0, 1) := by decide +kernel
theorem dX0_copyFrom_58 : decode cX0_copyFrom 58 = .ok (.iconst 5, 1) := by decide +kernel
theorem dX0_copyFrom_59 : decode cX0_copyFrom 59 = .ok (.invokestatic 62, 3) := by decide +kernel
theorem dX0_copyFrom_62 : decode cX0_copyFrom 62 = .ok (.aload_n 1, 1) := by decide +kernel
theorem dX0_copyFrom_63 : decode cX0_copyFrom 63 = .ok (.getfield 19, 3) := by decide +kernel
theorem dX0_copyFrom_66 : decode cX0_copyFrom 66 = .ok (.iconst 0, 1) := by decide +kernel
theorem dX0_copyFrom_67 : decode cX0_copyFrom 67 = .ok (.aload_n 0, 1) := by decide +kernel
theorem dX0_copyFrom_68 : decode cX0_copyFrom 68 = .ok (.getfield 19, 3) := by decide +kernel
theorem dX0_copyFrom_71 : decode cX0_copyFrom 71 = .ok (.iconst 0, 1) := by decide +kernel
theorem dX0_copyFrom_72 : decode cX0_copyFrom 72 = .ok (.iconst 5, 1) := by decide +kernel
theorem dX0_copyFrom_73 : decode cX0_copyFrom 73 = .ok (.invokestatic 62, 3) := by decide +kernel
theorem dX0_copyFrom_76 : decode cX0_copyFrom 76 = .ok (.aload_n 1, 1) := by decide +kernel
theorem dX0_copyFrom_77 : decode cX0_copyFrom 77 = .ok (.getfield 22, 3) := by decide +kernel
theorem dX0_copyFrom_80 : decode cX0_copyFrom 80 = .ok (.iconst 0, 1) := by decide +kernel
theorem dX0_copyFrom_81 : decode cX0_copyFrom 81 = .ok (.aload_n 0, 1) := by decide +kernel
theorem dX0_copyFrom_82 : decode cX0_copyFrom 82 = .ok (.getfield 22, 3) := by decide +kernel
theorem dX0_copyFrom_85 : decode cX0_copyFrom 85 = .ok (.iconst 0, 1) := by decide +kernel
theorem dX0_copyFrom_86 : decode cX0_copyFrom 86 = .ok (.iconst 4, 1) := by decide +kernel
theorem dX0_copyFrom_87 : decode cX0_copyFrom 87 = .ok (.invokestatic 62, 3) := by decide +kernel
theorem dX0_copyFrom_90 : decode cX0_copyFrom 90 = .ok (.aload_n 1, 1) := by decide +kernel
theorem dX0_copyFrom_91 : decode cX0_copyFrom 91 = .ok (.getfield 25, 3) := by decide +kernel
theorem dX0_copyFrom_94 : decode cX0_copyFrom 94 = .ok (.iconst 0, 1) := by decide +kernel
theorem dX0_copyFrom_95 : decode cX0_copyFrom 95 = .ok (.aload_n 0, 1) := by decide +kernel
theorem dX0_copyFrom_96 : decode cX0_copyFrom 96 = .ok (.getfield 25, 3) := by decide +kernel
theorem dX0_copyFrom_99 : decode cX0_copyFrom 99 = .ok (.iconst 0, 1) := by decide +kernel
theorem dX0_copyFrom_100 : decode cX0_copyFrom 100 = .ok (.iconst 4, 1) := by decide +kernel
theorem dX0_copyFrom_101 : decode cX0_copyFrom 101 = .ok (.invokestatic 62, 3) := by decide +kernel
theorem dX0_copyFrom_104 : decode cX0_copyFrom 104 = .ok (.aload_n 1, 1) := by decide +kernel
theorem dX0_copyFrom_105 : decode cX0_copyFrom 105 = .ok (.getfield 28, 3) := by decide +kernel
theorem dX0_copyFrom_108 : decode cX0_copyFrom 108 = .ok (.iconst 0, 1) := by decide +kernel
theorem dX0_copyFrom_109 : decode cX0_copyFrom 109 = .ok (.aload_n 0, 1) := by decide +kernel
theorem dX0_copyFrom_110 : decode cX0_copyFrom 110 = .ok (.getfield 28, 3) := by decide +kernel
theorem dX0_copyFrom_113 : decode cX0_copyFrom 113 = .ok (.iconst 0, 1) := by decide +kernel
theorem dX0_copyFrom_114 : decode cX0_copyFrom 114 = .ok (.bipush 30, 2) := by decide +kernel
theorem dX0_copyFrom_116 : decode cX0_copyFrom 116 = .ok (.invokestatic 62, 3) := by decide +kernel
theorem dX0_copyFrom_119 : decode cX0_copyFrom 119 = .ok (.aload_n 1, 1) := by decide +kernel
theorem dX0_copyFrom_120 : decode cX0_copyFrom 120 = .ok (.getfield 31, 3) := by decide +kernel
theorem dX0_copyFrom_123 : decode cX0_copyFrom 123 = .ok (.iconst 0, 1) := by decide +kernel
theorem dX0_copyFrom_124 : decode cX0_copyFrom 124 = .ok (.aload_n 0, 1) := by decide +kernel
theorem dX0_copyFrom_125 : decode cX0_copyFrom 125 = .ok (.getfield 31, 3) := by decide +kernel
theorem dX0_copyFrom_128 : decode cX0_copyFrom 128 = .ok (.iconst 0, 1) := by decide +kernel
theorem dX0_copyFrom_129 : decode cX0_copyFrom 129 = .ok (.bipush 30, 2) := by decide +kernel
theorem dX0_copyFrom_131 : decode cX0_copyFrom 131 = .ok (.invokestatic 62, 3) := by decide +kernel
theorem dX0_copyFrom_134 : decode cX0_copyFrom 134 = .ok (.aload_n 1, 1) := by decide +kernel
theorem dX0_copyFrom_135 : decode cX0_copyFrom 135 = .ok (.getfield 34, 3) := by decide +kernel
theorem dX0_copyFrom_138 : decode cX0_copyFrom 138 = .ok (.iconst 0, 1) := by decide +kernel
theorem dX0_copyFrom_139 : decode cX0_copyFrom 139 = .ok (.aload_n 0, 1) := by decide +kernel
theorem dX0_copyFrom_140 : decode cX0_copyFrom 140 = .ok (.getfield 34, 3) := by decide +kernel
theorem dX0_copyFrom_143 : decode cX0_copyFrom 143 = .ok (.iconst 0, 1) := by decide +kernel
theorem dX0_copyFrom_144 : decode cX0_copyFrom 144 = .ok (.bipush 30, 2) := by decide +kernel
theorem dX0_copyFrom_146 : decode cX0_copyFrom 146 = .ok (.invokestatic 62, 3) := by decide +kernel
theorem dX0_copyFrom_149 : decode cX0_copyFrom 149 = .ok (.aload_n 1, 1) := by decide +kernel
theorem dX0_copyFrom_150 : decode cX0_copyFrom 150 = .ok (.getfield 37, 3) := by decide +kernel
theorem dX0_copyFrom_153 : decode cX0_copyFrom 153 = .ok (.iconst 0, 1) := by decide +kernel
theorem dX0_copyFrom_154 : decode cX0_copyFrom 154 = .ok (.aload_n 0, 1) := by decide +kernel
theorem dX0_copyFrom_155 : decode cX0_copyFrom 155 = .ok (.getfield 37, 3) := by decide +kernel
theorem dX0_copyFrom_158 : decode cX0_copyFrom 158 = .ok (.iconst 0, 1) := by decide +kernel
theorem dX0_copyFrom_159 : decode cX0_copyFrom 159 = .ok (.bipush 30, 2) := by decide +kernel
theorem dX0_copyFrom_161 : decode cX0_copyFrom 161 = .ok (.invokestatic 62, 3) := by decide +kernel
theorem dX0_copyFrom_164 : decode cX0_copyFrom 164 = .ok (.return_, 1) := by decide +kernel
theorem dX0_openWard_0 : decode cX0_openWard 0 = .ok (.aload_n 0, 1) := by decide +kernel
theorem dX0_openWard_1 : decode cX0_openWard 1 = .ok (.getfield 53, 3) := by decide +kernel
theorem dX0_openWard_4 : decode cX0_openWard 4 = .ok (.istore_n 2, 1) := by decide +kernel
theorem dX0_openWard_5 : decode cX0_openWard 5 = .ok (.aload_n 0, 1) := by decide +kernel
theorem dX0_openWard_6 : decode cX0_openWard 6 = .ok (.getfield 15, 3) := by decide +kernel
theorem dX0_openWard_9 : decode cX0_openWard 9 = .ok (.iload_n 2, 1) := by decide +kernel
theorem dX0_openWard_10 : decode cX0_openWard 10 = .ok (.iload_n 1, 1) := by decide +kernel
theorem dX0_openWard_11 : decode cX0_openWard 11 = .ok (.iastore, 1) := by decide +kernel
theorem dX0_openWard_12 : decode cX0_openWard 12 = .ok (.aload_n 0, 1) := by decide +kernel
theorem dX0_openWard_13 : decode cX0_openWard 13 = .ok (.dup, 1) := by decide +kernel
theorem dX0_openWard_14 : decode cX0_openWard 14 = .ok (.getfield 53, 3) := by decide +kernel
theorem dX0_openWard_17 : decode cX0_openWard 17 = .ok (.iconst 1, 1) := by decide +kernel
theorem dX0_openWard_18 : decode cX0_openWard 18 = .ok (.iadd, 1) := by decide +kernel
theorem dX0_openWard_19 : decode cX0_openWard 19 = .ok (.putfield 53, 3) := by decide +kernel
theorem dX0_openWard_22 : decode cX0_openWard 22 = .ok (.iload_n 2, 1) := by decide +kernel
theorem dX0_openWard_23 : decode cX0_openWard 23 = .ok (.ireturn, 1) := by decide +kernel
theorem dX0_openBarge_0 : decode cX0_openBarge 0 = .ok (.aload_n 0, 1) := by decide +kernel
theorem dX0_openBarge_1 : decode cX0_openBarge 1 = .ok (.getfield 56, 3) := by decide +kernel
theorem dX0_openBarge_4 : decode cX0_openBarge 4 = .ok (.istore_n 2, 1) := by decide +kernel
theorem dX0_openBarge_5 : decode cX0_openBarge 5 = .ok (.aload_n 0, 1) := by decide +kernel
theorem dX0_openBarge_6 : decode cX0_openBarge 6 = .ok (.getfield 22, 3) := by decide +kernel
theorem dX0_openBarge_9 : decode cX0_openBarge 9 = .ok (.iload_n 2, 1) := by decide +kernel
theorem dX0_openBarge_10 : decode cX0_openBarge 10 = .ok (.iload_n 1, 1) := by decide +kernel
theorem dX0_openBarge_11 : decode cX0_openBarge 11 = .ok (.iastore, 1) := by decide +kernel
theorem dX0_openBarge_12 : decode cX0_openBarge 12 = .ok (.aload_n 0, 1) := by decide +kernel
theorem dX0_openBarge_13 : decode cX0_openBarge 13 = .ok (.getfield 25, 3) := by decide +kernel
theorem dX0_openBarge_16 : decode cX0_openBarge 16 = .ok (.iload_n 2, 1) := by decide +kernel
theorem dX0_openBarge_17 : decode cX0_openBarge 17 = .ok (.iload_n 1, 1) := by decide +kernel
theorem dX0_openBarge_18 : decode cX0_openBarge 18 = .ok (.iastore, 1) := by decide +kernel
theorem dX0_openBarge_19 : decode cX0_openBarge 19 = .ok (.aload_n 0, 1) := by decide +kernel
theorem dX0_openBarge_20 : decode cX0_openBarge 20 = .ok (.dup, 1) := by decide +kernel
theorem dX0_openBarge_21 : decode cX0_openBarge 21 = .ok (.getfield 56, 3) := by decide +kernel
theorem dX0_openBarge_24 : decode cX0_openBarge 24 = .ok (.iconst 1, 1) := by decide +kernel
theorem dX0_openBarge_25 : decode cX0_openBarge 25 = .ok (.iadd, 1) := by decide +kernel
theorem dX0_openBarge_26 : decode cX0_openBarge 26 = .ok (.putfield 56, 3) := by decide +kernel
theorem dX0_openBarge_29 : decode cX0_openBarge 29 = .ok (.iload_n 2, 1) := by decide +kernel
theorem dX0_openBarge_30 : decode cX0_openBarge 30 = .ok (.ireturn, 1) := by decide +kernel
set_option maxRecDepth 20000 in
theorem ggX0_takeAboard_X0_move : GoodIn wsX0_takeAboard wsX0_move := goodIn_r _ [9, 10, 11, 12, 13, 14, 15, 16, 17, 18, 19, 20, 21, 22, 23, 24, 25, 26, 27] (by decide +kernel) (by decide +kernel)
set_option maxRecDepth 20000 in
theorem gX0_takeAboard_X0_move : GoodIn wsX0_takeAboard (wsV RX0 68 RX0 yX0_move wsX0_move) := goodIn_app (goodIn_of _ (by decide +kernel)) ggX0_takeAboard_X0_move
theorem dX0_takeAboard_0 : decode cX0_takeAboard 0 = .ok (.aload_n 0, 1) := by decide +kernel
theorem dX0_takeAboard_1 : decode cX0_takeAboard 1 = .ok (.getfield 59, 3) := by decide +kernel
theorem dX0_takeAboard_4 : decode cX0_takeAboard 4 = .ok (.istore_n 3, 1) := by decide +kernel
theorem dX0_takeAboard_5 : decode cX0_takeAboard 5 = .ok (.aload_n 0, 1) := by decide +kernel
theorem dX0_takeAboard_6 : decode cX0_takeAboard 6 = .ok (.getfield 28, 3) := by decide +kernel
theorem dX0_takeAboard_9 : decode cX0_takeAboard 9 = .ok (.iload_n 3, 1) := by decide +kernel
theorem dX0_takeAboard_10 : decode cX0_takeAboard 10 = .ok (.iload_n 2, 1) := by decide +kernel
theorem dX0_takeAboard_11 : decode cX0_takeAboard 11 = .ok (.iastore, 1) := by decide +kernel
theorem dX0_takeAboard_12 : decode cX0_takeAboard 12 = .ok (.aload_n 0, 1) := by decide +kernel
theorem dX0_takeAboard_13 : decode cX0_takeAboard 13 = .ok (.iload_n 3, 1) := by decide +kernel
theorem dX0_takeAboard_14 : decode cX0_takeAboard 14 = .ok (.iconst 0, 1) := by decide +kernel
theorem dX0_takeAboard_15 : decode cX0_takeAboard 15 = .ok (.iload_n 1, 1) := by decide +kernel
theorem dX0_takeAboard_16 : decode cX0_takeAboard 16 = .ok (.invokevirtual 68, 3) := by decide +kernel
theorem dX0_takeAboard_19 : decode cX0_takeAboard 19 = .ok (.aload_n 0, 1) := by decide +kernel
theorem dX0_takeAboard_20 : decode cX0_takeAboard 20 = .ok (.dup, 1) := by decide +kernel
theorem dX0_takeAboard_21 : decode cX0_takeAboard 21 = .ok (.getfield 59, 3) := by decide +kernel
theorem dX0_takeAboard_24 : decode cX0_takeAboard 24 = .ok (.iconst 1, 1) := by decide +kernel
theorem dX0_takeAboard_25 : decode cX0_takeAboard 25 = .ok (.iadd, 1) := by decide +kernel
theorem dX0_takeAboard_26 : decode cX0_takeAboard 26 = .ok (.putfield 59, 3) := by decide +kernel
theorem dX0_takeAboard_29 : decode cX0_takeAboard 29 = .ok (.aload_n 0, 1) := by decide +kernel
theorem dX0_takeAboard_30 : decode cX0_takeAboard 30 = .ok (.getfield 25, 3) := by decide +kernel
theorem dX0_takeAboard_33 : decode cX0_takeAboard 33 = .ok (.iload_n 1, 1) := by decide +kernel
theorem dX0_takeAboard_34 : decode cX0_takeAboard 34 = .ok (.iaload, 1) := by decide +kernel
theorem dX0_takeAboard_35 : decode cX0_takeAboard 35 = .ok (.ifCond .ne 15, 3) := by decide +kernel
theorem dX0_takeAboard_38 : decode cX0_takeAboard 38 = .ok (.aload_n 0, 1) := by decide +kernel
theorem dX0_takeAboard_39 : decode cX0_takeAboard 39 = .ok (.getfield 25, 3) := by decide +kernel
theorem dX0_takeAboard_42 : decode cX0_takeAboard 42 = .ok (.iload_n 1, 1) := by decide +kernel
theorem dX0_takeAboard_43 : decode cX0_takeAboard 43 = .ok (.aload_n 0, 1) := by decide +kernel
theorem dX0_takeAboard_44 : decode cX0_takeAboard 44 = .ok (.getfield 22, 3) := by decide +kernel
theorem dX0_takeAboard_47 : decode cX0_takeAboard 47 = .ok (.iload_n 1, 1) := by decide +kernel
theorem dX0_takeAboard_48 : decode cX0_takeAboard 48 = .ok (.iaload, 1) := by decide +kernel
theorem dX0_takeAboard_49 : decode cX0_takeAboard 49 = .ok (.iastore, 1) := by decide +kernel
theorem dX0_takeAboard_50 : decode cX0_takeAboard 50 = .ok (.iload_n 3, 1) := by decide +kernel
theorem dX0_takeAboard_51 : decode cX0_takeAboard 51 = .ok (.ireturn, 1) := by decide +kernel
theorem dX0_move_0 : decode cX0_move 0 = .ok (.aload_n 0, 1) := by decide +kernel
theorem dX0_move_1 : decode cX0_move 1 = .ok (.getfield 31, 3) := by decide +kernel
theorem dX0_move_4 : decode cX0_move 4 = .ok (.iload_n 1, 1) := by decide +kernel
theorem dX0_move_5 : decode cX0_move 5 = .ok (.iload_n 2, 1) := by decide +kernel
theorem dX0_move_6 : decode cX0_move 6 = .ok (.iastore, 1) := by decide +kernel
theorem dX0_move_7 : decode cX0_move 7 = .ok (.aload_n 0, 1) := by decide +kernel
theorem dX0_move_8 : decode cX0_move 8 = .ok (.getfield 34, 3) := by decide +kernel
theorem dX0_move_11 : decode cX0_move 11 = .ok (.iload_n 1, 1) := by decide +kernel
theorem dX0_move_12 : decode cX0_move 12 = .ok (.iload_n 3, 1) := by decide +kernel
theorem dX0_move_13 : decode cX0_move 13 = .ok (.iastore, 1) := by decide +kernel
theorem dX0_move_14 : decode cX0_move 14 = .ok (.return_, 1) := by decide +kernel
theorem dX0_isAt_0 : decode cX0_isAt 0 = .ok (.aload_n 0, 1) := by decide +kernel
theorem dX0_isAt_1 : decode cX0_isAt 1 = .ok (.getfield 31, 3) := by decide +kernel
theorem dX0_isAt_4 : decode cX0_isAt 4 = .ok (.iload_n 1, 1) := by decide +kernel
theorem dX0_isAt_5 : decode cX0_isAt 5 = .ok (.iaload, 1) := by decide +kernel
theorem dX0_isAt_6 : decode cX0_isAt 6 = .ok (.iload_n 2, 1) := by decide +kernel
theorem dX0_isAt_7 : decode cX0_isAt 7 = .ok (.if_icmp .ne 17, 3) := by decide +kernel
theorem dX0_isAt_10 : decode cX0_isAt 10 = .ok (.aload_n 0, 1) := by decide +kernel
theorem dX0_isAt_11 : decode cX0_isAt 11 = .ok (.getfield 34, 3) := by decide +kernel
theorem dX0_isAt_14 : decode cX0_isAt 14 = .ok (.iload_n 1, 1) := by decide +kernel
theorem dX0_isAt_15 : decode cX0_isAt 15 = .ok (.iaload, 1) := by decide +kernel
theorem dX0_isAt_16 : decode cX0_isAt 16 = .ok (.iload_n 3, 1) := by decide +kernel
theorem dX0_isAt_17 : decode cX0_isAt 17 = .ok (.if_icmp .ne 7, 3) := by decide +kernel
theorem dX0_isAt_20 : decode cX0_isAt 20 = .ok (.iconst 1, 1) := by decide +kernel
theorem dX0_isAt_21 : decode cX0_isAt 21 = .ok (.goto 4, 3) := by decide +kernel
theorem dX0_isAt_24 : decode cX0_isAt 24 = .ok (.iconst 0, 1) := by decide +kernel
theorem dX0_isAt_25 : decode cX0_isAt 25 = .ok (.ireturn, 1) := by decide +kernel
theorem dX0_numberOf_0 : decode cX0_numberOf 0 = .ok (.aload_n 0, 1) := by decide +kernel
theorem dX0_numberOf_1 : decode cX0_numberOf 1 = .ok (.getfield 31, 3) := by decide +kernel
theorem dX0_numberOf_4 : decode cX0_numberOf 4 = .ok (.iload_n 1, 1) := by decide +kernel
theorem dX0_numberOf_5 : decode cX0_numberOf 5 = .ok (.iaload, 1) := by decide +kernel
theorem dX0_numberOf_6 : decode cX0_numberOf 6 = .ok (.iload_n 2, 1) := by decide +kernel
theorem dX0_numberOf_7 : decode cX0_numberOf 7 = .ok (.if_icmp .ne 12, 3) := by decide +kernel
theorem dX0_numberOf_10 : decode cX0_numberOf 10 = .ok (.aload_n 0, 1) := by decide +kernel
theorem dX0_numberOf_11 : decode cX0_numberOf 11 = .ok (.getfield 34, 3) := by decide +kernel
theorem dX0_numberOf_14 : decode cX0_numberOf 14 = .ok (.iload_n 1, 1) := by decide +kernel
theorem dX0_numberOf_15 : decode cX0_numberOf 15 = .ok (.iaload, 1) := by decide +kernel
theorem dX0_numberOf_16 : decode cX0_numberOf 16 = .ok (.goto 4, 3) := by decide +kernel
theorem dX0_numberOf_19 : decode cX0_numberOf 19 = .ok (.iconst (-1), 1) := by decide +kernel
theorem dX0_numberOf_20 : decode cX0_numberOf 20 = .ok (.ireturn, 1) := by decide +kernel
theorem dX0_count_0 : decode cX0_count 0 = .ok (.iconst 0, 1) := by decide +kernel
theorem dX0_count_1 : decode cX0_count 1 = .ok (.istore_n 2, 1) := by decide +kernel
theorem dX0_count_2 : decode cX0_count 2 = .ok (.iconst 0, 1) := by decide +kernel
theorem dX0_count_3 : decode cX0_count 3 = .ok (.istore_n 3, 1) := by decide +kernel
theorem dX0_count_4 : decode cX0_count 4 = .ok (.iload_n 3, 1) := by decide +kernel
theorem dX0_count_5 : decode cX0_count 5 = .ok (.aload_n 0, 1) := by decide +kernel
theorem dX0_count_6 : decode cX0_count 6 = .ok (.getfield 59, 3) := by decide +kernel
theorem dX0_count_9 : decode cX0_count 9 = .ok (.if_icmp .ge 22, 3) := by decide +kernel
theorem dX0_count_12 : decode cX0_count 12 = .ok (.aload_n 0, 1) := by decide +kernel
theorem dX0_count_13 : decode cX0_count 13 = .ok (.getfield 31, 3) := by decide +kernel
theorem dX0_count_16 : decode cX0_count 16 = .ok (.iload_n 3, 1) := by decide +kernel
theorem dX0_count_17 : decode cX0_count 17 = .ok (.iaload, 1) := by decide +kernel
theorem dX0_count_18 : decode cX0_count 18 = .ok (.iload_n 1, 1) := by decide +kernel
theorem dX0_count_19 : decode cX0_count 19 = .ok (.if_icmp .ne 6, 3) := by decide +kernel
theorem dX0_count_22 : decode cX0_count 22 = .ok (.iinc 2 1, 3) := by decide +kernel
theorem dX0_count_25 : decode cX0_count 25 = .ok (.iinc 3 1, 3) := by decide +kernel
theorem dX0_count_28 : decode cX0_count 28 = .ok (.goto (-24), 3) := by decide +kernel
theorem dX0_count_31 : decode cX0_count 31 = .ok (.iload_n 2, 1) := by decide +kernel
theorem dX0_count_32 : decode cX0_count 32 = .ok (.ireturn, 1) := by decide +kernel
set_option maxRecDepth 20000 in
theorem ggX0_countAt_X0_isAt : GoodIn wsX0_countAt wsX0_isAt := goodIn_r _ [6, 7, 8, 9, 10, 11, 12, 13, 14, 15, 16, 17, 18, 19, 20, 21, 22, 23, 24] (by decide +kernel) (by decide +kernel)
set_option maxRecDepth 20000 in
theorem gX0_countAt_X0_isAt : GoodIn wsX0_countAt (wsV RX0 72 RX0 yX0_isAt wsX0_isAt) := goodIn_app (goodIn_of _ (by decide +kernel)) ggX0_countAt_X0_isAt
theorem dX0_countAt_0 : decode cX0_countAt 0 = .ok (.iconst 0, 1) := by decide +kernel
theorem dX0_countAt_1 : decode cX0_countAt 1 = .ok (.istore_n 3, 1) := by decide +kernel
theorem dX0_countAt_2 : decode cX0_countAt 2 = .ok (.iconst 0, 1) := by decide +kernel
theorem dX0_countAt_3 : decode cX0_countAt 3 = .ok (.istore 4, 2) := by decide +kernel
theorem dX0_countAt_5 : decode cX0_countAt 5 = .ok (.iload 4, 2) := by decide +kernel
theorem dX0_countAt_7 : decode cX0_countAt 7 = .ok (.aload_n 0, 1) := by decide +kernel
theorem dX0_countAt_8 : decode cX0_countAt 8 = .ok (.getfield 59, 3) := by decide +kernel
theorem dX0_countAt_11 : decode cX0_countAt 11 = .ok (.if_icmp .ge 23, 3) := by decide +kernel
theorem dX0_countAt_14 : decode cX0_countAt 14 = .ok (.aload_n 0, 1) := by decide +kernel
theorem dX0_countAt_15 : decode cX0_countAt 15 = .ok (.iload 4, 2) := by decide +kernel
theorem dX0_countAt_17 : decode cX0_countAt 17 = .ok (.iload_n 1, 1) := by decide +kernel
theorem dX0_countAt_18 : decode cX0_countAt 18 = .ok (.iload_n 2, 1) := by decide +kernel
theorem dX0_countAt_19 : decode cX0_countAt 19 = .ok (.invokevirtual 72, 3) := by decide +kernel
theorem dX0_countAt_22 : decode cX0_countAt 22 = .ok (.ifCond .eq 6, 3) := by decide +kernel
theorem dX0_countAt_25 : decode cX0_countAt 25 = .ok (.iinc 3 1, 3) := by decide +kernel
theorem dX0_countAt_28 : decode cX0_countAt 28 = .ok (.iinc 4 1, 3) := by decide +kernel
theorem dX0_countAt_31 : decode cX0_countAt 31 = .ok (.goto (-26), 3) := by decide +kernel
theorem dX0_countAt_34 : decode cX0_countAt 34 = .ok (.iload_n 3, 1) := by decide +kernel
theorem dX0_countAt_35 : decode cX0_countAt 35 = .ok (.ireturn, 1) := by decide +kernel
set_option maxRecDepth 20000 in
theorem ggX0_freeIn_X0_countAt : GoodIn wsX0_freeIn wsX0_countAt := goodIn_r _ [6, 7, 8, 9, 10, 5, 11, 12, 13, 14, 15, 16, 17, 18, 19, 20, 21, 22, 23, 24, 25, 26, 27, 28, 29] (by decide +kernel) (by decide +kernel)
set_option maxRecDepth 20000 in
theorem gX0_freeIn_X0_countAt : GoodIn wsX0_freeIn (wsV RX0 76 RX0 yX0_countAt wsX0_countAt) := goodIn_app (goodIn_of _ (by decide +kernel)) ggX0_freeIn_X0_countAt
theorem dX0_freeIn_0 : decode cX0_freeIn 0 = .ok (.aload_n 0, 1) := by decide +kernel
theorem dX0_freeIn_1 : decode cX0_freeIn 1 = .ok (.getfield 15, 3) := by decide +kernel
theorem dX0_freeIn_4 : decode cX0_freeIn 4 = .ok (.iload_n 1, 1) := by decide +kernel
theorem dX0_freeIn_5 : decode cX0_freeIn 5 = .ok (.iaload, 1) := by decide +kernel
theorem dX0_freeIn_6 : decode cX0_freeIn 6 = .ok (.aload_n 0, 1) := by decide +kernel
theorem dX0_freeIn_7 : decode cX0_freeIn 7 = .ok (.iconst 1, 1) := by decide +kernel
theorem dX0_freeIn_8 : decode cX0_freeIn 8 = .ok (.iload_n 1, 1) := by decide +kernel
theorem dX0_freeIn_9 : decode cX0_freeIn 9 = .ok (.invokevirtual 76, 3) := by decide +kernel
theorem dX0_freeIn_12 : decode cX0_freeIn 12 = .ok (.isub, 1) := by decide +kernel
theorem dX0_freeIn_13 : decode cX0_freeIn 13 = .ok (.ireturn, 1) := by decide +kernel
set_option maxRecDepth 20000 in
theorem ggX0_feversInWard_X0_isAt : GoodIn wsX0_feversInWard wsX0_isAt := goodIn_r _ [7, 8, 9, 10, 11, 12, 13, 14, 15, 16, 17, 18, 19, 20, 21, 22, 23, 24, 25] (by decide +kernel) (by decide +kernel)
set_option maxRecDepth 20000 in
theorem gX0_feversInWard_X0_isAt : GoodIn wsX0_feversInWard (wsV RX0 72 RX0 yX0_isAt wsX0_isAt) := goodIn_app (goodIn_of _ (by decide +kernel)) ggX0_feversInWard_X0_isAt
theorem dX0_feversInWard_0 : decode cX0_feversInWard 0 = .ok (.iconst 0, 1) := by decide +kernel
theorem dX0_feversInWard_1 : decode cX0_feversInWard 1 = .ok (.istore_n 2, 1) := by decide +kernel
theorem dX0_feversInWard_2 : decode cX0_feversInWard 2 = .ok (.iconst 0, 1) := by decide +kernel
theorem dX0_feversInWard_3 : decode cX0_feversInWard 3 = .ok (.istore_n 3, 1) := by decide +kernel
theorem dX0_feversInWard_4 : decode cX0_feversInWard 4 = .ok (.iload_n 3, 1) := by decide +kernel
theorem dX0_feversInWard_5 : decode cX0_feversInWard 5 = .ok (.aload_n 0, 1) := by decide +kernel
theorem dX0_feversInWard_6 : decode cX0_feversInWard 6 = .ok (.getfield 59, 3) := by decide +kernel
theorem dX0_feversInWard_9 : decode cX0_feversInWard 9 = .ok (.if_icmp .ge 28, 3) := by decide +kernel
theorem dX0_feversInWard_12 : decode cX0_feversInWard 12 = .ok (.aload_n 0, 1) := by decide +kernel
theorem dX0_feversInWard_13 : decode cX0_feversInWard 13 = .ok (.iload_n 3, 1) := by decide +kernel
theorem dX0_feversInWard_14 : decode cX0_feversInWard 14 = .ok (.iconst 1, 1) := by decide +kernel
theorem dX0_feversInWard_15 : decode cX0_feversInWard 15 = .ok (.iload_n 1, 1) := by decide +kernel
theorem dX0_feversInWard_16 : decode cX0_feversInWard 16 = .ok (.invokevirtual 72, 3) := by decide +kernel
theorem dX0_feversInWard_19 : decode cX0_feversInWard 19 = .ok (.ifCond .eq 12, 3) := by decide +kernel
theorem dX0_feversInWard_22 : decode cX0_feversInWard 22 = .ok (.iload_n 2, 1) := by decide +kernel
theorem dX0_feversInWard_23 : decode cX0_feversInWard 23 = .ok (.aload_n 0, 1) := by decide +kernel
theorem dX0_feversInWard_24 : decode cX0_feversInWard 24 = .ok (.getfield 28, 3) := by decide +kernel
theorem dX0_feversInWard_27 : decode cX0_feversInWard 27 = .ok (.iload_n 3, 1) := by decide +kernel
theorem dX0_feversInWard_28 : decode cX0_feversInWard 28 = .ok (.iaload, 1) := by decide +kernel
theorem dX0_feversInWard_29 : decode cX0_feversInWard 29 = .ok (.iadd, 1) := by decide +kernel
theorem dX0_feversInWard_30 : decode cX0_feversInWard 30 = .ok (.istore_n 2, 1) := by decide +kernel
theorem dX0_feversInWard_31 : decode cX0_feversInWard 31 = .ok (.iinc 3 1, 3) := by decide +kernel
theorem dX0_feversInWard_34 : decode cX0_feversInWard 34 = .ok (.goto (-30), 3) := by decide +kernel
theorem dX0_feversInWard_37 : decode cX0_feversInWard 37 = .ok (.iload_n 2, 1) := by decide +kernel
theorem dX0_feversInWard_38 : decode cX0_feversInWard 38 = .ok (.ireturn, 1) := by decide +kernel
set_option maxRecDepth 20000 in
theorem ggX0_highestFeverAboard_X0_isAt : GoodIn wsX0_highestFeverAboard wsX0_isAt := goodIn_r _ [11, 12, 13, 14, 15, 16, 17, 18, 19, 20, 21, 22, 23, 24, 25, 26, 27, 28, 29] (by decide +kernel) (by decide +kernel)
set_option maxRecDepth 20000 in
theorem gX0_highestFeverAboard_X0_isAt : GoodIn wsX0_highestFeverAboard (wsV RX0 72 RX0 yX0_isAt wsX0_isAt) := goodIn_app (goodIn_of _ (by decide +kernel)) ggX0_highestFeverAboard_X0_isAt
theorem dX0_highestFeverAboard_0 : decode cX0_highestFeverAboard 0 = .ok (.iconst 0, 1) := by decide +kernel
theorem dX0_highestFeverAboard_1 : decode cX0_highestFeverAboard 1 = .ok (.istore_n 2, 1) := by decide +kernel
theorem dX0_highestFeverAboard_2 : decode cX0_highestFeverAboard 2 = .ok (.iconst 0, 1) := by decide +kernel
theorem dX0_highestFeverAboard_3 : decode cX0_highestFeverAboard 3 = .ok (.istore_n 3, 1) := by decide +kernel
theorem dX0_highestFeverAboard_4 : decode cX0_highestFeverAboard 4 = .ok (.iload_n 3, 1) := by decide +kernel
theorem dX0_highestFeverAboard_5 : decode cX0_highestFeverAboard 5 = .ok (.aload_n 0, 1) := by decide +kernel
theorem dX0_highestFeverAboard_6 : decode cX0_highestFeverAboard 6 = .ok (.getfield 59, 3) := by decide +kernel
theorem dX0_highestFeverAboard_9 : decode cX0_highestFeverAboard 9 = .ok (.if_icmp .ge 30, 3) := by decide +kernel
theorem dX0_highestFeverAboard_12 : decode cX0_highestFeverAboard 12 = .ok (.aload_n 0, 1) := by decide +kernel
theorem dX0_highestFeverAboard_13 : decode cX0_highestFeverAboard 13 = .ok (.iload_n 3, 1) := by decide +kernel
theorem dX0_highestFeverAboard_14 : decode cX0_highestFeverAboard 14 = .ok (.iconst 0, 1) := by decide +kernel
theorem dX0_highestFeverAboard_15 : decode cX0_highestFeverAboard 15 = .ok (.iload_n 1, 1) := by decide +kernel
theorem dX0_highestFeverAboard_16 : decode cX0_highestFeverAboard 16 = .ok (.invokevirtual 72, 3) := by decide +kernel
theorem dX0_highestFeverAboard_19 : decode cX0_highestFeverAboard 19 = .ok (.ifCond .eq 14, 3) := by decide +kernel
theorem dX0_highestFeverAboard_22 : decode cX0_highestFeverAboard 22 = .ok (.iload_n 2, 1) := by decide +kernel
theorem dX0_highestFeverAboard_23 : decode cX0_highestFeverAboard 23 = .ok (.aload_n 0, 1) := by decide +kernel
theorem dX0_highestFeverAboard_24 : decode cX0_highestFeverAboard 24 = .ok (.getfield 28, 3) := by decide +kernel
theorem dX0_highestFeverAboard_27 : decode cX0_highestFeverAboard 27 = .ok (.iload_n 3, 1) := by decide +kernel
theorem dX0_highestFeverAboard_28 : decode cX0_highestFeverAboard 28 = .ok (.iaload, 1) := by decide +kernel
theorem dX0_highestFeverAboard_29 : decode cX0_highestFeverAboard 29 = .ok (.invokestatic 80, 3) := by decide +kernel
theorem dX0_highestFeverAboard_32 : decode cX0_highestFeverAboard 32 = .ok (.istore_n 2, 1) := by decide +kernel
theorem dX0_highestFeverAboard_33 : decode cX0_highestFeverAboard 33 = .ok (.iinc 3 1, 3) := by decide +kernel
theorem dX0_highestFeverAboard_36 : decode cX0_highestFeverAboard 36 = .ok (.goto (-32), 3) := by decide +kernel
theorem dX0_highestFeverAboard_39 : decode cX0_highestFeverAboard 39 = .ok (.iload_n 2, 1) := by decide +kernel
theorem dX0_highestFeverAboard_40 : decode cX0_highestFeverAboard 40 = .ok (.ireturn, 1) := by decide +kernel
set_option maxRecDepth 20000 in
theorem ggX0_liveDays_X0_giveBowls : GoodIn wsX0_liveDays wsX0_giveBowls := goodIn_r _ [6, 7, 8, 9, 10, 11, 12, 13, 14, 15, 5, 16, 17, 18, 85, 86, 87, 88, 89, 90, 91, 92, 93, 94, 95, 96, 97, 98, 99, 100] (by decide +kernel) (by decide +kernel)
set_option maxRecDepth 20000 in
theorem gX0_liveDays_X0_giveBowls : GoodIn wsX0_liveDays (wsV RX0 85 RX0 yX0_giveBowls wsX0_giveBowls) := goodIn_app (goodIn_of _ (by decide +kernel)) ggX0_liveDays_X0_giveBowls
set_option maxRecDepth 20000 in
theorem ggX0_liveDays_X0_changeFeversInWards : GoodIn wsX0_liveDays wsX0_changeFeversInWards := goodIn_r _ [22, 8, 23, 9, 10, 24, 25, 26, 27, 28, 13, 14, 15, 5, 16, 17, 18, 29, 30, 31, 32, 33, 34, 35, 85, 86, 87, 88, 89, 90, 91, 92, 93, 94, 95, 96, 97, 98, 99, 100] (by decide +kernel) (by decide +kernel)
set_option maxRecDepth 20000 in
theorem gX0_liveDays_X0_changeFeversInWards : GoodIn wsX0_liveDays (wsV RX0 88 RX0 yX0_changeFeversInWards wsX0_changeFeversInWards) := goodIn_app (goodIn_of _ (by decide +kernel)) ggX0_liveDays_X0_changeFeversInWards
set_option maxRecDepth 20000 in
theorem ggX0_liveDays_X0_bringBargesNearer : GoodIn wsX0_liveDays wsX0_bringBargesNearer := goodIn_r _ [39, 40, 41, 42, 43, 44, 5, 45, 9, 24, 46, 47, 48, 49, 13, 14, 15, 16, 17, 18, 29, 30, 31, 32, 33, 34, 27, 35, 85, 86, 87, 88, 89, 90, 91, 92, 93, 94, 95, 96, 97, 98, 99, 100] (by decide +kernel) (by decide +kernel)
set_option maxRecDepth 20000 in
theorem gX0_liveDays_X0_bringBargesNearer : GoodIn wsX0_liveDays (wsV RX0 91 RX0 yX0_bringBargesNearer wsX0_bringBargesNearer) := goodIn_app (goodIn_of _ (by decide +kernel)) ggX0_liveDays_X0_bringBargesNearer
set_option maxRecDepth 20000 in
theorem ggX0_liveDays_X0_ageStraw : GoodIn wsX0_liveDays wsX0_ageStraw := goodIn_r _ [53, 8, 23, 85, 86, 87, 88, 89, 90, 91, 92, 93, 94, 95, 96, 97, 98, 99, 100] (by decide +kernel) (by decide +kernel)
set_option maxRecDepth 20000 in
theorem gX0_liveDays_X0_ageStraw : GoodIn wsX0_liveDays (wsV RX0 94 RX0 yX0_ageStraw wsX0_ageStraw) := goodIn_app (goodIn_of _ (by decide +kernel)) ggX0_liveDays_X0_ageStraw
set_option maxRecDepth 20000 in
theorem ggX0_liveDays_X0_leaveWards : GoodIn wsX0_liveDays wsX0_leaveWards := goodIn_r _ [57, 9, 17, 24, 58, 59, 60, 5, 61, 18, 85, 86, 87, 88, 89, 90, 91, 92, 93, 94, 95, 96, 97, 98, 99, 100] (by decide +kernel) (by decide +kernel)
set_option maxRecDepth 20000 in
theorem gX0_liveDays_X0_leaveWards : GoodIn wsX0_liveDays (wsV RX0 97 RX0 yX0_leaveWards wsX0_leaveWards) := goodIn_app (goodIn_of _ (by decide +kernel)) ggX0_liveDays_X0_leaveWards
set_option maxRecDepth 20000 in
theorem ggX0_liveDays_X0_landBarges : GoodIn wsX0_liveDays wsX0_landBarges := goodIn_r _ [65, 8, 66, 40, 41, 67, 68, 69, 70, 5, 71, 72, 73, 74, 75, 76, 9, 13, 14, 15, 16, 17, 18, 77, 78, 79, 80, 24, 58, 59, 60, 61, 81, 82, 83, 84, 85, 86, 87, 88, 89, 90, 91, 92, 93, 94, 95, 96, 97, 98, 99, 100] (by decide +kernel) (by decide +kernel)
set_option maxRecDepth 20000 in
theorem gX0_liveDays_X0_landBarges : GoodIn wsX0_liveDays (wsV RX0 100 RX0 yX0_landBarges wsX0_landBarges) := goodIn_app (goodIn_of _ (by decide +kernel)) ggX0_liveDays_X0_landBarges
theorem dX0_liveDays_0 : decode cX0_liveDays 0 = .ok (.iconst 0, 1) := by decide +kernel
theorem dX0_liveDays_1 : decode cX0_liveDays 1 = .ok (.istore_n 2, 1) := by decide +kernel
theorem dX0_liveDays_2 : decode cX0_liveDays 2 = .ok (.iload_n 2, 1) := by decide +kernel
theorem dX0_liveDays_3 : decode cX0_liveDays 3 = .ok (.iload_n 1, 1) := by decide +kernel
theorem dX0_liveDays_4 : decode cX0_liveDays 4 = .ok (.if_icmp .ge 43, 3) := by decide +kernel
theorem dX0_liveDays_7 : decode cX0_liveDays 7 = .ok (.aload_n 0, 1) := by decide +kernel
theorem dX0_liveDays_8 : decode cX0_liveDays 8 = .ok (.invokevirtual 85, 3) := by decide +kernel
theorem dX0_liveDays_11 : decode cX0_liveDays 11 = .ok (.aload_n 0, 1) := by decide +kernel
theorem dX0_liveDays_12 : decode cX0_liveDays 12 = .ok (.invokevirtual 88, 3) := by decide +kernel
theorem dX0_liveDays_15 : decode cX0_liveDays 15 = .ok (.aload_n 0, 1) := by decide +kernel
theorem dX0_liveDays_16 : decode cX0_liveDays 16 = .ok (.invokevirtual 91, 3) := by decide +kernel
theorem dX0_liveDays_19 : decode cX0_liveDays 19 = .ok (.aload_n 0, 1) := by decide +kernel
theorem dX0_liveDays_20 : decode cX0_liveDays 20 = .ok (.invokevirtual 94, 3) := by decide +kernel
theorem dX0_liveDays_23 : decode cX0_liveDays 23 = .ok (.aload_n 0, 1) := by decide +kernel
theorem dX0_liveDays_24 : decode cX0_liveDays 24 = .ok (.invokevirtual 97, 3) := by decide +kernel
theorem dX0_liveDays_27 : decode cX0_liveDays 27 = .ok (.aload_n 0, 1) := by decide +kernel
theorem dX0_liveDays_28 : decode cX0_liveDays 28 = .ok (.invokevirtual 100, 3) := by decide +kernel
theorem dX0_liveDays_31 : decode cX0_liveDays 31 = .ok (.aload_n 0, 1) := by decide +kernel
theorem dX0_liveDays_32 : decode cX0_liveDays 32 = .ok (.dup, 1) := by decide +kernel
theorem dX0_liveDays_33 : decode cX0_liveDays 33 = .ok (.getfield 47, 3) := by decide +kernel
theorem dX0_liveDays_36 : decode cX0_liveDays 36 = .ok (.iconst 1, 1) := by decide +kernel
theorem dX0_liveDays_37 : decode cX0_liveDays 37 = .ok (.iadd, 1) := by decide +kernel
theorem dX0_liveDays_38 : decode cX0_liveDays 38 = .ok (.putfield 47, 3) := by decide +kernel
theorem dX0_liveDays_41 : decode cX0_liveDays 41 = .ok (.iinc 2 1, 3) := by decide +kernel
theorem dX0_liveDays_44 : decode cX0_liveDays 44 = .ok (.goto (-42), 3) := by decide +kernel
theorem dX0_liveDays_47 : decode cX0_liveDays 47 = .ok (.return_, 1) := by decide +kernel
set_option maxRecDepth 20000 in
theorem ggX0_giveBowls_X0_isAt : GoodIn wsX0_giveBowls wsX0_isAt := goodIn_r _ [11, 12, 13, 14, 15, 16, 17, 18, 19, 20, 21, 22, 23, 24, 25, 26, 27, 28, 29] (by decide +kernel) (by decide +kernel)
set_option maxRecDepth 20000 in
theorem gX0_giveBowls_X0_isAt : GoodIn wsX0_giveBowls (wsV RX0 72 RX0 yX0_isAt wsX0_isAt) := goodIn_app (goodIn_of _ (by decide +kernel)) ggX0_giveBowls_X0_isAt
theorem dX0_giveBowls_0 : decode cX0_giveBowls 0 = .ok (.aload_n 0, 1) := by decide +kernel
theorem dX0_giveBowls_1 : decode cX0_giveBowls 1 = .ok (.getfield 9, 3) := by decide +kernel
theorem dX0_giveBowls_4 : decode cX0_giveBowls 4 = .ok (.istore_n 1, 1) := by decide +kernel
theorem dX0_giveBowls_5 : decode cX0_giveBowls 5 = .ok (.iconst 0, 1) := by decide +kernel
theorem dX0_giveBowls_6 : decode cX0_giveBowls 6 = .ok (.istore_n 2, 1) := by decide +kernel
theorem dX0_giveBowls_7 : decode cX0_giveBowls 7 = .ok (.iload_n 2, 1) := by decide +kernel
theorem dX0_giveBowls_8 : decode cX0_giveBowls 8 = .ok (.aload_n 0, 1) := by decide +kernel
theorem dX0_giveBowls_9 : decode cX0_giveBowls 9 = .ok (.getfield 53, 3) := by decide +kernel
theorem dX0_giveBowls_12 : decode cX0_giveBowls 12 = .ok (.if_icmp .ge 73, 3) := by decide +kernel
theorem dX0_giveBowls_15 : decode cX0_giveBowls 15 = .ok (.iconst 0, 1) := by decide +kernel
theorem dX0_giveBowls_16 : decode cX0_giveBowls 16 = .ok (.istore_n 3, 1) := by decide +kernel
theorem dX0_giveBowls_17 : decode cX0_giveBowls 17 = .ok (.iload_n 3, 1) := by decide +kernel
theorem dX0_giveBowls_18 : decode cX0_giveBowls 18 = .ok (.aload_n 0, 1) := by decide +kernel
theorem dX0_giveBowls_19 : decode cX0_giveBowls 19 = .ok (.getfield 59, 3) := by decide +kernel
theorem dX0_giveBowls_22 : decode cX0_giveBowls 22 = .ok (.if_icmp .ge 57, 3) := by decide +kernel
theorem dX0_giveBowls_25 : decode cX0_giveBowls 25 = .ok (.aload_n 0, 1) := by decide +kernel
theorem dX0_giveBowls_26 : decode cX0_giveBowls 26 = .ok (.iload_n 3, 1) := by decide +kernel
theorem dX0_giveBowls_27 : decode cX0_giveBowls 27 = .ok (.iconst 1, 1) := by decide +kernel
theorem dX0_giveBowls_28 : decode cX0_giveBowls 28 = .ok (.iload_n 2, 1) := by decide +kernel
theorem dX0_giveBowls_29 : decode cX0_giveBowls 29 = .ok (.invokevirtual 72, 3) := by decide +kernel
theorem dX0_giveBowls_32 : decode cX0_giveBowls 32 = .ok (.ifCond .ne 6, 3) := by decide +kernel
theorem dX0_giveBowls_35 : decode cX0_giveBowls 35 = .ok (.goto 38, 3) := by decide +kernel
theorem dX0_giveBowls_38 : decode cX0_giveBowls 38 = .ok (.aload_n 0, 1) := by decide +kernel
theorem dX0_giveBowls_39 : decode cX0_giveBowls 39 = .ok (.getfield 40, 3) := by decide +kernel
theorem dX0_giveBowls_42 : decode cX0_giveBowls 42 = .ok (.iload_n 3, 1) := by decide +kernel
theorem dX0_giveBowls_43 : decode cX0_giveBowls 43 = .ok (.iload_n 1, 1) := by decide +kernel
theorem dX0_giveBowls_44 : decode cX0_giveBowls 44 = .ok (.ifCond .ne 7, 3) := by decide +kernel
theorem dX0_giveBowls_47 : decode cX0_giveBowls 47 = .ok (.iconst 1, 1) := by decide +kernel
theorem dX0_giveBowls_48 : decode cX0_giveBowls 48 = .ok (.goto 4, 3) := by decide +kernel
theorem dX0_giveBowls_51 : decode cX0_giveBowls 51 = .ok (.iconst 0, 1) := by decide +kernel
theorem dX0_giveBowls_52 : decode cX0_giveBowls 52 = .ok (.bastore, 1) := by decide +kernel
theorem dX0_giveBowls_53 : decode cX0_giveBowls 53 = .ok (.iload_n 1, 1) := by decide +kernel
theorem dX0_giveBowls_54 : decode cX0_giveBowls 54 = .ok (.ifCond .ne 16, 3) := by decide +kernel
theorem dX0_giveBowls_57 : decode cX0_giveBowls 57 = .ok (.aload_n 0, 1) := by decide +kernel
theorem dX0_giveBowls_58 : decode cX0_giveBowls 58 = .ok (.getfield 37, 3) := by decide +kernel
theorem dX0_giveBowls_61 : decode cX0_giveBowls 61 = .ok (.iload_n 3, 1) := by decide +kernel
theorem dX0_giveBowls_62 : decode cX0_giveBowls 62 = .ok (.dup2, 1) := by decide +kernel
theorem dX0_giveBowls_63 : decode cX0_giveBowls 63 = .ok (.iaload, 1) := by decide +kernel
theorem dX0_giveBowls_64 : decode cX0_giveBowls 64 = .ok (.iconst 1, 1) := by decide +kernel
theorem dX0_giveBowls_65 : decode cX0_giveBowls 65 = .ok (.iadd, 1) := by decide +kernel
theorem dX0_giveBowls_66 : decode cX0_giveBowls 66 = .ok (.iastore, 1) := by decide +kernel
theorem dX0_giveBowls_67 : decode cX0_giveBowls 67 = .ok (.goto 6, 3) := by decide +kernel
theorem dX0_giveBowls_70 : decode cX0_giveBowls 70 = .ok (.iinc 1 (-1), 3) := by decide +kernel
theorem dX0_giveBowls_73 : decode cX0_giveBowls 73 = .ok (.iinc 3 1, 3) := by decide +kernel
theorem dX0_giveBowls_76 : decode cX0_giveBowls 76 = .ok (.goto (-59), 3) := by decide +kernel
theorem dX0_giveBowls_79 : decode cX0_giveBowls 79 = .ok (.iinc 2 1, 3) := by decide +kernel
theorem dX0_giveBowls_82 : decode cX0_giveBowls 82 = .ok (.goto (-75), 3) := by decide +kernel
theorem dX0_giveBowls_85 : decode cX0_giveBowls 85 = .ok (.aload_n 0, 1) := by decide +kernel
theorem dX0_giveBowls_86 : decode cX0_giveBowls 86 = .ok (.dup, 1) := by decide +kernel
theorem dX0_giveBowls_87 : decode cX0_giveBowls 87 = .ok (.getfield 50, 3) := by decide +kernel
theorem dX0_giveBowls_90 : decode cX0_giveBowls 90 = .ok (.aload_n 0, 1) := by decide +kernel
theorem dX0_giveBowls_91 : decode cX0_giveBowls 91 = .ok (.getfield 9, 3) := by decide +kernel
theorem dX0_giveBowls_94 : decode cX0_giveBowls 94 = .ok (.iload_n 1, 1) := by decide +kernel
theorem dX0_giveBowls_95 : decode cX0_giveBowls 95 = .ok (.isub, 1) := by decide +kernel
theorem dX0_giveBowls_96 : decode cX0_giveBowls 96 = .ok (.iadd, 1) := by decide +kernel
theorem dX0_giveBowls_97 : decode cX0_giveBowls 97 = .ok (.putfield 50, 3) := by decide +kernel
theorem dX0_giveBowls_100 : decode cX0_giveBowls 100 = .ok (.return_, 1) := by decide +kernel
set_option maxRecDepth 20000 in
theorem ggX0_changeFeversInWards_X0_isAt : GoodIn wsX0_changeFeversInWards wsX0_isAt := goodIn_r _ [14, 15, 16, 24, 25, 26, 27, 28, 29, 30, 31, 32, 33, 34, 35, 36, 37, 38, 39] (by decide +kernel) (by decide +kernel)
set_option maxRecDepth 20000 in
theorem gX0_changeFeversInWards_X0_isAt : GoodIn wsX0_changeFeversInWards (wsV RX0 72 RX0 yX0_isAt wsX0_isAt) := goodIn_app (goodIn_of _ (by decide +kernel)) ggX0_changeFeversInWards_X0_isAt
set_option maxRecDepth 20000 in
theorem ggX0_changeFeversInWards_X0_raiseFever : GoodIn wsX0_changeFeversInWards wsX0_raiseFever := goodIn_r _ [20, 5, 21, 22, 8, 23, 24, 25, 26, 27, 28, 29, 30, 31, 32, 33, 34, 35, 36, 37, 38, 39] (by decide +kernel) (by decide +kernel)
set_option maxRecDepth 20000 in
theorem gX0_changeFeversInWards_X0_raiseFever : GoodIn wsX0_changeFeversInWards (wsV RX0 103 RX0 yX0_raiseFever wsX0_raiseFever) := goodIn_app (goodIn_of _ (by decide +kernel)) ggX0_changeFeversInWards_X0_raiseFever
theorem dX0_changeFeversInWards_0 : decode cX0_changeFeversInWards 0 = .ok (.iconst 0, 1) := by decide +kernel
theorem dX0_changeFeversInWards_1 : decode cX0_changeFeversInWards 1 = .ok (.istore_n 1, 1) := by decide +kernel
theorem dX0_changeFeversInWards_2 : decode cX0_changeFeversInWards 2 = .ok (.iload_n 1, 1) := by decide +kernel
theorem dX0_changeFeversInWards_3 : decode cX0_changeFeversInWards 3 = .ok (.aload_n 0, 1) := by decide +kernel
theorem dX0_changeFeversInWards_4 : decode cX0_changeFeversInWards 4 = .ok (.getfield 53, 3) := by decide +kernel
theorem dX0_changeFeversInWards_7 : decode cX0_changeFeversInWards 7 = .ok (.if_icmp .ge 93, 3) := by decide +kernel
theorem dX0_changeFeversInWards_10 : decode cX0_changeFeversInWards 10 = .ok (.aload_n 0, 1) := by decide +kernel
theorem dX0_changeFeversInWards_11 : decode cX0_changeFeversInWards 11 = .ok (.getfield 19, 3) := by decide +kernel
theorem dX0_changeFeversInWards_14 : decode cX0_changeFeversInWards 14 = .ok (.iload_n 1, 1) := by decide +kernel
theorem dX0_changeFeversInWards_15 : decode cX0_changeFeversInWards 15 = .ok (.iaload, 1) := by decide +kernel
theorem dX0_changeFeversInWards_16 : decode cX0_changeFeversInWards 16 = .ok (.iconst 5, 1) := by decide +kernel
theorem dX0_changeFeversInWards_17 : decode cX0_changeFeversInWards 17 = .ok (.if_icmp .lt 7, 3) := by decide +kernel
theorem dX0_changeFeversInWards_20 : decode cX0_changeFeversInWards 20 = .ok (.iconst 1, 1) := by decide +kernel
theorem dX0_changeFeversInWards_21 : decode cX0_changeFeversInWards 21 = .ok (.goto 4, 3) := by decide +kernel
theorem dX0_changeFeversInWards_24 : decode cX0_changeFeversInWards 24 = .ok (.iconst 0, 1) := by decide +kernel
theorem dX0_changeFeversInWards_25 : decode cX0_changeFeversInWards 25 = .ok (.istore_n 2, 1) := by decide +kernel
theorem dX0_changeFeversInWards_26 : decode cX0_changeFeversInWards 26 = .ok (.iconst 0, 1) := by decide +kernel
theorem dX0_changeFeversInWards_27 : decode cX0_changeFeversInWards 27 = .ok (.istore_n 3, 1) := by decide +kernel
theorem dX0_changeFeversInWards_28 : decode cX0_changeFeversInWards 28 = .ok (.iload_n 3, 1) := by decide +kernel
theorem dX0_changeFeversInWards_29 : decode cX0_changeFeversInWards 29 = .ok (.aload_n 0, 1) := by decide +kernel
theorem dX0_changeFeversInWards_30 : decode cX0_changeFeversInWards 30 = .ok (.getfield 59, 3) := by decide +kernel
theorem dX0_changeFeversInWards_33 : decode cX0_changeFeversInWards 33 = .ok (.if_icmp .ge 61, 3) := by decide +kernel
theorem dX0_changeFeversInWards_36 : decode cX0_changeFeversInWards 36 = .ok (.aload_n 0, 1) := by decide +kernel
theorem dX0_changeFeversInWards_37 : decode cX0_changeFeversInWards 37 = .ok (.iload_n 3, 1) := by decide +kernel
theorem dX0_changeFeversInWards_38 : decode cX0_changeFeversInWards 38 = .ok (.iconst 1, 1) := by decide +kernel
theorem dX0_changeFeversInWards_39 : decode cX0_changeFeversInWards 39 = .ok (.iload_n 1, 1) := by decide +kernel
theorem dX0_changeFeversInWards_40 : decode cX0_changeFeversInWards 40 = .ok (.invokevirtual 72, 3) := by decide +kernel
theorem dX0_changeFeversInWards_43 : decode cX0_changeFeversInWards 43 = .ok (.ifCond .ne 6, 3) := by decide +kernel
theorem dX0_changeFeversInWards_46 : decode cX0_changeFeversInWards 46 = .ok (.goto 42, 3) := by decide +kernel
theorem dX0_changeFeversInWards_49 : decode cX0_changeFeversInWards 49 = .ok (.iload_n 2, 1) := by decide +kernel
theorem dX0_changeFeversInWards_50 : decode cX0_changeFeversInWards 50 = .ok (.ifCond .ne 12, 3) := by decide +kernel
theorem dX0_changeFeversInWards_53 : decode cX0_changeFeversInWards 53 = .ok (.aload_n 0, 1) := by decide +kernel
theorem dX0_changeFeversInWards_54 : decode cX0_changeFeversInWards 54 = .ok (.getfield 40, 3) := by decide +kernel
theorem dX0_changeFeversInWards_57 : decode cX0_changeFeversInWards 57 = .ok (.iload_n 3, 1) := by decide +kernel
theorem dX0_changeFeversInWards_58 : decode cX0_changeFeversInWards 58 = .ok (.baload, 1) := by decide +kernel
theorem dX0_changeFeversInWards_59 : decode cX0_changeFeversInWards 59 = .ok (.ifCond .eq 11, 3) := by decide +kernel
theorem dX0_changeFeversInWards_62 : decode cX0_changeFeversInWards 62 = .ok (.aload_n 0, 1) := by decide +kernel
theorem dX0_changeFeversInWards_63 : decode cX0_changeFeversInWards 63 = .ok (.iload_n 3, 1) := by decide +kernel
theorem dX0_changeFeversInWards_64 : decode cX0_changeFeversInWards 64 = .ok (.invokevirtual 103, 3) := by decide +kernel
theorem dX0_changeFeversInWards_67 : decode cX0_changeFeversInWards 67 = .ok (.goto 21, 3) := by decide +kernel
theorem dX0_changeFeversInWards_70 : decode cX0_changeFeversInWards 70 = .ok (.aload_n 0, 1) := by decide +kernel
theorem dX0_changeFeversInWards_71 : decode cX0_changeFeversInWards 71 = .ok (.getfield 28, 3) := by decide +kernel
theorem dX0_changeFeversInWards_74 : decode cX0_changeFeversInWards 74 = .ok (.iload_n 3, 1) := by decide +kernel
theorem dX0_changeFeversInWards_75 : decode cX0_changeFeversInWards 75 = .ok (.iconst 0, 1) := by decide +kernel
theorem dX0_changeFeversInWards_76 : decode cX0_changeFeversInWards 76 = .ok (.aload_n 0, 1) := by decide +kernel
theorem dX0_changeFeversInWards_77 : decode cX0_changeFeversInWards 77 = .ok (.getfield 28, 3) := by decide +kernel
theorem dX0_changeFeversInWards_80 : decode cX0_changeFeversInWards 80 = .ok (.iload_n 3, 1) := by decide +kernel
theorem dX0_changeFeversInWards_81 : decode cX0_changeFeversInWards 81 = .ok (.iaload, 1) := by decide +kernel
theorem dX0_changeFeversInWards_82 : decode cX0_changeFeversInWards 82 = .ok (.iconst 1, 1) := by decide +kernel
theorem dX0_changeFeversInWards_83 : decode cX0_changeFeversInWards 83 = .ok (.isub, 1) := by decide +kernel
theorem dX0_changeFeversInWards_84 : decode cX0_changeFeversInWards 84 = .ok (.invokestatic 80, 3) := by decide +kernel
theorem dX0_changeFeversInWards_87 : decode cX0_changeFeversInWards 87 = .ok (.iastore, 1) := by decide +kernel
theorem dX0_changeFeversInWards_88 : decode cX0_changeFeversInWards 88 = .ok (.iinc 3 1, 3) := by decide +kernel
theorem dX0_changeFeversInWards_91 : decode cX0_changeFeversInWards 91 = .ok (.goto (-63), 3) := by decide +kernel
theorem dX0_changeFeversInWards_94 : decode cX0_changeFeversInWards 94 = .ok (.iinc 1 1, 3) := by decide +kernel
theorem dX0_changeFeversInWards_97 : decode cX0_changeFeversInWards 97 = .ok (.goto (-95), 3) := by decide +kernel
theorem dX0_changeFeversInWards_100 : decode cX0_changeFeversInWards 100 = .ok (.return_, 1) := by decide +kernel
theorem dX0_raiseFever_0 : decode cX0_raiseFever 0 = .ok (.aload_n 0, 1) := by decide +kernel
theorem dX0_raiseFever_1 : decode cX0_raiseFever 1 = .ok (.getfield 28, 3) := by decide +kernel
theorem dX0_raiseFever_4 : decode cX0_raiseFever 4 = .ok (.iload_n 1, 1) := by decide +kernel
theorem dX0_raiseFever_5 : decode cX0_raiseFever 5 = .ok (.bipush 10, 2) := by decide +kernel
theorem dX0_raiseFever_7 : decode cX0_raiseFever 7 = .ok (.aload_n 0, 1) := by decide +kernel
theorem dX0_raiseFever_8 : decode cX0_raiseFever 8 = .ok (.getfield 28, 3) := by decide +kernel
theorem dX0_raiseFever_11 : decode cX0_raiseFever 11 = .ok (.iload_n 1, 1) := by decide +kernel
theorem dX0_raiseFever_12 : decode cX0_raiseFever 12 = .ok (.iaload, 1) := by decide +kernel
theorem dX0_raiseFever_13 : decode cX0_raiseFever 13 = .ok (.iconst 1, 1) := by decide +kernel
theorem dX0_raiseFever_14 : decode cX0_raiseFever 14 = .ok (.iadd, 1) := by decide +kernel
theorem dX0_raiseFever_15 : decode cX0_raiseFever 15 = .ok (.invokestatic 107, 3) := by decide +kernel
theorem dX0_raiseFever_18 : decode cX0_raiseFever 18 = .ok (.iastore, 1) := by decide +kernel
theorem dX0_raiseFever_19 : decode cX0_raiseFever 19 = .ok (.return_, 1) := by decide +kernel
set_option maxRecDepth 20000 in
theorem ggX0_bringBargesNearer_X0_spreadFever : GoodIn wsX0_bringBargesNearer wsX0_spreadFever := goodIn_r _ [7, 8, 9, 10, 11, 12, 6, 13, 14, 15, 16, 17, 18, 19, 20, 21, 22, 23, 24, 25, 26, 27, 28, 29, 30, 31, 32, 33, 34, 35, 36, 37, 38, 39, 40, 41, 42, 43] (by decide +kernel) (by decide +kernel)
set_option maxRecDepth 20000 in
theorem gX0_bringBargesNearer_X0_spreadFever : GoodIn wsX0_bringBargesNearer (wsV RX0 110 RX0 yX0_spreadFever wsX0_spreadFever) := goodIn_app (goodIn_of _ (by decide +kernel)) ggX0_bringBargesNearer_X0_spreadFever
theorem dX0_bringBargesNearer_0 : decode cX0_bringBargesNearer 0 = .ok (.iconst 0, 1) := by decide +kernel
theorem dX0_bringBargesNearer_1 : decode cX0_bringBargesNearer 1 = .ok (.istore_n 1, 1) := by decide +kernel
theorem dX0_bringBargesNearer_2 : decode cX0_bringBargesNearer 2 = .ok (.iload_n 1, 1) := by decide +kernel
theorem dX0_bringBargesNearer_3 : decode cX0_bringBargesNearer 3 = .ok (.aload_n 0, 1) := by decide +kernel
theorem dX0_bringBargesNearer_4 : decode cX0_bringBargesNearer 4 = .ok (.getfield 56, 3) := by decide +kernel
theorem dX0_bringBargesNearer_7 : decode cX0_bringBargesNearer 7 = .ok (.if_icmp .ge 42, 3) := by decide +kernel
theorem dX0_bringBargesNearer_10 : decode cX0_bringBargesNearer 10 = .ok (.aload_n 0, 1) := by decide +kernel
theorem dX0_bringBargesNearer_11 : decode cX0_bringBargesNearer 11 = .ok (.getfield 25, 3) := by decide +kernel
theorem dX0_bringBargesNearer_14 : decode cX0_bringBargesNearer 14 = .ok (.iload_n 1, 1) := by decide +kernel
theorem dX0_bringBargesNearer_15 : decode cX0_bringBargesNearer 15 = .ok (.iaload, 1) := by decide +kernel
theorem dX0_bringBargesNearer_16 : decode cX0_bringBargesNearer 16 = .ok (.ifCond .le 27, 3) := by decide +kernel
theorem dX0_bringBargesNearer_19 : decode cX0_bringBargesNearer 19 = .ok (.aload_n 0, 1) := by decide +kernel
theorem dX0_bringBargesNearer_20 : decode cX0_bringBargesNearer 20 = .ok (.getfield 25, 3) := by decide +kernel
theorem dX0_bringBargesNearer_23 : decode cX0_bringBargesNearer 23 = .ok (.iload_n 1, 1) := by decide +kernel
theorem dX0_bringBargesNearer_24 : decode cX0_bringBargesNearer 24 = .ok (.dup2, 1) := by decide +kernel
theorem dX0_bringBargesNearer_25 : decode cX0_bringBargesNearer 25 = .ok (.iaload, 1) := by decide +kernel
theorem dX0_bringBargesNearer_26 : decode cX0_bringBargesNearer 26 = .ok (.iconst 1, 1) := by decide +kernel
theorem dX0_bringBargesNearer_27 : decode cX0_bringBargesNearer 27 = .ok (.isub, 1) := by decide +kernel
theorem dX0_bringBargesNearer_28 : decode cX0_bringBargesNearer 28 = .ok (.iastore, 1) := by decide +kernel
theorem dX0_bringBargesNearer_29 : decode cX0_bringBargesNearer 29 = .ok (.aload_n 0, 1) := by decide +kernel
theorem dX0_bringBargesNearer_30 : decode cX0_bringBargesNearer 30 = .ok (.getfield 25, 3) := by decide +kernel
theorem dX0_bringBargesNearer_33 : decode cX0_bringBargesNearer 33 = .ok (.iload_n 1, 1) := by decide +kernel
theorem dX0_bringBargesNearer_34 : decode cX0_bringBargesNearer 34 = .ok (.iaload, 1) := by decide +kernel
theorem dX0_bringBargesNearer_35 : decode cX0_bringBargesNearer 35 = .ok (.ifCond .le 8, 3) := by decide +kernel
theorem dX0_bringBargesNearer_38 : decode cX0_bringBargesNearer 38 = .ok (.aload_n 0, 1) := by decide +kernel
theorem dX0_bringBargesNearer_39 : decode cX0_bringBargesNearer 39 = .ok (.iload_n 1, 1) := by decide +kernel
theorem dX0_bringBargesNearer_40 : decode cX0_bringBargesNearer 40 = .ok (.invokevirtual 110, 3) := by decide +kernel
theorem dX0_bringBargesNearer_43 : decode cX0_bringBargesNearer 43 = .ok (.iinc 1 1, 3) := by decide +kernel
theorem dX0_bringBargesNearer_46 : decode cX0_bringBargesNearer 46 = .ok (.goto (-44), 3) := by decide +kernel
theorem dX0_bringBargesNearer_49 : decode cX0_bringBargesNearer 49 = .ok (.return_, 1) := by decide +kernel
set_option maxRecDepth 20000 in
theorem ggX0_spreadFever_X0_countFeverish : GoodIn wsX0_spreadFever wsX0_countFeverish := goodIn_r _ [7, 1, 2, 8, 9, 10, 6, 11, 12, 13, 22, 23, 24, 25, 26, 27, 28, 29, 30, 31, 32, 33, 34, 35, 36, 37] (by decide +kernel) (by decide +kernel)
set_option maxRecDepth 20000 in
theorem gX0_spreadFever_X0_countFeverish : GoodIn wsX0_spreadFever (wsV RX0 113 RX0 yX0_countFeverish wsX0_countFeverish) := goodIn_app (goodIn_of _ (by decide +kernel)) ggX0_spreadFever_X0_countFeverish
set_option maxRecDepth 20000 in
theorem ggX0_spreadFever_X0_isAt : GoodIn wsX0_spreadFever wsX0_isAt := goodIn_r _ [11, 12, 13, 22, 23, 24, 25, 26, 27, 28, 29, 30, 31, 32, 33, 34, 35, 36, 37] (by decide +kernel) (by decide +kernel)
set_option maxRecDepth 20000 in
theorem gX0_spreadFever_X0_isAt : GoodIn wsX0_spreadFever (wsV RX0 72 RX0 yX0_isAt wsX0_isAt) := goodIn_app (goodIn_of _ (by decide +kernel)) ggX0_spreadFever_X0_isAt
set_option maxRecDepth 20000 in
theorem ggX0_spreadFever_X0_raiseFever : GoodIn wsX0_spreadFever wsX0_raiseFever := goodIn_r _ [17, 2, 18, 19, 20, 21, 22, 23, 24, 25, 26, 27, 28, 29, 30, 31, 32, 33, 34, 35, 36, 37] (by decide +kernel) (by decide +kernel)
set_option maxRecDepth 20000 in
theorem gX0_spreadFever_X0_raiseFever : GoodIn wsX0_spreadFever (wsV RX0 103 RX0 yX0_raiseFever wsX0_raiseFever) := goodIn_app (goodIn_of _ (by decide +kernel)) ggX0_spreadFever_X0_raiseFever
theorem dX0_spreadFever_0 : decode cX0_spreadFever 0 = .ok (.aload_n 0, 1) := by decide +kernel
theorem dX0_spreadFever_1 : decode cX0_spreadFever 1 = .ok (.iload_n 1, 1) := by decide +kernel
theorem dX0_spreadFever_2 : decode cX0_spreadFever 2 = .ok (.invokevirtual 113, 3) := by decide +kernel
theorem dX0_spreadFever_5 : decode cX0_spreadFever 5 = .ok (.istore_n 2, 1) := by decide +kernel
theorem dX0_spreadFever_6 : decode cX0_spreadFever 6 = .ok (.iconst 0, 1) := by decide +kernel
theorem dX0_spreadFever_7 : decode cX0_spreadFever 7 = .ok (.istore_n 3, 1) := by decide +kernel
theorem dX0_spreadFever_8 : decode cX0_spreadFever 8 = .ok (.iload_n 3, 1) := by decide +kernel
theorem dX0_spreadFever_9 : decode cX0_spreadFever 9 = .ok (.aload_n 0, 1) := by decide +kernel
theorem dX0_spreadFever_10 : decode cX0_spreadFever 10 = .ok (.getfield 59, 3) := by decide +kernel
theorem dX0_spreadFever_13 : decode cX0_spreadFever 13 = .ok (.if_icmp .ge 50, 3) := by decide +kernel
theorem dX0_spreadFever_16 : decode cX0_spreadFever 16 = .ok (.aload_n 0, 1) := by decide +kernel
theorem dX0_spreadFever_17 : decode cX0_spreadFever 17 = .ok (.iload_n 3, 1) := by decide +kernel
theorem dX0_spreadFever_18 : decode cX0_spreadFever 18 = .ok (.iconst 0, 1) := by decide +kernel
theorem dX0_spreadFever_19 : decode cX0_spreadFever 19 = .ok (.iload_n 1, 1) := by decide +kernel
theorem dX0_spreadFever_20 : decode cX0_spreadFever 20 = .ok (.invokevirtual 72, 3) := by decide +kernel
theorem dX0_spreadFever_23 : decode cX0_spreadFever 23 = .ok (.ifCond .ne 6, 3) := by decide +kernel
theorem dX0_spreadFever_26 : decode cX0_spreadFever 26 = .ok (.goto 31, 3) := by decide +kernel
theorem dX0_spreadFever_29 : decode cX0_spreadFever 29 = .ok (.aload_n 0, 1) := by decide +kernel
theorem dX0_spreadFever_30 : decode cX0_spreadFever 30 = .ok (.getfield 28, 3) := by decide +kernel
theorem dX0_spreadFever_33 : decode cX0_spreadFever 33 = .ok (.iload_n 3, 1) := by decide +kernel
theorem dX0_spreadFever_34 : decode cX0_spreadFever 34 = .ok (.iaload, 1) := by decide +kernel
theorem dX0_spreadFever_35 : decode cX0_spreadFever 35 = .ok (.ifCond .le 9, 3) := by decide +kernel
theorem dX0_spreadFever_38 : decode cX0_spreadFever 38 = .ok (.iload_n 2, 1) := by decide +kernel
theorem dX0_spreadFever_39 : decode cX0_spreadFever 39 = .ok (.iconst 1, 1) := by decide +kernel
theorem dX0_spreadFever_40 : decode cX0_spreadFever 40 = .ok (.isub, 1) := by decide +kernel
theorem dX0_spreadFever_41 : decode cX0_spreadFever 41 = .ok (.goto 4, 3) := by decide +kernel
theorem dX0_spreadFever_44 : decode cX0_spreadFever 44 = .ok (.iload_n 2, 1) := by decide +kernel
theorem dX0_spreadFever_45 : decode cX0_spreadFever 45 = .ok (.istore 4, 2) := by decide +kernel
theorem dX0_spreadFever_47 : decode cX0_spreadFever 47 = .ok (.iload 4, 2) := by decide +kernel
theorem dX0_spreadFever_49 : decode cX0_spreadFever 49 = .ok (.ifCond .le 8, 3) := by decide +kernel
theorem dX0_spreadFever_52 : decode cX0_spreadFever 52 = .ok (.aload_n 0, 1) := by decide +kernel
theorem dX0_spreadFever_53 : decode cX0_spreadFever 53 = .ok (.iload_n 3, 1) := by decide +kernel
theorem dX0_spreadFever_54 : decode cX0_spreadFever 54 = .ok (.invokevirtual 103, 3) := by decide +kernel
theorem dX0_spreadFever_57 : decode cX0_spreadFever 57 = .ok (.iinc 3 1, 3) := by decide +kernel
theorem dX0_spreadFever_60 : decode cX0_spreadFever 60 = .ok (.goto (-52), 3) := by decide +kernel
theorem dX0_spreadFever_63 : decode cX0_spreadFever 63 = .ok (.return_, 1) := by decide +kernel
set_option maxRecDepth 20000 in
theorem ggX0_countFeverish_X0_isAt : GoodIn wsX0_countFeverish wsX0_isAt := goodIn_r _ [7, 8, 9, 10, 11, 12, 13, 14, 15, 16, 17, 18, 19, 20, 21, 22, 23, 24, 25] (by decide +kernel) (by decide +kernel)
set_option maxRecDepth 20000 in
theorem gX0_countFeverish_X0_isAt : GoodIn wsX0_countFeverish (wsV RX0 72 RX0 yX0_isAt wsX0_isAt) := goodIn_app (goodIn_of _ (by decide +kernel)) ggX0_countFeverish_X0_isAt
theorem dX0_countFeverish_0 : decode cX0_countFeverish 0 = .ok (.iconst 0, 1) := by decide +kernel
theorem dX0_countFeverish_1 : decode cX0_countFeverish 1 = .ok (.istore_n 2, 1) := by decide +kernel
theorem dX0_countFeverish_2 : decode cX0_countFeverish 2 = .ok (.iconst 0, 1) := by decide +kernel
theorem dX0_countFeverish_3 : decode cX0_countFeverish 3 = .ok (.istore_n 3, 1) := by decide +kernel
theorem dX0_countFeverish_4 : decode cX0_countFeverish 4 = .ok (.iload_n 3, 1) := by decide +kernel
theorem dX0_countFeverish_5 : decode cX0_countFeverish 5 = .ok (.aload_n 0, 1) := by decide +kernel
theorem dX0_countFeverish_6 : decode cX0_countFeverish 6 = .ok (.getfield 59, 3) := by decide +kernel
theorem dX0_countFeverish_9 : decode cX0_countFeverish 9 = .ok (.if_icmp .ge 31, 3) := by decide +kernel
theorem dX0_countFeverish_12 : decode cX0_countFeverish 12 = .ok (.aload_n 0, 1) := by decide +kernel
theorem dX0_countFeverish_13 : decode cX0_countFeverish 13 = .ok (.iload_n 3, 1) := by decide +kernel
theorem dX0_countFeverish_14 : decode cX0_countFeverish 14 = .ok (.iconst 0, 1) := by decide +kernel
theorem dX0_countFeverish_15 : decode cX0_countFeverish 15 = .ok (.iload_n 1, 1) := by decide +kernel
theorem dX0_countFeverish_16 : decode cX0_countFeverish 16 = .ok (.invokevirtual 72, 3) := by decide +kernel
theorem dX0_countFeverish_19 : decode cX0_countFeverish 19 = .ok (.ifCond .eq 15, 3) := by decide +kernel
theorem dX0_countFeverish_22 : decode cX0_countFeverish 22 = .ok (.aload_n 0, 1) := by decide +kernel
theorem dX0_countFeverish_23 : decode cX0_countFeverish 23 = .ok (.getfield 28, 3) := by decide +kernel
theorem dX0_countFeverish_26 : decode cX0_countFeverish 26 = .ok (.iload_n 3, 1) := by decide +kernel
theorem dX0_countFeverish_27 : decode cX0_countFeverish 27 = .ok (.iaload, 1) := by decide +kernel
theorem dX0_countFeverish_28 : decode cX0_countFeverish 28 = .ok (.ifCond .le 6, 3) := by decide +kernel
theorem dX0_countFeverish_31 : decode cX0_countFeverish 31 = .ok (.iinc 2 1, 3) := by decide +kernel
theorem dX0_countFeverish_34 : decode cX0_countFeverish 34 = .ok (.iinc 3 1, 3) := by decide +kernel
theorem dX0_countFeverish_37 : decode cX0_countFeverish 37 = .ok (.goto (-33), 3) := by decide +kernel
theorem dX0_countFeverish_40 : decode cX0_countFeverish 40 = .ok (.iload_n 2, 1) := by decide +kernel
theorem dX0_countFeverish_41 : decode cX0_countFeverish 41 = .ok (.ireturn, 1) := by decide +kernel
theorem dX0_ageStraw_0 : decode cX0_ageStraw 0 = .ok (.iconst 0, 1) := by decide +kernel
theorem dX0_ageStraw_1 : decode cX0_ageStraw 1 = .ok (.istore_n 1, 1) := by decide +kernel
theorem dX0_ageStraw_2 : decode cX0_ageStraw 2 = .ok (.iload_n 1, 1) := by decide +kernel
theorem dX0_ageStraw_3 : decode cX0_ageStraw 3 = .ok (.aload_n 0, 1) := by decide +kernel
theorem dX0_ageStraw_4 : decode cX0_ageStraw 4 = .ok (.getfield 53, 3) := by decide +kernel
theorem dX0_ageStraw_7 : decode cX0_ageStraw 7 = .ok (.if_icmp .ge 19, 3) := by decide +kernel
theorem dX0_ageStraw_10 : decode cX0_ageStraw 10 = .ok (.aload_n 0, 1) := by decide +kernel
theorem dX0_ageStraw_11 : decode cX0_ageStraw 11 = .ok (.getfield 19, 3) := by decide +kernel
theorem dX0_ageStraw_14 : decode cX0_ageStraw 14 = .ok (.iload_n 1, 1) := by decide +kernel
theorem dX0_ageStraw_15 : decode cX0_ageStraw 15 = .ok (.dup2, 1) := by decide +kernel
theorem dX0_ageStraw_16 : decode cX0_ageStraw 16 = .ok (.iaload, 1) := by decide +kernel
theorem dX0_ageStraw_17 : decode cX0_ageStraw 17 = .ok (.iconst 1, 1) := by decide +kernel
theorem dX0_ageStraw_18 : decode cX0_ageStraw 18 = .ok (.iadd, 1) := by decide +kernel
theorem dX0_ageStraw_19 : decode cX0_ageStraw 19 = .ok (.iastore, 1) := by decide +kernel
theorem dX0_ageStraw_20 : decode cX0_ageStraw 20 = .ok (.iinc 1 1, 3) := by decide +kernel
theorem dX0_ageStraw_23 : decode cX0_ageStraw 23 = .ok (.goto (-21), 3) := by decide +kernel
theorem dX0_ageStraw_26 : decode cX0_ageStraw 26 = .ok (.return_, 1) := by decide +kernel
set_option maxRecDepth 20000 in
theorem ggX0_leaveWards_X0_move : GoodIn wsX0_leaveWards wsX0_move := goodIn_r _ [8, 2, 9, 10, 11, 12, 13, 14, 15, 16, 17, 18, 19, 20, 21, 22, 23, 24, 25] (by decide +kernel) (by decide +kernel)
set_option maxRecDepth 20000 in
theorem gX0_leaveWards_X0_move : GoodIn wsX0_leaveWards (wsV RX0 68 RX0 yX0_move wsX0_move) := goodIn_app (goodIn_of _ (by decide +kernel)) ggX0_leaveWards_X0_move
theorem dX0_leaveWards_0 : decode cX0_leaveWards 0 = .ok (.iconst 0, 1) := by decide +kernel
theorem dX0_leaveWards_1 : decode cX0_leaveWards 1 = .ok (.istore_n 1, 1) := by decide +kernel
theorem dX0_leaveWards_2 : decode cX0_leaveWards 2 = .ok (.iload_n 1, 1) := by decide +kernel
theorem dX0_leaveWards_3 : decode cX0_leaveWards 3 = .ok (.aload_n 0, 1) := by decide +kernel
theorem dX0_leaveWards_4 : decode cX0_leaveWards 4 = .ok (.getfield 59, 3) := by decide +kernel
theorem dX0_leaveWards_7 : decode cX0_leaveWards 7 = .ok (.if_icmp .ge 59, 3) := by decide +kernel
theorem dX0_leaveWards_10 : decode cX0_leaveWards 10 = .ok (.aload_n 0, 1) := by decide +kernel
theorem dX0_leaveWards_11 : decode cX0_leaveWards 11 = .ok (.getfield 31, 3) := by decide +kernel
theorem dX0_leaveWards_14 : decode cX0_leaveWards 14 = .ok (.iload_n 1, 1) := by decide +kernel
theorem dX0_leaveWards_15 : decode cX0_leaveWards 15 = .ok (.iaload, 1) := by decide +kernel
theorem dX0_leaveWards_16 : decode cX0_leaveWards 16 = .ok (.iconst 1, 1) := by decide +kernel
theorem dX0_leaveWards_17 : decode cX0_leaveWards 17 = .ok (.if_icmp .eq 6, 3) := by decide +kernel
theorem dX0_leaveWards_20 : decode cX0_leaveWards 20 = .ok (.goto 40, 3) := by decide +kernel
theorem dX0_leaveWards_23 : decode cX0_leaveWards 23 = .ok (.aload_n 0, 1) := by decide +kernel
theorem dX0_leaveWards_24 : decode cX0_leaveWards 24 = .ok (.getfield 28, 3) := by decide +kernel
theorem dX0_leaveWards_27 : decode cX0_leaveWards 27 = .ok (.iload_n 1, 1) := by decide +kernel
theorem dX0_leaveWards_28 : decode cX0_leaveWards 28 = .ok (.iaload, 1) := by decide +kernel
theorem dX0_leaveWards_29 : decode cX0_leaveWards 29 = .ok (.ifCond .ne 13, 3) := by decide +kernel
theorem dX0_leaveWards_32 : decode cX0_leaveWards 32 = .ok (.aload_n 0, 1) := by decide +kernel
theorem dX0_leaveWards_33 : decode cX0_leaveWards 33 = .ok (.iload_n 1, 1) := by decide +kernel
theorem dX0_leaveWards_34 : decode cX0_leaveWards 34 = .ok (.iconst 2, 1) := by decide +kernel
theorem dX0_leaveWards_35 : decode cX0_leaveWards 35 = .ok (.iconst (-1), 1) := by decide +kernel
theorem dX0_leaveWards_36 : decode cX0_leaveWards 36 = .ok (.invokevirtual 68, 3) := by decide +kernel
theorem dX0_leaveWards_39 : decode cX0_leaveWards 39 = .ok (.goto 21, 3) := by decide +kernel
theorem dX0_leaveWards_42 : decode cX0_leaveWards 42 = .ok (.aload_n 0, 1) := by decide +kernel
theorem dX0_leaveWards_43 : decode cX0_leaveWards 43 = .ok (.getfield 28, 3) := by decide +kernel
theorem dX0_leaveWards_46 : decode cX0_leaveWards 46 = .ok (.iload_n 1, 1) := by decide +kernel
theorem dX0_leaveWards_47 : decode cX0_leaveWards 47 = .ok (.iaload, 1) := by decide +kernel
theorem dX0_leaveWards_48 : decode cX0_leaveWards 48 = .ok (.bipush 10, 2) := by decide +kernel
theorem dX0_leaveWards_50 : decode cX0_leaveWards 50 = .ok (.if_icmp .ne 10, 3) := by decide +kernel
theorem dX0_leaveWards_53 : decode cX0_leaveWards 53 = .ok (.aload_n 0, 1) := by decide +kernel
theorem dX0_leaveWards_54 : decode cX0_leaveWards 54 = .ok (.iload_n 1, 1) := by decide +kernel
theorem dX0_leaveWards_55 : decode cX0_leaveWards 55 = .ok (.iconst 3, 1) := by decide +kernel
theorem dX0_leaveWards_56 : decode cX0_leaveWards 56 = .ok (.iconst (-1), 1) := by decide +kernel
theorem dX0_leaveWards_57 : decode cX0_leaveWards 57 = .ok (.invokevirtual 68, 3) := by decide +kernel
theorem dX0_leaveWards_60 : decode cX0_leaveWards 60 = .ok (.iinc 1 1, 3) := by decide +kernel
theorem dX0_leaveWards_63 : decode cX0_leaveWards 63 = .ok (.goto (-61), 3) := by decide +kernel
theorem dX0_leaveWards_66 : decode cX0_leaveWards 66 = .ok (.return_, 1) := by decide +kernel
set_option maxRecDepth 20000 in
theorem ggX0_landBarges_X0_freeIn : GoodIn wsX0_landBarges wsX0_freeIn := goodIn_r _ [10, 11, 12, 13, 14, 9, 15, 16, 17, 18, 19, 20, 21, 22, 36, 37, 38, 39, 40, 41, 42, 43, 44, 45, 46, 47, 48, 49, 50, 51] (by decide +kernel) (by decide +kernel)
set_option maxRecDepth 20000 in
theorem gX0_landBarges_X0_freeIn : GoodIn wsX0_landBarges (wsV RX0 117 RX0 yX0_freeIn wsX0_freeIn) := goodIn_app (goodIn_of _ (by decide +kernel)) ggX0_landBarges_X0_freeIn
set_option maxRecDepth 20000 in
theorem ggX0_landBarges_X0_landAll : GoodIn wsX0_landBarges wsX0_landAll := goodIn_r _ [26, 16, 27, 17, 18, 19, 9, 20, 21, 22, 28, 29, 30, 31, 32, 33, 34, 35, 1, 2, 36, 37, 38, 39, 40, 41, 42, 43, 44, 45, 46, 47, 48, 49, 50, 51] (by decide +kernel) (by decide +kernel)
set_option maxRecDepth 20000 in
theorem gX0_landBarges_X0_landAll : GoodIn wsX0_landBarges (wsV RX0 120 RX0 yX0_landAll wsX0_landAll) := goodIn_app (goodIn_of _ (by decide +kernel)) ggX0_landBarges_X0_landAll
theorem dX0_landBarges_0 : decode cX0_landBarges 0 = .ok (.iconst 0, 1) := by decide +kernel
theorem dX0_landBarges_1 : decode cX0_landBarges 1 = .ok (.istore_n 1, 1) := by decide +kernel
theorem dX0_landBarges_2 : decode cX0_landBarges 2 = .ok (.iload_n 1, 1) := by decide +kernel
theorem dX0_landBarges_3 : decode cX0_landBarges 3 = .ok (.aload_n 0, 1) := by decide +kernel
theorem dX0_landBarges_4 : decode cX0_landBarges 4 = .ok (.getfield 53, 3) := by decide +kernel
theorem dX0_landBarges_7 : decode cX0_landBarges 7 = .ok (.if_icmp .ge 20, 3) := by decide +kernel
theorem dX0_landBarges_10 : decode cX0_landBarges 10 = .ok (.aload_n 0, 1) := by decide +kernel
theorem dX0_landBarges_11 : decode cX0_landBarges 11 = .ok (.getfield 44, 3) := by decide +kernel
theorem dX0_landBarges_14 : decode cX0_landBarges 14 = .ok (.iload_n 1, 1) := by decide +kernel
theorem dX0_landBarges_15 : decode cX0_landBarges 15 = .ok (.aload_n 0, 1) := by decide +kernel
theorem dX0_landBarges_16 : decode cX0_landBarges 16 = .ok (.iload_n 1, 1) := by decide +kernel
theorem dX0_landBarges_17 : decode cX0_landBarges 17 = .ok (.invokevirtual 117, 3) := by decide +kernel
theorem dX0_landBarges_20 : decode cX0_landBarges 20 = .ok (.iastore, 1) := by decide +kernel
theorem dX0_landBarges_21 : decode cX0_landBarges 21 = .ok (.iinc 1 1, 3) := by decide +kernel
theorem dX0_landBarges_24 : decode cX0_landBarges 24 = .ok (.goto (-22), 3) := by decide +kernel
theorem dX0_landBarges_27 : decode cX0_landBarges 27 = .ok (.iconst 0, 1) := by decide +kernel
theorem dX0_landBarges_28 : decode cX0_landBarges 28 = .ok (.istore_n 1, 1) := by decide +kernel
theorem dX0_landBarges_29 : decode cX0_landBarges 29 = .ok (.iload_n 1, 1) := by decide +kernel
theorem dX0_landBarges_30 : decode cX0_landBarges 30 = .ok (.aload_n 0, 1) := by decide +kernel
theorem dX0_landBarges_31 : decode cX0_landBarges 31 = .ok (.getfield 56, 3) := by decide +kernel
theorem dX0_landBarges_34 : decode cX0_landBarges 34 = .ok (.if_icmp .ge 38, 3) := by decide +kernel
theorem dX0_landBarges_37 : decode cX0_landBarges 37 = .ok (.aload_n 0, 1) := by decide +kernel
theorem dX0_landBarges_38 : decode cX0_landBarges 38 = .ok (.getfield 25, 3) := by decide +kernel
theorem dX0_landBarges_41 : decode cX0_landBarges 41 = .ok (.iload_n 1, 1) := by decide +kernel
theorem dX0_landBarges_42 : decode cX0_landBarges 42 = .ok (.iaload, 1) := by decide +kernel
theorem dX0_landBarges_43 : decode cX0_landBarges 43 = .ok (.ifCond .ne 23, 3) := by decide +kernel
theorem dX0_landBarges_46 : decode cX0_landBarges 46 = .ok (.aload_n 0, 1) := by decide +kernel
theorem dX0_landBarges_47 : decode cX0_landBarges 47 = .ok (.iload_n 1, 1) := by decide +kernel
theorem dX0_landBarges_48 : decode cX0_landBarges 48 = .ok (.invokevirtual 120, 3) := by decide +kernel
theorem dX0_landBarges_51 : decode cX0_landBarges 51 = .ok (.ifCond .ne 15, 3) := by decide +kernel
theorem dX0_landBarges_54 : decode cX0_landBarges 54 = .ok (.aload_n 0, 1) := by decide +kernel
theorem dX0_landBarges_55 : decode cX0_landBarges 55 = .ok (.getfield 25, 3) := by decide +kernel
theorem dX0_landBarges_58 : decode cX0_landBarges 58 = .ok (.iload_n 1, 1) := by decide +kernel
theorem dX0_landBarges_59 : decode cX0_landBarges 59 = .ok (.aload_n 0, 1) := by decide +kernel
theorem dX0_landBarges_60 : decode cX0_landBarges 60 = .ok (.getfield 22, 3) := by decide +kernel
theorem dX0_landBarges_63 : decode cX0_landBarges 63 = .ok (.iload_n 1, 1) := by decide +kernel
theorem dX0_landBarges_64 : decode cX0_landBarges 64 = .ok (.iaload, 1) := by decide +kernel
theorem dX0_landBarges_65 : decode cX0_landBarges 65 = .ok (.iastore, 1) := by decide +kernel
theorem dX0_landBarges_66 : decode cX0_landBarges 66 = .ok (.iinc 1 1, 3) := by decide +kernel
theorem dX0_landBarges_69 : decode cX0_landBarges 69 = .ok (.goto (-40), 3) := by decide +kernel
theorem dX0_landBarges_72 : decode cX0_landBarges 72 = .ok (.return_, 1) := by decide +kernel
set_option maxRecDepth 20000 in
theorem ggX0_landAll_X0_isAt : GoodIn wsX0_landAll wsX0_isAt := goodIn_r _ [7, 8, 9, 20, 21, 22, 23, 24, 25, 26, 27, 28, 29, 30, 31, 32, 33, 34, 35] (by decide +kernel) (by decide +kernel)
set_option maxRecDepth 20000 in
theorem gX0_landAll_X0_isAt : GoodIn wsX0_landAll (wsV RX0 72 RX0 yX0_isAt wsX0_isAt) := goodIn_app (goodIn_of _ (by decide +kernel)) ggX0_landAll_X0_isAt
set_option maxRecDepth 20000 in
theorem ggX0_landAll_X0_move : GoodIn wsX0_landAll wsX0_move := goodIn_r _ [13, 8, 9, 20, 21, 22, 23, 24, 25, 26, 27, 28, 29, 30, 31, 32, 33, 34, 35] (by decide +kernel) (by decide +kernel)
set_option maxRecDepth 20000 in
theorem gX0_landAll_X0_move : GoodIn wsX0_landAll (wsV RX0 68 RX0 yX0_move wsX0_move) := goodIn_app (goodIn_of _ (by decide +kernel)) ggX0_landAll_X0_move
set_option maxRecDepth 20000 in
theorem ggX0_landAll_X0_takeFirstFreePlace : GoodIn wsX0_landAll wsX0_takeFirstFreePlace := goodIn_r _ [17, 18, 19, 20, 21, 22, 23, 24, 25, 26, 27, 28, 29, 30, 31, 32, 33, 34, 35] (by decide +kernel) (by decide +kernel)
set_option maxRecDepth 20000 in
theorem gX0_landAll_X0_takeFirstFreePlace : GoodIn wsX0_landAll (wsV RX0 124 RX0 yX0_takeFirstFreePlace wsX0_takeFirstFreePlace) := goodIn_app (goodIn_of _ (by decide +kernel)) ggX0_landAll_X0_takeFirstFreePlace
theorem dX0_landAll_0 : decode cX0_landAll 0 = .ok (.iconst 1, 1) := by decide +kernel
theorem dX0_landAll_1 : decode cX0_landAll 1 = .ok (.istore_n 2, 1) := by decide +kernel
theorem dX0_landAll_2 : decode cX0_landAll 2 = .ok (.iconst 0, 1) := by decide +kernel
theorem dX0_landAll_3 : decode cX0_landAll 3 = .ok (.istore_n 3, 1) := by decide +kernel
theorem dX0_landAll_4 : decode cX0_landAll 4 = .ok (.iload_n 3, 1) := by decide +kernel
theorem dX0_landAll_5 : decode cX0_landAll 5 = .ok (.aload_n 0, 1) := by decide +kernel
theorem dX0_landAll_6 : decode cX0_landAll 6 = .ok (.getfield 59, 3) := by decide +kernel
theorem dX0_landAll_9 : decode cX0_landAll 9 = .ok (.if_icmp .ge 66, 3) := by decide +kernel
theorem dX0_landAll_12 : decode cX0_landAll 12 = .ok (.aload_n 0, 1) := by decide +kernel
theorem dX0_landAll_13 : decode cX0_landAll 13 = .ok (.iload_n 3, 1) := by decide +kernel
theorem dX0_landAll_14 : decode cX0_landAll 14 = .ok (.iconst 0, 1) := by decide +kernel
theorem dX0_landAll_15 : decode cX0_landAll 15 = .ok (.iload_n 1, 1) := by decide +kernel
theorem dX0_landAll_16 : decode cX0_landAll 16 = .ok (.invokevirtual 72, 3) := by decide +kernel
theorem dX0_landAll_19 : decode cX0_landAll 19 = .ok (.ifCond .ne 6, 3) := by decide +kernel
theorem dX0_landAll_22 : decode cX0_landAll 22 = .ok (.goto 47, 3) := by decide +kernel
theorem dX0_landAll_25 : decode cX0_landAll 25 = .ok (.aload_n 0, 1) := by decide +kernel
theorem dX0_landAll_26 : decode cX0_landAll 26 = .ok (.getfield 28, 3) := by decide +kernel
theorem dX0_landAll_29 : decode cX0_landAll 29 = .ok (.iload_n 3, 1) := by decide +kernel
theorem dX0_landAll_30 : decode cX0_landAll 30 = .ok (.iaload, 1) := by decide +kernel
theorem dX0_landAll_31 : decode cX0_landAll 31 = .ok (.ifCond .ne 13, 3) := by decide +kernel
theorem dX0_landAll_34 : decode cX0_landAll 34 = .ok (.aload_n 0, 1) := by decide +kernel
theorem dX0_landAll_35 : decode cX0_landAll 35 = .ok (.iload_n 3, 1) := by decide +kernel
theorem dX0_landAll_36 : decode cX0_landAll 36 = .ok (.iconst 2, 1) := by decide +kernel
theorem dX0_landAll_37 : decode cX0_landAll 37 = .ok (.iconst (-1), 1) := by decide +kernel
theorem dX0_landAll_38 : decode cX0_landAll 38 = .ok (.invokevirtual 68, 3) := by decide +kernel
theorem dX0_landAll_41 : decode cX0_landAll 41 = .ok (.goto 28, 3) := by decide +kernel
theorem dX0_landAll_44 : decode cX0_landAll 44 = .ok (.aload_n 0, 1) := by decide +kernel
theorem dX0_landAll_45 : decode cX0_landAll 45 = .ok (.invokevirtual 124, 3) := by decide +kernel
theorem dX0_landAll_48 : decode cX0_landAll 48 = .ok (.istore 4, 2) := by decide +kernel
theorem dX0_landAll_50 : decode cX0_landAll 50 = .ok (.iload 4, 2) := by decide +kernel
theorem dX0_landAll_52 : decode cX0_landAll 52 = .ok (.iconst (-1), 1) := by decide +kernel
theorem dX0_landAll_53 : decode cX0_landAll 53 = .ok (.if_icmp .ne 8, 3) := by decide +kernel
theorem dX0_landAll_56 : decode cX0_landAll 56 = .ok (.iconst 0, 1) := by decide +kernel
theorem dX0_landAll_57 : decode cX0_landAll 57 = .ok (.istore_n 2, 1) := by decide +kernel
theorem dX0_landAll_58 : decode cX0_landAll 58 = .ok (.goto 11, 3) := by decide +kernel
theorem dX0_landAll_61 : decode cX0_landAll 61 = .ok (.aload_n 0, 1) := by decide +kernel
theorem dX0_landAll_62 : decode cX0_landAll 62 = .ok (.iload_n 3, 1) := by decide +kernel
theorem dX0_landAll_63 : decode cX0_landAll 63 = .ok (.iconst 1, 1) := by decide +kernel
theorem dX0_landAll_64 : decode cX0_landAll 64 = .ok (.iload 4, 2) := by decide +kernel
theorem dX0_landAll_66 : decode cX0_landAll 66 = .ok (.invokevirtual 68, 3) := by decide +kernel
theorem dX0_landAll_69 : decode cX0_landAll 69 = .ok (.iinc 3 1, 3) := by decide +kernel
theorem dX0_landAll_72 : decode cX0_landAll 72 = .ok (.goto (-68), 3) := by decide +kernel
theorem dX0_landAll_75 : decode cX0_landAll 75 = .ok (.iload_n 2, 1) := by decide +kernel
theorem dX0_landAll_76 : decode cX0_landAll 76 = .ok (.ireturn, 1) := by decide +kernel
theorem dX0_takeFirstFreePlace_0 : decode cX0_takeFirstFreePlace 0 = .ok (.iconst 0, 1) := by decide +kernel
theorem dX0_takeFirstFreePlace_1 : decode cX0_takeFirstFreePlace 1 = .ok (.istore_n 1, 1) := by decide +kernel
theorem dX0_takeFirstFreePlace_2 : decode cX0_takeFirstFreePlace 2 = .ok (.iload_n 1, 1) := by decide +kernel
theorem dX0_takeFirstFreePlace_3 : decode cX0_takeFirstFreePlace 3 = .ok (.aload_n 0, 1) := by decide +kernel
theorem dX0_takeFirstFreePlace_4 : decode cX0_takeFirstFreePlace 4 = .ok (.getfield 53, 3) := by decide +kernel
theorem dX0_takeFirstFreePlace_7 : decode cX0_takeFirstFreePlace 7 = .ok (.if_icmp .ge 30, 3) := by decide +kernel
theorem dX0_takeFirstFreePlace_10 : decode cX0_takeFirstFreePlace 10 = .ok (.aload_n 0, 1) := by decide +kernel
theorem dX0_takeFirstFreePlace_11 : decode cX0_takeFirstFreePlace 11 = .ok (.getfield 44, 3) := by decide +kernel
theorem dX0_takeFirstFreePlace_14 : decode cX0_takeFirstFreePlace 14 = .ok (.iload_n 1, 1) := by decide +kernel
theorem dX0_takeFirstFreePlace_15 : decode cX0_takeFirstFreePlace 15 = .ok (.iaload, 1) := by decide +kernel
theorem dX0_takeFirstFreePlace_16 : decode cX0_takeFirstFreePlace 16 = .ok (.ifCond .le 15, 3) := by decide +kernel
theorem dX0_takeFirstFreePlace_19 : decode cX0_takeFirstFreePlace 19 = .ok (.aload_n 0, 1) := by decide +kernel
theorem dX0_takeFirstFreePlace_20 : decode cX0_takeFirstFreePlace 20 = .ok (.getfield 44, 3) := by decide +kernel
theorem dX0_takeFirstFreePlace_23 : decode cX0_takeFirstFreePlace 23 = .ok (.iload_n 1, 1) := by decide +kernel
theorem dX0_takeFirstFreePlace_24 : decode cX0_takeFirstFreePlace 24 = .ok (.dup2, 1) := by decide +kernel
theorem dX0_takeFirstFreePlace_25 : decode cX0_takeFirstFreePlace 25 = .ok (.iaload, 1) := by decide +kernel
theorem dX0_takeFirstFreePlace_26 : decode cX0_takeFirstFreePlace 26 = .ok (.iconst 1, 1) := by decide +kernel
theorem dX0_takeFirstFreePlace_27 : decode cX0_takeFirstFreePlace 27 = .ok (.isub, 1) := by decide +kernel
theorem dX0_takeFirstFreePlace_28 : decode cX0_takeFirstFreePlace 28 = .ok (.iastore, 1) := by decide +kernel
theorem dX0_takeFirstFreePlace_29 : decode cX0_takeFirstFreePlace 29 = .ok (.iload_n 1, 1) := by decide +kernel
theorem dX0_takeFirstFreePlace_30 : decode cX0_takeFirstFreePlace 30 = .ok (.ireturn, 1) := by decide +kernel
theorem dX0_takeFirstFreePlace_31 : decode cX0_takeFirstFreePlace 31 = .ok (.iinc 1 1, 3) := by decide +kernel
theorem dX0_takeFirstFreePlace_34 : decode cX0_takeFirstFreePlace 34 = .ok (.goto (-32), 3) := by decide +kernel
theorem dX0_takeFirstFreePlace_37 : decode cX0_takeFirstFreePlace 37 = .ok (.iconst (-1), 1) := by decide +kernel
theorem dX0_takeFirstFreePlace_38 : decode cX0_takeFirstFreePlace 38 = .ok (.ireturn, 1) := by decide +kernel
