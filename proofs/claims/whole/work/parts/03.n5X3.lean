set_option maxRecDepth 20000 in
theorem ggX3_init_X2_init : GoodIn wsX3_init wsX2_init := goodIn_r _ [10, 11, 2, 3, 12, 13, 14, 15, 16, 17, 18, 19, 20, 21, 22, 23, 24, 25, 26, 27, 28, 29, 30, 31, 32, 33] (by decide +kernel) (by decide +kernel)
set_option maxRecDepth 20000 in
theorem gX3_init_X2_init_n9 : GoodIn wsX3_init (wsX2_init) := ggX3_init_X2_init
theorem dX3_init_0 : decode cX3_init 0 = .ok (.aload_n 0, 1) := by decide +kernel
theorem dX3_init_1 : decode cX3_init 1 = .ok (.invokespecial 1, 3) := by decide +kernel
theorem dX3_init_4 : decode cX3_init 4 = .ok (.aload_n 0, 1) := by decide +kernel
theorem dX3_init_5 : decode cX3_init 5 = .ok (.new 7, 3) := by decide +kernel
theorem dX3_init_8 : decode cX3_init 8 = .ok (.dup, 1) := by decide +kernel
theorem dX3_init_9 : decode cX3_init 9 = .ok (.invokespecial 9, 3) := by decide +kernel
theorem dX3_init_12 : decode cX3_init 12 = .ok (.putfield 10, 3) := by decide +kernel
theorem dX3_init_15 : decode cX3_init 15 = .ok (.aload_n 0, 1) := by decide +kernel
theorem dX3_init_16 : decode cX3_init 16 = .ok (.new 7, 3) := by decide +kernel
theorem dX3_init_19 : decode cX3_init 19 = .ok (.dup, 1) := by decide +kernel
theorem dX3_init_20 : decode cX3_init 20 = .ok (.invokespecial 9, 3) := by decide +kernel
theorem dX3_init_23 : decode cX3_init 23 = .ok (.putfield 16, 3) := by decide +kernel
theorem dX3_init_26 : decode cX3_init 26 = .ok (.return_, 1) := by decide +kernel
theorem dX3_thrown_0 : decode cX3_thrown 0 = .ok (.aload_n 0, 1) := by decide +kernel
theorem dX3_thrown_1 : decode cX3_thrown 1 = .ok (.getfield 19, 3) := by decide +kernel
theorem dX3_thrown_4 : decode cX3_thrown 4 = .ok (.ireturn, 1) := by decide +kernel
theorem dX3_no_0 : decode cX3_no 0 = .ok (.aload_n 0, 1) := by decide +kernel
theorem dX3_no_1 : decode cX3_no 1 = .ok (.iload_n 1, 1) := by decide +kernel
theorem dX3_no_2 : decode cX3_no 2 = .ok (.putfield 19, 3) := by decide +kernel
theorem dX3_no_5 : decode cX3_no 5 = .ok (.iconst 0, 1) := by decide +kernel
theorem dX3_no_6 : decode cX3_no 6 = .ok (.ireturn, 1) := by decide +kernel
theorem dX3_isIn_0 : decode cX3_isIn 0 = .ok (.iload_n 0, 1) := by decide +kernel
theorem dX3_isIn_1 : decode cX3_isIn 1 = .ok (.iload_n 1, 1) := by decide +kernel
theorem dX3_isIn_2 : decode cX3_isIn 2 = .ok (.if_icmp .lt 12, 3) := by decide +kernel
theorem dX3_isIn_5 : decode cX3_isIn 5 = .ok (.iload_n 0, 1) := by decide +kernel
theorem dX3_isIn_6 : decode cX3_isIn 6 = .ok (.iload_n 2, 1) := by decide +kernel
theorem dX3_isIn_7 : decode cX3_isIn 7 = .ok (.if_icmp .gt 7, 3) := by decide +kernel
theorem dX3_isIn_10 : decode cX3_isIn 10 = .ok (.iconst 1, 1) := by decide +kernel
theorem dX3_isIn_11 : decode cX3_isIn 11 = .ok (.goto 4, 3) := by decide +kernel
theorem dX3_isIn_14 : decode cX3_isIn 14 = .ok (.iconst 0, 1) := by decide +kernel
theorem dX3_isIn_15 : decode cX3_isIn 15 = .ok (.ireturn, 1) := by decide +kernel
set_option maxRecDepth 20000 in
theorem ggX3_isWard_X3_isIn : GoodIn wsX3_isWard wsX3_isIn := goodIn_r _ [5] (by decide +kernel) (by decide +kernel)
set_option maxRecDepth 20000 in
theorem gX3_isWard_X3_isIn : GoodIn wsX3_isWard (va_wsS RX3 26 yX3_isIn wsX3_isIn) := goodIn_app (goodIn_of _ (by decide +kernel)) ggX3_isWard_X3_isIn
theorem dX3_isWard_0 : decode cX3_isWard 0 = .ok (.iload_n 1, 1) := by decide +kernel
theorem dX3_isWard_1 : decode cX3_isWard 1 = .ok (.iconst 0, 1) := by decide +kernel
theorem dX3_isWard_2 : decode cX3_isWard 2 = .ok (.aload_n 0, 1) := by decide +kernel
theorem dX3_isWard_3 : decode cX3_isWard 3 = .ok (.getfield 10, 3) := by decide +kernel
theorem dX3_isWard_6 : decode cX3_isWard 6 = .ok (.getfield 23, 3) := by decide +kernel
theorem dX3_isWard_9 : decode cX3_isWard 9 = .ok (.iconst 1, 1) := by decide +kernel
theorem dX3_isWard_10 : decode cX3_isWard 10 = .ok (.isub, 1) := by decide +kernel
theorem dX3_isWard_11 : decode cX3_isWard 11 = .ok (.invokestatic 26, 3) := by decide +kernel
theorem dX3_isWard_14 : decode cX3_isWard 14 = .ok (.ireturn, 1) := by decide +kernel
set_option maxRecDepth 20000 in
theorem ggX3_isBarge_X3_isIn : GoodIn wsX3_isBarge wsX3_isIn := goodIn_r _ [5] (by decide +kernel) (by decide +kernel)
set_option maxRecDepth 20000 in
theorem gX3_isBarge_X3_isIn : GoodIn wsX3_isBarge (va_wsS RX3 26 yX3_isIn wsX3_isIn) := goodIn_app (goodIn_of _ (by decide +kernel)) ggX3_isBarge_X3_isIn
theorem dX3_isBarge_0 : decode cX3_isBarge 0 = .ok (.iload_n 1, 1) := by decide +kernel
theorem dX3_isBarge_1 : decode cX3_isBarge 1 = .ok (.iconst 0, 1) := by decide +kernel
theorem dX3_isBarge_2 : decode cX3_isBarge 2 = .ok (.aload_n 0, 1) := by decide +kernel
theorem dX3_isBarge_3 : decode cX3_isBarge 3 = .ok (.getfield 10, 3) := by decide +kernel
theorem dX3_isBarge_6 : decode cX3_isBarge 6 = .ok (.getfield 30, 3) := by decide +kernel
theorem dX3_isBarge_9 : decode cX3_isBarge 9 = .ok (.iconst 1, 1) := by decide +kernel
theorem dX3_isBarge_10 : decode cX3_isBarge 10 = .ok (.isub, 1) := by decide +kernel
theorem dX3_isBarge_11 : decode cX3_isBarge 11 = .ok (.invokestatic 26, 3) := by decide +kernel
theorem dX3_isBarge_14 : decode cX3_isBarge 14 = .ok (.ireturn, 1) := by decide +kernel
set_option maxRecDepth 20000 in
theorem ggX3_isPerson_X3_isIn : GoodIn wsX3_isPerson wsX3_isIn := goodIn_r _ [5] (by decide +kernel) (by decide +kernel)
set_option maxRecDepth 20000 in
theorem gX3_isPerson_X3_isIn : GoodIn wsX3_isPerson (va_wsS RX3 26 yX3_isIn wsX3_isIn) := goodIn_app (goodIn_of _ (by decide +kernel)) ggX3_isPerson_X3_isIn
theorem dX3_isPerson_0 : decode cX3_isPerson 0 = .ok (.iload_n 1, 1) := by decide +kernel
theorem dX3_isPerson_1 : decode cX3_isPerson 1 = .ok (.iconst 0, 1) := by decide +kernel
theorem dX3_isPerson_2 : decode cX3_isPerson 2 = .ok (.aload_n 0, 1) := by decide +kernel
theorem dX3_isPerson_3 : decode cX3_isPerson 3 = .ok (.getfield 10, 3) := by decide +kernel
theorem dX3_isPerson_6 : decode cX3_isPerson 6 = .ok (.getfield 33, 3) := by decide +kernel
theorem dX3_isPerson_9 : decode cX3_isPerson 9 = .ok (.iconst 1, 1) := by decide +kernel
theorem dX3_isPerson_10 : decode cX3_isPerson 10 = .ok (.isub, 1) := by decide +kernel
theorem dX3_isPerson_11 : decode cX3_isPerson 11 = .ok (.invokestatic 26, 3) := by decide +kernel
theorem dX3_isPerson_14 : decode cX3_isPerson 14 = .ok (.ireturn, 1) := by decide +kernel
set_option maxRecDepth 20000 in
theorem ggX3_addWard_X3_isIn : GoodIn wsX3_addWard wsX3_isIn := goodIn_r _ [6] (by decide +kernel) (by decide +kernel)
set_option maxRecDepth 20000 in
theorem gX3_addWard_X3_isIn : GoodIn wsX3_addWard (va_wsS RX3 26 yX3_isIn wsX3_isIn) := goodIn_app (goodIn_of _ (by decide +kernel)) ggX3_addWard_X3_isIn
set_option maxRecDepth 20000 in
theorem ggX3_addWard_X3_no : GoodIn wsX3_addWard wsX3_no := goodIn_r _ [10, 1, 11, 12, 13] (by decide +kernel) (by decide +kernel)
set_option maxRecDepth 20000 in
theorem gX3_addWard_X3_no : GoodIn wsX3_addWard (wsV RX3 36 RX3 yX3_no wsX3_no) := goodIn_app (goodIn_of _ (by decide +kernel)) ggX3_addWard_X3_no
theorem dX3_addWard_0 : decode cX3_addWard 0 = .ok (.aload_n 0, 1) := by decide +kernel
theorem dX3_addWard_1 : decode cX3_addWard 1 = .ok (.iconst 0, 1) := by decide +kernel
theorem dX3_addWard_2 : decode cX3_addWard 2 = .ok (.putfield 19, 3) := by decide +kernel
theorem dX3_addWard_5 : decode cX3_addWard 5 = .ok (.iload_n 1, 1) := by decide +kernel
theorem dX3_addWard_6 : decode cX3_addWard 6 = .ok (.iconst 1, 1) := by decide +kernel
theorem dX3_addWard_7 : decode cX3_addWard 7 = .ok (.bipush 8, 2) := by decide +kernel
theorem dX3_addWard_9 : decode cX3_addWard 9 = .ok (.invokestatic 26, 3) := by decide +kernel
theorem dX3_addWard_12 : decode cX3_addWard 12 = .ok (.ifCond .ne 9, 3) := by decide +kernel
theorem dX3_addWard_15 : decode cX3_addWard 15 = .ok (.aload_n 0, 1) := by decide +kernel
theorem dX3_addWard_16 : decode cX3_addWard 16 = .ok (.iconst 1, 1) := by decide +kernel
theorem dX3_addWard_17 : decode cX3_addWard 17 = .ok (.invokevirtual 36, 3) := by decide +kernel
theorem dX3_addWard_20 : decode cX3_addWard 20 = .ok (.ireturn, 1) := by decide +kernel
theorem dX3_addWard_21 : decode cX3_addWard 21 = .ok (.aload_n 0, 1) := by decide +kernel
theorem dX3_addWard_22 : decode cX3_addWard 22 = .ok (.getfield 10, 3) := by decide +kernel
theorem dX3_addWard_25 : decode cX3_addWard 25 = .ok (.getfield 23, 3) := by decide +kernel
theorem dX3_addWard_28 : decode cX3_addWard 28 = .ok (.iconst 5, 1) := by decide +kernel
theorem dX3_addWard_29 : decode cX3_addWard 29 = .ok (.if_icmp .ne 9, 3) := by decide +kernel
theorem dX3_addWard_32 : decode cX3_addWard 32 = .ok (.aload_n 0, 1) := by decide +kernel
theorem dX3_addWard_33 : decode cX3_addWard 33 = .ok (.iconst 2, 1) := by decide +kernel
theorem dX3_addWard_34 : decode cX3_addWard 34 = .ok (.invokevirtual 36, 3) := by decide +kernel
theorem dX3_addWard_37 : decode cX3_addWard 37 = .ok (.ireturn, 1) := by decide +kernel
theorem dX3_addWard_38 : decode cX3_addWard 38 = .ok (.aload_n 0, 1) := by decide +kernel
theorem dX3_addWard_39 : decode cX3_addWard 39 = .ok (.getfield 10, 3) := by decide +kernel
theorem dX3_addWard_42 : decode cX3_addWard 42 = .ok (.getfield 40, 3) := by decide +kernel
theorem dX3_addWard_45 : decode cX3_addWard 45 = .ok (.aload_n 0, 1) := by decide +kernel
theorem dX3_addWard_46 : decode cX3_addWard 46 = .ok (.getfield 10, 3) := by decide +kernel
theorem dX3_addWard_49 : decode cX3_addWard 49 = .ok (.getfield 23, 3) := by decide +kernel
theorem dX3_addWard_52 : decode cX3_addWard 52 = .ok (.iload_n 1, 1) := by decide +kernel
theorem dX3_addWard_53 : decode cX3_addWard 53 = .ok (.iastore, 1) := by decide +kernel
theorem dX3_addWard_54 : decode cX3_addWard 54 = .ok (.aload_n 0, 1) := by decide +kernel
theorem dX3_addWard_55 : decode cX3_addWard 55 = .ok (.getfield 10, 3) := by decide +kernel
theorem dX3_addWard_58 : decode cX3_addWard 58 = .ok (.dup, 1) := by decide +kernel
theorem dX3_addWard_59 : decode cX3_addWard 59 = .ok (.getfield 23, 3) := by decide +kernel
theorem dX3_addWard_62 : decode cX3_addWard 62 = .ok (.iconst 1, 1) := by decide +kernel
theorem dX3_addWard_63 : decode cX3_addWard 63 = .ok (.iadd, 1) := by decide +kernel
theorem dX3_addWard_64 : decode cX3_addWard 64 = .ok (.putfield 23, 3) := by decide +kernel
theorem dX3_addWard_67 : decode cX3_addWard 67 = .ok (.aload_n 0, 1) := by decide +kernel
theorem dX3_addWard_68 : decode cX3_addWard 68 = .ok (.getfield 10, 3) := by decide +kernel
theorem dX3_addWard_71 : decode cX3_addWard 71 = .ok (.getfield 23, 3) := by decide +kernel
theorem dX3_addWard_74 : decode cX3_addWard 74 = .ok (.iconst 1, 1) := by decide +kernel
theorem dX3_addWard_75 : decode cX3_addWard 75 = .ok (.isub, 1) := by decide +kernel
theorem dX3_addWard_76 : decode cX3_addWard 76 = .ok (.ireturn, 1) := by decide +kernel
set_option maxRecDepth 20000 in
theorem ggX3_addBarge_X3_isIn : GoodIn wsX3_addBarge wsX3_isIn := goodIn_r _ [6] (by decide +kernel) (by decide +kernel)
set_option maxRecDepth 20000 in
theorem gX3_addBarge_X3_isIn : GoodIn wsX3_addBarge (va_wsS RX3 26 yX3_isIn wsX3_isIn) := goodIn_app (goodIn_of _ (by decide +kernel)) ggX3_addBarge_X3_isIn
set_option maxRecDepth 20000 in
theorem ggX3_addBarge_X3_no : GoodIn wsX3_addBarge wsX3_no := goodIn_r _ [10, 1, 11, 12, 13] (by decide +kernel) (by decide +kernel)
set_option maxRecDepth 20000 in
theorem gX3_addBarge_X3_no : GoodIn wsX3_addBarge (wsV RX3 36 RX3 yX3_no wsX3_no) := goodIn_app (goodIn_of _ (by decide +kernel)) ggX3_addBarge_X3_no
theorem dX3_addBarge_0 : decode cX3_addBarge 0 = .ok (.aload_n 0, 1) := by decide +kernel
theorem dX3_addBarge_1 : decode cX3_addBarge 1 = .ok (.iconst 0, 1) := by decide +kernel
theorem dX3_addBarge_2 : decode cX3_addBarge 2 = .ok (.putfield 19, 3) := by decide +kernel
theorem dX3_addBarge_5 : decode cX3_addBarge 5 = .ok (.iload_n 1, 1) := by decide +kernel
theorem dX3_addBarge_6 : decode cX3_addBarge 6 = .ok (.iconst 1, 1) := by decide +kernel
theorem dX3_addBarge_7 : decode cX3_addBarge 7 = .ok (.bipush 9, 2) := by decide +kernel
theorem dX3_addBarge_9 : decode cX3_addBarge 9 = .ok (.invokestatic 26, 3) := by decide +kernel
theorem dX3_addBarge_12 : decode cX3_addBarge 12 = .ok (.ifCond .ne 9, 3) := by decide +kernel
theorem dX3_addBarge_15 : decode cX3_addBarge 15 = .ok (.aload_n 0, 1) := by decide +kernel
theorem dX3_addBarge_16 : decode cX3_addBarge 16 = .ok (.iconst 1, 1) := by decide +kernel
theorem dX3_addBarge_17 : decode cX3_addBarge 17 = .ok (.invokevirtual 36, 3) := by decide +kernel
theorem dX3_addBarge_20 : decode cX3_addBarge 20 = .ok (.ireturn, 1) := by decide +kernel
theorem dX3_addBarge_21 : decode cX3_addBarge 21 = .ok (.aload_n 0, 1) := by decide +kernel
theorem dX3_addBarge_22 : decode cX3_addBarge 22 = .ok (.getfield 10, 3) := by decide +kernel
theorem dX3_addBarge_25 : decode cX3_addBarge 25 = .ok (.getfield 30, 3) := by decide +kernel
theorem dX3_addBarge_28 : decode cX3_addBarge 28 = .ok (.iconst 4, 1) := by decide +kernel
theorem dX3_addBarge_29 : decode cX3_addBarge 29 = .ok (.if_icmp .ne 9, 3) := by decide +kernel
theorem dX3_addBarge_32 : decode cX3_addBarge 32 = .ok (.aload_n 0, 1) := by decide +kernel
theorem dX3_addBarge_33 : decode cX3_addBarge 33 = .ok (.iconst 2, 1) := by decide +kernel
theorem dX3_addBarge_34 : decode cX3_addBarge 34 = .ok (.invokevirtual 36, 3) := by decide +kernel
theorem dX3_addBarge_37 : decode cX3_addBarge 37 = .ok (.ireturn, 1) := by decide +kernel
theorem dX3_addBarge_38 : decode cX3_addBarge 38 = .ok (.aload_n 0, 1) := by decide +kernel
theorem dX3_addBarge_39 : decode cX3_addBarge 39 = .ok (.getfield 10, 3) := by decide +kernel
theorem dX3_addBarge_42 : decode cX3_addBarge 42 = .ok (.getfield 44, 3) := by decide +kernel
theorem dX3_addBarge_45 : decode cX3_addBarge 45 = .ok (.aload_n 0, 1) := by decide +kernel
theorem dX3_addBarge_46 : decode cX3_addBarge 46 = .ok (.getfield 10, 3) := by decide +kernel
theorem dX3_addBarge_49 : decode cX3_addBarge 49 = .ok (.getfield 30, 3) := by decide +kernel
theorem dX3_addBarge_52 : decode cX3_addBarge 52 = .ok (.iload_n 1, 1) := by decide +kernel
theorem dX3_addBarge_53 : decode cX3_addBarge 53 = .ok (.iastore, 1) := by decide +kernel
theorem dX3_addBarge_54 : decode cX3_addBarge 54 = .ok (.aload_n 0, 1) := by decide +kernel
theorem dX3_addBarge_55 : decode cX3_addBarge 55 = .ok (.getfield 10, 3) := by decide +kernel
theorem dX3_addBarge_58 : decode cX3_addBarge 58 = .ok (.getfield 47, 3) := by decide +kernel
theorem dX3_addBarge_61 : decode cX3_addBarge 61 = .ok (.aload_n 0, 1) := by decide +kernel
theorem dX3_addBarge_62 : decode cX3_addBarge 62 = .ok (.getfield 10, 3) := by decide +kernel
theorem dX3_addBarge_65 : decode cX3_addBarge 65 = .ok (.getfield 30, 3) := by decide +kernel
theorem dX3_addBarge_68 : decode cX3_addBarge 68 = .ok (.iload_n 1, 1) := by decide +kernel
theorem dX3_addBarge_69 : decode cX3_addBarge 69 = .ok (.iastore, 1) := by decide +kernel
theorem dX3_addBarge_70 : decode cX3_addBarge 70 = .ok (.aload_n 0, 1) := by decide +kernel
theorem dX3_addBarge_71 : decode cX3_addBarge 71 = .ok (.getfield 10, 3) := by decide +kernel
theorem dX3_addBarge_74 : decode cX3_addBarge 74 = .ok (.dup, 1) := by decide +kernel
theorem dX3_addBarge_75 : decode cX3_addBarge 75 = .ok (.getfield 30, 3) := by decide +kernel
theorem dX3_addBarge_78 : decode cX3_addBarge 78 = .ok (.iconst 1, 1) := by decide +kernel
theorem dX3_addBarge_79 : decode cX3_addBarge 79 = .ok (.iadd, 1) := by decide +kernel
theorem dX3_addBarge_80 : decode cX3_addBarge 80 = .ok (.putfield 30, 3) := by decide +kernel
theorem dX3_addBarge_83 : decode cX3_addBarge 83 = .ok (.aload_n 0, 1) := by decide +kernel
theorem dX3_addBarge_84 : decode cX3_addBarge 84 = .ok (.getfield 10, 3) := by decide +kernel
theorem dX3_addBarge_87 : decode cX3_addBarge 87 = .ok (.getfield 30, 3) := by decide +kernel
theorem dX3_addBarge_90 : decode cX3_addBarge 90 = .ok (.iconst 1, 1) := by decide +kernel
theorem dX3_addBarge_91 : decode cX3_addBarge 91 = .ok (.isub, 1) := by decide +kernel
theorem dX3_addBarge_92 : decode cX3_addBarge 92 = .ok (.ireturn, 1) := by decide +kernel
set_option maxRecDepth 20000 in
theorem ggX3_board_X3_isBarge : GoodIn wsX3_board wsX3_isBarge := goodIn_r _ [7, 2, 8, 9, 6, 10, 15, 16, 17, 18, 19, 20, 21, 22, 23, 24, 25, 26, 27, 28, 29, 30] (by decide +kernel) (by decide +kernel)
set_option maxRecDepth 20000 in
theorem gX3_board_X3_isBarge : GoodIn wsX3_board (wsV RX3 50 RX3 yX3_isBarge wsX3_isBarge) := goodIn_app (goodIn_of _ (by decide +kernel)) ggX3_board_X3_isBarge
set_option maxRecDepth 20000 in
theorem ggX3_board_X3_no : GoodIn wsX3_board wsX3_no := goodIn_r _ [14, 1, 15, 16, 17] (by decide +kernel) (by decide +kernel)
set_option maxRecDepth 20000 in
theorem gX3_board_X3_no : GoodIn wsX3_board (wsV RX3 36 RX3 yX3_no wsX3_no) := goodIn_app (goodIn_of _ (by decide +kernel)) ggX3_board_X3_no
set_option maxRecDepth 20000 in
theorem ggX3_board_X3_isIn : GoodIn wsX3_board wsX3_isIn := goodIn_r _ [10] (by decide +kernel) (by decide +kernel)
set_option maxRecDepth 20000 in
theorem gX3_board_X3_isIn : GoodIn wsX3_board (va_wsS RX3 26 yX3_isIn wsX3_isIn) := goodIn_app (goodIn_of _ (by decide +kernel)) ggX3_board_X3_isIn
theorem dX3_board_0 : decode cX3_board 0 = .ok (.aload_n 0, 1) := by decide +kernel
theorem dX3_board_1 : decode cX3_board 1 = .ok (.iconst 0, 1) := by decide +kernel
theorem dX3_board_2 : decode cX3_board 2 = .ok (.putfield 19, 3) := by decide +kernel
theorem dX3_board_5 : decode cX3_board 5 = .ok (.aload_n 0, 1) := by decide +kernel
theorem dX3_board_6 : decode cX3_board 6 = .ok (.iload_n 1, 1) := by decide +kernel
theorem dX3_board_7 : decode cX3_board 7 = .ok (.invokevirtual 50, 3) := by decide +kernel
theorem dX3_board_10 : decode cX3_board 10 = .ok (.ifCond .ne 9, 3) := by decide +kernel
theorem dX3_board_13 : decode cX3_board 13 = .ok (.aload_n 0, 1) := by decide +kernel
theorem dX3_board_14 : decode cX3_board 14 = .ok (.iconst 1, 1) := by decide +kernel
theorem dX3_board_15 : decode cX3_board 15 = .ok (.invokevirtual 36, 3) := by decide +kernel
theorem dX3_board_18 : decode cX3_board 18 = .ok (.ireturn, 1) := by decide +kernel
theorem dX3_board_19 : decode cX3_board 19 = .ok (.iload_n 2, 1) := by decide +kernel
theorem dX3_board_20 : decode cX3_board 20 = .ok (.iconst 0, 1) := by decide +kernel
theorem dX3_board_21 : decode cX3_board 21 = .ok (.bipush 9, 2) := by decide +kernel
theorem dX3_board_23 : decode cX3_board 23 = .ok (.invokestatic 26, 3) := by decide +kernel
theorem dX3_board_26 : decode cX3_board 26 = .ok (.ifCond .ne 9, 3) := by decide +kernel
theorem dX3_board_29 : decode cX3_board 29 = .ok (.aload_n 0, 1) := by decide +kernel
theorem dX3_board_30 : decode cX3_board 30 = .ok (.iconst 2, 1) := by decide +kernel
theorem dX3_board_31 : decode cX3_board 31 = .ok (.invokevirtual 36, 3) := by decide +kernel
theorem dX3_board_34 : decode cX3_board 34 = .ok (.ireturn, 1) := by decide +kernel
theorem dX3_board_35 : decode cX3_board 35 = .ok (.aload_n 0, 1) := by decide +kernel
theorem dX3_board_36 : decode cX3_board 36 = .ok (.getfield 10, 3) := by decide +kernel
theorem dX3_board_39 : decode cX3_board 39 = .ok (.getfield 33, 3) := by decide +kernel
theorem dX3_board_42 : decode cX3_board 42 = .ok (.bipush 30, 2) := by decide +kernel
theorem dX3_board_44 : decode cX3_board 44 = .ok (.if_icmp .ne 9, 3) := by decide +kernel
theorem dX3_board_47 : decode cX3_board 47 = .ok (.aload_n 0, 1) := by decide +kernel
theorem dX3_board_48 : decode cX3_board 48 = .ok (.iconst 3, 1) := by decide +kernel
theorem dX3_board_49 : decode cX3_board 49 = .ok (.invokevirtual 36, 3) := by decide +kernel
theorem dX3_board_52 : decode cX3_board 52 = .ok (.ireturn, 1) := by decide +kernel
theorem dX3_board_53 : decode cX3_board 53 = .ok (.aload_n 0, 1) := by decide +kernel
theorem dX3_board_54 : decode cX3_board 54 = .ok (.getfield 10, 3) := by decide +kernel
theorem dX3_board_57 : decode cX3_board 57 = .ok (.getfield 54, 3) := by decide +kernel
theorem dX3_board_60 : decode cX3_board 60 = .ok (.aload_n 0, 1) := by decide +kernel
theorem dX3_board_61 : decode cX3_board 61 = .ok (.getfield 10, 3) := by decide +kernel
theorem dX3_board_64 : decode cX3_board 64 = .ok (.getfield 33, 3) := by decide +kernel
theorem dX3_board_67 : decode cX3_board 67 = .ok (.iload_n 2, 1) := by decide +kernel
theorem dX3_board_68 : decode cX3_board 68 = .ok (.iastore, 1) := by decide +kernel
theorem dX3_board_69 : decode cX3_board 69 = .ok (.aload_n 0, 1) := by decide +kernel
theorem dX3_board_70 : decode cX3_board 70 = .ok (.getfield 10, 3) := by decide +kernel
theorem dX3_board_73 : decode cX3_board 73 = .ok (.getfield 57, 3) := by decide +kernel
theorem dX3_board_76 : decode cX3_board 76 = .ok (.aload_n 0, 1) := by decide +kernel
theorem dX3_board_77 : decode cX3_board 77 = .ok (.getfield 10, 3) := by decide +kernel
theorem dX3_board_80 : decode cX3_board 80 = .ok (.getfield 33, 3) := by decide +kernel
theorem dX3_board_83 : decode cX3_board 83 = .ok (.bipush 10, 2) := by decide +kernel
theorem dX3_board_85 : decode cX3_board 85 = .ok (.iload_n 1, 1) := by decide +kernel
theorem dX3_board_86 : decode cX3_board 86 = .ok (.iadd, 1) := by decide +kernel
theorem dX3_board_87 : decode cX3_board 87 = .ok (.iastore, 1) := by decide +kernel
theorem dX3_board_88 : decode cX3_board 88 = .ok (.aload_n 0, 1) := by decide +kernel
theorem dX3_board_89 : decode cX3_board 89 = .ok (.getfield 10, 3) := by decide +kernel
theorem dX3_board_92 : decode cX3_board 92 = .ok (.dup, 1) := by decide +kernel
theorem dX3_board_93 : decode cX3_board 93 = .ok (.getfield 33, 3) := by decide +kernel
theorem dX3_board_96 : decode cX3_board 96 = .ok (.iconst 1, 1) := by decide +kernel
theorem dX3_board_97 : decode cX3_board 97 = .ok (.iadd, 1) := by decide +kernel
theorem dX3_board_98 : decode cX3_board 98 = .ok (.putfield 33, 3) := by decide +kernel
theorem dX3_board_101 : decode cX3_board 101 = .ok (.aload_n 0, 1) := by decide +kernel
theorem dX3_board_102 : decode cX3_board 102 = .ok (.getfield 10, 3) := by decide +kernel
theorem dX3_board_105 : decode cX3_board 105 = .ok (.getfield 47, 3) := by decide +kernel
theorem dX3_board_108 : decode cX3_board 108 = .ok (.iload_n 1, 1) := by decide +kernel
theorem dX3_board_109 : decode cX3_board 109 = .ok (.iaload, 1) := by decide +kernel
theorem dX3_board_110 : decode cX3_board 110 = .ok (.ifCond .ne 21, 3) := by decide +kernel
theorem dX3_board_113 : decode cX3_board 113 = .ok (.aload_n 0, 1) := by decide +kernel
theorem dX3_board_114 : decode cX3_board 114 = .ok (.getfield 10, 3) := by decide +kernel
theorem dX3_board_117 : decode cX3_board 117 = .ok (.getfield 47, 3) := by decide +kernel
theorem dX3_board_120 : decode cX3_board 120 = .ok (.iload_n 1, 1) := by decide +kernel
theorem dX3_board_121 : decode cX3_board 121 = .ok (.aload_n 0, 1) := by decide +kernel
theorem dX3_board_122 : decode cX3_board 122 = .ok (.getfield 10, 3) := by decide +kernel
theorem dX3_board_125 : decode cX3_board 125 = .ok (.getfield 44, 3) := by decide +kernel
theorem dX3_board_128 : decode cX3_board 128 = .ok (.iload_n 1, 1) := by decide +kernel
theorem dX3_board_129 : decode cX3_board 129 = .ok (.iaload, 1) := by decide +kernel
theorem dX3_board_130 : decode cX3_board 130 = .ok (.iastore, 1) := by decide +kernel
theorem dX3_board_131 : decode cX3_board 131 = .ok (.aload_n 0, 1) := by decide +kernel
theorem dX3_board_132 : decode cX3_board 132 = .ok (.getfield 10, 3) := by decide +kernel
theorem dX3_board_135 : decode cX3_board 135 = .ok (.getfield 33, 3) := by decide +kernel
theorem dX3_board_138 : decode cX3_board 138 = .ok (.iconst 1, 1) := by decide +kernel
theorem dX3_board_139 : decode cX3_board 139 = .ok (.isub, 1) := by decide +kernel
theorem dX3_board_140 : decode cX3_board 140 = .ok (.ireturn, 1) := by decide +kernel
set_option maxRecDepth 20000 in
theorem ggX3_setBowls_X3_isIn : GoodIn wsX3_setBowls wsX3_isIn := goodIn_r _ [6] (by decide +kernel) (by decide +kernel)
set_option maxRecDepth 20000 in
theorem gX3_setBowls_X3_isIn : GoodIn wsX3_setBowls (va_wsS RX3 26 yX3_isIn wsX3_isIn) := goodIn_app (goodIn_of _ (by decide +kernel)) ggX3_setBowls_X3_isIn
set_option maxRecDepth 20000 in
theorem ggX3_setBowls_X3_no : GoodIn wsX3_setBowls wsX3_no := goodIn_r _ [10, 1, 11, 12, 13] (by decide +kernel) (by decide +kernel)
set_option maxRecDepth 20000 in
theorem gX3_setBowls_X3_no : GoodIn wsX3_setBowls (wsV RX3 36 RX3 yX3_no wsX3_no) := goodIn_app (goodIn_of _ (by decide +kernel)) ggX3_setBowls_X3_no
theorem dX3_setBowls_0 : decode cX3_setBowls 0 = .ok (.aload_n 0, 1) := by decide +kernel
theorem dX3_setBowls_1 : decode cX3_setBowls 1 = .ok (.iconst 0, 1) := by decide +kernel
theorem dX3_setBowls_2 : decode cX3_setBowls 2 = .ok (.putfield 19, 3) := by decide +kernel
theorem dX3_setBowls_5 : decode cX3_setBowls 5 = .ok (.iload_n 1, 1) := by decide +kernel
theorem dX3_setBowls_6 : decode cX3_setBowls 6 = .ok (.iconst 0, 1) := by decide +kernel
theorem dX3_setBowls_7 : decode cX3_setBowls 7 = .ok (.bipush 60, 2) := by decide +kernel
theorem dX3_setBowls_9 : decode cX3_setBowls 9 = .ok (.invokestatic 26, 3) := by decide +kernel
theorem dX3_setBowls_12 : decode cX3_setBowls 12 = .ok (.ifCond .ne 9, 3) := by decide +kernel
theorem dX3_setBowls_15 : decode cX3_setBowls 15 = .ok (.aload_n 0, 1) := by decide +kernel
theorem dX3_setBowls_16 : decode cX3_setBowls 16 = .ok (.iconst 1, 1) := by decide +kernel
theorem dX3_setBowls_17 : decode cX3_setBowls 17 = .ok (.invokevirtual 36, 3) := by decide +kernel
theorem dX3_setBowls_20 : decode cX3_setBowls 20 = .ok (.ireturn, 1) := by decide +kernel
theorem dX3_setBowls_21 : decode cX3_setBowls 21 = .ok (.aload_n 0, 1) := by decide +kernel
theorem dX3_setBowls_22 : decode cX3_setBowls 22 = .ok (.getfield 10, 3) := by decide +kernel
theorem dX3_setBowls_25 : decode cX3_setBowls 25 = .ok (.getfield 60, 3) := by decide +kernel
theorem dX3_setBowls_28 : decode cX3_setBowls 28 = .ok (.istore_n 2, 1) := by decide +kernel
theorem dX3_setBowls_29 : decode cX3_setBowls 29 = .ok (.aload_n 0, 1) := by decide +kernel
theorem dX3_setBowls_30 : decode cX3_setBowls 30 = .ok (.getfield 10, 3) := by decide +kernel
theorem dX3_setBowls_33 : decode cX3_setBowls 33 = .ok (.iload_n 1, 1) := by decide +kernel
theorem dX3_setBowls_34 : decode cX3_setBowls 34 = .ok (.putfield 60, 3) := by decide +kernel
theorem dX3_setBowls_37 : decode cX3_setBowls 37 = .ok (.iload_n 2, 1) := by decide +kernel
theorem dX3_setBowls_38 : decode cX3_setBowls 38 = .ok (.ireturn, 1) := by decide +kernel
set_option maxRecDepth 20000 in
theorem ggX3_layStraw_X3_isWard : GoodIn wsX3_layStraw wsX3_isWard := goodIn_r _ [7, 2, 8, 9, 6, 10, 15, 16, 17, 18, 19, 20, 21, 22, 23, 24, 25, 26, 27, 28, 29, 30] (by decide +kernel) (by decide +kernel)
set_option maxRecDepth 20000 in
theorem gX3_layStraw_X3_isWard : GoodIn wsX3_layStraw (wsV RX3 63 RX3 yX3_isWard wsX3_isWard) := goodIn_app (goodIn_of _ (by decide +kernel)) ggX3_layStraw_X3_isWard
set_option maxRecDepth 20000 in
theorem ggX3_layStraw_X3_no : GoodIn wsX3_layStraw wsX3_no := goodIn_r _ [14, 1, 15, 16, 17] (by decide +kernel) (by decide +kernel)
set_option maxRecDepth 20000 in
theorem gX3_layStraw_X3_no : GoodIn wsX3_layStraw (wsV RX3 36 RX3 yX3_no wsX3_no) := goodIn_app (goodIn_of _ (by decide +kernel)) ggX3_layStraw_X3_no
theorem dX3_layStraw_0 : decode cX3_layStraw 0 = .ok (.aload_n 0, 1) := by decide +kernel
theorem dX3_layStraw_1 : decode cX3_layStraw 1 = .ok (.iconst 0, 1) := by decide +kernel
theorem dX3_layStraw_2 : decode cX3_layStraw 2 = .ok (.putfield 19, 3) := by decide +kernel
theorem dX3_layStraw_5 : decode cX3_layStraw 5 = .ok (.aload_n 0, 1) := by decide +kernel
theorem dX3_layStraw_6 : decode cX3_layStraw 6 = .ok (.iload_n 1, 1) := by decide +kernel
theorem dX3_layStraw_7 : decode cX3_layStraw 7 = .ok (.invokevirtual 63, 3) := by decide +kernel
theorem dX3_layStraw_10 : decode cX3_layStraw 10 = .ok (.ifCond .ne 9, 3) := by decide +kernel
theorem dX3_layStraw_13 : decode cX3_layStraw 13 = .ok (.aload_n 0, 1) := by decide +kernel
theorem dX3_layStraw_14 : decode cX3_layStraw 14 = .ok (.iconst 1, 1) := by decide +kernel
theorem dX3_layStraw_15 : decode cX3_layStraw 15 = .ok (.invokevirtual 36, 3) := by decide +kernel
theorem dX3_layStraw_18 : decode cX3_layStraw 18 = .ok (.ireturn, 1) := by decide +kernel
theorem dX3_layStraw_19 : decode cX3_layStraw 19 = .ok (.aload_n 0, 1) := by decide +kernel
theorem dX3_layStraw_20 : decode cX3_layStraw 20 = .ok (.getfield 10, 3) := by decide +kernel
theorem dX3_layStraw_23 : decode cX3_layStraw 23 = .ok (.getfield 66, 3) := by decide +kernel
theorem dX3_layStraw_26 : decode cX3_layStraw 26 = .ok (.iload_n 1, 1) := by decide +kernel
theorem dX3_layStraw_27 : decode cX3_layStraw 27 = .ok (.iaload, 1) := by decide +kernel
theorem dX3_layStraw_28 : decode cX3_layStraw 28 = .ok (.istore_n 2, 1) := by decide +kernel
theorem dX3_layStraw_29 : decode cX3_layStraw 29 = .ok (.aload_n 0, 1) := by decide +kernel
theorem dX3_layStraw_30 : decode cX3_layStraw 30 = .ok (.getfield 10, 3) := by decide +kernel
theorem dX3_layStraw_33 : decode cX3_layStraw 33 = .ok (.getfield 66, 3) := by decide +kernel
theorem dX3_layStraw_36 : decode cX3_layStraw 36 = .ok (.iload_n 1, 1) := by decide +kernel
theorem dX3_layStraw_37 : decode cX3_layStraw 37 = .ok (.iconst 0, 1) := by decide +kernel
theorem dX3_layStraw_38 : decode cX3_layStraw 38 = .ok (.iastore, 1) := by decide +kernel
theorem dX3_layStraw_39 : decode cX3_layStraw 39 = .ok (.iload_n 2, 1) := by decide +kernel
theorem dX3_layStraw_40 : decode cX3_layStraw 40 = .ok (.ireturn, 1) := by decide +kernel
set_option maxRecDepth 20000 in
theorem ggX3_carry_X3_isPerson : GoodIn wsX3_carry wsX3_isPerson := goodIn_r _ [7, 2, 8, 9, 6, 10, 26, 27, 28, 29, 30, 31, 32, 33, 34, 35, 36, 37, 38, 39, 40, 41] (by decide +kernel) (by decide +kernel)
set_option maxRecDepth 20000 in
theorem gX3_carry_X3_isPerson : GoodIn wsX3_carry (wsV RX3 69 RX3 yX3_isPerson wsX3_isPerson) := goodIn_app (goodIn_of _ (by decide +kernel)) ggX3_carry_X3_isPerson
set_option maxRecDepth 20000 in
theorem ggX3_carry_X3_isWard : GoodIn wsX3_carry wsX3_isWard := goodIn_r _ [14, 2, 8, 9, 6, 10, 26, 27, 28, 29, 30, 31, 32, 33, 34, 35, 36, 37, 38, 39, 40, 41] (by decide +kernel) (by decide +kernel)
set_option maxRecDepth 20000 in
theorem gX3_carry_X3_isWard : GoodIn wsX3_carry (wsV RX3 63 RX3 yX3_isWard wsX3_isWard) := goodIn_app (goodIn_of _ (by decide +kernel)) ggX3_carry_X3_isWard
set_option maxRecDepth 20000 in
theorem ggX3_carry_X3_no : GoodIn wsX3_carry wsX3_no := goodIn_r _ [18, 1, 26, 27, 28] (by decide +kernel) (by decide +kernel)
set_option maxRecDepth 20000 in
theorem gX3_carry_X3_no : GoodIn wsX3_carry (wsV RX3 36 RX3 yX3_no wsX3_no) := goodIn_app (goodIn_of _ (by decide +kernel)) ggX3_carry_X3_no
set_option maxRecDepth 20000 in
theorem ggX3_carry_X2_at : GoodIn wsX3_carry wsX2_at := goodIn_r _ [23, 24, 25, 29, 30, 31, 32, 33, 34, 35, 36, 37, 38, 39, 40, 41] (by decide +kernel) (by decide +kernel)
set_option maxRecDepth 20000 in
theorem gX3_carry_X2_at : GoodIn wsX3_carry (wsV RX3 72 RX2 yX2_at wsX2_at) := goodIn_app (goodIn_of _ (by decide +kernel)) ggX3_carry_X2_at
theorem dX3_carry_0 : decode cX3_carry 0 = .ok (.aload_n 0, 1) := by decide +kernel
theorem dX3_carry_1 : decode cX3_carry 1 = .ok (.iconst 0, 1) := by decide +kernel
theorem dX3_carry_2 : decode cX3_carry 2 = .ok (.putfield 19, 3) := by decide +kernel
theorem dX3_carry_5 : decode cX3_carry 5 = .ok (.aload_n 0, 1) := by decide +kernel
theorem dX3_carry_6 : decode cX3_carry 6 = .ok (.iload_n 1, 1) := by decide +kernel
theorem dX3_carry_7 : decode cX3_carry 7 = .ok (.invokevirtual 69, 3) := by decide +kernel
theorem dX3_carry_10 : decode cX3_carry 10 = .ok (.ifCond .eq 11, 3) := by decide +kernel
theorem dX3_carry_13 : decode cX3_carry 13 = .ok (.aload_n 0, 1) := by decide +kernel
theorem dX3_carry_14 : decode cX3_carry 14 = .ok (.iload_n 2, 1) := by decide +kernel
theorem dX3_carry_15 : decode cX3_carry 15 = .ok (.invokevirtual 63, 3) := by decide +kernel
theorem dX3_carry_18 : decode cX3_carry 18 = .ok (.ifCond .ne 9, 3) := by decide +kernel
theorem dX3_carry_21 : decode cX3_carry 21 = .ok (.aload_n 0, 1) := by decide +kernel
theorem dX3_carry_22 : decode cX3_carry 22 = .ok (.iconst 1, 1) := by decide +kernel
theorem dX3_carry_23 : decode cX3_carry 23 = .ok (.invokevirtual 36, 3) := by decide +kernel
theorem dX3_carry_26 : decode cX3_carry 26 = .ok (.ireturn, 1) := by decide +kernel
theorem dX3_carry_27 : decode cX3_carry 27 = .ok (.aload_n 0, 1) := by decide +kernel
theorem dX3_carry_28 : decode cX3_carry 28 = .ok (.getfield 10, 3) := by decide +kernel
theorem dX3_carry_31 : decode cX3_carry 31 = .ok (.getfield 57, 3) := by decide +kernel
theorem dX3_carry_34 : decode cX3_carry 34 = .ok (.iload_n 1, 1) := by decide +kernel
theorem dX3_carry_35 : decode cX3_carry 35 = .ok (.iaload, 1) := by decide +kernel
theorem dX3_carry_36 : decode cX3_carry 36 = .ok (.istore_n 3, 1) := by decide +kernel
theorem dX3_carry_37 : decode cX3_carry 37 = .ok (.iload_n 3, 1) := by decide +kernel
theorem dX3_carry_38 : decode cX3_carry 38 = .ok (.aload_n 0, 1) := by decide +kernel
theorem dX3_carry_39 : decode cX3_carry 39 = .ok (.getfield 10, 3) := by decide +kernel
theorem dX3_carry_42 : decode cX3_carry 42 = .ok (.getfield 23, 3) := by decide +kernel
theorem dX3_carry_45 : decode cX3_carry 45 = .ok (.if_icmp .ge 28, 3) := by decide +kernel
theorem dX3_carry_48 : decode cX3_carry 48 = .ok (.iload_n 3, 1) := by decide +kernel
theorem dX3_carry_49 : decode cX3_carry 49 = .ok (.iload_n 2, 1) := by decide +kernel
theorem dX3_carry_50 : decode cX3_carry 50 = .ok (.if_icmp .eq 23, 3) := by decide +kernel
theorem dX3_carry_53 : decode cX3_carry 53 = .ok (.aload_n 0, 1) := by decide +kernel
theorem dX3_carry_54 : decode cX3_carry 54 = .ok (.getfield 10, 3) := by decide +kernel
theorem dX3_carry_57 : decode cX3_carry 57 = .ok (.iload_n 2, 1) := by decide +kernel
theorem dX3_carry_58 : decode cX3_carry 58 = .ok (.invokevirtual 72, 3) := by decide +kernel
theorem dX3_carry_61 : decode cX3_carry 61 = .ok (.aload_n 0, 1) := by decide +kernel
theorem dX3_carry_62 : decode cX3_carry 62 = .ok (.getfield 10, 3) := by decide +kernel
theorem dX3_carry_65 : decode cX3_carry 65 = .ok (.getfield 40, 3) := by decide +kernel
theorem dX3_carry_68 : decode cX3_carry 68 = .ok (.iload_n 2, 1) := by decide +kernel
theorem dX3_carry_69 : decode cX3_carry 69 = .ok (.iaload, 1) := by decide +kernel
theorem dX3_carry_70 : decode cX3_carry 70 = .ok (.if_icmp .lt 9, 3) := by decide +kernel
theorem dX3_carry_73 : decode cX3_carry 73 = .ok (.aload_n 0, 1) := by decide +kernel
theorem dX3_carry_74 : decode cX3_carry 74 = .ok (.iconst 2, 1) := by decide +kernel
theorem dX3_carry_75 : decode cX3_carry 75 = .ok (.invokevirtual 36, 3) := by decide +kernel
theorem dX3_carry_78 : decode cX3_carry 78 = .ok (.ireturn, 1) := by decide +kernel
theorem dX3_carry_79 : decode cX3_carry 79 = .ok (.aload_n 0, 1) := by decide +kernel
theorem dX3_carry_80 : decode cX3_carry 80 = .ok (.getfield 10, 3) := by decide +kernel
theorem dX3_carry_83 : decode cX3_carry 83 = .ok (.getfield 57, 3) := by decide +kernel
theorem dX3_carry_86 : decode cX3_carry 86 = .ok (.iload_n 1, 1) := by decide +kernel
theorem dX3_carry_87 : decode cX3_carry 87 = .ok (.iload_n 2, 1) := by decide +kernel
theorem dX3_carry_88 : decode cX3_carry 88 = .ok (.iastore, 1) := by decide +kernel
theorem dX3_carry_89 : decode cX3_carry 89 = .ok (.iload_n 3, 1) := by decide +kernel
theorem dX3_carry_90 : decode cX3_carry 90 = .ok (.ireturn, 1) := by decide +kernel
set_option maxRecDepth 20000 in
theorem ggX3_pass_X3_isIn : GoodIn wsX3_pass wsX3_isIn := goodIn_r _ [6] (by decide +kernel) (by decide +kernel)
set_option maxRecDepth 20000 in
theorem gX3_pass_X3_isIn : GoodIn wsX3_pass (va_wsS RX3 26 yX3_isIn wsX3_isIn) := goodIn_app (goodIn_of _ (by decide +kernel)) ggX3_pass_X3_isIn
set_option maxRecDepth 20000 in
theorem ggX3_pass_X3_no : GoodIn wsX3_pass wsX3_no := goodIn_r _ [10, 1, 65, 66, 67] (by decide +kernel) (by decide +kernel)
set_option maxRecDepth 20000 in
theorem gX3_pass_X3_no : GoodIn wsX3_pass (wsV RX3 36 RX3 yX3_no wsX3_no) := goodIn_app (goodIn_of _ (by decide +kernel)) ggX3_pass_X3_no
set_option maxRecDepth 20000 in
theorem ggX3_pass_X2_at : GoodIn wsX3_pass wsX2_at := goodIn_r _ [15, 16, 17, 68, 69, 70, 71, 72, 73, 74, 75, 76, 77, 78, 79, 80] (by decide +kernel) (by decide +kernel)
set_option maxRecDepth 20000 in
theorem gX3_pass_X2_at : GoodIn wsX3_pass (wsV RX3 72 RX2 yX2_at wsX2_at) := goodIn_app (goodIn_of _ (by decide +kernel)) ggX3_pass_X2_at
set_option maxRecDepth 20000 in
theorem ggX3_pass_X2_passOn : GoodIn wsX3_pass wsX2_passOn := goodIn_r _ [21, 22, 23, 24, 14, 25, 26, 27, 28, 29, 30, 31, 32, 33, 34, 16, 17, 35, 36, 37, 38, 39, 40, 41, 42, 43, 44, 45, 46, 47, 48, 49, 50, 51, 52, 53, 54, 55, 56, 57, 58, 59, 60, 61, 62, 63, 64, 12, 13, 15, 68, 69, 70, 71, 72, 73, 74, 75, 76, 77, 78, 79, 80] (by decide +kernel) (by decide +kernel)
set_option maxRecDepth 20000 in
theorem gX3_pass_X2_passOn : GoodIn wsX3_pass (wsV RX3 75 RX2 yX2_passOn wsX2_passOn) := goodIn_app (goodIn_of _ (by decide +kernel)) ggX3_pass_X2_passOn
theorem dX3_pass_0 : decode cX3_pass 0 = .ok (.aload_n 0, 1) := by decide +kernel
theorem dX3_pass_1 : decode cX3_pass 1 = .ok (.iconst 0, 1) := by decide +kernel
theorem dX3_pass_2 : decode cX3_pass 2 = .ok (.putfield 19, 3) := by decide +kernel
theorem dX3_pass_5 : decode cX3_pass 5 = .ok (.iload_n 1, 1) := by decide +kernel
theorem dX3_pass_6 : decode cX3_pass 6 = .ok (.iconst 1, 1) := by decide +kernel
theorem dX3_pass_7 : decode cX3_pass 7 = .ok (.bipush 40, 2) := by decide +kernel
theorem dX3_pass_9 : decode cX3_pass 9 = .ok (.invokestatic 26, 3) := by decide +kernel
theorem dX3_pass_12 : decode cX3_pass 12 = .ok (.ifCond .ne 9, 3) := by decide +kernel
theorem dX3_pass_15 : decode cX3_pass 15 = .ok (.aload_n 0, 1) := by decide +kernel
theorem dX3_pass_16 : decode cX3_pass 16 = .ok (.iconst 1, 1) := by decide +kernel
theorem dX3_pass_17 : decode cX3_pass 17 = .ok (.invokevirtual 36, 3) := by decide +kernel
theorem dX3_pass_20 : decode cX3_pass 20 = .ok (.ireturn, 1) := by decide +kernel
theorem dX3_pass_21 : decode cX3_pass 21 = .ok (.aload_n 0, 1) := by decide +kernel
theorem dX3_pass_22 : decode cX3_pass 22 = .ok (.getfield 10, 3) := by decide +kernel
theorem dX3_pass_25 : decode cX3_pass 25 = .ok (.bipush 20, 2) := by decide +kernel
theorem dX3_pass_27 : decode cX3_pass 27 = .ok (.invokevirtual 72, 3) := by decide +kernel
theorem dX3_pass_30 : decode cX3_pass 30 = .ok (.istore_n 2, 1) := by decide +kernel
theorem dX3_pass_31 : decode cX3_pass 31 = .ok (.aload_n 0, 1) := by decide +kernel
theorem dX3_pass_32 : decode cX3_pass 32 = .ok (.getfield 10, 3) := by decide +kernel
theorem dX3_pass_35 : decode cX3_pass 35 = .ok (.iload_n 1, 1) := by decide +kernel
theorem dX3_pass_36 : decode cX3_pass 36 = .ok (.invokevirtual 75, 3) := by decide +kernel
theorem dX3_pass_39 : decode cX3_pass 39 = .ok (.aload_n 0, 1) := by decide +kernel
theorem dX3_pass_40 : decode cX3_pass 40 = .ok (.getfield 10, 3) := by decide +kernel
theorem dX3_pass_43 : decode cX3_pass 43 = .ok (.bipush 20, 2) := by decide +kernel
theorem dX3_pass_45 : decode cX3_pass 45 = .ok (.invokevirtual 72, 3) := by decide +kernel
theorem dX3_pass_48 : decode cX3_pass 48 = .ok (.iload_n 2, 1) := by decide +kernel
theorem dX3_pass_49 : decode cX3_pass 49 = .ok (.isub, 1) := by decide +kernel
theorem dX3_pass_50 : decode cX3_pass 50 = .ok (.ireturn, 1) := by decide +kernel
theorem dX3_wardTold_0 : decode cX3_wardTold 0 = .ok (.aload_n 0, 1) := by decide +kernel
theorem dX3_wardTold_1 : decode cX3_wardTold 1 = .ok (.getfield 10, 3) := by decide +kernel
theorem dX3_wardTold_4 : decode cX3_wardTold 4 = .ok (.getfield 57, 3) := by decide +kernel
theorem dX3_wardTold_7 : decode cX3_wardTold 7 = .ok (.iload_n 1, 1) := by decide +kernel
theorem dX3_wardTold_8 : decode cX3_wardTold 8 = .ok (.iaload, 1) := by decide +kernel
theorem dX3_wardTold_9 : decode cX3_wardTold 9 = .ok (.aload_n 0, 1) := by decide +kernel
theorem dX3_wardTold_10 : decode cX3_wardTold 10 = .ok (.getfield 10, 3) := by decide +kernel
theorem dX3_wardTold_13 : decode cX3_wardTold 13 = .ok (.getfield 23, 3) := by decide +kernel
theorem dX3_wardTold_16 : decode cX3_wardTold 16 = .ok (.if_icmp .ge 15, 3) := by decide +kernel
theorem dX3_wardTold_19 : decode cX3_wardTold 19 = .ok (.aload_n 0, 1) := by decide +kernel
theorem dX3_wardTold_20 : decode cX3_wardTold 20 = .ok (.getfield 10, 3) := by decide +kernel
theorem dX3_wardTold_23 : decode cX3_wardTold 23 = .ok (.getfield 57, 3) := by decide +kernel
theorem dX3_wardTold_26 : decode cX3_wardTold 26 = .ok (.iload_n 1, 1) := by decide +kernel
theorem dX3_wardTold_27 : decode cX3_wardTold 27 = .ok (.iaload, 1) := by decide +kernel
theorem dX3_wardTold_28 : decode cX3_wardTold 28 = .ok (.goto 4, 3) := by decide +kernel
theorem dX3_wardTold_31 : decode cX3_wardTold 31 = .ok (.iconst (-1), 1) := by decide +kernel
theorem dX3_wardTold_32 : decode cX3_wardTold 32 = .ok (.ireturn, 1) := by decide +kernel
set_option maxRecDepth 20000 in
theorem ggX3_bargeTold_X3_isIn : GoodIn wsX3_bargeTold wsX3_isIn := goodIn_r _ [5] (by decide +kernel) (by decide +kernel)
set_option maxRecDepth 20000 in
theorem gX3_bargeTold_X3_isIn : GoodIn wsX3_bargeTold (va_wsS RX3 26 yX3_isIn wsX3_isIn) := goodIn_app (goodIn_of _ (by decide +kernel)) ggX3_bargeTold_X3_isIn
theorem dX3_bargeTold_0 : decode cX3_bargeTold 0 = .ok (.aload_n 0, 1) := by decide +kernel
theorem dX3_bargeTold_1 : decode cX3_bargeTold 1 = .ok (.getfield 10, 3) := by decide +kernel
theorem dX3_bargeTold_4 : decode cX3_bargeTold 4 = .ok (.getfield 57, 3) := by decide +kernel
theorem dX3_bargeTold_7 : decode cX3_bargeTold 7 = .ok (.iload_n 1, 1) := by decide +kernel
theorem dX3_bargeTold_8 : decode cX3_bargeTold 8 = .ok (.iaload, 1) := by decide +kernel
theorem dX3_bargeTold_9 : decode cX3_bargeTold 9 = .ok (.bipush 10, 2) := by decide +kernel
theorem dX3_bargeTold_11 : decode cX3_bargeTold 11 = .ok (.bipush 19, 2) := by decide +kernel
theorem dX3_bargeTold_13 : decode cX3_bargeTold 13 = .ok (.invokestatic 26, 3) := by decide +kernel
theorem dX3_bargeTold_16 : decode cX3_bargeTold 16 = .ok (.ifCond .eq 18, 3) := by decide +kernel
theorem dX3_bargeTold_19 : decode cX3_bargeTold 19 = .ok (.aload_n 0, 1) := by decide +kernel
theorem dX3_bargeTold_20 : decode cX3_bargeTold 20 = .ok (.getfield 10, 3) := by decide +kernel
theorem dX3_bargeTold_23 : decode cX3_bargeTold 23 = .ok (.getfield 57, 3) := by decide +kernel
theorem dX3_bargeTold_26 : decode cX3_bargeTold 26 = .ok (.iload_n 1, 1) := by decide +kernel
theorem dX3_bargeTold_27 : decode cX3_bargeTold 27 = .ok (.iaload, 1) := by decide +kernel
theorem dX3_bargeTold_28 : decode cX3_bargeTold 28 = .ok (.bipush 10, 2) := by decide +kernel
theorem dX3_bargeTold_30 : decode cX3_bargeTold 30 = .ok (.isub, 1) := by decide +kernel
theorem dX3_bargeTold_31 : decode cX3_bargeTold 31 = .ok (.goto 4, 3) := by decide +kernel
theorem dX3_bargeTold_34 : decode cX3_bargeTold 34 = .ok (.iconst (-1), 1) := by decide +kernel
theorem dX3_bargeTold_35 : decode cX3_bargeTold 35 = .ok (.ireturn, 1) := by decide +kernel
set_option maxRecDepth 20000 in
theorem ggX3_feverOf_X3_isPerson : GoodIn wsX3_feverOf wsX3_isPerson := goodIn_r _ [7, 2, 8, 9, 6, 10, 15, 16, 17, 18, 19, 20, 21, 22, 23, 24, 25, 26, 27, 28, 29, 30] (by decide +kernel) (by decide +kernel)
set_option maxRecDepth 20000 in
theorem gX3_feverOf_X3_isPerson : GoodIn wsX3_feverOf (wsV RX3 69 RX3 yX3_isPerson wsX3_isPerson) := goodIn_app (goodIn_of _ (by decide +kernel)) ggX3_feverOf_X3_isPerson
set_option maxRecDepth 20000 in
theorem ggX3_feverOf_X3_no : GoodIn wsX3_feverOf wsX3_no := goodIn_r _ [14, 1, 15, 16, 17] (by decide +kernel) (by decide +kernel)
set_option maxRecDepth 20000 in
theorem gX3_feverOf_X3_no : GoodIn wsX3_feverOf (wsV RX3 36 RX3 yX3_no wsX3_no) := goodIn_app (goodIn_of _ (by decide +kernel)) ggX3_feverOf_X3_no
theorem dX3_feverOf_0 : decode cX3_feverOf 0 = .ok (.aload_n 0, 1) := by decide +kernel
theorem dX3_feverOf_1 : decode cX3_feverOf 1 = .ok (.iconst 0, 1) := by decide +kernel
theorem dX3_feverOf_2 : decode cX3_feverOf 2 = .ok (.putfield 19, 3) := by decide +kernel
theorem dX3_feverOf_5 : decode cX3_feverOf 5 = .ok (.aload_n 0, 1) := by decide +kernel
theorem dX3_feverOf_6 : decode cX3_feverOf 6 = .ok (.iload_n 1, 1) := by decide +kernel
theorem dX3_feverOf_7 : decode cX3_feverOf 7 = .ok (.invokevirtual 69, 3) := by decide +kernel
theorem dX3_feverOf_10 : decode cX3_feverOf 10 = .ok (.ifCond .eq 15, 3) := by decide +kernel
theorem dX3_feverOf_13 : decode cX3_feverOf 13 = .ok (.aload_n 0, 1) := by decide +kernel
theorem dX3_feverOf_14 : decode cX3_feverOf 14 = .ok (.getfield 10, 3) := by decide +kernel
theorem dX3_feverOf_17 : decode cX3_feverOf 17 = .ok (.getfield 54, 3) := by decide +kernel
theorem dX3_feverOf_20 : decode cX3_feverOf 20 = .ok (.iload_n 1, 1) := by decide +kernel
theorem dX3_feverOf_21 : decode cX3_feverOf 21 = .ok (.iaload, 1) := by decide +kernel
theorem dX3_feverOf_22 : decode cX3_feverOf 22 = .ok (.goto 8, 3) := by decide +kernel
theorem dX3_feverOf_25 : decode cX3_feverOf 25 = .ok (.aload_n 0, 1) := by decide +kernel
theorem dX3_feverOf_26 : decode cX3_feverOf 26 = .ok (.iconst 1, 1) := by decide +kernel
theorem dX3_feverOf_27 : decode cX3_feverOf 27 = .ok (.invokevirtual 36, 3) := by decide +kernel
theorem dX3_feverOf_30 : decode cX3_feverOf 30 = .ok (.ireturn, 1) := by decide +kernel
set_option maxRecDepth 20000 in
theorem ggX3_wardOf_X3_isPerson : GoodIn wsX3_wardOf wsX3_isPerson := goodIn_r _ [6, 7, 8, 9, 5, 10, 19, 20, 21, 22, 23, 24, 25, 26, 27, 28, 29, 30, 31, 32, 33, 34] (by decide +kernel) (by decide +kernel)
set_option maxRecDepth 20000 in
theorem gX3_wardOf_X3_isPerson : GoodIn wsX3_wardOf (wsV RX3 69 RX3 yX3_isPerson wsX3_isPerson) := goodIn_app (goodIn_of _ (by decide +kernel)) ggX3_wardOf_X3_isPerson
set_option maxRecDepth 20000 in
theorem ggX3_wardOf_X3_wardTold : GoodIn wsX3_wardOf wsX3_wardTold := goodIn_r _ [14, 7, 19, 20, 21, 22, 23, 24, 25, 26, 27, 28, 29, 30, 31, 32, 33, 34] (by decide +kernel) (by decide +kernel)
set_option maxRecDepth 20000 in
theorem gX3_wardOf_X3_wardTold : GoodIn wsX3_wardOf (wsV RX3 79 RX3 yX3_wardTold wsX3_wardTold) := goodIn_app (goodIn_of _ (by decide +kernel)) ggX3_wardOf_X3_wardTold
set_option maxRecDepth 20000 in
theorem ggX3_wardOf_X3_no : GoodIn wsX3_wardOf wsX3_no := goodIn_r _ [18, 1, 19, 20, 21] (by decide +kernel) (by decide +kernel)
set_option maxRecDepth 20000 in
theorem gX3_wardOf_X3_no : GoodIn wsX3_wardOf (wsV RX3 36 RX3 yX3_no wsX3_no) := goodIn_app (goodIn_of _ (by decide +kernel)) ggX3_wardOf_X3_no
theorem dX3_wardOf_0 : decode cX3_wardOf 0 = .ok (.aload_n 0, 1) := by decide +kernel
theorem dX3_wardOf_1 : decode cX3_wardOf 1 = .ok (.iconst 0, 1) := by decide +kernel
theorem dX3_wardOf_2 : decode cX3_wardOf 2 = .ok (.putfield 19, 3) := by decide +kernel
theorem dX3_wardOf_5 : decode cX3_wardOf 5 = .ok (.aload_n 0, 1) := by decide +kernel
theorem dX3_wardOf_6 : decode cX3_wardOf 6 = .ok (.iload_n 1, 1) := by decide +kernel
theorem dX3_wardOf_7 : decode cX3_wardOf 7 = .ok (.invokevirtual 69, 3) := by decide +kernel
theorem dX3_wardOf_10 : decode cX3_wardOf 10 = .ok (.ifCond .eq 11, 3) := by decide +kernel
theorem dX3_wardOf_13 : decode cX3_wardOf 13 = .ok (.aload_n 0, 1) := by decide +kernel
theorem dX3_wardOf_14 : decode cX3_wardOf 14 = .ok (.iload_n 1, 1) := by decide +kernel
theorem dX3_wardOf_15 : decode cX3_wardOf 15 = .ok (.invokevirtual 79, 3) := by decide +kernel
theorem dX3_wardOf_18 : decode cX3_wardOf 18 = .ok (.goto 8, 3) := by decide +kernel
theorem dX3_wardOf_21 : decode cX3_wardOf 21 = .ok (.aload_n 0, 1) := by decide +kernel
theorem dX3_wardOf_22 : decode cX3_wardOf 22 = .ok (.iconst 1, 1) := by decide +kernel
theorem dX3_wardOf_23 : decode cX3_wardOf 23 = .ok (.invokevirtual 36, 3) := by decide +kernel
theorem dX3_wardOf_26 : decode cX3_wardOf 26 = .ok (.ireturn, 1) := by decide +kernel
set_option maxRecDepth 20000 in
theorem ggX3_bargeOf_X3_isPerson : GoodIn wsX3_bargeOf wsX3_isPerson := goodIn_r _ [6, 7, 8, 9, 5, 10, 19, 20, 21, 22, 23, 24, 25, 26, 27, 28, 29, 30, 31, 32, 33, 34] (by decide +kernel) (by decide +kernel)
set_option maxRecDepth 20000 in
theorem gX3_bargeOf_X3_isPerson : GoodIn wsX3_bargeOf (wsV RX3 69 RX3 yX3_isPerson wsX3_isPerson) := goodIn_app (goodIn_of _ (by decide +kernel)) ggX3_bargeOf_X3_isPerson
set_option maxRecDepth 20000 in
theorem ggX3_bargeOf_X3_bargeTold : GoodIn wsX3_bargeOf wsX3_bargeTold := goodIn_r _ [14, 7, 8, 9, 5, 10, 19, 20, 21, 22, 23, 24, 25, 26, 27, 28, 29, 30, 31, 32, 33, 34] (by decide +kernel) (by decide +kernel)
set_option maxRecDepth 20000 in
theorem gX3_bargeOf_X3_bargeTold : GoodIn wsX3_bargeOf (wsV RX3 82 RX3 yX3_bargeTold wsX3_bargeTold) := goodIn_app (goodIn_of _ (by decide +kernel)) ggX3_bargeOf_X3_bargeTold
set_option maxRecDepth 20000 in
theorem ggX3_bargeOf_X3_no : GoodIn wsX3_bargeOf wsX3_no := goodIn_r _ [18, 1, 19, 20, 21] (by decide +kernel) (by decide +kernel)
set_option maxRecDepth 20000 in
theorem gX3_bargeOf_X3_no : GoodIn wsX3_bargeOf (wsV RX3 36 RX3 yX3_no wsX3_no) := goodIn_app (goodIn_of _ (by decide +kernel)) ggX3_bargeOf_X3_no
theorem dX3_bargeOf_0 : decode cX3_bargeOf 0 = .ok (.aload_n 0, 1) := by decide +kernel
theorem dX3_bargeOf_1 : decode cX3_bargeOf 1 = .ok (.iconst 0, 1) := by decide +kernel
theorem dX3_bargeOf_2 : decode cX3_bargeOf 2 = .ok (.putfield 19, 3) := by decide +kernel
theorem dX3_bargeOf_5 : decode cX3_bargeOf 5 = .ok (.aload_n 0, 1) := by decide +kernel
theorem dX3_bargeOf_6 : decode cX3_bargeOf 6 = .ok (.iload_n 1, 1) := by decide +kernel
theorem dX3_bargeOf_7 : decode cX3_bargeOf 7 = .ok (.invokevirtual 69, 3) := by decide +kernel
theorem dX3_bargeOf_10 : decode cX3_bargeOf 10 = .ok (.ifCond .eq 11, 3) := by decide +kernel
theorem dX3_bargeOf_13 : decode cX3_bargeOf 13 = .ok (.aload_n 0, 1) := by decide +kernel
theorem dX3_bargeOf_14 : decode cX3_bargeOf 14 = .ok (.iload_n 1, 1) := by decide +kernel
theorem dX3_bargeOf_15 : decode cX3_bargeOf 15 = .ok (.invokevirtual 82, 3) := by decide +kernel
theorem dX3_bargeOf_18 : decode cX3_bargeOf 18 = .ok (.goto 8, 3) := by decide +kernel
theorem dX3_bargeOf_21 : decode cX3_bargeOf 21 = .ok (.aload_n 0, 1) := by decide +kernel
theorem dX3_bargeOf_22 : decode cX3_bargeOf 22 = .ok (.iconst 1, 1) := by decide +kernel
theorem dX3_bargeOf_23 : decode cX3_bargeOf 23 = .ok (.invokevirtual 36, 3) := by decide +kernel
theorem dX3_bargeOf_26 : decode cX3_bargeOf 26 = .ok (.ireturn, 1) := by decide +kernel
set_option maxRecDepth 20000 in
theorem ggX3_isHome_X3_isPerson : GoodIn wsX3_isHome wsX3_isPerson := goodIn_r _ [7, 2, 8, 9, 6, 10, 11, 12, 13, 14, 15, 16, 17, 18, 19, 20, 21, 22, 23, 24, 25, 26] (by decide +kernel) (by decide +kernel)
set_option maxRecDepth 20000 in
theorem gX3_isHome_X3_isPerson : GoodIn wsX3_isHome (wsV RX3 69 RX3 yX3_isPerson wsX3_isPerson) := goodIn_app (goodIn_of _ (by decide +kernel)) ggX3_isHome_X3_isPerson
theorem dX3_isHome_0 : decode cX3_isHome 0 = .ok (.aload_n 0, 1) := by decide +kernel
theorem dX3_isHome_1 : decode cX3_isHome 1 = .ok (.aload_n 0, 1) := by decide +kernel
theorem dX3_isHome_2 : decode cX3_isHome 2 = .ok (.iload_n 1, 1) := by decide +kernel
theorem dX3_isHome_3 : decode cX3_isHome 3 = .ok (.invokevirtual 69, 3) := by decide +kernel
theorem dX3_isHome_6 : decode cX3_isHome 6 = .ok (.ifCond .eq 7, 3) := by decide +kernel
theorem dX3_isHome_9 : decode cX3_isHome 9 = .ok (.iconst 0, 1) := by decide +kernel
theorem dX3_isHome_10 : decode cX3_isHome 10 = .ok (.goto 4, 3) := by decide +kernel
theorem dX3_isHome_13 : decode cX3_isHome 13 = .ok (.iconst 1, 1) := by decide +kernel
theorem dX3_isHome_14 : decode cX3_isHome 14 = .ok (.putfield 19, 3) := by decide +kernel
theorem dX3_isHome_17 : decode cX3_isHome 17 = .ok (.aload_n 0, 1) := by decide +kernel
theorem dX3_isHome_18 : decode cX3_isHome 18 = .ok (.getfield 19, 3) := by decide +kernel
theorem dX3_isHome_21 : decode cX3_isHome 21 = .ok (.ifCond .ne 21, 3) := by decide +kernel
theorem dX3_isHome_24 : decode cX3_isHome 24 = .ok (.aload_n 0, 1) := by decide +kernel
theorem dX3_isHome_25 : decode cX3_isHome 25 = .ok (.getfield 10, 3) := by decide +kernel
theorem dX3_isHome_28 : decode cX3_isHome 28 = .ok (.getfield 57, 3) := by decide +kernel
theorem dX3_isHome_31 : decode cX3_isHome 31 = .ok (.iload_n 1, 1) := by decide +kernel
theorem dX3_isHome_32 : decode cX3_isHome 32 = .ok (.iaload, 1) := by decide +kernel
theorem dX3_isHome_33 : decode cX3_isHome 33 = .ok (.bipush 20, 2) := by decide +kernel
theorem dX3_isHome_35 : decode cX3_isHome 35 = .ok (.if_icmp .ne 7, 3) := by decide +kernel
theorem dX3_isHome_38 : decode cX3_isHome 38 = .ok (.iconst 1, 1) := by decide +kernel
theorem dX3_isHome_39 : decode cX3_isHome 39 = .ok (.goto 4, 3) := by decide +kernel
theorem dX3_isHome_42 : decode cX3_isHome 42 = .ok (.iconst 0, 1) := by decide +kernel
theorem dX3_isHome_43 : decode cX3_isHome 43 = .ok (.ireturn, 1) := by decide +kernel
set_option maxRecDepth 20000 in
theorem ggX3_isInGreatHouse_X3_isPerson : GoodIn wsX3_isInGreatHouse wsX3_isPerson := goodIn_r _ [7, 2, 8, 9, 6, 10, 11, 12, 13, 14, 15, 16, 17, 18, 19, 20, 21, 22, 23, 24, 25, 26] (by decide +kernel) (by decide +kernel)
set_option maxRecDepth 20000 in
theorem gX3_isInGreatHouse_X3_isPerson : GoodIn wsX3_isInGreatHouse (wsV RX3 69 RX3 yX3_isPerson wsX3_isPerson) := goodIn_app (goodIn_of _ (by decide +kernel)) ggX3_isInGreatHouse_X3_isPerson
theorem dX3_isInGreatHouse_0 : decode cX3_isInGreatHouse 0 = .ok (.aload_n 0, 1) := by decide +kernel
theorem dX3_isInGreatHouse_1 : decode cX3_isInGreatHouse 1 = .ok (.aload_n 0, 1) := by decide +kernel
theorem dX3_isInGreatHouse_2 : decode cX3_isInGreatHouse 2 = .ok (.iload_n 1, 1) := by decide +kernel
theorem dX3_isInGreatHouse_3 : decode cX3_isInGreatHouse 3 = .ok (.invokevirtual 69, 3) := by decide +kernel
theorem dX3_isInGreatHouse_6 : decode cX3_isInGreatHouse 6 = .ok (.ifCond .eq 7, 3) := by decide +kernel
theorem dX3_isInGreatHouse_9 : decode cX3_isInGreatHouse 9 = .ok (.iconst 0, 1) := by decide +kernel
theorem dX3_isInGreatHouse_10 : decode cX3_isInGreatHouse 10 = .ok (.goto 4, 3) := by decide +kernel
theorem dX3_isInGreatHouse_13 : decode cX3_isInGreatHouse 13 = .ok (.iconst 1, 1) := by decide +kernel
theorem dX3_isInGreatHouse_14 : decode cX3_isInGreatHouse 14 = .ok (.putfield 19, 3) := by decide +kernel
theorem dX3_isInGreatHouse_17 : decode cX3_isInGreatHouse 17 = .ok (.aload_n 0, 1) := by decide +kernel
theorem dX3_isInGreatHouse_18 : decode cX3_isInGreatHouse 18 = .ok (.getfield 19, 3) := by decide +kernel
theorem dX3_isInGreatHouse_21 : decode cX3_isInGreatHouse 21 = .ok (.ifCond .ne 21, 3) := by decide +kernel
theorem dX3_isInGreatHouse_24 : decode cX3_isInGreatHouse 24 = .ok (.aload_n 0, 1) := by decide +kernel
theorem dX3_isInGreatHouse_25 : decode cX3_isInGreatHouse 25 = .ok (.getfield 10, 3) := by decide +kernel
theorem dX3_isInGreatHouse_28 : decode cX3_isInGreatHouse 28 = .ok (.getfield 57, 3) := by decide +kernel
theorem dX3_isInGreatHouse_31 : decode cX3_isInGreatHouse 31 = .ok (.iload_n 1, 1) := by decide +kernel
theorem dX3_isInGreatHouse_32 : decode cX3_isInGreatHouse 32 = .ok (.iaload, 1) := by decide +kernel
theorem dX3_isInGreatHouse_33 : decode cX3_isInGreatHouse 33 = .ok (.bipush 21, 2) := by decide +kernel
theorem dX3_isInGreatHouse_35 : decode cX3_isInGreatHouse 35 = .ok (.if_icmp .ne 7, 3) := by decide +kernel
theorem dX3_isInGreatHouse_38 : decode cX3_isInGreatHouse 38 = .ok (.iconst 1, 1) := by decide +kernel
theorem dX3_isInGreatHouse_39 : decode cX3_isInGreatHouse 39 = .ok (.goto 4, 3) := by decide +kernel
theorem dX3_isInGreatHouse_42 : decode cX3_isInGreatHouse 42 = .ok (.iconst 0, 1) := by decide +kernel
theorem dX3_isInGreatHouse_43 : decode cX3_isInGreatHouse 43 = .ok (.ireturn, 1) := by decide +kernel
set_option maxRecDepth 20000 in
theorem ggX3_hungryDaysOf_X3_isPerson : GoodIn wsX3_hungryDaysOf wsX3_isPerson := goodIn_r _ [7, 2, 8, 9, 6, 10, 15, 16, 17, 18, 19, 20, 21, 22, 23, 24, 25, 26, 27, 28, 29, 30] (by decide +kernel) (by decide +kernel)
set_option maxRecDepth 20000 in
theorem gX3_hungryDaysOf_X3_isPerson : GoodIn wsX3_hungryDaysOf (wsV RX3 69 RX3 yX3_isPerson wsX3_isPerson) := goodIn_app (goodIn_of _ (by decide +kernel)) ggX3_hungryDaysOf_X3_isPerson
set_option maxRecDepth 20000 in
theorem ggX3_hungryDaysOf_X3_no : GoodIn wsX3_hungryDaysOf wsX3_no := goodIn_r _ [14, 1, 15, 16, 17] (by decide +kernel) (by decide +kernel)
set_option maxRecDepth 20000 in
theorem gX3_hungryDaysOf_X3_no : GoodIn wsX3_hungryDaysOf (wsV RX3 36 RX3 yX3_no wsX3_no) := goodIn_app (goodIn_of _ (by decide +kernel)) ggX3_hungryDaysOf_X3_no
theorem dX3_hungryDaysOf_0 : decode cX3_hungryDaysOf 0 = .ok (.aload_n 0, 1) := by decide +kernel
theorem dX3_hungryDaysOf_1 : decode cX3_hungryDaysOf 1 = .ok (.iconst 0, 1) := by decide +kernel
theorem dX3_hungryDaysOf_2 : decode cX3_hungryDaysOf 2 = .ok (.putfield 19, 3) := by decide +kernel
theorem dX3_hungryDaysOf_5 : decode cX3_hungryDaysOf 5 = .ok (.aload_n 0, 1) := by decide +kernel
theorem dX3_hungryDaysOf_6 : decode cX3_hungryDaysOf 6 = .ok (.iload_n 1, 1) := by decide +kernel
theorem dX3_hungryDaysOf_7 : decode cX3_hungryDaysOf 7 = .ok (.invokevirtual 69, 3) := by decide +kernel
theorem dX3_hungryDaysOf_10 : decode cX3_hungryDaysOf 10 = .ok (.ifCond .eq 15, 3) := by decide +kernel
theorem dX3_hungryDaysOf_13 : decode cX3_hungryDaysOf 13 = .ok (.aload_n 0, 1) := by decide +kernel
theorem dX3_hungryDaysOf_14 : decode cX3_hungryDaysOf 14 = .ok (.getfield 10, 3) := by decide +kernel
theorem dX3_hungryDaysOf_17 : decode cX3_hungryDaysOf 17 = .ok (.getfield 85, 3) := by decide +kernel
theorem dX3_hungryDaysOf_20 : decode cX3_hungryDaysOf 20 = .ok (.iload_n 1, 1) := by decide +kernel
theorem dX3_hungryDaysOf_21 : decode cX3_hungryDaysOf 21 = .ok (.iaload, 1) := by decide +kernel
theorem dX3_hungryDaysOf_22 : decode cX3_hungryDaysOf 22 = .ok (.goto 8, 3) := by decide +kernel
theorem dX3_hungryDaysOf_25 : decode cX3_hungryDaysOf 25 = .ok (.aload_n 0, 1) := by decide +kernel
theorem dX3_hungryDaysOf_26 : decode cX3_hungryDaysOf 26 = .ok (.iconst 1, 1) := by decide +kernel
theorem dX3_hungryDaysOf_27 : decode cX3_hungryDaysOf 27 = .ok (.invokevirtual 36, 3) := by decide +kernel
theorem dX3_hungryDaysOf_30 : decode cX3_hungryDaysOf 30 = .ok (.ireturn, 1) := by decide +kernel
theorem dX3_feversAt_0 : decode cX3_feversAt 0 = .ok (.iconst 0, 1) := by decide +kernel
theorem dX3_feversAt_1 : decode cX3_feversAt 1 = .ok (.istore_n 2, 1) := by decide +kernel
theorem dX3_feversAt_2 : decode cX3_feversAt 2 = .ok (.iconst 0, 1) := by decide +kernel
theorem dX3_feversAt_3 : decode cX3_feversAt 3 = .ok (.istore_n 3, 1) := by decide +kernel
theorem dX3_feversAt_4 : decode cX3_feversAt 4 = .ok (.iload_n 3, 1) := by decide +kernel
theorem dX3_feversAt_5 : decode cX3_feversAt 5 = .ok (.aload_n 0, 1) := by decide +kernel
theorem dX3_feversAt_6 : decode cX3_feversAt 6 = .ok (.getfield 10, 3) := by decide +kernel
theorem dX3_feversAt_9 : decode cX3_feversAt 9 = .ok (.getfield 33, 3) := by decide +kernel
theorem dX3_feversAt_12 : decode cX3_feversAt 12 = .ok (.if_icmp .ge 38, 3) := by decide +kernel
theorem dX3_feversAt_15 : decode cX3_feversAt 15 = .ok (.iload_n 2, 1) := by decide +kernel
theorem dX3_feversAt_16 : decode cX3_feversAt 16 = .ok (.aload_n 0, 1) := by decide +kernel
theorem dX3_feversAt_17 : decode cX3_feversAt 17 = .ok (.getfield 10, 3) := by decide +kernel
theorem dX3_feversAt_20 : decode cX3_feversAt 20 = .ok (.getfield 57, 3) := by decide +kernel
theorem dX3_feversAt_23 : decode cX3_feversAt 23 = .ok (.iload_n 3, 1) := by decide +kernel
theorem dX3_feversAt_24 : decode cX3_feversAt 24 = .ok (.iaload, 1) := by decide +kernel
theorem dX3_feversAt_25 : decode cX3_feversAt 25 = .ok (.iload_n 1, 1) := by decide +kernel
theorem dX3_feversAt_26 : decode cX3_feversAt 26 = .ok (.if_icmp .ne 15, 3) := by decide +kernel
theorem dX3_feversAt_29 : decode cX3_feversAt 29 = .ok (.aload_n 0, 1) := by decide +kernel
theorem dX3_feversAt_30 : decode cX3_feversAt 30 = .ok (.getfield 10, 3) := by decide +kernel
theorem dX3_feversAt_33 : decode cX3_feversAt 33 = .ok (.getfield 54, 3) := by decide +kernel
theorem dX3_feversAt_36 : decode cX3_feversAt 36 = .ok (.iload_n 3, 1) := by decide +kernel
theorem dX3_feversAt_37 : decode cX3_feversAt 37 = .ok (.iaload, 1) := by decide +kernel
theorem dX3_feversAt_38 : decode cX3_feversAt 38 = .ok (.goto 4, 3) := by decide +kernel
theorem dX3_feversAt_41 : decode cX3_feversAt 41 = .ok (.iconst 0, 1) := by decide +kernel
theorem dX3_feversAt_42 : decode cX3_feversAt 42 = .ok (.iadd, 1) := by decide +kernel
theorem dX3_feversAt_43 : decode cX3_feversAt 43 = .ok (.istore_n 2, 1) := by decide +kernel
theorem dX3_feversAt_44 : decode cX3_feversAt 44 = .ok (.iinc 3 1, 3) := by decide +kernel
theorem dX3_feversAt_47 : decode cX3_feversAt 47 = .ok (.goto (-43), 3) := by decide +kernel
theorem dX3_feversAt_50 : decode cX3_feversAt 50 = .ok (.iload_n 2, 1) := by decide +kernel
theorem dX3_feversAt_51 : decode cX3_feversAt 51 = .ok (.ireturn, 1) := by decide +kernel
set_option maxRecDepth 20000 in
theorem ggX3_placesOf_X3_isWard : GoodIn wsX3_placesOf wsX3_isWard := goodIn_r _ [7, 2, 8, 9, 6, 10, 15, 16, 17, 18, 19, 20, 21, 22, 23, 24, 25, 26, 27, 28, 29, 30] (by decide +kernel) (by decide +kernel)
set_option maxRecDepth 20000 in
theorem gX3_placesOf_X3_isWard : GoodIn wsX3_placesOf (wsV RX3 63 RX3 yX3_isWard wsX3_isWard) := goodIn_app (goodIn_of _ (by decide +kernel)) ggX3_placesOf_X3_isWard
set_option maxRecDepth 20000 in
theorem ggX3_placesOf_X3_no : GoodIn wsX3_placesOf wsX3_no := goodIn_r _ [14, 1, 15, 16, 17] (by decide +kernel) (by decide +kernel)
set_option maxRecDepth 20000 in
theorem gX3_placesOf_X3_no : GoodIn wsX3_placesOf (wsV RX3 36 RX3 yX3_no wsX3_no) := goodIn_app (goodIn_of _ (by decide +kernel)) ggX3_placesOf_X3_no
theorem dX3_placesOf_0 : decode cX3_placesOf 0 = .ok (.aload_n 0, 1) := by decide +kernel
theorem dX3_placesOf_1 : decode cX3_placesOf 1 = .ok (.iconst 0, 1) := by decide +kernel
theorem dX3_placesOf_2 : decode cX3_placesOf 2 = .ok (.putfield 19, 3) := by decide +kernel
theorem dX3_placesOf_5 : decode cX3_placesOf 5 = .ok (.aload_n 0, 1) := by decide +kernel
theorem dX3_placesOf_6 : decode cX3_placesOf 6 = .ok (.iload_n 1, 1) := by decide +kernel
theorem dX3_placesOf_7 : decode cX3_placesOf 7 = .ok (.invokevirtual 63, 3) := by decide +kernel
theorem dX3_placesOf_10 : decode cX3_placesOf 10 = .ok (.ifCond .eq 15, 3) := by decide +kernel
theorem dX3_placesOf_13 : decode cX3_placesOf 13 = .ok (.aload_n 0, 1) := by decide +kernel
theorem dX3_placesOf_14 : decode cX3_placesOf 14 = .ok (.getfield 10, 3) := by decide +kernel
theorem dX3_placesOf_17 : decode cX3_placesOf 17 = .ok (.getfield 40, 3) := by decide +kernel
theorem dX3_placesOf_20 : decode cX3_placesOf 20 = .ok (.iload_n 1, 1) := by decide +kernel
theorem dX3_placesOf_21 : decode cX3_placesOf 21 = .ok (.iaload, 1) := by decide +kernel
theorem dX3_placesOf_22 : decode cX3_placesOf 22 = .ok (.goto 8, 3) := by decide +kernel
theorem dX3_placesOf_25 : decode cX3_placesOf 25 = .ok (.aload_n 0, 1) := by decide +kernel
theorem dX3_placesOf_26 : decode cX3_placesOf 26 = .ok (.iconst 1, 1) := by decide +kernel
theorem dX3_placesOf_27 : decode cX3_placesOf 27 = .ok (.invokevirtual 36, 3) := by decide +kernel
theorem dX3_placesOf_30 : decode cX3_placesOf 30 = .ok (.ireturn, 1) := by decide +kernel
set_option maxRecDepth 20000 in
theorem ggX3_peopleIn_X3_isWard : GoodIn wsX3_peopleIn wsX3_isWard := goodIn_r _ [7, 2, 8, 9, 6, 10, 22, 23, 24, 25, 26, 27, 28, 29, 30, 31, 32, 33, 34, 35, 36, 37] (by decide +kernel) (by decide +kernel)
set_option maxRecDepth 20000 in
theorem gX3_peopleIn_X3_isWard : GoodIn wsX3_peopleIn (wsV RX3 63 RX3 yX3_isWard wsX3_isWard) := goodIn_app (goodIn_of _ (by decide +kernel)) ggX3_peopleIn_X3_isWard
set_option maxRecDepth 20000 in
theorem ggX3_peopleIn_X2_at : GoodIn wsX3_peopleIn wsX2_at := goodIn_r _ [15, 16, 17, 25, 26, 27, 28, 29, 30, 31, 32, 33, 34, 35, 36, 37] (by decide +kernel) (by decide +kernel)
set_option maxRecDepth 20000 in
theorem gX3_peopleIn_X2_at : GoodIn wsX3_peopleIn (wsV RX3 72 RX2 yX2_at wsX2_at) := goodIn_app (goodIn_of _ (by decide +kernel)) ggX3_peopleIn_X2_at
set_option maxRecDepth 20000 in
theorem ggX3_peopleIn_X3_no : GoodIn wsX3_peopleIn wsX3_no := goodIn_r _ [21, 1, 22, 23, 24] (by decide +kernel) (by decide +kernel)
set_option maxRecDepth 20000 in
theorem gX3_peopleIn_X3_no : GoodIn wsX3_peopleIn (wsV RX3 36 RX3 yX3_no wsX3_no) := goodIn_app (goodIn_of _ (by decide +kernel)) ggX3_peopleIn_X3_no
theorem dX3_peopleIn_0 : decode cX3_peopleIn 0 = .ok (.aload_n 0, 1) := by decide +kernel
theorem dX3_peopleIn_1 : decode cX3_peopleIn 1 = .ok (.iconst 0, 1) := by decide +kernel
theorem dX3_peopleIn_2 : decode cX3_peopleIn 2 = .ok (.putfield 19, 3) := by decide +kernel
theorem dX3_peopleIn_5 : decode cX3_peopleIn 5 = .ok (.aload_n 0, 1) := by decide +kernel
theorem dX3_peopleIn_6 : decode cX3_peopleIn 6 = .ok (.iload_n 1, 1) := by decide +kernel
theorem dX3_peopleIn_7 : decode cX3_peopleIn 7 = .ok (.invokevirtual 63, 3) := by decide +kernel
theorem dX3_peopleIn_10 : decode cX3_peopleIn 10 = .ok (.ifCond .eq 14, 3) := by decide +kernel
theorem dX3_peopleIn_13 : decode cX3_peopleIn 13 = .ok (.aload_n 0, 1) := by decide +kernel
theorem dX3_peopleIn_14 : decode cX3_peopleIn 14 = .ok (.getfield 10, 3) := by decide +kernel
theorem dX3_peopleIn_17 : decode cX3_peopleIn 17 = .ok (.iload_n 1, 1) := by decide +kernel
theorem dX3_peopleIn_18 : decode cX3_peopleIn 18 = .ok (.invokevirtual 72, 3) := by decide +kernel
theorem dX3_peopleIn_21 : decode cX3_peopleIn 21 = .ok (.goto 8, 3) := by decide +kernel
theorem dX3_peopleIn_24 : decode cX3_peopleIn 24 = .ok (.aload_n 0, 1) := by decide +kernel
theorem dX3_peopleIn_25 : decode cX3_peopleIn 25 = .ok (.iconst 1, 1) := by decide +kernel
theorem dX3_peopleIn_26 : decode cX3_peopleIn 26 = .ok (.invokevirtual 36, 3) := by decide +kernel
theorem dX3_peopleIn_29 : decode cX3_peopleIn 29 = .ok (.ireturn, 1) := by decide +kernel
set_option maxRecDepth 20000 in
theorem ggX3_strawOf_X3_isWard : GoodIn wsX3_strawOf wsX3_isWard := goodIn_r _ [7, 2, 8, 9, 6, 10, 15, 16, 17, 18, 19, 20, 21, 22, 23, 24, 25, 26, 27, 28, 29, 30] (by decide +kernel) (by decide +kernel)
set_option maxRecDepth 20000 in
theorem gX3_strawOf_X3_isWard : GoodIn wsX3_strawOf (wsV RX3 63 RX3 yX3_isWard wsX3_isWard) := goodIn_app (goodIn_of _ (by decide +kernel)) ggX3_strawOf_X3_isWard
set_option maxRecDepth 20000 in
theorem ggX3_strawOf_X3_no : GoodIn wsX3_strawOf wsX3_no := goodIn_r _ [14, 1, 15, 16, 17] (by decide +kernel) (by decide +kernel)
set_option maxRecDepth 20000 in
theorem gX3_strawOf_X3_no : GoodIn wsX3_strawOf (wsV RX3 36 RX3 yX3_no wsX3_no) := goodIn_app (goodIn_of _ (by decide +kernel)) ggX3_strawOf_X3_no
theorem dX3_strawOf_0 : decode cX3_strawOf 0 = .ok (.aload_n 0, 1) := by decide +kernel
theorem dX3_strawOf_1 : decode cX3_strawOf 1 = .ok (.iconst 0, 1) := by decide +kernel
theorem dX3_strawOf_2 : decode cX3_strawOf 2 = .ok (.putfield 19, 3) := by decide +kernel
theorem dX3_strawOf_5 : decode cX3_strawOf 5 = .ok (.aload_n 0, 1) := by decide +kernel
theorem dX3_strawOf_6 : decode cX3_strawOf 6 = .ok (.iload_n 1, 1) := by decide +kernel
theorem dX3_strawOf_7 : decode cX3_strawOf 7 = .ok (.invokevirtual 63, 3) := by decide +kernel
theorem dX3_strawOf_10 : decode cX3_strawOf 10 = .ok (.ifCond .eq 15, 3) := by decide +kernel
theorem dX3_strawOf_13 : decode cX3_strawOf 13 = .ok (.aload_n 0, 1) := by decide +kernel
theorem dX3_strawOf_14 : decode cX3_strawOf 14 = .ok (.getfield 10, 3) := by decide +kernel
theorem dX3_strawOf_17 : decode cX3_strawOf 17 = .ok (.getfield 66, 3) := by decide +kernel
theorem dX3_strawOf_20 : decode cX3_strawOf 20 = .ok (.iload_n 1, 1) := by decide +kernel
theorem dX3_strawOf_21 : decode cX3_strawOf 21 = .ok (.iaload, 1) := by decide +kernel
theorem dX3_strawOf_22 : decode cX3_strawOf 22 = .ok (.goto 8, 3) := by decide +kernel
theorem dX3_strawOf_25 : decode cX3_strawOf 25 = .ok (.aload_n 0, 1) := by decide +kernel
theorem dX3_strawOf_26 : decode cX3_strawOf 26 = .ok (.iconst 1, 1) := by decide +kernel
theorem dX3_strawOf_27 : decode cX3_strawOf 27 = .ok (.invokevirtual 36, 3) := by decide +kernel
theorem dX3_strawOf_30 : decode cX3_strawOf 30 = .ok (.ireturn, 1) := by decide +kernel
set_option maxRecDepth 20000 in
theorem ggX3_feversIn_X3_isWard : GoodIn wsX3_feversIn wsX3_isWard := goodIn_r _ [6, 7, 8, 9, 5, 10, 19, 20, 21, 22, 23, 24, 25, 26, 27, 28, 29, 30, 31, 32, 33, 34] (by decide +kernel) (by decide +kernel)
set_option maxRecDepth 20000 in
theorem gX3_feversIn_X3_isWard : GoodIn wsX3_feversIn (wsV RX3 63 RX3 yX3_isWard wsX3_isWard) := goodIn_app (goodIn_of _ (by decide +kernel)) ggX3_feversIn_X3_isWard
set_option maxRecDepth 20000 in
theorem ggX3_feversIn_X3_feversAt : GoodIn wsX3_feversIn wsX3_feversAt := goodIn_r _ [14, 7, 19, 20, 21, 22, 23, 24, 25, 26, 27, 28, 29, 30, 31, 32, 33, 34] (by decide +kernel) (by decide +kernel)
set_option maxRecDepth 20000 in
theorem gX3_feversIn_X3_feversAt : GoodIn wsX3_feversIn (wsV RX3 88 RX3 yX3_feversAt wsX3_feversAt) := goodIn_app (goodIn_of _ (by decide +kernel)) ggX3_feversIn_X3_feversAt
set_option maxRecDepth 20000 in
theorem ggX3_feversIn_X3_no : GoodIn wsX3_feversIn wsX3_no := goodIn_r _ [18, 1, 19, 20, 21] (by decide +kernel) (by decide +kernel)
set_option maxRecDepth 20000 in
theorem gX3_feversIn_X3_no : GoodIn wsX3_feversIn (wsV RX3 36 RX3 yX3_no wsX3_no) := goodIn_app (goodIn_of _ (by decide +kernel)) ggX3_feversIn_X3_no
theorem dX3_feversIn_0 : decode cX3_feversIn 0 = .ok (.aload_n 0, 1) := by decide +kernel
theorem dX3_feversIn_1 : decode cX3_feversIn 1 = .ok (.iconst 0, 1) := by decide +kernel
theorem dX3_feversIn_2 : decode cX3_feversIn 2 = .ok (.putfield 19, 3) := by decide +kernel
theorem dX3_feversIn_5 : decode cX3_feversIn 5 = .ok (.aload_n 0, 1) := by decide +kernel
theorem dX3_feversIn_6 : decode cX3_feversIn 6 = .ok (.iload_n 1, 1) := by decide +kernel
theorem dX3_feversIn_7 : decode cX3_feversIn 7 = .ok (.invokevirtual 63, 3) := by decide +kernel
theorem dX3_feversIn_10 : decode cX3_feversIn 10 = .ok (.ifCond .eq 11, 3) := by decide +kernel
theorem dX3_feversIn_13 : decode cX3_feversIn 13 = .ok (.aload_n 0, 1) := by decide +kernel
theorem dX3_feversIn_14 : decode cX3_feversIn 14 = .ok (.iload_n 1, 1) := by decide +kernel
theorem dX3_feversIn_15 : decode cX3_feversIn 15 = .ok (.invokevirtual 88, 3) := by decide +kernel
theorem dX3_feversIn_18 : decode cX3_feversIn 18 = .ok (.goto 8, 3) := by decide +kernel
theorem dX3_feversIn_21 : decode cX3_feversIn 21 = .ok (.aload_n 0, 1) := by decide +kernel
theorem dX3_feversIn_22 : decode cX3_feversIn 22 = .ok (.iconst 1, 1) := by decide +kernel
theorem dX3_feversIn_23 : decode cX3_feversIn 23 = .ok (.invokevirtual 36, 3) := by decide +kernel
theorem dX3_feversIn_26 : decode cX3_feversIn 26 = .ok (.ireturn, 1) := by decide +kernel
set_option maxRecDepth 20000 in
theorem ggX3_daysToGo_X3_isBarge : GoodIn wsX3_daysToGo wsX3_isBarge := goodIn_r _ [7, 2, 8, 9, 6, 10, 15, 16, 17, 18, 19, 20, 21, 22, 23, 24, 25, 26, 27, 28, 29, 30] (by decide +kernel) (by decide +kernel)
set_option maxRecDepth 20000 in
theorem gX3_daysToGo_X3_isBarge : GoodIn wsX3_daysToGo (wsV RX3 50 RX3 yX3_isBarge wsX3_isBarge) := goodIn_app (goodIn_of _ (by decide +kernel)) ggX3_daysToGo_X3_isBarge
set_option maxRecDepth 20000 in
theorem ggX3_daysToGo_X3_no : GoodIn wsX3_daysToGo wsX3_no := goodIn_r _ [14, 1, 15, 16, 17] (by decide +kernel) (by decide +kernel)
set_option maxRecDepth 20000 in
theorem gX3_daysToGo_X3_no : GoodIn wsX3_daysToGo (wsV RX3 36 RX3 yX3_no wsX3_no) := goodIn_app (goodIn_of _ (by decide +kernel)) ggX3_daysToGo_X3_no
theorem dX3_daysToGo_0 : decode cX3_daysToGo 0 = .ok (.aload_n 0, 1) := by decide +kernel
theorem dX3_daysToGo_1 : decode cX3_daysToGo 1 = .ok (.iconst 0, 1) := by decide +kernel
theorem dX3_daysToGo_2 : decode cX3_daysToGo 2 = .ok (.putfield 19, 3) := by decide +kernel
theorem dX3_daysToGo_5 : decode cX3_daysToGo 5 = .ok (.aload_n 0, 1) := by decide +kernel
theorem dX3_daysToGo_6 : decode cX3_daysToGo 6 = .ok (.iload_n 1, 1) := by decide +kernel
theorem dX3_daysToGo_7 : decode cX3_daysToGo 7 = .ok (.invokevirtual 50, 3) := by decide +kernel
theorem dX3_daysToGo_10 : decode cX3_daysToGo 10 = .ok (.ifCond .eq 15, 3) := by decide +kernel
theorem dX3_daysToGo_13 : decode cX3_daysToGo 13 = .ok (.aload_n 0, 1) := by decide +kernel
theorem dX3_daysToGo_14 : decode cX3_daysToGo 14 = .ok (.getfield 10, 3) := by decide +kernel
theorem dX3_daysToGo_17 : decode cX3_daysToGo 17 = .ok (.getfield 47, 3) := by decide +kernel
theorem dX3_daysToGo_20 : decode cX3_daysToGo 20 = .ok (.iload_n 1, 1) := by decide +kernel
theorem dX3_daysToGo_21 : decode cX3_daysToGo 21 = .ok (.iaload, 1) := by decide +kernel
theorem dX3_daysToGo_22 : decode cX3_daysToGo 22 = .ok (.goto 8, 3) := by decide +kernel
theorem dX3_daysToGo_25 : decode cX3_daysToGo 25 = .ok (.aload_n 0, 1) := by decide +kernel
theorem dX3_daysToGo_26 : decode cX3_daysToGo 26 = .ok (.iconst 1, 1) := by decide +kernel
theorem dX3_daysToGo_27 : decode cX3_daysToGo 27 = .ok (.invokevirtual 36, 3) := by decide +kernel
theorem dX3_daysToGo_30 : decode cX3_daysToGo 30 = .ok (.ireturn, 1) := by decide +kernel
set_option maxRecDepth 20000 in
theorem ggX3_keptFor_X3_isBarge : GoodIn wsX3_keptFor wsX3_isBarge := goodIn_r _ [7, 2, 8, 9, 6, 10, 15, 16, 17, 18, 19, 20, 21, 22, 23, 24, 25, 26, 27, 28, 29, 30] (by decide +kernel) (by decide +kernel)
set_option maxRecDepth 20000 in
theorem gX3_keptFor_X3_isBarge : GoodIn wsX3_keptFor (wsV RX3 50 RX3 yX3_isBarge wsX3_isBarge) := goodIn_app (goodIn_of _ (by decide +kernel)) ggX3_keptFor_X3_isBarge
set_option maxRecDepth 20000 in
theorem ggX3_keptFor_X3_no : GoodIn wsX3_keptFor wsX3_no := goodIn_r _ [14, 1, 15, 16, 17] (by decide +kernel) (by decide +kernel)
set_option maxRecDepth 20000 in
theorem gX3_keptFor_X3_no : GoodIn wsX3_keptFor (wsV RX3 36 RX3 yX3_no wsX3_no) := goodIn_app (goodIn_of _ (by decide +kernel)) ggX3_keptFor_X3_no
theorem dX3_keptFor_0 : decode cX3_keptFor 0 = .ok (.aload_n 0, 1) := by decide +kernel
theorem dX3_keptFor_1 : decode cX3_keptFor 1 = .ok (.iconst 0, 1) := by decide +kernel
theorem dX3_keptFor_2 : decode cX3_keptFor 2 = .ok (.putfield 19, 3) := by decide +kernel
theorem dX3_keptFor_5 : decode cX3_keptFor 5 = .ok (.aload_n 0, 1) := by decide +kernel
theorem dX3_keptFor_6 : decode cX3_keptFor 6 = .ok (.iload_n 1, 1) := by decide +kernel
theorem dX3_keptFor_7 : decode cX3_keptFor 7 = .ok (.invokevirtual 50, 3) := by decide +kernel
theorem dX3_keptFor_10 : decode cX3_keptFor 10 = .ok (.ifCond .eq 15, 3) := by decide +kernel
theorem dX3_keptFor_13 : decode cX3_keptFor 13 = .ok (.aload_n 0, 1) := by decide +kernel
theorem dX3_keptFor_14 : decode cX3_keptFor 14 = .ok (.getfield 10, 3) := by decide +kernel
theorem dX3_keptFor_17 : decode cX3_keptFor 17 = .ok (.getfield 44, 3) := by decide +kernel
theorem dX3_keptFor_20 : decode cX3_keptFor 20 = .ok (.iload_n 1, 1) := by decide +kernel
theorem dX3_keptFor_21 : decode cX3_keptFor 21 = .ok (.iaload, 1) := by decide +kernel
theorem dX3_keptFor_22 : decode cX3_keptFor 22 = .ok (.goto 8, 3) := by decide +kernel
theorem dX3_keptFor_25 : decode cX3_keptFor 25 = .ok (.aload_n 0, 1) := by decide +kernel
theorem dX3_keptFor_26 : decode cX3_keptFor 26 = .ok (.iconst 1, 1) := by decide +kernel
theorem dX3_keptFor_27 : decode cX3_keptFor 27 = .ok (.invokevirtual 36, 3) := by decide +kernel
theorem dX3_keptFor_30 : decode cX3_keptFor 30 = .ok (.ireturn, 1) := by decide +kernel
set_option maxRecDepth 20000 in
theorem ggX3_peopleOn_X3_isBarge : GoodIn wsX3_peopleOn wsX3_isBarge := goodIn_r _ [7, 2, 8, 9, 6, 10, 22, 23, 24, 25, 26, 27, 28, 29, 30, 31, 32, 33, 34, 35, 36, 37] (by decide +kernel) (by decide +kernel)
set_option maxRecDepth 20000 in
theorem gX3_peopleOn_X3_isBarge : GoodIn wsX3_peopleOn (wsV RX3 50 RX3 yX3_isBarge wsX3_isBarge) := goodIn_app (goodIn_of _ (by decide +kernel)) ggX3_peopleOn_X3_isBarge
set_option maxRecDepth 20000 in
theorem ggX3_peopleOn_X2_at : GoodIn wsX3_peopleOn wsX2_at := goodIn_r _ [15, 16, 17, 25, 26, 27, 28, 29, 30, 31, 32, 33, 34, 35, 36, 37] (by decide +kernel) (by decide +kernel)
set_option maxRecDepth 20000 in
theorem gX3_peopleOn_X2_at : GoodIn wsX3_peopleOn (wsV RX3 72 RX2 yX2_at wsX2_at) := goodIn_app (goodIn_of _ (by decide +kernel)) ggX3_peopleOn_X2_at
set_option maxRecDepth 20000 in
theorem ggX3_peopleOn_X3_no : GoodIn wsX3_peopleOn wsX3_no := goodIn_r _ [21, 1, 22, 23, 24] (by decide +kernel) (by decide +kernel)
set_option maxRecDepth 20000 in
theorem gX3_peopleOn_X3_no : GoodIn wsX3_peopleOn (wsV RX3 36 RX3 yX3_no wsX3_no) := goodIn_app (goodIn_of _ (by decide +kernel)) ggX3_peopleOn_X3_no
theorem dX3_peopleOn_0 : decode cX3_peopleOn 0 = .ok (.aload_n 0, 1) := by decide +kernel
theorem dX3_peopleOn_1 : decode cX3_peopleOn 1 = .ok (.iconst 0, 1) := by decide +kernel
theorem dX3_peopleOn_2 : decode cX3_peopleOn 2 = .ok (.putfield 19, 3) := by decide +kernel
theorem dX3_peopleOn_5 : decode cX3_peopleOn 5 = .ok (.aload_n 0, 1) := by decide +kernel
theorem dX3_peopleOn_6 : decode cX3_peopleOn 6 = .ok (.iload_n 1, 1) := by decide +kernel
theorem dX3_peopleOn_7 : decode cX3_peopleOn 7 = .ok (.invokevirtual 50, 3) := by decide +kernel
theorem dX3_peopleOn_10 : decode cX3_peopleOn 10 = .ok (.ifCond .eq 17, 3) := by decide +kernel
theorem dX3_peopleOn_13 : decode cX3_peopleOn 13 = .ok (.aload_n 0, 1) := by decide +kernel
theorem dX3_peopleOn_14 : decode cX3_peopleOn 14 = .ok (.getfield 10, 3) := by decide +kernel
theorem dX3_peopleOn_17 : decode cX3_peopleOn 17 = .ok (.bipush 10, 2) := by decide +kernel
theorem dX3_peopleOn_19 : decode cX3_peopleOn 19 = .ok (.iload_n 1, 1) := by decide +kernel
theorem dX3_peopleOn_20 : decode cX3_peopleOn 20 = .ok (.iadd, 1) := by decide +kernel
theorem dX3_peopleOn_21 : decode cX3_peopleOn 21 = .ok (.invokevirtual 72, 3) := by decide +kernel
theorem dX3_peopleOn_24 : decode cX3_peopleOn 24 = .ok (.goto 8, 3) := by decide +kernel
theorem dX3_peopleOn_27 : decode cX3_peopleOn 27 = .ok (.aload_n 0, 1) := by decide +kernel
theorem dX3_peopleOn_28 : decode cX3_peopleOn 28 = .ok (.iconst 1, 1) := by decide +kernel
theorem dX3_peopleOn_29 : decode cX3_peopleOn 29 = .ok (.invokevirtual 36, 3) := by decide +kernel
theorem dX3_peopleOn_32 : decode cX3_peopleOn 32 = .ok (.ireturn, 1) := by decide +kernel
set_option maxRecDepth 20000 in
theorem ggX3_highestFeverOn_X3_isBarge : GoodIn wsX3_highestFeverOn wsX3_isBarge := goodIn_r _ [11, 2, 12, 13, 10, 14, 19, 20, 21, 22, 23, 24, 25, 26, 27, 28, 29, 30, 31, 32, 33, 34] (by decide +kernel) (by decide +kernel)
set_option maxRecDepth 20000 in
theorem gX3_highestFeverOn_X3_isBarge : GoodIn wsX3_highestFeverOn (wsV RX3 50 RX3 yX3_isBarge wsX3_isBarge) := goodIn_app (goodIn_of _ (by decide +kernel)) ggX3_highestFeverOn_X3_isBarge
set_option maxRecDepth 20000 in
theorem ggX3_highestFeverOn_X3_no : GoodIn wsX3_highestFeverOn wsX3_no := goodIn_r _ [18, 1, 19, 20, 21] (by decide +kernel) (by decide +kernel)
set_option maxRecDepth 20000 in
theorem gX3_highestFeverOn_X3_no : GoodIn wsX3_highestFeverOn (wsV RX3 36 RX3 yX3_no wsX3_no) := goodIn_app (goodIn_of _ (by decide +kernel)) ggX3_highestFeverOn_X3_no
theorem dX3_highestFeverOn_0 : decode cX3_highestFeverOn 0 = .ok (.aload_n 0, 1) := by decide +kernel
theorem dX3_highestFeverOn_1 : decode cX3_highestFeverOn 1 = .ok (.iconst 0, 1) := by decide +kernel
theorem dX3_highestFeverOn_2 : decode cX3_highestFeverOn 2 = .ok (.putfield 19, 3) := by decide +kernel
theorem dX3_highestFeverOn_5 : decode cX3_highestFeverOn 5 = .ok (.aload_n 0, 1) := by decide +kernel
theorem dX3_highestFeverOn_6 : decode cX3_highestFeverOn 6 = .ok (.iload_n 1, 1) := by decide +kernel
theorem dX3_highestFeverOn_7 : decode cX3_highestFeverOn 7 = .ok (.invokevirtual 50, 3) := by decide +kernel
theorem dX3_highestFeverOn_10 : decode cX3_highestFeverOn 10 = .ok (.ifCond .ne 9, 3) := by decide +kernel
theorem dX3_highestFeverOn_13 : decode cX3_highestFeverOn 13 = .ok (.aload_n 0, 1) := by decide +kernel
theorem dX3_highestFeverOn_14 : decode cX3_highestFeverOn 14 = .ok (.iconst 1, 1) := by decide +kernel
theorem dX3_highestFeverOn_15 : decode cX3_highestFeverOn 15 = .ok (.invokevirtual 36, 3) := by decide +kernel
theorem dX3_highestFeverOn_18 : decode cX3_highestFeverOn 18 = .ok (.ireturn, 1) := by decide +kernel
theorem dX3_highestFeverOn_19 : decode cX3_highestFeverOn 19 = .ok (.iconst 0, 1) := by decide +kernel
theorem dX3_highestFeverOn_20 : decode cX3_highestFeverOn 20 = .ok (.istore_n 2, 1) := by decide +kernel
theorem dX3_highestFeverOn_21 : decode cX3_highestFeverOn 21 = .ok (.iconst 0, 1) := by decide +kernel
theorem dX3_highestFeverOn_22 : decode cX3_highestFeverOn 22 = .ok (.istore_n 3, 1) := by decide +kernel
theorem dX3_highestFeverOn_23 : decode cX3_highestFeverOn 23 = .ok (.iload_n 3, 1) := by decide +kernel
theorem dX3_highestFeverOn_24 : decode cX3_highestFeverOn 24 = .ok (.aload_n 0, 1) := by decide +kernel
theorem dX3_highestFeverOn_25 : decode cX3_highestFeverOn 25 = .ok (.getfield 10, 3) := by decide +kernel
theorem dX3_highestFeverOn_28 : decode cX3_highestFeverOn 28 = .ok (.getfield 33, 3) := by decide +kernel
theorem dX3_highestFeverOn_31 : decode cX3_highestFeverOn 31 = .ok (.if_icmp .ge 39, 3) := by decide +kernel
theorem dX3_highestFeverOn_34 : decode cX3_highestFeverOn 34 = .ok (.aload_n 0, 1) := by decide +kernel
theorem dX3_highestFeverOn_35 : decode cX3_highestFeverOn 35 = .ok (.getfield 10, 3) := by decide +kernel
theorem dX3_highestFeverOn_38 : decode cX3_highestFeverOn 38 = .ok (.getfield 57, 3) := by decide +kernel
theorem dX3_highestFeverOn_41 : decode cX3_highestFeverOn 41 = .ok (.iload_n 3, 1) := by decide +kernel
theorem dX3_highestFeverOn_42 : decode cX3_highestFeverOn 42 = .ok (.iaload, 1) := by decide +kernel
theorem dX3_highestFeverOn_43 : decode cX3_highestFeverOn 43 = .ok (.bipush 10, 2) := by decide +kernel
theorem dX3_highestFeverOn_45 : decode cX3_highestFeverOn 45 = .ok (.iload_n 1, 1) := by decide +kernel
theorem dX3_highestFeverOn_46 : decode cX3_highestFeverOn 46 = .ok (.iadd, 1) := by decide +kernel
theorem dX3_highestFeverOn_47 : decode cX3_highestFeverOn 47 = .ok (.if_icmp .ne 17, 3) := by decide +kernel
theorem dX3_highestFeverOn_50 : decode cX3_highestFeverOn 50 = .ok (.iload_n 2, 1) := by decide +kernel
theorem dX3_highestFeverOn_51 : decode cX3_highestFeverOn 51 = .ok (.aload_n 0, 1) := by decide +kernel
theorem dX3_highestFeverOn_52 : decode cX3_highestFeverOn 52 = .ok (.getfield 10, 3) := by decide +kernel
theorem dX3_highestFeverOn_55 : decode cX3_highestFeverOn 55 = .ok (.getfield 54, 3) := by decide +kernel
theorem dX3_highestFeverOn_58 : decode cX3_highestFeverOn 58 = .ok (.iload_n 3, 1) := by decide +kernel
theorem dX3_highestFeverOn_59 : decode cX3_highestFeverOn 59 = .ok (.iaload, 1) := by decide +kernel
theorem dX3_highestFeverOn_60 : decode cX3_highestFeverOn 60 = .ok (.invokestatic 91, 3) := by decide +kernel
theorem dX3_highestFeverOn_63 : decode cX3_highestFeverOn 63 = .ok (.istore_n 2, 1) := by decide +kernel
theorem dX3_highestFeverOn_64 : decode cX3_highestFeverOn 64 = .ok (.iinc 3 1, 3) := by decide +kernel
theorem dX3_highestFeverOn_67 : decode cX3_highestFeverOn 67 = .ok (.goto (-44), 3) := by decide +kernel
theorem dX3_highestFeverOn_70 : decode cX3_highestFeverOn 70 = .ok (.iload_n 2, 1) := by decide +kernel
theorem dX3_highestFeverOn_71 : decode cX3_highestFeverOn 71 = .ok (.ireturn, 1) := by decide +kernel
theorem dX3_day_0 : decode cX3_day 0 = .ok (.aload_n 0, 1) := by decide +kernel
theorem dX3_day_1 : decode cX3_day 1 = .ok (.iconst 0, 1) := by decide +kernel
theorem dX3_day_2 : decode cX3_day 2 = .ok (.putfield 19, 3) := by decide +kernel
theorem dX3_day_5 : decode cX3_day 5 = .ok (.aload_n 0, 1) := by decide +kernel
theorem dX3_day_6 : decode cX3_day 6 = .ok (.getfield 10, 3) := by decide +kernel
theorem dX3_day_9 : decode cX3_day 9 = .ok (.getfield 97, 3) := by decide +kernel
theorem dX3_day_12 : decode cX3_day 12 = .ok (.ireturn, 1) := by decide +kernel
theorem dX3_wards_0 : decode cX3_wards 0 = .ok (.aload_n 0, 1) := by decide +kernel
theorem dX3_wards_1 : decode cX3_wards 1 = .ok (.iconst 0, 1) := by decide +kernel
theorem dX3_wards_2 : decode cX3_wards 2 = .ok (.putfield 19, 3) := by decide +kernel
theorem dX3_wards_5 : decode cX3_wards 5 = .ok (.aload_n 0, 1) := by decide +kernel
theorem dX3_wards_6 : decode cX3_wards 6 = .ok (.getfield 10, 3) := by decide +kernel
theorem dX3_wards_9 : decode cX3_wards 9 = .ok (.getfield 23, 3) := by decide +kernel
theorem dX3_wards_12 : decode cX3_wards 12 = .ok (.ireturn, 1) := by decide +kernel
theorem dX3_barges_0 : decode cX3_barges 0 = .ok (.aload_n 0, 1) := by decide +kernel
theorem dX3_barges_1 : decode cX3_barges 1 = .ok (.iconst 0, 1) := by decide +kernel
theorem dX3_barges_2 : decode cX3_barges 2 = .ok (.putfield 19, 3) := by decide +kernel
theorem dX3_barges_5 : decode cX3_barges 5 = .ok (.aload_n 0, 1) := by decide +kernel
theorem dX3_barges_6 : decode cX3_barges 6 = .ok (.getfield 10, 3) := by decide +kernel
theorem dX3_barges_9 : decode cX3_barges 9 = .ok (.getfield 30, 3) := by decide +kernel
theorem dX3_barges_12 : decode cX3_barges 12 = .ok (.ireturn, 1) := by decide +kernel
theorem dX3_people_0 : decode cX3_people 0 = .ok (.aload_n 0, 1) := by decide +kernel
theorem dX3_people_1 : decode cX3_people 1 = .ok (.iconst 0, 1) := by decide +kernel
theorem dX3_people_2 : decode cX3_people 2 = .ok (.putfield 19, 3) := by decide +kernel
theorem dX3_people_5 : decode cX3_people 5 = .ok (.aload_n 0, 1) := by decide +kernel
theorem dX3_people_6 : decode cX3_people 6 = .ok (.getfield 10, 3) := by decide +kernel
theorem dX3_people_9 : decode cX3_people 9 = .ok (.getfield 33, 3) := by decide +kernel
theorem dX3_people_12 : decode cX3_people 12 = .ok (.ireturn, 1) := by decide +kernel
theorem dX3_bowls_0 : decode cX3_bowls 0 = .ok (.aload_n 0, 1) := by decide +kernel
theorem dX3_bowls_1 : decode cX3_bowls 1 = .ok (.iconst 0, 1) := by decide +kernel
theorem dX3_bowls_2 : decode cX3_bowls 2 = .ok (.putfield 19, 3) := by decide +kernel
theorem dX3_bowls_5 : decode cX3_bowls 5 = .ok (.aload_n 0, 1) := by decide +kernel
theorem dX3_bowls_6 : decode cX3_bowls 6 = .ok (.getfield 10, 3) := by decide +kernel
theorem dX3_bowls_9 : decode cX3_bowls 9 = .ok (.getfield 60, 3) := by decide +kernel
theorem dX3_bowls_12 : decode cX3_bowls 12 = .ok (.ireturn, 1) := by decide +kernel
set_option maxRecDepth 20000 in
theorem ggX3_freePlaces_X2_inWards : GoodIn wsX3_freePlaces wsX2_inWards := goodIn_r _ [7, 8, 9, 10, 14, 15, 16, 17, 18, 19, 20, 21, 22, 23, 24, 25, 26] (by decide +kernel) (by decide +kernel)
set_option maxRecDepth 20000 in
theorem gX3_freePlaces_X2_inWards : GoodIn wsX3_freePlaces (wsV RX3 100 RX2 yX2_inWards wsX2_inWards) := goodIn_app (goodIn_of _ (by decide +kernel)) ggX3_freePlaces_X2_inWards
theorem dX3_freePlaces_0 : decode cX3_freePlaces 0 = .ok (.aload_n 0, 1) := by decide +kernel
theorem dX3_freePlaces_1 : decode cX3_freePlaces 1 = .ok (.iconst 0, 1) := by decide +kernel
theorem dX3_freePlaces_2 : decode cX3_freePlaces 2 = .ok (.putfield 19, 3) := by decide +kernel
theorem dX3_freePlaces_5 : decode cX3_freePlaces 5 = .ok (.iconst 0, 1) := by decide +kernel
theorem dX3_freePlaces_6 : decode cX3_freePlaces 6 = .ok (.istore_n 1, 1) := by decide +kernel
theorem dX3_freePlaces_7 : decode cX3_freePlaces 7 = .ok (.iconst 0, 1) := by decide +kernel
theorem dX3_freePlaces_8 : decode cX3_freePlaces 8 = .ok (.istore_n 2, 1) := by decide +kernel
theorem dX3_freePlaces_9 : decode cX3_freePlaces 9 = .ok (.iload_n 2, 1) := by decide +kernel
theorem dX3_freePlaces_10 : decode cX3_freePlaces 10 = .ok (.aload_n 0, 1) := by decide +kernel
theorem dX3_freePlaces_11 : decode cX3_freePlaces 11 = .ok (.getfield 10, 3) := by decide +kernel
theorem dX3_freePlaces_14 : decode cX3_freePlaces 14 = .ok (.getfield 23, 3) := by decide +kernel
theorem dX3_freePlaces_17 : decode cX3_freePlaces 17 = .ok (.if_icmp .ge 21, 3) := by decide +kernel
theorem dX3_freePlaces_20 : decode cX3_freePlaces 20 = .ok (.iload_n 1, 1) := by decide +kernel
theorem dX3_freePlaces_21 : decode cX3_freePlaces 21 = .ok (.aload_n 0, 1) := by decide +kernel
theorem dX3_freePlaces_22 : decode cX3_freePlaces 22 = .ok (.getfield 10, 3) := by decide +kernel
theorem dX3_freePlaces_25 : decode cX3_freePlaces 25 = .ok (.getfield 40, 3) := by decide +kernel
theorem dX3_freePlaces_28 : decode cX3_freePlaces 28 = .ok (.iload_n 2, 1) := by decide +kernel
theorem dX3_freePlaces_29 : decode cX3_freePlaces 29 = .ok (.iaload, 1) := by decide +kernel
theorem dX3_freePlaces_30 : decode cX3_freePlaces 30 = .ok (.iadd, 1) := by decide +kernel
theorem dX3_freePlaces_31 : decode cX3_freePlaces 31 = .ok (.istore_n 1, 1) := by decide +kernel
theorem dX3_freePlaces_32 : decode cX3_freePlaces 32 = .ok (.iinc 2 1, 3) := by decide +kernel
theorem dX3_freePlaces_35 : decode cX3_freePlaces 35 = .ok (.goto (-26), 3) := by decide +kernel
theorem dX3_freePlaces_38 : decode cX3_freePlaces 38 = .ok (.iload_n 1, 1) := by decide +kernel
theorem dX3_freePlaces_39 : decode cX3_freePlaces 39 = .ok (.aload_n 0, 1) := by decide +kernel
theorem dX3_freePlaces_40 : decode cX3_freePlaces 40 = .ok (.getfield 10, 3) := by decide +kernel
theorem dX3_freePlaces_43 : decode cX3_freePlaces 43 = .ok (.invokevirtual 100, 3) := by decide +kernel
theorem dX3_freePlaces_46 : decode cX3_freePlaces 46 = .ok (.isub, 1) := by decide +kernel
theorem dX3_freePlaces_47 : decode cX3_freePlaces 47 = .ok (.ireturn, 1) := by decide +kernel
set_option maxRecDepth 20000 in
theorem ggX3_bowlsShort_X2_inWards : GoodIn wsX3_bowlsShort wsX2_inWards := goodIn_r _ [11, 12, 13, 14, 18, 19, 20, 21, 22, 23, 24, 25, 26, 27, 28, 29, 30] (by decide +kernel) (by decide +kernel)
set_option maxRecDepth 20000 in
theorem gX3_bowlsShort_X2_inWards : GoodIn wsX3_bowlsShort (wsV RX3 100 RX2 yX2_inWards wsX2_inWards) := goodIn_app (goodIn_of _ (by decide +kernel)) ggX3_bowlsShort_X2_inWards
theorem dX3_bowlsShort_0 : decode cX3_bowlsShort 0 = .ok (.aload_n 0, 1) := by decide +kernel
theorem dX3_bowlsShort_1 : decode cX3_bowlsShort 1 = .ok (.iconst 0, 1) := by decide +kernel
theorem dX3_bowlsShort_2 : decode cX3_bowlsShort 2 = .ok (.putfield 19, 3) := by decide +kernel
theorem dX3_bowlsShort_5 : decode cX3_bowlsShort 5 = .ok (.iconst 0, 1) := by decide +kernel
theorem dX3_bowlsShort_6 : decode cX3_bowlsShort 6 = .ok (.aload_n 0, 1) := by decide +kernel
theorem dX3_bowlsShort_7 : decode cX3_bowlsShort 7 = .ok (.getfield 10, 3) := by decide +kernel
theorem dX3_bowlsShort_10 : decode cX3_bowlsShort 10 = .ok (.invokevirtual 100, 3) := by decide +kernel
theorem dX3_bowlsShort_13 : decode cX3_bowlsShort 13 = .ok (.aload_n 0, 1) := by decide +kernel
theorem dX3_bowlsShort_14 : decode cX3_bowlsShort 14 = .ok (.getfield 10, 3) := by decide +kernel
theorem dX3_bowlsShort_17 : decode cX3_bowlsShort 17 = .ok (.getfield 60, 3) := by decide +kernel
theorem dX3_bowlsShort_20 : decode cX3_bowlsShort 20 = .ok (.isub, 1) := by decide +kernel
theorem dX3_bowlsShort_21 : decode cX3_bowlsShort 21 = .ok (.invokestatic 91, 3) := by decide +kernel
theorem dX3_bowlsShort_24 : decode cX3_bowlsShort 24 = .ok (.ireturn, 1) := by decide +kernel
set_option maxRecDepth 20000 in
theorem ggX3_peopleHome_X2_at : GoodIn wsX3_peopleHome wsX2_at := goodIn_r _ [7, 8, 9, 13, 14, 15, 16, 17, 18, 19, 20, 21, 22, 23, 24, 25] (by decide +kernel) (by decide +kernel)
set_option maxRecDepth 20000 in
theorem gX3_peopleHome_X2_at : GoodIn wsX3_peopleHome (wsV RX3 72 RX2 yX2_at wsX2_at) := goodIn_app (goodIn_of _ (by decide +kernel)) ggX3_peopleHome_X2_at
theorem dX3_peopleHome_0 : decode cX3_peopleHome 0 = .ok (.aload_n 0, 1) := by decide +kernel
theorem dX3_peopleHome_1 : decode cX3_peopleHome 1 = .ok (.iconst 0, 1) := by decide +kernel
theorem dX3_peopleHome_2 : decode cX3_peopleHome 2 = .ok (.putfield 19, 3) := by decide +kernel
theorem dX3_peopleHome_5 : decode cX3_peopleHome 5 = .ok (.aload_n 0, 1) := by decide +kernel
theorem dX3_peopleHome_6 : decode cX3_peopleHome 6 = .ok (.getfield 10, 3) := by decide +kernel
theorem dX3_peopleHome_9 : decode cX3_peopleHome 9 = .ok (.bipush 20, 2) := by decide +kernel
theorem dX3_peopleHome_11 : decode cX3_peopleHome 11 = .ok (.invokevirtual 72, 3) := by decide +kernel
theorem dX3_peopleHome_14 : decode cX3_peopleHome 14 = .ok (.ireturn, 1) := by decide +kernel
set_option maxRecDepth 20000 in
theorem ggX3_peopleInGreatHouse_X2_at : GoodIn wsX3_peopleInGreatHouse wsX2_at := goodIn_r _ [7, 8, 9, 13, 14, 15, 16, 17, 18, 19, 20, 21, 22, 23, 24, 25] (by decide +kernel) (by decide +kernel)
set_option maxRecDepth 20000 in
theorem gX3_peopleInGreatHouse_X2_at : GoodIn wsX3_peopleInGreatHouse (wsV RX3 72 RX2 yX2_at wsX2_at) := goodIn_app (goodIn_of _ (by decide +kernel)) ggX3_peopleInGreatHouse_X2_at
theorem dX3_peopleInGreatHouse_0 : decode cX3_peopleInGreatHouse 0 = .ok (.aload_n 0, 1) := by decide +kernel
theorem dX3_peopleInGreatHouse_1 : decode cX3_peopleInGreatHouse 1 = .ok (.iconst 0, 1) := by decide +kernel
theorem dX3_peopleInGreatHouse_2 : decode cX3_peopleInGreatHouse 2 = .ok (.putfield 19, 3) := by decide +kernel
theorem dX3_peopleInGreatHouse_5 : decode cX3_peopleInGreatHouse 5 = .ok (.aload_n 0, 1) := by decide +kernel
theorem dX3_peopleInGreatHouse_6 : decode cX3_peopleInGreatHouse 6 = .ok (.getfield 10, 3) := by decide +kernel
theorem dX3_peopleInGreatHouse_9 : decode cX3_peopleInGreatHouse 9 = .ok (.bipush 21, 2) := by decide +kernel
theorem dX3_peopleInGreatHouse_11 : decode cX3_peopleInGreatHouse 11 = .ok (.invokevirtual 72, 3) := by decide +kernel
theorem dX3_peopleInGreatHouse_14 : decode cX3_peopleInGreatHouse 14 = .ok (.ireturn, 1) := by decide +kernel
theorem dX3_bowlsEaten_0 : decode cX3_bowlsEaten 0 = .ok (.aload_n 0, 1) := by decide +kernel
theorem dX3_bowlsEaten_1 : decode cX3_bowlsEaten 1 = .ok (.iconst 0, 1) := by decide +kernel
theorem dX3_bowlsEaten_2 : decode cX3_bowlsEaten 2 = .ok (.putfield 19, 3) := by decide +kernel
theorem dX3_bowlsEaten_5 : decode cX3_bowlsEaten 5 = .ok (.aload_n 0, 1) := by decide +kernel
theorem dX3_bowlsEaten_6 : decode cX3_bowlsEaten 6 = .ok (.getfield 10, 3) := by decide +kernel
theorem dX3_bowlsEaten_9 : decode cX3_bowlsEaten 9 = .ok (.getfield 104, 3) := by decide +kernel
theorem dX3_bowlsEaten_12 : decode cX3_bowlsEaten 12 = .ok (.ireturn, 1) := by decide +kernel
set_option maxRecDepth 20000 in
theorem ggX3_daysUntilHome_X3_isPerson : GoodIn wsX3_daysUntilHome wsX3_isPerson := goodIn_r _ [8, 3, 9, 10, 7, 11, 76, 77, 78, 79, 80, 81, 82, 83, 84, 85, 86, 87, 88, 89, 90, 91] (by decide +kernel) (by decide +kernel)
set_option maxRecDepth 20000 in
theorem gX3_daysUntilHome_X3_isPerson : GoodIn wsX3_daysUntilHome (wsV RX3 69 RX3 yX3_isPerson wsX3_isPerson) := goodIn_app (goodIn_of _ (by decide +kernel)) ggX3_daysUntilHome_X3_isPerson
set_option maxRecDepth 20000 in
theorem ggX3_daysUntilHome_X3_no : GoodIn wsX3_daysUntilHome wsX3_no := goodIn_r _ [15, 1, 76, 77, 78] (by decide +kernel) (by decide +kernel)
set_option maxRecDepth 20000 in
theorem gX3_daysUntilHome_X3_no : GoodIn wsX3_daysUntilHome (wsV RX3 36 RX3 yX3_no wsX3_no) := goodIn_app (goodIn_of _ (by decide +kernel)) ggX3_daysUntilHome_X3_no
set_option maxRecDepth 20000 in
theorem ggX3_daysUntilHome_X2_become : GoodIn wsX3_daysUntilHome wsX2_become := goodIn_r _ [20, 21, 22, 23, 24, 25, 26, 27, 28, 29, 30, 31, 32, 33, 34, 35, 19, 36, 37, 38, 39, 40, 79, 80, 81, 82, 83, 84, 85, 86, 87, 88, 89, 90, 91] (by decide +kernel) (by decide +kernel)
set_option maxRecDepth 20000 in
theorem gX3_daysUntilHome_X2_become : GoodIn wsX3_daysUntilHome (wsV RX3 107 RX2 yX2_become wsX2_become) := goodIn_app (goodIn_of _ (by decide +kernel)) ggX3_daysUntilHome_X2_become
set_option maxRecDepth 20000 in
theorem ggX3_daysUntilHome_X2_pass : GoodIn wsX3_daysUntilHome wsX2_pass := goodIn_r _ [44, 23, 22, 28, 21, 45, 46, 47, 19, 48, 25, 24, 32, 33, 26, 31, 49, 50, 51, 52, 53, 54, 55, 56, 57, 58, 59, 30, 60, 61, 62, 63, 64, 65, 66, 67, 29, 68, 69, 70, 71, 27, 72, 73, 74, 75, 79, 80, 81, 82, 83, 84, 85, 86, 87, 88, 89, 90, 91] (by decide +kernel) (by decide +kernel)
set_option maxRecDepth 20000 in
theorem gX3_daysUntilHome_X2_pass : GoodIn wsX3_daysUntilHome (wsV RX3 111 RX2 yX2_pass wsX2_pass) := goodIn_app (goodIn_of _ (by decide +kernel)) ggX3_daysUntilHome_X2_pass
theorem dX3_daysUntilHome_0 : decode cX3_daysUntilHome 0 = .ok (.aload_n 0, 1) := by decide +kernel
theorem dX3_daysUntilHome_1 : decode cX3_daysUntilHome 1 = .ok (.iconst 0, 1) := by decide +kernel
theorem dX3_daysUntilHome_2 : decode cX3_daysUntilHome 2 = .ok (.putfield 19, 3) := by decide +kernel
theorem dX3_daysUntilHome_5 : decode cX3_daysUntilHome 5 = .ok (.aload_n 0, 1) := by decide +kernel
theorem dX3_daysUntilHome_6 : decode cX3_daysUntilHome 6 = .ok (.iload_n 1, 1) := by decide +kernel
theorem dX3_daysUntilHome_7 : decode cX3_daysUntilHome 7 = .ok (.invokevirtual 69, 3) := by decide +kernel
theorem dX3_daysUntilHome_10 : decode cX3_daysUntilHome 10 = .ok (.ifCond .ne 9, 3) := by decide +kernel
theorem dX3_daysUntilHome_13 : decode cX3_daysUntilHome 13 = .ok (.aload_n 0, 1) := by decide +kernel
theorem dX3_daysUntilHome_14 : decode cX3_daysUntilHome 14 = .ok (.iconst 1, 1) := by decide +kernel
theorem dX3_daysUntilHome_15 : decode cX3_daysUntilHome 15 = .ok (.invokevirtual 36, 3) := by decide +kernel
theorem dX3_daysUntilHome_18 : decode cX3_daysUntilHome 18 = .ok (.ireturn, 1) := by decide +kernel
theorem dX3_daysUntilHome_19 : decode cX3_daysUntilHome 19 = .ok (.aload_n 0, 1) := by decide +kernel
theorem dX3_daysUntilHome_20 : decode cX3_daysUntilHome 20 = .ok (.getfield 16, 3) := by decide +kernel
theorem dX3_daysUntilHome_23 : decode cX3_daysUntilHome 23 = .ok (.aload_n 0, 1) := by decide +kernel
theorem dX3_daysUntilHome_24 : decode cX3_daysUntilHome 24 = .ok (.getfield 10, 3) := by decide +kernel
theorem dX3_daysUntilHome_27 : decode cX3_daysUntilHome 27 = .ok (.invokevirtual 107, 3) := by decide +kernel
theorem dX3_daysUntilHome_30 : decode cX3_daysUntilHome 30 = .ok (.iconst 0, 1) := by decide +kernel
theorem dX3_daysUntilHome_31 : decode cX3_daysUntilHome 31 = .ok (.istore_n 2, 1) := by decide +kernel
theorem dX3_daysUntilHome_32 : decode cX3_daysUntilHome 32 = .ok (.iload_n 2, 1) := by decide +kernel
theorem dX3_daysUntilHome_33 : decode cX3_daysUntilHome 33 = .ok (.bipush 60, 2) := by decide +kernel
theorem dX3_daysUntilHome_35 : decode cX3_daysUntilHome 35 = .ok (.if_icmp .gt 32, 3) := by decide +kernel
theorem dX3_daysUntilHome_38 : decode cX3_daysUntilHome 38 = .ok (.aload_n 0, 1) := by decide +kernel
theorem dX3_daysUntilHome_39 : decode cX3_daysUntilHome 39 = .ok (.getfield 16, 3) := by decide +kernel
theorem dX3_daysUntilHome_42 : decode cX3_daysUntilHome 42 = .ok (.getfield 57, 3) := by decide +kernel
theorem dX3_daysUntilHome_45 : decode cX3_daysUntilHome 45 = .ok (.iload_n 1, 1) := by decide +kernel
theorem dX3_daysUntilHome_46 : decode cX3_daysUntilHome 46 = .ok (.iaload, 1) := by decide +kernel
theorem dX3_daysUntilHome_47 : decode cX3_daysUntilHome 47 = .ok (.bipush 20, 2) := by decide +kernel
theorem dX3_daysUntilHome_49 : decode cX3_daysUntilHome 49 = .ok (.if_icmp .ne 5, 3) := by decide +kernel
theorem dX3_daysUntilHome_52 : decode cX3_daysUntilHome 52 = .ok (.iload_n 2, 1) := by decide +kernel
theorem dX3_daysUntilHome_53 : decode cX3_daysUntilHome 53 = .ok (.ireturn, 1) := by decide +kernel
theorem dX3_daysUntilHome_54 : decode cX3_daysUntilHome 54 = .ok (.aload_n 0, 1) := by decide +kernel
theorem dX3_daysUntilHome_55 : decode cX3_daysUntilHome 55 = .ok (.getfield 16, 3) := by decide +kernel
theorem dX3_daysUntilHome_58 : decode cX3_daysUntilHome 58 = .ok (.invokevirtual 111, 3) := by decide +kernel
theorem dX3_daysUntilHome_61 : decode cX3_daysUntilHome 61 = .ok (.iinc 2 1, 3) := by decide +kernel
theorem dX3_daysUntilHome_64 : decode cX3_daysUntilHome 64 = .ok (.goto (-32), 3) := by decide +kernel
theorem dX3_daysUntilHome_67 : decode cX3_daysUntilHome 67 = .ok (.iconst (-1), 1) := by decide +kernel
theorem dX3_daysUntilHome_68 : decode cX3_daysUntilHome 68 = .ok (.ireturn, 1) := by decide +kernel
set_option maxRecDepth 20000 in
theorem ggX3_after_X3_isIn : GoodIn wsX3_after wsX3_isIn := goodIn_r _ [7] (by decide +kernel) (by decide +kernel)
set_option maxRecDepth 20000 in
theorem gX3_after_X3_isIn : GoodIn wsX3_after (va_wsS RX3 26 yX3_isIn wsX3_isIn) := goodIn_app (goodIn_of _ (by decide +kernel)) ggX3_after_X3_isIn
set_option maxRecDepth 20000 in
theorem ggX3_after_X3_no : GoodIn wsX3_after wsX3_no := goodIn_r _ [11, 1, 77, 78, 79] (by decide +kernel) (by decide +kernel)
set_option maxRecDepth 20000 in
theorem gX3_after_X3_no : GoodIn wsX3_after (wsV RX3 36 RX3 yX3_no wsX3_no) := goodIn_app (goodIn_of _ (by decide +kernel)) ggX3_after_X3_no
set_option maxRecDepth 20000 in
theorem ggX3_after_X2_become : GoodIn wsX3_after wsX2_become := goodIn_r _ [16, 17, 18, 19, 20, 21, 22, 23, 24, 25, 26, 27, 28, 29, 30, 31, 15, 32, 33, 34, 35, 36, 80, 81, 82, 83, 84, 85, 86, 87, 88, 89, 90, 91, 92] (by decide +kernel) (by decide +kernel)
set_option maxRecDepth 20000 in
theorem gX3_after_X2_become : GoodIn wsX3_after (wsV RX3 107 RX2 yX2_become wsX2_become) := goodIn_app (goodIn_of _ (by decide +kernel)) ggX3_after_X2_become
set_option maxRecDepth 20000 in
theorem ggX3_after_X2_passOn : GoodIn wsX3_after wsX2_passOn := goodIn_r _ [40, 41, 42, 43, 15, 44, 19, 18, 24, 17, 45, 46, 47, 48, 21, 20, 28, 29, 22, 27, 49, 50, 51, 52, 53, 54, 55, 56, 57, 58, 59, 26, 60, 61, 62, 63, 64, 65, 66, 67, 25, 68, 69, 70, 71, 23, 72, 73, 74, 75, 80, 81, 82, 83, 84, 85, 86, 87, 88, 89, 90, 91, 92] (by decide +kernel) (by decide +kernel)
set_option maxRecDepth 20000 in
theorem gX3_after_X2_passOn : GoodIn wsX3_after (wsV RX3 75 RX2 yX2_passOn wsX2_passOn) := goodIn_app (goodIn_of _ (by decide +kernel)) ggX3_after_X2_passOn
set_option maxRecDepth 20000 in
theorem ggX3_after_X2_at : GoodIn wsX3_after wsX2_at := goodIn_r _ [75, 20, 28, 80, 81, 82, 83, 84, 85, 86, 87, 88, 89, 90, 91, 92] (by decide +kernel) (by decide +kernel)
set_option maxRecDepth 20000 in
theorem gX3_after_X2_at : GoodIn wsX3_after (wsV RX3 72 RX2 yX2_at wsX2_at) := goodIn_app (goodIn_of _ (by decide +kernel)) ggX3_after_X2_at
theorem dX3_after_0 : decode cX3_after 0 = .ok (.aload_n 0, 1) := by decide +kernel
theorem dX3_after_1 : decode cX3_after 1 = .ok (.iconst 0, 1) := by decide +kernel
theorem dX3_after_2 : decode cX3_after 2 = .ok (.putfield 19, 3) := by decide +kernel
theorem dX3_after_5 : decode cX3_after 5 = .ok (.iload_n 1, 1) := by decide +kernel
theorem dX3_after_6 : decode cX3_after 6 = .ok (.iconst 1, 1) := by decide +kernel
theorem dX3_after_7 : decode cX3_after 7 = .ok (.bipush 40, 2) := by decide +kernel
theorem dX3_after_9 : decode cX3_after 9 = .ok (.invokestatic 26, 3) := by decide +kernel
theorem dX3_after_12 : decode cX3_after 12 = .ok (.ifCond .ne 9, 3) := by decide +kernel
theorem dX3_after_15 : decode cX3_after 15 = .ok (.aload_n 0, 1) := by decide +kernel
theorem dX3_after_16 : decode cX3_after 16 = .ok (.iconst 1, 1) := by decide +kernel
theorem dX3_after_17 : decode cX3_after 17 = .ok (.invokevirtual 36, 3) := by decide +kernel
theorem dX3_after_20 : decode cX3_after 20 = .ok (.ireturn, 1) := by decide +kernel
theorem dX3_after_21 : decode cX3_after 21 = .ok (.aload_n 0, 1) := by decide +kernel
theorem dX3_after_22 : decode cX3_after 22 = .ok (.getfield 16, 3) := by decide +kernel
theorem dX3_after_25 : decode cX3_after 25 = .ok (.aload_n 0, 1) := by decide +kernel
theorem dX3_after_26 : decode cX3_after 26 = .ok (.getfield 10, 3) := by decide +kernel
theorem dX3_after_29 : decode cX3_after 29 = .ok (.invokevirtual 107, 3) := by decide +kernel
theorem dX3_after_32 : decode cX3_after 32 = .ok (.aload_n 0, 1) := by decide +kernel
theorem dX3_after_33 : decode cX3_after 33 = .ok (.getfield 16, 3) := by decide +kernel
theorem dX3_after_36 : decode cX3_after 36 = .ok (.iload_n 1, 1) := by decide +kernel
theorem dX3_after_37 : decode cX3_after 37 = .ok (.invokevirtual 75, 3) := by decide +kernel
theorem dX3_after_40 : decode cX3_after 40 = .ok (.aload_n 0, 1) := by decide +kernel
theorem dX3_after_41 : decode cX3_after 41 = .ok (.getfield 16, 3) := by decide +kernel
theorem dX3_after_44 : decode cX3_after 44 = .ok (.iload_n 2, 1) := by decide +kernel
theorem dX3_after_45 : decode cX3_after 45 = .ok (.invokevirtual 72, 3) := by decide +kernel
theorem dX3_after_48 : decode cX3_after 48 = .ok (.ireturn, 1) := by decide +kernel
set_option maxRecDepth 20000 in
theorem ggX3_homeAfter_X3_after : GoodIn wsX3_homeAfter wsX3_after := goodIn_r _ [5, 6, 7, 8, 9, 10, 4, 11, 12, 13, 14, 15, 16, 17, 18, 19, 20, 21, 22, 23, 24, 25, 26, 27, 28, 29, 30, 31, 32, 33, 34, 35, 36, 37, 38, 39, 40, 41, 42, 43, 44, 45, 46, 47, 48, 49, 50, 51, 52, 53, 54, 55, 56, 57, 58, 59, 60, 61, 62, 63, 64, 65, 66, 67, 68, 69, 70, 71, 72, 73, 74, 75, 76, 77, 78, 79, 80, 81, 82, 83, 84, 85, 86, 87, 88, 89, 90, 91, 92, 93, 94, 95, 96] (by decide +kernel) (by decide +kernel)
set_option maxRecDepth 20000 in
theorem gX3_homeAfter_X3_after : GoodIn wsX3_homeAfter (wsV RX3 114 RX3 yX3_after wsX3_after) := goodIn_app (goodIn_of _ (by decide +kernel)) ggX3_homeAfter_X3_after
theorem dX3_homeAfter_0 : decode cX3_homeAfter 0 = .ok (.aload_n 0, 1) := by decide +kernel
theorem dX3_homeAfter_1 : decode cX3_homeAfter 1 = .ok (.iload_n 1, 1) := by decide +kernel
theorem dX3_homeAfter_2 : decode cX3_homeAfter 2 = .ok (.bipush 20, 2) := by decide +kernel
theorem dX3_homeAfter_4 : decode cX3_homeAfter 4 = .ok (.invokevirtual 114, 3) := by decide +kernel
theorem dX3_homeAfter_7 : decode cX3_homeAfter 7 = .ok (.ireturn, 1) := by decide +kernel
set_option maxRecDepth 20000 in
theorem ggX3_greatHouseAfter_X3_after : GoodIn wsX3_greatHouseAfter wsX3_after := goodIn_r _ [5, 6, 7, 8, 9, 10, 4, 11, 12, 13, 14, 15, 16, 17, 18, 19, 20, 21, 22, 23, 24, 25, 26, 27, 28, 29, 30, 31, 32, 33, 34, 35, 36, 37, 38, 39, 40, 41, 42, 43, 44, 45, 46, 47, 48, 49, 50, 51, 52, 53, 54, 55, 56, 57, 58, 59, 60, 61, 62, 63, 64, 65, 66, 67, 68, 69, 70, 71, 72, 73, 74, 75, 76, 77, 78, 79, 80, 81, 82, 83, 84, 85, 86, 87, 88, 89, 90, 91, 92, 93, 94, 95, 96] (by decide +kernel) (by decide +kernel)
set_option maxRecDepth 20000 in
theorem gX3_greatHouseAfter_X3_after : GoodIn wsX3_greatHouseAfter (wsV RX3 114 RX3 yX3_after wsX3_after) := goodIn_app (goodIn_of _ (by decide +kernel)) ggX3_greatHouseAfter_X3_after
theorem dX3_greatHouseAfter_0 : decode cX3_greatHouseAfter 0 = .ok (.aload_n 0, 1) := by decide +kernel
theorem dX3_greatHouseAfter_1 : decode cX3_greatHouseAfter 1 = .ok (.iload_n 1, 1) := by decide +kernel
theorem dX3_greatHouseAfter_2 : decode cX3_greatHouseAfter 2 = .ok (.bipush 21, 2) := by decide +kernel
theorem dX3_greatHouseAfter_4 : decode cX3_greatHouseAfter 4 = .ok (.invokevirtual 114, 3) := by decide +kernel
theorem dX3_greatHouseAfter_7 : decode cX3_greatHouseAfter 7 = .ok (.ireturn, 1) := by decide +kernel
set_option maxRecDepth 20000 in
theorem ggX3_bestStraw_X3_isIn : GoodIn wsX3_bestStraw wsX3_isIn := goodIn_r _ [7] (by decide +kernel) (by decide +kernel)
set_option maxRecDepth 20000 in
theorem gX3_bestStraw_X3_isIn : GoodIn wsX3_bestStraw (va_wsS RX3 26 yX3_isIn wsX3_isIn) := goodIn_app (goodIn_of _ (by decide +kernel)) ggX3_bestStraw_X3_isIn
set_option maxRecDepth 20000 in
theorem ggX3_bestStraw_X3_no : GoodIn wsX3_bestStraw wsX3_no := goodIn_r _ [11, 1, 81, 82, 83] (by decide +kernel) (by decide +kernel)
set_option maxRecDepth 20000 in
theorem gX3_bestStraw_X3_no : GoodIn wsX3_bestStraw (wsV RX3 36 RX3 yX3_no wsX3_no) := goodIn_app (goodIn_of _ (by decide +kernel)) ggX3_bestStraw_X3_no
set_option maxRecDepth 20000 in
theorem ggX3_bestStraw_X3_after : GoodIn wsX3_bestStraw wsX3_after := goodIn_r _ [15, 1, 3, 2, 4, 5, 6, 7, 8, 9, 10, 11, 16, 17, 18, 19, 20, 21, 22, 23, 24, 25, 26, 27, 28, 29, 30, 31, 32, 33, 34, 35, 36, 37, 38, 39, 40, 41, 42, 43, 44, 45, 46, 47, 48, 49, 50, 51, 52, 53, 54, 55, 56, 57, 58, 59, 60, 61, 62, 63, 64, 65, 66, 67, 68, 69, 70, 71, 72, 73, 74, 75, 76, 77, 78, 79, 80, 81, 82, 83, 84, 85, 86, 87, 88, 89, 90, 91, 92, 93, 94, 95, 96] (by decide +kernel) (by decide +kernel)
set_option maxRecDepth 20000 in
theorem gX3_bestStraw_X3_after : GoodIn wsX3_bestStraw (wsV RX3 114 RX3 yX3_after wsX3_after) := goodIn_app (goodIn_of _ (by decide +kernel)) ggX3_bestStraw_X3_after
set_option maxRecDepth 20000 in
theorem ggX3_bestStraw_X2_become : GoodIn wsX3_bestStraw wsX2_become := goodIn_r _ [20, 21, 22, 23, 24, 25, 26, 27, 28, 29, 30, 31, 32, 33, 34, 35, 19, 36, 37, 38, 39, 40, 84, 85, 86, 87, 88, 89, 90, 91, 92, 93, 94, 95, 96] (by decide +kernel) (by decide +kernel)
set_option maxRecDepth 20000 in
theorem gX3_bestStraw_X2_become : GoodIn wsX3_bestStraw (wsV RX3 107 RX2 yX2_become wsX2_become) := goodIn_app (goodIn_of _ (by decide +kernel)) ggX3_bestStraw_X2_become
set_option maxRecDepth 20000 in
theorem ggX3_bestStraw_X2_passOn : GoodIn wsX3_bestStraw wsX2_passOn := goodIn_r _ [44, 45, 46, 47, 19, 48, 23, 22, 28, 21, 49, 50, 51, 52, 25, 24, 32, 33, 26, 31, 53, 54, 55, 56, 57, 58, 59, 60, 61, 62, 63, 30, 64, 65, 66, 67, 68, 69, 70, 71, 29, 72, 73, 74, 75, 27, 76, 77, 78, 79, 84, 85, 86, 87, 88, 89, 90, 91, 92, 93, 94, 95, 96] (by decide +kernel) (by decide +kernel)
set_option maxRecDepth 20000 in
theorem gX3_bestStraw_X2_passOn : GoodIn wsX3_bestStraw (wsV RX3 75 RX2 yX2_passOn wsX2_passOn) := goodIn_app (goodIn_of _ (by decide +kernel)) ggX3_bestStraw_X2_passOn
set_option maxRecDepth 20000 in
theorem ggX3_bestStraw_X2_at : GoodIn wsX3_bestStraw wsX2_at := goodIn_r _ [79, 24, 32, 84, 85, 86, 87, 88, 89, 90, 91, 92, 93, 94, 95, 96] (by decide +kernel) (by decide +kernel)
set_option maxRecDepth 20000 in
theorem gX3_bestStraw_X2_at : GoodIn wsX3_bestStraw (wsV RX3 72 RX2 yX2_at wsX2_at) := goodIn_app (goodIn_of _ (by decide +kernel)) ggX3_bestStraw_X2_at
theorem dX3_bestStraw_0 : decode cX3_bestStraw 0 = .ok (.aload_n 0, 1) := by decide +kernel
theorem dX3_bestStraw_1 : decode cX3_bestStraw 1 = .ok (.iconst 0, 1) := by decide +kernel
theorem dX3_bestStraw_2 : decode cX3_bestStraw 2 = .ok (.putfield 19, 3) := by decide +kernel
theorem dX3_bestStraw_5 : decode cX3_bestStraw 5 = .ok (.iload_n 1, 1) := by decide +kernel
theorem dX3_bestStraw_6 : decode cX3_bestStraw 6 = .ok (.iconst 1, 1) := by decide +kernel
theorem dX3_bestStraw_7 : decode cX3_bestStraw 7 = .ok (.bipush 40, 2) := by decide +kernel
theorem dX3_bestStraw_9 : decode cX3_bestStraw 9 = .ok (.invokestatic 26, 3) := by decide +kernel
theorem dX3_bestStraw_12 : decode cX3_bestStraw 12 = .ok (.ifCond .ne 9, 3) := by decide +kernel
theorem dX3_bestStraw_15 : decode cX3_bestStraw 15 = .ok (.aload_n 0, 1) := by decide +kernel
theorem dX3_bestStraw_16 : decode cX3_bestStraw 16 = .ok (.iconst 1, 1) := by decide +kernel
theorem dX3_bestStraw_17 : decode cX3_bestStraw 17 = .ok (.invokevirtual 36, 3) := by decide +kernel
theorem dX3_bestStraw_20 : decode cX3_bestStraw 20 = .ok (.ireturn, 1) := by decide +kernel
theorem dX3_bestStraw_21 : decode cX3_bestStraw 21 = .ok (.aload_n 0, 1) := by decide +kernel
theorem dX3_bestStraw_22 : decode cX3_bestStraw 22 = .ok (.iload_n 1, 1) := by decide +kernel
theorem dX3_bestStraw_23 : decode cX3_bestStraw 23 = .ok (.bipush 20, 2) := by decide +kernel
theorem dX3_bestStraw_25 : decode cX3_bestStraw 25 = .ok (.invokevirtual 114, 3) := by decide +kernel
theorem dX3_bestStraw_28 : decode cX3_bestStraw 28 = .ok (.istore_n 2, 1) := by decide +kernel
theorem dX3_bestStraw_29 : decode cX3_bestStraw 29 = .ok (.iconst (-1), 1) := by decide +kernel
theorem dX3_bestStraw_30 : decode cX3_bestStraw 30 = .ok (.istore_n 3, 1) := by decide +kernel
theorem dX3_bestStraw_31 : decode cX3_bestStraw 31 = .ok (.iconst 0, 1) := by decide +kernel
theorem dX3_bestStraw_32 : decode cX3_bestStraw 32 = .ok (.istore 4, 2) := by decide +kernel
theorem dX3_bestStraw_34 : decode cX3_bestStraw 34 = .ok (.iload 4, 2) := by decide +kernel
theorem dX3_bestStraw_36 : decode cX3_bestStraw 36 = .ok (.aload_n 0, 1) := by decide +kernel
theorem dX3_bestStraw_37 : decode cX3_bestStraw 37 = .ok (.getfield 10, 3) := by decide +kernel
theorem dX3_bestStraw_40 : decode cX3_bestStraw 40 = .ok (.getfield 23, 3) := by decide +kernel
theorem dX3_bestStraw_43 : decode cX3_bestStraw 43 = .ok (.if_icmp .ge 68, 3) := by decide +kernel
theorem dX3_bestStraw_46 : decode cX3_bestStraw 46 = .ok (.aload_n 0, 1) := by decide +kernel
theorem dX3_bestStraw_47 : decode cX3_bestStraw 47 = .ok (.getfield 16, 3) := by decide +kernel
theorem dX3_bestStraw_50 : decode cX3_bestStraw 50 = .ok (.aload_n 0, 1) := by decide +kernel
theorem dX3_bestStraw_51 : decode cX3_bestStraw 51 = .ok (.getfield 10, 3) := by decide +kernel
theorem dX3_bestStraw_54 : decode cX3_bestStraw 54 = .ok (.invokevirtual 107, 3) := by decide +kernel
theorem dX3_bestStraw_57 : decode cX3_bestStraw 57 = .ok (.aload_n 0, 1) := by decide +kernel
theorem dX3_bestStraw_58 : decode cX3_bestStraw 58 = .ok (.getfield 16, 3) := by decide +kernel
theorem dX3_bestStraw_61 : decode cX3_bestStraw 61 = .ok (.getfield 66, 3) := by decide +kernel
theorem dX3_bestStraw_64 : decode cX3_bestStraw 64 = .ok (.iload 4, 2) := by decide +kernel
theorem dX3_bestStraw_66 : decode cX3_bestStraw 66 = .ok (.iconst 0, 1) := by decide +kernel
theorem dX3_bestStraw_67 : decode cX3_bestStraw 67 = .ok (.iastore, 1) := by decide +kernel
theorem dX3_bestStraw_68 : decode cX3_bestStraw 68 = .ok (.aload_n 0, 1) := by decide +kernel
theorem dX3_bestStraw_69 : decode cX3_bestStraw 69 = .ok (.getfield 16, 3) := by decide +kernel
theorem dX3_bestStraw_72 : decode cX3_bestStraw 72 = .ok (.iload_n 1, 1) := by decide +kernel
theorem dX3_bestStraw_73 : decode cX3_bestStraw 73 = .ok (.invokevirtual 75, 3) := by decide +kernel
theorem dX3_bestStraw_76 : decode cX3_bestStraw 76 = .ok (.aload_n 0, 1) := by decide +kernel
theorem dX3_bestStraw_77 : decode cX3_bestStraw 77 = .ok (.getfield 16, 3) := by decide +kernel
theorem dX3_bestStraw_80 : decode cX3_bestStraw 80 = .ok (.bipush 20, 2) := by decide +kernel
theorem dX3_bestStraw_82 : decode cX3_bestStraw 82 = .ok (.invokevirtual 72, 3) := by decide +kernel
theorem dX3_bestStraw_85 : decode cX3_bestStraw 85 = .ok (.iload_n 2, 1) := by decide +kernel
theorem dX3_bestStraw_86 : decode cX3_bestStraw 86 = .ok (.if_icmp .gt 6, 3) := by decide +kernel
theorem dX3_bestStraw_89 : decode cX3_bestStraw 89 = .ok (.goto 16, 3) := by decide +kernel
theorem dX3_bestStraw_92 : decode cX3_bestStraw 92 = .ok (.iload 4, 2) := by decide +kernel
theorem dX3_bestStraw_94 : decode cX3_bestStraw 94 = .ok (.istore_n 3, 1) := by decide +kernel
theorem dX3_bestStraw_95 : decode cX3_bestStraw 95 = .ok (.aload_n 0, 1) := by decide +kernel
theorem dX3_bestStraw_96 : decode cX3_bestStraw 96 = .ok (.getfield 16, 3) := by decide +kernel
theorem dX3_bestStraw_99 : decode cX3_bestStraw 99 = .ok (.bipush 20, 2) := by decide +kernel
theorem dX3_bestStraw_101 : decode cX3_bestStraw 101 = .ok (.invokevirtual 72, 3) := by decide +kernel
theorem dX3_bestStraw_104 : decode cX3_bestStraw 104 = .ok (.istore_n 2, 1) := by decide +kernel
theorem dX3_bestStraw_105 : decode cX3_bestStraw 105 = .ok (.iinc 4 1, 3) := by decide +kernel
theorem dX3_bestStraw_108 : decode cX3_bestStraw 108 = .ok (.goto (-74), 3) := by decide +kernel
theorem dX3_bestStraw_111 : decode cX3_bestStraw 111 = .ok (.iload_n 3, 1) := by decide +kernel
theorem dX3_bestStraw_112 : decode cX3_bestStraw 112 = .ok (.ireturn, 1) := by decide +kernel
set_option maxRecDepth 20000 in
theorem ggX3_bowlsNeeded_X2_inWards : GoodIn wsX3_bowlsNeeded wsX2_inWards := goodIn_r _ [7, 8, 9, 10, 14, 15, 16, 17, 18, 19, 20, 21, 22, 23, 24, 25, 26] (by decide +kernel) (by decide +kernel)
set_option maxRecDepth 20000 in
theorem gX3_bowlsNeeded_X2_inWards : GoodIn wsX3_bowlsNeeded (wsV RX3 100 RX2 yX2_inWards wsX2_inWards) := goodIn_app (goodIn_of _ (by decide +kernel)) ggX3_bowlsNeeded_X2_inWards
theorem dX3_bowlsNeeded_0 : decode cX3_bowlsNeeded 0 = .ok (.aload_n 0, 1) := by decide +kernel
theorem dX3_bowlsNeeded_1 : decode cX3_bowlsNeeded 1 = .ok (.iconst 0, 1) := by decide +kernel
theorem dX3_bowlsNeeded_2 : decode cX3_bowlsNeeded 2 = .ok (.putfield 19, 3) := by decide +kernel
theorem dX3_bowlsNeeded_5 : decode cX3_bowlsNeeded 5 = .ok (.aload_n 0, 1) := by decide +kernel
theorem dX3_bowlsNeeded_6 : decode cX3_bowlsNeeded 6 = .ok (.getfield 10, 3) := by decide +kernel
theorem dX3_bowlsNeeded_9 : decode cX3_bowlsNeeded 9 = .ok (.invokevirtual 100, 3) := by decide +kernel
theorem dX3_bowlsNeeded_12 : decode cX3_bowlsNeeded 12 = .ok (.ireturn, 1) := by decide +kernel
set_option maxRecDepth 20000 in
theorem ggX3_meanFever_X3_feversAt : GoodIn wsX3_meanFever wsX3_feversAt := goodIn_r _ [7, 2, 16, 17, 18, 19, 20, 21, 22, 23, 24, 25, 26, 27, 28, 29, 30, 31] (by decide +kernel) (by decide +kernel)
set_option maxRecDepth 20000 in
theorem gX3_meanFever_X3_feversAt : GoodIn wsX3_meanFever (wsV RX3 88 RX3 yX3_feversAt wsX3_feversAt) := goodIn_app (goodIn_of _ (by decide +kernel)) ggX3_meanFever_X3_feversAt
set_option maxRecDepth 20000 in
theorem ggX3_meanFever_X2_inWards : GoodIn wsX3_meanFever wsX2_inWards := goodIn_r _ [12, 13, 14, 15, 19, 20, 21, 22, 23, 24, 25, 26, 27, 28, 29, 30, 31] (by decide +kernel) (by decide +kernel)
set_option maxRecDepth 20000 in
theorem gX3_meanFever_X2_inWards : GoodIn wsX3_meanFever (wsV RX3 100 RX2 yX2_inWards wsX2_inWards) := goodIn_app (goodIn_of _ (by decide +kernel)) ggX3_meanFever_X2_inWards
theorem dX3_meanFever_0 : decode cX3_meanFever 0 = .ok (.aload_n 0, 1) := by decide +kernel
theorem dX3_meanFever_1 : decode cX3_meanFever 1 = .ok (.iconst 0, 1) := by decide +kernel
theorem dX3_meanFever_2 : decode cX3_meanFever 2 = .ok (.putfield 19, 3) := by decide +kernel
theorem dX3_meanFever_5 : decode cX3_meanFever 5 = .ok (.iconst 0, 1) := by decide +kernel
theorem dX3_meanFever_6 : decode cX3_meanFever 6 = .ok (.istore_n 1, 1) := by decide +kernel
theorem dX3_meanFever_7 : decode cX3_meanFever 7 = .ok (.iconst 0, 1) := by decide +kernel
theorem dX3_meanFever_8 : decode cX3_meanFever 8 = .ok (.istore_n 2, 1) := by decide +kernel
theorem dX3_meanFever_9 : decode cX3_meanFever 9 = .ok (.iload_n 2, 1) := by decide +kernel
theorem dX3_meanFever_10 : decode cX3_meanFever 10 = .ok (.aload_n 0, 1) := by decide +kernel
theorem dX3_meanFever_11 : decode cX3_meanFever 11 = .ok (.getfield 10, 3) := by decide +kernel
theorem dX3_meanFever_14 : decode cX3_meanFever 14 = .ok (.getfield 23, 3) := by decide +kernel
theorem dX3_meanFever_17 : decode cX3_meanFever 17 = .ok (.if_icmp .ge 17, 3) := by decide +kernel
theorem dX3_meanFever_20 : decode cX3_meanFever 20 = .ok (.iload_n 1, 1) := by decide +kernel
theorem dX3_meanFever_21 : decode cX3_meanFever 21 = .ok (.aload_n 0, 1) := by decide +kernel
theorem dX3_meanFever_22 : decode cX3_meanFever 22 = .ok (.iload_n 2, 1) := by decide +kernel
theorem dX3_meanFever_23 : decode cX3_meanFever 23 = .ok (.invokevirtual 88, 3) := by decide +kernel
theorem dX3_meanFever_26 : decode cX3_meanFever 26 = .ok (.iadd, 1) := by decide +kernel
theorem dX3_meanFever_27 : decode cX3_meanFever 27 = .ok (.istore_n 1, 1) := by decide +kernel
theorem dX3_meanFever_28 : decode cX3_meanFever 28 = .ok (.iinc 2 1, 3) := by decide +kernel
theorem dX3_meanFever_31 : decode cX3_meanFever 31 = .ok (.goto (-22), 3) := by decide +kernel
theorem dX3_meanFever_34 : decode cX3_meanFever 34 = .ok (.aload_n 0, 1) := by decide +kernel
theorem dX3_meanFever_35 : decode cX3_meanFever 35 = .ok (.getfield 10, 3) := by decide +kernel
theorem dX3_meanFever_38 : decode cX3_meanFever 38 = .ok (.invokevirtual 100, 3) := by decide +kernel
theorem dX3_meanFever_41 : decode cX3_meanFever 41 = .ok (.ifCond .ne 7, 3) := by decide +kernel
theorem dX3_meanFever_44 : decode cX3_meanFever 44 = .ok (.dconst 0, 1) := by decide +kernel
theorem dX3_meanFever_45 : decode cX3_meanFever 45 = .ok (.goto 14, 3) := by decide +kernel
theorem dX3_meanFever_48 : decode cX3_meanFever 48 = .ok (.iload_n 1, 1) := by decide +kernel
theorem dX3_meanFever_49 : decode cX3_meanFever 49 = .ok (.i2d, 1) := by decide +kernel
theorem dX3_meanFever_50 : decode cX3_meanFever 50 = .ok (.aload_n 0, 1) := by decide +kernel
theorem dX3_meanFever_51 : decode cX3_meanFever 51 = .ok (.getfield 10, 3) := by decide +kernel
theorem dX3_meanFever_54 : decode cX3_meanFever 54 = .ok (.invokevirtual 100, 3) := by decide +kernel
theorem dX3_meanFever_57 : decode cX3_meanFever 57 = .ok (.i2d, 1) := by decide +kernel
theorem dX3_meanFever_58 : decode cX3_meanFever 58 = .ok (.ddiv, 1) := by decide +kernel
theorem dX3_meanFever_59 : decode cX3_meanFever 59 = .ok (.dreturn, 1) := by decide +kernel
set_option maxRecDepth 20000 in
theorem ggX3_digest_X2_at : GoodIn wsX3_digest wsX2_at := goodIn_r _ [10, 11, 12, 32, 33, 34, 35, 36, 37, 38, 39, 40, 41, 42, 43, 44] (by decide +kernel) (by decide +kernel)
set_option maxRecDepth 20000 in
theorem gX3_digest_X2_at : GoodIn wsX3_digest (wsV RX3 72 RX2 yX2_at wsX2_at) := goodIn_app (goodIn_of _ (by decide +kernel)) ggX3_digest_X2_at
set_option maxRecDepth 20000 in
theorem ggX3_digest_X3_feversAt : GoodIn wsX3_digest wsX3_feversAt := goodIn_r _ [17, 3, 29, 30, 31, 32, 33, 34, 35, 36, 37, 38, 39, 40, 41, 42, 43, 44] (by decide +kernel) (by decide +kernel)
set_option maxRecDepth 20000 in
theorem gX3_digest_X3_feversAt : GoodIn wsX3_digest (wsV RX3 88 RX3 yX3_feversAt wsX3_feversAt) := goodIn_app (goodIn_of _ (by decide +kernel)) ggX3_digest_X3_feversAt
set_option maxRecDepth 20000 in
theorem ggX3_digest_X3_wardTold : GoodIn wsX3_digest wsX3_wardTold := goodIn_r _ [21, 3, 29, 30, 31, 32, 33, 34, 35, 36, 37, 38, 39, 40, 41, 42, 43, 44] (by decide +kernel) (by decide +kernel)
set_option maxRecDepth 20000 in
theorem gX3_digest_X3_wardTold : GoodIn wsX3_digest (wsV RX3 79 RX3 yX3_wardTold wsX3_wardTold) := goodIn_app (goodIn_of _ (by decide +kernel)) ggX3_digest_X3_wardTold
set_option maxRecDepth 20000 in
theorem ggX3_digest_X3_bargeTold : GoodIn wsX3_digest wsX3_bargeTold := goodIn_r _ [25, 3, 26, 27, 16, 28, 29, 30, 31, 32, 33, 34, 35, 36, 37, 38, 39, 40, 41, 42, 43, 44] (by decide +kernel) (by decide +kernel)
set_option maxRecDepth 20000 in
theorem gX3_digest_X3_bargeTold : GoodIn wsX3_digest (wsV RX3 82 RX3 yX3_bargeTold wsX3_bargeTold) := goodIn_app (goodIn_of _ (by decide +kernel)) ggX3_digest_X3_bargeTold
theorem dX3_digest_0 : decode cX3_digest 0 = .ok (.aload_n 0, 1) := by decide +kernel
theorem dX3_digest_1 : decode cX3_digest 1 = .ok (.iconst 0, 1) := by decide +kernel
theorem dX3_digest_2 : decode cX3_digest 2 = .ok (.putfield 19, 3) := by decide +kernel
theorem dX3_digest_5 : decode cX3_digest 5 = .ok (.bipush 6, 2) := by decide +kernel
theorem dX3_digest_7 : decode cX3_digest 7 = .ok (.newarray .int, 2) := by decide +kernel
theorem dX3_digest_9 : decode cX3_digest 9 = .ok (.dup, 1) := by decide +kernel
theorem dX3_digest_10 : decode cX3_digest 10 = .ok (.iconst 0, 1) := by decide +kernel
theorem dX3_digest_11 : decode cX3_digest 11 = .ok (.aload_n 0, 1) := by decide +kernel
theorem dX3_digest_12 : decode cX3_digest 12 = .ok (.getfield 10, 3) := by decide +kernel
theorem dX3_digest_15 : decode cX3_digest 15 = .ok (.getfield 97, 3) := by decide +kernel
theorem dX3_digest_18 : decode cX3_digest 18 = .ok (.iastore, 1) := by decide +kernel
theorem dX3_digest_19 : decode cX3_digest 19 = .ok (.dup, 1) := by decide +kernel
theorem dX3_digest_20 : decode cX3_digest 20 = .ok (.iconst 1, 1) := by decide +kernel
theorem dX3_digest_21 : decode cX3_digest 21 = .ok (.aload_n 0, 1) := by decide +kernel
theorem dX3_digest_22 : decode cX3_digest 22 = .ok (.getfield 10, 3) := by decide +kernel
theorem dX3_digest_25 : decode cX3_digest 25 = .ok (.getfield 23, 3) := by decide +kernel
theorem dX3_digest_28 : decode cX3_digest 28 = .ok (.iastore, 1) := by decide +kernel
theorem dX3_digest_29 : decode cX3_digest 29 = .ok (.dup, 1) := by decide +kernel
theorem dX3_digest_30 : decode cX3_digest 30 = .ok (.iconst 2, 1) := by decide +kernel
theorem dX3_digest_31 : decode cX3_digest 31 = .ok (.aload_n 0, 1) := by decide +kernel
theorem dX3_digest_32 : decode cX3_digest 32 = .ok (.getfield 10, 3) := by decide +kernel
theorem dX3_digest_35 : decode cX3_digest 35 = .ok (.getfield 30, 3) := by decide +kernel
theorem dX3_digest_38 : decode cX3_digest 38 = .ok (.iastore, 1) := by decide +kernel
theorem dX3_digest_39 : decode cX3_digest 39 = .ok (.dup, 1) := by decide +kernel
theorem dX3_digest_40 : decode cX3_digest 40 = .ok (.iconst 3, 1) := by decide +kernel
theorem dX3_digest_41 : decode cX3_digest 41 = .ok (.aload_n 0, 1) := by decide +kernel
theorem dX3_digest_42 : decode cX3_digest 42 = .ok (.getfield 10, 3) := by decide +kernel
theorem dX3_digest_45 : decode cX3_digest 45 = .ok (.getfield 33, 3) := by decide +kernel
theorem dX3_digest_48 : decode cX3_digest 48 = .ok (.iastore, 1) := by decide +kernel
theorem dX3_digest_49 : decode cX3_digest 49 = .ok (.dup, 1) := by decide +kernel
theorem dX3_digest_50 : decode cX3_digest 50 = .ok (.iconst 4, 1) := by decide +kernel
theorem dX3_digest_51 : decode cX3_digest 51 = .ok (.aload_n 0, 1) := by decide +kernel
theorem dX3_digest_52 : decode cX3_digest 52 = .ok (.getfield 10, 3) := by decide +kernel
theorem dX3_digest_55 : decode cX3_digest 55 = .ok (.getfield 60, 3) := by decide +kernel
theorem dX3_digest_58 : decode cX3_digest 58 = .ok (.iastore, 1) := by decide +kernel
theorem dX3_digest_59 : decode cX3_digest 59 = .ok (.dup, 1) := by decide +kernel
theorem dX3_digest_60 : decode cX3_digest 60 = .ok (.iconst 5, 1) := by decide +kernel
theorem dX3_digest_61 : decode cX3_digest 61 = .ok (.aload_n 0, 1) := by decide +kernel
theorem dX3_digest_62 : decode cX3_digest 62 = .ok (.getfield 10, 3) := by decide +kernel
theorem dX3_digest_65 : decode cX3_digest 65 = .ok (.getfield 104, 3) := by decide +kernel
theorem dX3_digest_68 : decode cX3_digest 68 = .ok (.iastore, 1) := by decide +kernel
theorem dX3_digest_69 : decode cX3_digest 69 = .ok (.astore_n 1, 1) := by decide +kernel
theorem dX3_digest_70 : decode cX3_digest 70 = .ok (.ldc2_w 117, 3) := by decide +kernel
theorem dX3_digest_73 : decode cX3_digest 73 = .ok (.lstore_n 2, 1) := by decide +kernel
theorem dX3_digest_74 : decode cX3_digest 74 = .ok (.aload_n 1, 1) := by decide +kernel
theorem dX3_digest_75 : decode cX3_digest 75 = .ok (.astore 4, 2) := by decide +kernel
theorem dX3_digest_77 : decode cX3_digest 77 = .ok (.aload 4, 2) := by decide +kernel
theorem dX3_digest_79 : decode cX3_digest 79 = .ok (.arraylength, 1) := by decide +kernel
theorem dX3_digest_80 : decode cX3_digest 80 = .ok (.istore 5, 2) := by decide +kernel
theorem dX3_digest_82 : decode cX3_digest 82 = .ok (.iconst 0, 1) := by decide +kernel
theorem dX3_digest_83 : decode cX3_digest 83 = .ok (.istore 6, 2) := by decide +kernel
theorem dX3_digest_85 : decode cX3_digest 85 = .ok (.iload 6, 2) := by decide +kernel
theorem dX3_digest_87 : decode cX3_digest 87 = .ok (.iload 5, 2) := by decide +kernel
theorem dX3_digest_89 : decode cX3_digest 89 = .ok (.if_icmp .ge 26, 3) := by decide +kernel
theorem dX3_digest_92 : decode cX3_digest 92 = .ok (.aload 4, 2) := by decide +kernel
theorem dX3_digest_94 : decode cX3_digest 94 = .ok (.iload 6, 2) := by decide +kernel
theorem dX3_digest_96 : decode cX3_digest 96 = .ok (.iaload, 1) := by decide +kernel
theorem dX3_digest_97 : decode cX3_digest 97 = .ok (.istore 7, 2) := by decide +kernel
theorem dX3_digest_99 : decode cX3_digest 99 = .ok (.lload_n 2, 1) := by decide +kernel
theorem dX3_digest_100 : decode cX3_digest 100 = .ok (.ldc2_w 119, 3) := by decide +kernel
theorem dX3_digest_103 : decode cX3_digest 103 = .ok (.lmul, 1) := by decide +kernel
theorem dX3_digest_104 : decode cX3_digest 104 = .ok (.iload 7, 2) := by decide +kernel
theorem dX3_digest_106 : decode cX3_digest 106 = .ok (.i2l, 1) := by decide +kernel
theorem dX3_digest_107 : decode cX3_digest 107 = .ok (.ladd, 1) := by decide +kernel
theorem dX3_digest_108 : decode cX3_digest 108 = .ok (.lstore_n 2, 1) := by decide +kernel
theorem dX3_digest_109 : decode cX3_digest 109 = .ok (.iinc 6 1, 3) := by decide +kernel
theorem dX3_digest_112 : decode cX3_digest 112 = .ok (.goto (-27), 3) := by decide +kernel
theorem dX3_digest_115 : decode cX3_digest 115 = .ok (.iconst 0, 1) := by decide +kernel
theorem dX3_digest_116 : decode cX3_digest 116 = .ok (.istore 4, 2) := by decide +kernel
theorem dX3_digest_118 : decode cX3_digest 118 = .ok (.iload 4, 2) := by decide +kernel
theorem dX3_digest_120 : decode cX3_digest 120 = .ok (.aload_n 0, 1) := by decide +kernel
theorem dX3_digest_121 : decode cX3_digest 121 = .ok (.getfield 10, 3) := by decide +kernel
theorem dX3_digest_124 : decode cX3_digest 124 = .ok (.getfield 23, 3) := by decide +kernel
theorem dX3_digest_127 : decode cX3_digest 127 = .ok (.if_icmp .ge 72, 3) := by decide +kernel
theorem dX3_digest_130 : decode cX3_digest 130 = .ok (.lload_n 2, 1) := by decide +kernel
theorem dX3_digest_131 : decode cX3_digest 131 = .ok (.ldc2_w 119, 3) := by decide +kernel
theorem dX3_digest_134 : decode cX3_digest 134 = .ok (.lmul, 1) := by decide +kernel
theorem dX3_digest_135 : decode cX3_digest 135 = .ok (.aload_n 0, 1) := by decide +kernel
theorem dX3_digest_136 : decode cX3_digest 136 = .ok (.getfield 10, 3) := by decide +kernel
theorem dX3_digest_139 : decode cX3_digest 139 = .ok (.getfield 40, 3) := by decide +kernel
theorem dX3_digest_142 : decode cX3_digest 142 = .ok (.iload 4, 2) := by decide +kernel
theorem dX3_digest_144 : decode cX3_digest 144 = .ok (.iaload, 1) := by decide +kernel
theorem dX3_digest_145 : decode cX3_digest 145 = .ok (.i2l, 1) := by decide +kernel
theorem dX3_digest_146 : decode cX3_digest 146 = .ok (.ladd, 1) := by decide +kernel
theorem dX3_digest_147 : decode cX3_digest 147 = .ok (.ldc2_w 119, 3) := by decide +kernel
theorem dX3_digest_150 : decode cX3_digest 150 = .ok (.lmul, 1) := by decide +kernel
theorem dX3_digest_151 : decode cX3_digest 151 = .ok (.aload_n 0, 1) := by decide +kernel
theorem dX3_digest_152 : decode cX3_digest 152 = .ok (.getfield 10, 3) := by decide +kernel
theorem dX3_digest_155 : decode cX3_digest 155 = .ok (.iload 4, 2) := by decide +kernel
theorem dX3_digest_157 : decode cX3_digest 157 = .ok (.invokevirtual 72, 3) := by decide +kernel
theorem dX3_digest_160 : decode cX3_digest 160 = .ok (.i2l, 1) := by decide +kernel
theorem dX3_digest_161 : decode cX3_digest 161 = .ok (.ladd, 1) := by decide +kernel
theorem dX3_digest_162 : decode cX3_digest 162 = .ok (.lstore_n 2, 1) := by decide +kernel
theorem dX3_digest_163 : decode cX3_digest 163 = .ok (.lload_n 2, 1) := by decide +kernel
theorem dX3_digest_164 : decode cX3_digest 164 = .ok (.ldc2_w 119, 3) := by decide +kernel
theorem dX3_digest_167 : decode cX3_digest 167 = .ok (.lmul, 1) := by decide +kernel
theorem dX3_digest_168 : decode cX3_digest 168 = .ok (.aload_n 0, 1) := by decide +kernel
theorem dX3_digest_169 : decode cX3_digest 169 = .ok (.getfield 10, 3) := by decide +kernel
theorem dX3_digest_172 : decode cX3_digest 172 = .ok (.getfield 66, 3) := by decide +kernel
theorem dX3_digest_175 : decode cX3_digest 175 = .ok (.iload 4, 2) := by decide +kernel
theorem dX3_digest_177 : decode cX3_digest 177 = .ok (.iaload, 1) := by decide +kernel
theorem dX3_digest_178 : decode cX3_digest 178 = .ok (.i2l, 1) := by decide +kernel
theorem dX3_digest_179 : decode cX3_digest 179 = .ok (.ladd, 1) := by decide +kernel
theorem dX3_digest_180 : decode cX3_digest 180 = .ok (.ldc2_w 119, 3) := by decide +kernel
theorem dX3_digest_183 : decode cX3_digest 183 = .ok (.lmul, 1) := by decide +kernel
theorem dX3_digest_184 : decode cX3_digest 184 = .ok (.aload_n 0, 1) := by decide +kernel
theorem dX3_digest_185 : decode cX3_digest 185 = .ok (.iload 4, 2) := by decide +kernel
theorem dX3_digest_187 : decode cX3_digest 187 = .ok (.invokevirtual 88, 3) := by decide +kernel
theorem dX3_digest_190 : decode cX3_digest 190 = .ok (.i2l, 1) := by decide +kernel
theorem dX3_digest_191 : decode cX3_digest 191 = .ok (.ladd, 1) := by decide +kernel
theorem dX3_digest_192 : decode cX3_digest 192 = .ok (.lstore_n 2, 1) := by decide +kernel
theorem dX3_digest_193 : decode cX3_digest 193 = .ok (.iinc 4 1, 3) := by decide +kernel
theorem dX3_digest_196 : decode cX3_digest 196 = .ok (.goto (-78), 3) := by decide +kernel
theorem dX3_digest_199 : decode cX3_digest 199 = .ok (.iconst 0, 1) := by decide +kernel
theorem dX3_digest_200 : decode cX3_digest 200 = .ok (.istore 4, 2) := by decide +kernel
theorem dX3_digest_202 : decode cX3_digest 202 = .ok (.iload 4, 2) := by decide +kernel
theorem dX3_digest_204 : decode cX3_digest 204 = .ok (.aload_n 0, 1) := by decide +kernel
theorem dX3_digest_205 : decode cX3_digest 205 = .ok (.getfield 10, 3) := by decide +kernel
theorem dX3_digest_208 : decode cX3_digest 208 = .ok (.getfield 30, 3) := by decide +kernel
theorem dX3_digest_211 : decode cX3_digest 211 = .ok (.if_icmp .ge 63, 3) := by decide +kernel
theorem dX3_digest_214 : decode cX3_digest 214 = .ok (.lload_n 2, 1) := by decide +kernel
theorem dX3_digest_215 : decode cX3_digest 215 = .ok (.ldc2_w 119, 3) := by decide +kernel
theorem dX3_digest_218 : decode cX3_digest 218 = .ok (.lmul, 1) := by decide +kernel
theorem dX3_digest_219 : decode cX3_digest 219 = .ok (.aload_n 0, 1) := by decide +kernel
theorem dX3_digest_220 : decode cX3_digest 220 = .ok (.getfield 10, 3) := by decide +kernel
theorem dX3_digest_223 : decode cX3_digest 223 = .ok (.getfield 47, 3) := by decide +kernel
theorem dX3_digest_226 : decode cX3_digest 226 = .ok (.iload 4, 2) := by decide +kernel
theorem dX3_digest_228 : decode cX3_digest 228 = .ok (.iaload, 1) := by decide +kernel
theorem dX3_digest_229 : decode cX3_digest 229 = .ok (.i2l, 1) := by decide +kernel
theorem dX3_digest_230 : decode cX3_digest 230 = .ok (.ladd, 1) := by decide +kernel
theorem dX3_digest_231 : decode cX3_digest 231 = .ok (.ldc2_w 119, 3) := by decide +kernel
theorem dX3_digest_234 : decode cX3_digest 234 = .ok (.lmul, 1) := by decide +kernel
theorem dX3_digest_235 : decode cX3_digest 235 = .ok (.aload_n 0, 1) := by decide +kernel
theorem dX3_digest_236 : decode cX3_digest 236 = .ok (.getfield 10, 3) := by decide +kernel
theorem dX3_digest_239 : decode cX3_digest 239 = .ok (.getfield 44, 3) := by decide +kernel
theorem dX3_digest_242 : decode cX3_digest 242 = .ok (.iload 4, 2) := by decide +kernel
theorem dX3_digest_244 : decode cX3_digest 244 = .ok (.iaload, 1) := by decide +kernel
theorem dX3_digest_245 : decode cX3_digest 245 = .ok (.i2l, 1) := by decide +kernel
theorem dX3_digest_246 : decode cX3_digest 246 = .ok (.ladd, 1) := by decide +kernel
theorem dX3_digest_247 : decode cX3_digest 247 = .ok (.lstore_n 2, 1) := by decide +kernel
theorem dX3_digest_248 : decode cX3_digest 248 = .ok (.lload_n 2, 1) := by decide +kernel
theorem dX3_digest_249 : decode cX3_digest 249 = .ok (.ldc2_w 119, 3) := by decide +kernel
theorem dX3_digest_252 : decode cX3_digest 252 = .ok (.lmul, 1) := by decide +kernel
theorem dX3_digest_253 : decode cX3_digest 253 = .ok (.aload_n 0, 1) := by decide +kernel
theorem dX3_digest_254 : decode cX3_digest 254 = .ok (.getfield 10, 3) := by decide +kernel
theorem dX3_digest_257 : decode cX3_digest 257 = .ok (.bipush 10, 2) := by decide +kernel
theorem dX3_digest_259 : decode cX3_digest 259 = .ok (.iload 4, 2) := by decide +kernel
theorem dX3_digest_261 : decode cX3_digest 261 = .ok (.iadd, 1) := by decide +kernel
theorem dX3_digest_262 : decode cX3_digest 262 = .ok (.invokevirtual 72, 3) := by decide +kernel
theorem dX3_digest_265 : decode cX3_digest 265 = .ok (.i2l, 1) := by decide +kernel
theorem dX3_digest_266 : decode cX3_digest 266 = .ok (.ladd, 1) := by decide +kernel
theorem dX3_digest_267 : decode cX3_digest 267 = .ok (.lstore_n 2, 1) := by decide +kernel
theorem dX3_digest_268 : decode cX3_digest 268 = .ok (.iinc 4 1, 3) := by decide +kernel
theorem dX3_digest_271 : decode cX3_digest 271 = .ok (.goto (-69), 3) := by decide +kernel
theorem dX3_digest_274 : decode cX3_digest 274 = .ok (.iconst 0, 1) := by decide +kernel
theorem dX3_digest_275 : decode cX3_digest 275 = .ok (.istore 4, 2) := by decide +kernel
theorem dX3_digest_277 : decode cX3_digest 277 = .ok (.iload 4, 2) := by decide +kernel
theorem dX3_digest_279 : decode cX3_digest 279 = .ok (.aload_n 0, 1) := by decide +kernel
theorem dX3_digest_280 : decode cX3_digest 280 = .ok (.getfield 10, 3) := by decide +kernel
theorem dX3_digest_283 : decode cX3_digest 283 = .ok (.getfield 33, 3) := by decide +kernel
theorem dX3_digest_286 : decode cX3_digest 286 = .ok (.if_icmp .ge 123, 3) := by decide +kernel
theorem dX3_digest_289 : decode cX3_digest 289 = .ok (.lload_n 2, 1) := by decide +kernel
theorem dX3_digest_290 : decode cX3_digest 290 = .ok (.ldc2_w 119, 3) := by decide +kernel
theorem dX3_digest_293 : decode cX3_digest 293 = .ok (.lmul, 1) := by decide +kernel
theorem dX3_digest_294 : decode cX3_digest 294 = .ok (.aload_n 0, 1) := by decide +kernel
theorem dX3_digest_295 : decode cX3_digest 295 = .ok (.getfield 10, 3) := by decide +kernel
theorem dX3_digest_298 : decode cX3_digest 298 = .ok (.getfield 54, 3) := by decide +kernel
theorem dX3_digest_301 : decode cX3_digest 301 = .ok (.iload 4, 2) := by decide +kernel
theorem dX3_digest_303 : decode cX3_digest 303 = .ok (.iaload, 1) := by decide +kernel
theorem dX3_digest_304 : decode cX3_digest 304 = .ok (.i2l, 1) := by decide +kernel
theorem dX3_digest_305 : decode cX3_digest 305 = .ok (.ladd, 1) := by decide +kernel
theorem dX3_digest_306 : decode cX3_digest 306 = .ok (.ldc2_w 119, 3) := by decide +kernel
theorem dX3_digest_309 : decode cX3_digest 309 = .ok (.lmul, 1) := by decide +kernel
theorem dX3_digest_310 : decode cX3_digest 310 = .ok (.aload_n 0, 1) := by decide +kernel
theorem dX3_digest_311 : decode cX3_digest 311 = .ok (.iload 4, 2) := by decide +kernel
theorem dX3_digest_313 : decode cX3_digest 313 = .ok (.invokevirtual 79, 3) := by decide +kernel
theorem dX3_digest_316 : decode cX3_digest 316 = .ok (.i2l, 1) := by decide +kernel
theorem dX3_digest_317 : decode cX3_digest 317 = .ok (.ladd, 1) := by decide +kernel
theorem dX3_digest_318 : decode cX3_digest 318 = .ok (.lstore_n 2, 1) := by decide +kernel
theorem dX3_digest_319 : decode cX3_digest 319 = .ok (.lload_n 2, 1) := by decide +kernel
theorem dX3_digest_320 : decode cX3_digest 320 = .ok (.ldc2_w 119, 3) := by decide +kernel
theorem dX3_digest_323 : decode cX3_digest 323 = .ok (.lmul, 1) := by decide +kernel
theorem dX3_digest_324 : decode cX3_digest 324 = .ok (.aload_n 0, 1) := by decide +kernel
theorem dX3_digest_325 : decode cX3_digest 325 = .ok (.iload 4, 2) := by decide +kernel
theorem dX3_digest_327 : decode cX3_digest 327 = .ok (.invokevirtual 82, 3) := by decide +kernel
theorem dX3_digest_330 : decode cX3_digest 330 = .ok (.i2l, 1) := by decide +kernel
theorem dX3_digest_331 : decode cX3_digest 331 = .ok (.ladd, 1) := by decide +kernel
theorem dX3_digest_332 : decode cX3_digest 332 = .ok (.ldc2_w 119, 3) := by decide +kernel
theorem dX3_digest_335 : decode cX3_digest 335 = .ok (.lmul, 1) := by decide +kernel
theorem dX3_digest_336 : decode cX3_digest 336 = .ok (.aload_n 0, 1) := by decide +kernel
theorem dX3_digest_337 : decode cX3_digest 337 = .ok (.getfield 10, 3) := by decide +kernel
theorem dX3_digest_340 : decode cX3_digest 340 = .ok (.getfield 57, 3) := by decide +kernel
theorem dX3_digest_343 : decode cX3_digest 343 = .ok (.iload 4, 2) := by decide +kernel
theorem dX3_digest_345 : decode cX3_digest 345 = .ok (.iaload, 1) := by decide +kernel
theorem dX3_digest_346 : decode cX3_digest 346 = .ok (.bipush 20, 2) := by decide +kernel
theorem dX3_digest_348 : decode cX3_digest 348 = .ok (.if_icmp .ne 7, 3) := by decide +kernel
theorem dX3_digest_351 : decode cX3_digest 351 = .ok (.iconst 1, 1) := by decide +kernel
theorem dX3_digest_352 : decode cX3_digest 352 = .ok (.goto 4, 3) := by decide +kernel
theorem dX3_digest_355 : decode cX3_digest 355 = .ok (.iconst 0, 1) := by decide +kernel
theorem dX3_digest_356 : decode cX3_digest 356 = .ok (.i2l, 1) := by decide +kernel
theorem dX3_digest_357 : decode cX3_digest 357 = .ok (.ladd, 1) := by decide +kernel
theorem dX3_digest_358 : decode cX3_digest 358 = .ok (.lstore_n 2, 1) := by decide +kernel
theorem dX3_digest_359 : decode cX3_digest 359 = .ok (.lload_n 2, 1) := by decide +kernel
theorem dX3_digest_360 : decode cX3_digest 360 = .ok (.ldc2_w 119, 3) := by decide +kernel
theorem dX3_digest_363 : decode cX3_digest 363 = .ok (.lmul, 1) := by decide +kernel
theorem dX3_digest_364 : decode cX3_digest 364 = .ok (.aload_n 0, 1) := by decide +kernel
theorem dX3_digest_365 : decode cX3_digest 365 = .ok (.getfield 10, 3) := by decide +kernel
theorem dX3_digest_368 : decode cX3_digest 368 = .ok (.getfield 57, 3) := by decide +kernel
theorem dX3_digest_371 : decode cX3_digest 371 = .ok (.iload 4, 2) := by decide +kernel
theorem dX3_digest_373 : decode cX3_digest 373 = .ok (.iaload, 1) := by decide +kernel
theorem dX3_digest_374 : decode cX3_digest 374 = .ok (.bipush 21, 2) := by decide +kernel
theorem dX3_digest_376 : decode cX3_digest 376 = .ok (.if_icmp .ne 7, 3) := by decide +kernel
theorem dX3_digest_379 : decode cX3_digest 379 = .ok (.iconst 1, 1) := by decide +kernel
theorem dX3_digest_380 : decode cX3_digest 380 = .ok (.goto 4, 3) := by decide +kernel
theorem dX3_digest_383 : decode cX3_digest 383 = .ok (.iconst 0, 1) := by decide +kernel
theorem dX3_digest_384 : decode cX3_digest 384 = .ok (.i2l, 1) := by decide +kernel
theorem dX3_digest_385 : decode cX3_digest 385 = .ok (.ladd, 1) := by decide +kernel
theorem dX3_digest_386 : decode cX3_digest 386 = .ok (.ldc2_w 119, 3) := by decide +kernel
theorem dX3_digest_389 : decode cX3_digest 389 = .ok (.lmul, 1) := by decide +kernel
theorem dX3_digest_390 : decode cX3_digest 390 = .ok (.aload_n 0, 1) := by decide +kernel
theorem dX3_digest_391 : decode cX3_digest 391 = .ok (.getfield 10, 3) := by decide +kernel
theorem dX3_digest_394 : decode cX3_digest 394 = .ok (.getfield 85, 3) := by decide +kernel
theorem dX3_digest_397 : decode cX3_digest 397 = .ok (.iload 4, 2) := by decide +kernel
theorem dX3_digest_399 : decode cX3_digest 399 = .ok (.iaload, 1) := by decide +kernel
theorem dX3_digest_400 : decode cX3_digest 400 = .ok (.i2l, 1) := by decide +kernel
theorem dX3_digest_401 : decode cX3_digest 401 = .ok (.ladd, 1) := by decide +kernel
theorem dX3_digest_402 : decode cX3_digest 402 = .ok (.lstore_n 2, 1) := by decide +kernel
theorem dX3_digest_403 : decode cX3_digest 403 = .ok (.iinc 4 1, 3) := by decide +kernel
theorem dX3_digest_406 : decode cX3_digest 406 = .ok (.goto (-129), 3) := by decide +kernel
theorem dX3_digest_409 : decode cX3_digest 409 = .ok (.lload_n 2, 1) := by decide +kernel
theorem dX3_digest_410 : decode cX3_digest 410 = .ok (.lreturn, 1) := by decide +kernel
theorem dJ9_max_7cf53_0 : decode cJ9_max_7cf53 0 = .ok (.iload_n 0, 1) := by decide +kernel
theorem dJ9_max_7cf53_1 : decode cJ9_max_7cf53 1 = .ok (.iload_n 1, 1) := by decide +kernel
theorem dJ9_max_7cf53_2 : decode cJ9_max_7cf53 2 = .ok (.if_icmp .lt 7, 3) := by decide +kernel
theorem dJ9_max_7cf53_5 : decode cJ9_max_7cf53 5 = .ok (.iload_n 0, 1) := by decide +kernel
theorem dJ9_max_7cf53_6 : decode cJ9_max_7cf53 6 = .ok (.goto 4, 3) := by decide +kernel
theorem dJ9_max_7cf53_9 : decode cJ9_max_7cf53 9 = .ok (.iload_n 1, 1) := by decide +kernel
theorem dJ9_max_7cf53_10 : decode cJ9_max_7cf53 10 = .ok (.ireturn, 1) := by decide +kernel
theorem dJ9_min_7cf53_0 : decode cJ9_min_7cf53 0 = .ok (.iload_n 0, 1) := by decide +kernel
theorem dJ9_min_7cf53_1 : decode cJ9_min_7cf53 1 = .ok (.iload_n 1, 1) := by decide +kernel
theorem dJ9_min_7cf53_2 : decode cJ9_min_7cf53 2 = .ok (.if_icmp .gt 7, 3) := by decide +kernel
theorem dJ9_min_7cf53_5 : decode cJ9_min_7cf53 5 = .ok (.iload_n 0, 1) := by decide +kernel
theorem dJ9_min_7cf53_6 : decode cJ9_min_7cf53 6 = .ok (.goto 4, 3) := by decide +kernel
theorem dJ9_min_7cf53_9 : decode cJ9_min_7cf53 9 = .ok (.iload_n 1, 1) := by decide +kernel
theorem dJ9_min_7cf53_10 : decode cJ9_min_7cf53 10 = .ok (.ireturn, 1) := by decide +kernel
