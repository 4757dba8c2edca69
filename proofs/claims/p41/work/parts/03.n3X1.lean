set_option maxRecDepth 20000 in
theorem ggX1_init_X0_init : GoodIn wsX1_init wsX0_init := goodIn_r _ [11, 12, 2, 3, 13, 14, 15, 16, 17, 18, 19, 20, 21, 22, 23, 24, 25, 26, 27, 28, 29, 30, 31, 32, 33, 34, 35, 36, 37, 38, 39, 40, 41] (by decide +kernel) (by decide +kernel)
set_option maxRecDepth 20000 in
theorem gX1_init_X0_init : GoodIn wsX1_init (wsX0_init) := ggX1_init_X0_init
theorem dX1_init_0 : decode cX1_init 0 = .ok (.aload_n 0, 1) := by decide +kernel
theorem dX1_init_1 : decode cX1_init 1 = .ok (.invokespecial 1, 3) := by decide +kernel
theorem dX1_init_4 : decode cX1_init 4 = .ok (.aload_n 0, 1) := by decide +kernel
theorem dX1_init_5 : decode cX1_init 5 = .ok (.new 7, 3) := by decide +kernel
theorem dX1_init_8 : decode cX1_init 8 = .ok (.dup, 1) := by decide +kernel
theorem dX1_init_9 : decode cX1_init 9 = .ok (.invokespecial 9, 3) := by decide +kernel
theorem dX1_init_12 : decode cX1_init 12 = .ok (.putfield 10, 3) := by decide +kernel
theorem dX1_init_15 : decode cX1_init 15 = .ok (.aload_n 0, 1) := by decide +kernel
theorem dX1_init_16 : decode cX1_init 16 = .ok (.new 7, 3) := by decide +kernel
theorem dX1_init_19 : decode cX1_init 19 = .ok (.dup, 1) := by decide +kernel
theorem dX1_init_20 : decode cX1_init 20 = .ok (.invokespecial 9, 3) := by decide +kernel
theorem dX1_init_23 : decode cX1_init 23 = .ok (.putfield 16, 3) := by decide +kernel
theorem dX1_init_26 : decode cX1_init 26 = .ok (.return_, 1) := by decide +kernel
set_option maxRecDepth 20000 in
theorem ggX1_addWard_X0_openWard : GoodIn wsX1_addWard wsX0_openWard := goodIn_r _ [11, 12, 13, 16, 17, 18, 19, 20, 21, 22, 23, 24, 25, 26, 27, 28, 29, 30, 31] (by decide +kernel) (by decide +kernel)
set_option maxRecDepth 20000 in
theorem gX1_addWard_X0_openWard : GoodIn wsX1_addWard (wsV RX1 35 RX0 yX0_openWard wsX0_openWard) := goodIn_app (goodIn_of _ (by decide +kernel)) ggX1_addWard_X0_openWard
theorem dX1_addWard_0 : decode cX1_addWard 0 = .ok (.iload_n 1, 1) := by decide +kernel
theorem dX1_addWard_1 : decode cX1_addWard 1 = .ok (.iconst 1, 1) := by decide +kernel
theorem dX1_addWard_2 : decode cX1_addWard 2 = .ok (.if_icmp .lt 9, 3) := by decide +kernel
theorem dX1_addWard_5 : decode cX1_addWard 5 = .ok (.iload_n 1, 1) := by decide +kernel
theorem dX1_addWard_6 : decode cX1_addWard 6 = .ok (.bipush 8, 2) := by decide +kernel
theorem dX1_addWard_8 : decode cX1_addWard 8 = .ok (.if_icmp .le 13, 3) := by decide +kernel
theorem dX1_addWard_11 : decode cX1_addWard 11 = .ok (.new 19, 3) := by decide +kernel
theorem dX1_addWard_14 : decode cX1_addWard 14 = .ok (.dup, 1) := by decide +kernel
theorem dX1_addWard_15 : decode cX1_addWard 15 = .ok (.ldc 21, 2) := by decide +kernel
theorem dX1_addWard_17 : decode cX1_addWard 17 = .ok (.invokespecial 23, 3) := by decide +kernel
theorem dX1_addWard_20 : decode cX1_addWard 20 = .ok (.athrow, 1) := by decide +kernel
theorem dX1_addWard_21 : decode cX1_addWard 21 = .ok (.aload_n 0, 1) := by decide +kernel
theorem dX1_addWard_22 : decode cX1_addWard 22 = .ok (.getfield 10, 3) := by decide +kernel
theorem dX1_addWard_25 : decode cX1_addWard 25 = .ok (.getfield 26, 3) := by decide +kernel
theorem dX1_addWard_28 : decode cX1_addWard 28 = .ok (.iconst 5, 1) := by decide +kernel
theorem dX1_addWard_29 : decode cX1_addWard 29 = .ok (.if_icmp .lt 13, 3) := by decide +kernel
theorem dX1_addWard_32 : decode cX1_addWard 32 = .ok (.new 30, 3) := by decide +kernel
theorem dX1_addWard_35 : decode cX1_addWard 35 = .ok (.dup, 1) := by decide +kernel
theorem dX1_addWard_36 : decode cX1_addWard 36 = .ok (.ldc 32, 2) := by decide +kernel
theorem dX1_addWard_38 : decode cX1_addWard 38 = .ok (.invokespecial 34, 3) := by decide +kernel
theorem dX1_addWard_41 : decode cX1_addWard 41 = .ok (.athrow, 1) := by decide +kernel
theorem dX1_addWard_42 : decode cX1_addWard 42 = .ok (.aload_n 0, 1) := by decide +kernel
theorem dX1_addWard_43 : decode cX1_addWard 43 = .ok (.getfield 10, 3) := by decide +kernel
theorem dX1_addWard_46 : decode cX1_addWard 46 = .ok (.iload_n 1, 1) := by decide +kernel
theorem dX1_addWard_47 : decode cX1_addWard 47 = .ok (.invokevirtual 35, 3) := by decide +kernel
theorem dX1_addWard_50 : decode cX1_addWard 50 = .ok (.ireturn, 1) := by decide +kernel
set_option maxRecDepth 20000 in
theorem ggX1_addBarge_X0_openBarge : GoodIn wsX1_addBarge wsX0_openBarge := goodIn_r _ [11, 12, 13, 14, 17, 18, 19, 20, 21, 22, 23, 24, 25, 26, 27, 28, 29, 30, 31, 32] (by decide +kernel) (by decide +kernel)
set_option maxRecDepth 20000 in
theorem gX1_addBarge_X0_openBarge : GoodIn wsX1_addBarge (wsV RX1 46 RX0 yX0_openBarge wsX0_openBarge) := goodIn_app (goodIn_of _ (by decide +kernel)) ggX1_addBarge_X0_openBarge
theorem dX1_addBarge_0 : decode cX1_addBarge 0 = .ok (.iload_n 1, 1) := by decide +kernel
theorem dX1_addBarge_1 : decode cX1_addBarge 1 = .ok (.iconst 1, 1) := by decide +kernel
theorem dX1_addBarge_2 : decode cX1_addBarge 2 = .ok (.if_icmp .lt 9, 3) := by decide +kernel
theorem dX1_addBarge_5 : decode cX1_addBarge 5 = .ok (.iload_n 1, 1) := by decide +kernel
theorem dX1_addBarge_6 : decode cX1_addBarge 6 = .ok (.bipush 9, 2) := by decide +kernel
theorem dX1_addBarge_8 : decode cX1_addBarge 8 = .ok (.if_icmp .le 13, 3) := by decide +kernel
theorem dX1_addBarge_11 : decode cX1_addBarge 11 = .ok (.new 19, 3) := by decide +kernel
theorem dX1_addBarge_14 : decode cX1_addBarge 14 = .ok (.dup, 1) := by decide +kernel
theorem dX1_addBarge_15 : decode cX1_addBarge 15 = .ok (.ldc 39, 2) := by decide +kernel
theorem dX1_addBarge_17 : decode cX1_addBarge 17 = .ok (.invokespecial 23, 3) := by decide +kernel
theorem dX1_addBarge_20 : decode cX1_addBarge 20 = .ok (.athrow, 1) := by decide +kernel
theorem dX1_addBarge_21 : decode cX1_addBarge 21 = .ok (.aload_n 0, 1) := by decide +kernel
theorem dX1_addBarge_22 : decode cX1_addBarge 22 = .ok (.getfield 10, 3) := by decide +kernel
theorem dX1_addBarge_25 : decode cX1_addBarge 25 = .ok (.getfield 41, 3) := by decide +kernel
theorem dX1_addBarge_28 : decode cX1_addBarge 28 = .ok (.iconst 4, 1) := by decide +kernel
theorem dX1_addBarge_29 : decode cX1_addBarge 29 = .ok (.if_icmp .lt 13, 3) := by decide +kernel
theorem dX1_addBarge_32 : decode cX1_addBarge 32 = .ok (.new 30, 3) := by decide +kernel
theorem dX1_addBarge_35 : decode cX1_addBarge 35 = .ok (.dup, 1) := by decide +kernel
theorem dX1_addBarge_36 : decode cX1_addBarge 36 = .ok (.ldc 44, 2) := by decide +kernel
theorem dX1_addBarge_38 : decode cX1_addBarge 38 = .ok (.invokespecial 34, 3) := by decide +kernel
theorem dX1_addBarge_41 : decode cX1_addBarge 41 = .ok (.athrow, 1) := by decide +kernel
theorem dX1_addBarge_42 : decode cX1_addBarge 42 = .ok (.aload_n 0, 1) := by decide +kernel
theorem dX1_addBarge_43 : decode cX1_addBarge 43 = .ok (.getfield 10, 3) := by decide +kernel
theorem dX1_addBarge_46 : decode cX1_addBarge 46 = .ok (.iload_n 1, 1) := by decide +kernel
theorem dX1_addBarge_47 : decode cX1_addBarge 47 = .ok (.invokevirtual 46, 3) := by decide +kernel
theorem dX1_addBarge_50 : decode cX1_addBarge 50 = .ok (.ireturn, 1) := by decide +kernel
set_option maxRecDepth 20000 in
theorem ggX1_board_X1_checkBarge : GoodIn wsX1_board wsX1_checkBarge := goodIn_ca (goodIn_r _ [11, 12, 13, 5, 14, 30, 31, 32, 33, 34, 35, 36, 37, 38, 39, 40, 41, 42, 43, 44, 45, 46, 47] (by decide +kernel) (by decide +kernel)) (goodIn_sub (fun _ h => List.mem_cons_of_mem _ (List.mem_append_right _ h)) (by decide +kernel))
set_option maxRecDepth 20000 in
theorem gX1_board_X1_checkBarge : GoodIn wsX1_board (wsV RX1 49 RX1 yX1_checkBarge wsX1_checkBarge) := goodIn_app (goodIn_of _ (by decide +kernel)) ggX1_board_X1_checkBarge
set_option maxRecDepth 20000 in
theorem ggX1_board_X0_takeAboard : GoodIn wsX1_board wsX0_takeAboard := goodIn_r _ [19, 20, 21, 22, 23, 24, 25, 26, 18, 27, 28, 29, 32, 33, 34, 35, 36, 37, 38, 39, 40, 41, 42, 43, 44, 45, 46, 47] (by decide +kernel) (by decide +kernel)
set_option maxRecDepth 20000 in
theorem gX1_board_X0_takeAboard : GoodIn wsX1_board (wsV RX1 60 RX0 yX0_takeAboard wsX0_takeAboard) := goodIn_app (goodIn_of _ (by decide +kernel)) ggX1_board_X0_takeAboard
theorem dX1_board_0 : decode cX1_board 0 = .ok (.aload_n 0, 1) := by decide +kernel
theorem dX1_board_1 : decode cX1_board 1 = .ok (.iload_n 1, 1) := by decide +kernel
theorem dX1_board_2 : decode cX1_board 2 = .ok (.invokevirtual 49, 3) := by decide +kernel
theorem dX1_board_5 : decode cX1_board 5 = .ok (.iload_n 2, 1) := by decide +kernel
theorem dX1_board_6 : decode cX1_board 6 = .ok (.ifCond .lt 9, 3) := by decide +kernel
theorem dX1_board_9 : decode cX1_board 9 = .ok (.iload_n 2, 1) := by decide +kernel
theorem dX1_board_10 : decode cX1_board 10 = .ok (.bipush 9, 2) := by decide +kernel
theorem dX1_board_12 : decode cX1_board 12 = .ok (.if_icmp .le 13, 3) := by decide +kernel
theorem dX1_board_15 : decode cX1_board 15 = .ok (.new 19, 3) := by decide +kernel
theorem dX1_board_18 : decode cX1_board 18 = .ok (.dup, 1) := by decide +kernel
theorem dX1_board_19 : decode cX1_board 19 = .ok (.ldc 53, 2) := by decide +kernel
theorem dX1_board_21 : decode cX1_board 21 = .ok (.invokespecial 23, 3) := by decide +kernel
theorem dX1_board_24 : decode cX1_board 24 = .ok (.athrow, 1) := by decide +kernel
theorem dX1_board_25 : decode cX1_board 25 = .ok (.aload_n 0, 1) := by decide +kernel
theorem dX1_board_26 : decode cX1_board 26 = .ok (.getfield 10, 3) := by decide +kernel
theorem dX1_board_29 : decode cX1_board 29 = .ok (.getfield 55, 3) := by decide +kernel
theorem dX1_board_32 : decode cX1_board 32 = .ok (.bipush 30, 2) := by decide +kernel
theorem dX1_board_34 : decode cX1_board 34 = .ok (.if_icmp .lt 13, 3) := by decide +kernel
theorem dX1_board_37 : decode cX1_board 37 = .ok (.new 30, 3) := by decide +kernel
theorem dX1_board_40 : decode cX1_board 40 = .ok (.dup, 1) := by decide +kernel
theorem dX1_board_41 : decode cX1_board 41 = .ok (.ldc 58, 2) := by decide +kernel
theorem dX1_board_43 : decode cX1_board 43 = .ok (.invokespecial 34, 3) := by decide +kernel
theorem dX1_board_46 : decode cX1_board 46 = .ok (.athrow, 1) := by decide +kernel
theorem dX1_board_47 : decode cX1_board 47 = .ok (.aload_n 0, 1) := by decide +kernel
theorem dX1_board_48 : decode cX1_board 48 = .ok (.getfield 10, 3) := by decide +kernel
theorem dX1_board_51 : decode cX1_board 51 = .ok (.iload_n 1, 1) := by decide +kernel
theorem dX1_board_52 : decode cX1_board 52 = .ok (.iload_n 2, 1) := by decide +kernel
theorem dX1_board_53 : decode cX1_board 53 = .ok (.invokevirtual 60, 3) := by decide +kernel
theorem dX1_board_56 : decode cX1_board 56 = .ok (.ireturn, 1) := by decide +kernel
theorem dX1_setBowls_0 : decode cX1_setBowls 0 = .ok (.iload_n 1, 1) := by decide +kernel
theorem dX1_setBowls_1 : decode cX1_setBowls 1 = .ok (.ifCond .lt 9, 3) := by decide +kernel
theorem dX1_setBowls_4 : decode cX1_setBowls 4 = .ok (.iload_n 1, 1) := by decide +kernel
theorem dX1_setBowls_5 : decode cX1_setBowls 5 = .ok (.bipush 60, 2) := by decide +kernel
theorem dX1_setBowls_7 : decode cX1_setBowls 7 = .ok (.if_icmp .le 13, 3) := by decide +kernel
theorem dX1_setBowls_10 : decode cX1_setBowls 10 = .ok (.new 19, 3) := by decide +kernel
theorem dX1_setBowls_13 : decode cX1_setBowls 13 = .ok (.dup, 1) := by decide +kernel
theorem dX1_setBowls_14 : decode cX1_setBowls 14 = .ok (.ldc 64, 2) := by decide +kernel
theorem dX1_setBowls_16 : decode cX1_setBowls 16 = .ok (.invokespecial 23, 3) := by decide +kernel
theorem dX1_setBowls_19 : decode cX1_setBowls 19 = .ok (.athrow, 1) := by decide +kernel
theorem dX1_setBowls_20 : decode cX1_setBowls 20 = .ok (.aload_n 0, 1) := by decide +kernel
theorem dX1_setBowls_21 : decode cX1_setBowls 21 = .ok (.getfield 10, 3) := by decide +kernel
theorem dX1_setBowls_24 : decode cX1_setBowls 24 = .ok (.getfield 66, 3) := by decide +kernel
theorem dX1_setBowls_27 : decode cX1_setBowls 27 = .ok (.istore_n 2, 1) := by decide +kernel
theorem dX1_setBowls_28 : decode cX1_setBowls 28 = .ok (.aload_n 0, 1) := by decide +kernel
theorem dX1_setBowls_29 : decode cX1_setBowls 29 = .ok (.getfield 10, 3) := by decide +kernel
theorem dX1_setBowls_32 : decode cX1_setBowls 32 = .ok (.iload_n 1, 1) := by decide +kernel
theorem dX1_setBowls_33 : decode cX1_setBowls 33 = .ok (.putfield 66, 3) := by decide +kernel
theorem dX1_setBowls_36 : decode cX1_setBowls 36 = .ok (.iload_n 2, 1) := by decide +kernel
theorem dX1_setBowls_37 : decode cX1_setBowls 37 = .ok (.ireturn, 1) := by decide +kernel
set_option maxRecDepth 20000 in
theorem ggX1_layStraw_X1_checkWard : GoodIn wsX1_layStraw wsX1_checkWard := goodIn_ca (goodIn_r _ [7, 8, 9, 1, 10, 11, 12, 13, 14, 15, 16, 17, 18, 19, 20, 21, 22, 23, 24, 25, 26, 27, 28] (by decide +kernel) (by decide +kernel)) (goodIn_sub (fun _ h => List.mem_cons_of_mem _ (List.mem_append_right _ h)) (by decide +kernel))
set_option maxRecDepth 20000 in
theorem gX1_layStraw_X1_checkWard : GoodIn wsX1_layStraw (wsV RX1 69 RX1 yX1_checkWard wsX1_checkWard) := goodIn_app (goodIn_of _ (by decide +kernel)) ggX1_layStraw_X1_checkWard
theorem dX1_layStraw_0 : decode cX1_layStraw 0 = .ok (.aload_n 0, 1) := by decide +kernel
theorem dX1_layStraw_1 : decode cX1_layStraw 1 = .ok (.iload_n 1, 1) := by decide +kernel
theorem dX1_layStraw_2 : decode cX1_layStraw 2 = .ok (.invokevirtual 69, 3) := by decide +kernel
theorem dX1_layStraw_5 : decode cX1_layStraw 5 = .ok (.aload_n 0, 1) := by decide +kernel
theorem dX1_layStraw_6 : decode cX1_layStraw 6 = .ok (.getfield 10, 3) := by decide +kernel
theorem dX1_layStraw_9 : decode cX1_layStraw 9 = .ok (.getfield 72, 3) := by decide +kernel
theorem dX1_layStraw_12 : decode cX1_layStraw 12 = .ok (.iload_n 1, 1) := by decide +kernel
theorem dX1_layStraw_13 : decode cX1_layStraw 13 = .ok (.iaload, 1) := by decide +kernel
theorem dX1_layStraw_14 : decode cX1_layStraw 14 = .ok (.istore_n 2, 1) := by decide +kernel
theorem dX1_layStraw_15 : decode cX1_layStraw 15 = .ok (.aload_n 0, 1) := by decide +kernel
theorem dX1_layStraw_16 : decode cX1_layStraw 16 = .ok (.getfield 10, 3) := by decide +kernel
theorem dX1_layStraw_19 : decode cX1_layStraw 19 = .ok (.getfield 72, 3) := by decide +kernel
theorem dX1_layStraw_22 : decode cX1_layStraw 22 = .ok (.iload_n 1, 1) := by decide +kernel
theorem dX1_layStraw_23 : decode cX1_layStraw 23 = .ok (.iconst 0, 1) := by decide +kernel
theorem dX1_layStraw_24 : decode cX1_layStraw 24 = .ok (.iastore, 1) := by decide +kernel
theorem dX1_layStraw_25 : decode cX1_layStraw 25 = .ok (.iload_n 2, 1) := by decide +kernel
theorem dX1_layStraw_26 : decode cX1_layStraw 26 = .ok (.ireturn, 1) := by decide +kernel
set_option maxRecDepth 20000 in
theorem ggX1_carry_X1_checkPerson : GoodIn wsX1_carry wsX1_checkPerson := goodIn_ca (goodIn_r _ [8, 9, 10, 3, 11, 42, 43, 44, 45, 46, 47, 48, 49, 50, 51, 52, 53, 54, 55, 56, 57, 58, 59] (by decide +kernel) (by decide +kernel)) (goodIn_sub (fun _ h => List.mem_cons_of_mem _ (List.mem_append_right _ h)) (by decide +kernel))
set_option maxRecDepth 20000 in
theorem gX1_carry_X1_checkPerson : GoodIn wsX1_carry (wsV RX1 76 RX1 yX1_checkPerson wsX1_checkPerson) := goodIn_app (goodIn_of _ (by decide +kernel)) ggX1_carry_X1_checkPerson
set_option maxRecDepth 20000 in
theorem ggX1_carry_X1_checkWard : GoodIn wsX1_carry wsX1_checkWard := goodIn_ca (goodIn_r _ [15, 9, 10, 3, 16, 42, 43, 44, 45, 46, 47, 48, 49, 50, 51, 52, 53, 54, 55, 56, 57, 58, 59] (by decide +kernel) (by decide +kernel)) (goodIn_sub (fun _ h => List.mem_cons_of_mem _ (List.mem_append_right _ h)) (by decide +kernel))
set_option maxRecDepth 20000 in
theorem gX1_carry_X1_checkWard : GoodIn wsX1_carry (wsV RX1 69 RX1 yX1_checkWard wsX1_checkWard) := goodIn_app (goodIn_of _ (by decide +kernel)) ggX1_carry_X1_checkWard
set_option maxRecDepth 20000 in
theorem ggX1_carry_X0_numberOf : GoodIn wsX1_carry wsX0_numberOf := goodIn_r _ [21, 22, 23, 44, 45, 46, 47, 48, 49, 50, 51, 52, 53, 54, 55, 56, 57, 58, 59] (by decide +kernel) (by decide +kernel)
set_option maxRecDepth 20000 in
theorem gX1_carry_X0_numberOf : GoodIn wsX1_carry (wsV RX1 79 RX0 yX0_numberOf wsX0_numberOf) := goodIn_app (goodIn_of _ (by decide +kernel)) ggX1_carry_X0_numberOf
set_option maxRecDepth 20000 in
theorem ggX1_carry_X0_freeIn : GoodIn wsX1_carry wsX0_freeIn := goodIn_r _ [27, 28, 29, 30, 31, 20, 32, 33, 34, 35, 36, 37, 22, 23, 44, 45, 46, 47, 48, 49, 50, 51, 52, 53, 54, 55, 56, 57, 58, 59] (by decide +kernel) (by decide +kernel)
set_option maxRecDepth 20000 in
theorem gX1_carry_X0_freeIn : GoodIn wsX1_carry (wsV RX1 86 RX0 yX0_freeIn wsX0_freeIn) := goodIn_app (goodIn_of _ (by decide +kernel)) ggX1_carry_X0_freeIn
set_option maxRecDepth 20000 in
theorem ggX1_carry_X0_move : GoodIn wsX1_carry wsX0_move := goodIn_r _ [41, 22, 23, 44, 45, 46, 47, 48, 49, 50, 51, 52, 53, 54, 55, 56, 57, 58, 59] (by decide +kernel) (by decide +kernel)
set_option maxRecDepth 20000 in
theorem gX1_carry_X0_move : GoodIn wsX1_carry (wsV RX1 91 RX0 yX0_move wsX0_move) := goodIn_app (goodIn_of _ (by decide +kernel)) ggX1_carry_X0_move
theorem dX1_carry_0 : decode cX1_carry 0 = .ok (.aload_n 0, 1) := by decide +kernel
theorem dX1_carry_1 : decode cX1_carry 1 = .ok (.iload_n 1, 1) := by decide +kernel
theorem dX1_carry_2 : decode cX1_carry 2 = .ok (.invokevirtual 76, 3) := by decide +kernel
theorem dX1_carry_5 : decode cX1_carry 5 = .ok (.aload_n 0, 1) := by decide +kernel
theorem dX1_carry_6 : decode cX1_carry 6 = .ok (.iload_n 2, 1) := by decide +kernel
theorem dX1_carry_7 : decode cX1_carry 7 = .ok (.invokevirtual 69, 3) := by decide +kernel
theorem dX1_carry_10 : decode cX1_carry 10 = .ok (.aload_n 0, 1) := by decide +kernel
theorem dX1_carry_11 : decode cX1_carry 11 = .ok (.getfield 10, 3) := by decide +kernel
theorem dX1_carry_14 : decode cX1_carry 14 = .ok (.iload_n 1, 1) := by decide +kernel
theorem dX1_carry_15 : decode cX1_carry 15 = .ok (.iconst 1, 1) := by decide +kernel
theorem dX1_carry_16 : decode cX1_carry 16 = .ok (.invokevirtual 79, 3) := by decide +kernel
theorem dX1_carry_19 : decode cX1_carry 19 = .ok (.istore_n 3, 1) := by decide +kernel
theorem dX1_carry_20 : decode cX1_carry 20 = .ok (.iload_n 3, 1) := by decide +kernel
theorem dX1_carry_21 : decode cX1_carry 21 = .ok (.iconst (-1), 1) := by decide +kernel
theorem dX1_carry_22 : decode cX1_carry 22 = .ok (.if_icmp .ne 13, 3) := by decide +kernel
theorem dX1_carry_25 : decode cX1_carry 25 = .ok (.new 30, 3) := by decide +kernel
theorem dX1_carry_28 : decode cX1_carry 28 = .ok (.dup, 1) := by decide +kernel
theorem dX1_carry_29 : decode cX1_carry 29 = .ok (.ldc 82, 2) := by decide +kernel
theorem dX1_carry_31 : decode cX1_carry 31 = .ok (.invokespecial 34, 3) := by decide +kernel
theorem dX1_carry_34 : decode cX1_carry 34 = .ok (.athrow, 1) := by decide +kernel
theorem dX1_carry_35 : decode cX1_carry 35 = .ok (.iload_n 3, 1) := by decide +kernel
theorem dX1_carry_36 : decode cX1_carry 36 = .ok (.iload_n 2, 1) := by decide +kernel
theorem dX1_carry_37 : decode cX1_carry 37 = .ok (.if_icmp .ne 13, 3) := by decide +kernel
theorem dX1_carry_40 : decode cX1_carry 40 = .ok (.new 30, 3) := by decide +kernel
theorem dX1_carry_43 : decode cX1_carry 43 = .ok (.dup, 1) := by decide +kernel
theorem dX1_carry_44 : decode cX1_carry 44 = .ok (.ldc 84, 2) := by decide +kernel
theorem dX1_carry_46 : decode cX1_carry 46 = .ok (.invokespecial 34, 3) := by decide +kernel
theorem dX1_carry_49 : decode cX1_carry 49 = .ok (.athrow, 1) := by decide +kernel
theorem dX1_carry_50 : decode cX1_carry 50 = .ok (.aload_n 0, 1) := by decide +kernel
theorem dX1_carry_51 : decode cX1_carry 51 = .ok (.getfield 10, 3) := by decide +kernel
theorem dX1_carry_54 : decode cX1_carry 54 = .ok (.iload_n 2, 1) := by decide +kernel
theorem dX1_carry_55 : decode cX1_carry 55 = .ok (.invokevirtual 86, 3) := by decide +kernel
theorem dX1_carry_58 : decode cX1_carry 58 = .ok (.ifCond .ne 13, 3) := by decide +kernel
theorem dX1_carry_61 : decode cX1_carry 61 = .ok (.new 30, 3) := by decide +kernel
theorem dX1_carry_64 : decode cX1_carry 64 = .ok (.dup, 1) := by decide +kernel
theorem dX1_carry_65 : decode cX1_carry 65 = .ok (.ldc 89, 2) := by decide +kernel
theorem dX1_carry_67 : decode cX1_carry 67 = .ok (.invokespecial 34, 3) := by decide +kernel
theorem dX1_carry_70 : decode cX1_carry 70 = .ok (.athrow, 1) := by decide +kernel
theorem dX1_carry_71 : decode cX1_carry 71 = .ok (.aload_n 0, 1) := by decide +kernel
theorem dX1_carry_72 : decode cX1_carry 72 = .ok (.getfield 10, 3) := by decide +kernel
theorem dX1_carry_75 : decode cX1_carry 75 = .ok (.iload_n 1, 1) := by decide +kernel
theorem dX1_carry_76 : decode cX1_carry 76 = .ok (.iconst 1, 1) := by decide +kernel
theorem dX1_carry_77 : decode cX1_carry 77 = .ok (.iload_n 2, 1) := by decide +kernel
theorem dX1_carry_78 : decode cX1_carry 78 = .ok (.invokevirtual 91, 3) := by decide +kernel
theorem dX1_carry_81 : decode cX1_carry 81 = .ok (.iload_n 3, 1) := by decide +kernel
theorem dX1_carry_82 : decode cX1_carry 82 = .ok (.ireturn, 1) := by decide +kernel
set_option maxRecDepth 20000 in
theorem ggX1_pass_X1_checkDays : GoodIn wsX1_pass wsX1_checkDays := goodIn_ca (goodIn_r _ [5, 6, 7] (by decide +kernel) (by decide +kernel)) (goodIn_sub (fun _ h => List.mem_cons_of_mem _ (List.mem_append_right _ h)) (by decide +kernel))
set_option maxRecDepth 20000 in
theorem gX1_pass_X1_checkDays : GoodIn wsX1_pass (va_wsS RX1 95 yX1_checkDays wsX1_checkDays) := goodIn_app (goodIn_of _ (by decide +kernel)) ggX1_pass_X1_checkDays
set_option maxRecDepth 20000 in
theorem ggX1_pass_X0_count : GoodIn wsX1_pass wsX0_count := goodIn_r _ [12, 13, 14, 102, 103, 104, 105, 106, 107, 108, 109, 110, 111, 112, 113, 114, 115, 116, 117] (by decide +kernel) (by decide +kernel)
set_option maxRecDepth 20000 in
theorem gX1_pass_X0_count : GoodIn wsX1_pass (wsV RX1 98 RX0 yX0_count wsX0_count) := goodIn_app (goodIn_of _ (by decide +kernel)) ggX1_pass_X0_count
set_option maxRecDepth 20000 in
theorem ggX1_pass_X0_liveDays : GoodIn wsX1_pass wsX0_liveDays := goodIn_r _ [18, 19, 20, 21, 22, 11, 23, 24, 25, 13, 26, 27, 28, 29, 30, 31, 32, 14, 33, 34, 35, 36, 37, 38, 39, 40, 41, 42, 43, 44, 45, 46, 47, 48, 49, 50, 51, 52, 53, 54, 55, 56, 57, 58, 59, 60, 61, 62, 63, 64, 65, 66, 67, 68, 69, 70, 71, 72, 73, 74, 75, 76, 77, 78, 79, 80, 81, 82, 83, 84, 85, 86, 87, 88, 89, 90, 91, 92, 93, 94, 95, 96, 97, 98, 99, 102, 103, 104, 105, 106, 107, 108, 109, 110, 111, 112, 113, 114, 115, 116, 117] (by decide +kernel) (by decide +kernel)
set_option maxRecDepth 20000 in
theorem gX1_pass_X0_liveDays : GoodIn wsX1_pass (wsV RX1 101 RX0 yX0_liveDays wsX0_liveDays) := goodIn_app (goodIn_of _ (by decide +kernel)) ggX1_pass_X0_liveDays
theorem dX1_pass_0 : decode cX1_pass 0 = .ok (.iload_n 1, 1) := by decide +kernel
theorem dX1_pass_1 : decode cX1_pass 1 = .ok (.invokestatic 95, 3) := by decide +kernel
theorem dX1_pass_4 : decode cX1_pass 4 = .ok (.aload_n 0, 1) := by decide +kernel
theorem dX1_pass_5 : decode cX1_pass 5 = .ok (.getfield 10, 3) := by decide +kernel
theorem dX1_pass_8 : decode cX1_pass 8 = .ok (.iconst 2, 1) := by decide +kernel
theorem dX1_pass_9 : decode cX1_pass 9 = .ok (.invokevirtual 98, 3) := by decide +kernel
theorem dX1_pass_12 : decode cX1_pass 12 = .ok (.istore_n 2, 1) := by decide +kernel
theorem dX1_pass_13 : decode cX1_pass 13 = .ok (.aload_n 0, 1) := by decide +kernel
theorem dX1_pass_14 : decode cX1_pass 14 = .ok (.getfield 10, 3) := by decide +kernel
theorem dX1_pass_17 : decode cX1_pass 17 = .ok (.iload_n 1, 1) := by decide +kernel
theorem dX1_pass_18 : decode cX1_pass 18 = .ok (.invokevirtual 101, 3) := by decide +kernel
theorem dX1_pass_21 : decode cX1_pass 21 = .ok (.aload_n 0, 1) := by decide +kernel
theorem dX1_pass_22 : decode cX1_pass 22 = .ok (.getfield 10, 3) := by decide +kernel
theorem dX1_pass_25 : decode cX1_pass 25 = .ok (.iconst 2, 1) := by decide +kernel
theorem dX1_pass_26 : decode cX1_pass 26 = .ok (.invokevirtual 98, 3) := by decide +kernel
theorem dX1_pass_29 : decode cX1_pass 29 = .ok (.iload_n 2, 1) := by decide +kernel
theorem dX1_pass_30 : decode cX1_pass 30 = .ok (.isub, 1) := by decide +kernel
theorem dX1_pass_31 : decode cX1_pass 31 = .ok (.ireturn, 1) := by decide +kernel
set_option maxRecDepth 20000 in
theorem ggX1_feverOf_X1_checkPerson : GoodIn wsX1_feverOf wsX1_checkPerson := goodIn_ca (goodIn_r _ [7, 8, 9, 1, 10, 11, 12, 13, 14, 15, 16, 17, 18, 19, 20, 21, 22, 23, 24, 25, 26, 27, 28] (by decide +kernel) (by decide +kernel)) (goodIn_sub (fun _ h => List.mem_cons_of_mem _ (List.mem_append_right _ h)) (by decide +kernel))
set_option maxRecDepth 20000 in
theorem gX1_feverOf_X1_checkPerson : GoodIn wsX1_feverOf (wsV RX1 76 RX1 yX1_checkPerson wsX1_checkPerson) := goodIn_app (goodIn_of _ (by decide +kernel)) ggX1_feverOf_X1_checkPerson
theorem dX1_feverOf_0 : decode cX1_feverOf 0 = .ok (.aload_n 0, 1) := by decide +kernel
theorem dX1_feverOf_1 : decode cX1_feverOf 1 = .ok (.iload_n 1, 1) := by decide +kernel
theorem dX1_feverOf_2 : decode cX1_feverOf 2 = .ok (.invokevirtual 76, 3) := by decide +kernel
theorem dX1_feverOf_5 : decode cX1_feverOf 5 = .ok (.aload_n 0, 1) := by decide +kernel
theorem dX1_feverOf_6 : decode cX1_feverOf 6 = .ok (.getfield 10, 3) := by decide +kernel
theorem dX1_feverOf_9 : decode cX1_feverOf 9 = .ok (.getfield 104, 3) := by decide +kernel
theorem dX1_feverOf_12 : decode cX1_feverOf 12 = .ok (.iload_n 1, 1) := by decide +kernel
theorem dX1_feverOf_13 : decode cX1_feverOf 13 = .ok (.iaload, 1) := by decide +kernel
theorem dX1_feverOf_14 : decode cX1_feverOf 14 = .ok (.ireturn, 1) := by decide +kernel
set_option maxRecDepth 20000 in
theorem ggX1_wardOf_X1_checkPerson : GoodIn wsX1_wardOf wsX1_checkPerson := goodIn_ca (goodIn_r _ [6, 7, 8, 1, 9, 17, 18, 19, 20, 21, 22, 23, 24, 25, 26, 27, 28, 29, 30, 31, 32, 33, 34] (by decide +kernel) (by decide +kernel)) (goodIn_sub (fun _ h => List.mem_cons_of_mem _ (List.mem_append_right _ h)) (by decide +kernel))
set_option maxRecDepth 20000 in
theorem gX1_wardOf_X1_checkPerson : GoodIn wsX1_wardOf (wsV RX1 76 RX1 yX1_checkPerson wsX1_checkPerson) := goodIn_app (goodIn_of _ (by decide +kernel)) ggX1_wardOf_X1_checkPerson
set_option maxRecDepth 20000 in
theorem ggX1_wardOf_X0_numberOf : GoodIn wsX1_wardOf wsX0_numberOf := goodIn_r _ [14, 15, 16, 19, 20, 21, 22, 23, 24, 25, 26, 27, 28, 29, 30, 31, 32, 33, 34] (by decide +kernel) (by decide +kernel)
set_option maxRecDepth 20000 in
theorem gX1_wardOf_X0_numberOf : GoodIn wsX1_wardOf (wsV RX1 79 RX0 yX0_numberOf wsX0_numberOf) := goodIn_app (goodIn_of _ (by decide +kernel)) ggX1_wardOf_X0_numberOf
theorem dX1_wardOf_0 : decode cX1_wardOf 0 = .ok (.aload_n 0, 1) := by decide +kernel
theorem dX1_wardOf_1 : decode cX1_wardOf 1 = .ok (.iload_n 1, 1) := by decide +kernel
theorem dX1_wardOf_2 : decode cX1_wardOf 2 = .ok (.invokevirtual 76, 3) := by decide +kernel
theorem dX1_wardOf_5 : decode cX1_wardOf 5 = .ok (.aload_n 0, 1) := by decide +kernel
theorem dX1_wardOf_6 : decode cX1_wardOf 6 = .ok (.getfield 10, 3) := by decide +kernel
theorem dX1_wardOf_9 : decode cX1_wardOf 9 = .ok (.iload_n 1, 1) := by decide +kernel
theorem dX1_wardOf_10 : decode cX1_wardOf 10 = .ok (.iconst 1, 1) := by decide +kernel
theorem dX1_wardOf_11 : decode cX1_wardOf 11 = .ok (.invokevirtual 79, 3) := by decide +kernel
theorem dX1_wardOf_14 : decode cX1_wardOf 14 = .ok (.ireturn, 1) := by decide +kernel
set_option maxRecDepth 20000 in
theorem ggX1_bargeOf_X1_checkPerson : GoodIn wsX1_bargeOf wsX1_checkPerson := goodIn_ca (goodIn_r _ [6, 7, 8, 1, 9, 17, 18, 19, 20, 21, 22, 23, 24, 25, 26, 27, 28, 29, 30, 31, 32, 33, 34] (by decide +kernel) (by decide +kernel)) (goodIn_sub (fun _ h => List.mem_cons_of_mem _ (List.mem_append_right _ h)) (by decide +kernel))
set_option maxRecDepth 20000 in
theorem gX1_bargeOf_X1_checkPerson : GoodIn wsX1_bargeOf (wsV RX1 76 RX1 yX1_checkPerson wsX1_checkPerson) := goodIn_app (goodIn_of _ (by decide +kernel)) ggX1_bargeOf_X1_checkPerson
set_option maxRecDepth 20000 in
theorem ggX1_bargeOf_X0_numberOf : GoodIn wsX1_bargeOf wsX0_numberOf := goodIn_r _ [14, 15, 16, 19, 20, 21, 22, 23, 24, 25, 26, 27, 28, 29, 30, 31, 32, 33, 34] (by decide +kernel) (by decide +kernel)
set_option maxRecDepth 20000 in
theorem gX1_bargeOf_X0_numberOf : GoodIn wsX1_bargeOf (wsV RX1 79 RX0 yX0_numberOf wsX0_numberOf) := goodIn_app (goodIn_of _ (by decide +kernel)) ggX1_bargeOf_X0_numberOf
theorem dX1_bargeOf_0 : decode cX1_bargeOf 0 = .ok (.aload_n 0, 1) := by decide +kernel
theorem dX1_bargeOf_1 : decode cX1_bargeOf 1 = .ok (.iload_n 1, 1) := by decide +kernel
theorem dX1_bargeOf_2 : decode cX1_bargeOf 2 = .ok (.invokevirtual 76, 3) := by decide +kernel
theorem dX1_bargeOf_5 : decode cX1_bargeOf 5 = .ok (.aload_n 0, 1) := by decide +kernel
theorem dX1_bargeOf_6 : decode cX1_bargeOf 6 = .ok (.getfield 10, 3) := by decide +kernel
theorem dX1_bargeOf_9 : decode cX1_bargeOf 9 = .ok (.iload_n 1, 1) := by decide +kernel
theorem dX1_bargeOf_10 : decode cX1_bargeOf 10 = .ok (.iconst 0, 1) := by decide +kernel
theorem dX1_bargeOf_11 : decode cX1_bargeOf 11 = .ok (.invokevirtual 79, 3) := by decide +kernel
theorem dX1_bargeOf_14 : decode cX1_bargeOf 14 = .ok (.ireturn, 1) := by decide +kernel
set_option maxRecDepth 20000 in
theorem ggX1_isHome_X1_checkPerson : GoodIn wsX1_isHome wsX1_checkPerson := goodIn_ca (goodIn_r _ [7, 8, 9, 1, 10, 11, 12, 13, 14, 15, 16, 17, 18, 19, 20, 21, 22, 23, 24, 25, 26, 27, 28] (by decide +kernel) (by decide +kernel)) (goodIn_sub (fun _ h => List.mem_cons_of_mem _ (List.mem_append_right _ h)) (by decide +kernel))
set_option maxRecDepth 20000 in
theorem gX1_isHome_X1_checkPerson : GoodIn wsX1_isHome (wsV RX1 76 RX1 yX1_checkPerson wsX1_checkPerson) := goodIn_app (goodIn_of _ (by decide +kernel)) ggX1_isHome_X1_checkPerson
theorem dX1_isHome_0 : decode cX1_isHome 0 = .ok (.aload_n 0, 1) := by decide +kernel
theorem dX1_isHome_1 : decode cX1_isHome 1 = .ok (.iload_n 1, 1) := by decide +kernel
theorem dX1_isHome_2 : decode cX1_isHome 2 = .ok (.invokevirtual 76, 3) := by decide +kernel
theorem dX1_isHome_5 : decode cX1_isHome 5 = .ok (.aload_n 0, 1) := by decide +kernel
theorem dX1_isHome_6 : decode cX1_isHome 6 = .ok (.getfield 10, 3) := by decide +kernel
theorem dX1_isHome_9 : decode cX1_isHome 9 = .ok (.getfield 107, 3) := by decide +kernel
theorem dX1_isHome_12 : decode cX1_isHome 12 = .ok (.iload_n 1, 1) := by decide +kernel
theorem dX1_isHome_13 : decode cX1_isHome 13 = .ok (.iaload, 1) := by decide +kernel
theorem dX1_isHome_14 : decode cX1_isHome 14 = .ok (.iconst 2, 1) := by decide +kernel
theorem dX1_isHome_15 : decode cX1_isHome 15 = .ok (.if_icmp .ne 7, 3) := by decide +kernel
theorem dX1_isHome_18 : decode cX1_isHome 18 = .ok (.iconst 1, 1) := by decide +kernel
theorem dX1_isHome_19 : decode cX1_isHome 19 = .ok (.goto 4, 3) := by decide +kernel
theorem dX1_isHome_22 : decode cX1_isHome 22 = .ok (.iconst 0, 1) := by decide +kernel
theorem dX1_isHome_23 : decode cX1_isHome 23 = .ok (.ireturn, 1) := by decide +kernel
set_option maxRecDepth 20000 in
theorem ggX1_isInGreatHouse_X1_checkPerson : GoodIn wsX1_isInGreatHouse wsX1_checkPerson := goodIn_ca (goodIn_r _ [7, 8, 9, 1, 10, 11, 12, 13, 14, 15, 16, 17, 18, 19, 20, 21, 22, 23, 24, 25, 26, 27, 28] (by decide +kernel) (by decide +kernel)) (goodIn_sub (fun _ h => List.mem_cons_of_mem _ (List.mem_append_right _ h)) (by decide +kernel))
set_option maxRecDepth 20000 in
theorem gX1_isInGreatHouse_X1_checkPerson : GoodIn wsX1_isInGreatHouse (wsV RX1 76 RX1 yX1_checkPerson wsX1_checkPerson) := goodIn_app (goodIn_of _ (by decide +kernel)) ggX1_isInGreatHouse_X1_checkPerson
theorem dX1_isInGreatHouse_0 : decode cX1_isInGreatHouse 0 = .ok (.aload_n 0, 1) := by decide +kernel
theorem dX1_isInGreatHouse_1 : decode cX1_isInGreatHouse 1 = .ok (.iload_n 1, 1) := by decide +kernel
theorem dX1_isInGreatHouse_2 : decode cX1_isInGreatHouse 2 = .ok (.invokevirtual 76, 3) := by decide +kernel
theorem dX1_isInGreatHouse_5 : decode cX1_isInGreatHouse 5 = .ok (.aload_n 0, 1) := by decide +kernel
theorem dX1_isInGreatHouse_6 : decode cX1_isInGreatHouse 6 = .ok (.getfield 10, 3) := by decide +kernel
theorem dX1_isInGreatHouse_9 : decode cX1_isInGreatHouse 9 = .ok (.getfield 107, 3) := by decide +kernel
theorem dX1_isInGreatHouse_12 : decode cX1_isInGreatHouse 12 = .ok (.iload_n 1, 1) := by decide +kernel
theorem dX1_isInGreatHouse_13 : decode cX1_isInGreatHouse 13 = .ok (.iaload, 1) := by decide +kernel
theorem dX1_isInGreatHouse_14 : decode cX1_isInGreatHouse 14 = .ok (.iconst 3, 1) := by decide +kernel
theorem dX1_isInGreatHouse_15 : decode cX1_isInGreatHouse 15 = .ok (.if_icmp .ne 7, 3) := by decide +kernel
theorem dX1_isInGreatHouse_18 : decode cX1_isInGreatHouse 18 = .ok (.iconst 1, 1) := by decide +kernel
theorem dX1_isInGreatHouse_19 : decode cX1_isInGreatHouse 19 = .ok (.goto 4, 3) := by decide +kernel
theorem dX1_isInGreatHouse_22 : decode cX1_isInGreatHouse 22 = .ok (.iconst 0, 1) := by decide +kernel
theorem dX1_isInGreatHouse_23 : decode cX1_isInGreatHouse 23 = .ok (.ireturn, 1) := by decide +kernel
set_option maxRecDepth 20000 in
theorem ggX1_hungryDaysOf_X1_checkPerson : GoodIn wsX1_hungryDaysOf wsX1_checkPerson := goodIn_ca (goodIn_r _ [7, 8, 9, 1, 10, 11, 12, 13, 14, 15, 16, 17, 18, 19, 20, 21, 22, 23, 24, 25, 26, 27, 28] (by decide +kernel) (by decide +kernel)) (goodIn_sub (fun _ h => List.mem_cons_of_mem _ (List.mem_append_right _ h)) (by decide +kernel))
set_option maxRecDepth 20000 in
theorem gX1_hungryDaysOf_X1_checkPerson : GoodIn wsX1_hungryDaysOf (wsV RX1 76 RX1 yX1_checkPerson wsX1_checkPerson) := goodIn_app (goodIn_of _ (by decide +kernel)) ggX1_hungryDaysOf_X1_checkPerson
theorem dX1_hungryDaysOf_0 : decode cX1_hungryDaysOf 0 = .ok (.aload_n 0, 1) := by decide +kernel
theorem dX1_hungryDaysOf_1 : decode cX1_hungryDaysOf 1 = .ok (.iload_n 1, 1) := by decide +kernel
theorem dX1_hungryDaysOf_2 : decode cX1_hungryDaysOf 2 = .ok (.invokevirtual 76, 3) := by decide +kernel
theorem dX1_hungryDaysOf_5 : decode cX1_hungryDaysOf 5 = .ok (.aload_n 0, 1) := by decide +kernel
theorem dX1_hungryDaysOf_6 : decode cX1_hungryDaysOf 6 = .ok (.getfield 10, 3) := by decide +kernel
theorem dX1_hungryDaysOf_9 : decode cX1_hungryDaysOf 9 = .ok (.getfield 110, 3) := by decide +kernel
theorem dX1_hungryDaysOf_12 : decode cX1_hungryDaysOf 12 = .ok (.iload_n 1, 1) := by decide +kernel
theorem dX1_hungryDaysOf_13 : decode cX1_hungryDaysOf 13 = .ok (.iaload, 1) := by decide +kernel
theorem dX1_hungryDaysOf_14 : decode cX1_hungryDaysOf 14 = .ok (.ireturn, 1) := by decide +kernel
set_option maxRecDepth 20000 in
theorem ggX1_placesOf_X1_checkWard : GoodIn wsX1_placesOf wsX1_checkWard := goodIn_ca (goodIn_r _ [7, 8, 9, 1, 10, 11, 12, 13, 14, 15, 16, 17, 18, 19, 20, 21, 22, 23, 24, 25, 26, 27, 28] (by decide +kernel) (by decide +kernel)) (goodIn_sub (fun _ h => List.mem_cons_of_mem _ (List.mem_append_right _ h)) (by decide +kernel))
set_option maxRecDepth 20000 in
theorem gX1_placesOf_X1_checkWard : GoodIn wsX1_placesOf (wsV RX1 69 RX1 yX1_checkWard wsX1_checkWard) := goodIn_app (goodIn_of _ (by decide +kernel)) ggX1_placesOf_X1_checkWard
theorem dX1_placesOf_0 : decode cX1_placesOf 0 = .ok (.aload_n 0, 1) := by decide +kernel
theorem dX1_placesOf_1 : decode cX1_placesOf 1 = .ok (.iload_n 1, 1) := by decide +kernel
theorem dX1_placesOf_2 : decode cX1_placesOf 2 = .ok (.invokevirtual 69, 3) := by decide +kernel
theorem dX1_placesOf_5 : decode cX1_placesOf 5 = .ok (.aload_n 0, 1) := by decide +kernel
theorem dX1_placesOf_6 : decode cX1_placesOf 6 = .ok (.getfield 10, 3) := by decide +kernel
theorem dX1_placesOf_9 : decode cX1_placesOf 9 = .ok (.getfield 113, 3) := by decide +kernel
theorem dX1_placesOf_12 : decode cX1_placesOf 12 = .ok (.iload_n 1, 1) := by decide +kernel
theorem dX1_placesOf_13 : decode cX1_placesOf 13 = .ok (.iaload, 1) := by decide +kernel
theorem dX1_placesOf_14 : decode cX1_placesOf 14 = .ok (.ireturn, 1) := by decide +kernel
set_option maxRecDepth 20000 in
theorem ggX1_peopleIn_X1_checkWard : GoodIn wsX1_peopleIn wsX1_checkWard := goodIn_ca (goodIn_r _ [6, 7, 8, 1, 9, 22, 23, 24, 25, 26, 27, 28, 29, 30, 31, 32, 33, 34, 35, 36, 37, 38, 39] (by decide +kernel) (by decide +kernel)) (goodIn_sub (fun _ h => List.mem_cons_of_mem _ (List.mem_append_right _ h)) (by decide +kernel))
set_option maxRecDepth 20000 in
theorem gX1_peopleIn_X1_checkWard : GoodIn wsX1_peopleIn (wsV RX1 69 RX1 yX1_checkWard wsX1_checkWard) := goodIn_app (goodIn_of _ (by decide +kernel)) ggX1_peopleIn_X1_checkWard
set_option maxRecDepth 20000 in
theorem ggX1_peopleIn_X0_countAt : GoodIn wsX1_peopleIn wsX0_countAt := goodIn_r _ [14, 15, 16, 17, 18, 13, 19, 20, 21, 24, 25, 26, 27, 28, 29, 30, 31, 32, 33, 34, 35, 36, 37, 38, 39] (by decide +kernel) (by decide +kernel)
set_option maxRecDepth 20000 in
theorem gX1_peopleIn_X0_countAt : GoodIn wsX1_peopleIn (wsV RX1 116 RX0 yX0_countAt wsX0_countAt) := goodIn_app (goodIn_of _ (by decide +kernel)) ggX1_peopleIn_X0_countAt
theorem dX1_peopleIn_0 : decode cX1_peopleIn 0 = .ok (.aload_n 0, 1) := by decide +kernel
theorem dX1_peopleIn_1 : decode cX1_peopleIn 1 = .ok (.iload_n 1, 1) := by decide +kernel
theorem dX1_peopleIn_2 : decode cX1_peopleIn 2 = .ok (.invokevirtual 69, 3) := by decide +kernel
theorem dX1_peopleIn_5 : decode cX1_peopleIn 5 = .ok (.aload_n 0, 1) := by decide +kernel
theorem dX1_peopleIn_6 : decode cX1_peopleIn 6 = .ok (.getfield 10, 3) := by decide +kernel
theorem dX1_peopleIn_9 : decode cX1_peopleIn 9 = .ok (.iconst 1, 1) := by decide +kernel
theorem dX1_peopleIn_10 : decode cX1_peopleIn 10 = .ok (.iload_n 1, 1) := by decide +kernel
theorem dX1_peopleIn_11 : decode cX1_peopleIn 11 = .ok (.invokevirtual 116, 3) := by decide +kernel
theorem dX1_peopleIn_14 : decode cX1_peopleIn 14 = .ok (.ireturn, 1) := by decide +kernel
set_option maxRecDepth 20000 in
theorem ggX1_strawOf_X1_checkWard : GoodIn wsX1_strawOf wsX1_checkWard := goodIn_ca (goodIn_r _ [7, 8, 9, 1, 10, 11, 12, 13, 14, 15, 16, 17, 18, 19, 20, 21, 22, 23, 24, 25, 26, 27, 28] (by decide +kernel) (by decide +kernel)) (goodIn_sub (fun _ h => List.mem_cons_of_mem _ (List.mem_append_right _ h)) (by decide +kernel))
set_option maxRecDepth 20000 in
theorem gX1_strawOf_X1_checkWard : GoodIn wsX1_strawOf (wsV RX1 69 RX1 yX1_checkWard wsX1_checkWard) := goodIn_app (goodIn_of _ (by decide +kernel)) ggX1_strawOf_X1_checkWard
theorem dX1_strawOf_0 : decode cX1_strawOf 0 = .ok (.aload_n 0, 1) := by decide +kernel
theorem dX1_strawOf_1 : decode cX1_strawOf 1 = .ok (.iload_n 1, 1) := by decide +kernel
theorem dX1_strawOf_2 : decode cX1_strawOf 2 = .ok (.invokevirtual 69, 3) := by decide +kernel
theorem dX1_strawOf_5 : decode cX1_strawOf 5 = .ok (.aload_n 0, 1) := by decide +kernel
theorem dX1_strawOf_6 : decode cX1_strawOf 6 = .ok (.getfield 10, 3) := by decide +kernel
theorem dX1_strawOf_9 : decode cX1_strawOf 9 = .ok (.getfield 72, 3) := by decide +kernel
theorem dX1_strawOf_12 : decode cX1_strawOf 12 = .ok (.iload_n 1, 1) := by decide +kernel
theorem dX1_strawOf_13 : decode cX1_strawOf 13 = .ok (.iaload, 1) := by decide +kernel
theorem dX1_strawOf_14 : decode cX1_strawOf 14 = .ok (.ireturn, 1) := by decide +kernel
set_option maxRecDepth 20000 in
theorem ggX1_feversIn_X1_checkWard : GoodIn wsX1_feversIn wsX1_checkWard := goodIn_ca (goodIn_r _ [6, 7, 8, 1, 9, 23, 24, 25, 26, 27, 28, 29, 30, 31, 32, 33, 34, 35, 36, 37, 38, 39, 40] (by decide +kernel) (by decide +kernel)) (goodIn_sub (fun _ h => List.mem_cons_of_mem _ (List.mem_append_right _ h)) (by decide +kernel))
set_option maxRecDepth 20000 in
theorem gX1_feversIn_X1_checkWard : GoodIn wsX1_feversIn (wsV RX1 69 RX1 yX1_checkWard wsX1_checkWard) := goodIn_app (goodIn_of _ (by decide +kernel)) ggX1_feversIn_X1_checkWard
set_option maxRecDepth 20000 in
theorem ggX1_feversIn_X0_feversInWard : GoodIn wsX1_feversIn wsX0_feversInWard := goodIn_r _ [14, 15, 16, 17, 18, 19, 13, 20, 21, 22, 25, 26, 27, 28, 29, 30, 31, 32, 33, 34, 35, 36, 37, 38, 39, 40] (by decide +kernel) (by decide +kernel)
set_option maxRecDepth 20000 in
theorem gX1_feversIn_X0_feversInWard : GoodIn wsX1_feversIn (wsV RX1 119 RX0 yX0_feversInWard wsX0_feversInWard) := goodIn_app (goodIn_of _ (by decide +kernel)) ggX1_feversIn_X0_feversInWard
theorem dX1_feversIn_0 : decode cX1_feversIn 0 = .ok (.aload_n 0, 1) := by decide +kernel
theorem dX1_feversIn_1 : decode cX1_feversIn 1 = .ok (.iload_n 1, 1) := by decide +kernel
theorem dX1_feversIn_2 : decode cX1_feversIn 2 = .ok (.invokevirtual 69, 3) := by decide +kernel
theorem dX1_feversIn_5 : decode cX1_feversIn 5 = .ok (.aload_n 0, 1) := by decide +kernel
theorem dX1_feversIn_6 : decode cX1_feversIn 6 = .ok (.getfield 10, 3) := by decide +kernel
theorem dX1_feversIn_9 : decode cX1_feversIn 9 = .ok (.iload_n 1, 1) := by decide +kernel
theorem dX1_feversIn_10 : decode cX1_feversIn 10 = .ok (.invokevirtual 119, 3) := by decide +kernel
theorem dX1_feversIn_13 : decode cX1_feversIn 13 = .ok (.ireturn, 1) := by decide +kernel
set_option maxRecDepth 20000 in
theorem ggX1_daysToGo_X1_checkBarge : GoodIn wsX1_daysToGo wsX1_checkBarge := goodIn_ca (goodIn_r _ [7, 8, 9, 1, 10, 11, 12, 13, 14, 15, 16, 17, 18, 19, 20, 21, 22, 23, 24, 25, 26, 27, 28] (by decide +kernel) (by decide +kernel)) (goodIn_sub (fun _ h => List.mem_cons_of_mem _ (List.mem_append_right _ h)) (by decide +kernel))
set_option maxRecDepth 20000 in
theorem gX1_daysToGo_X1_checkBarge : GoodIn wsX1_daysToGo (wsV RX1 49 RX1 yX1_checkBarge wsX1_checkBarge) := goodIn_app (goodIn_of _ (by decide +kernel)) ggX1_daysToGo_X1_checkBarge
theorem dX1_daysToGo_0 : decode cX1_daysToGo 0 = .ok (.aload_n 0, 1) := by decide +kernel
theorem dX1_daysToGo_1 : decode cX1_daysToGo 1 = .ok (.iload_n 1, 1) := by decide +kernel
theorem dX1_daysToGo_2 : decode cX1_daysToGo 2 = .ok (.invokevirtual 49, 3) := by decide +kernel
theorem dX1_daysToGo_5 : decode cX1_daysToGo 5 = .ok (.aload_n 0, 1) := by decide +kernel
theorem dX1_daysToGo_6 : decode cX1_daysToGo 6 = .ok (.getfield 10, 3) := by decide +kernel
theorem dX1_daysToGo_9 : decode cX1_daysToGo 9 = .ok (.getfield 122, 3) := by decide +kernel
theorem dX1_daysToGo_12 : decode cX1_daysToGo 12 = .ok (.iload_n 1, 1) := by decide +kernel
theorem dX1_daysToGo_13 : decode cX1_daysToGo 13 = .ok (.iaload, 1) := by decide +kernel
theorem dX1_daysToGo_14 : decode cX1_daysToGo 14 = .ok (.ireturn, 1) := by decide +kernel
set_option maxRecDepth 20000 in
theorem ggX1_keptFor_X1_checkBarge : GoodIn wsX1_keptFor wsX1_checkBarge := goodIn_ca (goodIn_r _ [7, 8, 9, 1, 10, 11, 12, 13, 14, 15, 16, 17, 18, 19, 20, 21, 22, 23, 24, 25, 26, 27, 28] (by decide +kernel) (by decide +kernel)) (goodIn_sub (fun _ h => List.mem_cons_of_mem _ (List.mem_append_right _ h)) (by decide +kernel))
set_option maxRecDepth 20000 in
theorem gX1_keptFor_X1_checkBarge : GoodIn wsX1_keptFor (wsV RX1 49 RX1 yX1_checkBarge wsX1_checkBarge) := goodIn_app (goodIn_of _ (by decide +kernel)) ggX1_keptFor_X1_checkBarge
theorem dX1_keptFor_0 : decode cX1_keptFor 0 = .ok (.aload_n 0, 1) := by decide +kernel
theorem dX1_keptFor_1 : decode cX1_keptFor 1 = .ok (.iload_n 1, 1) := by decide +kernel
theorem dX1_keptFor_2 : decode cX1_keptFor 2 = .ok (.invokevirtual 49, 3) := by decide +kernel
theorem dX1_keptFor_5 : decode cX1_keptFor 5 = .ok (.aload_n 0, 1) := by decide +kernel
theorem dX1_keptFor_6 : decode cX1_keptFor 6 = .ok (.getfield 10, 3) := by decide +kernel
theorem dX1_keptFor_9 : decode cX1_keptFor 9 = .ok (.getfield 125, 3) := by decide +kernel
theorem dX1_keptFor_12 : decode cX1_keptFor 12 = .ok (.iload_n 1, 1) := by decide +kernel
theorem dX1_keptFor_13 : decode cX1_keptFor 13 = .ok (.iaload, 1) := by decide +kernel
theorem dX1_keptFor_14 : decode cX1_keptFor 14 = .ok (.ireturn, 1) := by decide +kernel
set_option maxRecDepth 20000 in
theorem ggX1_peopleOn_X1_checkBarge : GoodIn wsX1_peopleOn wsX1_checkBarge := goodIn_ca (goodIn_r _ [6, 7, 8, 1, 9, 22, 23, 24, 25, 26, 27, 28, 29, 30, 31, 32, 33, 34, 35, 36, 37, 38, 39] (by decide +kernel) (by decide +kernel)) (goodIn_sub (fun _ h => List.mem_cons_of_mem _ (List.mem_append_right _ h)) (by decide +kernel))
set_option maxRecDepth 20000 in
theorem gX1_peopleOn_X1_checkBarge : GoodIn wsX1_peopleOn (wsV RX1 49 RX1 yX1_checkBarge wsX1_checkBarge) := goodIn_app (goodIn_of _ (by decide +kernel)) ggX1_peopleOn_X1_checkBarge
set_option maxRecDepth 20000 in
theorem ggX1_peopleOn_X0_countAt : GoodIn wsX1_peopleOn wsX0_countAt := goodIn_r _ [14, 15, 16, 17, 18, 13, 19, 20, 21, 24, 25, 26, 27, 28, 29, 30, 31, 32, 33, 34, 35, 36, 37, 38, 39] (by decide +kernel) (by decide +kernel)
set_option maxRecDepth 20000 in
theorem gX1_peopleOn_X0_countAt : GoodIn wsX1_peopleOn (wsV RX1 116 RX0 yX0_countAt wsX0_countAt) := goodIn_app (goodIn_of _ (by decide +kernel)) ggX1_peopleOn_X0_countAt
theorem dX1_peopleOn_0 : decode cX1_peopleOn 0 = .ok (.aload_n 0, 1) := by decide +kernel
theorem dX1_peopleOn_1 : decode cX1_peopleOn 1 = .ok (.iload_n 1, 1) := by decide +kernel
theorem dX1_peopleOn_2 : decode cX1_peopleOn 2 = .ok (.invokevirtual 49, 3) := by decide +kernel
theorem dX1_peopleOn_5 : decode cX1_peopleOn 5 = .ok (.aload_n 0, 1) := by decide +kernel
theorem dX1_peopleOn_6 : decode cX1_peopleOn 6 = .ok (.getfield 10, 3) := by decide +kernel
theorem dX1_peopleOn_9 : decode cX1_peopleOn 9 = .ok (.iconst 0, 1) := by decide +kernel
theorem dX1_peopleOn_10 : decode cX1_peopleOn 10 = .ok (.iload_n 1, 1) := by decide +kernel
theorem dX1_peopleOn_11 : decode cX1_peopleOn 11 = .ok (.invokevirtual 116, 3) := by decide +kernel
theorem dX1_peopleOn_14 : decode cX1_peopleOn 14 = .ok (.ireturn, 1) := by decide +kernel
set_option maxRecDepth 20000 in
theorem ggX1_highestFeverOn_X1_checkBarge : GoodIn wsX1_highestFeverOn wsX1_checkBarge := goodIn_ca (goodIn_r _ [6, 7, 8, 1, 9, 27, 28, 29, 30, 31, 32, 33, 34, 35, 36, 37, 38, 39, 40, 41, 42, 43, 44] (by decide +kernel) (by decide +kernel)) (goodIn_sub (fun _ h => List.mem_cons_of_mem _ (List.mem_append_right _ h)) (by decide +kernel))
set_option maxRecDepth 20000 in
theorem gX1_highestFeverOn_X1_checkBarge : GoodIn wsX1_highestFeverOn (wsV RX1 49 RX1 yX1_checkBarge wsX1_checkBarge) := goodIn_app (goodIn_of _ (by decide +kernel)) ggX1_highestFeverOn_X1_checkBarge
set_option maxRecDepth 20000 in
theorem ggX1_highestFeverOn_X0_highestFeverAboard : GoodIn wsX1_highestFeverOn wsX0_highestFeverAboard := goodIn_r _ [14, 15, 16, 17, 18, 19, 20, 21, 22, 23, 13, 24, 25, 26, 29, 30, 31, 32, 33, 34, 35, 36, 37, 38, 39, 40, 41, 42, 43, 44] (by decide +kernel) (by decide +kernel)
set_option maxRecDepth 20000 in
theorem gX1_highestFeverOn_X0_highestFeverAboard : GoodIn wsX1_highestFeverOn (wsV RX1 128 RX0 yX0_highestFeverAboard wsX0_highestFeverAboard) := goodIn_app (goodIn_of _ (by decide +kernel)) ggX1_highestFeverOn_X0_highestFeverAboard
theorem dX1_highestFeverOn_0 : decode cX1_highestFeverOn 0 = .ok (.aload_n 0, 1) := by decide +kernel
theorem dX1_highestFeverOn_1 : decode cX1_highestFeverOn 1 = .ok (.iload_n 1, 1) := by decide +kernel
theorem dX1_highestFeverOn_2 : decode cX1_highestFeverOn 2 = .ok (.invokevirtual 49, 3) := by decide +kernel
theorem dX1_highestFeverOn_5 : decode cX1_highestFeverOn 5 = .ok (.aload_n 0, 1) := by decide +kernel
theorem dX1_highestFeverOn_6 : decode cX1_highestFeverOn 6 = .ok (.getfield 10, 3) := by decide +kernel
theorem dX1_highestFeverOn_9 : decode cX1_highestFeverOn 9 = .ok (.iload_n 1, 1) := by decide +kernel
theorem dX1_highestFeverOn_10 : decode cX1_highestFeverOn 10 = .ok (.invokevirtual 128, 3) := by decide +kernel
theorem dX1_highestFeverOn_13 : decode cX1_highestFeverOn 13 = .ok (.ireturn, 1) := by decide +kernel
theorem dX1_day_0 : decode cX1_day 0 = .ok (.aload_n 0, 1) := by decide +kernel
theorem dX1_day_1 : decode cX1_day 1 = .ok (.getfield 10, 3) := by decide +kernel
theorem dX1_day_4 : decode cX1_day 4 = .ok (.getfield 131, 3) := by decide +kernel
theorem dX1_day_7 : decode cX1_day 7 = .ok (.ireturn, 1) := by decide +kernel
theorem dX1_wards_0 : decode cX1_wards 0 = .ok (.aload_n 0, 1) := by decide +kernel
theorem dX1_wards_1 : decode cX1_wards 1 = .ok (.getfield 10, 3) := by decide +kernel
theorem dX1_wards_4 : decode cX1_wards 4 = .ok (.getfield 26, 3) := by decide +kernel
theorem dX1_wards_7 : decode cX1_wards 7 = .ok (.ireturn, 1) := by decide +kernel
theorem dX1_barges_0 : decode cX1_barges 0 = .ok (.aload_n 0, 1) := by decide +kernel
theorem dX1_barges_1 : decode cX1_barges 1 = .ok (.getfield 10, 3) := by decide +kernel
theorem dX1_barges_4 : decode cX1_barges 4 = .ok (.getfield 41, 3) := by decide +kernel
theorem dX1_barges_7 : decode cX1_barges 7 = .ok (.ireturn, 1) := by decide +kernel
theorem dX1_people_0 : decode cX1_people 0 = .ok (.aload_n 0, 1) := by decide +kernel
theorem dX1_people_1 : decode cX1_people 1 = .ok (.getfield 10, 3) := by decide +kernel
theorem dX1_people_4 : decode cX1_people 4 = .ok (.getfield 55, 3) := by decide +kernel
theorem dX1_people_7 : decode cX1_people 7 = .ok (.ireturn, 1) := by decide +kernel
theorem dX1_bowls_0 : decode cX1_bowls 0 = .ok (.aload_n 0, 1) := by decide +kernel
theorem dX1_bowls_1 : decode cX1_bowls 1 = .ok (.getfield 10, 3) := by decide +kernel
theorem dX1_bowls_4 : decode cX1_bowls 4 = .ok (.getfield 66, 3) := by decide +kernel
theorem dX1_bowls_7 : decode cX1_bowls 7 = .ok (.ireturn, 1) := by decide +kernel
set_option maxRecDepth 20000 in
theorem ggX1_freePlaces_X0_freeIn : GoodIn wsX1_freePlaces wsX0_freeIn := goodIn_r _ [7, 8, 9, 10, 11, 6, 12, 13, 14, 15, 16, 17, 18, 19, 22, 23, 24, 25, 26, 27, 28, 29, 30, 31, 32, 33, 34, 35, 36, 37] (by decide +kernel) (by decide +kernel)
set_option maxRecDepth 20000 in
theorem gX1_freePlaces_X0_freeIn : GoodIn wsX1_freePlaces (wsV RX1 86 RX0 yX0_freeIn wsX0_freeIn) := goodIn_app (goodIn_of _ (by decide +kernel)) ggX1_freePlaces_X0_freeIn
theorem dX1_freePlaces_0 : decode cX1_freePlaces 0 = .ok (.iconst 0, 1) := by decide +kernel
theorem dX1_freePlaces_1 : decode cX1_freePlaces 1 = .ok (.istore_n 1, 1) := by decide +kernel
theorem dX1_freePlaces_2 : decode cX1_freePlaces 2 = .ok (.iconst 0, 1) := by decide +kernel
theorem dX1_freePlaces_3 : decode cX1_freePlaces 3 = .ok (.istore_n 2, 1) := by decide +kernel
theorem dX1_freePlaces_4 : decode cX1_freePlaces 4 = .ok (.iload_n 2, 1) := by decide +kernel
theorem dX1_freePlaces_5 : decode cX1_freePlaces 5 = .ok (.aload_n 0, 1) := by decide +kernel
theorem dX1_freePlaces_6 : decode cX1_freePlaces 6 = .ok (.getfield 10, 3) := by decide +kernel
theorem dX1_freePlaces_9 : decode cX1_freePlaces 9 = .ok (.getfield 26, 3) := by decide +kernel
theorem dX1_freePlaces_12 : decode cX1_freePlaces 12 = .ok (.if_icmp .ge 20, 3) := by decide +kernel
theorem dX1_freePlaces_15 : decode cX1_freePlaces 15 = .ok (.iload_n 1, 1) := by decide +kernel
theorem dX1_freePlaces_16 : decode cX1_freePlaces 16 = .ok (.aload_n 0, 1) := by decide +kernel
theorem dX1_freePlaces_17 : decode cX1_freePlaces 17 = .ok (.getfield 10, 3) := by decide +kernel
theorem dX1_freePlaces_20 : decode cX1_freePlaces 20 = .ok (.iload_n 2, 1) := by decide +kernel
theorem dX1_freePlaces_21 : decode cX1_freePlaces 21 = .ok (.invokevirtual 86, 3) := by decide +kernel
theorem dX1_freePlaces_24 : decode cX1_freePlaces 24 = .ok (.iadd, 1) := by decide +kernel
theorem dX1_freePlaces_25 : decode cX1_freePlaces 25 = .ok (.istore_n 1, 1) := by decide +kernel
theorem dX1_freePlaces_26 : decode cX1_freePlaces 26 = .ok (.iinc 2 1, 3) := by decide +kernel
theorem dX1_freePlaces_29 : decode cX1_freePlaces 29 = .ok (.goto (-25), 3) := by decide +kernel
theorem dX1_freePlaces_32 : decode cX1_freePlaces 32 = .ok (.iload_n 1, 1) := by decide +kernel
theorem dX1_freePlaces_33 : decode cX1_freePlaces 33 = .ok (.ireturn, 1) := by decide +kernel
set_option maxRecDepth 20000 in
theorem ggX1_bowlsShort_X0_count : GoodIn wsX1_bowlsShort wsX0_count := goodIn_r _ [11, 12, 13, 16, 17, 18, 19, 20, 21, 22, 23, 24, 25, 26, 27, 28, 29, 30, 31] (by decide +kernel) (by decide +kernel)
set_option maxRecDepth 20000 in
theorem gX1_bowlsShort_X0_count : GoodIn wsX1_bowlsShort (wsV RX1 98 RX0 yX0_count wsX0_count) := goodIn_app (goodIn_of _ (by decide +kernel)) ggX1_bowlsShort_X0_count
theorem dX1_bowlsShort_0 : decode cX1_bowlsShort 0 = .ok (.iconst 0, 1) := by decide +kernel
theorem dX1_bowlsShort_1 : decode cX1_bowlsShort 1 = .ok (.aload_n 0, 1) := by decide +kernel
theorem dX1_bowlsShort_2 : decode cX1_bowlsShort 2 = .ok (.getfield 10, 3) := by decide +kernel
theorem dX1_bowlsShort_5 : decode cX1_bowlsShort 5 = .ok (.iconst 1, 1) := by decide +kernel
theorem dX1_bowlsShort_6 : decode cX1_bowlsShort 6 = .ok (.invokevirtual 98, 3) := by decide +kernel
theorem dX1_bowlsShort_9 : decode cX1_bowlsShort 9 = .ok (.aload_n 0, 1) := by decide +kernel
theorem dX1_bowlsShort_10 : decode cX1_bowlsShort 10 = .ok (.getfield 10, 3) := by decide +kernel
theorem dX1_bowlsShort_13 : decode cX1_bowlsShort 13 = .ok (.getfield 66, 3) := by decide +kernel
theorem dX1_bowlsShort_16 : decode cX1_bowlsShort 16 = .ok (.isub, 1) := by decide +kernel
theorem dX1_bowlsShort_17 : decode cX1_bowlsShort 17 = .ok (.invokestatic 134, 3) := by decide +kernel
theorem dX1_bowlsShort_20 : decode cX1_bowlsShort 20 = .ok (.ireturn, 1) := by decide +kernel
set_option maxRecDepth 20000 in
theorem ggX1_peopleHome_X0_count : GoodIn wsX1_peopleHome wsX0_count := goodIn_r _ [6, 7, 8, 11, 12, 13, 14, 15, 16, 17, 18, 19, 20, 21, 22, 23, 24, 25, 26] (by decide +kernel) (by decide +kernel)
set_option maxRecDepth 20000 in
theorem gX1_peopleHome_X0_count : GoodIn wsX1_peopleHome (wsV RX1 98 RX0 yX0_count wsX0_count) := goodIn_app (goodIn_of _ (by decide +kernel)) ggX1_peopleHome_X0_count
theorem dX1_peopleHome_0 : decode cX1_peopleHome 0 = .ok (.aload_n 0, 1) := by decide +kernel
theorem dX1_peopleHome_1 : decode cX1_peopleHome 1 = .ok (.getfield 10, 3) := by decide +kernel
theorem dX1_peopleHome_4 : decode cX1_peopleHome 4 = .ok (.iconst 2, 1) := by decide +kernel
theorem dX1_peopleHome_5 : decode cX1_peopleHome 5 = .ok (.invokevirtual 98, 3) := by decide +kernel
theorem dX1_peopleHome_8 : decode cX1_peopleHome 8 = .ok (.ireturn, 1) := by decide +kernel
set_option maxRecDepth 20000 in
theorem ggX1_peopleInGreatHouse_X0_count : GoodIn wsX1_peopleInGreatHouse wsX0_count := goodIn_r _ [6, 7, 8, 11, 12, 13, 14, 15, 16, 17, 18, 19, 20, 21, 22, 23, 24, 25, 26] (by decide +kernel) (by decide +kernel)
set_option maxRecDepth 20000 in
theorem gX1_peopleInGreatHouse_X0_count : GoodIn wsX1_peopleInGreatHouse (wsV RX1 98 RX0 yX0_count wsX0_count) := goodIn_app (goodIn_of _ (by decide +kernel)) ggX1_peopleInGreatHouse_X0_count
theorem dX1_peopleInGreatHouse_0 : decode cX1_peopleInGreatHouse 0 = .ok (.aload_n 0, 1) := by decide +kernel
theorem dX1_peopleInGreatHouse_1 : decode cX1_peopleInGreatHouse 1 = .ok (.getfield 10, 3) := by decide +kernel
theorem dX1_peopleInGreatHouse_4 : decode cX1_peopleInGreatHouse 4 = .ok (.iconst 3, 1) := by decide +kernel
theorem dX1_peopleInGreatHouse_5 : decode cX1_peopleInGreatHouse 5 = .ok (.invokevirtual 98, 3) := by decide +kernel
theorem dX1_peopleInGreatHouse_8 : decode cX1_peopleInGreatHouse 8 = .ok (.ireturn, 1) := by decide +kernel
theorem dX1_bowlsEaten_0 : decode cX1_bowlsEaten 0 = .ok (.aload_n 0, 1) := by decide +kernel
theorem dX1_bowlsEaten_1 : decode cX1_bowlsEaten 1 = .ok (.getfield 10, 3) := by decide +kernel
theorem dX1_bowlsEaten_4 : decode cX1_bowlsEaten 4 = .ok (.getfield 139, 3) := by decide +kernel
theorem dX1_bowlsEaten_7 : decode cX1_bowlsEaten 7 = .ok (.ireturn, 1) := by decide +kernel
set_option maxRecDepth 20000 in
theorem ggX1_daysUntilHome_X1_checkPerson : GoodIn wsX1_daysUntilHome wsX1_checkPerson := goodIn_ca (goodIn_r _ [8, 9, 10, 2, 11, 108, 109, 110, 111, 112, 113, 114, 115, 116, 117, 118, 119, 120, 121, 122, 123, 124, 125] (by decide +kernel) (by decide +kernel)) (goodIn_sub (fun _ h => List.mem_cons_of_mem _ (List.mem_append_right _ h)) (by decide +kernel))
set_option maxRecDepth 20000 in
theorem gX1_daysUntilHome_X1_checkPerson : GoodIn wsX1_daysUntilHome (wsV RX1 76 RX1 yX1_checkPerson wsX1_checkPerson) := goodIn_app (goodIn_of _ (by decide +kernel)) ggX1_daysUntilHome_X1_checkPerson
set_option maxRecDepth 20000 in
theorem ggX1_daysUntilHome_X0_copyFrom : GoodIn wsX1_daysUntilHome wsX0_copyFrom := goodIn_r _ [16, 17, 18, 19, 20, 21, 22, 23, 24, 25, 26, 27, 28, 29, 30, 31, 32, 33, 34, 110, 111, 112, 113, 114, 115, 116, 117, 118, 119, 120, 121, 122, 123, 124, 125] (by decide +kernel) (by decide +kernel)
set_option maxRecDepth 20000 in
theorem gX1_daysUntilHome_X0_copyFrom : GoodIn wsX1_daysUntilHome (wsV RX1 142 RX0 yX0_copyFrom wsX0_copyFrom) := goodIn_app (goodIn_of _ (by decide +kernel)) ggX1_daysUntilHome_X0_copyFrom
set_option maxRecDepth 20000 in
theorem ggX1_daysUntilHome_X0_liveDays : GoodIn wsX1_daysUntilHome wsX0_liveDays := goodIn_r _ [38, 17, 39, 40, 41, 15, 42, 18, 20, 22, 43, 34, 19, 44, 45, 46, 47, 32, 33, 48, 49, 50, 51, 28, 31, 52, 53, 54, 55, 56, 57, 58, 59, 60, 61, 62, 63, 64, 65, 66, 21, 30, 67, 68, 69, 70, 71, 72, 73, 74, 75, 76, 77, 78, 79, 80, 81, 82, 83, 84, 85, 86, 87, 88, 89, 90, 91, 29, 92, 93, 94, 95, 23, 96, 97, 98, 99, 100, 101, 102, 103, 104, 105, 106, 107, 110, 111, 112, 113, 114, 115, 116, 117, 118, 119, 120, 121, 122, 123, 124, 125] (by decide +kernel) (by decide +kernel)
set_option maxRecDepth 20000 in
theorem gX1_daysUntilHome_X0_liveDays : GoodIn wsX1_daysUntilHome (wsV RX1 101 RX0 yX0_liveDays wsX0_liveDays) := goodIn_app (goodIn_of _ (by decide +kernel)) ggX1_daysUntilHome_X0_liveDays
theorem dX1_daysUntilHome_0 : decode cX1_daysUntilHome 0 = .ok (.aload_n 0, 1) := by decide +kernel
theorem dX1_daysUntilHome_1 : decode cX1_daysUntilHome 1 = .ok (.iload_n 1, 1) := by decide +kernel
theorem dX1_daysUntilHome_2 : decode cX1_daysUntilHome 2 = .ok (.invokevirtual 76, 3) := by decide +kernel
theorem dX1_daysUntilHome_5 : decode cX1_daysUntilHome 5 = .ok (.aload_n 0, 1) := by decide +kernel
theorem dX1_daysUntilHome_6 : decode cX1_daysUntilHome 6 = .ok (.getfield 16, 3) := by decide +kernel
theorem dX1_daysUntilHome_9 : decode cX1_daysUntilHome 9 = .ok (.aload_n 0, 1) := by decide +kernel
theorem dX1_daysUntilHome_10 : decode cX1_daysUntilHome 10 = .ok (.getfield 10, 3) := by decide +kernel
theorem dX1_daysUntilHome_13 : decode cX1_daysUntilHome 13 = .ok (.invokevirtual 142, 3) := by decide +kernel
theorem dX1_daysUntilHome_16 : decode cX1_daysUntilHome 16 = .ok (.iconst 0, 1) := by decide +kernel
theorem dX1_daysUntilHome_17 : decode cX1_daysUntilHome 17 = .ok (.istore_n 2, 1) := by decide +kernel
theorem dX1_daysUntilHome_18 : decode cX1_daysUntilHome 18 = .ok (.iload_n 2, 1) := by decide +kernel
theorem dX1_daysUntilHome_19 : decode cX1_daysUntilHome 19 = .ok (.bipush 60, 2) := by decide +kernel
theorem dX1_daysUntilHome_21 : decode cX1_daysUntilHome 21 = .ok (.if_icmp .gt 32, 3) := by decide +kernel
theorem dX1_daysUntilHome_24 : decode cX1_daysUntilHome 24 = .ok (.aload_n 0, 1) := by decide +kernel
theorem dX1_daysUntilHome_25 : decode cX1_daysUntilHome 25 = .ok (.getfield 16, 3) := by decide +kernel
theorem dX1_daysUntilHome_28 : decode cX1_daysUntilHome 28 = .ok (.getfield 107, 3) := by decide +kernel
theorem dX1_daysUntilHome_31 : decode cX1_daysUntilHome 31 = .ok (.iload_n 1, 1) := by decide +kernel
theorem dX1_daysUntilHome_32 : decode cX1_daysUntilHome 32 = .ok (.iaload, 1) := by decide +kernel
theorem dX1_daysUntilHome_33 : decode cX1_daysUntilHome 33 = .ok (.iconst 2, 1) := by decide +kernel
theorem dX1_daysUntilHome_34 : decode cX1_daysUntilHome 34 = .ok (.if_icmp .ne 5, 3) := by decide +kernel
theorem dX1_daysUntilHome_37 : decode cX1_daysUntilHome 37 = .ok (.iload_n 2, 1) := by decide +kernel
theorem dX1_daysUntilHome_38 : decode cX1_daysUntilHome 38 = .ok (.ireturn, 1) := by decide +kernel
theorem dX1_daysUntilHome_39 : decode cX1_daysUntilHome 39 = .ok (.aload_n 0, 1) := by decide +kernel
theorem dX1_daysUntilHome_40 : decode cX1_daysUntilHome 40 = .ok (.getfield 16, 3) := by decide +kernel
theorem dX1_daysUntilHome_43 : decode cX1_daysUntilHome 43 = .ok (.iconst 1, 1) := by decide +kernel
theorem dX1_daysUntilHome_44 : decode cX1_daysUntilHome 44 = .ok (.invokevirtual 101, 3) := by decide +kernel
theorem dX1_daysUntilHome_47 : decode cX1_daysUntilHome 47 = .ok (.iinc 2 1, 3) := by decide +kernel
theorem dX1_daysUntilHome_50 : decode cX1_daysUntilHome 50 = .ok (.goto (-32), 3) := by decide +kernel
theorem dX1_daysUntilHome_53 : decode cX1_daysUntilHome 53 = .ok (.iconst (-1), 1) := by decide +kernel
theorem dX1_daysUntilHome_54 : decode cX1_daysUntilHome 54 = .ok (.ireturn, 1) := by decide +kernel
set_option maxRecDepth 20000 in
theorem ggX1_homeAfter_X1_checkDays : GoodIn wsX1_homeAfter wsX1_checkDays := goodIn_ca (goodIn_r _ [4, 5, 6] (by decide +kernel) (by decide +kernel)) (goodIn_sub (fun _ h => List.mem_cons_of_mem _ (List.mem_append_right _ h)) (by decide +kernel))
set_option maxRecDepth 20000 in
theorem gX1_homeAfter_X1_checkDays : GoodIn wsX1_homeAfter (va_wsS RX1 95 yX1_checkDays wsX1_checkDays) := goodIn_app (goodIn_of _ (by decide +kernel)) ggX1_homeAfter_X1_checkDays
set_option maxRecDepth 20000 in
theorem ggX1_homeAfter_X1_countBehind : GoodIn wsX1_homeAfter wsX1_countBehind := goodIn_r _ [10, 11, 12, 13, 14, 15, 16, 17, 18, 19, 20, 21, 22, 23, 24, 25, 26, 27, 28, 29, 30, 31, 32, 33, 34, 35, 36, 37, 38, 39, 40, 41, 42, 43, 44, 45, 46, 47, 48, 49, 50, 51, 52, 53, 54, 55, 56, 57, 58, 59, 60, 61, 62, 63, 64, 65, 66, 67, 68, 69, 70, 71, 72, 73, 74, 75, 76, 77, 78, 79, 80, 81, 82, 83, 84, 85, 86, 87, 88, 89, 90, 91, 92, 93, 94, 95, 96, 97, 98, 99, 100, 101, 102, 103, 104, 105, 106, 107, 108, 109, 110, 111, 112, 113, 114, 115, 116, 117, 118, 119, 120, 121, 122, 123, 124, 125, 126, 127, 128, 129, 130] (by decide +kernel) (by decide +kernel)
set_option maxRecDepth 20000 in
theorem gX1_homeAfter_X1_countBehind : GoodIn wsX1_homeAfter (wsV RX1 146 RX1 yX1_countBehind wsX1_countBehind) := goodIn_app (goodIn_of _ (by decide +kernel)) ggX1_homeAfter_X1_countBehind
theorem dX1_homeAfter_0 : decode cX1_homeAfter 0 = .ok (.iload_n 1, 1) := by decide +kernel
theorem dX1_homeAfter_1 : decode cX1_homeAfter 1 = .ok (.invokestatic 95, 3) := by decide +kernel
theorem dX1_homeAfter_4 : decode cX1_homeAfter 4 = .ok (.aload_n 0, 1) := by decide +kernel
theorem dX1_homeAfter_5 : decode cX1_homeAfter 5 = .ok (.iload_n 1, 1) := by decide +kernel
theorem dX1_homeAfter_6 : decode cX1_homeAfter 6 = .ok (.iconst 2, 1) := by decide +kernel
theorem dX1_homeAfter_7 : decode cX1_homeAfter 7 = .ok (.invokevirtual 146, 3) := by decide +kernel
theorem dX1_homeAfter_10 : decode cX1_homeAfter 10 = .ok (.ireturn, 1) := by decide +kernel
set_option maxRecDepth 20000 in
theorem ggX1_greatHouseAfter_X1_checkDays : GoodIn wsX1_greatHouseAfter wsX1_checkDays := goodIn_ca (goodIn_r _ [4, 5, 6] (by decide +kernel) (by decide +kernel)) (goodIn_sub (fun _ h => List.mem_cons_of_mem _ (List.mem_append_right _ h)) (by decide +kernel))
set_option maxRecDepth 20000 in
theorem gX1_greatHouseAfter_X1_checkDays : GoodIn wsX1_greatHouseAfter (va_wsS RX1 95 yX1_checkDays wsX1_checkDays) := goodIn_app (goodIn_of _ (by decide +kernel)) ggX1_greatHouseAfter_X1_checkDays
set_option maxRecDepth 20000 in
theorem ggX1_greatHouseAfter_X1_countBehind : GoodIn wsX1_greatHouseAfter wsX1_countBehind := goodIn_r _ [10, 11, 12, 13, 14, 15, 16, 17, 18, 19, 20, 21, 22, 23, 24, 25, 26, 27, 28, 29, 30, 31, 32, 33, 34, 35, 36, 37, 38, 39, 40, 41, 42, 43, 44, 45, 46, 47, 48, 49, 50, 51, 52, 53, 54, 55, 56, 57, 58, 59, 60, 61, 62, 63, 64, 65, 66, 67, 68, 69, 70, 71, 72, 73, 74, 75, 76, 77, 78, 79, 80, 81, 82, 83, 84, 85, 86, 87, 88, 89, 90, 91, 92, 93, 94, 95, 96, 97, 98, 99, 100, 101, 102, 103, 104, 105, 106, 107, 108, 109, 110, 111, 112, 113, 114, 115, 116, 117, 118, 119, 120, 121, 122, 123, 124, 125, 126, 127, 128, 129, 130] (by decide +kernel) (by decide +kernel)
set_option maxRecDepth 20000 in
theorem gX1_greatHouseAfter_X1_countBehind : GoodIn wsX1_greatHouseAfter (wsV RX1 146 RX1 yX1_countBehind wsX1_countBehind) := goodIn_app (goodIn_of _ (by decide +kernel)) ggX1_greatHouseAfter_X1_countBehind
theorem dX1_greatHouseAfter_0 : decode cX1_greatHouseAfter 0 = .ok (.iload_n 1, 1) := by decide +kernel
theorem dX1_greatHouseAfter_1 : decode cX1_greatHouseAfter 1 = .ok (.invokestatic 95, 3) := by decide +kernel
theorem dX1_greatHouseAfter_4 : decode cX1_greatHouseAfter 4 = .ok (.aload_n 0, 1) := by decide +kernel
theorem dX1_greatHouseAfter_5 : decode cX1_greatHouseAfter 5 = .ok (.iload_n 1, 1) := by decide +kernel
theorem dX1_greatHouseAfter_6 : decode cX1_greatHouseAfter 6 = .ok (.iconst 3, 1) := by decide +kernel
theorem dX1_greatHouseAfter_7 : decode cX1_greatHouseAfter 7 = .ok (.invokevirtual 146, 3) := by decide +kernel
theorem dX1_greatHouseAfter_10 : decode cX1_greatHouseAfter 10 = .ok (.ireturn, 1) := by decide +kernel
set_option maxRecDepth 20000 in
theorem ggX1_bowlsNeeded_X0_count : GoodIn wsX1_bowlsNeeded wsX0_count := goodIn_r _ [6, 7, 8, 11, 12, 13, 14, 15, 16, 17, 18, 19, 20, 21, 22, 23, 24, 25, 26] (by decide +kernel) (by decide +kernel)
set_option maxRecDepth 20000 in
theorem gX1_bowlsNeeded_X0_count : GoodIn wsX1_bowlsNeeded (wsV RX1 98 RX0 yX0_count wsX0_count) := goodIn_app (goodIn_of _ (by decide +kernel)) ggX1_bowlsNeeded_X0_count
theorem dX1_bowlsNeeded_0 : decode cX1_bowlsNeeded 0 = .ok (.aload_n 0, 1) := by decide +kernel
theorem dX1_bowlsNeeded_1 : decode cX1_bowlsNeeded 1 = .ok (.getfield 10, 3) := by decide +kernel
theorem dX1_bowlsNeeded_4 : decode cX1_bowlsNeeded 4 = .ok (.iconst 1, 1) := by decide +kernel
theorem dX1_bowlsNeeded_5 : decode cX1_bowlsNeeded 5 = .ok (.invokevirtual 98, 3) := by decide +kernel
theorem dX1_bowlsNeeded_8 : decode cX1_bowlsNeeded 8 = .ok (.ireturn, 1) := by decide +kernel
set_option maxRecDepth 20000 in
theorem ggX1_meanFever_X0_count : GoodIn wsX1_meanFever wsX0_count := goodIn_r _ [7, 8, 9, 22, 23, 24, 25, 26, 27, 28, 29, 30, 31, 32, 33, 34, 35, 36, 37] (by decide +kernel) (by decide +kernel)
set_option maxRecDepth 20000 in
theorem gX1_meanFever_X0_count : GoodIn wsX1_meanFever (wsV RX1 98 RX0 yX0_count wsX0_count) := goodIn_app (goodIn_of _ (by decide +kernel)) ggX1_meanFever_X0_count
set_option maxRecDepth 20000 in
theorem ggX1_meanFever_X0_feversInWard : GoodIn wsX1_meanFever wsX0_feversInWard := goodIn_r _ [13, 8, 14, 15, 16, 17, 6, 18, 9, 19, 22, 23, 24, 25, 26, 27, 28, 29, 30, 31, 32, 33, 34, 35, 36, 37] (by decide +kernel) (by decide +kernel)
set_option maxRecDepth 20000 in
theorem gX1_meanFever_X0_feversInWard : GoodIn wsX1_meanFever (wsV RX1 119 RX0 yX0_feversInWard wsX0_feversInWard) := goodIn_app (goodIn_of _ (by decide +kernel)) ggX1_meanFever_X0_feversInWard
theorem dX1_meanFever_0 : decode cX1_meanFever 0 = .ok (.aload_n 0, 1) := by decide +kernel
theorem dX1_meanFever_1 : decode cX1_meanFever 1 = .ok (.getfield 10, 3) := by decide +kernel
theorem dX1_meanFever_4 : decode cX1_meanFever 4 = .ok (.iconst 1, 1) := by decide +kernel
theorem dX1_meanFever_5 : decode cX1_meanFever 5 = .ok (.invokevirtual 98, 3) := by decide +kernel
theorem dX1_meanFever_8 : decode cX1_meanFever 8 = .ok (.istore_n 1, 1) := by decide +kernel
theorem dX1_meanFever_9 : decode cX1_meanFever 9 = .ok (.iload_n 1, 1) := by decide +kernel
theorem dX1_meanFever_10 : decode cX1_meanFever 10 = .ok (.ifCond .ne 5, 3) := by decide +kernel
theorem dX1_meanFever_13 : decode cX1_meanFever 13 = .ok (.dconst 0, 1) := by decide +kernel
theorem dX1_meanFever_14 : decode cX1_meanFever 14 = .ok (.dreturn, 1) := by decide +kernel
theorem dX1_meanFever_15 : decode cX1_meanFever 15 = .ok (.iconst 0, 1) := by decide +kernel
theorem dX1_meanFever_16 : decode cX1_meanFever 16 = .ok (.istore_n 2, 1) := by decide +kernel
theorem dX1_meanFever_17 : decode cX1_meanFever 17 = .ok (.iconst 0, 1) := by decide +kernel
theorem dX1_meanFever_18 : decode cX1_meanFever 18 = .ok (.istore_n 3, 1) := by decide +kernel
theorem dX1_meanFever_19 : decode cX1_meanFever 19 = .ok (.iload_n 3, 1) := by decide +kernel
theorem dX1_meanFever_20 : decode cX1_meanFever 20 = .ok (.aload_n 0, 1) := by decide +kernel
theorem dX1_meanFever_21 : decode cX1_meanFever 21 = .ok (.getfield 10, 3) := by decide +kernel
theorem dX1_meanFever_24 : decode cX1_meanFever 24 = .ok (.getfield 26, 3) := by decide +kernel
theorem dX1_meanFever_27 : decode cX1_meanFever 27 = .ok (.if_icmp .ge 20, 3) := by decide +kernel
theorem dX1_meanFever_30 : decode cX1_meanFever 30 = .ok (.iload_n 2, 1) := by decide +kernel
theorem dX1_meanFever_31 : decode cX1_meanFever 31 = .ok (.aload_n 0, 1) := by decide +kernel
theorem dX1_meanFever_32 : decode cX1_meanFever 32 = .ok (.getfield 10, 3) := by decide +kernel
theorem dX1_meanFever_35 : decode cX1_meanFever 35 = .ok (.iload_n 3, 1) := by decide +kernel
theorem dX1_meanFever_36 : decode cX1_meanFever 36 = .ok (.invokevirtual 119, 3) := by decide +kernel
theorem dX1_meanFever_39 : decode cX1_meanFever 39 = .ok (.iadd, 1) := by decide +kernel
theorem dX1_meanFever_40 : decode cX1_meanFever 40 = .ok (.istore_n 2, 1) := by decide +kernel
theorem dX1_meanFever_41 : decode cX1_meanFever 41 = .ok (.iinc 3 1, 3) := by decide +kernel
theorem dX1_meanFever_44 : decode cX1_meanFever 44 = .ok (.goto (-25), 3) := by decide +kernel
theorem dX1_meanFever_47 : decode cX1_meanFever 47 = .ok (.iload_n 2, 1) := by decide +kernel
theorem dX1_meanFever_48 : decode cX1_meanFever 48 = .ok (.i2d, 1) := by decide +kernel
theorem dX1_meanFever_49 : decode cX1_meanFever 49 = .ok (.iload_n 1, 1) := by decide +kernel
theorem dX1_meanFever_50 : decode cX1_meanFever 50 = .ok (.i2d, 1) := by decide +kernel
theorem dX1_meanFever_51 : decode cX1_meanFever 51 = .ok (.ddiv, 1) := by decide +kernel
theorem dX1_meanFever_52 : decode cX1_meanFever 52 = .ok (.dreturn, 1) := by decide +kernel
set_option maxRecDepth 20000 in
theorem ggX1_digest_X1_digestWith : GoodIn wsX1_digest wsX1_digestWith := goodIn_r _ [12, 13] (by decide +kernel) (by decide +kernel)
set_option maxRecDepth 20000 in
theorem gX1_digest_X1_digestWith : GoodIn wsX1_digest (va_wsS RX1 154 yX1_digestWith wsX1_digestWith) := goodIn_app (goodIn_of _ (by decide +kernel)) ggX1_digest_X1_digestWith
set_option maxRecDepth 20000 in
theorem ggX1_digest_X1_digestWithWards : GoodIn wsX1_digest wsX1_digestWithWards := goodIn_r _ [17, 2, 4, 18, 19, 9, 10, 11, 12, 13, 20, 21, 22, 23, 24, 25, 26, 27, 28, 29, 30, 31, 32, 33, 34, 35, 36, 54, 55, 56, 57, 58, 59, 60, 61, 62, 63, 64, 65, 66, 67, 68, 69, 70, 71] (by decide +kernel) (by decide +kernel)
set_option maxRecDepth 20000 in
theorem gX1_digest_X1_digestWithWards : GoodIn wsX1_digest (wsV RX1 158 RX1 yX1_digestWithWards wsX1_digestWithWards) := goodIn_app (goodIn_of _ (by decide +kernel)) ggX1_digest_X1_digestWithWards
set_option maxRecDepth 20000 in
theorem ggX1_digest_X1_digestWithBarges : GoodIn wsX1_digest wsX1_digestWithBarges := goodIn_r _ [40, 2, 5, 41, 42, 9, 10, 11, 12, 13, 20, 21, 22, 23, 24, 25, 26, 27, 28, 29, 30, 31, 54, 55, 56, 57, 58, 59, 60, 61, 62, 63, 64, 65, 66, 67, 68, 69, 70, 71] (by decide +kernel) (by decide +kernel)
set_option maxRecDepth 20000 in
theorem gX1_digest_X1_digestWithBarges : GoodIn wsX1_digest (wsV RX1 162 RX1 yX1_digestWithBarges wsX1_digestWithBarges) := goodIn_app (goodIn_of _ (by decide +kernel)) ggX1_digest_X1_digestWithBarges
set_option maxRecDepth 20000 in
theorem ggX1_digest_X1_digestWithPeople : GoodIn wsX1_digest wsX1_digestWithPeople := goodIn_r _ [46, 2, 6, 47, 48, 49, 9, 10, 11, 12, 13, 50, 51, 52, 23, 53, 30, 31, 54, 55, 56, 57, 58, 59, 60, 61, 62, 63, 64, 65, 66, 67, 68, 69, 70, 71] (by decide +kernel) (by decide +kernel)
set_option maxRecDepth 20000 in
theorem gX1_digest_X1_digestWithPeople : GoodIn wsX1_digest (wsV RX1 165 RX1 yX1_digestWithPeople wsX1_digestWithPeople) := goodIn_app (goodIn_of _ (by decide +kernel)) ggX1_digest_X1_digestWithPeople
theorem dX1_digest_0 : decode cX1_digest 0 = .ok (.ldc2_w 152, 3) := by decide +kernel
theorem dX1_digest_3 : decode cX1_digest 3 = .ok (.lstore_n 1, 1) := by decide +kernel
theorem dX1_digest_4 : decode cX1_digest 4 = .ok (.lload_n 1, 1) := by decide +kernel
theorem dX1_digest_5 : decode cX1_digest 5 = .ok (.aload_n 0, 1) := by decide +kernel
theorem dX1_digest_6 : decode cX1_digest 6 = .ok (.getfield 10, 3) := by decide +kernel
theorem dX1_digest_9 : decode cX1_digest 9 = .ok (.getfield 131, 3) := by decide +kernel
theorem dX1_digest_12 : decode cX1_digest 12 = .ok (.invokestatic 154, 3) := by decide +kernel
theorem dX1_digest_15 : decode cX1_digest 15 = .ok (.lstore_n 1, 1) := by decide +kernel
theorem dX1_digest_16 : decode cX1_digest 16 = .ok (.lload_n 1, 1) := by decide +kernel
theorem dX1_digest_17 : decode cX1_digest 17 = .ok (.aload_n 0, 1) := by decide +kernel
theorem dX1_digest_18 : decode cX1_digest 18 = .ok (.getfield 10, 3) := by decide +kernel
theorem dX1_digest_21 : decode cX1_digest 21 = .ok (.getfield 26, 3) := by decide +kernel
theorem dX1_digest_24 : decode cX1_digest 24 = .ok (.invokestatic 154, 3) := by decide +kernel
theorem dX1_digest_27 : decode cX1_digest 27 = .ok (.lstore_n 1, 1) := by decide +kernel
theorem dX1_digest_28 : decode cX1_digest 28 = .ok (.lload_n 1, 1) := by decide +kernel
theorem dX1_digest_29 : decode cX1_digest 29 = .ok (.aload_n 0, 1) := by decide +kernel
theorem dX1_digest_30 : decode cX1_digest 30 = .ok (.getfield 10, 3) := by decide +kernel
theorem dX1_digest_33 : decode cX1_digest 33 = .ok (.getfield 41, 3) := by decide +kernel
theorem dX1_digest_36 : decode cX1_digest 36 = .ok (.invokestatic 154, 3) := by decide +kernel
theorem dX1_digest_39 : decode cX1_digest 39 = .ok (.lstore_n 1, 1) := by decide +kernel
theorem dX1_digest_40 : decode cX1_digest 40 = .ok (.lload_n 1, 1) := by decide +kernel
theorem dX1_digest_41 : decode cX1_digest 41 = .ok (.aload_n 0, 1) := by decide +kernel
theorem dX1_digest_42 : decode cX1_digest 42 = .ok (.getfield 10, 3) := by decide +kernel
theorem dX1_digest_45 : decode cX1_digest 45 = .ok (.getfield 55, 3) := by decide +kernel
theorem dX1_digest_48 : decode cX1_digest 48 = .ok (.invokestatic 154, 3) := by decide +kernel
theorem dX1_digest_51 : decode cX1_digest 51 = .ok (.lstore_n 1, 1) := by decide +kernel
theorem dX1_digest_52 : decode cX1_digest 52 = .ok (.lload_n 1, 1) := by decide +kernel
theorem dX1_digest_53 : decode cX1_digest 53 = .ok (.aload_n 0, 1) := by decide +kernel
theorem dX1_digest_54 : decode cX1_digest 54 = .ok (.getfield 10, 3) := by decide +kernel
theorem dX1_digest_57 : decode cX1_digest 57 = .ok (.getfield 66, 3) := by decide +kernel
theorem dX1_digest_60 : decode cX1_digest 60 = .ok (.invokestatic 154, 3) := by decide +kernel
theorem dX1_digest_63 : decode cX1_digest 63 = .ok (.lstore_n 1, 1) := by decide +kernel
theorem dX1_digest_64 : decode cX1_digest 64 = .ok (.lload_n 1, 1) := by decide +kernel
theorem dX1_digest_65 : decode cX1_digest 65 = .ok (.aload_n 0, 1) := by decide +kernel
theorem dX1_digest_66 : decode cX1_digest 66 = .ok (.getfield 10, 3) := by decide +kernel
theorem dX1_digest_69 : decode cX1_digest 69 = .ok (.getfield 139, 3) := by decide +kernel
theorem dX1_digest_72 : decode cX1_digest 72 = .ok (.invokestatic 154, 3) := by decide +kernel
theorem dX1_digest_75 : decode cX1_digest 75 = .ok (.lstore_n 1, 1) := by decide +kernel
theorem dX1_digest_76 : decode cX1_digest 76 = .ok (.aload_n 0, 1) := by decide +kernel
theorem dX1_digest_77 : decode cX1_digest 77 = .ok (.lload_n 1, 1) := by decide +kernel
theorem dX1_digest_78 : decode cX1_digest 78 = .ok (.invokevirtual 158, 3) := by decide +kernel
theorem dX1_digest_81 : decode cX1_digest 81 = .ok (.lstore_n 1, 1) := by decide +kernel
theorem dX1_digest_82 : decode cX1_digest 82 = .ok (.aload_n 0, 1) := by decide +kernel
theorem dX1_digest_83 : decode cX1_digest 83 = .ok (.lload_n 1, 1) := by decide +kernel
theorem dX1_digest_84 : decode cX1_digest 84 = .ok (.invokevirtual 162, 3) := by decide +kernel
theorem dX1_digest_87 : decode cX1_digest 87 = .ok (.lstore_n 1, 1) := by decide +kernel
theorem dX1_digest_88 : decode cX1_digest 88 = .ok (.aload_n 0, 1) := by decide +kernel
theorem dX1_digest_89 : decode cX1_digest 89 = .ok (.lload_n 1, 1) := by decide +kernel
theorem dX1_digest_90 : decode cX1_digest 90 = .ok (.invokevirtual 165, 3) := by decide +kernel
theorem dX1_digest_93 : decode cX1_digest 93 = .ok (.lreturn, 1) := by decide +kernel
set_option maxRecDepth 20000 in
theorem ggX1_digestWithWards_X1_digestWith : GoodIn wsX1_digestWithWards wsX1_digestWith := goodIn_r _ [8, 9] (by decide +kernel) (by decide +kernel)
set_option maxRecDepth 20000 in
theorem gX1_digestWithWards_X1_digestWith : GoodIn wsX1_digestWithWards (va_wsS RX1 154 yX1_digestWith wsX1_digestWith) := goodIn_app (goodIn_of _ (by decide +kernel)) ggX1_digestWithWards_X1_digestWith
set_option maxRecDepth 20000 in
theorem ggX1_digestWithWards_X0_countAt : GoodIn wsX1_digestWithWards wsX0_countAt := goodIn_r _ [14, 15, 16, 17, 18, 13, 19, 20, 21, 29, 30, 31, 32, 33, 34, 35, 36, 37, 38, 39, 40, 41, 42, 43, 44] (by decide +kernel) (by decide +kernel)
set_option maxRecDepth 20000 in
theorem gX1_digestWithWards_X0_countAt : GoodIn wsX1_digestWithWards (wsV RX1 116 RX0 yX0_countAt wsX0_countAt) := goodIn_app (goodIn_of _ (by decide +kernel)) ggX1_digestWithWards_X0_countAt
set_option maxRecDepth 20000 in
theorem ggX1_digestWithWards_X0_feversInWard : GoodIn wsX1_digestWithWards wsX0_feversInWard := goodIn_r _ [25, 15, 26, 16, 17, 18, 13, 19, 20, 21, 29, 30, 31, 32, 33, 34, 35, 36, 37, 38, 39, 40, 41, 42, 43, 44] (by decide +kernel) (by decide +kernel)
set_option maxRecDepth 20000 in
theorem gX1_digestWithWards_X0_feversInWard : GoodIn wsX1_digestWithWards (wsV RX1 119 RX0 yX0_feversInWard wsX0_feversInWard) := goodIn_app (goodIn_of _ (by decide +kernel)) ggX1_digestWithWards_X0_feversInWard
theorem dX1_digestWithWards_0 : decode cX1_digestWithWards 0 = .ok (.lload_n 1, 1) := by decide +kernel
theorem dX1_digestWithWards_1 : decode cX1_digestWithWards 1 = .ok (.lstore_n 3, 1) := by decide +kernel
theorem dX1_digestWithWards_2 : decode cX1_digestWithWards 2 = .ok (.iconst 0, 1) := by decide +kernel
theorem dX1_digestWithWards_3 : decode cX1_digestWithWards 3 = .ok (.istore 5, 2) := by decide +kernel
theorem dX1_digestWithWards_5 : decode cX1_digestWithWards 5 = .ok (.iload 5, 2) := by decide +kernel
theorem dX1_digestWithWards_7 : decode cX1_digestWithWards 7 = .ok (.aload_n 0, 1) := by decide +kernel
theorem dX1_digestWithWards_8 : decode cX1_digestWithWards 8 = .ok (.getfield 10, 3) := by decide +kernel
theorem dX1_digestWithWards_11 : decode cX1_digestWithWards 11 = .ok (.getfield 26, 3) := by decide +kernel
theorem dX1_digestWithWards_14 : decode cX1_digestWithWards 14 = .ok (.if_icmp .ge 68, 3) := by decide +kernel
theorem dX1_digestWithWards_17 : decode cX1_digestWithWards 17 = .ok (.lload_n 3, 1) := by decide +kernel
theorem dX1_digestWithWards_18 : decode cX1_digestWithWards 18 = .ok (.aload_n 0, 1) := by decide +kernel
theorem dX1_digestWithWards_19 : decode cX1_digestWithWards 19 = .ok (.getfield 10, 3) := by decide +kernel
theorem dX1_digestWithWards_22 : decode cX1_digestWithWards 22 = .ok (.getfield 113, 3) := by decide +kernel
theorem dX1_digestWithWards_25 : decode cX1_digestWithWards 25 = .ok (.iload 5, 2) := by decide +kernel
theorem dX1_digestWithWards_27 : decode cX1_digestWithWards 27 = .ok (.iaload, 1) := by decide +kernel
theorem dX1_digestWithWards_28 : decode cX1_digestWithWards 28 = .ok (.invokestatic 154, 3) := by decide +kernel
theorem dX1_digestWithWards_31 : decode cX1_digestWithWards 31 = .ok (.lstore_n 3, 1) := by decide +kernel
theorem dX1_digestWithWards_32 : decode cX1_digestWithWards 32 = .ok (.lload_n 3, 1) := by decide +kernel
theorem dX1_digestWithWards_33 : decode cX1_digestWithWards 33 = .ok (.aload_n 0, 1) := by decide +kernel
theorem dX1_digestWithWards_34 : decode cX1_digestWithWards 34 = .ok (.getfield 10, 3) := by decide +kernel
theorem dX1_digestWithWards_37 : decode cX1_digestWithWards 37 = .ok (.iconst 1, 1) := by decide +kernel
theorem dX1_digestWithWards_38 : decode cX1_digestWithWards 38 = .ok (.iload 5, 2) := by decide +kernel
theorem dX1_digestWithWards_40 : decode cX1_digestWithWards 40 = .ok (.invokevirtual 116, 3) := by decide +kernel
theorem dX1_digestWithWards_43 : decode cX1_digestWithWards 43 = .ok (.invokestatic 154, 3) := by decide +kernel
theorem dX1_digestWithWards_46 : decode cX1_digestWithWards 46 = .ok (.lstore_n 3, 1) := by decide +kernel
theorem dX1_digestWithWards_47 : decode cX1_digestWithWards 47 = .ok (.lload_n 3, 1) := by decide +kernel
theorem dX1_digestWithWards_48 : decode cX1_digestWithWards 48 = .ok (.aload_n 0, 1) := by decide +kernel
theorem dX1_digestWithWards_49 : decode cX1_digestWithWards 49 = .ok (.getfield 10, 3) := by decide +kernel
theorem dX1_digestWithWards_52 : decode cX1_digestWithWards 52 = .ok (.getfield 72, 3) := by decide +kernel
theorem dX1_digestWithWards_55 : decode cX1_digestWithWards 55 = .ok (.iload 5, 2) := by decide +kernel
theorem dX1_digestWithWards_57 : decode cX1_digestWithWards 57 = .ok (.iaload, 1) := by decide +kernel
theorem dX1_digestWithWards_58 : decode cX1_digestWithWards 58 = .ok (.invokestatic 154, 3) := by decide +kernel
theorem dX1_digestWithWards_61 : decode cX1_digestWithWards 61 = .ok (.lstore_n 3, 1) := by decide +kernel
theorem dX1_digestWithWards_62 : decode cX1_digestWithWards 62 = .ok (.lload_n 3, 1) := by decide +kernel
theorem dX1_digestWithWards_63 : decode cX1_digestWithWards 63 = .ok (.aload_n 0, 1) := by decide +kernel
theorem dX1_digestWithWards_64 : decode cX1_digestWithWards 64 = .ok (.getfield 10, 3) := by decide +kernel
theorem dX1_digestWithWards_67 : decode cX1_digestWithWards 67 = .ok (.iload 5, 2) := by decide +kernel
theorem dX1_digestWithWards_69 : decode cX1_digestWithWards 69 = .ok (.invokevirtual 119, 3) := by decide +kernel
theorem dX1_digestWithWards_72 : decode cX1_digestWithWards 72 = .ok (.invokestatic 154, 3) := by decide +kernel
theorem dX1_digestWithWards_75 : decode cX1_digestWithWards 75 = .ok (.lstore_n 3, 1) := by decide +kernel
theorem dX1_digestWithWards_76 : decode cX1_digestWithWards 76 = .ok (.iinc 5 1, 3) := by decide +kernel
theorem dX1_digestWithWards_79 : decode cX1_digestWithWards 79 = .ok (.goto (-74), 3) := by decide +kernel
theorem dX1_digestWithWards_82 : decode cX1_digestWithWards 82 = .ok (.lload_n 3, 1) := by decide +kernel
theorem dX1_digestWithWards_83 : decode cX1_digestWithWards 83 = .ok (.lreturn, 1) := by decide +kernel
set_option maxRecDepth 20000 in
theorem ggX1_digestWithBarges_X1_digestWith : GoodIn wsX1_digestWithBarges wsX1_digestWith := goodIn_r _ [8, 9] (by decide +kernel) (by decide +kernel)
set_option maxRecDepth 20000 in
theorem gX1_digestWithBarges_X1_digestWith : GoodIn wsX1_digestWithBarges (va_wsS RX1 154 yX1_digestWith wsX1_digestWith) := goodIn_app (goodIn_of _ (by decide +kernel)) ggX1_digestWithBarges_X1_digestWith
set_option maxRecDepth 20000 in
theorem ggX1_digestWithBarges_X0_countAt : GoodIn wsX1_digestWithBarges wsX0_countAt := goodIn_r _ [14, 15, 16, 17, 18, 13, 19, 20, 21, 24, 25, 26, 27, 28, 29, 30, 31, 32, 33, 34, 35, 36, 37, 38, 39] (by decide +kernel) (by decide +kernel)
set_option maxRecDepth 20000 in
theorem gX1_digestWithBarges_X0_countAt : GoodIn wsX1_digestWithBarges (wsV RX1 116 RX0 yX0_countAt wsX0_countAt) := goodIn_app (goodIn_of _ (by decide +kernel)) ggX1_digestWithBarges_X0_countAt
theorem dX1_digestWithBarges_0 : decode cX1_digestWithBarges 0 = .ok (.lload_n 1, 1) := by decide +kernel
theorem dX1_digestWithBarges_1 : decode cX1_digestWithBarges 1 = .ok (.lstore_n 3, 1) := by decide +kernel
theorem dX1_digestWithBarges_2 : decode cX1_digestWithBarges 2 = .ok (.iconst 0, 1) := by decide +kernel
theorem dX1_digestWithBarges_3 : decode cX1_digestWithBarges 3 = .ok (.istore 5, 2) := by decide +kernel
theorem dX1_digestWithBarges_5 : decode cX1_digestWithBarges 5 = .ok (.iload 5, 2) := by decide +kernel
theorem dX1_digestWithBarges_7 : decode cX1_digestWithBarges 7 = .ok (.aload_n 0, 1) := by decide +kernel
theorem dX1_digestWithBarges_8 : decode cX1_digestWithBarges 8 = .ok (.getfield 10, 3) := by decide +kernel
theorem dX1_digestWithBarges_11 : decode cX1_digestWithBarges 11 = .ok (.getfield 41, 3) := by decide +kernel
theorem dX1_digestWithBarges_14 : decode cX1_digestWithBarges 14 = .ok (.if_icmp .ge 54, 3) := by decide +kernel
theorem dX1_digestWithBarges_17 : decode cX1_digestWithBarges 17 = .ok (.lload_n 3, 1) := by decide +kernel
theorem dX1_digestWithBarges_18 : decode cX1_digestWithBarges 18 = .ok (.aload_n 0, 1) := by decide +kernel
theorem dX1_digestWithBarges_19 : decode cX1_digestWithBarges 19 = .ok (.getfield 10, 3) := by decide +kernel
theorem dX1_digestWithBarges_22 : decode cX1_digestWithBarges 22 = .ok (.getfield 122, 3) := by decide +kernel
theorem dX1_digestWithBarges_25 : decode cX1_digestWithBarges 25 = .ok (.iload 5, 2) := by decide +kernel
theorem dX1_digestWithBarges_27 : decode cX1_digestWithBarges 27 = .ok (.iaload, 1) := by decide +kernel
theorem dX1_digestWithBarges_28 : decode cX1_digestWithBarges 28 = .ok (.invokestatic 154, 3) := by decide +kernel
theorem dX1_digestWithBarges_31 : decode cX1_digestWithBarges 31 = .ok (.lstore_n 3, 1) := by decide +kernel
theorem dX1_digestWithBarges_32 : decode cX1_digestWithBarges 32 = .ok (.lload_n 3, 1) := by decide +kernel
theorem dX1_digestWithBarges_33 : decode cX1_digestWithBarges 33 = .ok (.aload_n 0, 1) := by decide +kernel
theorem dX1_digestWithBarges_34 : decode cX1_digestWithBarges 34 = .ok (.getfield 10, 3) := by decide +kernel
theorem dX1_digestWithBarges_37 : decode cX1_digestWithBarges 37 = .ok (.getfield 125, 3) := by decide +kernel
theorem dX1_digestWithBarges_40 : decode cX1_digestWithBarges 40 = .ok (.iload 5, 2) := by decide +kernel
theorem dX1_digestWithBarges_42 : decode cX1_digestWithBarges 42 = .ok (.iaload, 1) := by decide +kernel
theorem dX1_digestWithBarges_43 : decode cX1_digestWithBarges 43 = .ok (.invokestatic 154, 3) := by decide +kernel
theorem dX1_digestWithBarges_46 : decode cX1_digestWithBarges 46 = .ok (.lstore_n 3, 1) := by decide +kernel
theorem dX1_digestWithBarges_47 : decode cX1_digestWithBarges 47 = .ok (.lload_n 3, 1) := by decide +kernel
theorem dX1_digestWithBarges_48 : decode cX1_digestWithBarges 48 = .ok (.aload_n 0, 1) := by decide +kernel
theorem dX1_digestWithBarges_49 : decode cX1_digestWithBarges 49 = .ok (.getfield 10, 3) := by decide +kernel
theorem dX1_digestWithBarges_52 : decode cX1_digestWithBarges 52 = .ok (.iconst 0, 1) := by decide +kernel
theorem dX1_digestWithBarges_53 : decode cX1_digestWithBarges 53 = .ok (.iload 5, 2) := by decide +kernel
theorem dX1_digestWithBarges_55 : decode cX1_digestWithBarges 55 = .ok (.invokevirtual 116, 3) := by decide +kernel
theorem dX1_digestWithBarges_58 : decode cX1_digestWithBarges 58 = .ok (.invokestatic 154, 3) := by decide +kernel
theorem dX1_digestWithBarges_61 : decode cX1_digestWithBarges 61 = .ok (.lstore_n 3, 1) := by decide +kernel
theorem dX1_digestWithBarges_62 : decode cX1_digestWithBarges 62 = .ok (.iinc 5 1, 3) := by decide +kernel
theorem dX1_digestWithBarges_65 : decode cX1_digestWithBarges 65 = .ok (.goto (-60), 3) := by decide +kernel
theorem dX1_digestWithBarges_68 : decode cX1_digestWithBarges 68 = .ok (.lload_n 3, 1) := by decide +kernel
theorem dX1_digestWithBarges_69 : decode cX1_digestWithBarges 69 = .ok (.lreturn, 1) := by decide +kernel
set_option maxRecDepth 20000 in
theorem ggX1_digestWithPeople_X1_digestWith : GoodIn wsX1_digestWithPeople wsX1_digestWith := goodIn_r _ [9, 10] (by decide +kernel) (by decide +kernel)
set_option maxRecDepth 20000 in
theorem gX1_digestWithPeople_X1_digestWith : GoodIn wsX1_digestWithPeople (va_wsS RX1 154 yX1_digestWith wsX1_digestWith) := goodIn_app (goodIn_of _ (by decide +kernel)) ggX1_digestWithPeople_X1_digestWith
set_option maxRecDepth 20000 in
theorem ggX1_digestWithPeople_X0_numberOf : GoodIn wsX1_digestWithPeople wsX0_numberOf := goodIn_r _ [15, 16, 17, 20, 21, 22, 23, 24, 25, 26, 27, 28, 29, 30, 31, 32, 33, 34, 35] (by decide +kernel) (by decide +kernel)
set_option maxRecDepth 20000 in
theorem gX1_digestWithPeople_X0_numberOf : GoodIn wsX1_digestWithPeople (wsV RX1 79 RX0 yX0_numberOf wsX0_numberOf) := goodIn_app (goodIn_of _ (by decide +kernel)) ggX1_digestWithPeople_X0_numberOf
theorem dX1_digestWithPeople_0 : decode cX1_digestWithPeople 0 = .ok (.lload_n 1, 1) := by decide +kernel
theorem dX1_digestWithPeople_1 : decode cX1_digestWithPeople 1 = .ok (.lstore_n 3, 1) := by decide +kernel
theorem dX1_digestWithPeople_2 : decode cX1_digestWithPeople 2 = .ok (.iconst 0, 1) := by decide +kernel
theorem dX1_digestWithPeople_3 : decode cX1_digestWithPeople 3 = .ok (.istore 5, 2) := by decide +kernel
theorem dX1_digestWithPeople_5 : decode cX1_digestWithPeople 5 = .ok (.iload 5, 2) := by decide +kernel
theorem dX1_digestWithPeople_7 : decode cX1_digestWithPeople 7 = .ok (.aload_n 0, 1) := by decide +kernel
theorem dX1_digestWithPeople_8 : decode cX1_digestWithPeople 8 = .ok (.getfield 10, 3) := by decide +kernel
theorem dX1_digestWithPeople_11 : decode cX1_digestWithPeople 11 = .ok (.getfield 55, 3) := by decide +kernel
theorem dX1_digestWithPeople_14 : decode cX1_digestWithPeople 14 = .ok (.if_icmp .ge 117, 3) := by decide +kernel
theorem dX1_digestWithPeople_17 : decode cX1_digestWithPeople 17 = .ok (.lload_n 3, 1) := by decide +kernel
theorem dX1_digestWithPeople_18 : decode cX1_digestWithPeople 18 = .ok (.aload_n 0, 1) := by decide +kernel
theorem dX1_digestWithPeople_19 : decode cX1_digestWithPeople 19 = .ok (.getfield 10, 3) := by decide +kernel
theorem dX1_digestWithPeople_22 : decode cX1_digestWithPeople 22 = .ok (.getfield 104, 3) := by decide +kernel
theorem dX1_digestWithPeople_25 : decode cX1_digestWithPeople 25 = .ok (.iload 5, 2) := by decide +kernel
theorem dX1_digestWithPeople_27 : decode cX1_digestWithPeople 27 = .ok (.iaload, 1) := by decide +kernel
theorem dX1_digestWithPeople_28 : decode cX1_digestWithPeople 28 = .ok (.invokestatic 154, 3) := by decide +kernel
theorem dX1_digestWithPeople_31 : decode cX1_digestWithPeople 31 = .ok (.lstore_n 3, 1) := by decide +kernel
theorem dX1_digestWithPeople_32 : decode cX1_digestWithPeople 32 = .ok (.lload_n 3, 1) := by decide +kernel
theorem dX1_digestWithPeople_33 : decode cX1_digestWithPeople 33 = .ok (.aload_n 0, 1) := by decide +kernel
theorem dX1_digestWithPeople_34 : decode cX1_digestWithPeople 34 = .ok (.getfield 10, 3) := by decide +kernel
theorem dX1_digestWithPeople_37 : decode cX1_digestWithPeople 37 = .ok (.iload 5, 2) := by decide +kernel
theorem dX1_digestWithPeople_39 : decode cX1_digestWithPeople 39 = .ok (.iconst 1, 1) := by decide +kernel
theorem dX1_digestWithPeople_40 : decode cX1_digestWithPeople 40 = .ok (.invokevirtual 79, 3) := by decide +kernel
theorem dX1_digestWithPeople_43 : decode cX1_digestWithPeople 43 = .ok (.invokestatic 154, 3) := by decide +kernel
theorem dX1_digestWithPeople_46 : decode cX1_digestWithPeople 46 = .ok (.lstore_n 3, 1) := by decide +kernel
theorem dX1_digestWithPeople_47 : decode cX1_digestWithPeople 47 = .ok (.lload_n 3, 1) := by decide +kernel
theorem dX1_digestWithPeople_48 : decode cX1_digestWithPeople 48 = .ok (.aload_n 0, 1) := by decide +kernel
theorem dX1_digestWithPeople_49 : decode cX1_digestWithPeople 49 = .ok (.getfield 10, 3) := by decide +kernel
theorem dX1_digestWithPeople_52 : decode cX1_digestWithPeople 52 = .ok (.iload 5, 2) := by decide +kernel
theorem dX1_digestWithPeople_54 : decode cX1_digestWithPeople 54 = .ok (.iconst 0, 1) := by decide +kernel
theorem dX1_digestWithPeople_55 : decode cX1_digestWithPeople 55 = .ok (.invokevirtual 79, 3) := by decide +kernel
theorem dX1_digestWithPeople_58 : decode cX1_digestWithPeople 58 = .ok (.invokestatic 154, 3) := by decide +kernel
theorem dX1_digestWithPeople_61 : decode cX1_digestWithPeople 61 = .ok (.lstore_n 3, 1) := by decide +kernel
theorem dX1_digestWithPeople_62 : decode cX1_digestWithPeople 62 = .ok (.lload_n 3, 1) := by decide +kernel
theorem dX1_digestWithPeople_63 : decode cX1_digestWithPeople 63 = .ok (.aload_n 0, 1) := by decide +kernel
theorem dX1_digestWithPeople_64 : decode cX1_digestWithPeople 64 = .ok (.getfield 10, 3) := by decide +kernel
theorem dX1_digestWithPeople_67 : decode cX1_digestWithPeople 67 = .ok (.getfield 107, 3) := by decide +kernel
theorem dX1_digestWithPeople_70 : decode cX1_digestWithPeople 70 = .ok (.iload 5, 2) := by decide +kernel
theorem dX1_digestWithPeople_72 : decode cX1_digestWithPeople 72 = .ok (.iaload, 1) := by decide +kernel
theorem dX1_digestWithPeople_73 : decode cX1_digestWithPeople 73 = .ok (.iconst 2, 1) := by decide +kernel
theorem dX1_digestWithPeople_74 : decode cX1_digestWithPeople 74 = .ok (.if_icmp .ne 7, 3) := by decide +kernel
theorem dX1_digestWithPeople_77 : decode cX1_digestWithPeople 77 = .ok (.iconst 1, 1) := by decide +kernel
theorem dX1_digestWithPeople_78 : decode cX1_digestWithPeople 78 = .ok (.goto 4, 3) := by decide +kernel
theorem dX1_digestWithPeople_81 : decode cX1_digestWithPeople 81 = .ok (.iconst 0, 1) := by decide +kernel
theorem dX1_digestWithPeople_82 : decode cX1_digestWithPeople 82 = .ok (.invokestatic 154, 3) := by decide +kernel
theorem dX1_digestWithPeople_85 : decode cX1_digestWithPeople 85 = .ok (.lstore_n 3, 1) := by decide +kernel
theorem dX1_digestWithPeople_86 : decode cX1_digestWithPeople 86 = .ok (.lload_n 3, 1) := by decide +kernel
theorem dX1_digestWithPeople_87 : decode cX1_digestWithPeople 87 = .ok (.aload_n 0, 1) := by decide +kernel
theorem dX1_digestWithPeople_88 : decode cX1_digestWithPeople 88 = .ok (.getfield 10, 3) := by decide +kernel
theorem dX1_digestWithPeople_91 : decode cX1_digestWithPeople 91 = .ok (.getfield 107, 3) := by decide +kernel
theorem dX1_digestWithPeople_94 : decode cX1_digestWithPeople 94 = .ok (.iload 5, 2) := by decide +kernel
theorem dX1_digestWithPeople_96 : decode cX1_digestWithPeople 96 = .ok (.iaload, 1) := by decide +kernel
theorem dX1_digestWithPeople_97 : decode cX1_digestWithPeople 97 = .ok (.iconst 3, 1) := by decide +kernel
theorem dX1_digestWithPeople_98 : decode cX1_digestWithPeople 98 = .ok (.if_icmp .ne 7, 3) := by decide +kernel
theorem dX1_digestWithPeople_101 : decode cX1_digestWithPeople 101 = .ok (.iconst 1, 1) := by decide +kernel
theorem dX1_digestWithPeople_102 : decode cX1_digestWithPeople 102 = .ok (.goto 4, 3) := by decide +kernel
theorem dX1_digestWithPeople_105 : decode cX1_digestWithPeople 105 = .ok (.iconst 0, 1) := by decide +kernel
theorem dX1_digestWithPeople_106 : decode cX1_digestWithPeople 106 = .ok (.invokestatic 154, 3) := by decide +kernel
theorem dX1_digestWithPeople_109 : decode cX1_digestWithPeople 109 = .ok (.lstore_n 3, 1) := by decide +kernel
theorem dX1_digestWithPeople_110 : decode cX1_digestWithPeople 110 = .ok (.lload_n 3, 1) := by decide +kernel
theorem dX1_digestWithPeople_111 : decode cX1_digestWithPeople 111 = .ok (.aload_n 0, 1) := by decide +kernel
theorem dX1_digestWithPeople_112 : decode cX1_digestWithPeople 112 = .ok (.getfield 10, 3) := by decide +kernel
theorem dX1_digestWithPeople_115 : decode cX1_digestWithPeople 115 = .ok (.getfield 110, 3) := by decide +kernel
theorem dX1_digestWithPeople_118 : decode cX1_digestWithPeople 118 = .ok (.iload 5, 2) := by decide +kernel
theorem dX1_digestWithPeople_120 : decode cX1_digestWithPeople 120 = .ok (.iaload, 1) := by decide +kernel
theorem dX1_digestWithPeople_121 : decode cX1_digestWithPeople 121 = .ok (.invokestatic 154, 3) := by decide +kernel
theorem dX1_digestWithPeople_124 : decode cX1_digestWithPeople 124 = .ok (.lstore_n 3, 1) := by decide +kernel
theorem dX1_digestWithPeople_125 : decode cX1_digestWithPeople 125 = .ok (.iinc 5 1, 3) := by decide +kernel
theorem dX1_digestWithPeople_128 : decode cX1_digestWithPeople 128 = .ok (.goto (-123), 3) := by decide +kernel
theorem dX1_digestWithPeople_131 : decode cX1_digestWithPeople 131 = .ok (.lload_n 3, 1) := by decide +kernel
theorem dX1_digestWithPeople_132 : decode cX1_digestWithPeople 132 = .ok (.lreturn, 1) := by decide +kernel
theorem dX1_digestWith_0 : decode cX1_digestWith 0 = .ok (.lload_n 0, 1) := by decide +kernel
theorem dX1_digestWith_1 : decode cX1_digestWith 1 = .ok (.ldc2_w 168, 3) := by decide +kernel
theorem dX1_digestWith_4 : decode cX1_digestWith 4 = .ok (.lmul, 1) := by decide +kernel
theorem dX1_digestWith_5 : decode cX1_digestWith 5 = .ok (.iload_n 2, 1) := by decide +kernel
theorem dX1_digestWith_6 : decode cX1_digestWith 6 = .ok (.i2l, 1) := by decide +kernel
theorem dX1_digestWith_7 : decode cX1_digestWith 7 = .ok (.ladd, 1) := by decide +kernel
theorem dX1_digestWith_8 : decode cX1_digestWith 8 = .ok (.lreturn, 1) := by decide +kernel
set_option maxRecDepth 20000 in
theorem ggX1_countBehind_X0_copyFrom : GoodIn wsX1_countBehind wsX0_copyFrom := goodIn_r _ [7, 8, 9, 10, 11, 12, 13, 14, 15, 16, 17, 18, 19, 20, 21, 22, 23, 24, 25, 105, 106, 107, 108, 109, 110, 111, 112, 113, 114, 115, 116, 117, 118, 119, 120] (by decide +kernel) (by decide +kernel)
set_option maxRecDepth 20000 in
theorem gX1_countBehind_X0_copyFrom : GoodIn wsX1_countBehind (wsV RX1 142 RX0 yX0_copyFrom wsX0_copyFrom) := goodIn_app (goodIn_of _ (by decide +kernel)) ggX1_countBehind_X0_copyFrom
set_option maxRecDepth 20000 in
theorem ggX1_countBehind_X0_liveDays : GoodIn wsX1_countBehind wsX0_liveDays := goodIn_r _ [29, 8, 30, 31, 32, 6, 33, 9, 11, 13, 34, 25, 10, 35, 36, 37, 38, 23, 24, 39, 40, 41, 42, 19, 22, 43, 44, 45, 46, 47, 48, 49, 50, 51, 52, 53, 54, 55, 56, 57, 12, 21, 58, 59, 60, 61, 62, 63, 64, 65, 66, 67, 68, 69, 70, 71, 72, 73, 74, 75, 76, 77, 78, 79, 80, 81, 82, 20, 83, 84, 85, 86, 14, 87, 88, 89, 90, 91, 92, 93, 94, 95, 96, 97, 98, 105, 106, 107, 108, 109, 110, 111, 112, 113, 114, 115, 116, 117, 118, 119, 120] (by decide +kernel) (by decide +kernel)
set_option maxRecDepth 20000 in
theorem gX1_countBehind_X0_liveDays : GoodIn wsX1_countBehind (wsV RX1 101 RX0 yX0_liveDays wsX0_liveDays) := goodIn_app (goodIn_of _ (by decide +kernel)) ggX1_countBehind_X0_liveDays
set_option maxRecDepth 20000 in
theorem ggX1_countBehind_X0_count : GoodIn wsX1_countBehind wsX0_count := goodIn_r _ [102, 13, 23, 105, 106, 107, 108, 109, 110, 111, 112, 113, 114, 115, 116, 117, 118, 119, 120] (by decide +kernel) (by decide +kernel)
set_option maxRecDepth 20000 in
theorem gX1_countBehind_X0_count : GoodIn wsX1_countBehind (wsV RX1 98 RX0 yX0_count wsX0_count) := goodIn_app (goodIn_of _ (by decide +kernel)) ggX1_countBehind_X0_count
theorem dX1_countBehind_0 : decode cX1_countBehind 0 = .ok (.aload_n 0, 1) := by decide +kernel
theorem dX1_countBehind_1 : decode cX1_countBehind 1 = .ok (.getfield 16, 3) := by decide +kernel
theorem dX1_countBehind_4 : decode cX1_countBehind 4 = .ok (.aload_n 0, 1) := by decide +kernel
theorem dX1_countBehind_5 : decode cX1_countBehind 5 = .ok (.getfield 10, 3) := by decide +kernel
theorem dX1_countBehind_8 : decode cX1_countBehind 8 = .ok (.invokevirtual 142, 3) := by decide +kernel
theorem dX1_countBehind_11 : decode cX1_countBehind 11 = .ok (.aload_n 0, 1) := by decide +kernel
theorem dX1_countBehind_12 : decode cX1_countBehind 12 = .ok (.getfield 16, 3) := by decide +kernel
theorem dX1_countBehind_15 : decode cX1_countBehind 15 = .ok (.iload_n 1, 1) := by decide +kernel
theorem dX1_countBehind_16 : decode cX1_countBehind 16 = .ok (.invokevirtual 101, 3) := by decide +kernel
theorem dX1_countBehind_19 : decode cX1_countBehind 19 = .ok (.aload_n 0, 1) := by decide +kernel
theorem dX1_countBehind_20 : decode cX1_countBehind 20 = .ok (.getfield 16, 3) := by decide +kernel
theorem dX1_countBehind_23 : decode cX1_countBehind 23 = .ok (.iload_n 2, 1) := by decide +kernel
theorem dX1_countBehind_24 : decode cX1_countBehind 24 = .ok (.invokevirtual 98, 3) := by decide +kernel
theorem dX1_countBehind_27 : decode cX1_countBehind 27 = .ok (.ireturn, 1) := by decide +kernel
theorem dX1_checkWard_0 : decode cX1_checkWard 0 = .ok (.iload_n 1, 1) := by decide +kernel
theorem dX1_checkWard_1 : decode cX1_checkWard 1 = .ok (.ifCond .lt 14, 3) := by decide +kernel
theorem dX1_checkWard_4 : decode cX1_checkWard 4 = .ok (.iload_n 1, 1) := by decide +kernel
theorem dX1_checkWard_5 : decode cX1_checkWard 5 = .ok (.aload_n 0, 1) := by decide +kernel
theorem dX1_checkWard_6 : decode cX1_checkWard 6 = .ok (.getfield 10, 3) := by decide +kernel
theorem dX1_checkWard_9 : decode cX1_checkWard 9 = .ok (.getfield 26, 3) := by decide +kernel
theorem dX1_checkWard_12 : decode cX1_checkWard 12 = .ok (.if_icmp .lt 13, 3) := by decide +kernel
theorem dX1_checkWard_15 : decode cX1_checkWard 15 = .ok (.new 170, 3) := by decide +kernel
theorem dX1_checkWard_18 : decode cX1_checkWard 18 = .ok (.dup, 1) := by decide +kernel
theorem dX1_checkWard_19 : decode cX1_checkWard 19 = .ok (.ldc 172, 2) := by decide +kernel
theorem dX1_checkWard_21 : decode cX1_checkWard 21 = .ok (.invokespecial 174, 3) := by decide +kernel
theorem dX1_checkWard_24 : decode cX1_checkWard 24 = .ok (.athrow, 1) := by decide +kernel
theorem dX1_checkWard_25 : decode cX1_checkWard 25 = .ok (.return_, 1) := by decide +kernel
theorem dX1_checkBarge_0 : decode cX1_checkBarge 0 = .ok (.iload_n 1, 1) := by decide +kernel
theorem dX1_checkBarge_1 : decode cX1_checkBarge 1 = .ok (.ifCond .lt 14, 3) := by decide +kernel
theorem dX1_checkBarge_4 : decode cX1_checkBarge 4 = .ok (.iload_n 1, 1) := by decide +kernel
theorem dX1_checkBarge_5 : decode cX1_checkBarge 5 = .ok (.aload_n 0, 1) := by decide +kernel
theorem dX1_checkBarge_6 : decode cX1_checkBarge 6 = .ok (.getfield 10, 3) := by decide +kernel
theorem dX1_checkBarge_9 : decode cX1_checkBarge 9 = .ok (.getfield 41, 3) := by decide +kernel
theorem dX1_checkBarge_12 : decode cX1_checkBarge 12 = .ok (.if_icmp .lt 13, 3) := by decide +kernel
theorem dX1_checkBarge_15 : decode cX1_checkBarge 15 = .ok (.new 170, 3) := by decide +kernel
theorem dX1_checkBarge_18 : decode cX1_checkBarge 18 = .ok (.dup, 1) := by decide +kernel
theorem dX1_checkBarge_19 : decode cX1_checkBarge 19 = .ok (.ldc 175, 2) := by decide +kernel
theorem dX1_checkBarge_21 : decode cX1_checkBarge 21 = .ok (.invokespecial 174, 3) := by decide +kernel
theorem dX1_checkBarge_24 : decode cX1_checkBarge 24 = .ok (.athrow, 1) := by decide +kernel
theorem dX1_checkBarge_25 : decode cX1_checkBarge 25 = .ok (.return_, 1) := by decide +kernel
theorem dX1_checkPerson_0 : decode cX1_checkPerson 0 = .ok (.iload_n 1, 1) := by decide +kernel
theorem dX1_checkPerson_1 : decode cX1_checkPerson 1 = .ok (.ifCond .lt 14, 3) := by decide +kernel
theorem dX1_checkPerson_4 : decode cX1_checkPerson 4 = .ok (.iload_n 1, 1) := by decide +kernel
theorem dX1_checkPerson_5 : decode cX1_checkPerson 5 = .ok (.aload_n 0, 1) := by decide +kernel
theorem dX1_checkPerson_6 : decode cX1_checkPerson 6 = .ok (.getfield 10, 3) := by decide +kernel
theorem dX1_checkPerson_9 : decode cX1_checkPerson 9 = .ok (.getfield 55, 3) := by decide +kernel
theorem dX1_checkPerson_12 : decode cX1_checkPerson 12 = .ok (.if_icmp .lt 13, 3) := by decide +kernel
theorem dX1_checkPerson_15 : decode cX1_checkPerson 15 = .ok (.new 170, 3) := by decide +kernel
theorem dX1_checkPerson_18 : decode cX1_checkPerson 18 = .ok (.dup, 1) := by decide +kernel
theorem dX1_checkPerson_19 : decode cX1_checkPerson 19 = .ok (.ldc 177, 2) := by decide +kernel
theorem dX1_checkPerson_21 : decode cX1_checkPerson 21 = .ok (.invokespecial 174, 3) := by decide +kernel
theorem dX1_checkPerson_24 : decode cX1_checkPerson 24 = .ok (.athrow, 1) := by decide +kernel
theorem dX1_checkPerson_25 : decode cX1_checkPerson 25 = .ok (.return_, 1) := by decide +kernel
theorem dX1_checkDays_0 : decode cX1_checkDays 0 = .ok (.iload_n 0, 1) := by decide +kernel
theorem dX1_checkDays_1 : decode cX1_checkDays 1 = .ok (.iconst 1, 1) := by decide +kernel
theorem dX1_checkDays_2 : decode cX1_checkDays 2 = .ok (.if_icmp .lt 9, 3) := by decide +kernel
theorem dX1_checkDays_5 : decode cX1_checkDays 5 = .ok (.iload_n 0, 1) := by decide +kernel
theorem dX1_checkDays_6 : decode cX1_checkDays 6 = .ok (.bipush 40, 2) := by decide +kernel
theorem dX1_checkDays_8 : decode cX1_checkDays 8 = .ok (.if_icmp .le 13, 3) := by decide +kernel
theorem dX1_checkDays_11 : decode cX1_checkDays 11 = .ok (.new 19, 3) := by decide +kernel
theorem dX1_checkDays_14 : decode cX1_checkDays 14 = .ok (.dup, 1) := by decide +kernel
theorem dX1_checkDays_15 : decode cX1_checkDays 15 = .ok (.ldc 179, 2) := by decide +kernel
theorem dX1_checkDays_17 : decode cX1_checkDays 17 = .ok (.invokespecial 23, 3) := by decide +kernel
theorem dX1_checkDays_20 : decode cX1_checkDays 20 = .ok (.athrow, 1) := by decide +kernel
theorem dX1_checkDays_21 : decode cX1_checkDays 21 = .ok (.return_, 1) := by decide +kernel
