set_option maxRecDepth 20000 in
theorem ggL_addWard_X1_addWard : GoodIn wsL_addWard wsX1_addWard := goodIn_ca (goodIn_ca (goodIn_r _ [7, 8, 9, 10, 11, 12, 13, 14, 15, 16, 17, 18, 19, 20, 21, 22, 23, 24, 25, 26, 27, 28, 29, 30, 31, 32, 33, 34, 35, 36, 37, 38] (by decide +kernel) (by decide +kernel)) (goodIn_sub (fun _ h => List.mem_cons_of_mem _ (List.mem_append_left _ (List.mem_append_right _ h))) (by decide +kernel))) (goodIn_sub (fun _ h => List.mem_cons_of_mem _ (List.mem_append_right _ h)) (by decide +kernel))
set_option maxRecDepth 20000 in
theorem gL_addWard_X1_addWard : GoodIn wsL_addWard (wsV RL 7 RX1 yX1_addWard wsX1_addWard) := goodIn_app (goodIn_of _ (by decide +kernel)) ggL_addWard_X1_addWard
theorem dL_addWard_0 : decode cL_addWard 0 = .ok (.aload_n 2, 1) := by decide +kernel
theorem dL_addWard_1 : decode cL_addWard 1 = .ok (.iconst 0, 1) := by decide +kernel
theorem dL_addWard_2 : decode cL_addWard 2 = .ok (.aload_n 0, 1) := by decide +kernel
theorem dL_addWard_3 : decode cL_addWard 3 = .ok (.iload_n 1, 1) := by decide +kernel
theorem dL_addWard_4 : decode cL_addWard 4 = .ok (.invokevirtual 7, 3) := by decide +kernel
theorem dL_addWard_7 : decode cL_addWard 7 = .ok (.i2l, 1) := by decide +kernel
theorem dL_addWard_8 : decode cL_addWard 8 = .ok (.lastore, 1) := by decide +kernel
theorem dL_addWard_9 : decode cL_addWard 9 = .ok (.goto 9, 3) := by decide +kernel
theorem dL_addWard_12 : decode cL_addWard 12 = .ok (.astore_n 3, 1) := by decide +kernel
theorem dL_addWard_13 : decode cL_addWard 13 = .ok (.iconst 1, 1) := by decide +kernel
theorem dL_addWard_14 : decode cL_addWard 14 = .ok (.ireturn, 1) := by decide +kernel
theorem dL_addWard_15 : decode cL_addWard 15 = .ok (.astore_n 3, 1) := by decide +kernel
theorem dL_addWard_16 : decode cL_addWard 16 = .ok (.iconst 2, 1) := by decide +kernel
theorem dL_addWard_17 : decode cL_addWard 17 = .ok (.ireturn, 1) := by decide +kernel
theorem dL_addWard_18 : decode cL_addWard 18 = .ok (.iconst 0, 1) := by decide +kernel
theorem dL_addWard_19 : decode cL_addWard 19 = .ok (.ireturn, 1) := by decide +kernel
set_option maxRecDepth 20000 in
theorem ggL_addBarge_X1_addBarge : GoodIn wsL_addBarge wsX1_addBarge := goodIn_ca (goodIn_ca (goodIn_r _ [7, 8, 9, 10, 11, 12, 13, 14, 15, 16, 17, 18, 19, 20, 21, 22, 23, 24, 25, 26, 27, 28, 29, 30, 31, 32, 33, 34, 35, 36, 37, 38, 39] (by decide +kernel) (by decide +kernel)) (goodIn_sub (fun _ h => List.mem_cons_of_mem _ (List.mem_append_left _ (List.mem_append_right _ h))) (by decide +kernel))) (goodIn_sub (fun _ h => List.mem_cons_of_mem _ (List.mem_append_right _ h)) (by decide +kernel))
set_option maxRecDepth 20000 in
theorem gL_addBarge_X1_addBarge : GoodIn wsL_addBarge (wsV RL 17 RX1 yX1_addBarge wsX1_addBarge) := goodIn_app (goodIn_of _ (by decide +kernel)) ggL_addBarge_X1_addBarge
theorem dL_addBarge_0 : decode cL_addBarge 0 = .ok (.aload_n 2, 1) := by decide +kernel
theorem dL_addBarge_1 : decode cL_addBarge 1 = .ok (.iconst 0, 1) := by decide +kernel
theorem dL_addBarge_2 : decode cL_addBarge 2 = .ok (.aload_n 0, 1) := by decide +kernel
theorem dL_addBarge_3 : decode cL_addBarge 3 = .ok (.iload_n 1, 1) := by decide +kernel
theorem dL_addBarge_4 : decode cL_addBarge 4 = .ok (.invokevirtual 17, 3) := by decide +kernel
theorem dL_addBarge_7 : decode cL_addBarge 7 = .ok (.i2l, 1) := by decide +kernel
theorem dL_addBarge_8 : decode cL_addBarge 8 = .ok (.lastore, 1) := by decide +kernel
theorem dL_addBarge_9 : decode cL_addBarge 9 = .ok (.goto 9, 3) := by decide +kernel
theorem dL_addBarge_12 : decode cL_addBarge 12 = .ok (.astore_n 3, 1) := by decide +kernel
theorem dL_addBarge_13 : decode cL_addBarge 13 = .ok (.iconst 1, 1) := by decide +kernel
theorem dL_addBarge_14 : decode cL_addBarge 14 = .ok (.ireturn, 1) := by decide +kernel
theorem dL_addBarge_15 : decode cL_addBarge 15 = .ok (.astore_n 3, 1) := by decide +kernel
theorem dL_addBarge_16 : decode cL_addBarge 16 = .ok (.iconst 2, 1) := by decide +kernel
theorem dL_addBarge_17 : decode cL_addBarge 17 = .ok (.ireturn, 1) := by decide +kernel
theorem dL_addBarge_18 : decode cL_addBarge 18 = .ok (.iconst 0, 1) := by decide +kernel
theorem dL_addBarge_19 : decode cL_addBarge 19 = .ok (.ireturn, 1) := by decide +kernel
set_option maxRecDepth 20000 in
theorem ggL_board_X1_board : GoodIn wsL_board wsX1_board := goodIn_ca (goodIn_ca (goodIn_ca (goodIn_r _ [8, 9, 10, 11, 12, 13, 14, 15, 16, 17, 7, 18, 19, 20, 21, 22, 23, 24, 25, 26, 27, 28, 29, 30, 31, 32, 33, 34, 35, 36, 37, 38, 39, 40, 41, 42, 43, 44, 45, 46, 47, 48, 49, 50, 51, 52, 53, 54] (by decide +kernel) (by decide +kernel)) (goodIn_sub (fun _ h => List.mem_cons_of_mem _ (List.mem_append_left _ (List.mem_append_left _ (List.mem_append_right _ h)))) (by decide +kernel))) (goodIn_sub (fun _ h => List.mem_cons_of_mem _ (List.mem_append_left _ (List.mem_append_right _ h))) (by decide +kernel))) (goodIn_sub (fun _ h => List.mem_cons_of_mem _ (List.mem_append_right _ h)) (by decide +kernel))
set_option maxRecDepth 20000 in
theorem gL_board_X1_board : GoodIn wsL_board (wsV RL 20 RX1 yX1_board wsX1_board) := goodIn_app (goodIn_of _ (by decide +kernel)) ggL_board_X1_board
theorem dL_board_0 : decode cL_board 0 = .ok (.aload_n 3, 1) := by decide +kernel
theorem dL_board_1 : decode cL_board 1 = .ok (.iconst 0, 1) := by decide +kernel
theorem dL_board_2 : decode cL_board 2 = .ok (.aload_n 0, 1) := by decide +kernel
theorem dL_board_3 : decode cL_board 3 = .ok (.iload_n 1, 1) := by decide +kernel
theorem dL_board_4 : decode cL_board 4 = .ok (.iload_n 2, 1) := by decide +kernel
theorem dL_board_5 : decode cL_board 5 = .ok (.invokevirtual 20, 3) := by decide +kernel
theorem dL_board_8 : decode cL_board 8 = .ok (.i2l, 1) := by decide +kernel
theorem dL_board_9 : decode cL_board 9 = .ok (.lastore, 1) := by decide +kernel
theorem dL_board_10 : decode cL_board 10 = .ok (.goto 15, 3) := by decide +kernel
theorem dL_board_13 : decode cL_board 13 = .ok (.astore 4, 2) := by decide +kernel
theorem dL_board_15 : decode cL_board 15 = .ok (.iconst 1, 1) := by decide +kernel
theorem dL_board_16 : decode cL_board 16 = .ok (.ireturn, 1) := by decide +kernel
theorem dL_board_17 : decode cL_board 17 = .ok (.astore 4, 2) := by decide +kernel
theorem dL_board_19 : decode cL_board 19 = .ok (.iconst 2, 1) := by decide +kernel
theorem dL_board_20 : decode cL_board 20 = .ok (.ireturn, 1) := by decide +kernel
theorem dL_board_21 : decode cL_board 21 = .ok (.astore 4, 2) := by decide +kernel
theorem dL_board_23 : decode cL_board 23 = .ok (.iconst 3, 1) := by decide +kernel
theorem dL_board_24 : decode cL_board 24 = .ok (.ireturn, 1) := by decide +kernel
theorem dL_board_25 : decode cL_board 25 = .ok (.iconst 0, 1) := by decide +kernel
theorem dL_board_26 : decode cL_board 26 = .ok (.ireturn, 1) := by decide +kernel
set_option maxRecDepth 20000 in
theorem ggL_setBowls_X1_setBowls : GoodIn wsL_setBowls wsX1_setBowls := goodIn_ca (goodIn_r _ [6, 7, 8, 9, 10, 11, 12, 13, 14, 15, 16, 17, 18, 19, 20, 21, 22, 23, 24, 25, 26, 27, 28] (by decide +kernel) (by decide +kernel)) (goodIn_sub (fun _ h => List.mem_cons_of_mem _ (List.mem_append_right _ h)) (by decide +kernel))
set_option maxRecDepth 20000 in
theorem gL_setBowls_X1_setBowls : GoodIn wsL_setBowls (wsV RL 26 RX1 yX1_setBowls wsX1_setBowls) := goodIn_app (goodIn_of _ (by decide +kernel)) ggL_setBowls_X1_setBowls
theorem dL_setBowls_0 : decode cL_setBowls 0 = .ok (.aload_n 2, 1) := by decide +kernel
theorem dL_setBowls_1 : decode cL_setBowls 1 = .ok (.iconst 0, 1) := by decide +kernel
theorem dL_setBowls_2 : decode cL_setBowls 2 = .ok (.aload_n 0, 1) := by decide +kernel
theorem dL_setBowls_3 : decode cL_setBowls 3 = .ok (.iload_n 1, 1) := by decide +kernel
theorem dL_setBowls_4 : decode cL_setBowls 4 = .ok (.invokevirtual 26, 3) := by decide +kernel
theorem dL_setBowls_7 : decode cL_setBowls 7 = .ok (.i2l, 1) := by decide +kernel
theorem dL_setBowls_8 : decode cL_setBowls 8 = .ok (.lastore, 1) := by decide +kernel
theorem dL_setBowls_9 : decode cL_setBowls 9 = .ok (.goto 6, 3) := by decide +kernel
theorem dL_setBowls_12 : decode cL_setBowls 12 = .ok (.astore_n 3, 1) := by decide +kernel
theorem dL_setBowls_13 : decode cL_setBowls 13 = .ok (.iconst 1, 1) := by decide +kernel
theorem dL_setBowls_14 : decode cL_setBowls 14 = .ok (.ireturn, 1) := by decide +kernel
theorem dL_setBowls_15 : decode cL_setBowls 15 = .ok (.iconst 0, 1) := by decide +kernel
theorem dL_setBowls_16 : decode cL_setBowls 16 = .ok (.ireturn, 1) := by decide +kernel
set_option maxRecDepth 20000 in
theorem ggL_layStraw_X1_layStraw : GoodIn wsL_layStraw wsX1_layStraw := goodIn_ca (goodIn_r _ [6, 7, 8, 9, 10, 11, 5, 12, 13, 14, 15, 16, 17, 18, 19, 20, 21, 22, 23, 24, 25, 26, 27, 28, 29, 30, 31, 32, 33] (by decide +kernel) (by decide +kernel)) (goodIn_sub (fun _ h => List.mem_cons_of_mem _ (List.mem_append_right _ h)) (by decide +kernel))
set_option maxRecDepth 20000 in
theorem gL_layStraw_X1_layStraw : GoodIn wsL_layStraw (wsV RL 29 RX1 yX1_layStraw wsX1_layStraw) := goodIn_app (goodIn_of _ (by decide +kernel)) ggL_layStraw_X1_layStraw
theorem dL_layStraw_0 : decode cL_layStraw 0 = .ok (.aload_n 2, 1) := by decide +kernel
theorem dL_layStraw_1 : decode cL_layStraw 1 = .ok (.iconst 0, 1) := by decide +kernel
theorem dL_layStraw_2 : decode cL_layStraw 2 = .ok (.aload_n 0, 1) := by decide +kernel
theorem dL_layStraw_3 : decode cL_layStraw 3 = .ok (.iload_n 1, 1) := by decide +kernel
theorem dL_layStraw_4 : decode cL_layStraw 4 = .ok (.invokevirtual 29, 3) := by decide +kernel
theorem dL_layStraw_7 : decode cL_layStraw 7 = .ok (.i2l, 1) := by decide +kernel
theorem dL_layStraw_8 : decode cL_layStraw 8 = .ok (.lastore, 1) := by decide +kernel
theorem dL_layStraw_9 : decode cL_layStraw 9 = .ok (.goto 6, 3) := by decide +kernel
theorem dL_layStraw_12 : decode cL_layStraw 12 = .ok (.astore_n 3, 1) := by decide +kernel
theorem dL_layStraw_13 : decode cL_layStraw 13 = .ok (.iconst 1, 1) := by decide +kernel
theorem dL_layStraw_14 : decode cL_layStraw 14 = .ok (.ireturn, 1) := by decide +kernel
theorem dL_layStraw_15 : decode cL_layStraw 15 = .ok (.iconst 0, 1) := by decide +kernel
theorem dL_layStraw_16 : decode cL_layStraw 16 = .ok (.ireturn, 1) := by decide +kernel
set_option maxRecDepth 20000 in
theorem ggL_carry_X1_carry : GoodIn wsL_carry wsX1_carry := goodIn_ca (goodIn_ca (goodIn_r _ [7, 8, 9, 10, 11, 12, 13, 6, 14, 15, 16, 17, 18, 19, 20, 21, 22, 23, 24, 25, 26, 27, 28, 29, 30, 31, 32, 33, 34, 35, 36, 37, 38, 39, 40, 41, 42, 43, 44, 45, 46, 47, 48, 49, 50, 51, 52, 53, 54, 55, 56, 57, 58, 59, 60, 61, 62, 63, 64, 65] (by decide +kernel) (by decide +kernel)) (goodIn_sub (fun _ h => List.mem_cons_of_mem _ (List.mem_append_left _ (List.mem_append_right _ h))) (by decide +kernel))) (goodIn_sub (fun _ h => List.mem_cons_of_mem _ (List.mem_append_right _ h)) (by decide +kernel))
set_option maxRecDepth 20000 in
theorem gL_carry_X1_carry : GoodIn wsL_carry (wsV RL 32 RX1 yX1_carry wsX1_carry) := goodIn_app (goodIn_of _ (by decide +kernel)) ggL_carry_X1_carry
theorem dL_carry_0 : decode cL_carry 0 = .ok (.aload_n 3, 1) := by decide +kernel
theorem dL_carry_1 : decode cL_carry 1 = .ok (.iconst 0, 1) := by decide +kernel
theorem dL_carry_2 : decode cL_carry 2 = .ok (.aload_n 0, 1) := by decide +kernel
theorem dL_carry_3 : decode cL_carry 3 = .ok (.iload_n 1, 1) := by decide +kernel
theorem dL_carry_4 : decode cL_carry 4 = .ok (.iload_n 2, 1) := by decide +kernel
theorem dL_carry_5 : decode cL_carry 5 = .ok (.invokevirtual 32, 3) := by decide +kernel
theorem dL_carry_8 : decode cL_carry 8 = .ok (.i2l, 1) := by decide +kernel
theorem dL_carry_9 : decode cL_carry 9 = .ok (.lastore, 1) := by decide +kernel
theorem dL_carry_10 : decode cL_carry 10 = .ok (.goto 11, 3) := by decide +kernel
theorem dL_carry_13 : decode cL_carry 13 = .ok (.astore 4, 2) := by decide +kernel
theorem dL_carry_15 : decode cL_carry 15 = .ok (.iconst 1, 1) := by decide +kernel
theorem dL_carry_16 : decode cL_carry 16 = .ok (.ireturn, 1) := by decide +kernel
theorem dL_carry_17 : decode cL_carry 17 = .ok (.astore 4, 2) := by decide +kernel
theorem dL_carry_19 : decode cL_carry 19 = .ok (.iconst 2, 1) := by decide +kernel
theorem dL_carry_20 : decode cL_carry 20 = .ok (.ireturn, 1) := by decide +kernel
theorem dL_carry_21 : decode cL_carry 21 = .ok (.iconst 0, 1) := by decide +kernel
theorem dL_carry_22 : decode cL_carry 22 = .ok (.ireturn, 1) := by decide +kernel
set_option maxRecDepth 20000 in
theorem ggL_pass_X1_pass : GoodIn wsL_pass wsX1_pass := goodIn_ca (goodIn_r _ [6, 7, 8, 9, 5, 10, 11, 12, 13, 14, 15, 16, 17, 18, 19, 20, 21, 22, 23, 24, 25, 26, 27, 28, 29, 30, 31, 32, 33, 34, 35, 36, 37, 38, 39, 40, 41, 42, 43, 44, 45, 46, 47, 48, 49, 50, 51, 52, 53, 54, 55, 56, 57, 58, 59, 60, 61, 62, 63, 64, 65, 66, 67, 68, 69, 70, 71, 72, 73, 74, 75, 76, 77, 78, 79, 80, 81, 82, 83, 84, 85, 86, 87, 88, 89, 90, 91, 92, 93, 94, 95, 96, 97, 98, 99, 100, 101, 102, 103, 104, 105, 106, 107, 108, 109, 110, 111, 112, 113, 114, 115, 116, 117, 118, 119, 120, 121, 122] (by decide +kernel) (by decide +kernel)) (goodIn_sub (fun _ h => List.mem_cons_of_mem _ (List.mem_append_right _ h)) (by decide +kernel))
set_option maxRecDepth 20000 in
theorem gL_pass_X1_pass : GoodIn wsL_pass (wsV RL 35 RX1 yX1_pass wsX1_pass) := goodIn_app (goodIn_of _ (by decide +kernel)) ggL_pass_X1_pass
theorem dL_pass_0 : decode cL_pass 0 = .ok (.aload_n 2, 1) := by decide +kernel
theorem dL_pass_1 : decode cL_pass 1 = .ok (.iconst 0, 1) := by decide +kernel
theorem dL_pass_2 : decode cL_pass 2 = .ok (.aload_n 0, 1) := by decide +kernel
theorem dL_pass_3 : decode cL_pass 3 = .ok (.iload_n 1, 1) := by decide +kernel
theorem dL_pass_4 : decode cL_pass 4 = .ok (.invokevirtual 35, 3) := by decide +kernel
theorem dL_pass_7 : decode cL_pass 7 = .ok (.i2l, 1) := by decide +kernel
theorem dL_pass_8 : decode cL_pass 8 = .ok (.lastore, 1) := by decide +kernel
theorem dL_pass_9 : decode cL_pass 9 = .ok (.goto 6, 3) := by decide +kernel
theorem dL_pass_12 : decode cL_pass 12 = .ok (.astore_n 3, 1) := by decide +kernel
theorem dL_pass_13 : decode cL_pass 13 = .ok (.iconst 1, 1) := by decide +kernel
theorem dL_pass_14 : decode cL_pass 14 = .ok (.ireturn, 1) := by decide +kernel
theorem dL_pass_15 : decode cL_pass 15 = .ok (.iconst 0, 1) := by decide +kernel
theorem dL_pass_16 : decode cL_pass 16 = .ok (.ireturn, 1) := by decide +kernel
set_option maxRecDepth 20000 in
theorem ggL_feverOf_X1_feverOf : GoodIn wsL_feverOf wsX1_feverOf := goodIn_ca (goodIn_r _ [6, 7, 8, 9, 10, 11, 5, 12, 13, 14, 15, 16, 17, 18, 19, 20, 21, 22, 23, 24, 25, 26, 27, 28, 29, 30, 31, 32, 33] (by decide +kernel) (by decide +kernel)) (goodIn_sub (fun _ h => List.mem_cons_of_mem _ (List.mem_append_right _ h)) (by decide +kernel))
set_option maxRecDepth 20000 in
theorem gL_feverOf_X1_feverOf : GoodIn wsL_feverOf (wsV RL 38 RX1 yX1_feverOf wsX1_feverOf) := goodIn_app (goodIn_of _ (by decide +kernel)) ggL_feverOf_X1_feverOf
theorem dL_feverOf_0 : decode cL_feverOf 0 = .ok (.aload_n 2, 1) := by decide +kernel
theorem dL_feverOf_1 : decode cL_feverOf 1 = .ok (.iconst 0, 1) := by decide +kernel
theorem dL_feverOf_2 : decode cL_feverOf 2 = .ok (.aload_n 0, 1) := by decide +kernel
theorem dL_feverOf_3 : decode cL_feverOf 3 = .ok (.iload_n 1, 1) := by decide +kernel
theorem dL_feverOf_4 : decode cL_feverOf 4 = .ok (.invokevirtual 38, 3) := by decide +kernel
theorem dL_feverOf_7 : decode cL_feverOf 7 = .ok (.i2l, 1) := by decide +kernel
theorem dL_feverOf_8 : decode cL_feverOf 8 = .ok (.lastore, 1) := by decide +kernel
theorem dL_feverOf_9 : decode cL_feverOf 9 = .ok (.goto 6, 3) := by decide +kernel
theorem dL_feverOf_12 : decode cL_feverOf 12 = .ok (.astore_n 3, 1) := by decide +kernel
theorem dL_feverOf_13 : decode cL_feverOf 13 = .ok (.iconst 1, 1) := by decide +kernel
theorem dL_feverOf_14 : decode cL_feverOf 14 = .ok (.ireturn, 1) := by decide +kernel
theorem dL_feverOf_15 : decode cL_feverOf 15 = .ok (.iconst 0, 1) := by decide +kernel
theorem dL_feverOf_16 : decode cL_feverOf 16 = .ok (.ireturn, 1) := by decide +kernel
set_option maxRecDepth 20000 in
theorem ggL_wardOf_X1_wardOf : GoodIn wsL_wardOf wsX1_wardOf := goodIn_ca (goodIn_r _ [6, 7, 8, 9, 10, 5, 11, 12, 13, 14, 15, 16, 17, 18, 19, 20, 21, 22, 23, 24, 25, 26, 27, 28, 29, 30, 31, 32, 33, 34, 35, 36, 37, 38, 39] (by decide +kernel) (by decide +kernel)) (goodIn_sub (fun _ h => List.mem_cons_of_mem _ (List.mem_append_right _ h)) (by decide +kernel))
set_option maxRecDepth 20000 in
theorem gL_wardOf_X1_wardOf : GoodIn wsL_wardOf (wsV RL 41 RX1 yX1_wardOf wsX1_wardOf) := goodIn_app (goodIn_of _ (by decide +kernel)) ggL_wardOf_X1_wardOf
theorem dL_wardOf_0 : decode cL_wardOf 0 = .ok (.aload_n 2, 1) := by decide +kernel
theorem dL_wardOf_1 : decode cL_wardOf 1 = .ok (.iconst 0, 1) := by decide +kernel
theorem dL_wardOf_2 : decode cL_wardOf 2 = .ok (.aload_n 0, 1) := by decide +kernel
theorem dL_wardOf_3 : decode cL_wardOf 3 = .ok (.iload_n 1, 1) := by decide +kernel
theorem dL_wardOf_4 : decode cL_wardOf 4 = .ok (.invokevirtual 41, 3) := by decide +kernel
theorem dL_wardOf_7 : decode cL_wardOf 7 = .ok (.i2l, 1) := by decide +kernel
theorem dL_wardOf_8 : decode cL_wardOf 8 = .ok (.lastore, 1) := by decide +kernel
theorem dL_wardOf_9 : decode cL_wardOf 9 = .ok (.goto 6, 3) := by decide +kernel
theorem dL_wardOf_12 : decode cL_wardOf 12 = .ok (.astore_n 3, 1) := by decide +kernel
theorem dL_wardOf_13 : decode cL_wardOf 13 = .ok (.iconst 1, 1) := by decide +kernel
theorem dL_wardOf_14 : decode cL_wardOf 14 = .ok (.ireturn, 1) := by decide +kernel
theorem dL_wardOf_15 : decode cL_wardOf 15 = .ok (.iconst 0, 1) := by decide +kernel
theorem dL_wardOf_16 : decode cL_wardOf 16 = .ok (.ireturn, 1) := by decide +kernel