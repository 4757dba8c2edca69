set_option maxRecDepth 20000 in
theorem ggL_keptFor_X1_keptFor : GoodIn wsL_keptFor wsX1_keptFor := goodIn_ca (goodIn_r _ [6, 7, 8, 9, 10, 11, 5, 12, 13, 14, 15, 16, 17, 18, 19, 20, 21, 22, 23, 24, 25, 26, 27, 28, 29, 30, 31, 32, 33] (by decide +kernel) (by decide +kernel)) (goodIn_sub (fun _ h => List.mem_cons_of_mem _ (List.mem_append_right _ h)) (by decide +kernel))
set_option maxRecDepth 20000 in
theorem gL_keptFor_X1_keptFor : GoodIn wsL_keptFor (wsV RL 72 RX1 yX1_keptFor wsX1_keptFor) := goodIn_app (goodIn_of _ (by decide +kernel)) ggL_keptFor_X1_keptFor
theorem dL_keptFor_0 : decode cL_keptFor 0 = .ok (.aload_n 2, 1) := by decide +kernel
theorem dL_keptFor_1 : decode cL_keptFor 1 = .ok (.iconst 0, 1) := by decide +kernel
theorem dL_keptFor_2 : decode cL_keptFor 2 = .ok (.aload_n 0, 1) := by decide +kernel
theorem dL_keptFor_3 : decode cL_keptFor 3 = .ok (.iload_n 1, 1) := by decide +kernel
theorem dL_keptFor_4 : decode cL_keptFor 4 = .ok (.invokevirtual 72, 3) := by decide +kernel
theorem dL_keptFor_7 : decode cL_keptFor 7 = .ok (.i2l, 1) := by decide +kernel
theorem dL_keptFor_8 : decode cL_keptFor 8 = .ok (.lastore, 1) := by decide +kernel
theorem dL_keptFor_9 : decode cL_keptFor 9 = .ok (.goto 6, 3) := by decide +kernel
theorem dL_keptFor_12 : decode cL_keptFor 12 = .ok (.astore_n 3, 1) := by decide +kernel
theorem dL_keptFor_13 : decode cL_keptFor 13 = .ok (.iconst 1, 1) := by decide +kernel
theorem dL_keptFor_14 : decode cL_keptFor 14 = .ok (.ireturn, 1) := by decide +kernel
theorem dL_keptFor_15 : decode cL_keptFor 15 = .ok (.iconst 0, 1) := by decide +kernel
theorem dL_keptFor_16 : decode cL_keptFor 16 = .ok (.ireturn, 1) := by decide +kernel
set_option maxRecDepth 20000 in
theorem ggL_peopleOn_X1_peopleOn : GoodIn wsL_peopleOn wsX1_peopleOn := goodIn_ca (goodIn_r _ [6, 7, 8, 9, 10, 5, 11, 12, 13, 14, 15, 16, 17, 18, 19, 20, 21, 22, 23, 24, 25, 26, 27, 28, 29, 30, 31, 32, 33, 34, 35, 36, 37, 38, 39, 40, 41, 42, 43, 44] (by decide +kernel) (by decide +kernel)) (goodIn_sub (fun _ h => List.mem_cons_of_mem _ (List.mem_append_right _ h)) (by decide +kernel))
set_option maxRecDepth 20000 in
theorem gL_peopleOn_X1_peopleOn : GoodIn wsL_peopleOn (wsV RL 75 RX1 yX1_peopleOn wsX1_peopleOn) := goodIn_app (goodIn_of _ (by decide +kernel)) ggL_peopleOn_X1_peopleOn
theorem dL_peopleOn_0 : decode cL_peopleOn 0 = .ok (.aload_n 2, 1) := by decide +kernel
theorem dL_peopleOn_1 : decode cL_peopleOn 1 = .ok (.iconst 0, 1) := by decide +kernel
theorem dL_peopleOn_2 : decode cL_peopleOn 2 = .ok (.aload_n 0, 1) := by decide +kernel
theorem dL_peopleOn_3 : decode cL_peopleOn 3 = .ok (.iload_n 1, 1) := by decide +kernel
theorem dL_peopleOn_4 : decode cL_peopleOn 4 = .ok (.invokevirtual 75, 3) := by decide +kernel
theorem dL_peopleOn_7 : decode cL_peopleOn 7 = .ok (.i2l, 1) := by decide +kernel
theorem dL_peopleOn_8 : decode cL_peopleOn 8 = .ok (.lastore, 1) := by decide +kernel
theorem dL_peopleOn_9 : decode cL_peopleOn 9 = .ok (.goto 6, 3) := by decide +kernel
theorem dL_peopleOn_12 : decode cL_peopleOn 12 = .ok (.astore_n 3, 1) := by decide +kernel
theorem dL_peopleOn_13 : decode cL_peopleOn 13 = .ok (.iconst 1, 1) := by decide +kernel
theorem dL_peopleOn_14 : decode cL_peopleOn 14 = .ok (.ireturn, 1) := by decide +kernel
theorem dL_peopleOn_15 : decode cL_peopleOn 15 = .ok (.iconst 0, 1) := by decide +kernel
theorem dL_peopleOn_16 : decode cL_peopleOn 16 = .ok (.ireturn, 1) := by decide +kernel
set_option maxRecDepth 20000 in
theorem ggL_highestFeverOn_X1_highestFeverOn : GoodIn wsL_highestFeverOn wsX1_highestFeverOn := goodIn_ca (goodIn_r _ [6, 7, 8, 9, 10, 5, 11, 12, 13, 14, 15, 16, 17, 18, 19, 20, 21, 22, 23, 24, 25, 26, 27, 28, 29, 30, 31, 32, 33, 34, 35, 36, 37, 38, 39, 40, 41, 42, 43, 44, 45, 46, 47, 48, 49] (by decide +kernel) (by decide +kernel)) (goodIn_sub (fun _ h => List.mem_cons_of_mem _ (List.mem_append_right _ h)) (by decide +kernel))
set_option maxRecDepth 20000 in
theorem gL_highestFeverOn_X1_highestFeverOn : GoodIn wsL_highestFeverOn (wsV RL 78 RX1 yX1_highestFeverOn wsX1_highestFeverOn) := goodIn_app (goodIn_of _ (by decide +kernel)) ggL_highestFeverOn_X1_highestFeverOn
theorem dL_highestFeverOn_0 : decode cL_highestFeverOn 0 = .ok (.aload_n 2, 1) := by decide +kernel
theorem dL_highestFeverOn_1 : decode cL_highestFeverOn 1 = .ok (.iconst 0, 1) := by decide +kernel
theorem dL_highestFeverOn_2 : decode cL_highestFeverOn 2 = .ok (.aload_n 0, 1) := by decide +kernel
theorem dL_highestFeverOn_3 : decode cL_highestFeverOn 3 = .ok (.iload_n 1, 1) := by decide +kernel
theorem dL_highestFeverOn_4 : decode cL_highestFeverOn 4 = .ok (.invokevirtual 78, 3) := by decide +kernel
theorem dL_highestFeverOn_7 : decode cL_highestFeverOn 7 = .ok (.i2l, 1) := by decide +kernel
theorem dL_highestFeverOn_8 : decode cL_highestFeverOn 8 = .ok (.lastore, 1) := by decide +kernel
theorem dL_highestFeverOn_9 : decode cL_highestFeverOn 9 = .ok (.goto 6, 3) := by decide +kernel
theorem dL_highestFeverOn_12 : decode cL_highestFeverOn 12 = .ok (.astore_n 3, 1) := by decide +kernel
theorem dL_highestFeverOn_13 : decode cL_highestFeverOn 13 = .ok (.iconst 1, 1) := by decide +kernel
theorem dL_highestFeverOn_14 : decode cL_highestFeverOn 14 = .ok (.ireturn, 1) := by decide +kernel
theorem dL_highestFeverOn_15 : decode cL_highestFeverOn 15 = .ok (.iconst 0, 1) := by decide +kernel
theorem dL_highestFeverOn_16 : decode cL_highestFeverOn 16 = .ok (.ireturn, 1) := by decide +kernel
set_option maxRecDepth 20000 in
theorem ggL_daysUntilHome_X1_daysUntilHome : GoodIn wsL_daysUntilHome wsX1_daysUntilHome := goodIn_ca (goodIn_r _ [6, 7, 8, 9, 10, 11, 12, 5, 13, 14, 15, 16, 17, 18, 19, 20, 21, 22, 23, 24, 25, 26, 27, 28, 29, 30, 31, 32, 33, 34, 35, 36, 37, 38, 39, 40, 41, 42, 43, 44, 45, 46, 47, 48, 49, 50, 51, 52, 53, 54, 55, 56, 57, 58, 59, 60, 61, 62, 63, 64, 65, 66, 67, 68, 69, 70, 71, 72, 73, 74, 75, 76, 77, 78, 79, 80, 81, 82, 83, 84, 85, 86, 87, 88, 89, 90, 91, 92, 93, 94, 95, 96, 97, 98, 99, 100, 101, 102, 103, 104, 105, 106, 107, 108, 109, 110, 111, 112, 113, 114, 115, 116, 117, 118, 119, 120, 121, 122, 123, 124, 125, 126, 127, 128, 129, 130] (by decide +kernel) (by decide +kernel)) (goodIn_sub (fun _ h => List.mem_cons_of_mem _ (List.mem_append_right _ h)) (by decide +kernel))
set_option maxRecDepth 20000 in
theorem gL_daysUntilHome_X1_daysUntilHome : GoodIn wsL_daysUntilHome (wsV RL 81 RX1 yX1_daysUntilHome wsX1_daysUntilHome) := goodIn_app (goodIn_of _ (by decide +kernel)) ggL_daysUntilHome_X1_daysUntilHome
theorem dL_daysUntilHome_0 : decode cL_daysUntilHome 0 = .ok (.aload_n 2, 1) := by decide +kernel
theorem dL_daysUntilHome_1 : decode cL_daysUntilHome 1 = .ok (.iconst 0, 1) := by decide +kernel
theorem dL_daysUntilHome_2 : decode cL_daysUntilHome 2 = .ok (.aload_n 0, 1) := by decide +kernel
theorem dL_daysUntilHome_3 : decode cL_daysUntilHome 3 = .ok (.iload_n 1, 1) := by decide +kernel
theorem dL_daysUntilHome_4 : decode cL_daysUntilHome 4 = .ok (.invokevirtual 81, 3) := by decide +kernel
theorem dL_daysUntilHome_7 : decode cL_daysUntilHome 7 = .ok (.i2l, 1) := by decide +kernel
theorem dL_daysUntilHome_8 : decode cL_daysUntilHome 8 = .ok (.lastore, 1) := by decide +kernel
theorem dL_daysUntilHome_9 : decode cL_daysUntilHome 9 = .ok (.goto 6, 3) := by decide +kernel
theorem dL_daysUntilHome_12 : decode cL_daysUntilHome 12 = .ok (.astore_n 3, 1) := by decide +kernel
theorem dL_daysUntilHome_13 : decode cL_daysUntilHome 13 = .ok (.iconst 1, 1) := by decide +kernel
theorem dL_daysUntilHome_14 : decode cL_daysUntilHome 14 = .ok (.ireturn, 1) := by decide +kernel
theorem dL_daysUntilHome_15 : decode cL_daysUntilHome 15 = .ok (.iconst 0, 1) := by decide +kernel
theorem dL_daysUntilHome_16 : decode cL_daysUntilHome 16 = .ok (.ireturn, 1) := by decide +kernel
set_option maxRecDepth 20000 in
theorem ggL_homeAfter_X1_homeAfter : GoodIn wsL_homeAfter wsX1_homeAfter := goodIn_ca (goodIn_r _ [6, 7, 8, 5, 9, 10, 11, 12, 13, 14, 15, 16, 17, 18, 19, 20, 21, 22, 23, 24, 25, 26, 27, 28, 29, 30, 31, 32, 33, 34, 35, 36, 37, 38, 39, 40, 41, 42, 43, 44, 45, 46, 47, 48, 49, 50, 51, 52, 53, 54, 55, 56, 57, 58, 59, 60, 61, 62, 63, 64, 65, 66, 67, 68, 69, 70, 71, 72, 73, 74, 75, 76, 77, 78, 79, 80, 81, 82, 83, 84, 85, 86, 87, 88, 89, 90, 91, 92, 93, 94, 95, 96, 97, 98, 99, 100, 101, 102, 103, 104, 105, 106, 107, 108, 109, 110, 111, 112, 113, 114, 115, 116, 117, 118, 119, 120, 121, 122, 123, 124, 125, 126, 127, 128, 129, 130, 131, 132, 133, 134, 135] (by decide +kernel) (by decide +kernel)) (goodIn_sub (fun _ h => List.mem_cons_of_mem _ (List.mem_append_right _ h)) (by decide +kernel))
set_option maxRecDepth 20000 in
theorem gL_homeAfter_X1_homeAfter : GoodIn wsL_homeAfter (wsV RL 84 RX1 yX1_homeAfter wsX1_homeAfter) := goodIn_app (goodIn_of _ (by decide +kernel)) ggL_homeAfter_X1_homeAfter
theorem dL_homeAfter_0 : decode cL_homeAfter 0 = .ok (.aload_n 2, 1) := by decide +kernel
theorem dL_homeAfter_1 : decode cL_homeAfter 1 = .ok (.iconst 0, 1) := by decide +kernel
theorem dL_homeAfter_2 : decode cL_homeAfter 2 = .ok (.aload_n 0, 1) := by decide +kernel
theorem dL_homeAfter_3 : decode cL_homeAfter 3 = .ok (.iload_n 1, 1) := by decide +kernel
theorem dL_homeAfter_4 : decode cL_homeAfter 4 = .ok (.invokevirtual 84, 3) := by decide +kernel
theorem dL_homeAfter_7 : decode cL_homeAfter 7 = .ok (.i2l, 1) := by decide +kernel
theorem dL_homeAfter_8 : decode cL_homeAfter 8 = .ok (.lastore, 1) := by decide +kernel
theorem dL_homeAfter_9 : decode cL_homeAfter 9 = .ok (.goto 6, 3) := by decide +kernel
theorem dL_homeAfter_12 : decode cL_homeAfter 12 = .ok (.astore_n 3, 1) := by decide +kernel
theorem dL_homeAfter_13 : decode cL_homeAfter 13 = .ok (.iconst 1, 1) := by decide +kernel
theorem dL_homeAfter_14 : decode cL_homeAfter 14 = .ok (.ireturn, 1) := by decide +kernel
theorem dL_homeAfter_15 : decode cL_homeAfter 15 = .ok (.iconst 0, 1) := by decide +kernel
theorem dL_homeAfter_16 : decode cL_homeAfter 16 = .ok (.ireturn, 1) := by decide +kernel
set_option maxRecDepth 20000 in
theorem ggL_greatHouseAfter_X1_greatHouseAfter : GoodIn wsL_greatHouseAfter wsX1_greatHouseAfter := goodIn_ca (goodIn_r _ [6, 7, 8, 5, 9, 10, 11, 12, 13, 14, 15, 16, 17, 18, 19, 20, 21, 22, 23, 24, 25, 26, 27, 28, 29, 30, 31, 32, 33, 34, 35, 36, 37, 38, 39, 40, 41, 42, 43, 44, 45, 46, 47, 48, 49, 50, 51, 52, 53, 54, 55, 56, 57, 58, 59, 60, 61, 62, 63, 64, 65, 66, 67, 68, 69, 70, 71, 72, 73, 74, 75, 76, 77, 78, 79, 80, 81, 82, 83, 84, 85, 86, 87, 88, 89, 90, 91, 92, 93, 94, 95, 96, 97, 98, 99, 100, 101, 102, 103, 104, 105, 106, 107, 108, 109, 110, 111, 112, 113, 114, 115, 116, 117, 118, 119, 120, 121, 122, 123, 124, 125, 126, 127, 128, 129, 130, 131, 132, 133, 134, 135] (by decide +kernel) (by decide +kernel)) (goodIn_sub (fun _ h => List.mem_cons_of_mem _ (List.mem_append_right _ h)) (by decide +kernel))
set_option maxRecDepth 20000 in
theorem gL_greatHouseAfter_X1_greatHouseAfter : GoodIn wsL_greatHouseAfter (wsV RL 87 RX1 yX1_greatHouseAfter wsX1_greatHouseAfter) := goodIn_app (goodIn_of _ (by decide +kernel)) ggL_greatHouseAfter_X1_greatHouseAfter
theorem dL_greatHouseAfter_0 : decode cL_greatHouseAfter 0 = .ok (.aload_n 2, 1) := by decide +kernel
theorem dL_greatHouseAfter_1 : decode cL_greatHouseAfter 1 = .ok (.iconst 0, 1) := by decide +kernel
theorem dL_greatHouseAfter_2 : decode cL_greatHouseAfter 2 = .ok (.aload_n 0, 1) := by decide +kernel
theorem dL_greatHouseAfter_3 : decode cL_greatHouseAfter 3 = .ok (.iload_n 1, 1) := by decide +kernel
theorem dL_greatHouseAfter_4 : decode cL_greatHouseAfter 4 = .ok (.invokevirtual 87, 3) := by decide +kernel
theorem dL_greatHouseAfter_7 : decode cL_greatHouseAfter 7 = .ok (.i2l, 1) := by decide +kernel
theorem dL_greatHouseAfter_8 : decode cL_greatHouseAfter 8 = .ok (.lastore, 1) := by decide +kernel
theorem dL_greatHouseAfter_9 : decode cL_greatHouseAfter 9 = .ok (.goto 6, 3) := by decide +kernel
theorem dL_greatHouseAfter_12 : decode cL_greatHouseAfter 12 = .ok (.astore_n 3, 1) := by decide +kernel
theorem dL_greatHouseAfter_13 : decode cL_greatHouseAfter 13 = .ok (.iconst 1, 1) := by decide +kernel
theorem dL_greatHouseAfter_14 : decode cL_greatHouseAfter 14 = .ok (.ireturn, 1) := by decide +kernel
theorem dL_greatHouseAfter_15 : decode cL_greatHouseAfter 15 = .ok (.iconst 0, 1) := by decide +kernel
theorem dL_greatHouseAfter_16 : decode cL_greatHouseAfter 16 = .ok (.ireturn, 1) := by decide +kernel
set_option maxRecDepth 20000 in
theorem ggL_bestStraw_X1_bestStraw : GoodIn wsL_bestStraw wsX1_bestStraw := goodIn_ca (goodIn_r _ [6, 7, 8, 9, 10, 5, 11, 12, 13, 14, 15, 16, 17, 18, 19, 20, 21, 22, 23, 24, 25, 26, 27, 28, 29, 30, 31, 32, 33, 34, 35, 36, 37, 38, 39, 40, 41, 42, 43, 44, 45, 46, 47, 48, 49, 50, 51, 52, 53, 54, 55, 56, 57, 58, 59, 60, 61, 62, 63, 64, 65, 66, 67, 68, 69, 70, 71, 72, 73, 74, 75, 76, 77, 78, 79, 80, 81, 82, 83, 84, 85, 86, 87, 88, 89, 90, 91, 92, 93, 94, 95, 96, 97, 98, 99, 100, 101, 102, 103, 104, 105, 106, 107, 108, 109, 110, 111, 112, 113, 114, 115, 116, 117, 118, 119, 120, 121, 122, 123, 124, 125, 126, 127, 128, 129, 130, 131, 132, 133, 134, 135, 136, 137, 138, 139, 140, 141] (by decide +kernel) (by decide +kernel)) (goodIn_sub (fun _ h => List.mem_cons_of_mem _ (List.mem_append_right _ h)) (by decide +kernel))
set_option maxRecDepth 20000 in
theorem gL_bestStraw_X1_bestStraw : GoodIn wsL_bestStraw (wsV RL 90 RX1 yX1_bestStraw wsX1_bestStraw) := goodIn_app (goodIn_of _ (by decide +kernel)) ggL_bestStraw_X1_bestStraw
theorem dL_bestStraw_0 : decode cL_bestStraw 0 = .ok (.aload_n 2, 1) := by decide +kernel
theorem dL_bestStraw_1 : decode cL_bestStraw 1 = .ok (.iconst 0, 1) := by decide +kernel
theorem dL_bestStraw_2 : decode cL_bestStraw 2 = .ok (.aload_n 0, 1) := by decide +kernel
theorem dL_bestStraw_3 : decode cL_bestStraw 3 = .ok (.iload_n 1, 1) := by decide +kernel
theorem dL_bestStraw_4 : decode cL_bestStraw 4 = .ok (.invokevirtual 90, 3) := by decide +kernel
theorem dL_bestStraw_7 : decode cL_bestStraw 7 = .ok (.i2l, 1) := by decide +kernel
theorem dL_bestStraw_8 : decode cL_bestStraw 8 = .ok (.lastore, 1) := by decide +kernel
theorem dL_bestStraw_9 : decode cL_bestStraw 9 = .ok (.goto 6, 3) := by decide +kernel
theorem dL_bestStraw_12 : decode cL_bestStraw 12 = .ok (.astore_n 3, 1) := by decide +kernel
theorem dL_bestStraw_13 : decode cL_bestStraw 13 = .ok (.iconst 1, 1) := by decide +kernel
theorem dL_bestStraw_14 : decode cL_bestStraw 14 = .ok (.ireturn, 1) := by decide +kernel
theorem dL_bestStraw_15 : decode cL_bestStraw 15 = .ok (.iconst 0, 1) := by decide +kernel
theorem dL_bestStraw_16 : decode cL_bestStraw 16 = .ok (.ireturn, 1) := by decide +kernel
