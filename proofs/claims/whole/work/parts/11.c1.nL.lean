set_option maxRecDepth 20000 in
theorem ggL_bargeOf_X1_bargeOf : GoodIn wsL_bargeOf wsX1_bargeOf := goodIn_ca (goodIn_r _ [6, 7, 8, 9, 10, 5, 11, 12, 13, 14, 15, 16, 17, 18, 19, 20, 21, 22, 23, 24, 25, 26, 27, 28, 29, 30, 31, 32, 33, 34, 35, 36, 37, 38, 39] (by decide +kernel) (by decide +kernel)) (goodIn_sub (fun _ h => List.mem_cons_of_mem _ (List.mem_append_right _ h)) (by decide +kernel))
set_option maxRecDepth 20000 in
theorem gL_bargeOf_X1_bargeOf : GoodIn wsL_bargeOf (wsV RL 44 RX1 yX1_bargeOf wsX1_bargeOf) := goodIn_app (goodIn_of _ (by decide +kernel)) ggL_bargeOf_X1_bargeOf
theorem dL_bargeOf_0 : decode cL_bargeOf 0 = .ok (.aload_n 2, 1) := by decide +kernel
theorem dL_bargeOf_1 : decode cL_bargeOf 1 = .ok (.iconst 0, 1) := by decide +kernel
theorem dL_bargeOf_2 : decode cL_bargeOf 2 = .ok (.aload_n 0, 1) := by decide +kernel
theorem dL_bargeOf_3 : decode cL_bargeOf 3 = .ok (.iload_n 1, 1) := by decide +kernel
theorem dL_bargeOf_4 : decode cL_bargeOf 4 = .ok (.invokevirtual 44, 3) := by decide +kernel
theorem dL_bargeOf_7 : decode cL_bargeOf 7 = .ok (.i2l, 1) := by decide +kernel
theorem dL_bargeOf_8 : decode cL_bargeOf 8 = .ok (.lastore, 1) := by decide +kernel
theorem dL_bargeOf_9 : decode cL_bargeOf 9 = .ok (.goto 6, 3) := by decide +kernel
theorem dL_bargeOf_12 : decode cL_bargeOf 12 = .ok (.astore_n 3, 1) := by decide +kernel
theorem dL_bargeOf_13 : decode cL_bargeOf 13 = .ok (.iconst 1, 1) := by decide +kernel
theorem dL_bargeOf_14 : decode cL_bargeOf 14 = .ok (.ireturn, 1) := by decide +kernel
theorem dL_bargeOf_15 : decode cL_bargeOf 15 = .ok (.iconst 0, 1) := by decide +kernel
theorem dL_bargeOf_16 : decode cL_bargeOf 16 = .ok (.ireturn, 1) := by decide +kernel
set_option maxRecDepth 20000 in
theorem ggL_isHome_X1_isHome : GoodIn wsL_isHome wsX1_isHome := goodIn_ca (goodIn_r _ [6, 7, 8, 9, 10, 11, 5, 12, 13, 14, 15, 16, 17, 18, 19, 20, 21, 22, 23, 24, 25, 26, 27, 28, 29, 30, 31, 32, 33] (by decide +kernel) (by decide +kernel)) (goodIn_sub (fun _ h => List.mem_cons_of_mem _ (List.mem_append_right _ h)) (by decide +kernel))
set_option maxRecDepth 20000 in
theorem gL_isHome_X1_isHome : GoodIn wsL_isHome (wsV RL 47 RX1 yX1_isHome wsX1_isHome) := goodIn_app (goodIn_of _ (by decide +kernel)) ggL_isHome_X1_isHome
theorem dL_isHome_0 : decode cL_isHome 0 = .ok (.aload_n 2, 1) := by decide +kernel
theorem dL_isHome_1 : decode cL_isHome 1 = .ok (.iconst 0, 1) := by decide +kernel
theorem dL_isHome_2 : decode cL_isHome 2 = .ok (.aload_n 0, 1) := by decide +kernel
theorem dL_isHome_3 : decode cL_isHome 3 = .ok (.iload_n 1, 1) := by decide +kernel
theorem dL_isHome_4 : decode cL_isHome 4 = .ok (.invokevirtual 47, 3) := by decide +kernel
theorem dL_isHome_7 : decode cL_isHome 7 = .ok (.ifCond .eq 7, 3) := by decide +kernel
theorem dL_isHome_10 : decode cL_isHome 10 = .ok (.lconst 1, 1) := by decide +kernel
theorem dL_isHome_11 : decode cL_isHome 11 = .ok (.goto 4, 3) := by decide +kernel
theorem dL_isHome_14 : decode cL_isHome 14 = .ok (.lconst 0, 1) := by decide +kernel
theorem dL_isHome_15 : decode cL_isHome 15 = .ok (.lastore, 1) := by decide +kernel
theorem dL_isHome_16 : decode cL_isHome 16 = .ok (.goto 6, 3) := by decide +kernel
theorem dL_isHome_19 : decode cL_isHome 19 = .ok (.astore_n 3, 1) := by decide +kernel
theorem dL_isHome_20 : decode cL_isHome 20 = .ok (.iconst 1, 1) := by decide +kernel
theorem dL_isHome_21 : decode cL_isHome 21 = .ok (.ireturn, 1) := by decide +kernel
theorem dL_isHome_22 : decode cL_isHome 22 = .ok (.iconst 0, 1) := by decide +kernel
theorem dL_isHome_23 : decode cL_isHome 23 = .ok (.ireturn, 1) := by decide +kernel
set_option maxRecDepth 20000 in
theorem ggL_isInGreatHouse_X1_isInGreatHouse : GoodIn wsL_isInGreatHouse wsX1_isInGreatHouse := goodIn_ca (goodIn_r _ [6, 7, 8, 9, 10, 11, 5, 12, 13, 14, 15, 16, 17, 18, 19, 20, 21, 22, 23, 24, 25, 26, 27, 28, 29, 30, 31, 32, 33] (by decide +kernel) (by decide +kernel)) (goodIn_sub (fun _ h => List.mem_cons_of_mem _ (List.mem_append_right _ h)) (by decide +kernel))
set_option maxRecDepth 20000 in
theorem gL_isInGreatHouse_X1_isInGreatHouse : GoodIn wsL_isInGreatHouse (wsV RL 51 RX1 yX1_isInGreatHouse wsX1_isInGreatHouse) := goodIn_app (goodIn_of _ (by decide +kernel)) ggL_isInGreatHouse_X1_isInGreatHouse
theorem dL_isInGreatHouse_0 : decode cL_isInGreatHouse 0 = .ok (.aload_n 2, 1) := by decide +kernel
theorem dL_isInGreatHouse_1 : decode cL_isInGreatHouse 1 = .ok (.iconst 0, 1) := by decide +kernel
theorem dL_isInGreatHouse_2 : decode cL_isInGreatHouse 2 = .ok (.aload_n 0, 1) := by decide +kernel
theorem dL_isInGreatHouse_3 : decode cL_isInGreatHouse 3 = .ok (.iload_n 1, 1) := by decide +kernel
theorem dL_isInGreatHouse_4 : decode cL_isInGreatHouse 4 = .ok (.invokevirtual 51, 3) := by decide +kernel
theorem dL_isInGreatHouse_7 : decode cL_isInGreatHouse 7 = .ok (.ifCond .eq 7, 3) := by decide +kernel
theorem dL_isInGreatHouse_10 : decode cL_isInGreatHouse 10 = .ok (.lconst 1, 1) := by decide +kernel
theorem dL_isInGreatHouse_11 : decode cL_isInGreatHouse 11 = .ok (.goto 4, 3) := by decide +kernel
theorem dL_isInGreatHouse_14 : decode cL_isInGreatHouse 14 = .ok (.lconst 0, 1) := by decide +kernel
theorem dL_isInGreatHouse_15 : decode cL_isInGreatHouse 15 = .ok (.lastore, 1) := by decide +kernel
theorem dL_isInGreatHouse_16 : decode cL_isInGreatHouse 16 = .ok (.goto 6, 3) := by decide +kernel
theorem dL_isInGreatHouse_19 : decode cL_isInGreatHouse 19 = .ok (.astore_n 3, 1) := by decide +kernel
theorem dL_isInGreatHouse_20 : decode cL_isInGreatHouse 20 = .ok (.iconst 1, 1) := by decide +kernel
theorem dL_isInGreatHouse_21 : decode cL_isInGreatHouse 21 = .ok (.ireturn, 1) := by decide +kernel
theorem dL_isInGreatHouse_22 : decode cL_isInGreatHouse 22 = .ok (.iconst 0, 1) := by decide +kernel
theorem dL_isInGreatHouse_23 : decode cL_isInGreatHouse 23 = .ok (.ireturn, 1) := by decide +kernel
set_option maxRecDepth 20000 in
theorem ggL_hungryDaysOf_X1_hungryDaysOf : GoodIn wsL_hungryDaysOf wsX1_hungryDaysOf := goodIn_ca (goodIn_r _ [6, 7, 8, 9, 10, 11, 5, 12, 13, 14, 15, 16, 17, 18, 19, 20, 21, 22, 23, 24, 25, 26, 27, 28, 29, 30, 31, 32, 33] (by decide +kernel) (by decide +kernel)) (goodIn_sub (fun _ h => List.mem_cons_of_mem _ (List.mem_append_right _ h)) (by decide +kernel))
set_option maxRecDepth 20000 in
theorem gL_hungryDaysOf_X1_hungryDaysOf : GoodIn wsL_hungryDaysOf (wsV RL 54 RX1 yX1_hungryDaysOf wsX1_hungryDaysOf) := goodIn_app (goodIn_of _ (by decide +kernel)) ggL_hungryDaysOf_X1_hungryDaysOf
theorem dL_hungryDaysOf_0 : decode cL_hungryDaysOf 0 = .ok (.aload_n 2, 1) := by decide +kernel
theorem dL_hungryDaysOf_1 : decode cL_hungryDaysOf 1 = .ok (.iconst 0, 1) := by decide +kernel
theorem dL_hungryDaysOf_2 : decode cL_hungryDaysOf 2 = .ok (.aload_n 0, 1) := by decide +kernel
theorem dL_hungryDaysOf_3 : decode cL_hungryDaysOf 3 = .ok (.iload_n 1, 1) := by decide +kernel
theorem dL_hungryDaysOf_4 : decode cL_hungryDaysOf 4 = .ok (.invokevirtual 54, 3) := by decide +kernel
theorem dL_hungryDaysOf_7 : decode cL_hungryDaysOf 7 = .ok (.i2l, 1) := by decide +kernel
theorem dL_hungryDaysOf_8 : decode cL_hungryDaysOf 8 = .ok (.lastore, 1) := by decide +kernel
theorem dL_hungryDaysOf_9 : decode cL_hungryDaysOf 9 = .ok (.goto 6, 3) := by decide +kernel
theorem dL_hungryDaysOf_12 : decode cL_hungryDaysOf 12 = .ok (.astore_n 3, 1) := by decide +kernel
theorem dL_hungryDaysOf_13 : decode cL_hungryDaysOf 13 = .ok (.iconst 1, 1) := by decide +kernel
theorem dL_hungryDaysOf_14 : decode cL_hungryDaysOf 14 = .ok (.ireturn, 1) := by decide +kernel
theorem dL_hungryDaysOf_15 : decode cL_hungryDaysOf 15 = .ok (.iconst 0, 1) := by decide +kernel
theorem dL_hungryDaysOf_16 : decode cL_hungryDaysOf 16 = .ok (.ireturn, 1) := by decide +kernel
set_option maxRecDepth 20000 in
theorem ggL_placesOf_X1_placesOf : GoodIn wsL_placesOf wsX1_placesOf := goodIn_ca (goodIn_r _ [6, 7, 8, 9, 10, 11, 5, 12, 13, 14, 15, 16, 17, 18, 19, 20, 21, 22, 23, 24, 25, 26, 27, 28, 29, 30, 31, 32, 33] (by decide +kernel) (by decide +kernel)) (goodIn_sub (fun _ h => List.mem_cons_of_mem _ (List.mem_append_right _ h)) (by decide +kernel))
set_option maxRecDepth 20000 in
theorem gL_placesOf_X1_placesOf : GoodIn wsL_placesOf (wsV RL 57 RX1 yX1_placesOf wsX1_placesOf) := goodIn_app (goodIn_of _ (by decide +kernel)) ggL_placesOf_X1_placesOf
theorem dL_placesOf_0 : decode cL_placesOf 0 = .ok (.aload_n 2, 1) := by decide +kernel
theorem dL_placesOf_1 : decode cL_placesOf 1 = .ok (.iconst 0, 1) := by decide +kernel
theorem dL_placesOf_2 : decode cL_placesOf 2 = .ok (.aload_n 0, 1) := by decide +kernel
theorem dL_placesOf_3 : decode cL_placesOf 3 = .ok (.iload_n 1, 1) := by decide +kernel
theorem dL_placesOf_4 : decode cL_placesOf 4 = .ok (.invokevirtual 57, 3) := by decide +kernel
theorem dL_placesOf_7 : decode cL_placesOf 7 = .ok (.i2l, 1) := by decide +kernel
theorem dL_placesOf_8 : decode cL_placesOf 8 = .ok (.lastore, 1) := by decide +kernel
theorem dL_placesOf_9 : decode cL_placesOf 9 = .ok (.goto 6, 3) := by decide +kernel
theorem dL_placesOf_12 : decode cL_placesOf 12 = .ok (.astore_n 3, 1) := by decide +kernel
theorem dL_placesOf_13 : decode cL_placesOf 13 = .ok (.iconst 1, 1) := by decide +kernel
theorem dL_placesOf_14 : decode cL_placesOf 14 = .ok (.ireturn, 1) := by decide +kernel
theorem dL_placesOf_15 : decode cL_placesOf 15 = .ok (.iconst 0, 1) := by decide +kernel
theorem dL_placesOf_16 : decode cL_placesOf 16 = .ok (.ireturn, 1) := by decide +kernel
set_option maxRecDepth 20000 in
theorem ggL_peopleIn_X1_peopleIn : GoodIn wsL_peopleIn wsX1_peopleIn := goodIn_ca (goodIn_r _ [6, 7, 8, 9, 10, 5, 11, 12, 13, 14, 15, 16, 17, 18, 19, 20, 21, 22, 23, 24, 25, 26, 27, 28, 29, 30, 31, 32, 33, 34, 35, 36, 37, 38, 39, 40, 41, 42, 43, 44] (by decide +kernel) (by decide +kernel)) (goodIn_sub (fun _ h => List.mem_cons_of_mem _ (List.mem_append_right _ h)) (by decide +kernel))
set_option maxRecDepth 20000 in
theorem gL_peopleIn_X1_peopleIn : GoodIn wsL_peopleIn (wsV RL 60 RX1 yX1_peopleIn wsX1_peopleIn) := goodIn_app (goodIn_of _ (by decide +kernel)) ggL_peopleIn_X1_peopleIn
theorem dL_peopleIn_0 : decode cL_peopleIn 0 = .ok (.aload_n 2, 1) := by decide +kernel
theorem dL_peopleIn_1 : decode cL_peopleIn 1 = .ok (.iconst 0, 1) := by decide +kernel
theorem dL_peopleIn_2 : decode cL_peopleIn 2 = .ok (.aload_n 0, 1) := by decide +kernel
theorem dL_peopleIn_3 : decode cL_peopleIn 3 = .ok (.iload_n 1, 1) := by decide +kernel
theorem dL_peopleIn_4 : decode cL_peopleIn 4 = .ok (.invokevirtual 60, 3) := by decide +kernel
theorem dL_peopleIn_7 : decode cL_peopleIn 7 = .ok (.i2l, 1) := by decide +kernel
theorem dL_peopleIn_8 : decode cL_peopleIn 8 = .ok (.lastore, 1) := by decide +kernel
theorem dL_peopleIn_9 : decode cL_peopleIn 9 = .ok (.goto 6, 3) := by decide +kernel
theorem dL_peopleIn_12 : decode cL_peopleIn 12 = .ok (.astore_n 3, 1) := by decide +kernel
theorem dL_peopleIn_13 : decode cL_peopleIn 13 = .ok (.iconst 1, 1) := by decide +kernel
theorem dL_peopleIn_14 : decode cL_peopleIn 14 = .ok (.ireturn, 1) := by decide +kernel
theorem dL_peopleIn_15 : decode cL_peopleIn 15 = .ok (.iconst 0, 1) := by decide +kernel
theorem dL_peopleIn_16 : decode cL_peopleIn 16 = .ok (.ireturn, 1) := by decide +kernel
set_option maxRecDepth 20000 in
theorem ggL_strawOf_X1_strawOf : GoodIn wsL_strawOf wsX1_strawOf := goodIn_ca (goodIn_r _ [6, 7, 8, 9, 10, 11, 5, 12, 13, 14, 15, 16, 17, 18, 19, 20, 21, 22, 23, 24, 25, 26, 27, 28, 29, 30, 31, 32, 33] (by decide +kernel) (by decide +kernel)) (goodIn_sub (fun _ h => List.mem_cons_of_mem _ (List.mem_append_right _ h)) (by decide +kernel))
set_option maxRecDepth 20000 in
theorem gL_strawOf_X1_strawOf : GoodIn wsL_strawOf (wsV RL 63 RX1 yX1_strawOf wsX1_strawOf) := goodIn_app (goodIn_of _ (by decide +kernel)) ggL_strawOf_X1_strawOf
theorem dL_strawOf_0 : decode cL_strawOf 0 = .ok (.aload_n 2, 1) := by decide +kernel
theorem dL_strawOf_1 : decode cL_strawOf 1 = .ok (.iconst 0, 1) := by decide +kernel
theorem dL_strawOf_2 : decode cL_strawOf 2 = .ok (.aload_n 0, 1) := by decide +kernel
theorem dL_strawOf_3 : decode cL_strawOf 3 = .ok (.iload_n 1, 1) := by decide +kernel
theorem dL_strawOf_4 : decode cL_strawOf 4 = .ok (.invokevirtual 63, 3) := by decide +kernel
theorem dL_strawOf_7 : decode cL_strawOf 7 = .ok (.i2l, 1) := by decide +kernel
theorem dL_strawOf_8 : decode cL_strawOf 8 = .ok (.lastore, 1) := by decide +kernel
theorem dL_strawOf_9 : decode cL_strawOf 9 = .ok (.goto 6, 3) := by decide +kernel
theorem dL_strawOf_12 : decode cL_strawOf 12 = .ok (.astore_n 3, 1) := by decide +kernel
theorem dL_strawOf_13 : decode cL_strawOf 13 = .ok (.iconst 1, 1) := by decide +kernel
theorem dL_strawOf_14 : decode cL_strawOf 14 = .ok (.ireturn, 1) := by decide +kernel
theorem dL_strawOf_15 : decode cL_strawOf 15 = .ok (.iconst 0, 1) := by decide +kernel
theorem dL_strawOf_16 : decode cL_strawOf 16 = .ok (.ireturn, 1) := by decide +kernel
set_option maxRecDepth 20000 in
theorem ggL_feversIn_X1_feversIn : GoodIn wsL_feversIn wsX1_feversIn := goodIn_ca (goodIn_r _ [6, 7, 8, 9, 10, 5, 11, 12, 13, 14, 15, 16, 17, 18, 19, 20, 21, 22, 23, 24, 25, 26, 27, 28, 29, 30, 31, 32, 33, 34, 35, 36, 37, 38, 39, 40, 41, 42, 43, 44, 45] (by decide +kernel) (by decide +kernel)) (goodIn_sub (fun _ h => List.mem_cons_of_mem _ (List.mem_append_right _ h)) (by decide +kernel))
set_option maxRecDepth 20000 in
theorem gL_feversIn_X1_feversIn : GoodIn wsL_feversIn (wsV RL 66 RX1 yX1_feversIn wsX1_feversIn) := goodIn_app (goodIn_of _ (by decide +kernel)) ggL_feversIn_X1_feversIn
theorem dL_feversIn_0 : decode cL_feversIn 0 = .ok (.aload_n 2, 1) := by decide +kernel
theorem dL_feversIn_1 : decode cL_feversIn 1 = .ok (.iconst 0, 1) := by decide +kernel
theorem dL_feversIn_2 : decode cL_feversIn 2 = .ok (.aload_n 0, 1) := by decide +kernel
theorem dL_feversIn_3 : decode cL_feversIn 3 = .ok (.iload_n 1, 1) := by decide +kernel
theorem dL_feversIn_4 : decode cL_feversIn 4 = .ok (.invokevirtual 66, 3) := by decide +kernel
theorem dL_feversIn_7 : decode cL_feversIn 7 = .ok (.i2l, 1) := by decide +kernel
theorem dL_feversIn_8 : decode cL_feversIn 8 = .ok (.lastore, 1) := by decide +kernel
theorem dL_feversIn_9 : decode cL_feversIn 9 = .ok (.goto 6, 3) := by decide +kernel
theorem dL_feversIn_12 : decode cL_feversIn 12 = .ok (.astore_n 3, 1) := by decide +kernel
theorem dL_feversIn_13 : decode cL_feversIn 13 = .ok (.iconst 1, 1) := by decide +kernel
theorem dL_feversIn_14 : decode cL_feversIn 14 = .ok (.ireturn, 1) := by decide +kernel
theorem dL_feversIn_15 : decode cL_feversIn 15 = .ok (.iconst 0, 1) := by decide +kernel
theorem dL_feversIn_16 : decode cL_feversIn 16 = .ok (.ireturn, 1) := by decide +kernel
set_option maxRecDepth 20000 in
theorem ggL_daysToGo_X1_daysToGo : GoodIn wsL_daysToGo wsX1_daysToGo := goodIn_ca (goodIn_r _ [6, 7, 8, 9, 10, 11, 5, 12, 13, 14, 15, 16, 17, 18, 19, 20, 21, 22, 23, 24, 25, 26, 27, 28, 29, 30, 31, 32, 33] (by decide +kernel) (by decide +kernel)) (goodIn_sub (fun _ h => List.mem_cons_of_mem _ (List.mem_append_right _ h)) (by decide +kernel))
set_option maxRecDepth 20000 in
theorem gL_daysToGo_X1_daysToGo : GoodIn wsL_daysToGo (wsV RL 69 RX1 yX1_daysToGo wsX1_daysToGo) := goodIn_app (goodIn_of _ (by decide +kernel)) ggL_daysToGo_X1_daysToGo
theorem dL_daysToGo_0 : decode cL_daysToGo 0 = .ok (.aload_n 2, 1) := by decide +kernel
theorem dL_daysToGo_1 : decode cL_daysToGo 1 = .ok (.iconst 0, 1) := by decide +kernel
theorem dL_daysToGo_2 : decode cL_daysToGo 2 = .ok (.aload_n 0, 1) := by decide +kernel
theorem dL_daysToGo_3 : decode cL_daysToGo 3 = .ok (.iload_n 1, 1) := by decide +kernel
theorem dL_daysToGo_4 : decode cL_daysToGo 4 = .ok (.invokevirtual 69, 3) := by decide +kernel
theorem dL_daysToGo_7 : decode cL_daysToGo 7 = .ok (.i2l, 1) := by decide +kernel
theorem dL_daysToGo_8 : decode cL_daysToGo 8 = .ok (.lastore, 1) := by decide +kernel
theorem dL_daysToGo_9 : decode cL_daysToGo 9 = .ok (.goto 6, 3) := by decide +kernel
theorem dL_daysToGo_12 : decode cL_daysToGo 12 = .ok (.astore_n 3, 1) := by decide +kernel
theorem dL_daysToGo_13 : decode cL_daysToGo 13 = .ok (.iconst 1, 1) := by decide +kernel
theorem dL_daysToGo_14 : decode cL_daysToGo 14 = .ok (.ireturn, 1) := by decide +kernel
theorem dL_daysToGo_15 : decode cL_daysToGo 15 = .ok (.iconst 0, 1) := by decide +kernel
theorem dL_daysToGo_16 : decode cL_daysToGo 16 = .ok (.ireturn, 1) := by decide +kernel