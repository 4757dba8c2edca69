theorem dX2_pass__0 : decode cX2_pass_ 0 = .ok (.iconst 0, 1) := by decide +kernel
theorem dX2_pass__1 : decode cX2_pass_ 1 = .ok (.istore_n 2, 1) := by decide +kernel
theorem dX2_pass__2 : decode cX2_pass_ 2 = .ok (.iload_n 2, 1) := by decide +kernel
theorem dX2_pass__3 : decode cX2_pass_ 3 = .ok (.iload_n 1, 1) := by decide +kernel
theorem dX2_pass__4 : decode cX2_pass_ 4 = .ok (.if_icmp .ge 13, 3) := by decide +kernel
theorem dX2_pass__7 : decode cX2_pass_ 7 = .ok (.aload_n 0, 1) := by decide +kernel
theorem dX2_pass__8 : decode cX2_pass_ 8 = .ok (.invokevirtual 46, 3) := by decide +kernel
theorem dX2_pass__11 : decode cX2_pass_ 11 = .ok (.iinc 2 1, 3) := by decide +kernel
theorem dX2_pass__14 : decode cX2_pass_ 14 = .ok (.goto (-12), 3) := by decide +kernel
theorem dX2_pass__17 : decode cX2_pass_ 17 = .ok (.return_, 1) := by decide +kernel
theorem dX2_all_0 : decode cX2_all 0 = .ok (.iconst 0, 1) := by decide +kernel
theorem dX2_all_1 : decode cX2_all 1 = .ok (.istore_n 2, 1) := by decide +kernel
theorem dX2_all_2 : decode cX2_all 2 = .ok (.aload_n 0, 1) := by decide +kernel
theorem dX2_all_3 : decode cX2_all 3 = .ok (.getfield 22, 3) := by decide +kernel
theorem dX2_all_6 : decode cX2_all 6 = .ok (.astore_n 3, 1) := by decide +kernel
theorem dX2_all_7 : decode cX2_all 7 = .ok (.aload_n 3, 1) := by decide +kernel
theorem dX2_all_8 : decode cX2_all 8 = .ok (.arraylength, 1) := by decide +kernel
theorem dX2_all_9 : decode cX2_all 9 = .ok (.istore 4, 2) := by decide +kernel
theorem dX2_all_11 : decode cX2_all 11 = .ok (.iconst 0, 1) := by decide +kernel
theorem dX2_all_12 : decode cX2_all 12 = .ok (.istore 5, 2) := by decide +kernel
theorem dX2_all_14 : decode cX2_all 14 = .ok (.iload 5, 2) := by decide +kernel
theorem dX2_all_16 : decode cX2_all 16 = .ok (.iload 4, 2) := by decide +kernel
theorem dX2_all_18 : decode cX2_all 18 = .ok (.if_icmp .ge 22, 3) := by decide +kernel
theorem dX2_all_21 : decode cX2_all 21 = .ok (.aload_n 3, 1) := by decide +kernel
theorem dX2_all_22 : decode cX2_all 22 = .ok (.iload 5, 2) := by decide +kernel
theorem dX2_all_24 : decode cX2_all 24 = .ok (.aaload, 1) := by decide +kernel
theorem dX2_all_25 : decode cX2_all 25 = .ok (.astore 6, 2) := by decide +kernel
theorem dX2_all_27 : decode cX2_all 27 = .ok (.iload_n 2, 1) := by decide +kernel
theorem dX2_all_28 : decode cX2_all 28 = .ok (.aload 6, 2) := by decide +kernel
theorem dX2_all_30 : decode cX2_all 30 = .ok (.iload_n 1, 1) := by decide +kernel
theorem dX2_all_31 : decode cX2_all 31 = .ok (.iaload, 1) := by decide +kernel
theorem dX2_all_32 : decode cX2_all 32 = .ok (.iadd, 1) := by decide +kernel
theorem dX2_all_33 : decode cX2_all 33 = .ok (.istore_n 2, 1) := by decide +kernel
theorem dX2_all_34 : decode cX2_all 34 = .ok (.iinc 5 1, 3) := by decide +kernel
theorem dX2_all_37 : decode cX2_all 37 = .ok (.goto (-23), 3) := by decide +kernel
theorem dX2_all_40 : decode cX2_all 40 = .ok (.iload_n 2, 1) := by decide +kernel
theorem dX2_all_41 : decode cX2_all 41 = .ok (.ireturn, 1) := by decide +kernel
set_option maxRecDepth 20000 in
theorem ggX2_isSame_X1_placesOf : GoodIn wsX2_isSame wsX1_placesOf := goodIn_ca (goodIn_r _ [15, 16, 17, 18, 19, 20, 14, 21, 22, 23, 24, 196, 197, 198, 199, 200, 201, 202, 203, 204, 205, 206, 207, 208, 209, 210, 211, 212, 213] (by decide +kernel) (by decide +kernel)) (goodIn_sub (fun _ h => List.mem_cons_of_mem _ (List.mem_append_right _ h)) (by decide +kernel))
set_option maxRecDepth 20000 in
theorem gX2_isSame_X1_placesOf : GoodIn wsX2_isSame (wsV RX2 49 RX1 yX1_placesOf wsX1_placesOf) := goodIn_app (goodIn_of _ (by decide +kernel)) ggX2_isSame_X1_placesOf
set_option maxRecDepth 20000 in
theorem ggX2_isSame_X1_peopleIn : GoodIn wsX2_isSame wsX1_peopleIn := goodIn_ca (goodIn_r _ [28, 16, 18, 19, 20, 14, 21, 22, 23, 24, 29, 30, 31, 32, 33, 34, 35, 36, 37, 38, 39, 40, 196, 197, 198, 199, 200, 201, 202, 203, 204, 205, 206, 207, 208, 209, 210, 211, 212, 213] (by decide +kernel) (by decide +kernel)) (goodIn_sub (fun _ h => List.mem_cons_of_mem _ (List.mem_append_right _ h)) (by decide +kernel))
set_option maxRecDepth 20000 in
theorem gX2_isSame_X1_peopleIn : GoodIn wsX2_isSame (wsV RX2 54 RX1 yX1_peopleIn wsX1_peopleIn) := goodIn_app (goodIn_of _ (by decide +kernel)) ggX2_isSame_X1_peopleIn
set_option maxRecDepth 20000 in
theorem ggX2_isSame_X2_in : GoodIn wsX2_isSame wsX2_in := goodIn_r _ [45, 2, 190, 191, 192, 193, 194, 195] (by decide +kernel) (by decide +kernel)
set_option maxRecDepth 20000 in
theorem gX2_isSame_X2_in : GoodIn wsX2_isSame (wsV RX2 42 RX2 yX2_in wsX2_in) := goodIn_app (goodIn_of _ (by decide +kernel)) ggX2_isSame_X2_in
set_option maxRecDepth 20000 in
theorem ggX2_isSame_X1_strawOf : GoodIn wsX2_isSame wsX1_strawOf := goodIn_ca (goodIn_r _ [49, 16, 50, 18, 19, 20, 14, 21, 22, 23, 24, 196, 197, 198, 199, 200, 201, 202, 203, 204, 205, 206, 207, 208, 209, 210, 211, 212, 213] (by decide +kernel) (by decide +kernel)) (goodIn_sub (fun _ h => List.mem_cons_of_mem _ (List.mem_append_right _ h)) (by decide +kernel))
set_option maxRecDepth 20000 in
theorem gX2_isSame_X1_strawOf : GoodIn wsX2_isSame (wsV RX2 57 RX1 yX1_strawOf wsX1_strawOf) := goodIn_app (goodIn_of _ (by decide +kernel)) ggX2_isSame_X1_strawOf
set_option maxRecDepth 20000 in
theorem ggX2_isSame_X1_feversIn : GoodIn wsX2_isSame wsX1_feversIn := goodIn_ca (goodIn_r _ [54, 16, 18, 19, 20, 14, 21, 22, 23, 24, 55, 56, 57, 32, 58, 34, 59, 35, 36, 37, 38, 39, 40, 196, 197, 198, 199, 200, 201, 202, 203, 204, 205, 206, 207, 208, 209, 210, 211, 212, 213] (by decide +kernel) (by decide +kernel)) (goodIn_sub (fun _ h => List.mem_cons_of_mem _ (List.mem_append_right _ h)) (by decide +kernel))
set_option maxRecDepth 20000 in
theorem gX2_isSame_X1_feversIn : GoodIn wsX2_isSame (wsV RX2 60 RX1 yX1_feversIn wsX1_feversIn) := goodIn_app (goodIn_of _ (by decide +kernel)) ggX2_isSame_X1_feversIn
set_option maxRecDepth 20000 in
theorem ggX2_isSame_X1_daysToGo : GoodIn wsX2_isSame wsX1_daysToGo := goodIn_ca (goodIn_r _ [63, 16, 64, 65, 66, 67, 14, 68, 22, 23, 69, 196, 197, 198, 199, 200, 201, 202, 203, 204, 205, 206, 207, 208, 209, 210, 211, 212, 213] (by decide +kernel) (by decide +kernel)) (goodIn_sub (fun _ h => List.mem_cons_of_mem _ (List.mem_append_right _ h)) (by decide +kernel))
set_option maxRecDepth 20000 in
theorem gX2_isSame_X1_daysToGo : GoodIn wsX2_isSame (wsV RX2 69 RX1 yX1_daysToGo wsX1_daysToGo) := goodIn_app (goodIn_of _ (by decide +kernel)) ggX2_isSame_X1_daysToGo
set_option maxRecDepth 20000 in
theorem ggX2_isSame_X1_keptFor : GoodIn wsX2_isSame wsX1_keptFor := goodIn_ca (goodIn_r _ [73, 16, 74, 65, 66, 67, 14, 68, 22, 23, 69, 196, 197, 198, 199, 200, 201, 202, 203, 204, 205, 206, 207, 208, 209, 210, 211, 212, 213] (by decide +kernel) (by decide +kernel)) (goodIn_sub (fun _ h => List.mem_cons_of_mem _ (List.mem_append_right _ h)) (by decide +kernel))
set_option maxRecDepth 20000 in
theorem gX2_isSame_X1_keptFor : GoodIn wsX2_isSame (wsV RX2 72 RX1 yX1_keptFor wsX1_keptFor) := goodIn_app (goodIn_of _ (by decide +kernel)) ggX2_isSame_X1_keptFor
set_option maxRecDepth 20000 in
theorem ggX2_isSame_X1_peopleOn : GoodIn wsX2_isSame wsX1_peopleOn := goodIn_ca (goodIn_r _ [78, 16, 65, 66, 67, 14, 68, 22, 23, 69, 29, 30, 31, 32, 33, 34, 35, 36, 37, 38, 39, 40, 196, 197, 198, 199, 200, 201, 202, 203, 204, 205, 206, 207, 208, 209, 210, 211, 212, 213] (by decide +kernel) (by decide +kernel)) (goodIn_sub (fun _ h => List.mem_cons_of_mem _ (List.mem_append_right _ h)) (by decide +kernel))
set_option maxRecDepth 20000 in
theorem gX2_isSame_X1_peopleOn : GoodIn wsX2_isSame (wsV RX2 75 RX1 yX1_peopleOn wsX1_peopleOn) := goodIn_app (goodIn_of _ (by decide +kernel)) ggX2_isSame_X1_peopleOn
set_option maxRecDepth 20000 in
theorem ggX2_isSame_X1_highestFeverOn : GoodIn wsX2_isSame wsX1_highestFeverOn := goodIn_ca (goodIn_r _ [82, 16, 65, 66, 67, 14, 68, 22, 23, 69, 83, 84, 85, 32, 86, 34, 59, 87, 5, 6, 7, 35, 36, 37, 38, 39, 40, 196, 197, 198, 199, 200, 201, 202, 203, 204, 205, 206, 207, 208, 209, 210, 211, 212, 213] (by decide +kernel) (by decide +kernel)) (goodIn_sub (fun _ h => List.mem_cons_of_mem _ (List.mem_append_right _ h)) (by decide +kernel))
set_option maxRecDepth 20000 in
theorem gX2_isSame_X1_highestFeverOn : GoodIn wsX2_isSame (wsV RX2 78 RX1 yX1_highestFeverOn wsX1_highestFeverOn) := goodIn_app (goodIn_of _ (by decide +kernel)) ggX2_isSame_X1_highestFeverOn
set_option maxRecDepth 20000 in
theorem ggX2_isSame_X1_feverOf : GoodIn wsX2_isSame wsX1_feverOf := goodIn_ca (goodIn_r _ [91, 16, 92, 93, 94, 95, 14, 96, 22, 23, 97, 196, 197, 198, 199, 200, 201, 202, 203, 204, 205, 206, 207, 208, 209, 210, 211, 212, 213] (by decide +kernel) (by decide +kernel)) (goodIn_sub (fun _ h => List.mem_cons_of_mem _ (List.mem_append_right _ h)) (by decide +kernel))
set_option maxRecDepth 20000 in
theorem gX2_isSame_X1_feverOf : GoodIn wsX2_isSame (wsV RX2 81 RX1 yX1_feverOf wsX1_feverOf) := goodIn_app (goodIn_of _ (by decide +kernel)) ggX2_isSame_X1_feverOf
set_option maxRecDepth 20000 in
theorem ggX2_isSame_X1_wardOf : GoodIn wsX2_isSame wsX1_wardOf := goodIn_ca (goodIn_r _ [101, 16, 93, 94, 95, 14, 96, 22, 23, 97, 102, 103, 104, 32, 105, 39, 40, 196, 197, 198, 199, 200, 201, 202, 203, 204, 205, 206, 207, 208, 209, 210, 211, 212, 213] (by decide +kernel) (by decide +kernel)) (goodIn_sub (fun _ h => List.mem_cons_of_mem _ (List.mem_append_right _ h)) (by decide +kernel))
set_option maxRecDepth 20000 in
theorem gX2_isSame_X1_wardOf : GoodIn wsX2_isSame (wsV RX2 84 RX1 yX1_wardOf wsX1_wardOf) := goodIn_app (goodIn_of _ (by decide +kernel)) ggX2_isSame_X1_wardOf
set_option maxRecDepth 20000 in
theorem ggX2_isSame_X1_bargeOf : GoodIn wsX2_isSame wsX1_bargeOf := goodIn_ca (goodIn_r _ [109, 16, 93, 94, 95, 14, 96, 22, 23, 97, 102, 103, 104, 32, 105, 39, 40, 196, 197, 198, 199, 200, 201, 202, 203, 204, 205, 206, 207, 208, 209, 210, 211, 212, 213] (by decide +kernel) (by decide +kernel)) (goodIn_sub (fun _ h => List.mem_cons_of_mem _ (List.mem_append_right _ h)) (by decide +kernel))
set_option maxRecDepth 20000 in
theorem gX2_isSame_X1_bargeOf : GoodIn wsX2_isSame (wsV RX2 87 RX1 yX1_bargeOf wsX1_bargeOf) := goodIn_app (goodIn_of _ (by decide +kernel)) ggX2_isSame_X1_bargeOf
set_option maxRecDepth 20000 in
theorem ggX2_isSame_X1_isHome : GoodIn wsX2_isSame wsX1_isHome := goodIn_ca (goodIn_r _ [113, 16, 114, 93, 94, 95, 14, 96, 22, 23, 97, 196, 197, 198, 199, 200, 201, 202, 203, 204, 205, 206, 207, 208, 209, 210, 211, 212, 213] (by decide +kernel) (by decide +kernel)) (goodIn_sub (fun _ h => List.mem_cons_of_mem _ (List.mem_append_right _ h)) (by decide +kernel))
set_option maxRecDepth 20000 in
theorem gX2_isSame_X1_isHome : GoodIn wsX2_isSame (wsV RX2 90 RX1 yX1_isHome wsX1_isHome) := goodIn_app (goodIn_of _ (by decide +kernel)) ggX2_isSame_X1_isHome
set_option maxRecDepth 20000 in
theorem ggX2_isSame_X1_isInGreatHouse : GoodIn wsX2_isSame wsX1_isInGreatHouse := goodIn_ca (goodIn_r _ [118, 16, 114, 93, 94, 95, 14, 96, 22, 23, 97, 196, 197, 198, 199, 200, 201, 202, 203, 204, 205, 206, 207, 208, 209, 210, 211, 212, 213] (by decide +kernel) (by decide +kernel)) (goodIn_sub (fun _ h => List.mem_cons_of_mem _ (List.mem_append_right _ h)) (by decide +kernel))
set_option maxRecDepth 20000 in
theorem gX2_isSame_X1_isInGreatHouse : GoodIn wsX2_isSame (wsV RX2 94 RX1 yX1_isInGreatHouse wsX1_isInGreatHouse) := goodIn_app (goodIn_of _ (by decide +kernel)) ggX2_isSame_X1_isInGreatHouse
set_option maxRecDepth 20000 in
theorem ggX2_isSame_X1_hungryDaysOf : GoodIn wsX2_isSame wsX1_hungryDaysOf := goodIn_ca (goodIn_r _ [122, 16, 123, 93, 94, 95, 14, 96, 22, 23, 97, 196, 197, 198, 199, 200, 201, 202, 203, 204, 205, 206, 207, 208, 209, 210, 211, 212, 213] (by decide +kernel) (by decide +kernel)) (goodIn_sub (fun _ h => List.mem_cons_of_mem _ (List.mem_append_right _ h)) (by decide +kernel))
set_option maxRecDepth 20000 in
theorem gX2_isSame_X1_hungryDaysOf : GoodIn wsX2_isSame (wsV RX2 97 RX1 yX1_hungryDaysOf wsX1_hungryDaysOf) := goodIn_app (goodIn_of _ (by decide +kernel)) ggX2_isSame_X1_hungryDaysOf
set_option maxRecDepth 20000 in
theorem ggX2_isSame_X1_day : GoodIn wsX2_isSame wsX1_day := goodIn_r _ [127, 16, 128, 196, 197, 198, 199, 200, 201, 202, 203, 204, 205, 206, 207, 208, 209, 210, 211, 212, 213] (by decide +kernel) (by decide +kernel)
set_option maxRecDepth 20000 in
theorem gX2_isSame_X1_day : GoodIn wsX2_isSame (wsV RX2 100 RX1 yX1_day wsX1_day) := goodIn_app (goodIn_of _ (by decide +kernel)) ggX2_isSame_X1_day
set_option maxRecDepth 20000 in
theorem ggX2_isSame_X1_wards : GoodIn wsX2_isSame wsX1_wards := goodIn_r _ [132, 16, 24, 196, 197, 198, 199, 200, 201, 202, 203, 204, 205, 206, 207, 208, 209, 210, 211, 212, 213] (by decide +kernel) (by decide +kernel)
set_option maxRecDepth 20000 in
theorem gX2_isSame_X1_wards : GoodIn wsX2_isSame (wsV RX2 103 RX1 yX1_wards wsX1_wards) := goodIn_app (goodIn_of _ (by decide +kernel)) ggX2_isSame_X1_wards
set_option maxRecDepth 20000 in
theorem ggX2_isSame_X1_barges : GoodIn wsX2_isSame wsX1_barges := goodIn_r _ [136, 16, 69, 196, 197, 198, 199, 200, 201, 202, 203, 204, 205, 206, 207, 208, 209, 210, 211, 212, 213] (by decide +kernel) (by decide +kernel)
set_option maxRecDepth 20000 in
theorem gX2_isSame_X1_barges : GoodIn wsX2_isSame (wsV RX2 105 RX1 yX1_barges wsX1_barges) := goodIn_app (goodIn_of _ (by decide +kernel)) ggX2_isSame_X1_barges
set_option maxRecDepth 20000 in
theorem ggX2_isSame_X1_people : GoodIn wsX2_isSame wsX1_people := goodIn_r _ [140, 16, 97, 196, 197, 198, 199, 200, 201, 202, 203, 204, 205, 206, 207, 208, 209, 210, 211, 212, 213] (by decide +kernel) (by decide +kernel)
set_option maxRecDepth 20000 in
theorem gX2_isSame_X1_people : GoodIn wsX2_isSame (wsV RX2 107 RX1 yX1_people wsX1_people) := goodIn_app (goodIn_of _ (by decide +kernel)) ggX2_isSame_X1_people
set_option maxRecDepth 20000 in
theorem ggX2_isSame_X1_bowls : GoodIn wsX2_isSame wsX1_bowls := goodIn_r _ [144, 16, 145, 196, 197, 198, 199, 200, 201, 202, 203, 204, 205, 206, 207, 208, 209, 210, 211, 212, 213] (by decide +kernel) (by decide +kernel)
set_option maxRecDepth 20000 in
theorem gX2_isSame_X1_bowls : GoodIn wsX2_isSame (wsV RX2 109 RX1 yX1_bowls wsX1_bowls) := goodIn_app (goodIn_of _ (by decide +kernel)) ggX2_isSame_X1_bowls
set_option maxRecDepth 20000 in
theorem ggX2_isSame_X1_bowlsEaten : GoodIn wsX2_isSame wsX1_bowlsEaten := goodIn_r _ [149, 16, 150, 196, 197, 198, 199, 200, 201, 202, 203, 204, 205, 206, 207, 208, 209, 210, 211, 212, 213] (by decide +kernel) (by decide +kernel)
set_option maxRecDepth 20000 in
theorem gX2_isSame_X1_bowlsEaten : GoodIn wsX2_isSame (wsV RX2 111 RX1 yX1_bowlsEaten wsX1_bowlsEaten) := goodIn_app (goodIn_of _ (by decide +kernel)) ggX2_isSame_X1_bowlsEaten
set_option maxRecDepth 20000 in
theorem ggX2_isSame_X1_freePlaces : GoodIn wsX2_isSame wsX1_freePlaces := goodIn_r _ [154, 16, 24, 155, 156, 157, 32, 158, 159, 160, 30, 31, 33, 34, 35, 36, 37, 38, 39, 40, 196, 197, 198, 199, 200, 201, 202, 203, 204, 205, 206, 207, 208, 209, 210, 211, 212, 213] (by decide +kernel) (by decide +kernel)
set_option maxRecDepth 20000 in
theorem gX2_isSame_X1_freePlaces : GoodIn wsX2_isSame (wsV RX2 114 RX1 yX1_freePlaces wsX1_freePlaces) := goodIn_app (goodIn_of _ (by decide +kernel)) ggX2_isSame_X1_freePlaces
set_option maxRecDepth 20000 in
theorem ggX2_isSame_X1_bowlsShort : GoodIn wsX2_isSame wsX1_bowlsShort := goodIn_r _ [164, 16, 145, 165, 5, 6, 7, 166, 167, 168, 32, 169, 34, 39, 196, 197, 198, 199, 200, 201, 202, 203, 204, 205, 206, 207, 208, 209, 210, 211, 212, 213] (by decide +kernel) (by decide +kernel)
set_option maxRecDepth 20000 in
theorem gX2_isSame_X1_bowlsShort : GoodIn wsX2_isSame (wsV RX2 117 RX1 yX1_bowlsShort wsX1_bowlsShort) := goodIn_app (goodIn_of _ (by decide +kernel)) ggX2_isSame_X1_bowlsShort
set_option maxRecDepth 20000 in
theorem ggX2_isSame_X1_bowlsNeeded : GoodIn wsX2_isSame wsX1_bowlsNeeded := goodIn_r _ [173, 16, 166, 167, 168, 32, 169, 34, 39, 196, 197, 198, 199, 200, 201, 202, 203, 204, 205, 206, 207, 208, 209, 210, 211, 212, 213] (by decide +kernel) (by decide +kernel)
set_option maxRecDepth 20000 in
theorem gX2_isSame_X1_bowlsNeeded : GoodIn wsX2_isSame (wsV RX2 120 RX1 yX1_bowlsNeeded wsX1_bowlsNeeded) := goodIn_app (goodIn_of _ (by decide +kernel)) ggX2_isSame_X1_bowlsNeeded
set_option maxRecDepth 20000 in
theorem ggX2_isSame_X1_peopleHome : GoodIn wsX2_isSame wsX1_peopleHome := goodIn_r _ [177, 16, 166, 167, 168, 32, 169, 34, 39, 196, 197, 198, 199, 200, 201, 202, 203, 204, 205, 206, 207, 208, 209, 210, 211, 212, 213] (by decide +kernel) (by decide +kernel)
set_option maxRecDepth 20000 in
theorem gX2_isSame_X1_peopleHome : GoodIn wsX2_isSame (wsV RX2 123 RX1 yX1_peopleHome wsX1_peopleHome) := goodIn_app (goodIn_of _ (by decide +kernel)) ggX2_isSame_X1_peopleHome
set_option maxRecDepth 20000 in
theorem ggX2_isSame_X2_all : GoodIn wsX2_isSame wsX2_all := goodIn_r _ [181, 2, 190, 191, 192, 193, 194, 195] (by decide +kernel) (by decide +kernel)
set_option maxRecDepth 20000 in
theorem gX2_isSame_X2_all : GoodIn wsX2_isSame (wsV RX2 126 RX2 yX2_all wsX2_all) := goodIn_app (goodIn_of _ (by decide +kernel)) ggX2_isSame_X2_all
set_option maxRecDepth 20000 in
theorem ggX2_isSame_X1_peopleInGreatHouse : GoodIn wsX2_isSame wsX1_peopleInGreatHouse := goodIn_r _ [185, 16, 166, 167, 168, 32, 169, 34, 39, 196, 197, 198, 199, 200, 201, 202, 203, 204, 205, 206, 207, 208, 209, 210, 211, 212, 213] (by decide +kernel) (by decide +kernel)
set_option maxRecDepth 20000 in
theorem gX2_isSame_X1_peopleInGreatHouse : GoodIn wsX2_isSame (wsV RX2 129 RX1 yX1_peopleInGreatHouse wsX1_peopleInGreatHouse) := goodIn_app (goodIn_of _ (by decide +kernel)) ggX2_isSame_X1_peopleInGreatHouse
set_option maxRecDepth 20000 in
theorem ggX2_isSame_X1_meanFever : GoodIn wsX2_isSame wsX1_meanFever := goodIn_r _ [189, 16, 24, 166, 167, 168, 32, 169, 34, 39, 55, 56, 57, 58, 59, 35, 36, 37, 38, 40, 196, 197, 198, 199, 200, 201, 202, 203, 204, 205, 206, 207, 208, 209, 210, 211, 212, 213] (by decide +kernel) (by decide +kernel)
set_option maxRecDepth 20000 in
theorem gX2_isSame_X1_meanFever : GoodIn wsX2_isSame (wsV RX2 132 RX1 yX1_meanFever wsX1_meanFever) := goodIn_app (goodIn_of _ (by decide +kernel)) ggX2_isSame_X1_meanFever
theorem dX2_isSame_0 : decode cX2_isSame 0 = .ok (.iconst 0, 1) := by decide +kernel
theorem dX2_isSame_1 : decode cX2_isSame 1 = .ok (.istore_n 2, 1) := by decide +kernel
theorem dX2_isSame_2 : decode cX2_isSame 2 = .ok (.iconst 0, 1) := by decide +kernel
theorem dX2_isSame_3 : decode cX2_isSame 3 = .ok (.istore_n 3, 1) := by decide +kernel
theorem dX2_isSame_4 : decode cX2_isSame 4 = .ok (.iconst 0, 1) := by decide +kernel
theorem dX2_isSame_5 : decode cX2_isSame 5 = .ok (.istore 4, 2) := by decide +kernel
theorem dX2_isSame_7 : decode cX2_isSame 7 = .ok (.iconst 0, 1) := by decide +kernel
theorem dX2_isSame_8 : decode cX2_isSame 8 = .ok (.istore 5, 2) := by decide +kernel
theorem dX2_isSame_10 : decode cX2_isSame 10 = .ok (.iload 5, 2) := by decide +kernel
theorem dX2_isSame_12 : decode cX2_isSame 12 = .ok (.aload_n 0, 1) := by decide +kernel
theorem dX2_isSame_13 : decode cX2_isSame 13 = .ok (.getfield 15, 3) := by decide +kernel
theorem dX2_isSame_16 : decode cX2_isSame 16 = .ok (.arraylength, 1) := by decide +kernel
theorem dX2_isSame_17 : decode cX2_isSame 17 = .ok (.if_icmp .ge 160, 3) := by decide +kernel
theorem dX2_isSame_20 : decode cX2_isSame 20 = .ok (.iconst 0, 1) := by decide +kernel
theorem dX2_isSame_21 : decode cX2_isSame 21 = .ok (.istore 6, 2) := by decide +kernel
theorem dX2_isSame_23 : decode cX2_isSame 23 = .ok (.aload_n 0, 1) := by decide +kernel
theorem dX2_isSame_24 : decode cX2_isSame 24 = .ok (.getfield 22, 3) := by decide +kernel
theorem dX2_isSame_27 : decode cX2_isSame 27 = .ok (.astore 7, 2) := by decide +kernel
theorem dX2_isSame_29 : decode cX2_isSame 29 = .ok (.aload 7, 2) := by decide +kernel
theorem dX2_isSame_31 : decode cX2_isSame 31 = .ok (.arraylength, 1) := by decide +kernel
theorem dX2_isSame_32 : decode cX2_isSame 32 = .ok (.istore 8, 2) := by decide +kernel
