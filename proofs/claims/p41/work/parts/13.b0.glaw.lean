set_option maxRecDepth 20000 in
theorem ggL_law_X1_init : GoodIn wsL_law wsX1_init := goodIn_r _ [16, 17, 18, 19, 20, 21, 22, 23, 24, 25, 26, 27, 28, 29, 7, 30, 31, 32, 33, 34, 35, 36, 37, 38, 39, 40, 440, 441, 442, 443, 444, 445, 446, 447, 448, 449, 450, 451, 452, 453, 454, 455, 438, 439] (by decide +kernel) (by decide +kernel)
set_option maxRecDepth 20000 in
theorem gL_law_X1_init : GoodIn wsL_law (wsX1_init) := ggL_law_X1_init
set_option maxRecDepth 20000 in
theorem ggL_law_L_build : GoodIn wsL_law wsL_build := goodIn_ca (goodIn_ca (goodIn_ca (goodIn_r _ [44, 45, 46, 47, 48, 7, 49, 50, 51, 52, 53, 18, 19, 54, 55, 56, 57, 58, 59, 60, 43, 61, 62, 63, 64, 65, 66, 67, 68, 69, 2, 70, 71, 72, 73, 74, 23, 75, 76, 77, 78, 22, 79, 80, 30, 81, 82, 83, 84, 85, 86, 87, 88, 89, 90, 91, 92, 93, 32, 33, 94, 95, 96, 97, 98, 99, 100, 101, 102, 103, 104, 105, 106, 107, 108, 109, 34, 110, 111, 112, 113, 35, 36, 456, 457, 458, 459, 460, 461, 438, 439, 440, 441, 442, 443, 444, 445, 446, 447, 448, 449, 450, 451, 452, 453, 454, 455] (by rfl) (by decide +kernel)) (goodIn_sub (fun _ h => List.mem_append_left _ (List.mem_append_left _ (List.mem_append_right _ h))) (by decide +kernel))) (goodIn_sub (fun _ h => List.mem_append_left _ (List.mem_append_right _ h)) (by decide +kernel))) (goodIn_sub (fun _ h => List.mem_append_right _ h) (by decide +kernel))
set_option maxRecDepth 20000 in
theorem gL_law_L_build : GoodIn wsL_law (va_wsS RL 76 yL_build wsL_build) := goodIn_app (goodIn_of _ (by decide +kernel)) ggL_law_L_build
set_option maxRecDepth 20000 in
theorem ggL_law_X1_wards : GoodIn wsL_law wsX1_wards := goodIn_r _ [117, 23, 75, 438, 439, 440, 441, 442, 443, 444, 445, 446, 447, 448, 449, 450, 451, 452, 453, 454, 455] (by decide +kernel) (by decide +kernel)
set_option maxRecDepth 20000 in
theorem gL_law_X1_wards : GoodIn wsL_law (wsV RL 80 RX1 yX1_wards wsX1_wards) := goodIn_app (goodIn_of _ (by decide +kernel)) ggL_law_X1_wards
set_option maxRecDepth 20000 in
theorem ggL_law_X1_barges : GoodIn wsL_law wsX1_barges := goodIn_r _ [121, 23, 88, 438, 439, 440, 441, 442, 443, 444, 445, 446, 447, 448, 449, 450, 451, 452, 453, 454, 455] (by decide +kernel) (by decide +kernel)
set_option maxRecDepth 20000 in
theorem gL_law_X1_barges : GoodIn wsL_law (wsV RL 83 RX1 yX1_barges wsX1_barges) := goodIn_app (goodIn_of _ (by decide +kernel)) ggL_law_X1_barges
set_option maxRecDepth 20000 in
theorem ggL_law_L_cell : GoodIn wsL_law wsL_cell := goodIn_r _ [61, 62] (by decide +kernel) (by decide +kernel)
set_option maxRecDepth 20000 in
theorem gL_law_L_cell : GoodIn wsL_law (va_wsS RL 65 yL_cell wsL_cell) := goodIn_app (goodIn_of _ (by decide +kernel)) ggL_law_L_cell
set_option maxRecDepth 20000 in
theorem ggL_law_L_act : GoodIn wsL_law wsL_act := goodIn_ca (goodIn_ca (goodIn_ca (goodIn_r _ [124, 125, 48, 49, 50, 7, 126, 63, 64, 43, 65, 66, 81, 82, 47, 83, 55, 94, 95, 96, 2, 97, 71, 72, 73, 74, 23, 98, 99, 100, 101, 102, 103, 104, 88, 105, 106, 107, 22, 108, 109, 34, 33, 32, 110, 111, 112, 113, 35, 36, 127, 128, 129, 130, 131, 132, 133, 134, 135, 136, 137, 138, 139, 140, 75, 141, 142, 143, 144, 58, 145, 146, 147, 148, 149, 150, 151, 152, 153, 154, 155, 156, 157, 158, 159, 160, 30, 161, 162, 163, 164, 165, 166, 167, 168, 169, 170, 171, 172, 173, 174, 175, 176, 177, 178, 179, 180, 181, 54, 38, 56, 182, 57, 183, 184, 185, 186, 187, 188, 189, 190, 191, 192, 193, 194, 195, 196, 197, 198, 199, 200, 201, 202, 203, 204, 29, 80, 39, 37, 205, 206, 207, 208, 209, 31, 210, 4, 5, 6, 211, 212, 213, 214, 215, 9, 10, 216, 217, 218, 219, 93, 220, 221, 222, 223, 224, 225, 226, 227, 228, 229, 230, 231, 232, 233, 234, 235, 236, 237, 238, 239, 40, 240, 241, 242, 243, 244, 245, 246, 247, 248, 456, 457, 458, 459, 460, 461, 438, 439, 440, 441, 442, 443, 444, 445, 446, 447, 448, 449, 450, 451, 452, 453, 454, 455] (by rfl) (by decide +kernel)) (goodIn_sub (fun _ h => List.mem_append_left _ (List.mem_append_left _ (List.mem_append_right _ h))) (by decide +kernel))) (goodIn_sub (fun _ h => List.mem_append_left _ (List.mem_append_right _ h)) (by decide +kernel))) (goodIn_sub (fun _ h => List.mem_append_right _ h) (by decide +kernel))
set_option maxRecDepth 20000 in
theorem gL_law_L_act : GoodIn wsL_law (va_wsS RL 85 yL_act wsL_act) := goodIn_app (goodIn_of _ (by decide +kernel)) ggL_law_L_act
set_option maxRecDepth 20000 in
theorem ggL_law_X1_digest : GoodIn wsL_law wsX1_digest := goodIn_r _ [252, 253, 23, 254, 75, 88, 98, 131, 255, 256, 257, 2, 258, 259, 260, 261, 262, 263, 264, 136, 265, 162, 163, 22, 164, 109, 165, 166, 167, 168, 35, 36, 266, 267, 268, 269, 34, 270, 271, 272, 273, 274, 275, 276, 277, 278, 279, 280, 281, 282, 153, 154, 155, 156, 438, 439, 440, 441, 442, 443, 444, 445, 446, 447, 448, 449, 450, 451, 452, 453, 454, 455] (by decide +kernel) (by decide +kernel)
set_option maxRecDepth 20000 in
theorem gL_law_X1_digest : GoodIn wsL_law (wsV RL 89 RX1 yX1_digest wsX1_digest) := goodIn_app (goodIn_of _ (by decide +kernel)) ggL_law_X1_digest
set_option maxRecDepth 20000 in
theorem ggL_law_L_below : GoodIn wsL_law wsL_below := goodIn_r _ [65, 66] (by decide +kernel) (by decide +kernel)
set_option maxRecDepth 20000 in
theorem gL_law_L_below : GoodIn wsL_law (va_wsS RL 15 yL_below wsL_below) := goodIn_app (goodIn_of _ (by decide +kernel)) ggL_law_L_below
set_option maxRecDepth 20000 in
theorem ggL_law_X1_homeAfter : GoodIn wsL_law wsX1_homeAfter := goodIn_ca (goodIn_r _ [286, 189, 190, 2, 191, 71, 72, 287, 288, 289, 290, 24, 23, 291, 292, 293, 22, 294, 200, 29, 205, 80, 93, 109, 30, 295, 296, 297, 298, 31, 32, 33, 34, 35, 36, 37, 196, 197, 198, 199, 201, 202, 203, 204, 39, 165, 166, 167, 168, 206, 207, 208, 209, 210, 4, 5, 6, 211, 212, 213, 214, 215, 9, 10, 216, 217, 218, 219, 220, 221, 222, 223, 224, 225, 226, 227, 228, 229, 230, 231, 232, 233, 234, 235, 110, 111, 112, 113, 236, 237, 238, 239, 40, 240, 158, 159, 160, 161, 162, 163, 164, 241, 242, 243, 244, 245, 246, 247, 248, 192, 193, 194, 195, 438, 439, 440, 441, 442, 443, 444, 445, 446, 447, 448, 449, 450, 451, 452, 453, 454, 455] (by decide +kernel) (by decide +kernel)) (goodIn_sub (fun _ h => List.mem_append_left _ (List.mem_append_left _ (List.mem_append_right _ h))) (by decide +kernel))
set_option maxRecDepth 20000 in
theorem gL_law_X1_homeAfter : GoodIn wsL_law (wsV RL 93 RX1 yX1_homeAfter wsX1_homeAfter) := goodIn_app (goodIn_of _ (by decide +kernel)) ggL_law_X1_homeAfter
set_option maxRecDepth 20000 in
theorem ggL_law_X1_greatHouseAfter : GoodIn wsL_law wsX1_greatHouseAfter := goodIn_ca (goodIn_r _ [302, 189, 190, 2, 191, 71, 72, 287, 288, 289, 290, 24, 23, 291, 292, 293, 22, 294, 200, 29, 205, 80, 93, 109, 30, 295, 296, 297, 298, 31, 32, 33, 34, 35, 36, 37, 196, 197, 198, 199, 201, 202, 203, 204, 39, 165, 166, 167, 168, 206, 207, 208, 209, 210, 4, 5, 6, 211, 212, 213, 214, 215, 9, 10, 216, 217, 218, 219, 220, 221, 222, 223, 224, 225, 226, 227, 228, 229, 230, 231, 232, 233, 234, 235, 110, 111, 112, 113, 236, 237, 238, 239, 40, 240, 158, 159, 160, 161, 162, 163, 164, 241, 242, 243, 244, 245, 246, 247, 248, 192, 193, 194, 195, 438, 439, 440, 441, 442, 443, 444, 445, 446, 447, 448, 449, 450, 451, 452, 453, 454, 455] (by decide +kernel) (by decide +kernel)) (goodIn_sub (fun _ h => List.mem_append_left _ (List.mem_append_left _ (List.mem_append_right _ h))) (by decide +kernel))
set_option maxRecDepth 20000 in
theorem gL_law_X1_greatHouseAfter : GoodIn wsL_law (wsV RL 96 RX1 yX1_greatHouseAfter wsX1_greatHouseAfter) := goodIn_app (goodIn_of _ (by decide +kernel)) ggL_law_X1_greatHouseAfter
set_option maxRecDepth 20000 in
theorem ggL_law_X1_people : GoodIn wsL_law wsX1_people := goodIn_r _ [306, 23, 98, 438, 439, 440, 441, 442, 443, 444, 445, 446, 447, 448, 449, 450, 451, 452, 453, 454, 455] (by decide +kernel) (by decide +kernel)
set_option maxRecDepth 20000 in
theorem gL_law_X1_people : GoodIn wsL_law (wsV RL 99 RX1 yX1_people wsX1_people) := goodIn_app (goodIn_of _ (by decide +kernel)) ggL_law_X1_people
set_option maxRecDepth 20000 in
theorem ggL_law_X1_daysUntilHome : GoodIn wsL_law wsX1_daysUntilHome := goodIn_ca (goodIn_r _ [310, 24, 23, 281, 149, 150, 151, 2, 152, 103, 104, 98, 291, 292, 293, 22, 294, 200, 29, 205, 80, 93, 109, 30, 295, 296, 297, 298, 31, 32, 33, 34, 35, 36, 37, 196, 197, 198, 199, 201, 202, 203, 204, 39, 165, 166, 167, 168, 206, 207, 208, 209, 210, 4, 5, 6, 211, 212, 213, 214, 215, 9, 10, 216, 217, 218, 219, 220, 221, 222, 223, 224, 225, 226, 227, 228, 229, 230, 231, 232, 233, 234, 235, 110, 111, 112, 113, 236, 237, 238, 239, 40, 240, 158, 159, 160, 161, 162, 163, 164, 241, 242, 243, 244, 245, 246, 247, 248, 438, 439, 440, 441, 442, 443, 444, 445, 446, 447, 448, 449, 450, 451, 452, 453, 454, 455] (by decide +kernel) (by decide +kernel)) (goodIn_sub (fun _ h => List.mem_append_right _ h) (by decide +kernel))
set_option maxRecDepth 20000 in
theorem gL_law_X1_daysUntilHome : GoodIn wsL_law (wsV RL 101 RX1 yX1_daysUntilHome wsX1_daysUntilHome) := goodIn_app (goodIn_of _ (by decide +kernel)) ggL_law_X1_daysUntilHome
set_option maxRecDepth 20000 in
theorem ggL_law_X1_peopleIn : GoodIn wsL_law wsX1_peopleIn := goodIn_ca (goodIn_r _ [314, 23, 137, 138, 139, 2, 140, 103, 104, 75, 265, 162, 163, 22, 164, 109, 165, 166, 167, 168, 35, 36, 438, 439, 440, 441, 442, 443, 444, 445, 446, 447, 448, 449, 450, 451, 452, 453, 454, 455] (by decide +kernel) (by decide +kernel)) (goodIn_sub (fun _ h => List.mem_append_right _ h) (by decide +kernel))
set_option maxRecDepth 20000 in
theorem gL_law_X1_peopleIn : GoodIn wsL_law (wsV RL 104 RX1 yX1_peopleIn wsX1_peopleIn) := goodIn_app (goodIn_of _ (by decide +kernel)) ggL_law_X1_peopleIn
set_option maxRecDepth 20000 in
theorem ggL_law_X1_placesOf : GoodIn wsL_law wsX1_placesOf := goodIn_ca (goodIn_r _ [318, 23, 264, 137, 138, 139, 2, 140, 103, 104, 75, 438, 439, 440, 441, 442, 443, 444, 445, 446, 447, 448, 449, 450, 451, 452, 453, 454, 455] (by decide +kernel) (by decide +kernel)) (goodIn_sub (fun _ h => List.mem_append_right _ h) (by decide +kernel))
set_option maxRecDepth 20000 in
theorem gL_law_X1_placesOf : GoodIn wsL_law (wsV RL 107 RX1 yX1_placesOf wsX1_placesOf) := goodIn_app (goodIn_of _ (by decide +kernel)) ggL_law_X1_placesOf
set_option maxRecDepth 20000 in
theorem ggL_law_X1_feversIn : GoodIn wsL_law wsX1_feversIn := goodIn_ca (goodIn_r _ [322, 23, 137, 138, 139, 2, 140, 103, 104, 75, 266, 267, 268, 22, 269, 109, 34, 165, 166, 167, 168, 35, 36, 438, 439, 440, 441, 442, 443, 444, 445, 446, 447, 448, 449, 450, 451, 452, 453, 454, 455] (by decide +kernel) (by decide +kernel)) (goodIn_sub (fun _ h => List.mem_append_right _ h) (by decide +kernel))
set_option maxRecDepth 20000 in
theorem gL_law_X1_feversIn : GoodIn wsL_law (wsV RL 110 RX1 yX1_feversIn wsX1_feversIn) := goodIn_app (goodIn_of _ (by decide +kernel)) ggL_law_X1_feversIn
set_option maxRecDepth 20000 in
theorem ggL_law_X1_peopleOn : GoodIn wsL_law wsX1_peopleOn := goodIn_ca (goodIn_r _ [326, 23, 99, 100, 101, 2, 102, 103, 104, 88, 265, 162, 163, 22, 164, 109, 165, 166, 167, 168, 35, 36, 438, 439, 440, 441, 442, 443, 444, 445, 446, 447, 448, 449, 450, 451, 452, 453, 454, 455] (by decide +kernel) (by decide +kernel)) (goodIn_sub (fun _ h => List.mem_append_right _ h) (by decide +kernel))
set_option maxRecDepth 20000 in
theorem gL_law_X1_peopleOn : GoodIn wsL_law (wsV RL 113 RX1 yX1_peopleOn wsX1_peopleOn) := goodIn_app (goodIn_of _ (by decide +kernel)) ggL_law_X1_peopleOn
set_option maxRecDepth 20000 in
theorem ggL_law_X1_daysToGo : GoodIn wsL_law wsX1_daysToGo := goodIn_ca (goodIn_r _ [330, 23, 274, 99, 100, 101, 2, 102, 103, 104, 88, 438, 439, 440, 441, 442, 443, 444, 445, 446, 447, 448, 449, 450, 451, 452, 453, 454, 455] (by decide +kernel) (by decide +kernel)) (goodIn_sub (fun _ h => List.mem_append_right _ h) (by decide +kernel))
set_option maxRecDepth 20000 in
theorem gL_law_X1_daysToGo : GoodIn wsL_law (wsV RL 116 RX1 yX1_daysToGo wsX1_daysToGo) := goodIn_app (goodIn_of _ (by decide +kernel)) ggL_law_X1_daysToGo
set_option maxRecDepth 20000 in
theorem ggL_law_X1_keptFor : GoodIn wsL_law wsX1_keptFor := goodIn_ca (goodIn_r _ [334, 23, 275, 99, 100, 101, 2, 102, 103, 104, 88, 438, 439, 440, 441, 442, 443, 444, 445, 446, 447, 448, 449, 450, 451, 452, 453, 454, 455] (by decide +kernel) (by decide +kernel)) (goodIn_sub (fun _ h => List.mem_append_right _ h) (by decide +kernel))
set_option maxRecDepth 20000 in
theorem gL_law_X1_keptFor : GoodIn wsL_law (wsV RL 119 RX1 yX1_keptFor wsX1_keptFor) := goodIn_app (goodIn_of _ (by decide +kernel)) ggL_law_X1_keptFor
set_option maxRecDepth 20000 in
theorem ggL_law_X1_highestFeverOn : GoodIn wsL_law wsX1_highestFeverOn := goodIn_ca (goodIn_r _ [338, 23, 99, 100, 101, 2, 102, 103, 104, 88, 339, 340, 341, 22, 342, 109, 34, 210, 4, 5, 6, 165, 166, 167, 168, 35, 36, 438, 439, 440, 441, 442, 443, 444, 445, 446, 447, 448, 449, 450, 451, 452, 453, 454, 455] (by decide +kernel) (by decide +kernel)) (goodIn_sub (fun _ h => List.mem_append_right _ h) (by decide +kernel))
set_option maxRecDepth 20000 in
theorem gL_law_X1_highestFeverOn : GoodIn wsL_law (wsV RL 122 RX1 yX1_highestFeverOn wsX1_highestFeverOn) := goodIn_app (goodIn_of _ (by decide +kernel)) ggL_law_X1_highestFeverOn
set_option maxRecDepth 20000 in
theorem ggL_law_X1_peopleHome : GoodIn wsL_law wsX1_peopleHome := goodIn_r _ [346, 23, 192, 193, 194, 22, 195, 109, 35, 438, 439, 440, 441, 442, 443, 444, 445, 446, 447, 448, 449, 450, 451, 452, 453, 454, 455] (by decide +kernel) (by decide +kernel)
set_option maxRecDepth 20000 in
theorem gL_law_X1_peopleHome : GoodIn wsL_law (wsV RL 125 RX1 yX1_peopleHome wsX1_peopleHome) := goodIn_app (goodIn_of _ (by decide +kernel)) ggL_law_X1_peopleHome
