set_option maxRecDepth 20000 in
theorem ggL_law_X1_peopleInGreatHouse : GoodIn wsL_law wsX1_peopleInGreatHouse := goodIn_r _ [350, 23, 192, 193, 194, 22, 195, 109, 35, 438, 439, 440, 441, 442, 443, 444, 445, 446, 447, 448, 449, 450, 451, 452, 453, 454, 455] (by decide +kernel) (by decide +kernel)
set_option maxRecDepth 20000 in
theorem gL_law_X1_peopleInGreatHouse : GoodIn wsL_law (wsV RL 128 RX1 yX1_peopleInGreatHouse wsX1_peopleInGreatHouse) := goodIn_app (goodIn_of _ (by decide +kernel)) ggL_law_X1_peopleInGreatHouse
set_option maxRecDepth 20000 in
theorem ggL_law_X1_freePlaces : GoodIn wsL_law wsX1_freePlaces := goodIn_r _ [354, 23, 75, 157, 158, 159, 22, 160, 30, 161, 162, 163, 164, 109, 165, 166, 167, 168, 35, 36, 438, 439, 440, 441, 442, 443, 444, 445, 446, 447, 448, 449, 450, 451, 452, 453, 454, 455] (by decide +kernel) (by decide +kernel)
set_option maxRecDepth 20000 in
theorem gL_law_X1_freePlaces : GoodIn wsL_law (wsV RL 131 RX1 yX1_freePlaces wsX1_freePlaces) := goodIn_app (goodIn_of _ (by decide +kernel)) ggL_law_X1_freePlaces
set_option maxRecDepth 20000 in
theorem ggL_law_X1_bowlsNeeded : GoodIn wsL_law wsX1_bowlsNeeded := goodIn_r _ [358, 23, 192, 193, 194, 22, 195, 109, 35, 438, 439, 440, 441, 442, 443, 444, 445, 446, 447, 448, 449, 450, 451, 452, 453, 454, 455] (by decide +kernel) (by decide +kernel)
set_option maxRecDepth 20000 in
theorem gL_law_X1_bowlsNeeded : GoodIn wsL_law (wsV RL 134 RX1 yX1_bowlsNeeded wsX1_bowlsNeeded) := goodIn_app (goodIn_of _ (by decide +kernel)) ggL_law_X1_bowlsNeeded
set_option maxRecDepth 20000 in
theorem ggL_law_X1_bowlsShort : GoodIn wsL_law wsX1_bowlsShort := goodIn_r _ [362, 23, 131, 363, 4, 5, 6, 192, 193, 194, 22, 195, 109, 35, 438, 439, 440, 441, 442, 443, 444, 445, 446, 447, 448, 449, 450, 451, 452, 453, 454, 455] (by decide +kernel) (by decide +kernel)
set_option maxRecDepth 20000 in
theorem gL_law_X1_bowlsShort : GoodIn wsL_law (wsV RL 137 RX1 yX1_bowlsShort wsX1_bowlsShort) := goodIn_app (goodIn_of _ (by decide +kernel)) ggL_law_X1_bowlsShort
set_option maxRecDepth 20000 in
theorem ggL_law_X1_bowls : GoodIn wsL_law wsX1_bowls := goodIn_r _ [367, 23, 131, 438, 439, 440, 441, 442, 443, 444, 445, 446, 447, 448, 449, 450, 451, 452, 453, 454, 455] (by decide +kernel) (by decide +kernel)
set_option maxRecDepth 20000 in
theorem gL_law_X1_bowls : GoodIn wsL_law (wsV RL 140 RX1 yX1_bowls wsX1_bowls) := goodIn_app (goodIn_of _ (by decide +kernel)) ggL_law_X1_bowls
set_option maxRecDepth 20000 in
theorem ggL_law_X1_feverOf : GoodIn wsL_law wsX1_feverOf := goodIn_ca (goodIn_r _ [371, 23, 280, 149, 150, 151, 2, 152, 103, 104, 98, 438, 439, 440, 441, 442, 443, 444, 445, 446, 447, 448, 449, 450, 451, 452, 453, 454, 455] (by decide +kernel) (by decide +kernel)) (goodIn_sub (fun _ h => List.mem_append_right _ h) (by decide +kernel))
set_option maxRecDepth 20000 in
theorem gL_law_X1_feverOf : GoodIn wsL_law (wsV RL 147 RX1 yX1_feverOf wsX1_feverOf) := goodIn_app (goodIn_of _ (by decide +kernel)) ggL_law_X1_feverOf
set_option maxRecDepth 20000 in
theorem ggL_law_X1_hungryDaysOf : GoodIn wsL_law wsX1_hungryDaysOf := goodIn_ca (goodIn_r _ [375, 23, 282, 149, 150, 151, 2, 152, 103, 104, 98, 438, 439, 440, 441, 442, 443, 444, 445, 446, 447, 448, 449, 450, 451, 452, 453, 454, 455] (by decide +kernel) (by decide +kernel)) (goodIn_sub (fun _ h => List.mem_append_right _ h) (by decide +kernel))
set_option maxRecDepth 20000 in
theorem gL_law_X1_hungryDaysOf : GoodIn wsL_law (wsV RL 150 RX1 yX1_hungryDaysOf wsX1_hungryDaysOf) := goodIn_app (goodIn_of _ (by decide +kernel)) ggL_law_X1_hungryDaysOf
set_option maxRecDepth 20000 in
theorem ggL_law_X1_wardOf : GoodIn wsL_law wsX1_wardOf := goodIn_ca (goodIn_r _ [379, 23, 149, 150, 151, 2, 152, 103, 104, 98, 153, 154, 155, 22, 156, 35, 36, 438, 439, 440, 441, 442, 443, 444, 445, 446, 447, 448, 449, 450, 451, 452, 453, 454, 455] (by decide +kernel) (by decide +kernel)) (goodIn_sub (fun _ h => List.mem_append_right _ h) (by decide +kernel))
set_option maxRecDepth 20000 in
theorem gL_law_X1_wardOf : GoodIn wsL_law (wsV RL 153 RX1 yX1_wardOf wsX1_wardOf) := goodIn_app (goodIn_of _ (by decide +kernel)) ggL_law_X1_wardOf
set_option maxRecDepth 20000 in
theorem ggL_law_X1_bargeOf : GoodIn wsL_law wsX1_bargeOf := goodIn_ca (goodIn_r _ [383, 23, 149, 150, 151, 2, 152, 103, 104, 98, 153, 154, 155, 22, 156, 35, 36, 438, 439, 440, 441, 442, 443, 444, 445, 446, 447, 448, 449, 450, 451, 452, 453, 454, 455] (by decide +kernel) (by decide +kernel)) (goodIn_sub (fun _ h => List.mem_append_right _ h) (by decide +kernel))
set_option maxRecDepth 20000 in
theorem gL_law_X1_bargeOf : GoodIn wsL_law (wsV RL 156 RX1 yX1_bargeOf wsX1_bargeOf) := goodIn_app (goodIn_of _ (by decide +kernel)) ggL_law_X1_bargeOf
set_option maxRecDepth 20000 in
theorem ggL_law_X1_isHome : GoodIn wsL_law wsX1_isHome := goodIn_ca (goodIn_r _ [387, 23, 281, 149, 150, 151, 2, 152, 103, 104, 98, 438, 439, 440, 441, 442, 443, 444, 445, 446, 447, 448, 449, 450, 451, 452, 453, 454, 455] (by decide +kernel) (by decide +kernel)) (goodIn_sub (fun _ h => List.mem_append_right _ h) (by decide +kernel))
set_option maxRecDepth 20000 in
theorem gL_law_X1_isHome : GoodIn wsL_law (wsV RL 159 RX1 yX1_isHome wsX1_isHome) := goodIn_app (goodIn_of _ (by decide +kernel)) ggL_law_X1_isHome
set_option maxRecDepth 20000 in
theorem ggL_law_X1_isInGreatHouse : GoodIn wsL_law wsX1_isInGreatHouse := goodIn_ca (goodIn_r _ [391, 23, 281, 149, 150, 151, 2, 152, 103, 104, 98, 438, 439, 440, 441, 442, 443, 444, 445, 446, 447, 448, 449, 450, 451, 452, 453, 454, 455] (by decide +kernel) (by decide +kernel)) (goodIn_sub (fun _ h => List.mem_append_right _ h) (by decide +kernel))
set_option maxRecDepth 20000 in
theorem gL_law_X1_isInGreatHouse : GoodIn wsL_law (wsV RL 163 RX1 yX1_isInGreatHouse wsX1_isInGreatHouse) := goodIn_app (goodIn_of _ (by decide +kernel)) ggL_law_X1_isInGreatHouse
set_option maxRecDepth 20000 in
theorem ggL_law_X1_bowlsEaten : GoodIn wsL_law wsX1_bowlsEaten := goodIn_r _ [395, 23, 255, 438, 439, 440, 441, 442, 443, 444, 445, 446, 447, 448, 449, 450, 451, 452, 453, 454, 455] (by decide +kernel) (by decide +kernel)
set_option maxRecDepth 20000 in
theorem gL_law_X1_bowlsEaten : GoodIn wsL_law (wsV RL 166 RX1 yX1_bowlsEaten wsX1_bowlsEaten) := goodIn_app (goodIn_of _ (by decide +kernel)) ggL_law_X1_bowlsEaten
set_option maxRecDepth 20000 in
theorem ggL_law_X1_pass : GoodIn wsL_law wsX1_pass := goodIn_ca (goodIn_r _ [188, 23, 189, 190, 2, 191, 71, 72, 192, 193, 194, 22, 195, 109, 35, 196, 197, 198, 199, 200, 201, 202, 203, 204, 29, 80, 39, 37, 205, 165, 166, 167, 168, 36, 206, 207, 208, 209, 31, 34, 210, 4, 5, 6, 211, 212, 213, 214, 215, 9, 10, 216, 217, 218, 219, 93, 33, 220, 221, 222, 223, 224, 225, 226, 227, 228, 229, 230, 231, 232, 233, 234, 235, 110, 111, 112, 113, 236, 237, 238, 239, 40, 32, 240, 158, 159, 160, 30, 161, 162, 163, 164, 241, 242, 243, 244, 245, 246, 247, 248, 438, 439, 440, 441, 442, 443, 444, 445, 446, 447, 448, 449, 450, 451, 452, 453, 454, 455] (by decide +kernel) (by decide +kernel)) (goodIn_sub (fun _ h => List.mem_append_left _ (List.mem_append_left _ (List.mem_append_right _ h))) (by decide +kernel))
set_option maxRecDepth 20000 in
theorem gL_law_X1_pass : GoodIn wsL_law (wsV RL 62 RX1 yX1_pass wsX1_pass) := goodIn_app (goodIn_of _ (by decide +kernel)) ggL_law_X1_pass
set_option maxRecDepth 20000 in
theorem ggL_law_X2_pass : GoodIn wsL_law wsX2_pass := goodIn_r _ [181, 54, 58, 38, 56, 182, 57, 7, 183, 184, 142, 143, 47, 144, 456, 457, 458, 459, 460, 461] (by rfl) (by decide +kernel)
set_option maxRecDepth 20000 in
theorem gL_law_X2_pass : GoodIn wsL_law (wsV RL 169 RX2 yX2_pass wsX2_pass) := goodIn_app (goodIn_of _ (by decide +kernel)) ggL_law_X2_pass
set_option maxRecDepth 20000 in
theorem ggL_law_X2_isSame : GoodIn wsL_law wsX2_isSame := goodIn_ca (goodIn_r _ [400, 56, 58, 57, 401, 4, 5, 6, 183, 54, 182, 402, 316, 317, 2, 318, 23, 264, 137, 138, 139, 140, 103, 104, 75, 403, 312, 313, 314, 265, 162, 163, 22, 164, 109, 165, 166, 167, 168, 35, 36, 184, 142, 143, 47, 144, 404, 405, 406, 407, 136, 408, 320, 321, 322, 266, 267, 268, 269, 34, 409, 328, 329, 330, 274, 99, 100, 101, 102, 88, 410, 332, 333, 334, 275, 411, 324, 325, 326, 412, 336, 337, 338, 339, 340, 341, 342, 210, 413, 369, 370, 371, 280, 149, 150, 151, 152, 98, 414, 377, 378, 379, 153, 154, 155, 156, 415, 381, 382, 383, 416, 385, 386, 387, 281, 417, 389, 390, 391, 418, 373, 374, 375, 282, 419, 420, 421, 422, 254, 423, 115, 116, 117, 424, 119, 120, 121, 425, 304, 305, 306, 426, 365, 366, 367, 131, 427, 393, 394, 395, 255, 428, 352, 353, 354, 157, 158, 159, 160, 30, 161, 429, 360, 361, 362, 363, 192, 193, 194, 195, 430, 356, 357, 358, 431, 344, 345, 346, 432, 171, 172, 173, 433, 348, 349, 350, 434, 435, 436, 437, 456, 457, 458, 459, 460, 461, 438, 439, 440, 441, 442, 443, 444, 445, 446, 447, 448, 449, 450, 451, 452, 453, 454, 455] (by rfl) (by decide +kernel)) (goodIn_sub (fun _ h => List.mem_append_right _ h) (by decide +kernel))
set_option maxRecDepth 20000 in
theorem gL_law_X2_isSame : GoodIn wsL_law (wsV RL 177 RX2 yX2_isSame wsX2_isSame) := goodIn_app (goodIn_of _ (by decide +kernel)) ggL_law_X2_isSame
