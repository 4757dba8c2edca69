set_option maxRecDepth 20000 in
theorem ggL_law_X1_init : GoodIn wsL_law wsX1_init := goodIn_r _ [9, 10, 11, 12, 13, 14, 15, 16, 17, 18, 19, 20, 21, 22, 23, 24, 25, 26, 27, 28, 29, 30, 31, 32, 33, 34, 714, 715, 716, 717, 718, 719, 720, 721, 722, 723, 724, 725, 726, 727, 728, 729, 709, 710] (by decide +kernel) (by decide +kernel)
set_option maxRecDepth 20000 in
theorem gL_law_X1_init : GoodIn wsL_law (wsX1_init) := ggL_law_X1_init
set_option maxRecDepth 20000 in
theorem ggL_law_X3_init : GoodIn wsL_law wsX3_init := goodIn_r _ [37, 38, 11, 12, 39, 40, 41, 42, 43, 44, 45, 46, 47, 23, 48, 49, 50, 51, 52, 53, 54, 730, 731, 732, 733, 734, 735, 736, 737, 738, 739, 740, 741, 742, 711, 712, 713] (by decide +kernel) (by decide +kernel)
set_option maxRecDepth 20000 in
theorem gL_law_X3_init : GoodIn wsL_law (wsX3_init) := ggL_law_X3_init
set_option maxRecDepth 20000 in
theorem ggL_law_L_addWard : GoodIn wsL_law wsL_addWard := goodIn_ca (goodIn_ca (goodIn_r _ [58, 59, 60, 61, 62, 63, 2, 64, 65, 66, 67, 68, 16, 69, 70, 71, 72, 15, 73, 74, 24, 709, 710, 714, 715, 716, 717, 718, 719, 720, 721, 722, 723, 724, 725, 726, 727, 728, 729] (by decide +kernel) (by decide +kernel)) (goodIn_sub (fun _ h => List.mem_append_left _ (List.mem_append_left _ (List.mem_append_right _ h))) (by decide +kernel))) (goodIn_sub (fun _ h => List.mem_append_left _ (List.mem_append_right _ h)) (by decide +kernel))
set_option maxRecDepth 20000 in
theorem gL_law_L_addWard : GoodIn wsL_law (va_wsS RL 97 yL_addWard wsL_addWard) := goodIn_app (goodIn_of _ (by decide +kernel)) ggL_law_L_addWard
set_option maxRecDepth 20000 in
theorem ggL_law_X3_addWard : GoodIn wsL_law wsX3_addWard := goodIn_r _ [78, 79, 42, 80, 81, 5, 82, 83, 84, 85, 86, 711, 712, 713, 730, 731, 732, 733, 734, 735, 736, 737, 738, 739, 740, 741, 742] (by decide +kernel) (by decide +kernel)
set_option maxRecDepth 20000 in
theorem gL_law_X3_addWard : GoodIn wsL_law (wsV RL 102 RX3 yX3_addWard wsX3_addWard) := goodIn_app (goodIn_of _ (by decide +kernel)) ggL_law_X3_addWard
set_option maxRecDepth 20000 in
theorem ggL_law_X3_thrown : GoodIn wsL_law wsX3_thrown := goodIn_r _ [90, 79, 711, 712, 713] (by decide +kernel) (by decide +kernel)
set_option maxRecDepth 20000 in
theorem gL_law_X3_thrown : GoodIn wsL_law (wsV RL 103 RX3 yX3_thrown wsX3_thrown) := goodIn_app (goodIn_of _ (by decide +kernel)) ggL_law_X3_thrown
set_option maxRecDepth 20000 in
theorem ggL_law_L_addBarge : GoodIn wsL_law wsL_addBarge := goodIn_ca (goodIn_ca (goodIn_r _ [93, 59, 60, 94, 95, 96, 2, 97, 65, 66, 67, 68, 16, 98, 99, 100, 101, 15, 102, 103, 26, 27, 709, 710, 714, 715, 716, 717, 718, 719, 720, 721, 722, 723, 724, 725, 726, 727, 728, 729] (by decide +kernel) (by decide +kernel)) (goodIn_sub (fun _ h => List.mem_append_left _ (List.mem_append_left _ (List.mem_append_right _ h))) (by decide +kernel))) (goodIn_sub (fun _ h => List.mem_append_left _ (List.mem_append_right _ h)) (by decide +kernel))
set_option maxRecDepth 20000 in
theorem gL_law_L_addBarge : GoodIn wsL_law (va_wsS RL 107 yL_addBarge wsL_addBarge) := goodIn_app (goodIn_of _ (by decide +kernel)) ggL_law_L_addBarge
set_option maxRecDepth 20000 in
theorem ggL_law_X3_addBarge : GoodIn wsL_law wsX3_addBarge := goodIn_r _ [107, 79, 42, 80, 81, 5, 82, 83, 84, 85, 86, 711, 712, 713, 730, 731, 732, 733, 734, 735, 736, 737, 738, 739, 740, 741, 742] (by decide +kernel) (by decide +kernel)
set_option maxRecDepth 20000 in
theorem gL_law_X3_addBarge : GoodIn wsL_law (wsV RL 109 RX3 yX3_addBarge wsX3_addBarge) := goodIn_app (goodIn_of _ (by decide +kernel)) ggL_law_X3_addBarge
set_option maxRecDepth 20000 in
theorem ggL_law_L_board : GoodIn wsL_law wsL_board := goodIn_ca (goodIn_ca (goodIn_ca (goodIn_r _ [110, 111, 59, 60, 112, 113, 114, 2, 115, 65, 66, 67, 68, 16, 116, 117, 118, 119, 120, 121, 122, 98, 123, 124, 125, 15, 126, 127, 28, 27, 26, 128, 129, 130, 131, 29, 30, 709, 710, 714, 715, 716, 717, 718, 719, 720, 721, 722, 723, 724, 725, 726, 727, 728, 729] (by decide +kernel) (by decide +kernel)) (goodIn_sub (fun _ h => List.mem_append_left _ (List.mem_append_left _ (List.mem_append_right _ h))) (by decide +kernel))) (goodIn_sub (fun _ h => List.mem_append_left _ (List.mem_append_right _ h)) (by decide +kernel))) (goodIn_sub (fun _ h => List.mem_append_right _ h) (by decide +kernel))
set_option maxRecDepth 20000 in
theorem gL_law_L_board : GoodIn wsL_law (va_wsS RL 110 yL_board wsL_board) := goodIn_app (goodIn_of _ (by decide +kernel)) ggL_law_L_board
set_option maxRecDepth 20000 in
theorem ggL_law_X3_board : GoodIn wsL_law wsX3_board := goodIn_r _ [135, 79, 42, 136, 137, 138, 5, 139, 80, 81, 82, 83, 84, 85, 86, 711, 712, 713, 730, 731, 732, 733, 734, 735, 736, 737, 738, 739, 740, 741, 742] (by decide +kernel) (by decide +kernel)
set_option maxRecDepth 20000 in
theorem gL_law_X3_board : GoodIn wsL_law (wsV RL 113 RX3 yX3_board wsX3_board) := goodIn_app (goodIn_of _ (by decide +kernel)) ggL_law_X3_board
set_option maxRecDepth 20000 in
theorem ggL_law_L_setBowls : GoodIn wsL_law wsL_setBowls := goodIn_ca (goodIn_r _ [142, 59, 143, 144, 145, 2, 146, 65, 66, 16, 147, 709, 710, 714, 715, 716, 717, 718, 719, 720, 721, 722, 723, 724, 725, 726, 727, 728, 729] (by decide +kernel) (by decide +kernel)) (goodIn_sub (fun _ h => List.mem_append_left _ (List.mem_append_left _ (List.mem_append_right _ h))) (by decide +kernel))
set_option maxRecDepth 20000 in
theorem gL_law_L_setBowls : GoodIn wsL_law (va_wsS RL 114 yL_setBowls wsL_setBowls) := goodIn_app (goodIn_of _ (by decide +kernel)) ggL_law_L_setBowls
set_option maxRecDepth 20000 in
theorem ggL_law_X3_setBowls : GoodIn wsL_law wsX3_setBowls := goodIn_r _ [151, 79, 42, 80, 81, 5, 82, 83, 84, 85, 86, 711, 712, 713, 730, 731, 732, 733, 734, 735, 736, 737, 738, 739, 740, 741, 742] (by decide +kernel) (by decide +kernel)
set_option maxRecDepth 20000 in
theorem gL_law_X3_setBowls : GoodIn wsL_law (wsV RL 116 RX3 yX3_setBowls wsX3_setBowls) := goodIn_app (goodIn_of _ (by decide +kernel)) ggL_law_X3_setBowls
set_option maxRecDepth 20000 in
theorem ggL_law_L_layStraw : GoodIn wsL_law wsL_layStraw := goodIn_ca (goodIn_r _ [154, 111, 155, 156, 157, 2, 158, 16, 159, 160, 161, 162, 163, 121, 122, 69, 709, 710, 714, 715, 716, 717, 718, 719, 720, 721, 722, 723, 724, 725, 726, 727, 728, 729] (by decide +kernel) (by decide +kernel)) (goodIn_sub (fun _ h => List.mem_append_right _ h) (by decide +kernel))
set_option maxRecDepth 20000 in
theorem gL_law_L_layStraw : GoodIn wsL_law (va_wsS RL 117 yL_layStraw wsL_layStraw) := goodIn_app (goodIn_of _ (by decide +kernel)) ggL_law_L_layStraw
set_option maxRecDepth 20000 in
theorem ggL_law_X3_layStraw : GoodIn wsL_law wsX3_layStraw := goodIn_r _ [167, 79, 42, 168, 169, 170, 5, 171, 80, 81, 82, 83, 84, 85, 86, 711, 712, 713, 730, 731, 732, 733, 734, 735, 736, 737, 738, 739, 740, 741, 742] (by decide +kernel) (by decide +kernel)
set_option maxRecDepth 20000 in
theorem gL_law_X3_layStraw : GoodIn wsL_law (wsV RL 119 RX3 yX3_layStraw wsX3_layStraw) := goodIn_app (goodIn_of _ (by decide +kernel)) ggL_law_X3_layStraw
set_option maxRecDepth 20000 in
theorem ggL_law_L_carry : GoodIn wsL_law wsL_carry := goodIn_ca (goodIn_ca (goodIn_r _ [174, 111, 60, 175, 176, 177, 2, 178, 67, 68, 16, 179, 180, 181, 182, 121, 122, 116, 160, 161, 162, 163, 69, 183, 184, 185, 15, 186, 29, 30, 187, 188, 189, 190, 24, 191, 192, 193, 194, 127, 195, 196, 197, 198, 199, 129, 130, 131, 709, 710, 714, 715, 716, 717, 718, 719, 720, 721, 722, 723, 724, 725, 726, 727, 728, 729] (by decide +kernel) (by decide +kernel)) (goodIn_sub (fun _ h => List.mem_append_left _ (List.mem_append_right _ h)) (by decide +kernel))) (goodIn_sub (fun _ h => List.mem_append_right _ h) (by decide +kernel))
set_option maxRecDepth 20000 in
theorem gL_law_L_carry : GoodIn wsL_law (va_wsS RL 120 yL_carry wsL_carry) := goodIn_app (goodIn_of _ (by decide +kernel)) ggL_law_L_carry
set_option maxRecDepth 20000 in
theorem ggL_law_X3_carry : GoodIn wsL_law wsX3_carry := goodIn_r _ [203, 79, 42, 204, 205, 206, 5, 207, 80, 81, 82, 168, 169, 170, 171, 83, 84, 85, 86, 208, 209, 210, 41, 211, 212, 53, 711, 712, 713, 730, 731, 732, 733, 734, 735, 736, 737, 738, 739, 740, 741, 742] (by decide +kernel) (by decide +kernel)
set_option maxRecDepth 20000 in
theorem gL_law_X3_carry : GoodIn wsL_law (wsV RL 122 RX3 yX3_carry wsX3_carry) := goodIn_app (goodIn_of _ (by decide +kernel)) ggL_law_X3_carry
set_option maxRecDepth 20000 in
theorem ggL_law_L_pass : GoodIn wsL_law wsL_pass := goodIn_ca (goodIn_r _ [215, 59, 216, 217, 218, 2, 219, 16, 220, 221, 222, 65, 66, 223, 224, 225, 15, 226, 127, 29, 227, 228, 229, 230, 231, 232, 233, 234, 235, 22, 74, 33, 31, 236, 195, 196, 197, 198, 30, 237, 238, 239, 240, 25, 28, 241, 242, 243, 244, 245, 246, 247, 248, 249, 250, 251, 252, 253, 254, 255, 103, 27, 256, 257, 258, 259, 260, 261, 262, 263, 264, 265, 266, 267, 268, 269, 270, 271, 128, 129, 130, 131, 272, 273, 274, 275, 34, 26, 276, 188, 189, 190, 24, 191, 192, 193, 194, 277, 278, 279, 280, 281, 282, 283, 284, 709, 710, 714, 715, 716, 717, 718, 719, 720, 721, 722, 723, 724, 725, 726, 727, 728, 729] (by decide +kernel) (by decide +kernel)) (goodIn_sub (fun _ h => List.mem_append_left _ (List.mem_append_left _ (List.mem_append_right _ h))) (by decide +kernel))
set_option maxRecDepth 20000 in
theorem gL_law_L_pass : GoodIn wsL_law (va_wsS RL 123 yL_pass wsL_pass) := goodIn_app (goodIn_of _ (by decide +kernel)) ggL_law_L_pass
set_option maxRecDepth 20000 in
theorem ggL_law_X3_pass : GoodIn wsL_law wsX3_pass := goodIn_r _ [288, 79, 42, 80, 81, 5, 82, 83, 84, 85, 86, 208, 209, 210, 41, 211, 212, 53, 289, 290, 291, 292, 293, 294, 295, 296, 297, 298, 49, 299, 300, 301, 302, 303, 47, 54, 304, 52, 305, 250, 243, 251, 306, 242, 244, 307, 308, 309, 310, 51, 311, 312, 313, 314, 315, 316, 317, 318, 50, 319, 320, 321, 322, 48, 323, 711, 712, 713, 730, 731, 732, 733, 734, 735, 736, 737, 738, 739, 740, 741, 742] (by decide +kernel) (by decide +kernel)
set_option maxRecDepth 20000 in
theorem gL_law_X3_pass : GoodIn wsL_law (wsV RL 125 RX3 yX3_pass wsX3_pass) := goodIn_app (goodIn_of _ (by decide +kernel)) ggL_law_X3_pass
set_option maxRecDepth 20000 in
theorem ggL_law_L_feverOf : GoodIn wsL_law wsL_feverOf := goodIn_ca (goodIn_r _ [326, 111, 327, 328, 329, 2, 330, 16, 331, 179, 180, 181, 182, 121, 122, 116, 709, 710, 714, 715, 716, 717, 718, 719, 720, 721, 722, 723, 724, 725, 726, 727, 728, 729] (by decide +kernel) (by decide +kernel)) (goodIn_sub (fun _ h => List.mem_append_right _ h) (by decide +kernel))
set_option maxRecDepth 20000 in
theorem gL_law_L_feverOf : GoodIn wsL_law (va_wsS RL 126 yL_feverOf wsL_feverOf) := goodIn_app (goodIn_of _ (by decide +kernel)) ggL_law_L_feverOf
set_option maxRecDepth 20000 in
theorem ggL_law_X3_feverOf : GoodIn wsL_law wsX3_feverOf := goodIn_r _ [335, 79, 42, 204, 205, 206, 5, 207, 80, 81, 82, 83, 84, 85, 86, 711, 712, 713, 730, 731, 732, 733, 734, 735, 736, 737, 738, 739, 740, 741, 742] (by decide +kernel) (by decide +kernel)
set_option maxRecDepth 20000 in
theorem gL_law_X3_feverOf : GoodIn wsL_law (wsV RL 128 RX3 yX3_feverOf wsX3_feverOf) := goodIn_app (goodIn_of _ (by decide +kernel)) ggL_law_X3_feverOf
set_option maxRecDepth 20000 in
theorem ggL_law_L_wardOf : GoodIn wsL_law wsL_wardOf := goodIn_ca (goodIn_r _ [338, 111, 339, 340, 341, 2, 342, 16, 179, 180, 181, 182, 121, 122, 116, 183, 184, 185, 15, 186, 29, 30, 709, 710, 714, 715, 716, 717, 718, 719, 720, 721, 722, 723, 724, 725, 726, 727, 728, 729] (by decide +kernel) (by decide +kernel)) (goodIn_sub (fun _ h => List.mem_append_right _ h) (by decide +kernel))
set_option maxRecDepth 20000 in
theorem gL_law_L_wardOf : GoodIn wsL_law (va_wsS RL 129 yL_wardOf wsL_wardOf) := goodIn_app (goodIn_of _ (by decide +kernel)) ggL_law_L_wardOf