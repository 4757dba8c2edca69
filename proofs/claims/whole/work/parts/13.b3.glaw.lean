set_option maxRecDepth 20000 in
theorem ggL_law_X3_peopleHome : GoodIn wsL_law wsX3_peopleHome := goodIn_r _ [575, 79, 42, 208, 209, 210, 41, 211, 212, 53, 711, 712, 713, 730, 731, 732, 733, 734, 735, 736, 737, 738, 739, 740, 741, 742] (by decide +kernel) (by decide +kernel)
set_option maxRecDepth 20000 in
theorem gL_law_X3_peopleHome : GoodIn wsL_law (wsV RL 199 RX3 yX3_peopleHome wsX3_peopleHome) := goodIn_app (goodIn_of _ (by decide +kernel)) ggL_law_X3_peopleHome
set_option maxRecDepth 20000 in
theorem ggL_law_X1_peopleInGreatHouse : GoodIn wsL_law wsX1_peopleInGreatHouse := goodIn_r _ [579, 16, 223, 224, 225, 15, 226, 127, 29, 709, 710, 714, 715, 716, 717, 718, 719, 720, 721, 722, 723, 724, 725, 726, 727, 728, 729] (by decide +kernel) (by decide +kernel)
set_option maxRecDepth 20000 in
theorem gL_law_X1_peopleInGreatHouse : GoodIn wsL_law (wsV RL 200 RX1 yX1_peopleInGreatHouse wsX1_peopleInGreatHouse) := goodIn_app (goodIn_of _ (by decide +kernel)) ggL_law_X1_peopleInGreatHouse
set_option maxRecDepth 20000 in
theorem ggL_law_X3_peopleInGreatHouse : GoodIn wsL_law wsX3_peopleInGreatHouse := goodIn_r _ [583, 79, 42, 208, 209, 210, 41, 211, 212, 53, 711, 712, 713, 730, 731, 732, 733, 734, 735, 736, 737, 738, 739, 740, 741, 742] (by decide +kernel) (by decide +kernel)
set_option maxRecDepth 20000 in
theorem gL_law_X3_peopleInGreatHouse : GoodIn wsL_law (wsV RL 203 RX3 yX3_peopleInGreatHouse wsX3_peopleInGreatHouse) := goodIn_app (goodIn_of _ (by decide +kernel)) ggL_law_X3_peopleInGreatHouse
set_option maxRecDepth 20000 in
theorem ggL_law_X1_bowlsEaten : GoodIn wsL_law wsX1_bowlsEaten := goodIn_r _ [587, 16, 588, 709, 710, 714, 715, 716, 717, 718, 719, 720, 721, 722, 723, 724, 725, 726, 727, 728, 729] (by decide +kernel) (by decide +kernel)
set_option maxRecDepth 20000 in
theorem gL_law_X1_bowlsEaten : GoodIn wsL_law (wsV RL 204 RX1 yX1_bowlsEaten wsX1_bowlsEaten) := goodIn_app (goodIn_of _ (by decide +kernel)) ggL_law_X1_bowlsEaten
set_option maxRecDepth 20000 in
theorem ggL_law_X3_bowlsEaten : GoodIn wsL_law wsX3_bowlsEaten := goodIn_r _ [592, 79, 42, 711, 712, 713, 730, 731, 732, 733, 734, 735, 736, 737, 738, 739, 740, 741, 742] (by decide +kernel) (by decide +kernel)
set_option maxRecDepth 20000 in
theorem gL_law_X3_bowlsEaten : GoodIn wsL_law (wsV RL 207 RX3 yX3_bowlsEaten wsX3_bowlsEaten) := goodIn_app (goodIn_of _ (by decide +kernel)) ggL_law_X3_bowlsEaten
set_option maxRecDepth 20000 in
theorem ggL_law_L_daysUntilHome : GoodIn wsL_law wsL_daysUntilHome := goodIn_ca (goodIn_r _ [595, 111, 596, 597, 598, 2, 599, 17, 16, 373, 179, 180, 181, 182, 121, 122, 116, 600, 601, 602, 15, 603, 231, 22, 236, 74, 103, 127, 24, 604, 605, 606, 607, 25, 26, 27, 28, 29, 30, 31, 227, 228, 229, 230, 232, 233, 234, 235, 33, 195, 196, 197, 198, 237, 238, 239, 240, 241, 242, 243, 244, 245, 246, 247, 248, 249, 250, 251, 252, 253, 254, 255, 256, 257, 258, 259, 260, 261, 262, 263, 264, 265, 266, 267, 268, 269, 270, 271, 128, 129, 130, 131, 272, 273, 274, 275, 34, 276, 188, 189, 190, 191, 192, 193, 194, 277, 278, 279, 280, 281, 282, 283, 284, 709, 710, 714, 715, 716, 717, 718, 719, 720, 721, 722, 723, 724, 725, 726, 727, 728, 729] (by decide +kernel) (by decide +kernel)) (goodIn_sub (fun _ h => List.mem_append_right _ h) (by decide +kernel))
set_option maxRecDepth 20000 in
theorem gL_law_L_daysUntilHome : GoodIn wsL_law (va_wsS RL 208 yL_daysUntilHome wsL_daysUntilHome) := goodIn_app (goodIn_of _ (by decide +kernel)) ggL_law_L_daysUntilHome
set_option maxRecDepth 20000 in
theorem ggL_law_X3_daysUntilHome : GoodIn wsL_law wsX3_daysUntilHome := goodIn_r _ [611, 79, 43, 42, 204, 205, 206, 5, 207, 80, 81, 82, 83, 84, 85, 86, 612, 613, 614, 41, 615, 299, 298, 297, 212, 47, 304, 48, 49, 50, 51, 52, 53, 54, 616, 617, 618, 619, 605, 606, 607, 620, 294, 295, 296, 300, 301, 302, 303, 305, 250, 243, 251, 306, 242, 244, 307, 308, 309, 310, 311, 312, 313, 314, 315, 316, 317, 318, 319, 320, 321, 322, 323, 209, 210, 211, 711, 712, 713, 730, 731, 732, 733, 734, 735, 736, 737, 738, 739, 740, 741, 742] (by decide +kernel) (by decide +kernel)
set_option maxRecDepth 20000 in
theorem gL_law_X3_daysUntilHome : GoodIn wsL_law (wsV RL 210 RX3 yX3_daysUntilHome wsX3_daysUntilHome) := goodIn_app (goodIn_of _ (by decide +kernel)) ggL_law_X3_daysUntilHome
set_option maxRecDepth 20000 in
theorem ggL_law_L_homeAfter : GoodIn wsL_law wsL_homeAfter := goodIn_ca (goodIn_r _ [623, 59, 624, 625, 626, 2, 627, 220, 221, 222, 65, 66, 628, 629, 630, 631, 17, 16, 600, 601, 602, 15, 603, 231, 22, 236, 74, 103, 127, 24, 604, 605, 606, 607, 25, 26, 27, 28, 29, 30, 31, 227, 228, 229, 230, 232, 233, 234, 235, 33, 195, 196, 197, 198, 237, 238, 239, 240, 241, 242, 243, 244, 245, 246, 247, 248, 249, 250, 251, 252, 253, 254, 255, 256, 257, 258, 259, 260, 261, 262, 263, 264, 265, 266, 267, 268, 269, 270, 271, 128, 129, 130, 131, 272, 273, 274, 275, 34, 276, 188, 189, 190, 191, 192, 193, 194, 277, 278, 279, 280, 281, 282, 283, 284, 223, 224, 225, 226, 709, 710, 714, 715, 716, 717, 718, 719, 720, 721, 722, 723, 724, 725, 726, 727, 728, 729] (by decide +kernel) (by decide +kernel)) (goodIn_sub (fun _ h => List.mem_append_left _ (List.mem_append_left _ (List.mem_append_right _ h))) (by decide +kernel))
set_option maxRecDepth 20000 in
theorem gL_law_L_homeAfter : GoodIn wsL_law (va_wsS RL 211 yL_homeAfter wsL_homeAfter) := goodIn_app (goodIn_of _ (by decide +kernel)) ggL_law_L_homeAfter
set_option maxRecDepth 20000 in
theorem ggL_law_X3_homeAfter : GoodIn wsL_law wsX3_homeAfter := goodIn_r _ [635, 636, 637, 638, 5, 639, 79, 43, 42, 80, 81, 82, 83, 84, 85, 86, 612, 613, 614, 41, 615, 299, 298, 297, 212, 47, 304, 48, 49, 50, 51, 52, 53, 54, 616, 617, 618, 619, 605, 606, 607, 289, 290, 291, 292, 293, 294, 295, 296, 300, 301, 302, 303, 305, 250, 243, 251, 306, 242, 244, 307, 308, 309, 310, 311, 312, 313, 314, 315, 316, 317, 318, 319, 320, 321, 322, 323, 209, 210, 211, 208, 711, 712, 713, 730, 731, 732, 733, 734, 735, 736, 737, 738, 739, 740, 741, 742] (by decide +kernel) (by decide +kernel)
set_option maxRecDepth 20000 in
theorem gL_law_X3_homeAfter : GoodIn wsL_law (wsV RL 213 RX3 yX3_homeAfter wsX3_homeAfter) := goodIn_app (goodIn_of _ (by decide +kernel)) ggL_law_X3_homeAfter
set_option maxRecDepth 20000 in
theorem ggL_law_L_greatHouseAfter : GoodIn wsL_law wsL_greatHouseAfter := goodIn_ca (goodIn_r _ [642, 59, 643, 644, 645, 2, 646, 220, 221, 222, 65, 66, 628, 629, 630, 631, 17, 16, 600, 601, 602, 15, 603, 231, 22, 236, 74, 103, 127, 24, 604, 605, 606, 607, 25, 26, 27, 28, 29, 30, 31, 227, 228, 229, 230, 232, 233, 234, 235, 33, 195, 196, 197, 198, 237, 238, 239, 240, 241, 242, 243, 244, 245, 246, 247, 248, 249, 250, 251, 252, 253, 254, 255, 256, 257, 258, 259, 260, 261, 262, 263, 264, 265, 266, 267, 268, 269, 270, 271, 128, 129, 130, 131, 272, 273, 274, 275, 34, 276, 188, 189, 190, 191, 192, 193, 194, 277, 278, 279, 280, 281, 282, 283, 284, 223, 224, 225, 226, 709, 710, 714, 715, 716, 717, 718, 719, 720, 721, 722, 723, 724, 725, 726, 727, 728, 729] (by decide +kernel) (by decide +kernel)) (goodIn_sub (fun _ h => List.mem_append_left _ (List.mem_append_left _ (List.mem_append_right _ h))) (by decide +kernel))
set_option maxRecDepth 20000 in
theorem gL_law_L_greatHouseAfter : GoodIn wsL_law (va_wsS RL 214 yL_greatHouseAfter wsL_greatHouseAfter) := goodIn_app (goodIn_of _ (by decide +kernel)) ggL_law_L_greatHouseAfter
set_option maxRecDepth 20000 in
theorem ggL_law_X3_greatHouseAfter : GoodIn wsL_law wsX3_greatHouseAfter := goodIn_r _ [650, 636, 637, 638, 5, 639, 79, 43, 42, 80, 81, 82, 83, 84, 85, 86, 612, 613, 614, 41, 615, 299, 298, 297, 212, 47, 304, 48, 49, 50, 51, 52, 53, 54, 616, 617, 618, 619, 605, 606, 607, 289, 290, 291, 292, 293, 294, 295, 296, 300, 301, 302, 303, 305, 250, 243, 251, 306, 242, 244, 307, 308, 309, 310, 311, 312, 313, 314, 315, 316, 317, 318, 319, 320, 321, 322, 323, 209, 210, 211, 208, 711, 712, 713, 730, 731, 732, 733, 734, 735, 736, 737, 738, 739, 740, 741, 742] (by decide +kernel) (by decide +kernel)
set_option maxRecDepth 20000 in
theorem gL_law_X3_greatHouseAfter : GoodIn wsL_law (wsV RL 216 RX3 yX3_greatHouseAfter wsX3_greatHouseAfter) := goodIn_app (goodIn_of _ (by decide +kernel)) ggL_law_X3_greatHouseAfter
set_option maxRecDepth 20000 in
theorem ggL_law_L_bestStraw : GoodIn wsL_law wsL_bestStraw := goodIn_ca (goodIn_r _ [653, 59, 654, 655, 656, 2, 657, 16, 69, 220, 221, 222, 65, 66, 628, 629, 630, 631, 17, 600, 601, 602, 15, 603, 231, 22, 236, 74, 103, 127, 24, 604, 605, 606, 607, 25, 26, 27, 28, 29, 30, 31, 227, 228, 229, 230, 232, 233, 234, 235, 33, 195, 196, 197, 198, 237, 238, 239, 240, 241, 242, 243, 244, 245, 246, 247, 248, 249, 250, 251, 252, 253, 254, 255, 256, 257, 258, 259, 260, 261, 262, 263, 264, 265, 266, 267, 268, 269, 270, 271, 128, 129, 130, 131, 272, 273, 274, 275, 34, 276, 188, 189, 190, 191, 192, 193, 194, 277, 278, 279, 280, 281, 282, 283, 284, 223, 224, 225, 226, 658, 659, 660, 661, 159, 709, 710, 714, 715, 716, 717, 718, 719, 720, 721, 722, 723, 724, 725, 726, 727, 728, 729] (by decide +kernel) (by decide +kernel)) (goodIn_sub (fun _ h => List.mem_append_left _ (List.mem_append_left _ (List.mem_append_right _ h))) (by decide +kernel))
set_option maxRecDepth 20000 in
theorem gL_law_L_bestStraw : GoodIn wsL_law (va_wsS RL 217 yL_bestStraw wsL_bestStraw) := goodIn_app (goodIn_of _ (by decide +kernel)) ggL_law_L_bestStraw
set_option maxRecDepth 20000 in
theorem ggL_law_X3_bestStraw : GoodIn wsL_law wsX3_bestStraw := goodIn_r _ [665, 79, 42, 43, 80, 81, 5, 82, 83, 84, 85, 86, 636, 637, 638, 639, 612, 613, 614, 41, 615, 299, 298, 297, 212, 47, 304, 48, 49, 50, 51, 52, 53, 54, 616, 617, 618, 619, 605, 606, 607, 289, 290, 291, 292, 293, 294, 295, 296, 300, 301, 302, 303, 305, 250, 243, 251, 306, 242, 244, 307, 308, 309, 310, 311, 312, 313, 314, 315, 316, 317, 318, 319, 320, 321, 322, 323, 209, 210, 211, 208, 711, 712, 713, 730, 731, 732, 733, 734, 735, 736, 737, 738, 739, 740, 741, 742] (by decide +kernel) (by decide +kernel)
set_option maxRecDepth 20000 in
theorem gL_law_X3_bestStraw : GoodIn wsL_law (wsV RL 219 RX3 yX3_bestStraw wsX3_bestStraw) := goodIn_app (goodIn_of _ (by decide +kernel)) ggL_law_X3_bestStraw
set_option maxRecDepth 20000 in
theorem ggL_law_X1_bowlsNeeded : GoodIn wsL_law wsX1_bowlsNeeded := goodIn_r _ [669, 16, 223, 224, 225, 15, 226, 127, 29, 709, 710, 714, 715, 716, 717, 718, 719, 720, 721, 722, 723, 724, 725, 726, 727, 728, 729] (by decide +kernel) (by decide +kernel)
set_option maxRecDepth 20000 in
theorem gL_law_X1_bowlsNeeded : GoodIn wsL_law (wsV RL 220 RX1 yX1_bowlsNeeded wsX1_bowlsNeeded) := goodIn_app (goodIn_of _ (by decide +kernel)) ggL_law_X1_bowlsNeeded
set_option maxRecDepth 20000 in
theorem ggL_law_X3_bowlsNeeded : GoodIn wsL_law wsX3_bowlsNeeded := goodIn_r _ [673, 79, 42, 555, 556, 557, 41, 558, 212, 53, 298, 711, 712, 713, 730, 731, 732, 733, 734, 735, 736, 737, 738, 739, 740, 741, 742] (by decide +kernel) (by decide +kernel)
set_option maxRecDepth 20000 in
theorem gL_law_X3_bowlsNeeded : GoodIn wsL_law (wsV RL 223 RX3 yX3_bowlsNeeded wsX3_bowlsNeeded) := goodIn_app (goodIn_of _ (by decide +kernel)) ggL_law_X3_bowlsNeeded
set_option maxRecDepth 20000 in
theorem ggL_law_X1_meanFever : GoodIn wsL_law wsX1_meanFever := goodIn_r _ [677, 16, 69, 223, 224, 225, 15, 226, 127, 29, 443, 444, 445, 446, 28, 195, 196, 197, 198, 30, 709, 710, 714, 715, 716, 717, 718, 719, 720, 721, 722, 723, 724, 725, 726, 727, 728, 729] (by decide +kernel) (by decide +kernel)
set_option maxRecDepth 20000 in
theorem gL_law_X1_meanFever : GoodIn wsL_law (wsV RL 224 RX1 yX1_meanFever wsX1_meanFever) := goodIn_app (goodIn_of _ (by decide +kernel)) ggL_law_X1_meanFever
set_option maxRecDepth 20000 in
theorem ggL_law_X3_meanFever : GoodIn wsL_law wsX3_meanFever := goodIn_r _ [681, 79, 42, 451, 452, 453, 5, 454, 555, 556, 557, 41, 558, 212, 53, 298, 711, 712, 713, 730, 731, 732, 733, 734, 735, 736, 737, 738, 739, 740, 741, 742] (by decide +kernel) (by decide +kernel)
set_option maxRecDepth 20000 in
theorem gL_law_X3_meanFever : GoodIn wsL_law (wsV RL 228 RX3 yX3_meanFever wsX3_meanFever) := goodIn_app (goodIn_of _ (by decide +kernel)) ggL_law_X3_meanFever
set_option maxRecDepth 20000 in
theorem ggL_law_X1_digest : GoodIn wsL_law wsX1_digest := goodIn_r _ [685, 686, 16, 510, 69, 98, 116, 147, 588, 687, 688, 2, 689, 690, 691, 692, 693, 694, 408, 159, 420, 192, 193, 15, 194, 127, 195, 196, 197, 198, 29, 30, 443, 444, 445, 446, 28, 695, 696, 697, 698, 462, 474, 699, 700, 701, 702, 331, 373, 396, 183, 184, 185, 186, 709, 710, 714, 715, 716, 717, 718, 719, 720, 721, 722, 723, 724, 725, 726, 727, 728, 729] (by decide +kernel) (by decide +kernel)
set_option maxRecDepth 20000 in
theorem gL_law_X1_digest : GoodIn wsL_law (wsV RL 229 RX1 yX1_digest wsX1_digest) := goodIn_app (goodIn_of _ (by decide +kernel)) ggL_law_X1_digest
set_option maxRecDepth 20000 in
theorem ggL_law_X3_digest : GoodIn wsL_law wsX3_digest := goodIn_r _ [706, 79, 23, 42, 707, 708, 208, 209, 210, 41, 211, 212, 53, 451, 452, 453, 5, 454, 347, 348, 349, 350, 362, 363, 364, 365, 80, 81, 82, 711, 712, 713, 730, 731, 732, 733, 734, 735, 736, 737, 738, 739, 740, 741, 742] (by decide +kernel) (by decide +kernel)
set_option maxRecDepth 20000 in
theorem gL_law_X3_digest : GoodIn wsL_law (wsV RL 233 RX3 yX3_digest wsX3_digest) := goodIn_app (goodIn_of _ (by decide +kernel)) ggL_law_X3_digest