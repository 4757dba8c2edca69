set_option maxRecDepth 20000 in
theorem ggL_law_X3_wardOf : GoodIn wsL_law wsX3_wardOf := goodIn_r _ [346, 79, 204, 205, 206, 5, 207, 42, 80, 81, 82, 347, 348, 349, 350, 83, 84, 85, 86, 711, 712, 713, 730, 731, 732, 733, 734, 735, 736, 737, 738, 739, 740, 741, 742] (by decide +kernel) (by decide +kernel)
set_option maxRecDepth 20000 in
theorem gL_law_X3_wardOf : GoodIn wsL_law (wsV RL 131 RX3 yX3_wardOf wsX3_wardOf) := goodIn_app (goodIn_of _ (by decide +kernel)) ggL_law_X3_wardOf
set_option maxRecDepth 20000 in
theorem ggL_law_L_bargeOf : GoodIn wsL_law wsL_bargeOf := goodIn_ca (goodIn_r _ [353, 111, 354, 355, 356, 2, 357, 16, 179, 180, 181, 182, 121, 122, 116, 183, 184, 185, 15, 186, 29, 30, 709, 710, 714, 715, 716, 717, 718, 719, 720, 721, 722, 723, 724, 725, 726, 727, 728, 729] (by decide +kernel) (by decide +kernel)) (goodIn_sub (fun _ h => List.mem_append_right _ h) (by decide +kernel))
set_option maxRecDepth 20000 in
theorem gL_law_L_bargeOf : GoodIn wsL_law (va_wsS RL 132 yL_bargeOf wsL_bargeOf) := goodIn_app (goodIn_of _ (by decide +kernel)) ggL_law_L_bargeOf
set_option maxRecDepth 20000 in
theorem ggL_law_X3_bargeOf : GoodIn wsL_law wsX3_bargeOf := goodIn_r _ [361, 79, 204, 205, 206, 5, 207, 42, 80, 81, 82, 362, 363, 364, 365, 83, 84, 85, 86, 711, 712, 713, 730, 731, 732, 733, 734, 735, 736, 737, 738, 739, 740, 741, 742] (by decide +kernel) (by decide +kernel)
set_option maxRecDepth 20000 in
theorem gL_law_X3_bargeOf : GoodIn wsL_law (wsV RL 134 RX3 yX3_bargeOf wsX3_bargeOf) := goodIn_app (goodIn_of _ (by decide +kernel)) ggL_law_X3_bargeOf
set_option maxRecDepth 20000 in
theorem ggL_law_L_isHome : GoodIn wsL_law wsL_isHome := goodIn_ca (goodIn_r _ [368, 111, 369, 370, 371, 2, 372, 16, 373, 179, 180, 181, 182, 121, 122, 116, 709, 710, 714, 715, 716, 717, 718, 719, 720, 721, 722, 723, 724, 725, 726, 727, 728, 729] (by decide +kernel) (by decide +kernel)) (goodIn_sub (fun _ h => List.mem_append_right _ h) (by decide +kernel))
set_option maxRecDepth 20000 in
theorem gL_law_L_isHome : GoodIn wsL_law (va_wsS RL 135 yL_isHome wsL_isHome) := goodIn_app (goodIn_of _ (by decide +kernel)) ggL_law_L_isHome
set_option maxRecDepth 20000 in
theorem ggL_law_X3_isHome : GoodIn wsL_law wsX3_isHome := goodIn_r _ [377, 79, 42, 204, 205, 206, 5, 207, 80, 81, 82, 711, 712, 713, 730, 731, 732, 733, 734, 735, 736, 737, 738, 739, 740, 741, 742] (by decide +kernel) (by decide +kernel)
set_option maxRecDepth 20000 in
theorem gL_law_X3_isHome : GoodIn wsL_law (wsV RL 137 RX3 yX3_isHome wsX3_isHome) := goodIn_app (goodIn_of _ (by decide +kernel)) ggL_law_X3_isHome
set_option maxRecDepth 20000 in
theorem ggL_law_L_isInGreatHouse : GoodIn wsL_law wsL_isInGreatHouse := goodIn_ca (goodIn_r _ [380, 111, 381, 382, 383, 2, 384, 16, 373, 179, 180, 181, 182, 121, 122, 116, 709, 710, 714, 715, 716, 717, 718, 719, 720, 721, 722, 723, 724, 725, 726, 727, 728, 729] (by decide +kernel) (by decide +kernel)) (goodIn_sub (fun _ h => List.mem_append_right _ h) (by decide +kernel))
set_option maxRecDepth 20000 in
theorem gL_law_L_isInGreatHouse : GoodIn wsL_law (va_wsS RL 138 yL_isInGreatHouse wsL_isInGreatHouse) := goodIn_app (goodIn_of _ (by decide +kernel)) ggL_law_L_isInGreatHouse
set_option maxRecDepth 20000 in
theorem ggL_law_X3_isInGreatHouse : GoodIn wsL_law wsX3_isInGreatHouse := goodIn_r _ [388, 79, 42, 204, 205, 206, 5, 207, 80, 81, 82, 711, 712, 713, 730, 731, 732, 733, 734, 735, 736, 737, 738, 739, 740, 741, 742] (by decide +kernel) (by decide +kernel)
set_option maxRecDepth 20000 in
theorem gL_law_X3_isInGreatHouse : GoodIn wsL_law (wsV RL 140 RX3 yX3_isInGreatHouse wsX3_isInGreatHouse) := goodIn_app (goodIn_of _ (by decide +kernel)) ggL_law_X3_isInGreatHouse
set_option maxRecDepth 20000 in
theorem ggL_law_L_hungryDaysOf : GoodIn wsL_law wsL_hungryDaysOf := goodIn_ca (goodIn_r _ [391, 111, 392, 393, 394, 2, 395, 16, 396, 179, 180, 181, 182, 121, 122, 116, 709, 710, 714, 715, 716, 717, 718, 719, 720, 721, 722, 723, 724, 725, 726, 727, 728, 729] (by decide +kernel) (by decide +kernel)) (goodIn_sub (fun _ h => List.mem_append_right _ h) (by decide +kernel))
set_option maxRecDepth 20000 in
theorem gL_law_L_hungryDaysOf : GoodIn wsL_law (va_wsS RL 141 yL_hungryDaysOf wsL_hungryDaysOf) := goodIn_app (goodIn_of _ (by decide +kernel)) ggL_law_L_hungryDaysOf
set_option maxRecDepth 20000 in
theorem ggL_law_X3_hungryDaysOf : GoodIn wsL_law wsX3_hungryDaysOf := goodIn_r _ [400, 79, 42, 204, 205, 206, 5, 207, 80, 81, 82, 83, 84, 85, 86, 711, 712, 713, 730, 731, 732, 733, 734, 735, 736, 737, 738, 739, 740, 741, 742] (by decide +kernel) (by decide +kernel)
set_option maxRecDepth 20000 in
theorem gL_law_X3_hungryDaysOf : GoodIn wsL_law (wsV RL 143 RX3 yX3_hungryDaysOf wsX3_hungryDaysOf) := goodIn_app (goodIn_of _ (by decide +kernel)) ggL_law_X3_hungryDaysOf
set_option maxRecDepth 20000 in
theorem ggL_law_L_placesOf : GoodIn wsL_law wsL_placesOf := goodIn_ca (goodIn_r _ [403, 111, 404, 405, 406, 2, 407, 16, 408, 160, 161, 162, 163, 121, 122, 69, 709, 710, 714, 715, 716, 717, 718, 719, 720, 721, 722, 723, 724, 725, 726, 727, 728, 729] (by decide +kernel) (by decide +kernel)) (goodIn_sub (fun _ h => List.mem_append_right _ h) (by decide +kernel))
set_option maxRecDepth 20000 in
theorem gL_law_L_placesOf : GoodIn wsL_law (va_wsS RL 144 yL_placesOf wsL_placesOf) := goodIn_app (goodIn_of _ (by decide +kernel)) ggL_law_L_placesOf
set_option maxRecDepth 20000 in
theorem ggL_law_X3_placesOf : GoodIn wsL_law wsX3_placesOf := goodIn_r _ [412, 79, 42, 168, 169, 170, 5, 171, 80, 81, 82, 83, 84, 85, 86, 711, 712, 713, 730, 731, 732, 733, 734, 735, 736, 737, 738, 739, 740, 741, 742] (by decide +kernel) (by decide +kernel)
set_option maxRecDepth 20000 in
theorem gL_law_X3_placesOf : GoodIn wsL_law (wsV RL 146 RX3 yX3_placesOf wsX3_placesOf) := goodIn_app (goodIn_of _ (by decide +kernel)) ggL_law_X3_placesOf
set_option maxRecDepth 20000 in
theorem ggL_law_L_peopleIn : GoodIn wsL_law wsL_peopleIn := goodIn_ca (goodIn_r _ [415, 111, 416, 417, 418, 2, 419, 16, 160, 161, 162, 163, 121, 122, 69, 420, 192, 193, 15, 194, 127, 195, 196, 197, 198, 29, 30, 709, 710, 714, 715, 716, 717, 718, 719, 720, 721, 722, 723, 724, 725, 726, 727, 728, 729] (by decide +kernel) (by decide +kernel)) (goodIn_sub (fun _ h => List.mem_append_right _ h) (by decide +kernel))
set_option maxRecDepth 20000 in
theorem gL_law_L_peopleIn : GoodIn wsL_law (va_wsS RL 147 yL_peopleIn wsL_peopleIn) := goodIn_app (goodIn_of _ (by decide +kernel)) ggL_law_L_peopleIn
set_option maxRecDepth 20000 in
theorem ggL_law_X3_peopleIn : GoodIn wsL_law wsX3_peopleIn := goodIn_r _ [424, 79, 42, 168, 169, 170, 5, 171, 80, 81, 82, 208, 209, 210, 41, 211, 212, 53, 83, 84, 85, 86, 711, 712, 713, 730, 731, 732, 733, 734, 735, 736, 737, 738, 739, 740, 741, 742] (by decide +kernel) (by decide +kernel)
set_option maxRecDepth 20000 in
theorem gL_law_X3_peopleIn : GoodIn wsL_law (wsV RL 149 RX3 yX3_peopleIn wsX3_peopleIn) := goodIn_app (goodIn_of _ (by decide +kernel)) ggL_law_X3_peopleIn
set_option maxRecDepth 20000 in
theorem ggL_law_L_strawOf : GoodIn wsL_law wsL_strawOf := goodIn_ca (goodIn_r _ [427, 111, 428, 429, 430, 2, 431, 16, 159, 160, 161, 162, 163, 121, 122, 69, 709, 710, 714, 715, 716, 717, 718, 719, 720, 721, 722, 723, 724, 725, 726, 727, 728, 729] (by decide +kernel) (by decide +kernel)) (goodIn_sub (fun _ h => List.mem_append_right _ h) (by decide +kernel))
set_option maxRecDepth 20000 in
theorem gL_law_L_strawOf : GoodIn wsL_law (va_wsS RL 150 yL_strawOf wsL_strawOf) := goodIn_app (goodIn_of _ (by decide +kernel)) ggL_law_L_strawOf
set_option maxRecDepth 20000 in
theorem ggL_law_X3_strawOf : GoodIn wsL_law wsX3_strawOf := goodIn_r _ [435, 79, 42, 168, 169, 170, 5, 171, 80, 81, 82, 83, 84, 85, 86, 711, 712, 713, 730, 731, 732, 733, 734, 735, 736, 737, 738, 739, 740, 741, 742] (by decide +kernel) (by decide +kernel)
set_option maxRecDepth 20000 in
theorem gL_law_X3_strawOf : GoodIn wsL_law (wsV RL 152 RX3 yX3_strawOf wsX3_strawOf) := goodIn_app (goodIn_of _ (by decide +kernel)) ggL_law_X3_strawOf
set_option maxRecDepth 20000 in
theorem ggL_law_L_feversIn : GoodIn wsL_law wsL_feversIn := goodIn_ca (goodIn_r _ [438, 111, 439, 440, 441, 2, 442, 16, 160, 161, 162, 163, 121, 122, 69, 443, 444, 445, 15, 446, 127, 28, 195, 196, 197, 198, 29, 30, 709, 710, 714, 715, 716, 717, 718, 719, 720, 721, 722, 723, 724, 725, 726, 727, 728, 729] (by decide +kernel) (by decide +kernel)) (goodIn_sub (fun _ h => List.mem_append_right _ h) (by decide +kernel))
set_option maxRecDepth 20000 in
theorem gL_law_L_feversIn : GoodIn wsL_law (va_wsS RL 153 yL_feversIn wsL_feversIn) := goodIn_app (goodIn_of _ (by decide +kernel)) ggL_law_L_feversIn
set_option maxRecDepth 20000 in
theorem ggL_law_X3_feversIn : GoodIn wsL_law wsX3_feversIn := goodIn_r _ [450, 79, 168, 169, 170, 5, 171, 42, 80, 81, 82, 451, 452, 453, 454, 83, 84, 85, 86, 711, 712, 713, 730, 731, 732, 733, 734, 735, 736, 737, 738, 739, 740, 741, 742] (by decide +kernel) (by decide +kernel)
set_option maxRecDepth 20000 in
theorem gL_law_X3_feversIn : GoodIn wsL_law (wsV RL 155 RX3 yX3_feversIn wsX3_feversIn) := goodIn_app (goodIn_of _ (by decide +kernel)) ggL_law_X3_feversIn
set_option maxRecDepth 20000 in
theorem ggL_law_L_daysToGo : GoodIn wsL_law wsL_daysToGo := goodIn_ca (goodIn_r _ [457, 111, 458, 459, 460, 2, 461, 16, 462, 117, 118, 119, 120, 121, 122, 98, 709, 710, 714, 715, 716, 717, 718, 719, 720, 721, 722, 723, 724, 725, 726, 727, 728, 729] (by decide +kernel) (by decide +kernel)) (goodIn_sub (fun _ h => List.mem_append_right _ h) (by decide +kernel))
set_option maxRecDepth 20000 in
theorem gL_law_L_daysToGo : GoodIn wsL_law (va_wsS RL 156 yL_daysToGo wsL_daysToGo) := goodIn_app (goodIn_of _ (by decide +kernel)) ggL_law_L_daysToGo
set_option maxRecDepth 20000 in
theorem ggL_law_X3_daysToGo : GoodIn wsL_law wsX3_daysToGo := goodIn_r _ [466, 79, 42, 136, 137, 138, 5, 139, 80, 81, 82, 83, 84, 85, 86, 711, 712, 713, 730, 731, 732, 733, 734, 735, 736, 737, 738, 739, 740, 741, 742] (by decide +kernel) (by decide +kernel)
set_option maxRecDepth 20000 in
theorem gL_law_X3_daysToGo : GoodIn wsL_law (wsV RL 158 RX3 yX3_daysToGo wsX3_daysToGo) := goodIn_app (goodIn_of _ (by decide +kernel)) ggL_law_X3_daysToGo
set_option maxRecDepth 20000 in
theorem ggL_law_L_keptFor : GoodIn wsL_law wsL_keptFor := goodIn_ca (goodIn_r _ [469, 111, 470, 471, 472, 2, 473, 16, 474, 117, 118, 119, 120, 121, 122, 98, 709, 710, 714, 715, 716, 717, 718, 719, 720, 721, 722, 723, 724, 725, 726, 727, 728, 729] (by decide +kernel) (by decide +kernel)) (goodIn_sub (fun _ h => List.mem_append_right _ h) (by decide +kernel))
set_option maxRecDepth 20000 in
theorem gL_law_L_keptFor : GoodIn wsL_law (va_wsS RL 159 yL_keptFor wsL_keptFor) := goodIn_app (goodIn_of _ (by decide +kernel)) ggL_law_L_keptFor