set_option maxRecDepth 20000 in
theorem ggL_law_X3_keptFor : GoodIn wsL_law wsX3_keptFor := goodIn_r _ [478, 79, 42, 136, 137, 138, 5, 139, 80, 81, 82, 83, 84, 85, 86, 711, 712, 713, 730, 731, 732, 733, 734, 735, 736, 737, 738, 739, 740, 741, 742] (by decide +kernel) (by decide +kernel)
set_option maxRecDepth 20000 in
theorem gL_law_X3_keptFor : GoodIn wsL_law (wsV RL 161 RX3 yX3_keptFor wsX3_keptFor) := goodIn_app (goodIn_of _ (by decide +kernel)) ggL_law_X3_keptFor
set_option maxRecDepth 20000 in
theorem ggL_law_L_peopleOn : GoodIn wsL_law wsL_peopleOn := goodIn_ca (goodIn_r _ [481, 111, 482, 483, 484, 2, 485, 16, 117, 118, 119, 120, 121, 122, 98, 420, 192, 193, 15, 194, 127, 195, 196, 197, 198, 29, 30, 709, 710, 714, 715, 716, 717, 718, 719, 720, 721, 722, 723, 724, 725, 726, 727, 728, 729] (by decide +kernel) (by decide +kernel)) (goodIn_sub (fun _ h => List.mem_append_right _ h) (by decide +kernel))
set_option maxRecDepth 20000 in
theorem gL_law_L_peopleOn : GoodIn wsL_law (va_wsS RL 162 yL_peopleOn wsL_peopleOn) := goodIn_app (goodIn_of _ (by decide +kernel)) ggL_law_L_peopleOn
set_option maxRecDepth 20000 in
theorem ggL_law_X3_peopleOn : GoodIn wsL_law wsX3_peopleOn := goodIn_r _ [489, 79, 42, 136, 137, 138, 5, 139, 80, 81, 82, 208, 209, 210, 41, 211, 212, 53, 83, 84, 85, 86, 711, 712, 713, 730, 731, 732, 733, 734, 735, 736, 737, 738, 739, 740, 741, 742] (by decide +kernel) (by decide +kernel)
set_option maxRecDepth 20000 in
theorem gL_law_X3_peopleOn : GoodIn wsL_law (wsV RL 164 RX3 yX3_peopleOn wsX3_peopleOn) := goodIn_app (goodIn_of _ (by decide +kernel)) ggL_law_X3_peopleOn
set_option maxRecDepth 20000 in
theorem ggL_law_L_highestFeverOn : GoodIn wsL_law wsL_highestFeverOn := goodIn_ca (goodIn_r _ [492, 111, 493, 494, 495, 2, 496, 16, 117, 118, 119, 120, 121, 122, 98, 497, 498, 499, 15, 500, 127, 28, 241, 242, 243, 244, 195, 196, 197, 198, 29, 30, 709, 710, 714, 715, 716, 717, 718, 719, 720, 721, 722, 723, 724, 725, 726, 727, 728, 729] (by decide +kernel) (by decide +kernel)) (goodIn_sub (fun _ h => List.mem_append_right _ h) (by decide +kernel))
set_option maxRecDepth 20000 in
theorem gL_law_L_highestFeverOn : GoodIn wsL_law (va_wsS RL 165 yL_highestFeverOn wsL_highestFeverOn) := goodIn_app (goodIn_of _ (by decide +kernel)) ggL_law_L_highestFeverOn
set_option maxRecDepth 20000 in
theorem ggL_law_X3_highestFeverOn : GoodIn wsL_law wsX3_highestFeverOn := goodIn_r _ [504, 79, 42, 505, 242, 243, 244, 136, 137, 138, 5, 139, 80, 81, 82, 83, 84, 85, 86, 711, 712, 713, 730, 731, 732, 733, 734, 735, 736, 737, 738, 739, 740, 741, 742] (by decide +kernel) (by decide +kernel)
set_option maxRecDepth 20000 in
theorem gL_law_X3_highestFeverOn : GoodIn wsL_law (wsV RL 167 RX3 yX3_highestFeverOn wsX3_highestFeverOn) := goodIn_app (goodIn_of _ (by decide +kernel)) ggL_law_X3_highestFeverOn
set_option maxRecDepth 20000 in
theorem ggL_law_X1_day : GoodIn wsL_law wsX1_day := goodIn_r _ [509, 16, 510, 709, 710, 714, 715, 716, 717, 718, 719, 720, 721, 722, 723, 724, 725, 726, 727, 728, 729] (by decide +kernel) (by decide +kernel)
set_option maxRecDepth 20000 in
theorem gL_law_X1_day : GoodIn wsL_law (wsV RL 168 RX1 yX1_day wsX1_day) := goodIn_app (goodIn_of _ (by decide +kernel)) ggL_law_X1_day
set_option maxRecDepth 20000 in
theorem ggL_law_X3_day : GoodIn wsL_law wsX3_day := goodIn_r _ [514, 79, 42, 711, 712, 713, 730, 731, 732, 733, 734, 735, 736, 737, 738, 739, 740, 741, 742] (by decide +kernel) (by decide +kernel)
set_option maxRecDepth 20000 in
theorem gL_law_X3_day : GoodIn wsL_law (wsV RL 171 RX3 yX3_day wsX3_day) := goodIn_app (goodIn_of _ (by decide +kernel)) ggL_law_X3_day
set_option maxRecDepth 20000 in
theorem ggL_law_X1_wards : GoodIn wsL_law wsX1_wards := goodIn_r _ [518, 16, 69, 709, 710, 714, 715, 716, 717, 718, 719, 720, 721, 722, 723, 724, 725, 726, 727, 728, 729] (by decide +kernel) (by decide +kernel)
set_option maxRecDepth 20000 in
theorem gL_law_X1_wards : GoodIn wsL_law (wsV RL 172 RX1 yX1_wards wsX1_wards) := goodIn_app (goodIn_of _ (by decide +kernel)) ggL_law_X1_wards
set_option maxRecDepth 20000 in
theorem ggL_law_X3_wards : GoodIn wsL_law wsX3_wards := goodIn_r _ [522, 79, 42, 711, 712, 713, 730, 731, 732, 733, 734, 735, 736, 737, 738, 739, 740, 741, 742] (by decide +kernel) (by decide +kernel)
set_option maxRecDepth 20000 in
theorem gL_law_X3_wards : GoodIn wsL_law (wsV RL 175 RX3 yX3_wards wsX3_wards) := goodIn_app (goodIn_of _ (by decide +kernel)) ggL_law_X3_wards
set_option maxRecDepth 20000 in
theorem ggL_law_X1_barges : GoodIn wsL_law wsX1_barges := goodIn_r _ [526, 16, 98, 709, 710, 714, 715, 716, 717, 718, 719, 720, 721, 722, 723, 724, 725, 726, 727, 728, 729] (by decide +kernel) (by decide +kernel)
set_option maxRecDepth 20000 in
theorem gL_law_X1_barges : GoodIn wsL_law (wsV RL 176 RX1 yX1_barges wsX1_barges) := goodIn_app (goodIn_of _ (by decide +kernel)) ggL_law_X1_barges
set_option maxRecDepth 20000 in
theorem ggL_law_X3_barges : GoodIn wsL_law wsX3_barges := goodIn_r _ [530, 79, 42, 711, 712, 713, 730, 731, 732, 733, 734, 735, 736, 737, 738, 739, 740, 741, 742] (by decide +kernel) (by decide +kernel)
set_option maxRecDepth 20000 in
theorem gL_law_X3_barges : GoodIn wsL_law (wsV RL 179 RX3 yX3_barges wsX3_barges) := goodIn_app (goodIn_of _ (by decide +kernel)) ggL_law_X3_barges
set_option maxRecDepth 20000 in
theorem ggL_law_X1_people : GoodIn wsL_law wsX1_people := goodIn_r _ [534, 16, 116, 709, 710, 714, 715, 716, 717, 718, 719, 720, 721, 722, 723, 724, 725, 726, 727, 728, 729] (by decide +kernel) (by decide +kernel)
set_option maxRecDepth 20000 in
theorem gL_law_X1_people : GoodIn wsL_law (wsV RL 180 RX1 yX1_people wsX1_people) := goodIn_app (goodIn_of _ (by decide +kernel)) ggL_law_X1_people
set_option maxRecDepth 20000 in
theorem ggL_law_X3_people : GoodIn wsL_law wsX3_people := goodIn_r _ [538, 79, 42, 711, 712, 713, 730, 731, 732, 733, 734, 735, 736, 737, 738, 739, 740, 741, 742] (by decide +kernel) (by decide +kernel)
set_option maxRecDepth 20000 in
theorem gL_law_X3_people : GoodIn wsL_law (wsV RL 183 RX3 yX3_people wsX3_people) := goodIn_app (goodIn_of _ (by decide +kernel)) ggL_law_X3_people
set_option maxRecDepth 20000 in
theorem ggL_law_X1_bowls : GoodIn wsL_law wsX1_bowls := goodIn_r _ [542, 16, 147, 709, 710, 714, 715, 716, 717, 718, 719, 720, 721, 722, 723, 724, 725, 726, 727, 728, 729] (by decide +kernel) (by decide +kernel)
set_option maxRecDepth 20000 in
theorem gL_law_X1_bowls : GoodIn wsL_law (wsV RL 184 RX1 yX1_bowls wsX1_bowls) := goodIn_app (goodIn_of _ (by decide +kernel)) ggL_law_X1_bowls
set_option maxRecDepth 20000 in
theorem ggL_law_X3_bowls : GoodIn wsL_law wsX3_bowls := goodIn_r _ [546, 79, 42, 711, 712, 713, 730, 731, 732, 733, 734, 735, 736, 737, 738, 739, 740, 741, 742] (by decide +kernel) (by decide +kernel)
set_option maxRecDepth 20000 in
theorem gL_law_X3_bowls : GoodIn wsL_law (wsV RL 187 RX3 yX3_bowls wsX3_bowls) := goodIn_app (goodIn_of _ (by decide +kernel)) ggL_law_X3_bowls
set_option maxRecDepth 20000 in
theorem ggL_law_X1_freePlaces : GoodIn wsL_law wsX1_freePlaces := goodIn_r _ [550, 16, 69, 187, 188, 189, 15, 190, 24, 191, 192, 193, 194, 127, 195, 196, 197, 198, 29, 30, 709, 710, 714, 715, 716, 717, 718, 719, 720, 721, 722, 723, 724, 725, 726, 727, 728, 729] (by decide +kernel) (by decide +kernel)
set_option maxRecDepth 20000 in
theorem gL_law_X1_freePlaces : GoodIn wsL_law (wsV RL 188 RX1 yX1_freePlaces wsX1_freePlaces) := goodIn_app (goodIn_of _ (by decide +kernel)) ggL_law_X1_freePlaces
set_option maxRecDepth 20000 in
theorem ggL_law_X3_freePlaces : GoodIn wsL_law wsX3_freePlaces := goodIn_r _ [554, 79, 42, 555, 556, 557, 41, 558, 212, 53, 298, 711, 712, 713, 730, 731, 732, 733, 734, 735, 736, 737, 738, 739, 740, 741, 742] (by decide +kernel) (by decide +kernel)
set_option maxRecDepth 20000 in
theorem gL_law_X3_freePlaces : GoodIn wsL_law (wsV RL 191 RX3 yX3_freePlaces wsX3_freePlaces) := goodIn_app (goodIn_of _ (by decide +kernel)) ggL_law_X3_freePlaces
set_option maxRecDepth 20000 in
theorem ggL_law_X1_bowlsShort : GoodIn wsL_law wsX1_bowlsShort := goodIn_r _ [562, 16, 147, 563, 242, 243, 244, 223, 224, 225, 15, 226, 127, 29, 709, 710, 714, 715, 716, 717, 718, 719, 720, 721, 722, 723, 724, 725, 726, 727, 728, 729] (by decide +kernel) (by decide +kernel)
set_option maxRecDepth 20000 in
theorem gL_law_X1_bowlsShort : GoodIn wsL_law (wsV RL 192 RX1 yX1_bowlsShort wsX1_bowlsShort) := goodIn_app (goodIn_of _ (by decide +kernel)) ggL_law_X1_bowlsShort
set_option maxRecDepth 20000 in
theorem ggL_law_X3_bowlsShort : GoodIn wsL_law wsX3_bowlsShort := goodIn_r _ [567, 79, 42, 505, 242, 243, 244, 555, 556, 557, 41, 558, 212, 53, 298, 711, 712, 713, 730, 731, 732, 733, 734, 735, 736, 737, 738, 739, 740, 741, 742] (by decide +kernel) (by decide +kernel)
set_option maxRecDepth 20000 in
theorem gL_law_X3_bowlsShort : GoodIn wsL_law (wsV RL 195 RX3 yX3_bowlsShort wsX3_bowlsShort) := goodIn_app (goodIn_of _ (by decide +kernel)) ggL_law_X3_bowlsShort
set_option maxRecDepth 20000 in
theorem ggL_law_X1_peopleHome : GoodIn wsL_law wsX1_peopleHome := goodIn_r _ [571, 16, 223, 224, 225, 15, 226, 127, 29, 709, 710, 714, 715, 716, 717, 718, 719, 720, 721, 722, 723, 724, 725, 726, 727, 728, 729] (by decide +kernel) (by decide +kernel)
set_option maxRecDepth 20000 in
theorem gL_law_X1_peopleHome : GoodIn wsL_law (wsV RL 196 RX1 yX1_peopleHome wsX1_peopleHome) := goodIn_app (goodIn_of _ (by decide +kernel)) ggL_law_X1_peopleHome