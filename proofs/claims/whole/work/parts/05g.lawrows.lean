set_option maxRecDepth 20000 in
theorem ggL_law_X5_goal : GoodIn wsL_law wsX5_goal := goodIn_r _ [566, 67, 464, 465, 466, 5, 467, 95, 797, 798, 799, 800, 801, 802, 803, 804, 805, 806, 807, 808, 834, 835, 836, 837, 838, 839, 840, 841, 842, 843, 844, 845, 846, 847] (by decide +kernel) (by decide +kernel)
set_option maxRecDepth 20000 in
theorem gL_law_X5_goal : GoodIn wsL_law (wsV RL 157 RX5 yX5_goal wsX5_goal) := goodIn_app (goodIn_of _ (by decide +kernel)) ggL_law_X5_goal
set_option maxRecDepth 20000 in
theorem ggL_law_X3_wayLength : GoodIn wsL_law wsX3_wayLength := goodIn_r _ [570, 20, 794, 795, 796, 817, 818, 819, 820, 821, 822, 823, 824, 825, 826, 827, 828, 829, 830, 831] (by decide +kernel) (by decide +kernel)
set_option maxRecDepth 20000 in
theorem gL_law_X3_wayLength : GoodIn wsL_law (wsV RL 158 RX3 yX3_wayLength wsX3_wayLength) := goodIn_app (goodIn_of _ (by decide +kernel)) ggL_law_X3_wayLength
set_option maxRecDepth 20000 in
theorem ggL_law_X5_wayLength : GoodIn wsL_law wsX5_wayLength := goodIn_r _ [574, 67, 464, 465, 466, 5, 467, 95, 797, 798, 799, 800, 801, 802, 803, 804, 805, 806, 807, 808, 834, 835, 836, 837, 838, 839, 840, 841, 842, 843, 844, 845, 846, 847] (by decide +kernel) (by decide +kernel)
set_option maxRecDepth 20000 in
theorem gL_law_X5_wayLength : GoodIn wsL_law (wsV RL 161 RX5 yX5_wayLength wsX5_wayLength) := goodIn_app (goodIn_of _ (by decide +kernel)) ggL_law_X5_wayLength
set_option maxRecDepth 20000 in
theorem ggL_law_L_isTried : GoodIn wsL_law wsL_isTried := goodIn_ca (goodIn_r _ [577, 108, 578, 579, 580, 2, 581, 20, 169, 170, 171, 172, 120, 121, 16, 173, 174, 175, 15, 176, 26, 135, 123, 124, 125, 126, 233, 234, 235, 19, 236, 42, 582, 583, 584, 585, 44, 181, 182, 794, 795, 796, 809, 810, 811, 812, 813, 814, 815, 816, 817, 818, 819, 820, 821, 822, 823, 824, 825, 826, 827, 828, 829, 830, 831] (by decide +kernel) (by decide +kernel)) (goodIn_sub (fun _ h => List.mem_append_right _ h) (by decide +kernel))
set_option maxRecDepth 20000 in
theorem gL_law_L_isTried : GoodIn wsL_law (va_wsS RL 162 yL_isTried wsL_isTried) := goodIn_app (goodIn_of _ (by decide +kernel)) ggL_law_L_isTried
set_option maxRecDepth 20000 in
theorem ggL_law_X5_isTried : GoodIn wsL_law wsX5_isTried := goodIn_r _ [589, 95, 67, 58, 187, 188, 189, 5, 190, 57, 151, 152, 153, 154, 96, 155, 156, 157, 191, 192, 193, 194, 797, 798, 799, 800, 801, 802, 803, 804, 805, 806, 807, 808, 834, 835, 836, 837, 838, 839, 840, 841, 842, 843, 844, 845, 846, 847] (by decide +kernel) (by decide +kernel)
set_option maxRecDepth 20000 in
theorem gL_law_X5_isTried : GoodIn wsL_law (wsV RL 164 RX5 yX5_isTried wsX5_isTried) := goodIn_app (goodIn_of _ (by decide +kernel)) ggL_law_X5_isTried
set_option maxRecDepth 20000 in
theorem ggL_law_L_remembered : GoodIn wsL_law wsL_remembered := goodIn_ca (goodIn_r _ [592, 108, 593, 594, 595, 2, 596, 20, 116, 117, 118, 119, 120, 121, 16, 122, 123, 124, 15, 125, 126, 597, 309, 310, 40, 311, 52, 51, 312, 313, 314, 794, 795, 796, 817, 818, 819, 820, 821, 822, 823, 824, 825, 826, 827, 828, 829, 830, 831, 809, 810, 811, 812, 813, 814, 815, 816, 832, 833] (by decide +kernel) (by decide +kernel)) (goodIn_sub (fun _ h => List.mem_append_right _ h) (by decide +kernel))
set_option maxRecDepth 20000 in
theorem gL_law_L_remembered : GoodIn wsL_law (va_wsS RL 165 yL_remembered wsL_remembered) := goodIn_app (goodIn_of _ (by decide +kernel)) ggL_law_L_remembered
set_option maxRecDepth 20000 in
theorem ggL_law_X5_remembered : GoodIn wsL_law wsX5_remembered := goodIn_r _ [601, 95, 67, 151, 152, 153, 5, 154, 96, 155, 156, 157, 97, 98, 99, 100, 797, 798, 799, 800, 801, 802, 803, 804, 805, 806, 807, 808, 834, 835, 836, 837, 838, 839, 840, 841, 842, 843, 844, 845, 846, 847] (by decide +kernel) (by decide +kernel)
set_option maxRecDepth 20000 in
theorem gL_law_X5_remembered : GoodIn wsL_law (wsV RL 167 RX5 yX5_remembered wsX5_remembered) := goodIn_app (goodIn_of _ (by decide +kernel)) ggL_law_X5_remembered
set_option maxRecDepth 20000 in
theorem ggL_law_L_strength : GoodIn wsL_law wsL_strength := goodIn_ca (goodIn_r _ [604, 108, 605, 606, 607, 2, 608, 20, 116, 117, 118, 119, 120, 121, 16, 122, 123, 124, 15, 125, 126, 609, 610, 611, 40, 612, 52, 312, 313, 314, 794, 795, 796, 817, 818, 819, 820, 821, 822, 823, 824, 825, 826, 827, 828, 829, 830, 831, 809, 810, 811, 812, 813, 814, 815, 816, 832, 833] (by decide +kernel) (by decide +kernel)) (goodIn_sub (fun _ h => List.mem_append_right _ h) (by decide +kernel))
set_option maxRecDepth 20000 in
theorem gL_law_L_strength : GoodIn wsL_law (va_wsS RL 168 yL_strength wsL_strength) := goodIn_app (goodIn_of _ (by decide +kernel)) ggL_law_L_strength
set_option maxRecDepth 20000 in
theorem ggL_law_X5_strength : GoodIn wsL_law wsX5_strength := goodIn_r _ [616, 95, 151, 152, 153, 5, 154, 96, 155, 156, 157, 617, 618, 619, 620, 67, 97, 98, 99, 100, 797, 798, 799, 800, 801, 802, 803, 804, 805, 806, 807, 808, 834, 835, 836, 837, 838, 839, 840, 841, 842, 843, 844, 845, 846, 847] (by decide +kernel) (by decide +kernel)
set_option maxRecDepth 20000 in
theorem gL_law_X5_strength : GoodIn wsL_law (wsV RL 170 RX5 yX5_strength wsX5_strength) := goodIn_app (goodIn_of _ (by decide +kernel)) ggL_law_X5_strength
set_option maxRecDepth 20000 in
theorem ggL_law_L_knowsWay : GoodIn wsL_law wsL_knowsWay := goodIn_ca (goodIn_r _ [623, 108, 624, 625, 626, 2, 627, 20, 116, 117, 118, 119, 120, 121, 16, 122, 123, 124, 15, 125, 126, 628, 629, 630, 19, 631, 259, 47, 41, 308, 309, 310, 40, 311, 52, 51, 312, 313, 314, 315, 174, 175, 176, 26, 135, 632, 514, 515, 516, 32, 181, 182, 633, 487, 488, 489, 29, 794, 795, 796, 809, 810, 811, 812, 813, 814, 815, 816, 817, 818, 819, 820, 821, 822, 823, 824, 825, 826, 827, 828, 829, 830, 831, 832, 833] (by decide +kernel) (by decide +kernel)) (goodIn_sub (fun _ h => List.mem_append_right _ h) (by decide +kernel))
set_option maxRecDepth 20000 in
theorem gL_law_L_knowsWay : GoodIn wsL_law (va_wsS RL 171 yL_knowsWay wsL_knowsWay) := goodIn_app (goodIn_of _ (by decide +kernel)) ggL_law_L_knowsWay
set_option maxRecDepth 20000 in
theorem ggL_law_X5_knowsWay : GoodIn wsL_law wsX5_knowsWay := goodIn_r _ [637, 95, 151, 152, 153, 5, 154, 96, 155, 156, 157, 638, 639, 640, 641, 67, 61, 58, 59, 191, 192, 193, 194, 797, 798, 799, 800, 801, 802, 803, 804, 805, 806, 807, 808, 834, 835, 836, 837, 838, 839, 840, 841, 842, 843, 844, 845, 846, 847] (by decide +kernel) (by decide +kernel)
set_option maxRecDepth 20000 in
theorem gL_law_X5_knowsWay : GoodIn wsL_law (wsV RL 173 RX5 yX5_knowsWay wsX5_knowsWay) := goodIn_app (goodIn_of _ (by decide +kernel)) ggL_law_X5_knowsWay
set_option maxRecDepth 20000 in
theorem ggL_law_X3_milesWalked : GoodIn wsL_law wsX3_milesWalked := goodIn_r _ [645, 20, 794, 795, 796, 817, 818, 819, 820, 821, 822, 823, 824, 825, 826, 827, 828, 829, 830, 831] (by decide +kernel) (by decide +kernel)
set_option maxRecDepth 20000 in
theorem gL_law_X3_milesWalked : GoodIn wsL_law (wsV RL 174 RX3 yX3_milesWalked wsX3_milesWalked) := goodIn_app (goodIn_of _ (by decide +kernel)) ggL_law_X3_milesWalked
set_option maxRecDepth 20000 in
theorem ggL_law_X5_milesWalked : GoodIn wsL_law wsX5_milesWalked := goodIn_r _ [649, 67, 464, 465, 466, 5, 467, 95, 797, 798, 799, 800, 801, 802, 803, 804, 805, 806, 807, 808, 834, 835, 836, 837, 838, 839, 840, 841, 842, 843, 844, 845, 846, 847] (by decide +kernel) (by decide +kernel)
set_option maxRecDepth 20000 in
theorem gL_law_X5_milesWalked : GoodIn wsL_law (wsV RL 177 RX5 yX5_milesWalked wsX5_milesWalked) := goodIn_app (goodIn_of _ (by decide +kernel)) ggL_law_X5_milesWalked
set_option maxRecDepth 20000 in
theorem ggL_law_X3_milesDoubled : GoodIn wsL_law wsX3_milesDoubled := goodIn_r _ [653, 20, 794, 795, 796, 817, 818, 819, 820, 821, 822, 823, 824, 825, 826, 827, 828, 829, 830, 831] (by decide +kernel) (by decide +kernel)
set_option maxRecDepth 20000 in
theorem gL_law_X3_milesDoubled : GoodIn wsL_law (wsV RL 178 RX3 yX3_milesDoubled wsX3_milesDoubled) := goodIn_app (goodIn_of _ (by decide +kernel)) ggL_law_X3_milesDoubled
set_option maxRecDepth 20000 in
theorem ggL_law_X5_milesDoubled : GoodIn wsL_law wsX5_milesDoubled := goodIn_r _ [657, 67, 464, 465, 466, 5, 467, 95, 797, 798, 799, 800, 801, 802, 803, 804, 805, 806, 807, 808, 834, 835, 836, 837, 838, 839, 840, 841, 842, 843, 844, 845, 846, 847] (by decide +kernel) (by decide +kernel)
set_option maxRecDepth 20000 in
theorem gL_law_X5_milesDoubled : GoodIn wsL_law (wsV RL 181 RX5 yX5_milesDoubled wsX5_milesDoubled) := goodIn_app (goodIn_of _ (by decide +kernel)) ggL_law_X5_milesDoubled
