set_option maxRecDepth 20000 in
theorem ggL_law_X5_goal : GoodIn wsL_law wsX5_goal := goodIn_r _ [568, 67, 466, 467, 468, 5, 469, 95, 799, 800, 801, 802, 803, 804, 805, 806, 807, 808, 809, 810, 836, 837, 838, 839, 840, 841, 842, 843, 844, 845, 846, 847, 848, 849] (by decide +kernel) (by decide +kernel)
set_option maxRecDepth 20000 in
theorem gL_law_X5_goal : GoodIn wsL_law (wsV RL 157 RX5 yX5_goal wsX5_goal) := goodIn_app (goodIn_of _ (by decide +kernel)) ggL_law_X5_goal
set_option maxRecDepth 20000 in
theorem ggL_law_X3_wayLength : GoodIn wsL_law wsX3_wayLength := goodIn_r _ [572, 20, 796, 797, 798, 819, 820, 821, 822, 823, 824, 825, 826, 827, 828, 829, 830, 831, 832, 833] (by decide +kernel) (by decide +kernel)
set_option maxRecDepth 20000 in
theorem gL_law_X3_wayLength : GoodIn wsL_law (wsV RL 158 RX3 yX3_wayLength wsX3_wayLength) := goodIn_app (goodIn_of _ (by decide +kernel)) ggL_law_X3_wayLength
set_option maxRecDepth 20000 in
theorem ggL_law_X5_wayLength : GoodIn wsL_law wsX5_wayLength := goodIn_r _ [576, 67, 466, 467, 468, 5, 469, 95, 799, 800, 801, 802, 803, 804, 805, 806, 807, 808, 809, 810, 836, 837, 838, 839, 840, 841, 842, 843, 844, 845, 846, 847, 848, 849] (by decide +kernel) (by decide +kernel)
set_option maxRecDepth 20000 in
theorem gL_law_X5_wayLength : GoodIn wsL_law (wsV RL 161 RX5 yX5_wayLength wsX5_wayLength) := goodIn_app (goodIn_of _ (by decide +kernel)) ggL_law_X5_wayLength
set_option maxRecDepth 20000 in
theorem ggL_law_L_isTried : GoodIn wsL_law wsL_isTried := goodIn_ca (goodIn_r _ [579, 108, 580, 581, 582, 2, 583, 20, 170, 171, 172, 173, 120, 121, 16, 174, 175, 176, 15, 177, 26, 135, 123, 124, 125, 126, 238, 239, 240, 19, 241, 42, 584, 585, 586, 587, 44, 186, 187, 796, 797, 798, 811, 812, 813, 814, 815, 816, 817, 818, 819, 820, 821, 822, 823, 824, 825, 826, 827, 828, 829, 830, 831, 832, 833] (by decide +kernel) (by decide +kernel)) (goodIn_sub (fun _ h => List.mem_append_right _ h) (by decide +kernel))
set_option maxRecDepth 20000 in
theorem gL_law_L_isTried : GoodIn wsL_law (va_wsS RL 162 yL_isTried wsL_isTried) := goodIn_app (goodIn_of _ (by decide +kernel)) ggL_law_L_isTried
set_option maxRecDepth 20000 in
theorem ggL_law_X5_isTried : GoodIn wsL_law wsX5_isTried := goodIn_r _ [591, 95, 67, 58, 192, 193, 194, 5, 195, 57, 152, 153, 154, 155, 96, 156, 157, 158, 196, 197, 198, 199, 799, 800, 801, 802, 803, 804, 805, 806, 807, 808, 809, 810, 836, 837, 838, 839, 840, 841, 842, 843, 844, 845, 846, 847, 848, 849] (by decide +kernel) (by decide +kernel)
set_option maxRecDepth 20000 in
theorem gL_law_X5_isTried : GoodIn wsL_law (wsV RL 164 RX5 yX5_isTried wsX5_isTried) := goodIn_app (goodIn_of _ (by decide +kernel)) ggL_law_X5_isTried
set_option maxRecDepth 20000 in
theorem ggL_law_L_remembered : GoodIn wsL_law wsL_remembered := goodIn_ca (goodIn_r _ [594, 108, 595, 596, 597, 2, 598, 20, 116, 117, 118, 119, 120, 121, 16, 122, 123, 124, 15, 125, 126, 599, 314, 315, 40, 316, 52, 51, 317, 318, 319, 796, 797, 798, 819, 820, 821, 822, 823, 824, 825, 826, 827, 828, 829, 830, 831, 832, 833, 811, 812, 813, 814, 815, 816, 817, 818, 834, 835] (by decide +kernel) (by decide +kernel)) (goodIn_sub (fun _ h => List.mem_append_right _ h) (by decide +kernel))
set_option maxRecDepth 20000 in
theorem gL_law_L_remembered : GoodIn wsL_law (va_wsS RL 165 yL_remembered wsL_remembered) := goodIn_app (goodIn_of _ (by decide +kernel)) ggL_law_L_remembered
set_option maxRecDepth 20000 in
theorem ggL_law_X5_remembered : GoodIn wsL_law wsX5_remembered := goodIn_r _ [603, 95, 67, 152, 153, 154, 5, 155, 96, 156, 157, 158, 97, 98, 99, 100, 799, 800, 801, 802, 803, 804, 805, 806, 807, 808, 809, 810, 836, 837, 838, 839, 840, 841, 842, 843, 844, 845, 846, 847, 848, 849] (by decide +kernel) (by decide +kernel)
set_option maxRecDepth 20000 in
theorem gL_law_X5_remembered : GoodIn wsL_law (wsV RL 167 RX5 yX5_remembered wsX5_remembered) := goodIn_app (goodIn_of _ (by decide +kernel)) ggL_law_X5_remembered
set_option maxRecDepth 20000 in
theorem ggL_law_L_strength : GoodIn wsL_law wsL_strength := goodIn_ca (goodIn_r _ [606, 108, 607, 608, 609, 2, 610, 20, 116, 117, 118, 119, 120, 121, 16, 122, 123, 124, 15, 125, 126, 611, 612, 613, 40, 614, 52, 317, 318, 319, 796, 797, 798, 819, 820, 821, 822, 823, 824, 825, 826, 827, 828, 829, 830, 831, 832, 833, 811, 812, 813, 814, 815, 816, 817, 818, 834, 835] (by decide +kernel) (by decide +kernel)) (goodIn_sub (fun _ h => List.mem_append_right _ h) (by decide +kernel))
set_option maxRecDepth 20000 in
theorem gL_law_L_strength : GoodIn wsL_law (va_wsS RL 168 yL_strength wsL_strength) := goodIn_app (goodIn_of _ (by decide +kernel)) ggL_law_L_strength
set_option maxRecDepth 20000 in
theorem ggL_law_X5_strength : GoodIn wsL_law wsX5_strength := goodIn_r _ [618, 95, 152, 153, 154, 5, 155, 96, 156, 157, 158, 619, 620, 621, 622, 67, 97, 98, 99, 100, 799, 800, 801, 802, 803, 804, 805, 806, 807, 808, 809, 810, 836, 837, 838, 839, 840, 841, 842, 843, 844, 845, 846, 847, 848, 849] (by decide +kernel) (by decide +kernel)
set_option maxRecDepth 20000 in
theorem gL_law_X5_strength : GoodIn wsL_law (wsV RL 170 RX5 yX5_strength wsX5_strength) := goodIn_app (goodIn_of _ (by decide +kernel)) ggL_law_X5_strength
set_option maxRecDepth 20000 in
theorem ggL_law_L_knowsWay : GoodIn wsL_law wsL_knowsWay := goodIn_ca (goodIn_r _ [625, 108, 626, 627, 628, 2, 629, 20, 116, 117, 118, 119, 120, 121, 16, 122, 123, 124, 15, 125, 126, 630, 631, 632, 19, 633, 264, 47, 41, 313, 314, 315, 40, 316, 52, 51, 317, 318, 319, 320, 175, 176, 177, 26, 135, 634, 516, 517, 518, 32, 186, 187, 635, 489, 490, 491, 29, 796, 797, 798, 811, 812, 813, 814, 815, 816, 817, 818, 819, 820, 821, 822, 823, 824, 825, 826, 827, 828, 829, 830, 831, 832, 833, 834, 835] (by decide +kernel) (by decide +kernel)) (goodIn_sub (fun _ h => List.mem_append_right _ h) (by decide +kernel))
set_option maxRecDepth 20000 in
theorem gL_law_L_knowsWay : GoodIn wsL_law (va_wsS RL 171 yL_knowsWay wsL_knowsWay) := goodIn_app (goodIn_of _ (by decide +kernel)) ggL_law_L_knowsWay
set_option maxRecDepth 20000 in
theorem ggL_law_X5_knowsWay : GoodIn wsL_law wsX5_knowsWay := goodIn_r _ [639, 95, 152, 153, 154, 5, 155, 96, 156, 157, 158, 640, 641, 642, 643, 67, 61, 58, 59, 196, 197, 198, 199, 799, 800, 801, 802, 803, 804, 805, 806, 807, 808, 809, 810, 836, 837, 838, 839, 840, 841, 842, 843, 844, 845, 846, 847, 848, 849] (by decide +kernel) (by decide +kernel)
set_option maxRecDepth 20000 in
theorem gL_law_X5_knowsWay : GoodIn wsL_law (wsV RL 173 RX5 yX5_knowsWay wsX5_knowsWay) := goodIn_app (goodIn_of _ (by decide +kernel)) ggL_law_X5_knowsWay
set_option maxRecDepth 20000 in
theorem ggL_law_X3_milesWalked : GoodIn wsL_law wsX3_milesWalked := goodIn_r _ [647, 20, 796, 797, 798, 819, 820, 821, 822, 823, 824, 825, 826, 827, 828, 829, 830, 831, 832, 833] (by decide +kernel) (by decide +kernel)
set_option maxRecDepth 20000 in
theorem gL_law_X3_milesWalked : GoodIn wsL_law (wsV RL 174 RX3 yX3_milesWalked wsX3_milesWalked) := goodIn_app (goodIn_of _ (by decide +kernel)) ggL_law_X3_milesWalked
set_option maxRecDepth 20000 in
theorem ggL_law_X5_milesWalked : GoodIn wsL_law wsX5_milesWalked := goodIn_r _ [651, 67, 466, 467, 468, 5, 469, 95, 799, 800, 801, 802, 803, 804, 805, 806, 807, 808, 809, 810, 836, 837, 838, 839, 840, 841, 842, 843, 844, 845, 846, 847, 848, 849] (by decide +kernel) (by decide +kernel)
set_option maxRecDepth 20000 in
theorem gL_law_X5_milesWalked : GoodIn wsL_law (wsV RL 177 RX5 yX5_milesWalked wsX5_milesWalked) := goodIn_app (goodIn_of _ (by decide +kernel)) ggL_law_X5_milesWalked
set_option maxRecDepth 20000 in
theorem ggL_law_X3_milesDoubled : GoodIn wsL_law wsX3_milesDoubled := goodIn_r _ [655, 20, 796, 797, 798, 819, 820, 821, 822, 823, 824, 825, 826, 827, 828, 829, 830, 831, 832, 833] (by decide +kernel) (by decide +kernel)
set_option maxRecDepth 20000 in
theorem gL_law_X3_milesDoubled : GoodIn wsL_law (wsV RL 178 RX3 yX3_milesDoubled wsX3_milesDoubled) := goodIn_app (goodIn_of _ (by decide +kernel)) ggL_law_X3_milesDoubled
set_option maxRecDepth 20000 in
theorem ggL_law_X5_milesDoubled : GoodIn wsL_law wsX5_milesDoubled := goodIn_r _ [659, 67, 466, 467, 468, 5, 469, 95, 799, 800, 801, 802, 803, 804, 805, 806, 807, 808, 809, 810, 836, 837, 838, 839, 840, 841, 842, 843, 844, 845, 846, 847, 848, 849] (by decide +kernel) (by decide +kernel)
set_option maxRecDepth 20000 in
theorem gL_law_X5_milesDoubled : GoodIn wsL_law (wsV RL 181 RX5 yX5_milesDoubled wsX5_milesDoubled) := goodIn_app (goodIn_of _ (by decide +kernel)) ggL_law_X5_milesDoubled
