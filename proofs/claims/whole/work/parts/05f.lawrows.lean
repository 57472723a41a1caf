set_option maxRecDepth 20000 in
theorem ggL_law_L_leadsTo : GoodIn wsL_law wsL_leadsTo := goodIn_ca (goodIn_r _ [481, 108, 482, 483, 484, 2, 485, 16, 169, 170, 171, 172, 120, 121, 173, 174, 175, 15, 176, 26, 135, 123, 124, 125, 126, 486, 487, 488, 489, 29, 181, 182, 794, 795, 796, 809, 810, 811, 812, 813, 814, 815, 816] (by decide +kernel) (by decide +kernel)) (goodIn_sub (fun _ h => List.mem_append_right _ h) (by decide +kernel))
set_option maxRecDepth 20000 in
theorem gL_law_L_leadsTo : GoodIn wsL_law (va_wsS RL 131 yL_leadsTo wsL_leadsTo) := goodIn_app (goodIn_of _ (by decide +kernel)) ggL_law_L_leadsTo
set_option maxRecDepth 20000 in
theorem ggL_law_X5_leadsTo : GoodIn wsL_law wsX5_leadsTo := goodIn_r _ [493, 95, 59, 187, 188, 189, 5, 190, 57, 151, 152, 153, 154, 96, 155, 156, 157, 97, 98, 99, 100, 797, 798, 799, 800, 801, 802, 803, 804, 805, 806, 807, 808] (by decide +kernel) (by decide +kernel)
set_option maxRecDepth 20000 in
theorem gL_law_X5_leadsTo : GoodIn wsL_law (wsV RL 133 RX5 yX5_leadsTo wsX5_leadsTo) := goodIn_app (goodIn_of _ (by decide +kernel)) ggL_law_X5_leadsTo
set_option maxRecDepth 20000 in
theorem ggL_law_L_milesOf : GoodIn wsL_law wsL_milesOf := goodIn_ca (goodIn_r _ [496, 108, 497, 498, 499, 2, 500, 16, 169, 170, 171, 172, 120, 121, 173, 174, 175, 15, 176, 26, 135, 123, 124, 125, 126, 501, 351, 352, 353, 31, 181, 182, 794, 795, 796, 809, 810, 811, 812, 813, 814, 815, 816] (by decide +kernel) (by decide +kernel)) (goodIn_sub (fun _ h => List.mem_append_right _ h) (by decide +kernel))
set_option maxRecDepth 20000 in
theorem gL_law_L_milesOf : GoodIn wsL_law (va_wsS RL 134 yL_milesOf wsL_milesOf) := goodIn_app (goodIn_of _ (by decide +kernel)) ggL_law_L_milesOf
set_option maxRecDepth 20000 in
theorem ggL_law_X5_milesOf : GoodIn wsL_law wsX5_milesOf := goodIn_r _ [505, 95, 60, 58, 187, 188, 189, 5, 190, 57, 151, 152, 153, 154, 96, 155, 156, 157, 97, 98, 99, 100, 797, 798, 799, 800, 801, 802, 803, 804, 805, 806, 807, 808] (by decide +kernel) (by decide +kernel)
set_option maxRecDepth 20000 in
theorem gL_law_X5_milesOf : GoodIn wsL_law (wsV RL 136 RX5 yX5_milesOf wsX5_milesOf) := goodIn_app (goodIn_of _ (by decide +kernel)) ggL_law_X5_milesOf
set_option maxRecDepth 20000 in
theorem ggL_law_L_isOpen : GoodIn wsL_law wsL_isOpen := goodIn_ca (goodIn_r _ [508, 108, 509, 510, 511, 2, 512, 16, 169, 170, 171, 172, 120, 121, 173, 174, 175, 15, 176, 26, 135, 123, 124, 125, 126, 513, 514, 515, 516, 32, 181, 182, 794, 795, 796, 809, 810, 811, 812, 813, 814, 815, 816] (by decide +kernel) (by decide +kernel)) (goodIn_sub (fun _ h => List.mem_append_right _ h) (by decide +kernel))
set_option maxRecDepth 20000 in
theorem gL_law_L_isOpen : GoodIn wsL_law (va_wsS RL 137 yL_isOpen wsL_isOpen) := goodIn_app (goodIn_of _ (by decide +kernel)) ggL_law_L_isOpen
set_option maxRecDepth 20000 in
theorem ggL_law_X5_isOpen : GoodIn wsL_law wsX5_isOpen := goodIn_r _ [520, 95, 61, 58, 187, 188, 189, 5, 190, 57, 151, 152, 153, 154, 96, 155, 156, 157, 191, 192, 193, 194, 797, 798, 799, 800, 801, 802, 803, 804, 805, 806, 807, 808] (by decide +kernel) (by decide +kernel)
set_option maxRecDepth 20000 in
theorem gL_law_X5_isOpen : GoodIn wsL_law (wsV RL 139 RX5 yX5_isOpen wsX5_isOpen) := goodIn_app (goodIn_of _ (by decide +kernel)) ggL_law_X5_isOpen
set_option maxRecDepth 20000 in
theorem ggL_law_L_hasShepherd : GoodIn wsL_law wsL_hasShepherd := goodIn_ca (goodIn_r _ [523, 108, 524, 525, 526, 2, 527, 16, 116, 117, 118, 119, 120, 121, 122, 123, 124, 15, 125, 126, 794, 795, 796, 809, 810, 811, 812, 813, 814, 815, 816] (by decide +kernel) (by decide +kernel)) (goodIn_sub (fun _ h => List.mem_append_right _ h) (by decide +kernel))
set_option maxRecDepth 20000 in
theorem gL_law_L_hasShepherd : GoodIn wsL_law (va_wsS RL 140 yL_hasShepherd wsL_hasShepherd) := goodIn_app (goodIn_of _ (by decide +kernel)) ggL_law_L_hasShepherd
set_option maxRecDepth 20000 in
theorem ggL_law_X5_hasShepherd : GoodIn wsL_law wsX5_hasShepherd := goodIn_r _ [531, 95, 62, 151, 152, 153, 5, 154, 96, 155, 156, 157, 191, 192, 193, 194, 797, 798, 799, 800, 801, 802, 803, 804, 805, 806, 807, 808] (by decide +kernel) (by decide +kernel)
set_option maxRecDepth 20000 in
theorem gL_law_X5_hasShepherd : GoodIn wsL_law (wsV RL 142 RX5 yX5_hasShepherd wsX5_hasShepherd) := goodIn_app (goodIn_of _ (by decide +kernel)) ggL_law_X5_hasShepherd
set_option maxRecDepth 20000 in
theorem ggL_law_L_distance : GoodIn wsL_law wsL_distance := goodIn_ca (goodIn_r _ [534, 108, 535, 536, 537, 2, 538, 16, 116, 117, 118, 119, 120, 121, 122, 123, 124, 15, 125, 126, 237, 238, 239, 240, 33, 241, 242, 243, 244, 245, 246, 247, 248, 249, 135, 250, 251, 252, 253, 32, 31, 29, 144, 145, 794, 795, 796, 809, 810, 811, 812, 813, 814, 815, 816] (by decide +kernel) (by decide +kernel)) (goodIn_sub (fun _ h => List.mem_append_right _ h) (by decide +kernel))
set_option maxRecDepth 20000 in
theorem gL_law_L_distance : GoodIn wsL_law (va_wsS RL 143 yL_distance wsL_distance) := goodIn_app (goodIn_of _ (by decide +kernel)) ggL_law_L_distance
set_option maxRecDepth 20000 in
theorem ggL_law_X5_distance : GoodIn wsL_law wsX5_distance := goodIn_r _ [542, 95, 151, 152, 153, 5, 154, 96, 155, 156, 157, 280, 281, 282, 283, 63, 284, 285, 286, 287, 57, 61, 58, 59, 60, 97, 98, 99, 100, 797, 798, 799, 800, 801, 802, 803, 804, 805, 806, 807, 808] (by decide +kernel) (by decide +kernel)
set_option maxRecDepth 20000 in
theorem gL_law_X5_distance : GoodIn wsL_law (wsV RL 145 RX5 yX5_distance wsX5_distance) := goodIn_app (goodIn_of _ (by decide +kernel)) ggL_law_X5_distance
set_option maxRecDepth 20000 in
theorem ggL_law_X3_whereIs : GoodIn wsL_law wsX3_whereIs := goodIn_r _ [546, 16, 20, 794, 795, 796, 809, 810, 811, 812, 813, 814, 815, 816, 817, 818, 819, 820, 821, 822, 823, 824, 825, 826, 827, 828, 829, 830, 831] (by decide +kernel) (by decide +kernel)
set_option maxRecDepth 20000 in
theorem gL_law_X3_whereIs : GoodIn wsL_law (wsV RL 146 RX3 yX3_whereIs wsX3_whereIs) := goodIn_app (goodIn_of _ (by decide +kernel)) ggL_law_X3_whereIs
set_option maxRecDepth 20000 in
theorem ggL_law_X5_whereIs : GoodIn wsL_law wsX5_whereIs := goodIn_r _ [550, 67, 464, 465, 466, 5, 467, 95, 797, 798, 799, 800, 801, 802, 803, 804, 805, 806, 807, 808, 834, 835, 836, 837, 838, 839, 840, 841, 842, 843, 844, 845, 846, 847] (by decide +kernel) (by decide +kernel)
set_option maxRecDepth 20000 in
theorem gL_law_X5_whereIs : GoodIn wsL_law (wsV RL 149 RX5 yX5_whereIs wsX5_whereIs) := goodIn_app (goodIn_of _ (by decide +kernel)) ggL_law_X5_whereIs
set_option maxRecDepth 20000 in
theorem ggL_law_X3_coins : GoodIn wsL_law wsX3_coins := goodIn_r _ [554, 20, 794, 795, 796, 817, 818, 819, 820, 821, 822, 823, 824, 825, 826, 827, 828, 829, 830, 831] (by decide +kernel) (by decide +kernel)
set_option maxRecDepth 20000 in
theorem gL_law_X3_coins : GoodIn wsL_law (wsV RL 150 RX3 yX3_coins wsX3_coins) := goodIn_app (goodIn_of _ (by decide +kernel)) ggL_law_X3_coins
set_option maxRecDepth 20000 in
theorem ggL_law_X5_coins : GoodIn wsL_law wsX5_coins := goodIn_r _ [558, 67, 464, 465, 466, 5, 467, 95, 797, 798, 799, 800, 801, 802, 803, 804, 805, 806, 807, 808, 834, 835, 836, 837, 838, 839, 840, 841, 842, 843, 844, 845, 846, 847] (by decide +kernel) (by decide +kernel)
set_option maxRecDepth 20000 in
theorem gL_law_X5_coins : GoodIn wsL_law (wsV RL 153 RX5 yX5_coins wsX5_coins) := goodIn_app (goodIn_of _ (by decide +kernel)) ggL_law_X5_coins
set_option maxRecDepth 20000 in
theorem ggL_law_X3_goal : GoodIn wsL_law wsX3_goal := goodIn_r _ [562, 20, 794, 795, 796, 817, 818, 819, 820, 821, 822, 823, 824, 825, 826, 827, 828, 829, 830, 831] (by decide +kernel) (by decide +kernel)
set_option maxRecDepth 20000 in
theorem gL_law_X3_goal : GoodIn wsL_law (wsV RL 154 RX3 yX3_goal wsX3_goal) := goodIn_app (goodIn_of _ (by decide +kernel)) ggL_law_X3_goal
