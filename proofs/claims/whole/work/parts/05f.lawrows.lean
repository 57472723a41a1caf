set_option maxRecDepth 20000 in
theorem ggL_law_L_leadsTo : GoodIn wsL_law wsL_leadsTo := goodIn_ca (goodIn_r _ [483, 108, 484, 485, 486, 2, 487, 16, 170, 171, 172, 173, 120, 121, 174, 175, 176, 15, 177, 26, 135, 123, 124, 125, 126, 488, 489, 490, 491, 29, 186, 187, 796, 797, 798, 811, 812, 813, 814, 815, 816, 817, 818] (by decide +kernel) (by decide +kernel)) (goodIn_sub (fun _ h => List.mem_append_right _ h) (by decide +kernel))
set_option maxRecDepth 20000 in
theorem gL_law_L_leadsTo : GoodIn wsL_law (va_wsS RL 131 yL_leadsTo wsL_leadsTo) := goodIn_app (goodIn_of _ (by decide +kernel)) ggL_law_L_leadsTo
set_option maxRecDepth 20000 in
theorem ggL_law_X5_leadsTo : GoodIn wsL_law wsX5_leadsTo := goodIn_r _ [495, 95, 59, 192, 193, 194, 5, 195, 57, 152, 153, 154, 155, 96, 156, 157, 158, 97, 98, 99, 100, 799, 800, 801, 802, 803, 804, 805, 806, 807, 808, 809, 810] (by decide +kernel) (by decide +kernel)
set_option maxRecDepth 20000 in
theorem gL_law_X5_leadsTo : GoodIn wsL_law (wsV RL 133 RX5 yX5_leadsTo wsX5_leadsTo) := goodIn_app (goodIn_of _ (by decide +kernel)) ggL_law_X5_leadsTo
set_option maxRecDepth 20000 in
theorem ggL_law_L_milesOf : GoodIn wsL_law wsL_milesOf := goodIn_ca (goodIn_r _ [498, 108, 499, 500, 501, 2, 502, 16, 170, 171, 172, 173, 120, 121, 174, 175, 176, 15, 177, 26, 135, 123, 124, 125, 126, 503, 353, 354, 355, 31, 186, 187, 796, 797, 798, 811, 812, 813, 814, 815, 816, 817, 818] (by decide +kernel) (by decide +kernel)) (goodIn_sub (fun _ h => List.mem_append_right _ h) (by decide +kernel))
set_option maxRecDepth 20000 in
theorem gL_law_L_milesOf : GoodIn wsL_law (va_wsS RL 134 yL_milesOf wsL_milesOf) := goodIn_app (goodIn_of _ (by decide +kernel)) ggL_law_L_milesOf
set_option maxRecDepth 20000 in
theorem ggL_law_X5_milesOf : GoodIn wsL_law wsX5_milesOf := goodIn_r _ [507, 95, 60, 58, 192, 193, 194, 5, 195, 57, 152, 153, 154, 155, 96, 156, 157, 158, 97, 98, 99, 100, 799, 800, 801, 802, 803, 804, 805, 806, 807, 808, 809, 810] (by decide +kernel) (by decide +kernel)
set_option maxRecDepth 20000 in
theorem gL_law_X5_milesOf : GoodIn wsL_law (wsV RL 136 RX5 yX5_milesOf wsX5_milesOf) := goodIn_app (goodIn_of _ (by decide +kernel)) ggL_law_X5_milesOf
set_option maxRecDepth 20000 in
theorem ggL_law_L_isOpen : GoodIn wsL_law wsL_isOpen := goodIn_ca (goodIn_r _ [510, 108, 511, 512, 513, 2, 514, 16, 170, 171, 172, 173, 120, 121, 174, 175, 176, 15, 177, 26, 135, 123, 124, 125, 126, 515, 516, 517, 518, 32, 186, 187, 796, 797, 798, 811, 812, 813, 814, 815, 816, 817, 818] (by decide +kernel) (by decide +kernel)) (goodIn_sub (fun _ h => List.mem_append_right _ h) (by decide +kernel))
set_option maxRecDepth 20000 in
theorem gL_law_L_isOpen : GoodIn wsL_law (va_wsS RL 137 yL_isOpen wsL_isOpen) := goodIn_app (goodIn_of _ (by decide +kernel)) ggL_law_L_isOpen
set_option maxRecDepth 20000 in
theorem ggL_law_X5_isOpen : GoodIn wsL_law wsX5_isOpen := goodIn_r _ [522, 95, 61, 58, 192, 193, 194, 5, 195, 57, 152, 153, 154, 155, 96, 156, 157, 158, 196, 197, 198, 199, 799, 800, 801, 802, 803, 804, 805, 806, 807, 808, 809, 810] (by decide +kernel) (by decide +kernel)
set_option maxRecDepth 20000 in
theorem gL_law_X5_isOpen : GoodIn wsL_law (wsV RL 139 RX5 yX5_isOpen wsX5_isOpen) := goodIn_app (goodIn_of _ (by decide +kernel)) ggL_law_X5_isOpen
set_option maxRecDepth 20000 in
theorem ggL_law_L_hasShepherd : GoodIn wsL_law wsL_hasShepherd := goodIn_ca (goodIn_r _ [525, 108, 526, 527, 528, 2, 529, 16, 116, 117, 118, 119, 120, 121, 122, 123, 124, 15, 125, 126, 796, 797, 798, 811, 812, 813, 814, 815, 816, 817, 818] (by decide +kernel) (by decide +kernel)) (goodIn_sub (fun _ h => List.mem_append_right _ h) (by decide +kernel))
set_option maxRecDepth 20000 in
theorem gL_law_L_hasShepherd : GoodIn wsL_law (va_wsS RL 140 yL_hasShepherd wsL_hasShepherd) := goodIn_app (goodIn_of _ (by decide +kernel)) ggL_law_L_hasShepherd
set_option maxRecDepth 20000 in
theorem ggL_law_X5_hasShepherd : GoodIn wsL_law wsX5_hasShepherd := goodIn_r _ [533, 95, 62, 152, 153, 154, 5, 155, 96, 156, 157, 158, 196, 197, 198, 199, 799, 800, 801, 802, 803, 804, 805, 806, 807, 808, 809, 810] (by decide +kernel) (by decide +kernel)
set_option maxRecDepth 20000 in
theorem gL_law_X5_hasShepherd : GoodIn wsL_law (wsV RL 142 RX5 yX5_hasShepherd wsX5_hasShepherd) := goodIn_app (goodIn_of _ (by decide +kernel)) ggL_law_X5_hasShepherd
set_option maxRecDepth 20000 in
theorem ggL_law_L_distance : GoodIn wsL_law wsL_distance := goodIn_ca (goodIn_r _ [536, 108, 537, 538, 539, 2, 540, 16, 116, 117, 118, 119, 120, 121, 122, 123, 124, 15, 125, 126, 242, 243, 244, 245, 33, 246, 247, 248, 249, 250, 251, 252, 253, 254, 135, 255, 256, 257, 258, 32, 29, 31, 145, 146, 796, 797, 798, 811, 812, 813, 814, 815, 816, 817, 818] (by decide +kernel) (by decide +kernel)) (goodIn_sub (fun _ h => List.mem_append_right _ h) (by decide +kernel))
set_option maxRecDepth 20000 in
theorem gL_law_L_distance : GoodIn wsL_law (va_wsS RL 143 yL_distance wsL_distance) := goodIn_app (goodIn_of _ (by decide +kernel)) ggL_law_L_distance
set_option maxRecDepth 20000 in
theorem ggL_law_X5_distance : GoodIn wsL_law wsX5_distance := goodIn_r _ [544, 95, 152, 153, 154, 5, 155, 96, 156, 157, 158, 285, 286, 287, 288, 63, 289, 290, 291, 292, 57, 61, 58, 59, 60, 97, 98, 99, 100, 799, 800, 801, 802, 803, 804, 805, 806, 807, 808, 809, 810] (by decide +kernel) (by decide +kernel)
set_option maxRecDepth 20000 in
theorem gL_law_X5_distance : GoodIn wsL_law (wsV RL 145 RX5 yX5_distance wsX5_distance) := goodIn_app (goodIn_of _ (by decide +kernel)) ggL_law_X5_distance
set_option maxRecDepth 20000 in
theorem ggL_law_X3_whereIs : GoodIn wsL_law wsX3_whereIs := goodIn_r _ [548, 16, 20, 796, 797, 798, 811, 812, 813, 814, 815, 816, 817, 818, 819, 820, 821, 822, 823, 824, 825, 826, 827, 828, 829, 830, 831, 832, 833] (by decide +kernel) (by decide +kernel)
set_option maxRecDepth 20000 in
theorem gL_law_X3_whereIs : GoodIn wsL_law (wsV RL 146 RX3 yX3_whereIs wsX3_whereIs) := goodIn_app (goodIn_of _ (by decide +kernel)) ggL_law_X3_whereIs
set_option maxRecDepth 20000 in
theorem ggL_law_X5_whereIs : GoodIn wsL_law wsX5_whereIs := goodIn_r _ [552, 67, 466, 467, 468, 5, 469, 95, 799, 800, 801, 802, 803, 804, 805, 806, 807, 808, 809, 810, 836, 837, 838, 839, 840, 841, 842, 843, 844, 845, 846, 847, 848, 849] (by decide +kernel) (by decide +kernel)
set_option maxRecDepth 20000 in
theorem gL_law_X5_whereIs : GoodIn wsL_law (wsV RL 149 RX5 yX5_whereIs wsX5_whereIs) := goodIn_app (goodIn_of _ (by decide +kernel)) ggL_law_X5_whereIs
set_option maxRecDepth 20000 in
theorem ggL_law_X3_coins : GoodIn wsL_law wsX3_coins := goodIn_r _ [556, 20, 796, 797, 798, 819, 820, 821, 822, 823, 824, 825, 826, 827, 828, 829, 830, 831, 832, 833] (by decide +kernel) (by decide +kernel)
set_option maxRecDepth 20000 in
theorem gL_law_X3_coins : GoodIn wsL_law (wsV RL 150 RX3 yX3_coins wsX3_coins) := goodIn_app (goodIn_of _ (by decide +kernel)) ggL_law_X3_coins
set_option maxRecDepth 20000 in
theorem ggL_law_X5_coins : GoodIn wsL_law wsX5_coins := goodIn_r _ [560, 67, 466, 467, 468, 5, 469, 95, 799, 800, 801, 802, 803, 804, 805, 806, 807, 808, 809, 810, 836, 837, 838, 839, 840, 841, 842, 843, 844, 845, 846, 847, 848, 849] (by decide +kernel) (by decide +kernel)
set_option maxRecDepth 20000 in
theorem gL_law_X5_coins : GoodIn wsL_law (wsV RL 153 RX5 yX5_coins wsX5_coins) := goodIn_app (goodIn_of _ (by decide +kernel)) ggL_law_X5_coins
set_option maxRecDepth 20000 in
theorem ggL_law_X3_goal : GoodIn wsL_law wsX3_goal := goodIn_r _ [564, 20, 796, 797, 798, 819, 820, 821, 822, 823, 824, 825, 826, 827, 828, 829, 830, 831, 832, 833] (by decide +kernel) (by decide +kernel)
set_option maxRecDepth 20000 in
theorem gL_law_X3_goal : GoodIn wsL_law (wsV RL 154 RX3 yX3_goal wsX3_goal) := goodIn_app (goodIn_of _ (by decide +kernel)) ggL_law_X3_goal
