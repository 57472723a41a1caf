set_option maxRecDepth 20000 in
theorem ggL_remembered_X3_remembered : GoodIn wsL_remembered wsX3_remembered := goodIn_ca (goodIn_r _ [6, 7, 8, 9, 10, 5, 11, 12, 13, 14, 15, 16, 17, 18, 19, 20, 21, 22, 23, 24, 25, 26, 27, 28, 29, 30, 31, 32, 33, 34, 35, 36, 37, 38, 39, 40, 41, 42, 43, 44, 45, 46, 47, 48, 49, 50, 51, 52, 53, 54, 55, 56, 57, 58] (by decide +kernel) (by decide +kernel)) (goodIn_sub (fun _ h => List.mem_cons_of_mem _ (List.mem_append_right _ h)) (by decide +kernel))
set_option maxRecDepth 20000 in
theorem gL_remembered_X3_remembered : GoodIn wsL_remembered (wsV RL 69 RX3 yX3_remembered wsX3_remembered) := goodIn_app (goodIn_of _ (by decide +kernel)) ggL_remembered_X3_remembered
set_option maxRecDepth 20000 in
theorem ggL_strength_X3_strength : GoodIn wsL_strength wsX3_strength := goodIn_ca (goodIn_r _ [6, 7, 8, 9, 10, 5, 11, 12, 13, 14, 15, 16, 17, 18, 19, 20, 21, 22, 23, 24, 25, 26, 27, 28, 29, 30, 31, 32, 33, 34, 35, 36, 37, 38, 39, 40, 41, 42, 43, 44, 45, 46, 47, 48, 49, 50, 51, 52, 53, 54, 55, 56, 57] (by decide +kernel) (by decide +kernel)) (goodIn_sub (fun _ h => List.mem_cons_of_mem _ (List.mem_append_right _ h)) (by decide +kernel))
set_option maxRecDepth 20000 in
theorem gL_strength_X3_strength : GoodIn wsL_strength (wsV RL 72 RX3 yX3_strength wsX3_strength) := goodIn_app (goodIn_of _ (by decide +kernel)) ggL_strength_X3_strength
set_option maxRecDepth 20000 in
theorem ggL_knowsWay_X3_knowsWay : GoodIn wsL_knowsWay wsX3_knowsWay := goodIn_ca (goodIn_r _ [6, 7, 8, 9, 10, 5, 11, 12, 13, 14, 15, 16, 17, 18, 19, 20, 21, 22, 23, 24, 25, 26, 27, 28, 29, 30, 31, 32, 33, 34, 35, 36, 37, 38, 39, 40, 41, 42, 43, 44, 45, 46, 47, 48, 49, 50, 51, 52, 53, 54, 55, 56, 57, 58, 59, 60, 61, 62, 63, 64, 65, 66, 67, 68, 69, 70, 71, 72, 73, 74, 75, 76, 77, 78, 79, 80, 81, 82, 83, 84] (by decide +kernel) (by decide +kernel)) (goodIn_sub (fun _ h => List.mem_cons_of_mem _ (List.mem_append_right _ h)) (by decide +kernel))
set_option maxRecDepth 20000 in
theorem gL_knowsWay_X3_knowsWay : GoodIn wsL_knowsWay (wsV RL 75 RX3 yX3_knowsWay wsX3_knowsWay) := goodIn_app (goodIn_of _ (by decide +kernel)) ggL_knowsWay_X3_knowsWay
set_option maxRecDepth 20000 in
theorem ggL_wouldWalk_X3_wouldWalk : GoodIn wsL_wouldWalk wsX3_wouldWalk := goodIn_ca (goodIn_ca (goodIn_r _ [7, 8, 9, 10, 6, 11, 12, 13, 14, 15, 16, 17, 18, 19, 20, 21, 22, 23, 24, 25, 26, 27, 28, 29, 30, 31, 32, 33, 34, 35, 36, 37, 38, 39, 40, 41, 42, 43, 44, 45, 46, 47, 48, 49, 50, 51, 52, 53, 54, 55, 56, 57, 58, 59, 60, 61, 62, 63, 64, 65, 66, 67, 68, 69, 70, 71, 72, 73, 74, 75, 76, 77, 78, 79, 80, 81, 82, 83, 84, 85, 86, 87, 88, 89, 90, 91, 92, 93, 94, 95, 96, 97, 98, 99, 100, 101, 102, 103, 104, 105, 106, 107, 108, 109, 110, 111, 112, 113, 114, 115, 116, 117, 118, 119, 120, 121, 122, 123, 124, 125, 126, 127, 128, 129, 130, 131, 132, 133, 134, 135, 136, 137, 138, 139, 140, 141, 142, 143, 144, 145, 146, 147, 148, 149, 150, 151, 152, 153, 154, 155, 156, 157, 158, 159, 160, 161, 162, 163, 164, 165, 166, 167, 168, 169, 170, 171, 172, 173, 174, 175, 176, 177, 178, 179, 180, 181, 182, 183, 184, 185, 186, 187, 188, 189, 190, 191, 192, 193, 194, 195, 196, 197, 198, 199, 200, 201] (by decide +kernel) (by decide +kernel)) (goodIn_sub (fun _ h => List.mem_cons_of_mem _ (List.mem_append_left _ (List.mem_append_right _ h))) (by decide +kernel))) (goodIn_sub (fun _ h => List.mem_cons_of_mem _ (List.mem_append_right _ h)) (by decide +kernel))
set_option maxRecDepth 20000 in
theorem gL_wouldWalk_X3_wouldWalk : GoodIn wsL_wouldWalk (wsV RL 78 RX3 yX3_wouldWalk wsX3_wouldWalk) := goodIn_app (goodIn_of _ (by decide +kernel)) ggL_wouldWalk_X3_wouldWalk
set_option maxRecDepth 20000 in
theorem ggL_bestShepherd_X3_bestShepherd : GoodIn wsL_bestShepherd wsX3_bestShepherd := goodIn_ca (goodIn_ca (goodIn_r _ [7, 8, 9, 10, 11, 6, 12, 13, 14, 15, 16, 17, 18, 19, 20, 21, 22, 23, 24, 25, 26, 27, 28, 29, 30, 31, 32, 33, 34, 35, 36, 37, 38, 39, 40, 41, 42, 43, 44, 45, 46, 47, 48, 49, 50, 51, 52, 53, 54, 55, 56, 57, 58, 59, 60, 61, 62, 63, 64, 65, 66, 67, 68, 69, 70, 71, 72, 73, 74, 75, 76, 77, 78, 79, 80, 81, 82, 83, 84, 85, 86, 87, 88, 89, 90, 91, 92, 93, 94, 95, 96, 97, 98, 99, 100, 101, 102, 103, 104, 105, 106, 107, 108, 109, 110, 111, 112, 113, 114, 115, 116, 117, 118, 119, 120, 121, 122, 123, 124, 125, 126, 127, 128, 129, 130, 131, 132, 133, 134, 135, 136, 137, 138, 139, 140, 141, 142, 143, 144, 145, 146, 147, 148, 149, 150, 151, 152, 153, 154, 155, 156, 157, 158, 159, 160, 161, 162, 163, 164, 165, 166, 167, 168, 169, 170, 171, 172, 173, 174, 175, 176, 177, 178, 179, 180, 181, 182, 183, 184, 185, 186, 187, 188, 189, 190, 191, 192, 193, 194, 195, 196, 197, 198, 199, 200, 201] (by decide +kernel) (by decide +kernel)) (goodIn_sub (fun _ h => List.mem_cons_of_mem _ (List.mem_append_left _ (List.mem_append_right _ h))) (by decide +kernel))) (goodIn_sub (fun _ h => List.mem_cons_of_mem _ (List.mem_append_right _ h)) (by decide +kernel))
set_option maxRecDepth 20000 in
theorem gL_bestShepherd_X3_bestShepherd : GoodIn wsL_bestShepherd (wsV RL 81 RX3 yX3_bestShepherd wsX3_bestShepherd) := goodIn_app (goodIn_of _ (by decide +kernel)) ggL_bestShepherd_X3_bestShepherd
set_option maxRecDepth 20000 in
theorem ggL_law_X3_init : GoodIn wsL_law wsX3_init := goodIn_r _ [9, 10, 11, 12, 13, 14, 15, 16, 17, 18, 19, 20, 21, 22, 23, 24, 25, 26, 27, 28, 29, 30, 31, 32, 33, 34, 35, 36, 37, 38, 39, 40, 41, 42, 43, 44, 45, 46, 47, 48, 49, 50, 51, 52, 811, 812, 813, 814, 815, 816, 817, 818, 796, 797, 798, 819, 820, 821, 822, 823, 824, 825, 826, 827, 828, 829, 830, 831, 832, 833, 834, 835] (by decide +kernel) (by decide +kernel)
set_option maxRecDepth 20000 in
theorem gL_law_X3_init : GoodIn wsL_law (wsX3_init) := ggL_law_X3_init
set_option maxRecDepth 20000 in
theorem ggL_law_X5_init : GoodIn wsL_law wsX5_init := goodIn_r _ [55, 56, 11, 12, 25, 57, 58, 59, 60, 27, 61, 62, 63, 64, 65, 66, 67, 68, 69, 70, 71, 72, 73, 74, 75, 76, 77, 78, 79, 799, 800, 801, 802, 803, 804, 805, 806, 807, 808, 809, 810, 836, 837, 838, 839, 840, 841, 842, 843, 844, 845, 846, 847, 848, 849] (by decide +kernel) (by decide +kernel)
set_option maxRecDepth 20000 in
theorem gL_law_X5_init : GoodIn wsL_law (wsX5_init) := ggL_law_X5_init
set_option maxRecDepth 20000 in
theorem ggL_law_L_addPlace : GoodIn wsL_law wsL_addPlace := goodIn_ca (goodIn_r _ [83, 84, 85, 86, 87, 2, 88, 89, 90, 16, 796, 797, 798, 811, 812, 813, 814, 815, 816, 817, 818] (by decide +kernel) (by decide +kernel)) (goodIn_sub (fun _ h => List.mem_append_left _ (List.mem_append_left _ (List.mem_append_right _ h))) (by decide +kernel))
set_option maxRecDepth 20000 in
theorem gL_law_L_addPlace : GoodIn wsL_law (va_wsS RL 88 yL_addPlace wsL_addPlace) := goodIn_app (goodIn_of _ (by decide +kernel)) ggL_law_L_addPlace
set_option maxRecDepth 20000 in
theorem ggL_law_X5_addPlace : GoodIn wsL_law wsX5_addPlace := goodIn_r _ [94, 95, 96, 67, 97, 98, 99, 5, 100, 799, 800, 801, 802, 803, 804, 805, 806, 807, 808, 809, 810, 836, 837, 838, 839, 840, 841, 842, 843, 844, 845, 846, 847, 848, 849] (by decide +kernel) (by decide +kernel)
set_option maxRecDepth 20000 in
theorem gL_law_X5_addPlace : GoodIn wsL_law (wsV RL 93 RX5 yX5_addPlace wsX5_addPlace) := goodIn_app (goodIn_of _ (by decide +kernel)) ggL_law_X5_addPlace
set_option maxRecDepth 20000 in
theorem ggL_law_X5_thrown : GoodIn wsL_law wsX5_thrown := goodIn_r _ [104, 95, 799, 800, 801, 802, 803, 804, 805, 806, 807, 808, 809, 810] (by decide +kernel) (by decide +kernel)
set_option maxRecDepth 20000 in
theorem gL_law_X5_thrown : GoodIn wsL_law (wsV RL 94 RX5 yX5_thrown wsX5_thrown) := goodIn_app (goodIn_of _ (by decide +kernel)) ggL_law_X5_thrown
set_option maxRecDepth 20000 in
theorem ggL_law_L_addRoad : GoodIn wsL_law wsL_addRoad := goodIn_ca (goodIn_ca (goodIn_ca (goodIn_r _ [107, 108, 109, 84, 110, 111, 112, 2, 113, 114, 115, 89, 90, 16, 116, 117, 118, 119, 120, 121, 122, 123, 124, 15, 125, 126, 127, 128, 129, 130, 131, 132, 133, 134, 26, 135, 136, 137, 138, 139, 140, 141, 142, 143, 144, 29, 30, 31, 32, 145, 146, 796, 797, 798, 811, 812, 813, 814, 815, 816, 817, 818] (by decide +kernel) (by decide +kernel)) (goodIn_sub (fun _ h => List.mem_append_left _ (List.mem_append_right _ h)) (by decide +kernel))) (goodIn_sub (fun _ h => List.mem_append_left _ (List.mem_append_left _ (List.mem_append_right _ h))) (by decide +kernel))) (goodIn_sub (fun _ h => List.mem_append_right _ h) (by decide +kernel))
set_option maxRecDepth 20000 in
theorem gL_law_L_addRoad : GoodIn wsL_law (va_wsS RL 97 yL_addRoad wsL_addRoad) := goodIn_app (goodIn_of _ (by decide +kernel)) ggL_law_L_addRoad
set_option maxRecDepth 20000 in
theorem ggL_law_X5_addRoad : GoodIn wsL_law wsX5_addRoad := goodIn_r _ [150, 95, 57, 60, 151, 61, 67, 152, 153, 154, 5, 155, 96, 156, 157, 158, 97, 98, 99, 100, 159, 160, 161, 162, 58, 59, 799, 800, 801, 802, 803, 804, 805, 806, 807, 808, 809, 810, 836, 837, 838, 839, 840, 841, 842, 843, 844, 845, 846, 847, 848, 849] (by decide +kernel) (by decide +kernel)
set_option maxRecDepth 20000 in
theorem gL_law_X5_addRoad : GoodIn wsL_law (wsV RL 100 RX5 yX5_addRoad wsX5_addRoad) := goodIn_app (goodIn_of _ (by decide +kernel)) ggL_law_X5_addRoad
set_option maxRecDepth 20000 in
theorem ggL_law_L_turnRoad : GoodIn wsL_law wsL_turnRoad := goodIn_ca (goodIn_r _ [165, 108, 166, 167, 168, 2, 169, 16, 170, 171, 172, 173, 120, 121, 174, 175, 176, 15, 177, 26, 135, 123, 124, 125, 126, 178, 179, 180, 181, 32, 182, 183, 184, 185, 30, 186, 187, 796, 797, 798, 811, 812, 813, 814, 815, 816, 817, 818] (by decide +kernel) (by decide +kernel)) (goodIn_sub (fun _ h => List.mem_append_right _ h) (by decide +kernel))
set_option maxRecDepth 20000 in
theorem gL_law_L_turnRoad : GoodIn wsL_law (va_wsS RL 101 yL_turnRoad wsL_turnRoad) := goodIn_app (goodIn_of _ (by decide +kernel)) ggL_law_L_turnRoad
set_option maxRecDepth 20000 in
theorem ggL_law_X5_turnRoad : GoodIn wsL_law wsX5_turnRoad := goodIn_r _ [191, 95, 58, 61, 192, 193, 194, 5, 195, 57, 152, 153, 154, 155, 96, 156, 157, 158, 196, 197, 198, 199, 799, 800, 801, 802, 803, 804, 805, 806, 807, 808, 809, 810] (by decide +kernel) (by decide +kernel)
set_option maxRecDepth 20000 in
theorem gL_law_X5_turnRoad : GoodIn wsL_law (wsV RL 104 RX5 yX5_turnRoad wsX5_turnRoad) := goodIn_app (goodIn_of _ (by decide +kernel)) ggL_law_X5_turnRoad
set_option maxRecDepth 20000 in
theorem ggL_law_L_turnShepherd : GoodIn wsL_law wsL_turnShepherd := goodIn_ca (goodIn_r _ [202, 108, 203, 204, 205, 2, 206, 16, 116, 117, 118, 119, 120, 121, 122, 123, 124, 15, 125, 126, 796, 797, 798, 811, 812, 813, 814, 815, 816, 817, 818] (by decide +kernel) (by decide +kernel)) (goodIn_sub (fun _ h => List.mem_append_right _ h) (by decide +kernel))
set_option maxRecDepth 20000 in
theorem gL_law_L_turnShepherd : GoodIn wsL_law (va_wsS RL 105 yL_turnShepherd wsL_turnShepherd) := goodIn_app (goodIn_of _ (by decide +kernel)) ggL_law_L_turnShepherd
