set_option maxRecDepth 20000 in
theorem ggL_act_L_below : GoodIn wsL_act wsL_below := goodIn_r _ [16, 17] (by decide +kernel) (by decide +kernel)
set_option maxRecDepth 20000 in
theorem gL_act_L_below : GoodIn wsL_act (va_wsS RL 15 yL_below wsL_below) := goodIn_app (goodIn_of _ (by decide +kernel)) ggL_act_L_below
set_option maxRecDepth 20000 in
theorem ggL_act_X4_place : GoodIn wsL_act wsX4_place := goodIn_r _ [22, 23, 24, 25, 26, 27, 21, 28, 29, 318, 319, 320, 321, 322, 323, 324, 325, 326, 327, 328, 329, 330, 331] (by decide +kernel) (by decide +kernel)
set_option maxRecDepth 20000 in
theorem gL_act_X4_place : GoodIn wsL_act (wsV RL 21 RX4 yX4_place wsX4_place) := goodIn_app (goodIn_of _ (by decide +kernel)) ggL_act_X4_place
set_option maxRecDepth 20000 in
theorem ggL_act_X3_addPlace : GoodIn wsL_act wsX3_addPlace := goodIn_ca (goodIn_r _ [34, 35, 36, 37, 332, 333, 334, 335, 336, 337, 338, 339, 340, 341, 342] (by decide +kernel) (by decide +kernel)) (goodIn_sub (fun _ h => List.mem_cons_of_mem _ (List.mem_append_left _ (List.mem_append_left _ (List.mem_append_right _ h)))) (by decide +kernel))
set_option maxRecDepth 20000 in
theorem gL_act_X3_addPlace : GoodIn wsL_act (wsV RL 24 RX3 yX3_addPlace wsX3_addPlace) := goodIn_app (goodIn_of _ (by decide +kernel)) ggL_act_X3_addPlace
set_option maxRecDepth 20000 in
theorem ggL_act_X4_road : GoodIn wsL_act wsX4_road := goodIn_r _ [41, 42, 24, 23, 26, 27, 21, 28, 29, 43, 44, 45, 318, 319, 320, 321, 322, 323, 324, 325, 326, 327, 328, 329, 330, 331] (by decide +kernel) (by decide +kernel)
set_option maxRecDepth 20000 in
theorem gL_act_X4_road : GoodIn wsL_act (wsV RL 32 RX4 yX4_road wsX4_road) := goodIn_app (goodIn_of _ (by decide +kernel)) ggL_act_X4_road
set_option maxRecDepth 20000 in
theorem ggL_act_X3_addRoad : GoodIn wsL_act wsX3_addRoad := goodIn_ca (goodIn_ca (goodIn_ca (goodIn_r _ [49, 50, 51, 35, 36, 37, 52, 53, 54, 33, 55, 56, 57, 58, 59, 60, 61, 62, 63, 64, 65, 66, 67, 68, 69, 70, 71, 72, 73, 74, 75, 76, 77, 78, 79, 80, 81, 82, 83, 84, 85, 86, 87, 88, 332, 333, 334, 335, 336, 337, 338, 339, 340, 341, 342] (by decide +kernel) (by decide +kernel)) (goodIn_sub (fun _ h => List.mem_cons_of_mem _ (List.mem_append_left _ (List.mem_append_right _ h))) (by decide +kernel))) (goodIn_sub (fun _ h => List.mem_cons_of_mem _ (List.mem_append_left _ (List.mem_append_left _ (List.mem_append_right _ h)))) (by decide +kernel))) (goodIn_sub (fun _ h => List.mem_cons_of_mem _ (List.mem_append_right _ h)) (by decide +kernel))
set_option maxRecDepth 20000 in
theorem gL_act_X3_addRoad : GoodIn wsL_act (wsV RL 36 RX3 yX3_addRoad wsX3_addRoad) := goodIn_app (goodIn_of _ (by decide +kernel)) ggL_act_X3_addRoad
set_option maxRecDepth 20000 in
theorem ggL_act_X3_turnRoad : GoodIn wsL_act wsX3_turnRoad := goodIn_ca (goodIn_r _ [92, 37, 93, 94, 95, 33, 96, 56, 57, 97, 98, 99, 61, 100, 72, 73, 59, 60, 62, 63, 101, 102, 103, 104, 86, 105, 106, 107, 108, 84, 109, 110, 332, 333, 334, 335, 336, 337, 338, 339, 340, 341, 342] (by decide +kernel) (by decide +kernel)) (goodIn_sub (fun _ h => List.mem_cons_of_mem _ (List.mem_append_right _ h)) (by decide +kernel))
set_option maxRecDepth 20000 in
theorem gL_act_X3_turnRoad : GoodIn wsL_act (wsV RL 42 RX3 yX3_turnRoad wsX3_turnRoad) := goodIn_app (goodIn_of _ (by decide +kernel)) ggL_act_X3_turnRoad
set_option maxRecDepth 20000 in
theorem ggL_act_X3_turnShepherd : GoodIn wsL_act wsX3_turnShepherd := goodIn_ca (goodIn_r _ [114, 37, 52, 53, 54, 33, 55, 56, 57, 58, 59, 60, 61, 62, 63, 332, 333, 334, 335, 336, 337, 338, 339, 340, 341, 342] (by decide +kernel) (by decide +kernel)) (goodIn_sub (fun _ h => List.mem_cons_of_mem _ (List.mem_append_right _ h)) (by decide +kernel))
set_option maxRecDepth 20000 in
theorem gL_act_X3_turnShepherd : GoodIn wsL_act (wsV RL 50 RX3 yX3_turnShepherd wsX3_turnShepherd) := goodIn_app (goodIn_of _ (by decide +kernel)) ggL_act_X3_turnShepherd
set_option maxRecDepth 20000 in
theorem ggL_act_X3_pay : GoodIn wsL_act wsX3_pay := goodIn_ca (goodIn_r _ [118, 119, 120, 7, 8, 9, 64, 65, 66, 33, 67, 50, 51, 332, 333, 334, 343, 344, 345, 346, 347, 348, 349, 350, 351, 352, 353, 354, 355, 356, 357] (by decide +kernel) (by decide +kernel)) (goodIn_sub (fun _ h => List.mem_cons_of_mem _ (List.mem_append_left _ (List.mem_append_right _ h))) (by decide +kernel))
set_option maxRecDepth 20000 in
theorem gL_act_X3_pay : GoodIn wsL_act (wsV RL 63 RX3 yX3_pay wsX3_pay) := goodIn_app (goodIn_of _ (by decide +kernel)) ggL_act_X3_pay
set_option maxRecDepth 20000 in
theorem ggL_act_X4_night : GoodIn wsL_act wsX4_night := goodIn_r _ [124, 125, 24, 318, 319, 320, 321, 322, 323, 324, 325, 326, 327, 328, 329, 330, 331] (by decide +kernel) (by decide +kernel)
set_option maxRecDepth 20000 in
theorem gL_act_X4_night : GoodIn wsL_act (wsV RL 67 RX4 yX4_night wsX4_night) := goodIn_app (goodIn_of _ (by decide +kernel)) ggL_act_X4_night
set_option maxRecDepth 20000 in
theorem ggL_act_X3_sleep : GoodIn wsL_act wsX3_sleep := goodIn_ca (goodIn_r _ [129, 119, 64, 65, 66, 33, 67, 50, 51, 130, 131, 132, 133, 134, 135, 136, 137, 8, 138, 332, 333, 334, 343, 344, 345, 346, 347, 348, 349, 350, 351, 352, 353, 354, 355, 356, 357, 358, 359] (by decide +kernel) (by decide +kernel)) (goodIn_sub (fun _ h => List.mem_cons_of_mem _ (List.mem_append_left _ (List.mem_append_right _ h))) (by decide +kernel))
set_option maxRecDepth 20000 in
theorem gL_act_X3_sleep : GoodIn wsL_act (wsV RL 70 RX3 yX3_sleep wsX3_sleep) := goodIn_app (goodIn_of _ (by decide +kernel)) ggL_act_X3_sleep
set_option maxRecDepth 20000 in
theorem ggL_act_X4_over : GoodIn wsL_act wsX4_over := goodIn_r _ [142, 143, 29, 144, 145, 146, 42, 318, 319, 320, 321, 322, 323, 324, 325, 326, 327, 328, 329, 330, 331] (by decide +kernel) (by decide +kernel)
set_option maxRecDepth 20000 in
theorem gL_act_X4_over : GoodIn wsL_act (wsV RL 79 RX4 yX4_over wsX4_over) := goodIn_app (goodIn_of _ (by decide +kernel)) ggL_act_X4_over
set_option maxRecDepth 20000 in
theorem ggL_act_X3_giveUp : GoodIn wsL_act wsX3_giveUp := goodIn_ca (goodIn_r _ [150, 119, 151, 152, 153, 33, 154, 35, 36, 155, 156, 157, 158, 159, 160, 161, 162, 163, 164, 165, 332, 333, 334, 343, 344, 345, 346, 347, 348, 349, 350, 351, 352, 353, 354, 355, 356, 357] (by decide +kernel) (by decide +kernel)) (goodIn_sub (fun _ h => List.mem_cons_of_mem _ (List.mem_append_left _ (List.mem_append_left _ (List.mem_append_right _ h)))) (by decide +kernel))
set_option maxRecDepth 20000 in
theorem gL_act_X3_giveUp : GoodIn wsL_act (wsV RL 82 RX3 yX3_giveUp wsX3_giveUp) := goodIn_app (goodIn_of _ (by decide +kernel)) ggL_act_X3_giveUp
set_option maxRecDepth 20000 in
theorem ggL_act_X4_far : GoodIn wsL_act wsX4_far := goodIn_r _ [169, 23, 24, 42, 170, 7, 8, 9, 318, 319, 320, 321, 322, 323, 324, 325, 326, 327, 328, 329, 330, 331] (by decide +kernel) (by decide +kernel)
set_option maxRecDepth 20000 in
theorem gL_act_X4_far : GoodIn wsL_act (wsV RL 88 RX4 yX4_far wsX4_far) := goodIn_app (goodIn_of _ (by decide +kernel)) ggL_act_X4_far
set_option maxRecDepth 20000 in
theorem ggL_act_X4_begin : GoodIn wsL_act wsX4_begin := goodIn_r _ [174, 25, 175, 143, 176, 140, 141, 21, 142, 29, 144, 145, 146, 42, 318, 319, 320, 321, 322, 323, 324, 325, 326, 327, 328, 329, 330, 331] (by decide +kernel) (by decide +kernel)
set_option maxRecDepth 20000 in
theorem gL_act_X4_begin : GoodIn wsL_act (wsV RL 91 RX4 yX4_begin wsX4_begin) := goodIn_app (goodIn_of _ (by decide +kernel)) ggL_act_X4_begin
set_option maxRecDepth 20000 in
theorem ggL_act_X3_beginErrand : GoodIn wsL_act wsX3_beginErrand := goodIn_ca (goodIn_ca (goodIn_r _ [180, 37, 119, 52, 53, 54, 33, 55, 56, 57, 58, 59, 60, 61, 62, 63, 181, 182, 183, 184, 35, 36, 155, 156, 157, 158, 159, 160, 185, 186, 187, 188, 189, 190, 191, 192, 193, 194, 195, 196, 197, 198, 73, 199, 200, 201, 202, 86, 83, 85, 87, 88, 203, 204, 205, 206, 207, 208, 165, 209, 210, 211, 212, 213, 214, 162, 163, 164, 332, 333, 334, 343, 344, 345, 346, 347, 348, 349, 350, 351, 352, 353, 354, 355, 356, 357, 335, 336, 337, 338, 339, 340, 341, 342] (by decide +kernel) (by decide +kernel)) (goodIn_sub (fun _ h => List.mem_cons_of_mem _ (List.mem_append_right _ h)) (by decide +kernel))) (goodIn_sub (fun _ h => List.mem_cons_of_mem _ (List.mem_append_left _ (List.mem_append_left _ (List.mem_append_right _ h)))) (by decide +kernel))
set_option maxRecDepth 20000 in
theorem gL_act_X3_beginErrand : GoodIn wsL_act (wsV RL 94 RX3 yX3_beginErrand wsX3_beginErrand) := goodIn_app (goodIn_of _ (by decide +kernel)) ggL_act_X3_beginErrand
set_option maxRecDepth 20000 in
theorem ggL_act_X4_go : GoodIn wsL_act wsX4_go := goodIn_r _ [218, 143, 219, 220, 221, 21, 222, 42, 23, 25, 144, 24, 223, 224, 29, 225, 125, 170, 7, 8, 9, 175, 226, 227, 228, 229, 230, 146, 231, 232, 233, 234, 235, 236, 237, 238, 239, 240, 241, 167, 168, 169, 26, 27, 28, 176, 140, 141, 142, 145, 318, 319, 320, 321, 322, 323, 324, 325, 326, 327, 328, 329, 330, 331] (by decide +kernel) (by decide +kernel)
set_option maxRecDepth 20000 in
theorem gL_act_X4_go : GoodIn wsL_act (wsV RL 97 RX4 yX4_go wsX4_go) := goodIn_app (goodIn_of _ (by decide +kernel)) ggL_act_X4_go
set_option maxRecDepth 20000 in
theorem ggL_act_X3_goOn : GoodIn wsL_act wsX3_goOn := goodIn_ca (goodIn_ca (goodIn_r _ [245, 119, 64, 65, 66, 33, 67, 50, 51, 151, 152, 153, 154, 35, 36, 155, 156, 157, 158, 159, 160, 246, 247, 248, 249, 165, 250, 209, 210, 251, 252, 253, 254, 255, 256, 257, 258, 259, 133, 260, 135, 261, 262, 263, 264, 265, 98, 99, 61, 100, 72, 73, 59, 60, 62, 63, 266, 267, 268, 269, 207, 109, 110, 270, 271, 272, 273, 274, 208, 275, 276, 277, 278, 279, 280, 281, 189, 190, 191, 192, 193, 194, 195, 196, 197, 198, 199, 200, 201, 202, 86, 83, 85, 87, 88, 282, 283, 284, 285, 286, 287, 288, 289, 290, 291, 292, 293, 294, 295, 296, 297, 298, 106, 107, 108, 84, 299, 300, 301, 302, 303, 304, 305, 306, 307, 214, 162, 163, 164, 308, 309, 310, 311, 312, 313, 314, 315, 316, 7, 8, 9, 317, 332, 333, 334, 343, 344, 345, 346, 347, 348, 349, 350, 351, 352, 353, 354, 355, 356, 357, 358, 359, 335, 336, 337, 338, 339, 340, 341, 342] (by decide +kernel) (by decide +kernel)) (goodIn_sub (fun _ h => List.mem_cons_of_mem _ (List.mem_append_left _ (List.mem_append_right _ h))) (by decide +kernel))) (goodIn_sub (fun _ h => List.mem_cons_of_mem _ (List.mem_append_left _ (List.mem_append_left _ (List.mem_append_right _ h)))) (by decide +kernel))
set_option maxRecDepth 20000 in
theorem gL_act_X3_goOn : GoodIn wsL_act (wsV RL 100 RX3 yX3_goOn wsX3_goOn) := goodIn_app (goodIn_of _ (by decide +kernel)) ggL_act_X3_goOn
set_option maxRecDepth 20000 in
theorem ggL_build_X4_init : GoodIn wsL_build wsX4_init := goodIn_r _ [7, 8, 9, 10, 11, 12, 13, 14, 15, 16, 17, 18, 19, 20, 100, 101, 102, 103, 104, 105, 106, 107, 108, 109, 110, 111, 112, 113] (by decide +kernel) (by decide +kernel)
set_option maxRecDepth 20000 in
theorem gL_build_X4_init_n103 : GoodIn wsL_build (wsX4_init) := ggL_build_X4_init
set_option maxRecDepth 20000 in
theorem ggL_build_L_cell : GoodIn wsL_build wsL_cell := goodIn_r _ [24, 25] (by decide +kernel) (by decide +kernel)
set_option maxRecDepth 20000 in
theorem gL_build_L_cell : GoodIn wsL_build (va_wsS RL 104 yL_cell wsL_cell) := goodIn_app (goodIn_of _ (by decide +kernel)) ggL_build_L_cell
set_option maxRecDepth 20000 in
theorem ggL_build_L_below : GoodIn wsL_build wsL_below := goodIn_r _ [28, 29] (by decide +kernel) (by decide +kernel)
set_option maxRecDepth 20000 in
theorem gL_build_L_below : GoodIn wsL_build (va_wsS RL 15 yL_below wsL_below) := goodIn_app (goodIn_of _ (by decide +kernel)) ggL_build_L_below
set_option maxRecDepth 20000 in
theorem ggL_build_X4_place : GoodIn wsL_build wsX4_place := goodIn_r _ [33, 13, 34, 17, 35, 36, 3, 37, 11, 100, 101, 102, 103, 104, 105, 106, 107, 108, 109, 110, 111, 112, 113] (by decide +kernel) (by decide +kernel)
set_option maxRecDepth 20000 in
theorem gL_build_X4_place : GoodIn wsL_build (wsV RL 21 RX4 yX4_place wsX4_place) := goodIn_app (goodIn_of _ (by decide +kernel)) ggL_build_X4_place
set_option maxRecDepth 20000 in
theorem ggL_build_X3_addPlace : GoodIn wsL_build wsX3_addPlace := goodIn_ca (goodIn_r _ [42, 43, 44, 45, 114, 115, 116, 117, 118, 119, 120, 121, 122, 123, 124] (by decide +kernel) (by decide +kernel)) (goodIn_sub (fun _ h => List.mem_cons_of_mem _ (List.mem_append_left _ (List.mem_append_left _ (List.mem_append_right _ h)))) (by decide +kernel))
set_option maxRecDepth 20000 in
theorem gL_build_X3_addPlace : GoodIn wsL_build (wsV RL 24 RX3 yX3_addPlace wsX3_addPlace) := goodIn_app (goodIn_of _ (by decide +kernel)) ggL_build_X3_addPlace
set_option maxRecDepth 20000 in
theorem ggL_build_X3_addRoad : GoodIn wsL_build wsX3_addRoad := goodIn_ca (goodIn_ca (goodIn_ca (goodIn_r _ [49, 50, 51, 43, 44, 45, 52, 53, 54, 41, 55, 56, 57, 58, 59, 60, 61, 62, 63, 64, 65, 66, 67, 68, 69, 70, 71, 72, 73, 74, 75, 76, 77, 78, 79, 80, 81, 82, 83, 84, 85, 86, 87, 88, 114, 115, 116, 117, 118, 119, 120, 121, 122, 123, 124] (by decide +kernel) (by decide +kernel)) (goodIn_sub (fun _ h => List.mem_cons_of_mem _ (List.mem_append_left _ (List.mem_append_right _ h))) (by decide +kernel))) (goodIn_sub (fun _ h => List.mem_cons_of_mem _ (List.mem_append_left _ (List.mem_append_left _ (List.mem_append_right _ h)))) (by decide +kernel))) (goodIn_sub (fun _ h => List.mem_cons_of_mem _ (List.mem_append_right _ h)) (by decide +kernel))
set_option maxRecDepth 20000 in
theorem gL_build_X3_addRoad : GoodIn wsL_build (wsV RL 36 RX3 yX3_addRoad wsX3_addRoad) := goodIn_app (goodIn_of _ (by decide +kernel)) ggL_build_X3_addRoad
set_option maxRecDepth 20000 in
theorem ggL_build_X4_road : GoodIn wsL_build wsX4_road := goodIn_r _ [92, 12, 34, 13, 35, 36, 3, 37, 11, 93, 94, 95, 100, 101, 102, 103, 104, 105, 106, 107, 108, 109, 110, 111, 112, 113] (by decide +kernel) (by decide +kernel)
set_option maxRecDepth 20000 in
theorem gL_build_X4_road : GoodIn wsL_build (wsV RL 32 RX4 yX4_road wsX4_road) := goodIn_app (goodIn_of _ (by decide +kernel)) ggL_build_X4_road
set_option maxRecDepth 20000 in
theorem ggL_build_X3_turnShepherd : GoodIn wsL_build wsX3_turnShepherd := goodIn_ca (goodIn_r _ [99, 45, 52, 53, 54, 41, 55, 56, 57, 58, 59, 60, 61, 62, 63, 114, 115, 116, 117, 118, 119, 120, 121, 122, 123, 124] (by decide +kernel) (by decide +kernel)) (goodIn_sub (fun _ h => List.mem_cons_of_mem _ (List.mem_append_right _ h)) (by decide +kernel))
set_option maxRecDepth 20000 in
theorem gL_build_X3_turnShepherd : GoodIn wsL_build (wsV RL 50 RX3 yX3_turnShepherd wsX3_turnShepherd) := goodIn_app (goodIn_of _ (by decide +kernel)) ggL_build_X3_turnShepherd
set_option maxRecDepth 20000 in
theorem ggL_known_X3_remembered : GoodIn wsL_known wsX3_remembered := goodIn_ca (goodIn_r _ [5, 6, 7, 8, 9, 4, 10, 11, 12, 13, 14, 15, 16, 17, 18, 19, 20, 21, 22, 23, 24, 25, 26, 27, 28, 29, 69, 70, 71, 72, 73, 74, 75, 76, 77, 78, 79, 80, 81, 82, 83, 84, 85, 86, 87, 88, 89, 90, 91, 92, 93, 94, 95, 96] (by decide +kernel) (by decide +kernel)) (goodIn_sub (fun _ h => List.mem_cons_of_mem _ (List.mem_append_right _ h)) (by decide +kernel))
set_option maxRecDepth 20000 in
theorem gL_known_X3_remembered : GoodIn wsL_known (wsV RL 161 RX3 yX3_remembered wsX3_remembered) := goodIn_app (goodIn_of _ (by decide +kernel)) ggL_known_X3_remembered
set_option maxRecDepth 20000 in
theorem ggL_known_X3_isOpen : GoodIn wsL_known wsX3_isOpen := goodIn_ca (goodIn_r _ [33, 13, 34, 35, 36, 4, 37, 11, 12, 38, 39, 40, 17, 41, 42, 43, 15, 16, 18, 19, 44, 45, 46, 47, 48, 49, 50, 69, 70, 71, 87, 88, 89, 90, 91, 92, 93, 94] (by decide +kernel) (by decide +kernel)) (goodIn_sub (fun _ h => List.mem_cons_of_mem _ (List.mem_append_right _ h)) (by decide +kernel))
set_option maxRecDepth 20000 in
theorem gL_known_X3_isOpen : GoodIn wsL_known (wsV RL 152 RX3 yX3_isOpen wsX3_isOpen) := goodIn_app (goodIn_of _ (by decide +kernel)) ggL_known_X3_isOpen
set_option maxRecDepth 20000 in
theorem ggL_known_X3_milesOf : GoodIn wsL_known wsX3_milesOf := goodIn_ca (goodIn_r _ [54, 13, 34, 35, 36, 4, 37, 11, 12, 38, 39, 40, 17, 41, 42, 43, 15, 16, 18, 19, 55, 56, 57, 58, 59, 49, 50, 69, 70, 71, 87, 88, 89, 90, 91, 92, 93, 94] (by decide +kernel) (by decide +kernel)) (goodIn_sub (fun _ h => List.mem_cons_of_mem _ (List.mem_append_right _ h)) (by decide +kernel))
set_option maxRecDepth 20000 in
theorem gL_known_X3_milesOf : GoodIn wsL_known (wsV RL 149 RX3 yX3_milesOf wsX3_milesOf) := goodIn_app (goodIn_of _ (by decide +kernel)) ggL_known_X3_milesOf
set_option maxRecDepth 20000 in
theorem ggL_known_X3_leadsTo : GoodIn wsL_known wsX3_leadsTo := goodIn_ca (goodIn_r _ [63, 13, 34, 35, 36, 4, 37, 11, 12, 38, 39, 40, 17, 41, 42, 43, 15, 16, 18, 19, 64, 65, 66, 67, 68, 49, 50, 69, 70, 71, 87, 88, 89, 90, 91, 92, 93, 94] (by decide +kernel) (by decide +kernel)) (goodIn_sub (fun _ h => List.mem_cons_of_mem _ (List.mem_append_right _ h)) (by decide +kernel))
set_option maxRecDepth 20000 in
theorem gL_known_X3_leadsTo : GoodIn wsL_known (wsV RL 146 RX3 yX3_leadsTo wsX3_leadsTo) := goodIn_app (goodIn_of _ (by decide +kernel)) ggL_known_X3_leadsTo
