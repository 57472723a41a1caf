set_option maxRecDepth 20000 in
theorem ggL_law_X3_init : GoodIn wsL_law wsX3_init := goodIn_r _ [5, 6, 7, 8, 9, 10, 11, 12, 13, 14, 15, 16, 17, 18, 19, 20, 21, 22, 23, 24, 25, 26, 27, 28, 29, 30, 31, 32, 33, 34, 35, 36, 37, 38, 39, 40, 41, 42, 43, 44, 45, 46, 47, 48, 561, 562, 563, 564, 565, 566, 567, 568, 558, 559, 560, 569, 570, 571, 572, 573, 574, 575, 576, 577, 578, 579, 580, 581, 582, 583, 584, 585] (by decide +kernel) (by decide +kernel)
set_option maxRecDepth 20000 in
theorem gL_law_X3_init : GoodIn wsL_law (wsX3_init) := ggL_law_X3_init
set_option maxRecDepth 20000 in
theorem ggL_law_L_build : GoodIn wsL_law wsL_build := goodIn_ca (goodIn_ca (goodIn_ca (goodIn_r _ [52, 53, 54, 55, 56, 57, 58, 59, 60, 7, 8, 61, 62, 63, 23, 64, 65, 66, 67, 68, 69, 70, 71, 51, 72, 73, 74, 75, 76, 77, 78, 79, 80, 81, 21, 82, 83, 84, 85, 86, 87, 2, 88, 89, 90, 12, 91, 92, 93, 94, 95, 96, 97, 98, 99, 100, 101, 102, 103, 104, 105, 11, 106, 107, 108, 109, 110, 111, 112, 113, 114, 115, 22, 116, 117, 118, 119, 120, 121, 122, 123, 124, 125, 25, 26, 27, 28, 126, 127, 128, 129, 130, 131, 132, 133, 134, 135, 136, 137, 138, 586, 587, 588, 589, 590, 591, 592, 593, 594, 595, 596, 597, 598, 599, 558, 559, 560, 561, 562, 563, 564, 565, 566, 567, 568] (by decide +kernel) (by decide +kernel)) (goodIn_sub (fun _ h => List.mem_append_left _ (List.mem_append_left _ (List.mem_append_right _ h))) (by decide +kernel))) (goodIn_sub (fun _ h => List.mem_append_left _ (List.mem_append_right _ h)) (by decide +kernel))) (goodIn_sub (fun _ h => List.mem_append_right _ h) (by decide +kernel))
set_option maxRecDepth 20000 in
theorem gL_law_L_build : GoodIn wsL_law (va_wsS RL 109 yL_build wsL_build) := goodIn_app (goodIn_of _ (by decide +kernel)) ggL_law_L_build
set_option maxRecDepth 20000 in
theorem ggL_law_L_cell : GoodIn wsL_law wsL_cell := goodIn_r _ [72, 73] (by decide +kernel) (by decide +kernel)
set_option maxRecDepth 20000 in
theorem gL_law_L_cell : GoodIn wsL_law (va_wsS RL 104 yL_cell wsL_cell) := goodIn_app (goodIn_of _ (by decide +kernel)) ggL_law_L_cell
set_option maxRecDepth 20000 in
theorem ggL_law_X3_digest : GoodIn wsL_law wsX3_digest := goodIn_ca (goodIn_r _ [361, 362, 363, 364, 365, 2, 366, 12, 367, 368, 369, 370, 371, 372, 373, 374, 16, 375, 376, 377, 378, 379, 380, 381, 382, 383, 384, 385, 386, 387, 388, 389, 390, 391, 392, 393, 394, 395, 396, 397, 398, 399, 400, 401, 402, 403, 404, 405, 406, 407, 408, 409, 410, 411, 412, 413, 414, 97, 98, 99, 100, 101, 102, 103, 104, 105, 11, 106, 107, 415, 416, 417, 418, 419, 420, 421, 422, 423, 424, 425, 156, 157, 158, 159, 160, 161, 162, 163, 22, 116, 426, 427, 428, 429, 25, 172, 173, 430, 431, 432, 433, 434, 340, 341, 342, 27, 435, 436, 437, 438, 439, 440, 441, 442, 28, 443, 444, 445, 446, 206, 207, 208, 15, 209, 38, 447, 448, 449, 450, 40, 451, 452, 453, 454, 455, 456, 457, 458, 459, 301, 302, 36, 303, 48, 47, 304, 305, 306, 460, 461, 462, 463, 464, 465, 466, 467, 558, 559, 560, 561, 562, 563, 564, 565, 566, 567, 568, 569, 570, 571, 572, 573, 574, 575, 576, 577, 578, 579, 580, 581, 582, 583, 584, 585] (by decide +kernel) (by decide +kernel)) (goodIn_sub (fun _ h => List.mem_append_right _ h) (by decide +kernel))
set_option maxRecDepth 20000 in
theorem gL_law_X3_digest : GoodIn wsL_law (wsV RL 117 RX3 yX3_digest wsX3_digest) := goodIn_app (goodIn_of _ (by decide +kernel)) ggL_law_X3_digest
set_option maxRecDepth 20000 in
theorem ggL_law_X3_places : GoodIn wsL_law wsX3_places := goodIn_r _ [366, 12, 558, 559, 560, 561, 562, 563, 564, 565, 566, 567, 568] (by decide +kernel) (by decide +kernel)
set_option maxRecDepth 20000 in
theorem gL_law_X3_places : GoodIn wsL_law (wsV RL 121 RX3 yX3_places wsX3_places) := goodIn_app (goodIn_of _ (by decide +kernel)) ggL_law_X3_places
set_option maxRecDepth 20000 in
theorem ggL_law_X3_goal : GoodIn wsL_law wsX3_goal := goodIn_r _ [382, 16, 558, 559, 560, 569, 570, 571, 572, 573, 574, 575, 576, 577, 578, 579, 580, 581, 582, 583] (by decide +kernel) (by decide +kernel)
set_option maxRecDepth 20000 in
theorem gL_law_X3_goal : GoodIn wsL_law (wsV RL 124 RX3 yX3_goal wsX3_goal) := goodIn_app (goodIn_of _ (by decide +kernel)) ggL_law_X3_goal
set_option maxRecDepth 20000 in
theorem ggL_law_X3_milesDoubled : GoodIn wsL_law wsX3_milesDoubled := goodIn_r _ [394, 16, 558, 559, 560, 569, 570, 571, 572, 573, 574, 575, 576, 577, 578, 579, 580, 581, 582, 583] (by decide +kernel) (by decide +kernel)
set_option maxRecDepth 20000 in
theorem gL_law_X3_milesDoubled : GoodIn wsL_law (wsV RL 126 RX3 yX3_milesDoubled wsX3_milesDoubled) := goodIn_app (goodIn_of _ (by decide +kernel)) ggL_law_X3_milesDoubled
set_option maxRecDepth 20000 in
theorem ggL_law_X3_milesWalked : GoodIn wsL_law wsX3_milesWalked := goodIn_r _ [390, 16, 558, 559, 560, 569, 570, 571, 572, 573, 574, 575, 576, 577, 578, 579, 580, 581, 582, 583] (by decide +kernel) (by decide +kernel)
set_option maxRecDepth 20000 in
theorem gL_law_X3_milesWalked : GoodIn wsL_law (wsV RL 129 RX3 yX3_milesWalked wsX3_milesWalked) := goodIn_app (goodIn_of _ (by decide +kernel)) ggL_law_X3_milesWalked
set_option maxRecDepth 20000 in
theorem ggL_law_X3_coins : GoodIn wsL_law wsX3_coins := goodIn_r _ [378, 16, 558, 559, 560, 569, 570, 571, 572, 573, 574, 575, 576, 577, 578, 579, 580, 581, 582, 583] (by decide +kernel) (by decide +kernel)
set_option maxRecDepth 20000 in
theorem gL_law_X3_coins : GoodIn wsL_law (wsV RL 132 RX3 yX3_coins wsX3_coins) := goodIn_app (goodIn_of _ (by decide +kernel)) ggL_law_X3_coins
set_option maxRecDepth 20000 in
theorem ggL_law_X3_wayLength : GoodIn wsL_law wsX3_wayLength := goodIn_r _ [386, 16, 558, 559, 560, 569, 570, 571, 572, 573, 574, 575, 576, 577, 578, 579, 580, 581, 582, 583] (by decide +kernel) (by decide +kernel)
set_option maxRecDepth 20000 in
theorem gL_law_X3_wayLength : GoodIn wsL_law (wsV RL 134 RX3 yX3_wayLength wsX3_wayLength) := goodIn_app (goodIn_of _ (by decide +kernel)) ggL_law_X3_wayLength
set_option maxRecDepth 20000 in
theorem ggL_law_X3_whereIs : GoodIn wsL_law wsX3_whereIs := goodIn_r _ [374, 12, 16, 558, 559, 560, 561, 562, 563, 564, 565, 566, 567, 568, 569, 570, 571, 572, 573, 574, 575, 576, 577, 578, 579, 580, 581, 582, 583] (by decide +kernel) (by decide +kernel)
set_option maxRecDepth 20000 in
theorem gL_law_X3_whereIs : GoodIn wsL_law (wsV RL 137 RX3 yX3_whereIs wsX3_whereIs) := goodIn_app (goodIn_of _ (by decide +kernel)) ggL_law_X3_whereIs
set_option maxRecDepth 20000 in
theorem ggL_law_X3_knowsWay : GoodIn wsL_law wsX3_knowsWay := goodIn_ca (goodIn_r _ [478, 16, 97, 98, 99, 2, 100, 101, 102, 12, 103, 104, 105, 11, 106, 107, 479, 480, 481, 15, 482, 255, 43, 37, 300, 301, 302, 36, 303, 48, 47, 304, 305, 306, 307, 161, 162, 163, 22, 116, 483, 440, 441, 442, 28, 172, 173, 484, 427, 428, 429, 25, 558, 559, 560, 561, 562, 563, 564, 565, 566, 567, 568, 569, 570, 571, 572, 573, 574, 575, 576, 577, 578, 579, 580, 581, 582, 583, 584, 585] (by decide +kernel) (by decide +kernel)) (goodIn_sub (fun _ h => List.mem_append_right _ h) (by decide +kernel))
set_option maxRecDepth 20000 in
theorem gL_law_X3_knowsWay : GoodIn wsL_law (wsV RL 140 RX3 yX3_knowsWay wsX3_knowsWay) := goodIn_app (goodIn_of _ (by decide +kernel)) ggL_law_X3_knowsWay
set_option maxRecDepth 20000 in
theorem ggL_law_X3_exitsOf : GoodIn wsL_law wsX3_exitsOf := goodIn_ca (goodIn_r _ [421, 12, 97, 98, 99, 2, 100, 101, 102, 103, 104, 105, 11, 106, 107, 558, 559, 560, 561, 562, 563, 564, 565, 566, 567, 568] (by decide +kernel) (by decide +kernel)) (goodIn_sub (fun _ h => List.mem_append_right _ h) (by decide +kernel))
set_option maxRecDepth 20000 in
theorem gL_law_X3_exitsOf : GoodIn wsL_law (wsV RL 143 RX3 yX3_exitsOf wsX3_exitsOf) := goodIn_app (goodIn_of _ (by decide +kernel)) ggL_law_X3_exitsOf
set_option maxRecDepth 20000 in
theorem ggL_law_X3_leadsTo : GoodIn wsL_law wsX3_leadsTo := goodIn_ca (goodIn_r _ [425, 12, 156, 157, 158, 2, 159, 101, 102, 160, 161, 162, 11, 163, 22, 116, 104, 105, 106, 107, 426, 427, 428, 429, 25, 172, 173, 558, 559, 560, 561, 562, 563, 564, 565, 566, 567, 568] (by decide +kernel) (by decide +kernel)) (goodIn_sub (fun _ h => List.mem_append_right _ h) (by decide +kernel))
set_option maxRecDepth 20000 in
theorem gL_law_X3_leadsTo : GoodIn wsL_law (wsV RL 146 RX3 yX3_leadsTo wsX3_leadsTo) := goodIn_app (goodIn_of _ (by decide +kernel)) ggL_law_X3_leadsTo
