set_option maxRecDepth 20000 in
theorem ggL_law_X3_milesOf : GoodIn wsL_law wsX3_milesOf := goodIn_ca (goodIn_r _ [433, 12, 156, 157, 158, 2, 159, 101, 102, 160, 161, 162, 11, 163, 22, 116, 104, 105, 106, 107, 434, 340, 341, 342, 27, 172, 173, 558, 559, 560, 561, 562, 563, 564, 565, 566, 567, 568] (by decide +kernel) (by decide +kernel)) (goodIn_sub (fun _ h => List.mem_append_right _ h) (by decide +kernel))
set_option maxRecDepth 20000 in
theorem gL_law_X3_milesOf : GoodIn wsL_law (wsV RL 149 RX3 yX3_milesOf wsX3_milesOf) := goodIn_app (goodIn_of _ (by decide +kernel)) ggL_law_X3_milesOf
set_option maxRecDepth 20000 in
theorem ggL_law_X3_isOpen : GoodIn wsL_law wsX3_isOpen := goodIn_ca (goodIn_r _ [438, 12, 156, 157, 158, 2, 159, 101, 102, 160, 161, 162, 11, 163, 22, 116, 104, 105, 106, 107, 439, 440, 441, 442, 28, 172, 173, 558, 559, 560, 561, 562, 563, 564, 565, 566, 567, 568] (by decide +kernel) (by decide +kernel)) (goodIn_sub (fun _ h => List.mem_append_right _ h) (by decide +kernel))
set_option maxRecDepth 20000 in
theorem gL_law_X3_isOpen : GoodIn wsL_law (wsV RL 152 RX3 yX3_isOpen wsX3_isOpen) := goodIn_app (goodIn_of _ (by decide +kernel)) ggL_law_X3_isOpen
set_option maxRecDepth 20000 in
theorem ggL_law_X3_isTried : GoodIn wsL_law wsX3_isTried := goodIn_ca (goodIn_r _ [446, 16, 156, 157, 158, 2, 159, 101, 102, 12, 160, 161, 162, 11, 163, 22, 116, 104, 105, 106, 107, 206, 207, 208, 15, 209, 38, 447, 448, 449, 450, 40, 172, 173, 558, 559, 560, 561, 562, 563, 564, 565, 566, 567, 568, 569, 570, 571, 572, 573, 574, 575, 576, 577, 578, 579, 580, 581, 582, 583] (by decide +kernel) (by decide +kernel)) (goodIn_sub (fun _ h => List.mem_append_right _ h) (by decide +kernel))
set_option maxRecDepth 20000 in
theorem gL_law_X3_isTried : GoodIn wsL_law (wsV RL 155 RX3 yX3_isTried wsX3_isTried) := goodIn_app (goodIn_of _ (by decide +kernel)) ggL_law_X3_isTried
set_option maxRecDepth 20000 in
theorem ggL_law_X3_distance : GoodIn wsL_law wsX3_distance := goodIn_ca (goodIn_r _ [493, 12, 97, 98, 99, 2, 100, 101, 102, 103, 104, 105, 11, 106, 107, 234, 235, 236, 237, 29, 238, 239, 240, 241, 242, 243, 244, 245, 246, 116, 247, 248, 249, 250, 28, 25, 27, 126, 127, 558, 559, 560, 561, 562, 563, 564, 565, 566, 567, 568] (by decide +kernel) (by decide +kernel)) (goodIn_sub (fun _ h => List.mem_append_right _ h) (by decide +kernel))
set_option maxRecDepth 20000 in
theorem gL_law_X3_distance : GoodIn wsL_law (wsV RL 158 RX3 yX3_distance wsX3_distance) := goodIn_app (goodIn_of _ (by decide +kernel)) ggL_law_X3_distance
set_option maxRecDepth 20000 in
theorem ggL_law_X3_remembered : GoodIn wsL_law wsX3_remembered := goodIn_ca (goodIn_r _ [458, 16, 97, 98, 99, 2, 100, 101, 102, 12, 103, 104, 105, 11, 106, 107, 459, 301, 302, 36, 303, 48, 47, 304, 305, 306, 558, 559, 560, 569, 570, 571, 572, 573, 574, 575, 576, 577, 578, 579, 580, 581, 582, 583, 561, 562, 563, 564, 565, 566, 567, 568, 584, 585] (by decide +kernel) (by decide +kernel)) (goodIn_sub (fun _ h => List.mem_append_right _ h) (by decide +kernel))
set_option maxRecDepth 20000 in
theorem gL_law_X3_remembered : GoodIn wsL_law (wsV RL 161 RX3 yX3_remembered wsX3_remembered) := goodIn_app (goodIn_of _ (by decide +kernel)) ggL_law_X3_remembered
set_option maxRecDepth 20000 in
theorem ggL_law_X3_strength : GoodIn wsL_law wsX3_strength := goodIn_ca (goodIn_r _ [463, 16, 97, 98, 99, 2, 100, 101, 102, 12, 103, 104, 105, 11, 106, 107, 464, 465, 466, 36, 467, 48, 304, 305, 306, 558, 559, 560, 569, 570, 571, 572, 573, 574, 575, 576, 577, 578, 579, 580, 581, 582, 583, 561, 562, 563, 564, 565, 566, 567, 568, 584, 585] (by decide +kernel) (by decide +kernel)) (goodIn_sub (fun _ h => List.mem_append_right _ h) (by decide +kernel))
set_option maxRecDepth 20000 in
theorem gL_law_X3_strength : GoodIn wsL_law (wsV RL 164 RX3 yX3_strength wsX3_strength) := goodIn_app (goodIn_of _ (by decide +kernel)) ggL_law_X3_strength
set_option maxRecDepth 20000 in
theorem ggL_law_L_below : GoodIn wsL_law wsL_below := goodIn_r _ [76, 77] (by decide +kernel) (by decide +kernel)
set_option maxRecDepth 20000 in
theorem gL_law_L_below : GoodIn wsL_law (va_wsS RL 15 yL_below wsL_below) := goodIn_app (goodIn_of _ (by decide +kernel)) ggL_law_L_below
set_option maxRecDepth 20000 in
theorem ggL_law_X3_wouldWalk : GoodIn wsL_law wsX3_wouldWalk := goodIn_ca (goodIn_ca (goodIn_r _ [499, 97, 98, 99, 2, 100, 101, 102, 12, 103, 104, 105, 11, 106, 107, 230, 231, 232, 233, 89, 90, 16, 206, 207, 208, 15, 209, 38, 500, 501, 502, 503, 17, 504, 505, 506, 507, 255, 316, 37, 42, 337, 295, 508, 509, 510, 36, 511, 47, 512, 513, 514, 515, 48, 251, 252, 253, 254, 40, 41, 214, 256, 257, 258, 259, 260, 211, 212, 213, 291, 292, 293, 294, 296, 297, 298, 299, 43, 300, 301, 302, 303, 304, 305, 306, 307, 161, 162, 163, 22, 116, 308, 309, 310, 311, 172, 173, 312, 313, 314, 315, 317, 318, 319, 320, 321, 322, 29, 238, 239, 240, 241, 242, 243, 244, 245, 246, 247, 248, 249, 250, 28, 25, 27, 126, 127, 323, 324, 325, 326, 327, 328, 329, 330, 331, 332, 333, 334, 335, 336, 39, 338, 169, 170, 171, 26, 339, 340, 341, 342, 343, 344, 345, 346, 347, 348, 349, 350, 351, 352, 353, 354, 355, 356, 146, 147, 148, 357, 558, 559, 560, 561, 562, 563, 564, 565, 566, 567, 568, 569, 570, 571, 572, 573, 574, 575, 576, 577, 578, 579, 580, 581, 582, 583, 584, 585] (by decide +kernel) (by decide +kernel)) (goodIn_sub (fun _ h => List.mem_append_right _ h) (by decide +kernel))) (goodIn_sub (fun _ h => List.mem_append_left _ (List.mem_append_left _ (List.mem_append_right _ h))) (by decide +kernel))
set_option maxRecDepth 20000 in
theorem gL_law_X3_wouldWalk : GoodIn wsL_law (wsV RL 167 RX3 yX3_wouldWalk wsX3_wouldWalk) := goodIn_app (goodIn_of _ (by decide +kernel)) ggL_law_X3_wouldWalk
set_option maxRecDepth 20000 in
theorem ggL_law_L_known : GoodIn wsL_law wsL_known := goodIn_ca (goodIn_r _ [518, 494, 456, 457, 2, 458, 16, 97, 98, 99, 100, 101, 102, 12, 103, 104, 105, 11, 106, 107, 459, 301, 302, 36, 303, 48, 47, 304, 305, 306, 488, 436, 437, 438, 156, 157, 158, 159, 160, 161, 162, 163, 22, 116, 439, 440, 441, 442, 28, 172, 173, 487, 431, 432, 433, 434, 340, 341, 342, 27, 486, 423, 424, 425, 426, 427, 428, 429, 25, 558, 559, 560, 569, 570, 571, 572, 573, 574, 575, 576, 577, 578, 579, 580, 581, 582, 583, 561, 562, 563, 564, 565, 566, 567, 568, 584, 585] (by decide +kernel) (by decide +kernel)) (goodIn_sub (fun _ h => List.mem_append_right _ h) (by decide +kernel))
set_option maxRecDepth 20000 in
theorem gL_law_L_known : GoodIn wsL_law (va_wsS RL 170 yL_known wsL_known) := goodIn_app (goodIn_of _ (by decide +kernel)) ggL_law_L_known
set_option maxRecDepth 20000 in
theorem ggL_law_X3_bestShepherd : GoodIn wsL_law wsX3_bestShepherd := goodIn_ca (goodIn_ca (goodIn_r _ [522, 12, 97, 98, 99, 2, 100, 101, 102, 103, 104, 105, 11, 106, 107, 230, 231, 232, 233, 89, 90, 16, 206, 207, 208, 15, 209, 38, 500, 501, 502, 503, 17, 504, 505, 506, 507, 255, 316, 37, 42, 337, 295, 508, 509, 510, 36, 511, 47, 512, 513, 514, 515, 48, 251, 252, 253, 254, 40, 41, 214, 256, 257, 258, 259, 260, 211, 212, 213, 291, 292, 293, 294, 296, 297, 298, 299, 43, 300, 301, 302, 303, 304, 305, 306, 307, 161, 162, 163, 22, 116, 308, 309, 310, 311, 172, 173, 312, 313, 314, 315, 317, 318, 319, 320, 321, 322, 29, 238, 239, 240, 241, 242, 243, 244, 245, 246, 247, 248, 249, 250, 28, 25, 27, 126, 127, 323, 324, 325, 326, 327, 328, 329, 330, 331, 332, 333, 334, 335, 336, 39, 338, 169, 170, 171, 26, 339, 340, 341, 342, 343, 344, 345, 346, 347, 348, 349, 350, 351, 352, 353, 354, 355, 356, 146, 147, 148, 357, 558, 559, 560, 561, 562, 563, 564, 565, 566, 567, 568, 569, 570, 571, 572, 573, 574, 575, 576, 577, 578, 579, 580, 581, 582, 583, 584, 585] (by decide +kernel) (by decide +kernel)) (goodIn_sub (fun _ h => List.mem_append_right _ h) (by decide +kernel))) (goodIn_sub (fun _ h => List.mem_append_left _ (List.mem_append_left _ (List.mem_append_right _ h))) (by decide +kernel))
set_option maxRecDepth 20000 in
theorem gL_law_X3_bestShepherd : GoodIn wsL_law (wsV RL 174 RX3 yX3_bestShepherd wsX3_bestShepherd) := goodIn_app (goodIn_of _ (by decide +kernel)) ggL_law_X3_bestShepherd
set_option maxRecDepth 20000 in
theorem ggL_law_X3_hasShepherd : GoodIn wsL_law wsX3_hasShepherd := goodIn_ca (goodIn_r _ [414, 12, 97, 98, 99, 2, 100, 101, 102, 103, 104, 105, 11, 106, 107, 558, 559, 560, 561, 562, 563, 564, 565, 566, 567, 568] (by decide +kernel) (by decide +kernel)) (goodIn_sub (fun _ h => List.mem_append_right _ h) (by decide +kernel))
set_option maxRecDepth 20000 in
theorem gL_law_X3_hasShepherd : GoodIn wsL_law (wsV RL 177 RX3 yX3_hasShepherd wsX3_hasShepherd) := goodIn_app (goodIn_of _ (by decide +kernel)) ggL_law_X3_hasShepherd
set_option maxRecDepth 20000 in
theorem ggL_law_X3_turnShepherd : GoodIn wsL_law wsX3_turnShepherd := goodIn_ca (goodIn_r _ [138, 12, 97, 98, 99, 2, 100, 101, 102, 103, 104, 105, 11, 106, 107, 558, 559, 560, 561, 562, 563, 564, 565, 566, 567, 568] (by decide +kernel) (by decide +kernel)) (goodIn_sub (fun _ h => List.mem_append_right _ h) (by decide +kernel))
set_option maxRecDepth 20000 in
theorem gL_law_X3_turnShepherd : GoodIn wsL_law (wsV RL 50 RX3 yX3_turnShepherd wsX3_turnShepherd) := goodIn_app (goodIn_of _ (by decide +kernel)) ggL_law_X3_turnShepherd
set_option maxRecDepth 20000 in
theorem ggL_law_X3_errandsDone : GoodIn wsL_law wsX3_errandsDone := goodIn_r _ [398, 16, 558, 559, 560, 569, 570, 571, 572, 573, 574, 575, 576, 577, 578, 579, 580, 581, 582, 583] (by decide +kernel) (by decide +kernel)
set_option maxRecDepth 20000 in
theorem gL_law_X3_errandsDone : GoodIn wsL_law (wsV RL 180 RX3 yX3_errandsDone wsX3_errandsDone) := goodIn_app (goodIn_of _ (by decide +kernel)) ggL_law_X3_errandsDone
set_option maxRecDepth 20000 in
theorem ggL_law_X3_errandsInVain : GoodIn wsL_law wsX3_errandsInVain := goodIn_r _ [402, 16, 558, 559, 560, 569, 570, 571, 572, 573, 574, 575, 576, 577, 578, 579, 580, 581, 582, 583] (by decide +kernel) (by decide +kernel)
set_option maxRecDepth 20000 in
theorem gL_law_X3_errandsInVain : GoodIn wsL_law (wsV RL 183 RX3 yX3_errandsInVain wsX3_errandsInVain) := goodIn_app (goodIn_of _ (by decide +kernel)) ggL_law_X3_errandsInVain
set_option maxRecDepth 20000 in
theorem ggL_law_X3_beginErrand : GoodIn wsL_law wsX3_beginErrand := goodIn_ca (goodIn_ca (goodIn_r _ [229, 12, 16, 97, 98, 99, 2, 100, 101, 102, 103, 104, 105, 11, 106, 107, 230, 231, 232, 233, 89, 90, 206, 207, 208, 15, 209, 38, 234, 235, 236, 237, 29, 238, 239, 240, 241, 242, 243, 244, 245, 246, 116, 247, 248, 249, 250, 28, 25, 27, 126, 127, 251, 252, 253, 254, 40, 41, 214, 255, 256, 257, 258, 259, 260, 211, 212, 213, 558, 559, 560, 569, 570, 571, 572, 573, 574, 575, 576, 577, 578, 579, 580, 581, 582, 583, 561, 562, 563, 564, 565, 566, 567, 568] (by decide +kernel) (by decide +kernel)) (goodIn_sub (fun _ h => List.mem_append_right _ h) (by decide +kernel))) (goodIn_sub (fun _ h => List.mem_append_left _ (List.mem_append_left _ (List.mem_append_right _ h))) (by decide +kernel))
set_option maxRecDepth 20000 in
theorem gL_law_X3_beginErrand : GoodIn wsL_law (wsV RL 94 RX3 yX3_beginErrand wsX3_beginErrand) := goodIn_app (goodIn_of _ (by decide +kernel)) ggL_law_X3_beginErrand
