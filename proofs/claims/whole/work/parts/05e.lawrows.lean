set_option maxRecDepth 20000 in
theorem ggL_law_X5_turnShepherd : GoodIn wsL_law wsX5_turnShepherd := goodIn_r _ [205, 95, 62, 151, 152, 153, 5, 154, 96, 155, 156, 157, 191, 192, 193, 194, 797, 798, 799, 800, 801, 802, 803, 804, 805, 806, 807, 808] (by decide +kernel) (by decide +kernel)
set_option maxRecDepth 20000 in
theorem gL_law_X5_turnShepherd : GoodIn wsL_law (wsV RL 108 RX5 yX5_turnShepherd wsX5_turnShepherd) := goodIn_app (goodIn_of _ (by decide +kernel)) ggL_law_X5_turnShepherd
set_option maxRecDepth 20000 in
theorem ggL_law_L_pay : GoodIn wsL_law wsL_pay := goodIn_ca (goodIn_r _ [208, 109, 209, 210, 211, 2, 212, 20, 213, 214, 215, 216, 127, 128, 129, 130, 114, 115, 794, 795, 796, 817, 818, 819, 820, 821, 822, 823, 824, 825, 826, 827, 828, 829, 830, 831] (by decide +kernel) (by decide +kernel)) (goodIn_sub (fun _ h => List.mem_append_left _ (List.mem_append_right _ h)) (by decide +kernel))
set_option maxRecDepth 20000 in
theorem gL_law_L_pay : GoodIn wsL_law (va_wsS RL 109 yL_pay wsL_pay) := goodIn_app (goodIn_of _ (by decide +kernel)) ggL_law_L_pay
set_option maxRecDepth 20000 in
theorem ggL_law_X5_pay : GoodIn wsL_law wsX5_pay := goodIn_r _ [220, 95, 67, 221, 214, 215, 216, 155, 156, 5, 157, 97, 98, 99, 100, 797, 798, 799, 800, 801, 802, 803, 804, 805, 806, 807, 808, 834, 835, 836, 837, 838, 839, 840, 841, 842, 843, 844, 845, 846, 847] (by decide +kernel) (by decide +kernel)
set_option maxRecDepth 20000 in
theorem gL_law_X5_pay : GoodIn wsL_law (wsV RL 111 RX5 yX5_pay wsX5_pay) := goodIn_app (goodIn_of _ (by decide +kernel)) ggL_law_X5_pay
set_option maxRecDepth 20000 in
theorem ggL_law_L_beginErrand : GoodIn wsL_law wsL_beginErrand := goodIn_ca (goodIn_ca (goodIn_r _ [224, 108, 84, 225, 226, 227, 2, 228, 16, 20, 116, 117, 118, 119, 120, 121, 122, 123, 124, 15, 125, 126, 229, 230, 231, 232, 89, 90, 233, 234, 235, 19, 236, 42, 237, 238, 239, 240, 33, 241, 242, 243, 244, 245, 246, 247, 248, 249, 135, 250, 251, 252, 253, 32, 31, 29, 144, 145, 254, 255, 256, 257, 44, 45, 258, 259, 260, 261, 262, 263, 264, 265, 266, 267, 794, 795, 796, 817, 818, 819, 820, 821, 822, 823, 824, 825, 826, 827, 828, 829, 830, 831, 809, 810, 811, 812, 813, 814, 815, 816] (by decide +kernel) (by decide +kernel)) (goodIn_sub (fun _ h => List.mem_append_right _ h) (by decide +kernel))) (goodIn_sub (fun _ h => List.mem_append_left _ (List.mem_append_left _ (List.mem_append_right _ h))) (by decide +kernel))
set_option maxRecDepth 20000 in
theorem gL_law_L_beginErrand : GoodIn wsL_law (va_wsS RL 112 yL_beginErrand wsL_beginErrand) := goodIn_app (goodIn_of _ (by decide +kernel)) ggL_law_L_beginErrand
set_option maxRecDepth 20000 in
theorem ggL_law_X5_beginErrand : GoodIn wsL_law wsX5_beginErrand := goodIn_r _ [271, 95, 67, 151, 152, 153, 5, 154, 96, 155, 156, 157, 97, 98, 99, 100, 272, 273, 274, 275, 276, 277, 66, 278, 74, 279, 75, 76, 280, 281, 282, 283, 63, 284, 285, 286, 287, 57, 61, 58, 59, 60, 797, 798, 799, 800, 801, 802, 803, 804, 805, 806, 807, 808, 834, 835, 836, 837, 838, 839, 840, 841, 842, 843, 844, 845, 846, 847] (by decide +kernel) (by decide +kernel)
set_option maxRecDepth 20000 in
theorem gL_law_X5_beginErrand : GoodIn wsL_law (wsV RL 114 RX5 yX5_beginErrand wsX5_beginErrand) := goodIn_app (goodIn_of _ (by decide +kernel)) ggL_law_X5_beginErrand
set_option maxRecDepth 20000 in
theorem ggL_law_L_goOn : GoodIn wsL_law wsL_goOn := goodIn_ca (goodIn_ca (goodIn_r _ [290, 109, 84, 291, 292, 293, 2, 294, 20, 127, 128, 129, 130, 114, 115, 295, 296, 297, 298, 89, 90, 233, 234, 235, 19, 236, 42, 299, 300, 301, 302, 258, 303, 259, 260, 304, 305, 306, 307, 47, 41, 308, 309, 310, 40, 311, 52, 51, 312, 313, 314, 315, 174, 175, 15, 176, 26, 135, 123, 124, 125, 126, 316, 317, 318, 319, 44, 181, 182, 320, 321, 322, 323, 46, 45, 324, 325, 326, 327, 328, 329, 330, 33, 241, 242, 243, 244, 245, 246, 247, 248, 249, 250, 251, 252, 253, 32, 31, 29, 144, 145, 331, 332, 333, 334, 335, 336, 337, 338, 339, 340, 341, 342, 343, 344, 43, 345, 346, 347, 348, 349, 30, 350, 351, 352, 353, 354, 355, 356, 357, 358, 264, 265, 266, 267, 359, 360, 361, 362, 363, 364, 365, 366, 367, 214, 215, 216, 368, 794, 795, 796, 817, 818, 819, 820, 821, 822, 823, 824, 825, 826, 827, 828, 829, 830, 831, 832, 833, 809, 810, 811, 812, 813, 814, 815, 816] (by decide +kernel) (by decide +kernel)) (goodIn_sub (fun _ h => List.mem_append_left _ (List.mem_append_right _ h)) (by decide +kernel))) (goodIn_sub (fun _ h => List.mem_append_left _ (List.mem_append_left _ (List.mem_append_right _ h))) (by decide +kernel))
set_option maxRecDepth 20000 in
theorem gL_law_L_goOn : GoodIn wsL_law (va_wsS RL 115 yL_goOn wsL_goOn) := goodIn_app (goodIn_of _ (by decide +kernel)) ggL_law_L_goOn
set_option maxRecDepth 20000 in
theorem ggL_law_X5_goOn : GoodIn wsL_law wsX5_goOn := goodIn_r _ [372, 95, 67, 155, 156, 5, 157, 97, 98, 99, 100, 373, 374, 375, 376, 377, 378, 379, 380, 381, 382, 383, 66, 384, 78, 74, 385, 386, 387, 388, 61, 58, 389, 390, 391, 392, 59, 60, 393, 394, 395, 396, 62, 397, 398, 399, 400, 57, 63, 284, 285, 286, 287, 96, 401, 402, 403, 404, 79, 405, 406, 407, 408, 409, 410, 411, 412, 413, 414, 415, 416, 417, 276, 277, 278, 279, 75, 76, 418, 419, 420, 421, 221, 214, 215, 216, 797, 798, 799, 800, 801, 802, 803, 804, 805, 806, 807, 808, 834, 835, 836, 837, 838, 839, 840, 841, 842, 843, 844, 845, 846, 847] (by decide +kernel) (by decide +kernel)
set_option maxRecDepth 20000 in
theorem gL_law_X5_goOn : GoodIn wsL_law (wsV RL 117 RX5 yX5_goOn wsX5_goOn) := goodIn_app (goodIn_of _ (by decide +kernel)) ggL_law_X5_goOn
set_option maxRecDepth 20000 in
theorem ggL_law_L_giveUp : GoodIn wsL_law wsL_giveUp := goodIn_ca (goodIn_r _ [424, 84, 425, 426, 427, 2, 428, 20, 295, 296, 297, 298, 89, 90, 233, 234, 235, 19, 236, 42, 429, 265, 266, 267, 258, 794, 795, 796, 817, 818, 819, 820, 821, 822, 823, 824, 825, 826, 827, 828, 829, 830, 831] (by decide +kernel) (by decide +kernel)) (goodIn_sub (fun _ h => List.mem_append_left _ (List.mem_append_left _ (List.mem_append_right _ h))) (by decide +kernel))
set_option maxRecDepth 20000 in
theorem gL_law_L_giveUp : GoodIn wsL_law (va_wsS RL 118 yL_giveUp wsL_giveUp) := goodIn_app (goodIn_of _ (by decide +kernel)) ggL_law_L_giveUp
set_option maxRecDepth 20000 in
theorem ggL_law_X5_giveUp : GoodIn wsL_law wsX5_giveUp := goodIn_r _ [433, 95, 67, 97, 98, 99, 5, 100, 413, 414, 415, 66, 416, 417, 276, 277, 278, 74, 279, 75, 76, 797, 798, 799, 800, 801, 802, 803, 804, 805, 806, 807, 808, 834, 835, 836, 837, 838, 839, 840, 841, 842, 843, 844, 845, 846, 847] (by decide +kernel) (by decide +kernel)
set_option maxRecDepth 20000 in
theorem gL_law_X5_giveUp : GoodIn wsL_law (wsV RL 120 RX5 yX5_giveUp wsX5_giveUp) := goodIn_app (goodIn_of _ (by decide +kernel)) ggL_law_X5_giveUp
set_option maxRecDepth 20000 in
theorem ggL_law_L_sleep : GoodIn wsL_law wsL_sleep := goodIn_ca (goodIn_r _ [436, 109, 437, 438, 439, 2, 440, 20, 127, 128, 129, 130, 114, 115, 441, 442, 443, 40, 444, 52, 445, 446, 215, 447, 794, 795, 796, 817, 818, 819, 820, 821, 822, 823, 824, 825, 826, 827, 828, 829, 830, 831, 832, 833] (by decide +kernel) (by decide +kernel)) (goodIn_sub (fun _ h => List.mem_append_left _ (List.mem_append_right _ h)) (by decide +kernel))
set_option maxRecDepth 20000 in
theorem gL_law_L_sleep : GoodIn wsL_law (va_wsS RL 121 yL_sleep wsL_sleep) := goodIn_app (goodIn_of _ (by decide +kernel)) ggL_law_L_sleep
set_option maxRecDepth 20000 in
theorem ggL_law_X5_sleep : GoodIn wsL_law wsX5_sleep := goodIn_r _ [451, 95, 155, 156, 5, 157, 97, 98, 99, 100, 452, 453, 454, 455, 67, 797, 798, 799, 800, 801, 802, 803, 804, 805, 806, 807, 808, 834, 835, 836, 837, 838, 839, 840, 841, 842, 843, 844, 845, 846, 847] (by decide +kernel) (by decide +kernel)
set_option maxRecDepth 20000 in
theorem gL_law_X5_sleep : GoodIn wsL_law (wsV RL 123 RX5 yX5_sleep wsX5_sleep) := goodIn_app (goodIn_of _ (by decide +kernel)) ggL_law_X5_sleep
set_option maxRecDepth 20000 in
theorem ggL_law_X3_places : GoodIn wsL_law wsX3_places := goodIn_r _ [459, 16, 794, 795, 796, 809, 810, 811, 812, 813, 814, 815, 816] (by decide +kernel) (by decide +kernel)
set_option maxRecDepth 20000 in
theorem gL_law_X3_places : GoodIn wsL_law (wsV RL 124 RX3 yX3_places wsX3_places) := goodIn_app (goodIn_of _ (by decide +kernel)) ggL_law_X3_places
set_option maxRecDepth 20000 in
theorem ggL_law_X5_places : GoodIn wsL_law wsX5_places := goodIn_r _ [463, 96, 464, 465, 466, 5, 467, 95, 797, 798, 799, 800, 801, 802, 803, 804, 805, 806, 807, 808] (by decide +kernel) (by decide +kernel)
set_option maxRecDepth 20000 in
theorem gL_law_X5_places : GoodIn wsL_law (wsV RL 127 RX5 yX5_places wsX5_places) := goodIn_app (goodIn_of _ (by decide +kernel)) ggL_law_X5_places
set_option maxRecDepth 20000 in
theorem ggL_law_L_exitsOf : GoodIn wsL_law wsL_exitsOf := goodIn_ca (goodIn_r _ [470, 108, 471, 472, 473, 2, 474, 16, 116, 117, 118, 119, 120, 121, 122, 123, 124, 15, 125, 126, 794, 795, 796, 809, 810, 811, 812, 813, 814, 815, 816] (by decide +kernel) (by decide +kernel)) (goodIn_sub (fun _ h => List.mem_append_right _ h) (by decide +kernel))
set_option maxRecDepth 20000 in
theorem gL_law_L_exitsOf : GoodIn wsL_law (va_wsS RL 128 yL_exitsOf wsL_exitsOf) := goodIn_app (goodIn_of _ (by decide +kernel)) ggL_law_L_exitsOf
set_option maxRecDepth 20000 in
theorem ggL_law_X5_exitsOf : GoodIn wsL_law wsX5_exitsOf := goodIn_r _ [478, 95, 57, 151, 152, 153, 5, 154, 96, 155, 156, 157, 97, 98, 99, 100, 797, 798, 799, 800, 801, 802, 803, 804, 805, 806, 807, 808] (by decide +kernel) (by decide +kernel)
set_option maxRecDepth 20000 in
theorem gL_law_X5_exitsOf : GoodIn wsL_law (wsV RL 130 RX5 yX5_exitsOf wsX5_exitsOf) := goodIn_app (goodIn_of _ (by decide +kernel)) ggL_law_X5_exitsOf
