set_option maxRecDepth 20000 in
theorem ggL_law_X5_turnShepherd : GoodIn wsL_law wsX5_turnShepherd := goodIn_r _ [210, 95, 62, 152, 153, 154, 5, 155, 96, 156, 157, 158, 196, 197, 198, 199, 799, 800, 801, 802, 803, 804, 805, 806, 807, 808, 809, 810] (by decide +kernel) (by decide +kernel)
set_option maxRecDepth 20000 in
theorem gL_law_X5_turnShepherd : GoodIn wsL_law (wsV RL 108 RX5 yX5_turnShepherd wsX5_turnShepherd) := goodIn_app (goodIn_of _ (by decide +kernel)) ggL_law_X5_turnShepherd
set_option maxRecDepth 20000 in
theorem ggL_law_L_pay : GoodIn wsL_law wsL_pay := goodIn_ca (goodIn_r _ [213, 109, 214, 215, 216, 2, 217, 20, 218, 219, 220, 221, 127, 128, 129, 130, 114, 115, 796, 797, 798, 819, 820, 821, 822, 823, 824, 825, 826, 827, 828, 829, 830, 831, 832, 833] (by decide +kernel) (by decide +kernel)) (goodIn_sub (fun _ h => List.mem_append_left _ (List.mem_append_right _ h)) (by decide +kernel))
set_option maxRecDepth 20000 in
theorem gL_law_L_pay : GoodIn wsL_law (va_wsS RL 109 yL_pay wsL_pay) := goodIn_app (goodIn_of _ (by decide +kernel)) ggL_law_L_pay
set_option maxRecDepth 20000 in
theorem ggL_law_X5_pay : GoodIn wsL_law wsX5_pay := goodIn_r _ [225, 95, 67, 226, 219, 220, 221, 156, 157, 5, 158, 97, 98, 99, 100, 799, 800, 801, 802, 803, 804, 805, 806, 807, 808, 809, 810, 836, 837, 838, 839, 840, 841, 842, 843, 844, 845, 846, 847, 848, 849] (by decide +kernel) (by decide +kernel)
set_option maxRecDepth 20000 in
theorem gL_law_X5_pay : GoodIn wsL_law (wsV RL 111 RX5 yX5_pay wsX5_pay) := goodIn_app (goodIn_of _ (by decide +kernel)) ggL_law_X5_pay
set_option maxRecDepth 20000 in
theorem ggL_law_L_beginErrand : GoodIn wsL_law wsL_beginErrand := goodIn_ca (goodIn_ca (goodIn_r _ [229, 108, 84, 230, 231, 232, 2, 233, 16, 20, 116, 117, 118, 119, 120, 121, 122, 123, 124, 15, 125, 126, 234, 235, 236, 237, 89, 90, 238, 239, 240, 19, 241, 42, 242, 243, 244, 245, 33, 246, 247, 248, 249, 250, 251, 252, 253, 254, 135, 255, 256, 257, 258, 32, 29, 31, 145, 146, 259, 260, 261, 262, 44, 45, 263, 264, 265, 266, 267, 268, 269, 270, 271, 272, 796, 797, 798, 819, 820, 821, 822, 823, 824, 825, 826, 827, 828, 829, 830, 831, 832, 833, 811, 812, 813, 814, 815, 816, 817, 818] (by decide +kernel) (by decide +kernel)) (goodIn_sub (fun _ h => List.mem_append_right _ h) (by decide +kernel))) (goodIn_sub (fun _ h => List.mem_append_left _ (List.mem_append_left _ (List.mem_append_right _ h))) (by decide +kernel))
set_option maxRecDepth 20000 in
theorem gL_law_L_beginErrand : GoodIn wsL_law (va_wsS RL 112 yL_beginErrand wsL_beginErrand) := goodIn_app (goodIn_of _ (by decide +kernel)) ggL_law_L_beginErrand
set_option maxRecDepth 20000 in
theorem ggL_law_X5_beginErrand : GoodIn wsL_law wsX5_beginErrand := goodIn_r _ [276, 95, 67, 152, 153, 154, 5, 155, 96, 156, 157, 158, 97, 98, 99, 100, 277, 278, 279, 280, 281, 282, 66, 283, 74, 284, 75, 76, 285, 286, 287, 288, 63, 289, 290, 291, 292, 57, 61, 58, 59, 60, 799, 800, 801, 802, 803, 804, 805, 806, 807, 808, 809, 810, 836, 837, 838, 839, 840, 841, 842, 843, 844, 845, 846, 847, 848, 849] (by decide +kernel) (by decide +kernel)
set_option maxRecDepth 20000 in
theorem gL_law_X5_beginErrand : GoodIn wsL_law (wsV RL 114 RX5 yX5_beginErrand wsX5_beginErrand) := goodIn_app (goodIn_of _ (by decide +kernel)) ggL_law_X5_beginErrand
set_option maxRecDepth 20000 in
theorem ggL_law_L_goOn : GoodIn wsL_law wsL_goOn := goodIn_ca (goodIn_ca (goodIn_r _ [295, 109, 84, 296, 297, 298, 2, 299, 20, 127, 128, 129, 130, 114, 115, 300, 301, 302, 303, 89, 90, 238, 239, 240, 19, 241, 42, 304, 305, 306, 307, 263, 308, 264, 265, 309, 310, 311, 312, 47, 41, 313, 314, 315, 40, 316, 52, 51, 317, 318, 319, 320, 175, 176, 15, 177, 26, 135, 123, 124, 125, 126, 321, 322, 323, 324, 44, 186, 187, 325, 326, 327, 328, 46, 45, 329, 330, 331, 332, 333, 334, 335, 33, 246, 247, 248, 249, 250, 251, 252, 253, 254, 255, 256, 257, 258, 32, 29, 31, 145, 146, 336, 337, 338, 339, 340, 341, 342, 343, 344, 345, 346, 347, 348, 349, 43, 350, 351, 183, 184, 185, 30, 352, 353, 354, 355, 356, 357, 358, 359, 360, 269, 270, 271, 272, 361, 362, 363, 364, 365, 366, 367, 368, 369, 219, 220, 221, 370, 796, 797, 798, 819, 820, 821, 822, 823, 824, 825, 826, 827, 828, 829, 830, 831, 832, 833, 834, 835, 811, 812, 813, 814, 815, 816, 817, 818] (by decide +kernel) (by decide +kernel)) (goodIn_sub (fun _ h => List.mem_append_left _ (List.mem_append_right _ h)) (by decide +kernel))) (goodIn_sub (fun _ h => List.mem_append_left _ (List.mem_append_left _ (List.mem_append_right _ h))) (by decide +kernel))
set_option maxRecDepth 20000 in
theorem gL_law_L_goOn : GoodIn wsL_law (va_wsS RL 115 yL_goOn wsL_goOn) := goodIn_app (goodIn_of _ (by decide +kernel)) ggL_law_L_goOn
set_option maxRecDepth 20000 in
theorem ggL_law_X5_goOn : GoodIn wsL_law wsX5_goOn := goodIn_r _ [374, 95, 67, 156, 157, 5, 158, 97, 98, 99, 100, 375, 376, 377, 378, 379, 380, 381, 382, 383, 384, 385, 66, 386, 78, 74, 387, 388, 389, 390, 61, 58, 391, 392, 393, 394, 59, 60, 395, 396, 397, 398, 62, 399, 400, 401, 402, 57, 63, 289, 290, 291, 292, 96, 403, 404, 405, 406, 79, 407, 408, 409, 410, 411, 412, 413, 414, 415, 416, 417, 418, 419, 281, 282, 283, 284, 75, 76, 420, 421, 422, 423, 226, 219, 220, 221, 799, 800, 801, 802, 803, 804, 805, 806, 807, 808, 809, 810, 836, 837, 838, 839, 840, 841, 842, 843, 844, 845, 846, 847, 848, 849] (by decide +kernel) (by decide +kernel)
set_option maxRecDepth 20000 in
theorem gL_law_X5_goOn : GoodIn wsL_law (wsV RL 117 RX5 yX5_goOn wsX5_goOn) := goodIn_app (goodIn_of _ (by decide +kernel)) ggL_law_X5_goOn
set_option maxRecDepth 20000 in
theorem ggL_law_L_giveUp : GoodIn wsL_law wsL_giveUp := goodIn_ca (goodIn_r _ [426, 84, 427, 428, 429, 2, 430, 20, 300, 301, 302, 303, 89, 90, 238, 239, 240, 19, 241, 42, 431, 270, 271, 272, 263, 796, 797, 798, 819, 820, 821, 822, 823, 824, 825, 826, 827, 828, 829, 830, 831, 832, 833] (by decide +kernel) (by decide +kernel)) (goodIn_sub (fun _ h => List.mem_append_left _ (List.mem_append_left _ (List.mem_append_right _ h))) (by decide +kernel))
set_option maxRecDepth 20000 in
theorem gL_law_L_giveUp : GoodIn wsL_law (va_wsS RL 118 yL_giveUp wsL_giveUp) := goodIn_app (goodIn_of _ (by decide +kernel)) ggL_law_L_giveUp
set_option maxRecDepth 20000 in
theorem ggL_law_X5_giveUp : GoodIn wsL_law wsX5_giveUp := goodIn_r _ [435, 95, 67, 97, 98, 99, 5, 100, 415, 416, 417, 66, 418, 419, 281, 282, 283, 74, 284, 75, 76, 799, 800, 801, 802, 803, 804, 805, 806, 807, 808, 809, 810, 836, 837, 838, 839, 840, 841, 842, 843, 844, 845, 846, 847, 848, 849] (by decide +kernel) (by decide +kernel)
set_option maxRecDepth 20000 in
theorem gL_law_X5_giveUp : GoodIn wsL_law (wsV RL 120 RX5 yX5_giveUp wsX5_giveUp) := goodIn_app (goodIn_of _ (by decide +kernel)) ggL_law_X5_giveUp
set_option maxRecDepth 20000 in
theorem ggL_law_L_sleep : GoodIn wsL_law wsL_sleep := goodIn_ca (goodIn_r _ [438, 109, 439, 440, 441, 2, 442, 20, 127, 128, 129, 130, 114, 115, 443, 444, 445, 40, 446, 52, 447, 448, 220, 449, 796, 797, 798, 819, 820, 821, 822, 823, 824, 825, 826, 827, 828, 829, 830, 831, 832, 833, 834, 835] (by decide +kernel) (by decide +kernel)) (goodIn_sub (fun _ h => List.mem_append_left _ (List.mem_append_right _ h)) (by decide +kernel))
set_option maxRecDepth 20000 in
theorem gL_law_L_sleep : GoodIn wsL_law (va_wsS RL 121 yL_sleep wsL_sleep) := goodIn_app (goodIn_of _ (by decide +kernel)) ggL_law_L_sleep
set_option maxRecDepth 20000 in
theorem ggL_law_X5_sleep : GoodIn wsL_law wsX5_sleep := goodIn_r _ [453, 95, 156, 157, 5, 158, 97, 98, 99, 100, 454, 455, 456, 457, 67, 799, 800, 801, 802, 803, 804, 805, 806, 807, 808, 809, 810, 836, 837, 838, 839, 840, 841, 842, 843, 844, 845, 846, 847, 848, 849] (by decide +kernel) (by decide +kernel)
set_option maxRecDepth 20000 in
theorem gL_law_X5_sleep : GoodIn wsL_law (wsV RL 123 RX5 yX5_sleep wsX5_sleep) := goodIn_app (goodIn_of _ (by decide +kernel)) ggL_law_X5_sleep
set_option maxRecDepth 20000 in
theorem ggL_law_X3_places : GoodIn wsL_law wsX3_places := goodIn_r _ [461, 16, 796, 797, 798, 811, 812, 813, 814, 815, 816, 817, 818] (by decide +kernel) (by decide +kernel)
set_option maxRecDepth 20000 in
theorem gL_law_X3_places : GoodIn wsL_law (wsV RL 124 RX3 yX3_places wsX3_places) := goodIn_app (goodIn_of _ (by decide +kernel)) ggL_law_X3_places
set_option maxRecDepth 20000 in
theorem ggL_law_X5_places : GoodIn wsL_law wsX5_places := goodIn_r _ [465, 96, 466, 467, 468, 5, 469, 95, 799, 800, 801, 802, 803, 804, 805, 806, 807, 808, 809, 810] (by decide +kernel) (by decide +kernel)
set_option maxRecDepth 20000 in
theorem gL_law_X5_places : GoodIn wsL_law (wsV RL 127 RX5 yX5_places wsX5_places) := goodIn_app (goodIn_of _ (by decide +kernel)) ggL_law_X5_places
set_option maxRecDepth 20000 in
theorem ggL_law_L_exitsOf : GoodIn wsL_law wsL_exitsOf := goodIn_ca (goodIn_r _ [472, 108, 473, 474, 475, 2, 476, 16, 116, 117, 118, 119, 120, 121, 122, 123, 124, 15, 125, 126, 796, 797, 798, 811, 812, 813, 814, 815, 816, 817, 818] (by decide +kernel) (by decide +kernel)) (goodIn_sub (fun _ h => List.mem_append_right _ h) (by decide +kernel))
set_option maxRecDepth 20000 in
theorem gL_law_L_exitsOf : GoodIn wsL_law (va_wsS RL 128 yL_exitsOf wsL_exitsOf) := goodIn_app (goodIn_of _ (by decide +kernel)) ggL_law_L_exitsOf
set_option maxRecDepth 20000 in
theorem ggL_law_X5_exitsOf : GoodIn wsL_law wsX5_exitsOf := goodIn_r _ [480, 95, 57, 152, 153, 154, 5, 155, 96, 156, 157, 158, 97, 98, 99, 100, 799, 800, 801, 802, 803, 804, 805, 806, 807, 808, 809, 810] (by decide +kernel) (by decide +kernel)
set_option maxRecDepth 20000 in
theorem gL_law_X5_exitsOf : GoodIn wsL_law (wsV RL 130 RX5 yX5_exitsOf wsX5_exitsOf) := goodIn_app (goodIn_of _ (by decide +kernel)) ggL_law_X5_exitsOf
