set_option maxRecDepth 20000 in
theorem ggL_law_X3_errandsDone : GoodIn wsL_law wsX3_errandsDone := goodIn_r _ [663, 20, 796, 797, 798, 819, 820, 821, 822, 823, 824, 825, 826, 827, 828, 829, 830, 831, 832, 833] (by decide +kernel) (by decide +kernel)
set_option maxRecDepth 20000 in
theorem gL_law_X3_errandsDone : GoodIn wsL_law (wsV RL 182 RX3 yX3_errandsDone wsX3_errandsDone) := goodIn_app (goodIn_of _ (by decide +kernel)) ggL_law_X3_errandsDone
set_option maxRecDepth 20000 in
theorem ggL_law_X5_errandsDone : GoodIn wsL_law wsX5_errandsDone := goodIn_r _ [667, 67, 466, 467, 468, 5, 469, 95, 799, 800, 801, 802, 803, 804, 805, 806, 807, 808, 809, 810, 836, 837, 838, 839, 840, 841, 842, 843, 844, 845, 846, 847, 848, 849] (by decide +kernel) (by decide +kernel)
set_option maxRecDepth 20000 in
theorem gL_law_X5_errandsDone : GoodIn wsL_law (wsV RL 185 RX5 yX5_errandsDone wsX5_errandsDone) := goodIn_app (goodIn_of _ (by decide +kernel)) ggL_law_X5_errandsDone
set_option maxRecDepth 20000 in
theorem ggL_law_X3_errandsInVain : GoodIn wsL_law wsX3_errandsInVain := goodIn_r _ [671, 20, 796, 797, 798, 819, 820, 821, 822, 823, 824, 825, 826, 827, 828, 829, 830, 831, 832, 833] (by decide +kernel) (by decide +kernel)
set_option maxRecDepth 20000 in
theorem gL_law_X3_errandsInVain : GoodIn wsL_law (wsV RL 186 RX3 yX3_errandsInVain wsX3_errandsInVain) := goodIn_app (goodIn_of _ (by decide +kernel)) ggL_law_X3_errandsInVain
set_option maxRecDepth 20000 in
theorem ggL_law_X5_errandsInVain : GoodIn wsL_law wsX5_errandsInVain := goodIn_r _ [675, 67, 466, 467, 468, 5, 469, 95, 799, 800, 801, 802, 803, 804, 805, 806, 807, 808, 809, 810, 836, 837, 838, 839, 840, 841, 842, 843, 844, 845, 846, 847, 848, 849] (by decide +kernel) (by decide +kernel)
set_option maxRecDepth 20000 in
theorem gL_law_X5_errandsInVain : GoodIn wsL_law (wsV RL 189 RX5 yX5_errandsInVain wsX5_errandsInVain) := goodIn_app (goodIn_of _ (by decide +kernel)) ggL_law_X5_errandsInVain
set_option maxRecDepth 20000 in
theorem ggL_law_X3_asked : GoodIn wsL_law wsX3_asked := goodIn_r _ [679, 20, 796, 797, 798, 819, 820, 821, 822, 823, 824, 825, 826, 827, 828, 829, 830, 831, 832, 833] (by decide +kernel) (by decide +kernel)
set_option maxRecDepth 20000 in
theorem gL_law_X3_asked : GoodIn wsL_law (wsV RL 190 RX3 yX3_asked wsX3_asked) := goodIn_app (goodIn_of _ (by decide +kernel)) ggL_law_X3_asked
set_option maxRecDepth 20000 in
theorem ggL_law_X5_asked : GoodIn wsL_law wsX5_asked := goodIn_r _ [683, 67, 466, 467, 468, 5, 469, 95, 799, 800, 801, 802, 803, 804, 805, 806, 807, 808, 809, 810, 836, 837, 838, 839, 840, 841, 842, 843, 844, 845, 846, 847, 848, 849] (by decide +kernel) (by decide +kernel)
set_option maxRecDepth 20000 in
theorem gL_law_X5_asked : GoodIn wsL_law (wsV RL 193 RX5 yX5_asked wsX5_asked) := goodIn_app (goodIn_of _ (by decide +kernel)) ggL_law_X5_asked
set_option maxRecDepth 20000 in
theorem ggL_law_L_wouldWalk : GoodIn wsL_law wsL_wouldWalk := goodIn_ca (goodIn_ca (goodIn_r _ [686, 108, 84, 687, 688, 689, 2, 690, 116, 117, 118, 119, 120, 121, 16, 122, 123, 124, 15, 125, 126, 234, 235, 236, 237, 89, 90, 20, 238, 239, 240, 19, 241, 42, 691, 692, 693, 694, 21, 695, 696, 697, 698, 264, 329, 41, 46, 350, 308, 699, 700, 701, 40, 702, 51, 703, 704, 705, 706, 52, 259, 260, 261, 262, 44, 45, 263, 265, 266, 267, 268, 269, 270, 271, 272, 304, 305, 306, 307, 309, 310, 311, 312, 47, 313, 314, 315, 316, 317, 318, 319, 320, 175, 176, 177, 26, 135, 321, 322, 323, 324, 186, 187, 325, 326, 327, 328, 330, 331, 332, 333, 334, 335, 33, 246, 247, 248, 249, 250, 251, 252, 253, 254, 255, 256, 257, 258, 32, 29, 31, 145, 146, 336, 337, 338, 339, 340, 341, 342, 343, 344, 345, 346, 347, 348, 349, 43, 351, 183, 184, 185, 30, 352, 353, 354, 355, 356, 357, 358, 359, 360, 361, 362, 363, 364, 365, 366, 367, 368, 369, 219, 220, 221, 370, 796, 797, 798, 811, 812, 813, 814, 815, 816, 817, 818, 819, 820, 821, 822, 823, 824, 825, 826, 827, 828, 829, 830, 831, 832, 833, 834, 835] (by decide +kernel) (by decide +kernel)) (goodIn_sub (fun _ h => List.mem_append_right _ h) (by decide +kernel))) (goodIn_sub (fun _ h => List.mem_append_left _ (List.mem_append_left _ (List.mem_append_right _ h))) (by decide +kernel))
set_option maxRecDepth 20000 in
theorem gL_law_L_wouldWalk : GoodIn wsL_law (va_wsS RL 194 yL_wouldWalk wsL_wouldWalk) := goodIn_app (goodIn_of _ (by decide +kernel)) ggL_law_L_wouldWalk
set_option maxRecDepth 20000 in
theorem ggL_law_X5_wouldWalk : GoodIn wsL_law wsX5_wouldWalk := goodIn_r _ [710, 95, 67, 152, 153, 154, 5, 155, 96, 156, 157, 158, 97, 98, 99, 100, 711, 712, 713, 714, 68, 715, 716, 717, 66, 718, 73, 719, 74, 284, 720, 721, 722, 723, 724, 75, 725, 704, 705, 706, 76, 77, 78, 79, 277, 278, 279, 280, 281, 282, 283, 375, 376, 377, 378, 379, 380, 381, 382, 383, 384, 385, 386, 387, 388, 389, 390, 61, 58, 391, 392, 393, 394, 59, 60, 395, 396, 397, 398, 62, 399, 400, 401, 402, 57, 63, 289, 290, 291, 292, 403, 404, 405, 406, 407, 408, 409, 410, 411, 412, 413, 414, 415, 416, 417, 418, 419, 420, 421, 422, 423, 226, 219, 220, 221, 799, 800, 801, 802, 803, 804, 805, 806, 807, 808, 809, 810, 836, 837, 838, 839, 840, 841, 842, 843, 844, 845, 846, 847, 848, 849] (by decide +kernel) (by decide +kernel)
set_option maxRecDepth 20000 in
theorem gL_law_X5_wouldWalk : GoodIn wsL_law (wsV RL 196 RX5 yX5_wouldWalk wsX5_wouldWalk) := goodIn_app (goodIn_of _ (by decide +kernel)) ggL_law_X5_wouldWalk
set_option maxRecDepth 20000 in
theorem ggL_law_L_bestShepherd : GoodIn wsL_law wsL_bestShepherd := goodIn_ca (goodIn_ca (goodIn_r _ [728, 108, 84, 729, 730, 731, 2, 732, 16, 116, 117, 118, 119, 120, 121, 122, 123, 124, 15, 125, 126, 234, 235, 236, 237, 89, 90, 20, 238, 239, 240, 19, 241, 42, 691, 692, 693, 694, 21, 695, 696, 697, 698, 264, 329, 41, 46, 350, 308, 699, 700, 701, 40, 702, 51, 703, 704, 705, 706, 52, 259, 260, 261, 262, 44, 45, 263, 265, 266, 267, 268, 269, 270, 271, 272, 304, 305, 306, 307, 309, 310, 311, 312, 47, 313, 314, 315, 316, 317, 318, 319, 320, 175, 176, 177, 26, 135, 321, 322, 323, 324, 186, 187, 325, 326, 327, 328, 330, 331, 332, 333, 334, 335, 33, 246, 247, 248, 249, 250, 251, 252, 253, 254, 255, 256, 257, 258, 32, 29, 31, 145, 146, 336, 337, 338, 339, 340, 341, 342, 343, 344, 345, 346, 347, 348, 349, 43, 351, 183, 184, 185, 30, 352, 353, 354, 355, 356, 357, 358, 359, 360, 361, 362, 363, 364, 365, 366, 367, 368, 369, 219, 220, 221, 370, 796, 797, 798, 811, 812, 813, 814, 815, 816, 817, 818, 819, 820, 821, 822, 823, 824, 825, 826, 827, 828, 829, 830, 831, 832, 833, 834, 835] (by decide +kernel) (by decide +kernel)) (goodIn_sub (fun _ h => List.mem_append_right _ h) (by decide +kernel))) (goodIn_sub (fun _ h => List.mem_append_left _ (List.mem_append_left _ (List.mem_append_right _ h))) (by decide +kernel))
set_option maxRecDepth 20000 in
theorem gL_law_L_bestShepherd : GoodIn wsL_law (va_wsS RL 197 yL_bestShepherd wsL_bestShepherd) := goodIn_app (goodIn_of _ (by decide +kernel)) ggL_law_L_bestShepherd
set_option maxRecDepth 20000 in
theorem ggL_law_X5_bestShepherd : GoodIn wsL_law wsX5_bestShepherd := goodIn_r _ [736, 95, 67, 152, 153, 154, 5, 155, 96, 156, 157, 158, 97, 98, 99, 100, 737, 738, 739, 740, 62, 711, 712, 713, 714, 68, 715, 716, 717, 66, 718, 73, 719, 74, 284, 720, 721, 722, 723, 724, 75, 725, 704, 705, 706, 76, 77, 78, 79, 277, 278, 279, 280, 281, 282, 283, 375, 376, 377, 378, 379, 380, 381, 382, 383, 384, 385, 386, 387, 388, 389, 390, 61, 58, 391, 392, 393, 394, 59, 60, 395, 396, 397, 398, 399, 400, 401, 402, 57, 63, 289, 290, 291, 292, 403, 404, 405, 406, 407, 408, 409, 410, 411, 412, 413, 414, 415, 416, 417, 418, 419, 420, 421, 422, 423, 226, 219, 220, 221, 799, 800, 801, 802, 803, 804, 805, 806, 807, 808, 809, 810, 836, 837, 838, 839, 840, 841, 842, 843, 844, 845, 846, 847, 848, 849] (by decide +kernel) (by decide +kernel)
set_option maxRecDepth 20000 in
theorem gL_law_X5_bestShepherd : GoodIn wsL_law (wsV RL 199 RX5 yX5_bestShepherd wsX5_bestShepherd) := goodIn_app (goodIn_of _ (by decide +kernel)) ggL_law_X5_bestShepherd
set_option maxRecDepth 20000 in
theorem ggL_law_X3_meanMiles : GoodIn wsL_law wsX3_meanMiles := goodIn_r _ [744, 20, 796, 797, 798, 819, 820, 821, 822, 823, 824, 825, 826, 827, 828, 829, 830, 831, 832, 833] (by decide +kernel) (by decide +kernel)
set_option maxRecDepth 20000 in
theorem gL_law_X3_meanMiles : GoodIn wsL_law (wsV RL 200 RX3 yX3_meanMiles wsX3_meanMiles) := goodIn_app (goodIn_of _ (by decide +kernel)) ggL_law_X3_meanMiles
set_option maxRecDepth 20000 in
theorem ggL_law_X5_meanMiles : GoodIn wsL_law wsX5_meanMiles := goodIn_r _ [748, 95, 67, 799, 800, 801, 802, 803, 804, 805, 806, 807, 808, 809, 810, 836, 837, 838, 839, 840, 841, 842, 843, 844, 845, 846, 847, 848, 849] (by decide +kernel) (by decide +kernel)
set_option maxRecDepth 20000 in
theorem gL_law_X5_meanMiles : GoodIn wsL_law (wsV RL 204 RX5 yX5_meanMiles wsX5_meanMiles) := goodIn_app (goodIn_of _ (by decide +kernel)) ggL_law_X5_meanMiles
set_option maxRecDepth 20000 in
theorem ggL_law_X3_digest : GoodIn wsL_law wsX3_digest := goodIn_ca (goodIn_r _ [752, 753, 754, 459, 460, 2, 461, 16, 755, 756, 757, 758, 759, 546, 547, 548, 20, 760, 554, 555, 556, 761, 562, 563, 564, 762, 570, 571, 572, 763, 645, 646, 647, 764, 653, 654, 655, 765, 661, 662, 663, 766, 669, 670, 671, 767, 677, 678, 679, 768, 769, 770, 771, 772, 527, 528, 529, 116, 117, 118, 119, 120, 121, 122, 123, 124, 15, 125, 126, 773, 774, 775, 776, 474, 475, 476, 777, 485, 486, 487, 170, 171, 172, 173, 174, 175, 176, 177, 26, 135, 488, 489, 490, 491, 29, 186, 187, 778, 500, 501, 502, 503, 353, 354, 355, 31, 779, 512, 513, 514, 515, 516, 517, 518, 32, 780, 581, 582, 583, 238, 239, 240, 19, 241, 42, 584, 585, 586, 587, 44, 781, 782, 783, 784, 785, 596, 597, 598, 599, 314, 315, 40, 316, 52, 51, 317, 318, 319, 786, 608, 609, 610, 611, 612, 613, 614, 796, 797, 798, 811, 812, 813, 814, 815, 816, 817, 818, 819, 820, 821, 822, 823, 824, 825, 826, 827, 828, 829, 830, 831, 832, 833, 834, 835] (by decide +kernel) (by decide +kernel)) (goodIn_sub (fun _ h => List.mem_append_right _ h) (by decide +kernel))
set_option maxRecDepth 20000 in
theorem gL_law_X3_digest : GoodIn wsL_law (wsV RL 205 RX3 yX3_digest wsX3_digest) := goodIn_app (goodIn_of _ (by decide +kernel)) ggL_law_X3_digest
set_option maxRecDepth 20000 in
theorem ggL_law_X5_digest : GoodIn wsL_law wsX5_digest := goodIn_r _ [790, 95, 25, 96, 67, 791, 792, 62, 57, 59, 60, 58, 61, 793, 794, 5, 795, 619, 620, 621, 622, 799, 800, 801, 802, 803, 804, 805, 806, 807, 808, 809, 810, 836, 837, 838, 839, 840, 841, 842, 843, 844, 845, 846, 847, 848, 849] (by decide +kernel) (by decide +kernel)
set_option maxRecDepth 20000 in
theorem gL_law_X5_digest : GoodIn wsL_law (wsV RL 209 RX5 yX5_digest wsX5_digest) := goodIn_app (goodIn_of _ (by decide +kernel)) ggL_law_X5_digest
