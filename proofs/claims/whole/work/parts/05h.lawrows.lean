set_option maxRecDepth 20000 in
theorem ggL_law_X3_errandsDone : GoodIn wsL_law wsX3_errandsDone := goodIn_r _ [661, 20, 794, 795, 796, 817, 818, 819, 820, 821, 822, 823, 824, 825, 826, 827, 828, 829, 830, 831] (by decide +kernel) (by decide +kernel)
set_option maxRecDepth 20000 in
theorem gL_law_X3_errandsDone : GoodIn wsL_law (wsV RL 182 RX3 yX3_errandsDone wsX3_errandsDone) := goodIn_app (goodIn_of _ (by decide +kernel)) ggL_law_X3_errandsDone
set_option maxRecDepth 20000 in
theorem ggL_law_X5_errandsDone : GoodIn wsL_law wsX5_errandsDone := goodIn_r _ [665, 67, 464, 465, 466, 5, 467, 95, 797, 798, 799, 800, 801, 802, 803, 804, 805, 806, 807, 808, 834, 835, 836, 837, 838, 839, 840, 841, 842, 843, 844, 845, 846, 847] (by decide +kernel) (by decide +kernel)
set_option maxRecDepth 20000 in
theorem gL_law_X5_errandsDone : GoodIn wsL_law (wsV RL 185 RX5 yX5_errandsDone wsX5_errandsDone) := goodIn_app (goodIn_of _ (by decide +kernel)) ggL_law_X5_errandsDone
set_option maxRecDepth 20000 in
theorem ggL_law_X3_errandsInVain : GoodIn wsL_law wsX3_errandsInVain := goodIn_r _ [669, 20, 794, 795, 796, 817, 818, 819, 820, 821, 822, 823, 824, 825, 826, 827, 828, 829, 830, 831] (by decide +kernel) (by decide +kernel)
set_option maxRecDepth 20000 in
theorem gL_law_X3_errandsInVain : GoodIn wsL_law (wsV RL 186 RX3 yX3_errandsInVain wsX3_errandsInVain) := goodIn_app (goodIn_of _ (by decide +kernel)) ggL_law_X3_errandsInVain
set_option maxRecDepth 20000 in
theorem ggL_law_X5_errandsInVain : GoodIn wsL_law wsX5_errandsInVain := goodIn_r _ [673, 67, 464, 465, 466, 5, 467, 95, 797, 798, 799, 800, 801, 802, 803, 804, 805, 806, 807, 808, 834, 835, 836, 837, 838, 839, 840, 841, 842, 843, 844, 845, 846, 847] (by decide +kernel) (by decide +kernel)
set_option maxRecDepth 20000 in
theorem gL_law_X5_errandsInVain : GoodIn wsL_law (wsV RL 189 RX5 yX5_errandsInVain wsX5_errandsInVain) := goodIn_app (goodIn_of _ (by decide +kernel)) ggL_law_X5_errandsInVain
set_option maxRecDepth 20000 in
theorem ggL_law_X3_asked : GoodIn wsL_law wsX3_asked := goodIn_r _ [677, 20, 794, 795, 796, 817, 818, 819, 820, 821, 822, 823, 824, 825, 826, 827, 828, 829, 830, 831] (by decide +kernel) (by decide +kernel)
set_option maxRecDepth 20000 in
theorem gL_law_X3_asked : GoodIn wsL_law (wsV RL 190 RX3 yX3_asked wsX3_asked) := goodIn_app (goodIn_of _ (by decide +kernel)) ggL_law_X3_asked
set_option maxRecDepth 20000 in
theorem ggL_law_X5_asked : GoodIn wsL_law wsX5_asked := goodIn_r _ [681, 67, 464, 465, 466, 5, 467, 95, 797, 798, 799, 800, 801, 802, 803, 804, 805, 806, 807, 808, 834, 835, 836, 837, 838, 839, 840, 841, 842, 843, 844, 845, 846, 847] (by decide +kernel) (by decide +kernel)
set_option maxRecDepth 20000 in
theorem gL_law_X5_asked : GoodIn wsL_law (wsV RL 193 RX5 yX5_asked wsX5_asked) := goodIn_app (goodIn_of _ (by decide +kernel)) ggL_law_X5_asked
set_option maxRecDepth 20000 in
theorem ggL_law_L_wouldWalk : GoodIn wsL_law wsL_wouldWalk := goodIn_ca (goodIn_ca (goodIn_r _ [684, 108, 84, 685, 686, 687, 2, 688, 116, 117, 118, 119, 120, 121, 16, 122, 123, 124, 15, 125, 126, 229, 230, 231, 232, 89, 90, 20, 233, 234, 235, 19, 236, 42, 689, 690, 691, 692, 21, 693, 694, 695, 696, 259, 324, 41, 46, 345, 303, 697, 698, 699, 40, 700, 51, 701, 702, 703, 704, 52, 254, 255, 256, 257, 44, 45, 258, 260, 261, 262, 263, 264, 265, 266, 267, 299, 300, 301, 302, 304, 305, 306, 307, 47, 308, 309, 310, 311, 312, 313, 314, 315, 174, 175, 176, 26, 135, 316, 317, 318, 319, 181, 182, 320, 321, 322, 323, 325, 326, 327, 328, 329, 330, 33, 241, 242, 243, 244, 245, 246, 247, 248, 249, 250, 251, 252, 253, 32, 31, 29, 144, 145, 331, 332, 333, 334, 335, 336, 337, 338, 339, 340, 341, 342, 343, 344, 43, 346, 347, 348, 349, 30, 350, 351, 352, 353, 354, 355, 356, 357, 358, 359, 360, 361, 362, 363, 364, 365, 366, 367, 214, 215, 216, 368, 794, 795, 796, 809, 810, 811, 812, 813, 814, 815, 816, 817, 818, 819, 820, 821, 822, 823, 824, 825, 826, 827, 828, 829, 830, 831, 832, 833] (by decide +kernel) (by decide +kernel)) (goodIn_sub (fun _ h => List.mem_append_right _ h) (by decide +kernel))) (goodIn_sub (fun _ h => List.mem_append_left _ (List.mem_append_left _ (List.mem_append_right _ h))) (by decide +kernel))
set_option maxRecDepth 20000 in
theorem gL_law_L_wouldWalk : GoodIn wsL_law (va_wsS RL 194 yL_wouldWalk wsL_wouldWalk) := goodIn_app (goodIn_of _ (by decide +kernel)) ggL_law_L_wouldWalk
set_option maxRecDepth 20000 in
theorem ggL_law_X5_wouldWalk : GoodIn wsL_law wsX5_wouldWalk := goodIn_r _ [708, 95, 67, 151, 152, 153, 5, 154, 96, 155, 156, 157, 97, 98, 99, 100, 709, 710, 711, 712, 68, 713, 714, 715, 66, 716, 73, 717, 74, 279, 718, 719, 720, 721, 722, 75, 723, 702, 703, 704, 76, 77, 78, 79, 272, 273, 274, 275, 276, 277, 278, 373, 374, 375, 376, 377, 378, 379, 380, 381, 382, 383, 384, 385, 386, 387, 388, 61, 58, 389, 390, 391, 392, 59, 60, 393, 394, 395, 396, 62, 397, 398, 399, 400, 57, 63, 284, 285, 286, 287, 401, 402, 403, 404, 405, 406, 407, 408, 409, 410, 411, 412, 413, 414, 415, 416, 417, 418, 419, 420, 421, 221, 214, 215, 216, 797, 798, 799, 800, 801, 802, 803, 804, 805, 806, 807, 808, 834, 835, 836, 837, 838, 839, 840, 841, 842, 843, 844, 845, 846, 847] (by decide +kernel) (by decide +kernel)
set_option maxRecDepth 20000 in
theorem gL_law_X5_wouldWalk : GoodIn wsL_law (wsV RL 196 RX5 yX5_wouldWalk wsX5_wouldWalk) := goodIn_app (goodIn_of _ (by decide +kernel)) ggL_law_X5_wouldWalk
set_option maxRecDepth 20000 in
theorem ggL_law_L_bestShepherd : GoodIn wsL_law wsL_bestShepherd := goodIn_ca (goodIn_ca (goodIn_r _ [726, 108, 84, 727, 728, 729, 2, 730, 16, 116, 117, 118, 119, 120, 121, 122, 123, 124, 15, 125, 126, 229, 230, 231, 232, 89, 90, 20, 233, 234, 235, 19, 236, 42, 689, 690, 691, 692, 21, 693, 694, 695, 696, 259, 324, 41, 46, 345, 303, 697, 698, 699, 40, 700, 51, 701, 702, 703, 704, 52, 254, 255, 256, 257, 44, 45, 258, 260, 261, 262, 263, 264, 265, 266, 267, 299, 300, 301, 302, 304, 305, 306, 307, 47, 308, 309, 310, 311, 312, 313, 314, 315, 174, 175, 176, 26, 135, 316, 317, 318, 319, 181, 182, 320, 321, 322, 323, 325, 326, 327, 328, 329, 330, 33, 241, 242, 243, 244, 245, 246, 247, 248, 249, 250, 251, 252, 253, 32, 31, 29, 144, 145, 331, 332, 333, 334, 335, 336, 337, 338, 339, 340, 341, 342, 343, 344, 43, 346, 347, 348, 349, 30, 350, 351, 352, 353, 354, 355, 356, 357, 358, 359, 360, 361, 362, 363, 364, 365, 366, 367, 214, 215, 216, 368, 794, 795, 796, 809, 810, 811, 812, 813, 814, 815, 816, 817, 818, 819, 820, 821, 822, 823, 824, 825, 826, 827, 828, 829, 830, 831, 832, 833] (by decide +kernel) (by decide +kernel)) (goodIn_sub (fun _ h => List.mem_append_right _ h) (by decide +kernel))) (goodIn_sub (fun _ h => List.mem_append_left _ (List.mem_append_left _ (List.mem_append_right _ h))) (by decide +kernel))
set_option maxRecDepth 20000 in
theorem gL_law_L_bestShepherd : GoodIn wsL_law (va_wsS RL 197 yL_bestShepherd wsL_bestShepherd) := goodIn_app (goodIn_of _ (by decide +kernel)) ggL_law_L_bestShepherd
set_option maxRecDepth 20000 in
theorem ggL_law_X5_bestShepherd : GoodIn wsL_law wsX5_bestShepherd := goodIn_r _ [734, 95, 67, 151, 152, 153, 5, 154, 96, 155, 156, 157, 97, 98, 99, 100, 735, 736, 737, 738, 62, 709, 710, 711, 712, 68, 713, 714, 715, 66, 716, 73, 717, 74, 279, 718, 719, 720, 721, 722, 75, 723, 702, 703, 704, 76, 77, 78, 79, 272, 273, 274, 275, 276, 277, 278, 373, 374, 375, 376, 377, 378, 379, 380, 381, 382, 383, 384, 385, 386, 387, 388, 61, 58, 389, 390, 391, 392, 59, 60, 393, 394, 395, 396, 397, 398, 399, 400, 57, 63, 284, 285, 286, 287, 401, 402, 403, 404, 405, 406, 407, 408, 409, 410, 411, 412, 413, 414, 415, 416, 417, 418, 419, 420, 421, 221, 214, 215, 216, 797, 798, 799, 800, 801, 802, 803, 804, 805, 806, 807, 808, 834, 835, 836, 837, 838, 839, 840, 841, 842, 843, 844, 845, 846, 847] (by decide +kernel) (by decide +kernel)
set_option maxRecDepth 20000 in
theorem gL_law_X5_bestShepherd : GoodIn wsL_law (wsV RL 199 RX5 yX5_bestShepherd wsX5_bestShepherd) := goodIn_app (goodIn_of _ (by decide +kernel)) ggL_law_X5_bestShepherd
set_option maxRecDepth 20000 in
theorem ggL_law_X3_meanMiles : GoodIn wsL_law wsX3_meanMiles := goodIn_r _ [742, 20, 794, 795, 796, 817, 818, 819, 820, 821, 822, 823, 824, 825, 826, 827, 828, 829, 830, 831] (by decide +kernel) (by decide +kernel)
set_option maxRecDepth 20000 in
theorem gL_law_X3_meanMiles : GoodIn wsL_law (wsV RL 200 RX3 yX3_meanMiles wsX3_meanMiles) := goodIn_app (goodIn_of _ (by decide +kernel)) ggL_law_X3_meanMiles
set_option maxRecDepth 20000 in
theorem ggL_law_X5_meanMiles : GoodIn wsL_law wsX5_meanMiles := goodIn_r _ [746, 95, 67, 797, 798, 799, 800, 801, 802, 803, 804, 805, 806, 807, 808, 834, 835, 836, 837, 838, 839, 840, 841, 842, 843, 844, 845, 846, 847] (by decide +kernel) (by decide +kernel)
set_option maxRecDepth 20000 in
theorem gL_law_X5_meanMiles : GoodIn wsL_law (wsV RL 204 RX5 yX5_meanMiles wsX5_meanMiles) := goodIn_app (goodIn_of _ (by decide +kernel)) ggL_law_X5_meanMiles
set_option maxRecDepth 20000 in
theorem ggL_law_X3_digest : GoodIn wsL_law wsX3_digest := goodIn_ca (goodIn_r _ [750, 751, 752, 457, 458, 2, 459, 16, 753, 754, 755, 756, 757, 544, 545, 546, 20, 758, 552, 553, 554, 759, 560, 561, 562, 760, 568, 569, 570, 761, 643, 644, 645, 762, 651, 652, 653, 763, 659, 660, 661, 764, 667, 668, 669, 765, 675, 676, 677, 766, 767, 768, 769, 770, 525, 526, 527, 116, 117, 118, 119, 120, 121, 122, 123, 124, 15, 125, 126, 771, 772, 773, 774, 472, 473, 474, 775, 483, 484, 485, 169, 170, 171, 172, 173, 174, 175, 176, 26, 135, 486, 487, 488, 489, 29, 181, 182, 776, 498, 499, 500, 501, 351, 352, 353, 31, 777, 510, 511, 512, 513, 514, 515, 516, 32, 778, 579, 580, 581, 233, 234, 235, 19, 236, 42, 582, 583, 584, 585, 44, 779, 780, 781, 782, 783, 594, 595, 596, 597, 309, 310, 40, 311, 52, 51, 312, 313, 314, 784, 606, 607, 608, 609, 610, 611, 612, 794, 795, 796, 809, 810, 811, 812, 813, 814, 815, 816, 817, 818, 819, 820, 821, 822, 823, 824, 825, 826, 827, 828, 829, 830, 831, 832, 833] (by decide +kernel) (by decide +kernel)) (goodIn_sub (fun _ h => List.mem_append_right _ h) (by decide +kernel))
set_option maxRecDepth 20000 in
theorem gL_law_X3_digest : GoodIn wsL_law (wsV RL 205 RX3 yX3_digest wsX3_digest) := goodIn_app (goodIn_of _ (by decide +kernel)) ggL_law_X3_digest
set_option maxRecDepth 20000 in
theorem ggL_law_X5_digest : GoodIn wsL_law wsX5_digest := goodIn_r _ [788, 95, 25, 96, 67, 789, 790, 62, 57, 59, 60, 58, 61, 791, 792, 5, 793, 617, 618, 619, 620, 797, 798, 799, 800, 801, 802, 803, 804, 805, 806, 807, 808, 834, 835, 836, 837, 838, 839, 840, 841, 842, 843, 844, 845, 846, 847] (by decide +kernel) (by decide +kernel)
set_option maxRecDepth 20000 in
theorem gL_law_X5_digest : GoodIn wsL_law (wsV RL 209 RX5 yX5_digest wsX5_digest) := goodIn_app (goodIn_of _ (by decide +kernel)) ggL_law_X5_digest
