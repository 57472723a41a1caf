set_option maxRecDepth 20000 in
theorem wsL_cwIn : Cond.codeWith yL_act cL_act 10 (some .boolean) [(116, 122, 125, 30), (212, 224, 227, 30), (544, 550, 553, 30), (614, 622, 625, 30), (687, 695, 698, 30)] ∈ wsL_law := by
  have h : Cond.codeWith yL_act cL_act 10 (some .boolean) [(116, 122, 125, 30), (212, 224, 227, 30), (544, 550, 553, 30), (614, 622, 625, 30), (687, 695, 698, 30)] ∈ wsL_law0_r6 := List.mem_of_getElem? (l := wsL_law0_r6) (i := 21) rfl
  exact (List.mem_append_left _ (List.mem_append_left _ (List.mem_append_left _ (List.mem_append_left _ (List.mem_append_left _ (List.mem_append_left _ (List.mem_append_left _ (List.mem_append_left _ (List.mem_append_left _ (List.mem_append_right _ (List.mem_append_right _ (List.mem_append_right _ (List.mem_append_right _ (List.mem_append_right _ (List.mem_append_left _ h)))))))))))))))
theorem gA_c : GoodIn wsL_law [Cond.codeWith yL_act cL_act 10 (some .boolean) [(116, 122, 125, 30), (212, 224, 227, 30), (544, 550, 553, 30), (614, 622, 625, 30), (687, 695, 698, 30)]] := goodIn_sub (fun w h => by rw [List.mem_singleton.mp h]; exact wsL_cwIn) (by decide +kernel)
set_option maxRecDepth 20000 in
theorem gA_00 : GoodIn wsL_law wsL_act_r1 := goodIn_r _ [142, 56, 143, 57, 144, 145, 146, 147, 148, 149, 150, 151, 74, 75, 51, 76, 77, 78, 79, 80, 55, 81, 63, 21] (by decide +kernel) (by decide +kernel)
theorem gA_0 : GoodIn wsL_law (Cond.codeWith yL_act cL_act 10 (some .boolean) [(116, 122, 125, 30), (212, 224, 227, 30), (544, 550, 553, 30), (614, 622, 625, 30), (687, 695, 698, 30)] :: wsL_act_r1) := goodIn_app (a := [Cond.codeWith yL_act cL_act 10 (some .boolean) [(116, 122, 125, 30), (212, 224, 227, 30), (544, 550, 553, 30), (614, 622, 625, 30), (687, 695, 698, 30)]]) gA_c gA_00
set_option maxRecDepth 20000 in
theorem gA_1 : GoodIn wsL_law wsL_act_r2 := goodIn_r _ [66, 82, 83, 84, 61, 85, 86, 87, 2, 88, 89, 90, 12, 128, 129, 130, 131, 62, 132, 133, 134, 91, 92, 93] (by decide +kernel) (by decide +kernel)
set_option maxRecDepth 20000 in
theorem gA_2 : GoodIn wsL_law wsL_act_r3 := goodIn_r _ [94, 95, 96, 97, 98, 99, 100, 101, 102, 103, 104, 105, 11, 106, 107, 108, 109, 110, 111, 112, 113, 114, 115, 22] (by decide +kernel) (by decide +kernel)
set_option maxRecDepth 20000 in
theorem gA_3 : GoodIn wsL_law wsL_act_r4 := goodIn_r _ [116, 117, 118, 119, 120, 121, 122, 123, 124, 125, 25, 26, 27, 28, 126, 127, 152, 153, 154, 155, 156, 157, 158, 159] (by decide +kernel) (by decide +kernel)
set_option maxRecDepth 20000 in
theorem gA_4 : GoodIn wsL_law wsL_act_r5 := goodIn_r _ [160, 161, 162, 163, 164, 165, 166, 167, 168, 169, 170, 171, 172, 173, 135, 136, 137, 138, 174, 175, 176, 177, 16, 178] (by decide +kernel) (by decide +kernel)
set_option maxRecDepth 20000 in
theorem gA_5 : GoodIn wsL_law wsL_act_r6 := goodIn_r _ [179, 180, 181, 182, 69, 183, 184, 185, 186, 187, 188, 189, 36, 190, 48, 191, 192, 193, 194, 195, 196, 197, 67, 68] (by decide +kernel) (by decide +kernel)
set_option maxRecDepth 20000 in
theorem gA_6 : GoodIn wsL_law wsL_act_r7 := goodIn_r _ [23, 65, 198, 199, 200, 201, 202, 203, 204, 205, 206, 207, 208, 15, 209, 38, 210, 211, 212, 213, 214, 215, 216, 217] (by decide +kernel) (by decide +kernel)
set_option maxRecDepth 20000 in
theorem gA_7 : GoodIn wsL_law wsL_act_r8 := goodIn_r _ [218, 219, 220, 221, 222, 223, 224, 225, 226, 227, 228, 229, 230, 231, 232, 233, 234, 235, 236, 237, 29, 238, 239, 240] (by decide +kernel) (by decide +kernel)
set_option maxRecDepth 20000 in
theorem gA_8 : GoodIn wsL_law wsL_act_r9 := goodIn_r _ [241, 242, 243, 244, 245, 246, 247, 248, 249, 250, 251, 252, 253, 254, 40, 41, 255, 256, 257, 258, 259, 260, 261, 262] (by decide +kernel) (by decide +kernel)
set_option maxRecDepth 20000 in
theorem gA_9 : GoodIn wsL_law wsL_act_r10 := goodIn_r _ [263, 264, 265, 266, 267, 268, 269, 270, 271, 272, 273, 274, 275, 64, 276, 277, 278, 279, 280, 281, 282, 283, 284, 285] (by decide +kernel) (by decide +kernel)
set_option maxRecDepth 20000 in
theorem gA_10 : GoodIn wsL_law wsL_act_r11 := goodIn_r _ [286, 287, 288, 289, 290, 291, 292, 293, 294, 295, 296, 297, 298, 299, 43, 37, 300, 301, 302, 303, 47, 304, 305, 306] (by decide +kernel) (by decide +kernel)
set_option maxRecDepth 20000 in
theorem gA_11 : GoodIn wsL_law wsL_act_r12 := goodIn_r _ [307, 308, 309, 310, 311, 312, 313, 314, 315, 42, 316, 317, 318, 319, 320, 321, 322, 323, 324, 325, 326, 327, 328, 329] (by decide +kernel) (by decide +kernel)
set_option maxRecDepth 20000 in
theorem gA_12 : GoodIn wsL_law wsL_act_r13 := goodIn_r _ [330, 331, 332, 333, 334, 335, 336, 39, 337, 338, 339, 340, 341, 342, 343, 344, 345, 346, 347, 348, 349, 350, 351, 352] (by decide +kernel) (by decide +kernel)
set_option maxRecDepth 20000 in
theorem gA_13 : GoodIn wsL_law wsL_act_r14 := goodIn_r _ [353, 354, 355, 356, 357] (by decide +kernel) (by decide +kernel)
set_option maxRecDepth 20000 in
theorem ggL_law_L_act : GoodIn wsL_law wsL_act := (goodIn_ca (goodIn_ca (goodIn_ca (goodIn_ca (goodIn_ca (goodIn_ca (goodIn_ca (goodIn_ca (goodIn_ca gA_0 (goodIn_app gA_1 (goodIn_app gA_2 (goodIn_app gA_3 (goodIn_app gA_4 (goodIn_app gA_5 (goodIn_app gA_6 (goodIn_app gA_7 (goodIn_app gA_8 (goodIn_app gA_9 (goodIn_app gA_10 (goodIn_app gA_11 (goodIn_app gA_12 gA_13))))))))))))) (goodIn_sub inlX4 (by decide +kernel))) (goodIn_sub inlX3 (by decide +kernel))) (goodIn_sub inlX1 (by decide +kernel))) (goodIn_sub inlX0 (by decide +kernel))) (goodIn_sub inlX2 (by decide +kernel))) (goodIn_sub (fun _ h => List.mem_append_left _ (List.mem_append_left _ (List.mem_append_right _ h))) (by decide +kernel))) (goodIn_sub (fun _ h => List.mem_append_left _ (List.mem_append_right _ h)) (by decide +kernel))) (goodIn_sub (fun _ h => List.mem_append_right _ h) (by decide +kernel)))
set_option maxRecDepth 20000 in
theorem gL_law_L_act : GoodIn wsL_law (va_wsS RL 113 yL_act wsL_act) := goodIn_app (goodIn_of _ (by decide +kernel)) ggL_law_L_act
