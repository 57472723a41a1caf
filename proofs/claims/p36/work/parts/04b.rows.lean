theorem dX3_coins_4 : decode cX3_coins 4 = .ok (.getfield 73, 3) := by decide +kernel
theorem dX3_coins_7 : decode cX3_coins 7 = .ok (.ireturn, 1) := by decide +kernel
theorem dX3_goal_0 : decode cX3_goal 0 = .ok (.aload_n 0, 1) := by decide +kernel
theorem dX3_goal_1 : decode cX3_goal 1 = .ok (.getfield 21, 3) := by decide +kernel
theorem dX3_goal_4 : decode cX3_goal 4 = .ok (.getfield 132, 3) := by decide +kernel
theorem dX3_goal_7 : decode cX3_goal 7 = .ok (.ireturn, 1) := by decide +kernel
theorem dX3_wayLength_0 : decode cX3_wayLength 0 = .ok (.aload_n 0, 1) := by decide +kernel
theorem dX3_wayLength_1 : decode cX3_wayLength 1 = .ok (.getfield 21, 3) := by decide +kernel
theorem dX3_wayLength_4 : decode cX3_wayLength 4 = .ok (.getfield 103, 3) := by decide +kernel
theorem dX3_wayLength_7 : decode cX3_wayLength 7 = .ok (.ireturn, 1) := by decide +kernel
set_option maxRecDepth 20000 in
theorem ggX3_isTried_X3_checkedEnd : GoodIn wsX3_isTried wsX3_checkedEnd := goodIn_ca (goodIn_r _ [6, 7, 8, 9, 10, 11, 12, 13, 14, 15, 16, 17, 18, 19, 20, 34, 35, 36, 37, 38, 39, 40, 41, 42, 43, 44] (by decide +kernel) (by decide +kernel)) (goodIn_sub (fun _ h => List.mem_cons_of_mem _ (List.mem_append_right _ h)) (by decide +kernel))
set_option maxRecDepth 20000 in
theorem gX3_isTried_X3_checkedEnd : GoodIn wsX3_isTried (wsV RX3 62 RX3 yX3_checkedEnd wsX3_checkedEnd) := goodIn_app (goodIn_of _ (by decide +kernel)) ggX3_isTried_X3_checkedEnd
set_option maxRecDepth 20000 in
theorem ggX3_isTried_X0_isUnderway : GoodIn wsX3_isTried wsX0_isUnderway := goodIn_r _ [25, 26, 45, 46, 47, 48, 49, 50, 51, 52, 53, 54, 55, 56, 57, 58, 59] (by decide +kernel) (by decide +kernel)
set_option maxRecDepth 20000 in
theorem gX3_isTried_X0_isUnderway : GoodIn wsX3_isTried (wsV RX3 96 RX0 yX0_isUnderway wsX0_isUnderway) := goodIn_app (goodIn_of _ (by decide +kernel)) ggX3_isTried_X0_isUnderway
set_option maxRecDepth 20000 in
theorem ggX3_isTried_X0_hasTried : GoodIn wsX3_isTried wsX0_hasTried := goodIn_r _ [30, 31, 32, 5, 33, 45, 46, 47, 48, 49, 50, 51, 52, 53, 54, 55, 56, 57, 58, 59] (by decide +kernel) (by decide +kernel)
set_option maxRecDepth 20000 in
theorem gX3_isTried_X0_hasTried : GoodIn wsX3_isTried (wsV RX3 135 RX0 yX0_hasTried wsX0_hasTried) := goodIn_app (goodIn_of _ (by decide +kernel)) ggX3_isTried_X0_hasTried
theorem dX3_isTried_0 : decode cX3_isTried 0 = .ok (.aload_n 0, 1) := by decide +kernel
theorem dX3_isTried_1 : decode cX3_isTried 1 = .ok (.iload_n 1, 1) := by decide +kernel
theorem dX3_isTried_2 : decode cX3_isTried 2 = .ok (.iload_n 2, 1) := by decide +kernel
theorem dX3_isTried_3 : decode cX3_isTried 3 = .ok (.invokevirtual 62, 3) := by decide +kernel
theorem dX3_isTried_6 : decode cX3_isTried 6 = .ok (.istore_n 3, 1) := by decide +kernel
theorem dX3_isTried_7 : decode cX3_isTried 7 = .ok (.aload_n 0, 1) := by decide +kernel
theorem dX3_isTried_8 : decode cX3_isTried 8 = .ok (.getfield 21, 3) := by decide +kernel
theorem dX3_isTried_11 : decode cX3_isTried 11 = .ok (.invokevirtual 96, 3) := by decide +kernel
theorem dX3_isTried_14 : decode cX3_isTried 14 = .ok (.ifCond .eq 18, 3) := by decide +kernel
theorem dX3_isTried_17 : decode cX3_isTried 17 = .ok (.aload_n 0, 1) := by decide +kernel
theorem dX3_isTried_18 : decode cX3_isTried 18 = .ok (.getfield 21, 3) := by decide +kernel
theorem dX3_isTried_21 : decode cX3_isTried 21 = .ok (.iload_n 3, 1) := by decide +kernel
theorem dX3_isTried_22 : decode cX3_isTried 22 = .ok (.invokevirtual 135, 3) := by decide +kernel
theorem dX3_isTried_25 : decode cX3_isTried 25 = .ok (.ifCond .eq 7, 3) := by decide +kernel
theorem dX3_isTried_28 : decode cX3_isTried 28 = .ok (.iconst 1, 1) := by decide +kernel
theorem dX3_isTried_29 : decode cX3_isTried 29 = .ok (.goto 4, 3) := by decide +kernel
theorem dX3_isTried_32 : decode cX3_isTried 32 = .ok (.iconst 0, 1) := by decide +kernel
theorem dX3_isTried_33 : decode cX3_isTried 33 = .ok (.ireturn, 1) := by decide +kernel
set_option maxRecDepth 20000 in
theorem ggX3_remembered_X3_checkPlace : GoodIn wsX3_remembered wsX3_checkPlace := goodIn_ca (goodIn_r _ [6, 7, 8, 9, 10, 11, 12, 13, 14, 15, 26, 27, 28, 44, 45, 46, 47, 48, 49, 50, 51] (by decide +kernel) (by decide +kernel)) (goodIn_sub (fun _ h => List.mem_cons_of_mem _ (List.mem_append_right _ h)) (by decide +kernel))
set_option maxRecDepth 20000 in
theorem gX3_remembered_X3_checkPlace : GoodIn wsX3_remembered (wsV RX3 39 RX3 yX3_checkPlace wsX3_checkPlace) := goodIn_app (goodIn_of _ (by decide +kernel)) ggX3_remembered_X3_checkPlace
set_option maxRecDepth 20000 in
theorem ggX3_remembered_X2_exitFor : GoodIn wsX3_remembered wsX2_exitFor := goodIn_r _ [20, 21, 22, 23, 24, 19, 25, 52, 53] (by decide +kernel) (by decide +kernel)
set_option maxRecDepth 20000 in
theorem gX3_remembered_X2_exitFor : GoodIn wsX3_remembered (wsV RX3 138 RX2 yX2_exitFor wsX2_exitFor) := goodIn_app (goodIn_of _ (by decide +kernel)) ggX3_remembered_X2_exitFor
theorem dX3_remembered_0 : decode cX3_remembered 0 = .ok (.aload_n 0, 1) := by decide +kernel
theorem dX3_remembered_1 : decode cX3_remembered 1 = .ok (.iload_n 1, 1) := by decide +kernel
theorem dX3_remembered_2 : decode cX3_remembered 2 = .ok (.invokevirtual 39, 3) := by decide +kernel
theorem dX3_remembered_5 : decode cX3_remembered 5 = .ok (.aload_n 0, 1) := by decide +kernel
theorem dX3_remembered_6 : decode cX3_remembered 6 = .ok (.iload_n 2, 1) := by decide +kernel
theorem dX3_remembered_7 : decode cX3_remembered 7 = .ok (.invokevirtual 39, 3) := by decide +kernel
theorem dX3_remembered_10 : decode cX3_remembered 10 = .ok (.aload_n 0, 1) := by decide +kernel
theorem dX3_remembered_11 : decode cX3_remembered 11 = .ok (.getfield 21, 3) := by decide +kernel
theorem dX3_remembered_14 : decode cX3_remembered 14 = .ok (.getfield 109, 3) := by decide +kernel
theorem dX3_remembered_17 : decode cX3_remembered 17 = .ok (.iload_n 1, 1) := by decide +kernel
theorem dX3_remembered_18 : decode cX3_remembered 18 = .ok (.iload_n 2, 1) := by decide +kernel
theorem dX3_remembered_19 : decode cX3_remembered 19 = .ok (.invokevirtual 138, 3) := by decide +kernel
theorem dX3_remembered_22 : decode cX3_remembered 22 = .ok (.ireturn, 1) := by decide +kernel
set_option maxRecDepth 20000 in
theorem ggX3_strength_X3_checkPlace : GoodIn wsX3_strength wsX3_checkPlace := goodIn_ca (goodIn_r _ [6, 7, 8, 9, 10, 11, 12, 13, 14, 15, 25, 26, 27, 43, 44, 45, 46, 47, 48, 49, 50] (by decide +kernel) (by decide +kernel)) (goodIn_sub (fun _ h => List.mem_cons_of_mem _ (List.mem_append_right _ h)) (by decide +kernel))
set_option maxRecDepth 20000 in
theorem gX3_strength_X3_checkPlace : GoodIn wsX3_strength (wsV RX3 39 RX3 yX3_checkPlace wsX3_checkPlace) := goodIn_app (goodIn_of _ (by decide +kernel)) ggX3_strength_X3_checkPlace
set_option maxRecDepth 20000 in
theorem ggX3_strength_X2_strengthFor : GoodIn wsX3_strength wsX2_strengthFor := goodIn_r _ [20, 21, 22, 23, 19, 24, 51, 52] (by decide +kernel) (by decide +kernel)
set_option maxRecDepth 20000 in
theorem gX3_strength_X2_strengthFor : GoodIn wsX3_strength (wsV RX3 141 RX2 yX2_strengthFor wsX2_strengthFor) := goodIn_app (goodIn_of _ (by decide +kernel)) ggX3_strength_X2_strengthFor
theorem dX3_strength_0 : decode cX3_strength 0 = .ok (.aload_n 0, 1) := by decide +kernel
theorem dX3_strength_1 : decode cX3_strength 1 = .ok (.iload_n 1, 1) := by decide +kernel
theorem dX3_strength_2 : decode cX3_strength 2 = .ok (.invokevirtual 39, 3) := by decide +kernel
theorem dX3_strength_5 : decode cX3_strength 5 = .ok (.aload_n 0, 1) := by decide +kernel
theorem dX3_strength_6 : decode cX3_strength 6 = .ok (.iload_n 2, 1) := by decide +kernel
theorem dX3_strength_7 : decode cX3_strength 7 = .ok (.invokevirtual 39, 3) := by decide +kernel
theorem dX3_strength_10 : decode cX3_strength 10 = .ok (.aload_n 0, 1) := by decide +kernel
theorem dX3_strength_11 : decode cX3_strength 11 = .ok (.getfield 21, 3) := by decide +kernel
theorem dX3_strength_14 : decode cX3_strength 14 = .ok (.getfield 109, 3) := by decide +kernel
theorem dX3_strength_17 : decode cX3_strength 17 = .ok (.iload_n 1, 1) := by decide +kernel
theorem dX3_strength_18 : decode cX3_strength 18 = .ok (.iload_n 2, 1) := by decide +kernel
theorem dX3_strength_19 : decode cX3_strength 19 = .ok (.invokevirtual 141, 3) := by decide +kernel
theorem dX3_strength_22 : decode cX3_strength 22 = .ok (.ireturn, 1) := by decide +kernel
set_option maxRecDepth 20000 in
theorem ggX3_knowsWay_X3_checkPlace : GoodIn wsX3_knowsWay wsX3_checkPlace := goodIn_ca (goodIn_r _ [6, 7, 8, 9, 10, 11, 12, 13, 14, 15, 52, 53, 54, 55, 56, 57, 58, 59, 60, 61, 62] (by decide +kernel) (by decide +kernel)) (goodIn_sub (fun _ h => List.mem_cons_of_mem _ (List.mem_append_right _ h)) (by decide +kernel))
set_option maxRecDepth 20000 in
theorem gX3_knowsWay_X3_checkPlace : GoodIn wsX3_knowsWay (wsV RX3 39 RX3 yX3_checkPlace wsX3_checkPlace) := goodIn_app (goodIn_of _ (by decide +kernel)) ggX3_knowsWay_X3_checkPlace
set_option maxRecDepth 20000 in
theorem ggX3_knowsWay_X0_findsByMemory : GoodIn wsX3_knowsWay wsX0_findsByMemory := goodIn_r _ [20, 21, 22, 23, 24, 25, 26, 27, 28, 29, 30, 31, 32, 33, 34, 35, 36, 13, 37, 38, 39, 11, 12, 14, 15, 40, 41, 42, 43, 44, 45, 5, 46, 47, 48, 49, 50, 51, 63, 64, 65, 66, 67, 68, 69, 70, 71, 72, 73, 74, 75, 76, 77, 78, 79, 55, 56, 57, 58, 59, 60, 61, 62] (by decide +kernel) (by decide +kernel)
set_option maxRecDepth 20000 in
theorem gX3_knowsWay_X0_findsByMemory : GoodIn wsX3_knowsWay (wsV RX3 144 RX0 yX0_findsByMemory wsX0_findsByMemory) := goodIn_app (goodIn_of _ (by decide +kernel)) ggX3_knowsWay_X0_findsByMemory
theorem dX3_knowsWay_0 : decode cX3_knowsWay 0 = .ok (.aload_n 0, 1) := by decide +kernel
theorem dX3_knowsWay_1 : decode cX3_knowsWay 1 = .ok (.iload_n 1, 1) := by decide +kernel
theorem dX3_knowsWay_2 : decode cX3_knowsWay 2 = .ok (.invokevirtual 39, 3) := by decide +kernel
theorem dX3_knowsWay_5 : decode cX3_knowsWay 5 = .ok (.aload_n 0, 1) := by decide +kernel
theorem dX3_knowsWay_6 : decode cX3_knowsWay 6 = .ok (.getfield 21, 3) := by decide +kernel
theorem dX3_knowsWay_9 : decode cX3_knowsWay 9 = .ok (.iload_n 1, 1) := by decide +kernel
theorem dX3_knowsWay_10 : decode cX3_knowsWay 10 = .ok (.invokevirtual 144, 3) := by decide +kernel
theorem dX3_knowsWay_13 : decode cX3_knowsWay 13 = .ok (.ireturn, 1) := by decide +kernel
theorem dX3_milesWalked_0 : decode cX3_milesWalked 0 = .ok (.aload_n 0, 1) := by decide +kernel
theorem dX3_milesWalked_1 : decode cX3_milesWalked 1 = .ok (.getfield 21, 3) := by decide +kernel
theorem dX3_milesWalked_4 : decode cX3_milesWalked 4 = .ok (.getfield 147, 3) := by decide +kernel
theorem dX3_milesWalked_7 : decode cX3_milesWalked 7 = .ok (.ireturn, 1) := by decide +kernel
theorem dX3_milesDoubled_0 : decode cX3_milesDoubled 0 = .ok (.aload_n 0, 1) := by decide +kernel
theorem dX3_milesDoubled_1 : decode cX3_milesDoubled 1 = .ok (.getfield 21, 3) := by decide +kernel
theorem dX3_milesDoubled_4 : decode cX3_milesDoubled 4 = .ok (.getfield 150, 3) := by decide +kernel
theorem dX3_milesDoubled_7 : decode cX3_milesDoubled 7 = .ok (.ireturn, 1) := by decide +kernel
theorem dX3_errandsDone_0 : decode cX3_errandsDone 0 = .ok (.aload_n 0, 1) := by decide +kernel
theorem dX3_errandsDone_1 : decode cX3_errandsDone 1 = .ok (.getfield 21, 3) := by decide +kernel
theorem dX3_errandsDone_4 : decode cX3_errandsDone 4 = .ok (.getfield 153, 3) := by decide +kernel
theorem dX3_errandsDone_7 : decode cX3_errandsDone 7 = .ok (.ireturn, 1) := by decide +kernel
theorem dX3_errandsInVain_0 : decode cX3_errandsInVain 0 = .ok (.aload_n 0, 1) := by decide +kernel
theorem dX3_errandsInVain_1 : decode cX3_errandsInVain 1 = .ok (.getfield 21, 3) := by decide +kernel
theorem dX3_errandsInVain_4 : decode cX3_errandsInVain 4 = .ok (.getfield 156, 3) := by decide +kernel
theorem dX3_errandsInVain_7 : decode cX3_errandsInVain 7 = .ok (.ireturn, 1) := by decide +kernel
theorem dX3_asked_0 : decode cX3_asked 0 = .ok (.aload_n 0, 1) := by decide +kernel
theorem dX3_asked_1 : decode cX3_asked 1 = .ok (.getfield 21, 3) := by decide +kernel
theorem dX3_asked_4 : decode cX3_asked 4 = .ok (.getfield 159, 3) := by decide +kernel
theorem dX3_asked_7 : decode cX3_asked 7 = .ok (.ireturn, 1) := by decide +kernel
set_option maxRecDepth 20000 in
theorem ggX3_wouldWalk_X3_checkPlace : GoodIn wsX3_wouldWalk wsX3_checkPlace := goodIn_ca (goodIn_r _ [5, 6, 7, 8, 9, 10, 11, 12, 13, 14, 168, 169, 170, 171, 172, 173, 174, 175, 176, 177, 178] (by decide +kernel) (by decide +kernel)) (goodIn_sub (fun _ h => List.mem_cons_of_mem _ (List.mem_append_left _ (List.mem_append_right _ h))) (by decide +kernel))
set_option maxRecDepth 20000 in
theorem gX3_wouldWalk_X3_checkPlace : GoodIn wsX3_wouldWalk (wsV RX3 39 RX3 yX3_checkPlace wsX3_checkPlace) := goodIn_app (goodIn_of _ (by decide +kernel)) ggX3_wouldWalk_X3_checkPlace
set_option maxRecDepth 20000 in
theorem ggX3_wouldWalk_X3_checkIdle : GoodIn wsX3_wouldWalk wsX3_checkIdle := goodIn_ca (goodIn_r _ [18, 19, 20, 21, 22, 23, 24, 25, 26, 27, 168, 169, 170, 179, 180, 181, 182, 183, 184, 185, 186, 187, 188, 189, 190, 191, 192, 193] (by decide +kernel) (by decide +kernel)) (goodIn_sub (fun _ h => List.mem_cons_of_mem _ (List.mem_append_right _ h)) (by decide +kernel))
set_option maxRecDepth 20000 in
theorem gX3_wouldWalk_X3_checkIdle : GoodIn wsX3_wouldWalk (wsV RX3 81 RX3 yX3_checkIdle wsX3_checkIdle) := goodIn_app (goodIn_of _ (by decide +kernel)) ggX3_wouldWalk_X3_checkIdle
set_option maxRecDepth 20000 in
theorem ggX3_wouldWalk_X3_trialMiles : GoodIn wsX3_wouldWalk wsX3_trialMiles := goodIn_r _ [31, 32, 21, 33, 34, 35, 25, 36, 37, 38, 39, 40, 41, 42, 43, 44, 45, 46, 47, 48, 49, 50, 51, 52, 53, 54, 55, 56, 57, 58, 59, 60, 27, 61, 62, 63, 64, 65, 66, 67, 68, 22, 23, 24, 26, 69, 70, 71, 72, 73, 74, 75, 76, 77, 78, 79, 80, 81, 82, 83, 84, 85, 86, 87, 12, 88, 89, 90, 10, 11, 13, 14, 91, 92, 93, 94, 95, 4, 96, 97, 98, 99, 100, 101, 102, 103, 104, 105, 106, 107, 108, 109, 110, 111, 112, 113, 114, 115, 116, 117, 118, 119, 120, 121, 122, 123, 124, 125, 126, 127, 128, 129, 130, 131, 132, 133, 134, 135, 136, 137, 138, 139, 140, 141, 142, 143, 144, 145, 146, 147, 148, 149, 150, 151, 152, 153, 154, 155, 156, 157, 158, 159, 160, 161, 162, 163, 164, 165, 166, 167, 168, 169, 170, 179, 180, 181, 182, 183, 184, 185, 186, 187, 188, 189, 190, 191, 192, 193, 194, 195, 171, 172, 173, 174, 175, 176, 177, 178] (by decide +kernel) (by decide +kernel)
set_option maxRecDepth 20000 in
theorem gX3_wouldWalk_X3_trialMiles : GoodIn wsX3_wouldWalk (wsV RX3 162 RX3 yX3_trialMiles wsX3_trialMiles) := goodIn_app (goodIn_of _ (by decide +kernel)) ggX3_wouldWalk_X3_trialMiles
theorem dX3_wouldWalk_0 : decode cX3_wouldWalk 0 = .ok (.aload_n 0, 1) := by decide +kernel
theorem dX3_wouldWalk_1 : decode cX3_wouldWalk 1 = .ok (.iload_n 1, 1) := by decide +kernel
theorem dX3_wouldWalk_2 : decode cX3_wouldWalk 2 = .ok (.invokevirtual 39, 3) := by decide +kernel
theorem dX3_wouldWalk_5 : decode cX3_wouldWalk 5 = .ok (.aload_n 0, 1) := by decide +kernel
theorem dX3_wouldWalk_6 : decode cX3_wouldWalk 6 = .ok (.invokevirtual 81, 3) := by decide +kernel
theorem dX3_wouldWalk_9 : decode cX3_wouldWalk 9 = .ok (.aload_n 0, 1) := by decide +kernel
theorem dX3_wouldWalk_10 : decode cX3_wouldWalk 10 = .ok (.iload_n 1, 1) := by decide +kernel
theorem dX3_wouldWalk_11 : decode cX3_wouldWalk 11 = .ok (.iconst (-1), 1) := by decide +kernel
theorem dX3_wouldWalk_12 : decode cX3_wouldWalk 12 = .ok (.invokevirtual 162, 3) := by decide +kernel
theorem dX3_wouldWalk_15 : decode cX3_wouldWalk 15 = .ok (.ireturn, 1) := by decide +kernel
set_option maxRecDepth 20000 in
theorem ggX3_bestShepherd_X3_checkPlace : GoodIn wsX3_bestShepherd wsX3_checkPlace := goodIn_ca (goodIn_r _ [6, 7, 8, 1, 9, 10, 11, 12, 13, 14, 168, 169, 170, 171, 172, 173, 174, 175, 176, 177, 178] (by decide +kernel) (by decide +kernel)) (goodIn_sub (fun _ h => List.mem_cons_of_mem _ (List.mem_append_left _ (List.mem_append_right _ h))) (by decide +kernel))
set_option maxRecDepth 20000 in
theorem gX3_bestShepherd_X3_checkPlace : GoodIn wsX3_bestShepherd (wsV RX3 39 RX3 yX3_checkPlace wsX3_checkPlace) := goodIn_app (goodIn_of _ (by decide +kernel)) ggX3_bestShepherd_X3_checkPlace
set_option maxRecDepth 20000 in
theorem ggX3_bestShepherd_X3_checkIdle : GoodIn wsX3_bestShepherd wsX3_checkIdle := goodIn_ca (goodIn_r _ [18, 19, 20, 21, 22, 23, 24, 25, 26, 27, 168, 169, 170, 179, 180, 181, 182, 183, 184, 185, 186, 187, 188, 189, 190, 191, 192, 193] (by decide +kernel) (by decide +kernel)) (goodIn_sub (fun _ h => List.mem_cons_of_mem _ (List.mem_append_right _ h)) (by decide +kernel))
set_option maxRecDepth 20000 in
theorem gX3_bestShepherd_X3_checkIdle : GoodIn wsX3_bestShepherd (wsV RX3 81 RX3 yX3_checkIdle wsX3_checkIdle) := goodIn_app (goodIn_of _ (by decide +kernel)) ggX3_bestShepherd_X3_checkIdle
set_option maxRecDepth 20000 in
theorem ggX3_bestShepherd_X3_trialMiles : GoodIn wsX3_bestShepherd wsX3_trialMiles := goodIn_r _ [31, 32, 21, 33, 34, 35, 25, 36, 37, 38, 39, 40, 41, 42, 43, 44, 45, 46, 47, 48, 49, 50, 51, 52, 53, 54, 55, 56, 57, 58, 59, 60, 27, 61, 62, 63, 64, 65, 66, 67, 68, 22, 23, 24, 26, 69, 70, 71, 72, 73, 74, 75, 76, 77, 78, 79, 80, 81, 82, 83, 84, 85, 86, 87, 12, 88, 89, 90, 10, 11, 13, 14, 91, 92, 93, 94, 95, 5, 96, 97, 98, 99, 100, 101, 102, 103, 104, 105, 106, 107, 108, 109, 110, 111, 112, 113, 114, 115, 116, 117, 118, 119, 120, 121, 122, 123, 124, 125, 126, 127, 128, 129, 130, 131, 132, 133, 134, 135, 136, 137, 138, 139, 140, 141, 142, 143, 144, 145, 146, 147, 148, 149, 150, 151, 152, 153, 154, 155, 156, 157, 158, 159, 160, 161, 162, 163, 164, 165, 166, 167, 168, 169, 170, 179, 180, 181, 182, 183, 184, 185, 186, 187, 188, 189, 190, 191, 192, 193, 194, 195, 171, 172, 173, 174, 175, 176, 177, 178] (by decide +kernel) (by decide +kernel)
set_option maxRecDepth 20000 in
theorem gX3_bestShepherd_X3_trialMiles : GoodIn wsX3_bestShepherd (wsV RX3 162 RX3 yX3_trialMiles wsX3_trialMiles) := goodIn_app (goodIn_of _ (by decide +kernel)) ggX3_bestShepherd_X3_trialMiles
theorem dX3_bestShepherd_0 : decode cX3_bestShepherd 0 = .ok (.aload_n 0, 1) := by decide +kernel
theorem dX3_bestShepherd_1 : decode cX3_bestShepherd 1 = .ok (.iload_n 1, 1) := by decide +kernel
theorem dX3_bestShepherd_2 : decode cX3_bestShepherd 2 = .ok (.invokevirtual 39, 3) := by decide +kernel
theorem dX3_bestShepherd_5 : decode cX3_bestShepherd 5 = .ok (.aload_n 0, 1) := by decide +kernel
theorem dX3_bestShepherd_6 : decode cX3_bestShepherd 6 = .ok (.invokevirtual 81, 3) := by decide +kernel
theorem dX3_bestShepherd_9 : decode cX3_bestShepherd 9 = .ok (.aload_n 0, 1) := by decide +kernel
theorem dX3_bestShepherd_10 : decode cX3_bestShepherd 10 = .ok (.iload_n 1, 1) := by decide +kernel
theorem dX3_bestShepherd_11 : decode cX3_bestShepherd 11 = .ok (.iconst (-1), 1) := by decide +kernel
theorem dX3_bestShepherd_12 : decode cX3_bestShepherd 12 = .ok (.invokevirtual 162, 3) := by decide +kernel
theorem dX3_bestShepherd_15 : decode cX3_bestShepherd 15 = .ok (.istore_n 2, 1) := by decide +kernel
theorem dX3_bestShepherd_16 : decode cX3_bestShepherd 16 = .ok (.iconst (-1), 1) := by decide +kernel
theorem dX3_bestShepherd_17 : decode cX3_bestShepherd 17 = .ok (.istore_n 3, 1) := by decide +kernel
theorem dX3_bestShepherd_18 : decode cX3_bestShepherd 18 = .ok (.iconst 0, 1) := by decide +kernel
theorem dX3_bestShepherd_19 : decode cX3_bestShepherd 19 = .ok (.istore 4, 2) := by decide +kernel
theorem dX3_bestShepherd_21 : decode cX3_bestShepherd 21 = .ok (.iload 4, 2) := by decide +kernel
theorem dX3_bestShepherd_23 : decode cX3_bestShepherd 23 = .ok (.aload_n 0, 1) := by decide +kernel
theorem dX3_bestShepherd_24 : decode cX3_bestShepherd 24 = .ok (.getfield 12, 3) := by decide +kernel
theorem dX3_bestShepherd_27 : decode cX3_bestShepherd 27 = .ok (.getfield 28, 3) := by decide +kernel
theorem dX3_bestShepherd_30 : decode cX3_bestShepherd 30 = .ok (.if_icmp .ge 58, 3) := by decide +kernel
theorem dX3_bestShepherd_33 : decode cX3_bestShepherd 33 = .ok (.aload_n 0, 1) := by decide +kernel
theorem dX3_bestShepherd_34 : decode cX3_bestShepherd 34 = .ok (.getfield 12, 3) := by decide +kernel
theorem dX3_bestShepherd_37 : decode cX3_bestShepherd 37 = .ok (.getfield 69, 3) := by decide +kernel
theorem dX3_bestShepherd_40 : decode cX3_bestShepherd 40 = .ok (.iload 4, 2) := by decide +kernel
theorem dX3_bestShepherd_42 : decode cX3_bestShepherd 42 = .ok (.baload, 1) := by decide +kernel
theorem dX3_bestShepherd_43 : decode cX3_bestShepherd 43 = .ok (.ifCond .eq 7, 3) := by decide +kernel
theorem dX3_bestShepherd_46 : decode cX3_bestShepherd 46 = .ok (.iconst (-1), 1) := by decide +kernel
theorem dX3_bestShepherd_47 : decode cX3_bestShepherd 47 = .ok (.goto 10, 3) := by decide +kernel
theorem dX3_bestShepherd_50 : decode cX3_bestShepherd 50 = .ok (.aload_n 0, 1) := by decide +kernel
theorem dX3_bestShepherd_51 : decode cX3_bestShepherd 51 = .ok (.iload_n 1, 1) := by decide +kernel
theorem dX3_bestShepherd_52 : decode cX3_bestShepherd 52 = .ok (.iload 4, 2) := by decide +kernel
theorem dX3_bestShepherd_54 : decode cX3_bestShepherd 54 = .ok (.invokevirtual 162, 3) := by decide +kernel
theorem dX3_bestShepherd_57 : decode cX3_bestShepherd 57 = .ok (.istore 5, 2) := by decide +kernel
theorem dX3_bestShepherd_59 : decode cX3_bestShepherd 59 = .ok (.iload 5, 2) := by decide +kernel
theorem dX3_bestShepherd_61 : decode cX3_bestShepherd 61 = .ok (.iconst (-1), 1) := by decide +kernel
theorem dX3_bestShepherd_62 : decode cX3_bestShepherd 62 = .ok (.if_icmp .eq 20, 3) := by decide +kernel
theorem dX3_bestShepherd_65 : decode cX3_bestShepherd 65 = .ok (.iload_n 2, 1) := by decide +kernel
theorem dX3_bestShepherd_66 : decode cX3_bestShepherd 66 = .ok (.iconst (-1), 1) := by decide +kernel
theorem dX3_bestShepherd_67 : decode cX3_bestShepherd 67 = .ok (.if_icmp .eq 9, 3) := by decide +kernel
theorem dX3_bestShepherd_70 : decode cX3_bestShepherd 70 = .ok (.iload 5, 2) := by decide +kernel
theorem dX3_bestShepherd_72 : decode cX3_bestShepherd 72 = .ok (.iload_n 2, 1) := by decide +kernel
theorem dX3_bestShepherd_73 : decode cX3_bestShepherd 73 = .ok (.if_icmp .ge 9, 3) := by decide +kernel
theorem dX3_bestShepherd_76 : decode cX3_bestShepherd 76 = .ok (.iload 5, 2) := by decide +kernel
theorem dX3_bestShepherd_78 : decode cX3_bestShepherd 78 = .ok (.istore_n 2, 1) := by decide +kernel
theorem dX3_bestShepherd_79 : decode cX3_bestShepherd 79 = .ok (.iload 4, 2) := by decide +kernel
theorem dX3_bestShepherd_81 : decode cX3_bestShepherd 81 = .ok (.istore_n 3, 1) := by decide +kernel
theorem dX3_bestShepherd_82 : decode cX3_bestShepherd 82 = .ok (.iinc 4 1, 3) := by decide +kernel
theorem dX3_bestShepherd_85 : decode cX3_bestShepherd 85 = .ok (.goto (-64), 3) := by decide +kernel
theorem dX3_bestShepherd_88 : decode cX3_bestShepherd 88 = .ok (.iload_n 3, 1) := by decide +kernel
theorem dX3_bestShepherd_89 : decode cX3_bestShepherd 89 = .ok (.ireturn, 1) := by decide +kernel
theorem dX3_meanMiles_0 : decode cX3_meanMiles 0 = .ok (.aload_n 0, 1) := by decide +kernel
theorem dX3_meanMiles_1 : decode cX3_meanMiles 1 = .ok (.getfield 21, 3) := by decide +kernel
theorem dX3_meanMiles_4 : decode cX3_meanMiles 4 = .ok (.getfield 153, 3) := by decide +kernel
theorem dX3_meanMiles_7 : decode cX3_meanMiles 7 = .ok (.aload_n 0, 1) := by decide +kernel
theorem dX3_meanMiles_8 : decode cX3_meanMiles 8 = .ok (.getfield 21, 3) := by decide +kernel
theorem dX3_meanMiles_11 : decode cX3_meanMiles 11 = .ok (.getfield 156, 3) := by decide +kernel
theorem dX3_meanMiles_14 : decode cX3_meanMiles 14 = .ok (.iadd, 1) := by decide +kernel
theorem dX3_meanMiles_15 : decode cX3_meanMiles 15 = .ok (.istore_n 1, 1) := by decide +kernel
theorem dX3_meanMiles_16 : decode cX3_meanMiles 16 = .ok (.iload_n 1, 1) := by decide +kernel
theorem dX3_meanMiles_17 : decode cX3_meanMiles 17 = .ok (.ifCond .ne 7, 3) := by decide +kernel
theorem dX3_meanMiles_20 : decode cX3_meanMiles 20 = .ok (.dconst 0, 1) := by decide +kernel
theorem dX3_meanMiles_21 : decode cX3_meanMiles 21 = .ok (.goto 14, 3) := by decide +kernel
theorem dX3_meanMiles_24 : decode cX3_meanMiles 24 = .ok (.aload_n 0, 1) := by decide +kernel
theorem dX3_meanMiles_25 : decode cX3_meanMiles 25 = .ok (.getfield 21, 3) := by decide +kernel
theorem dX3_meanMiles_28 : decode cX3_meanMiles 28 = .ok (.getfield 147, 3) := by decide +kernel
theorem dX3_meanMiles_31 : decode cX3_meanMiles 31 = .ok (.i2d, 1) := by decide +kernel
theorem dX3_meanMiles_32 : decode cX3_meanMiles 32 = .ok (.iload_n 1, 1) := by decide +kernel
theorem dX3_meanMiles_33 : decode cX3_meanMiles 33 = .ok (.i2d, 1) := by decide +kernel
theorem dX3_meanMiles_34 : decode cX3_meanMiles 34 = .ok (.ddiv, 1) := by decide +kernel
theorem dX3_meanMiles_35 : decode cX3_meanMiles 35 = .ok (.dreturn, 1) := by decide +kernel
set_option maxRecDepth 20000 in
theorem ggX3_digest_X3_places : GoodIn wsX3_digest wsX3_places := goodIn_r _ [6, 7, 156, 157, 158, 159, 160, 161, 162, 163, 164, 165, 166] (by decide +kernel) (by decide +kernel)
set_option maxRecDepth 20000 in
theorem gX3_digest_X3_places : GoodIn wsX3_digest (wsV RX3 167 RX3 yX3_places wsX3_places) := goodIn_app (goodIn_of _ (by decide +kernel)) ggX3_digest_X3_places
set_option maxRecDepth 20000 in
theorem ggX3_digest_X3_mix : GoodIn wsX3_digest wsX3_mix := goodIn_r _ [10, 11] (by decide +kernel) (by decide +kernel)
set_option maxRecDepth 20000 in
theorem gX3_digest_X3_mix : GoodIn wsX3_digest (va_wsS RX3 170 yX3_mix wsX3_mix) := goodIn_app (goodIn_of _ (by decide +kernel)) ggX3_digest_X3_mix
set_option maxRecDepth 20000 in
theorem ggX3_digest_X3_whereIs : GoodIn wsX3_digest wsX3_whereIs := goodIn_r _ [15, 7, 16, 156, 157, 158, 159, 160, 161, 162, 163, 164, 165, 166, 167, 168, 169, 170, 171, 172, 173, 174, 175, 176, 177, 178, 179, 180, 181] (by decide +kernel) (by decide +kernel)
set_option maxRecDepth 20000 in
theorem gX3_digest_X3_whereIs : GoodIn wsX3_digest (wsV RX3 174 RX3 yX3_whereIs wsX3_whereIs) := goodIn_app (goodIn_of _ (by decide +kernel)) ggX3_digest_X3_whereIs
set_option maxRecDepth 20000 in
theorem ggX3_digest_X3_coins : GoodIn wsX3_digest wsX3_coins := goodIn_r _ [20, 16, 156, 157, 158, 167, 168, 169, 170, 171, 172, 173, 174, 175, 176, 177, 178, 179, 180, 181] (by decide +kernel) (by decide +kernel)
set_option maxRecDepth 20000 in
theorem gX3_digest_X3_coins : GoodIn wsX3_digest (wsV RX3 177 RX3 yX3_coins wsX3_coins) := goodIn_app (goodIn_of _ (by decide +kernel)) ggX3_digest_X3_coins
set_option maxRecDepth 20000 in
theorem ggX3_digest_X3_goal : GoodIn wsX3_digest wsX3_goal := goodIn_r _ [24, 16, 156, 157, 158, 167, 168, 169, 170, 171, 172, 173, 174, 175, 176, 177, 178, 179, 180, 181] (by decide +kernel) (by decide +kernel)
set_option maxRecDepth 20000 in
theorem gX3_digest_X3_goal : GoodIn wsX3_digest (wsV RX3 179 RX3 yX3_goal wsX3_goal) := goodIn_app (goodIn_of _ (by decide +kernel)) ggX3_digest_X3_goal
set_option maxRecDepth 20000 in
theorem ggX3_digest_X3_wayLength : GoodIn wsX3_digest wsX3_wayLength := goodIn_r _ [28, 16, 156, 157, 158, 167, 168, 169, 170, 171, 172, 173, 174, 175, 176, 177, 178, 179, 180, 181] (by decide +kernel) (by decide +kernel)
set_option maxRecDepth 20000 in
theorem gX3_digest_X3_wayLength : GoodIn wsX3_digest (wsV RX3 181 RX3 yX3_wayLength wsX3_wayLength) := goodIn_app (goodIn_of _ (by decide +kernel)) ggX3_digest_X3_wayLength
set_option maxRecDepth 20000 in
theorem ggX3_digest_X3_milesWalked : GoodIn wsX3_digest wsX3_milesWalked := goodIn_r _ [32, 16, 156, 157, 158, 167, 168, 169, 170, 171, 172, 173, 174, 175, 176, 177, 178, 179, 180, 181] (by decide +kernel) (by decide +kernel)
set_option maxRecDepth 20000 in
theorem gX3_digest_X3_milesWalked : GoodIn wsX3_digest (wsV RX3 183 RX3 yX3_milesWalked wsX3_milesWalked) := goodIn_app (goodIn_of _ (by decide +kernel)) ggX3_digest_X3_milesWalked
set_option maxRecDepth 20000 in
theorem ggX3_digest_X3_milesDoubled : GoodIn wsX3_digest wsX3_milesDoubled := goodIn_r _ [36, 16, 156, 157, 158, 167, 168, 169, 170, 171, 172, 173, 174, 175, 176, 177, 178, 179, 180, 181] (by decide +kernel) (by decide +kernel)
set_option maxRecDepth 20000 in
theorem gX3_digest_X3_milesDoubled : GoodIn wsX3_digest (wsV RX3 186 RX3 yX3_milesDoubled wsX3_milesDoubled) := goodIn_app (goodIn_of _ (by decide +kernel)) ggX3_digest_X3_milesDoubled
set_option maxRecDepth 20000 in
theorem ggX3_digest_X3_errandsDone : GoodIn wsX3_digest wsX3_errandsDone := goodIn_r _ [40, 16, 156, 157, 158, 167, 168, 169, 170, 171, 172, 173, 174, 175, 176, 177, 178, 179, 180, 181] (by decide +kernel) (by decide +kernel)
set_option maxRecDepth 20000 in
theorem gX3_digest_X3_errandsDone : GoodIn wsX3_digest (wsV RX3 189 RX3 yX3_errandsDone wsX3_errandsDone) := goodIn_app (goodIn_of _ (by decide +kernel)) ggX3_digest_X3_errandsDone
set_option maxRecDepth 20000 in
theorem ggX3_digest_X3_errandsInVain : GoodIn wsX3_digest wsX3_errandsInVain := goodIn_r _ [44, 16, 156, 157, 158, 167, 168, 169, 170, 171, 172, 173, 174, 175, 176, 177, 178, 179, 180, 181] (by decide +kernel) (by decide +kernel)
set_option maxRecDepth 20000 in
theorem gX3_digest_X3_errandsInVain : GoodIn wsX3_digest (wsV RX3 192 RX3 yX3_errandsInVain wsX3_errandsInVain) := goodIn_app (goodIn_of _ (by decide +kernel)) ggX3_digest_X3_errandsInVain
set_option maxRecDepth 20000 in
theorem ggX3_digest_X3_asked : GoodIn wsX3_digest wsX3_asked := goodIn_r _ [48, 16, 156, 157, 158, 167, 168, 169, 170, 171, 172, 173, 174, 175, 176, 177, 178, 179, 180, 181] (by decide +kernel) (by decide +kernel)
set_option maxRecDepth 20000 in
theorem gX3_digest_X3_asked : GoodIn wsX3_digest (wsV RX3 195 RX3 yX3_asked wsX3_asked) := goodIn_app (goodIn_of _ (by decide +kernel)) ggX3_digest_X3_asked
set_option maxRecDepth 20000 in
theorem ggX3_digest_X3_mixPlaces : GoodIn wsX3_digest wsX3_mixPlaces := goodIn_ca (goodIn_r _ [52, 7, 53, 54, 55, 5, 56, 57, 58, 59, 60, 61, 62, 63, 64, 65, 66, 67, 68, 69, 70, 71, 8, 9, 10, 11, 72, 73, 74, 75, 76, 77, 78, 79, 80, 81, 82, 83, 84, 85, 86, 87, 88, 89, 90, 91, 92, 93, 94, 95, 96, 97, 98, 99, 100, 101, 102, 103, 104, 105, 106, 107, 108, 109, 110, 111, 112, 113, 114, 115, 116, 117, 118, 16, 119, 120, 121, 122, 123, 124, 125, 126, 127, 128, 129, 156, 157, 158, 159, 160, 161, 162, 163, 164, 165, 166, 167, 168, 169, 170, 171, 172, 173, 174, 175, 176, 177, 178, 179, 180, 181] (by decide +kernel) (by decide +kernel)) (goodIn_sub (fun _ h => List.mem_cons_of_mem _ (List.mem_append_right _ h)) (by decide +kernel))
set_option maxRecDepth 20000 in
theorem gX3_digest_X3_mixPlaces : GoodIn wsX3_digest (wsV RX3 198 RX3 yX3_mixPlaces wsX3_mixPlaces) := goodIn_app (goodIn_of _ (by decide +kernel)) ggX3_digest_X3_mixPlaces
set_option maxRecDepth 20000 in
theorem ggX3_digest_X3_mixMemory : GoodIn wsX3_digest wsX3_mixMemory := goodIn_ca (goodIn_r _ [133, 7, 134, 135, 136, 5, 137, 16, 57, 58, 59, 60, 61, 62, 63, 64, 65, 66, 67, 68, 138, 139, 140, 141, 142, 143, 144, 145, 146, 147, 8, 9, 10, 11, 148, 149, 150, 151, 152, 153, 154, 155, 156, 157, 158, 159, 160, 161, 162, 163, 164, 165, 166, 167, 168, 169, 170, 171, 172, 173, 174, 175, 176, 177, 178, 179, 180, 181, 182, 183] (by decide +kernel) (by decide +kernel)) (goodIn_sub (fun _ h => List.mem_cons_of_mem _ (List.mem_append_right _ h)) (by decide +kernel))
set_option maxRecDepth 20000 in
theorem gX3_digest_X3_mixMemory : GoodIn wsX3_digest (wsV RX3 202 RX3 yX3_mixMemory wsX3_mixMemory) := goodIn_app (goodIn_of _ (by decide +kernel)) ggX3_digest_X3_mixMemory
theorem dX3_digest_0 : decode cX3_digest 0 = .ok (.ldc2_w 165, 3) := by decide +kernel
theorem dX3_digest_3 : decode cX3_digest 3 = .ok (.lstore_n 1, 1) := by decide +kernel
theorem dX3_digest_4 : decode cX3_digest 4 = .ok (.lload_n 1, 1) := by decide +kernel
theorem dX3_digest_5 : decode cX3_digest 5 = .ok (.aload_n 0, 1) := by decide +kernel
theorem dX3_digest_6 : decode cX3_digest 6 = .ok (.invokevirtual 167, 3) := by decide +kernel
theorem dX3_digest_9 : decode cX3_digest 9 = .ok (.i2l, 1) := by decide +kernel
theorem dX3_digest_10 : decode cX3_digest 10 = .ok (.invokestatic 170, 3) := by decide +kernel
theorem dX3_digest_13 : decode cX3_digest 13 = .ok (.lstore_n 1, 1) := by decide +kernel
theorem dX3_digest_14 : decode cX3_digest 14 = .ok (.lload_n 1, 1) := by decide +kernel
theorem dX3_digest_15 : decode cX3_digest 15 = .ok (.aload_n 0, 1) := by decide +kernel
theorem dX3_digest_16 : decode cX3_digest 16 = .ok (.invokevirtual 174, 3) := by decide +kernel
theorem dX3_digest_19 : decode cX3_digest 19 = .ok (.i2l, 1) := by decide +kernel
theorem dX3_digest_20 : decode cX3_digest 20 = .ok (.invokestatic 170, 3) := by decide +kernel
theorem dX3_digest_23 : decode cX3_digest 23 = .ok (.lstore_n 1, 1) := by decide +kernel
theorem dX3_digest_24 : decode cX3_digest 24 = .ok (.lload_n 1, 1) := by decide +kernel
theorem dX3_digest_25 : decode cX3_digest 25 = .ok (.aload_n 0, 1) := by decide +kernel
theorem dX3_digest_26 : decode cX3_digest 26 = .ok (.invokevirtual 177, 3) := by decide +kernel
theorem dX3_digest_29 : decode cX3_digest 29 = .ok (.i2l, 1) := by decide +kernel
theorem dX3_digest_30 : decode cX3_digest 30 = .ok (.invokestatic 170, 3) := by decide +kernel
theorem dX3_digest_33 : decode cX3_digest 33 = .ok (.lstore_n 1, 1) := by decide +kernel
theorem dX3_digest_34 : decode cX3_digest 34 = .ok (.lload_n 1, 1) := by decide +kernel
theorem dX3_digest_35 : decode cX3_digest 35 = .ok (.aload_n 0, 1) := by decide +kernel
theorem dX3_digest_36 : decode cX3_digest 36 = .ok (.invokevirtual 179, 3) := by decide +kernel
theorem dX3_digest_39 : decode cX3_digest 39 = .ok (.i2l, 1) := by decide +kernel
theorem dX3_digest_40 : decode cX3_digest 40 = .ok (.invokestatic 170, 3) := by decide +kernel
theorem dX3_digest_43 : decode cX3_digest 43 = .ok (.lstore_n 1, 1) := by decide +kernel
theorem dX3_digest_44 : decode cX3_digest 44 = .ok (.lload_n 1, 1) := by decide +kernel
theorem dX3_digest_45 : decode cX3_digest 45 = .ok (.aload_n 0, 1) := by decide +kernel
theorem dX3_digest_46 : decode cX3_digest 46 = .ok (.invokevirtual 181, 3) := by decide +kernel
theorem dX3_digest_49 : decode cX3_digest 49 = .ok (.i2l, 1) := by decide +kernel
theorem dX3_digest_50 : decode cX3_digest 50 = .ok (.invokestatic 170, 3) := by decide +kernel
theorem dX3_digest_53 : decode cX3_digest 53 = .ok (.lstore_n 1, 1) := by decide +kernel
theorem dX3_digest_54 : decode cX3_digest 54 = .ok (.lload_n 1, 1) := by decide +kernel
theorem dX3_digest_55 : decode cX3_digest 55 = .ok (.aload_n 0, 1) := by decide +kernel
theorem dX3_digest_56 : decode cX3_digest 56 = .ok (.invokevirtual 183, 3) := by decide +kernel
theorem dX3_digest_59 : decode cX3_digest 59 = .ok (.i2l, 1) := by decide +kernel
theorem dX3_digest_60 : decode cX3_digest 60 = .ok (.invokestatic 170, 3) := by decide +kernel
theorem dX3_digest_63 : decode cX3_digest 63 = .ok (.lstore_n 1, 1) := by decide +kernel
theorem dX3_digest_64 : decode cX3_digest 64 = .ok (.lload_n 1, 1) := by decide +kernel
theorem dX3_digest_65 : decode cX3_digest 65 = .ok (.aload_n 0, 1) := by decide +kernel
theorem dX3_digest_66 : decode cX3_digest 66 = .ok (.invokevirtual 186, 3) := by decide +kernel
theorem dX3_digest_69 : decode cX3_digest 69 = .ok (.i2l, 1) := by decide +kernel
theorem dX3_digest_70 : decode cX3_digest 70 = .ok (.invokestatic 170, 3) := by decide +kernel
theorem dX3_digest_73 : decode cX3_digest 73 = .ok (.lstore_n 1, 1) := by decide +kernel
theorem dX3_digest_74 : decode cX3_digest 74 = .ok (.lload_n 1, 1) := by decide +kernel
theorem dX3_digest_75 : decode cX3_digest 75 = .ok (.aload_n 0, 1) := by decide +kernel
theorem dX3_digest_76 : decode cX3_digest 76 = .ok (.invokevirtual 189, 3) := by decide +kernel
theorem dX3_digest_79 : decode cX3_digest 79 = .ok (.i2l, 1) := by decide +kernel
theorem dX3_digest_80 : decode cX3_digest 80 = .ok (.invokestatic 170, 3) := by decide +kernel
theorem dX3_digest_83 : decode cX3_digest 83 = .ok (.lstore_n 1, 1) := by decide +kernel
theorem dX3_digest_84 : decode cX3_digest 84 = .ok (.lload_n 1, 1) := by decide +kernel
theorem dX3_digest_85 : decode cX3_digest 85 = .ok (.aload_n 0, 1) := by decide +kernel
theorem dX3_digest_86 : decode cX3_digest 86 = .ok (.invokevirtual 192, 3) := by decide +kernel
theorem dX3_digest_89 : decode cX3_digest 89 = .ok (.i2l, 1) := by decide +kernel
theorem dX3_digest_90 : decode cX3_digest 90 = .ok (.invokestatic 170, 3) := by decide +kernel
theorem dX3_digest_93 : decode cX3_digest 93 = .ok (.lstore_n 1, 1) := by decide +kernel
theorem dX3_digest_94 : decode cX3_digest 94 = .ok (.lload_n 1, 1) := by decide +kernel
theorem dX3_digest_95 : decode cX3_digest 95 = .ok (.aload_n 0, 1) := by decide +kernel
theorem dX3_digest_96 : decode cX3_digest 96 = .ok (.invokevirtual 195, 3) := by decide +kernel
theorem dX3_digest_99 : decode cX3_digest 99 = .ok (.i2l, 1) := by decide +kernel
theorem dX3_digest_100 : decode cX3_digest 100 = .ok (.invokestatic 170, 3) := by decide +kernel
theorem dX3_digest_103 : decode cX3_digest 103 = .ok (.lstore_n 1, 1) := by decide +kernel
theorem dX3_digest_104 : decode cX3_digest 104 = .ok (.aload_n 0, 1) := by decide +kernel
theorem dX3_digest_105 : decode cX3_digest 105 = .ok (.aload_n 0, 1) := by decide +kernel
theorem dX3_digest_106 : decode cX3_digest 106 = .ok (.lload_n 1, 1) := by decide +kernel
theorem dX3_digest_107 : decode cX3_digest 107 = .ok (.invokevirtual 198, 3) := by decide +kernel
theorem dX3_digest_110 : decode cX3_digest 110 = .ok (.invokevirtual 202, 3) := by decide +kernel
theorem dX3_digest_113 : decode cX3_digest 113 = .ok (.lreturn, 1) := by decide +kernel
set_option maxRecDepth 20000 in
theorem ggX3_checkPlace_X1_isPlace : GoodIn wsX3_checkPlace wsX1_isPlace := goodIn_r _ [8, 9, 13, 14, 15, 16, 17, 18, 19, 20] (by decide +kernel) (by decide +kernel)
set_option maxRecDepth 20000 in
theorem gX3_checkPlace_X1_isPlace : GoodIn wsX3_checkPlace (wsV RX3 205 RX1 yX1_isPlace wsX1_isPlace) := goodIn_app (goodIn_of _ (by decide +kernel)) ggX3_checkPlace_X1_isPlace
theorem dX3_checkPlace_0 : decode cX3_checkPlace 0 = .ok (.aload_n 0, 1) := by decide +kernel
theorem dX3_checkPlace_1 : decode cX3_checkPlace 1 = .ok (.getfield 12, 3) := by decide +kernel
theorem dX3_checkPlace_4 : decode cX3_checkPlace 4 = .ok (.iload_n 1, 1) := by decide +kernel
theorem dX3_checkPlace_5 : decode cX3_checkPlace 5 = .ok (.invokevirtual 205, 3) := by decide +kernel
theorem dX3_checkPlace_8 : decode cX3_checkPlace 8 = .ok (.ifCond .ne 13, 3) := by decide +kernel
theorem dX3_checkPlace_11 : decode cX3_checkPlace 11 = .ok (.new 208, 3) := by decide +kernel
theorem dX3_checkPlace_14 : decode cX3_checkPlace 14 = .ok (.dup, 1) := by decide +kernel
theorem dX3_checkPlace_15 : decode cX3_checkPlace 15 = .ok (.ldc 210, 2) := by decide +kernel
theorem dX3_checkPlace_17 : decode cX3_checkPlace 17 = .ok (.invokespecial 212, 3) := by decide +kernel
theorem dX3_checkPlace_20 : decode cX3_checkPlace 20 = .ok (.athrow, 1) := by decide +kernel
theorem dX3_checkPlace_21 : decode cX3_checkPlace 21 = .ok (.return_, 1) := by decide +kernel
set_option maxRecDepth 20000 in
theorem ggX3_checkedEnd_X1_endAt : GoodIn wsX3_checkedEnd wsX1_endAt := goodIn_r _ [8, 9, 10, 11, 12, 7, 13, 14, 18, 19, 20, 21, 22, 23, 24, 25] (by decide +kernel) (by decide +kernel)
set_option maxRecDepth 20000 in
theorem gX3_checkedEnd_X1_endAt : GoodIn wsX3_checkedEnd (wsV RX3 213 RX1 yX1_endAt wsX1_endAt) := goodIn_app (goodIn_of _ (by decide +kernel)) ggX3_checkedEnd_X1_endAt
theorem dX3_checkedEnd_0 : decode cX3_checkedEnd 0 = .ok (.aload_n 0, 1) := by decide +kernel
theorem dX3_checkedEnd_1 : decode cX3_checkedEnd 1 = .ok (.getfield 12, 3) := by decide +kernel
theorem dX3_checkedEnd_4 : decode cX3_checkedEnd 4 = .ok (.iload_n 1, 1) := by decide +kernel
theorem dX3_checkedEnd_5 : decode cX3_checkedEnd 5 = .ok (.iload_n 2, 1) := by decide +kernel
theorem dX3_checkedEnd_6 : decode cX3_checkedEnd 6 = .ok (.invokevirtual 213, 3) := by decide +kernel
theorem dX3_checkedEnd_9 : decode cX3_checkedEnd 9 = .ok (.istore_n 3, 1) := by decide +kernel
theorem dX3_checkedEnd_10 : decode cX3_checkedEnd 10 = .ok (.iload_n 3, 1) := by decide +kernel
theorem dX3_checkedEnd_11 : decode cX3_checkedEnd 11 = .ok (.iconst (-1), 1) := by decide +kernel
theorem dX3_checkedEnd_12 : decode cX3_checkedEnd 12 = .ok (.if_icmp .ne 13, 3) := by decide +kernel
theorem dX3_checkedEnd_15 : decode cX3_checkedEnd 15 = .ok (.new 208, 3) := by decide +kernel
theorem dX3_checkedEnd_18 : decode cX3_checkedEnd 18 = .ok (.dup, 1) := by decide +kernel
theorem dX3_checkedEnd_19 : decode cX3_checkedEnd 19 = .ok (.ldc 216, 2) := by decide +kernel
theorem dX3_checkedEnd_21 : decode cX3_checkedEnd 21 = .ok (.invokespecial 212, 3) := by decide +kernel
theorem dX3_checkedEnd_24 : decode cX3_checkedEnd 24 = .ok (.athrow, 1) := by decide +kernel
theorem dX3_checkedEnd_25 : decode cX3_checkedEnd 25 = .ok (.iload_n 3, 1) := by decide +kernel
theorem dX3_checkedEnd_26 : decode cX3_checkedEnd 26 = .ok (.ireturn, 1) := by decide +kernel
theorem dX3_checkRange_0 : decode cX3_checkRange 0 = .ok (.iload_n 1, 1) := by decide +kernel
theorem dX3_checkRange_1 : decode cX3_checkRange 1 = .ok (.iconst 1, 1) := by decide +kernel
theorem dX3_checkRange_2 : decode cX3_checkRange 2 = .ok (.if_icmp .lt 8, 3) := by decide +kernel
theorem dX3_checkRange_5 : decode cX3_checkRange 5 = .ok (.iload_n 1, 1) := by decide +kernel
theorem dX3_checkRange_6 : decode cX3_checkRange 6 = .ok (.iload_n 2, 1) := by decide +kernel
theorem dX3_checkRange_7 : decode cX3_checkRange 7 = .ok (.if_icmp .le 13, 3) := by decide +kernel
theorem dX3_checkRange_10 : decode cX3_checkRange 10 = .ok (.new 43, 3) := by decide +kernel
theorem dX3_checkRange_13 : decode cX3_checkRange 13 = .ok (.dup, 1) := by decide +kernel
theorem dX3_checkRange_14 : decode cX3_checkRange 14 = .ok (.ldc 218, 2) := by decide +kernel
theorem dX3_checkRange_16 : decode cX3_checkRange 16 = .ok (.invokespecial 47, 3) := by decide +kernel
theorem dX3_checkRange_19 : decode cX3_checkRange 19 = .ok (.athrow, 1) := by decide +kernel
theorem dX3_checkRange_20 : decode cX3_checkRange 20 = .ok (.return_, 1) := by decide +kernel
set_option maxRecDepth 20000 in
theorem ggX3_checkIdle_X0_isUnderway : GoodIn wsX3_checkIdle wsX0_isUnderway := goodIn_r _ [8, 9, 13, 14, 15, 16, 17, 18, 19, 20, 21, 22, 23, 24, 25, 26, 27] (by decide +kernel) (by decide +kernel)
set_option maxRecDepth 20000 in
theorem gX3_checkIdle_X0_isUnderway : GoodIn wsX3_checkIdle (wsV RX3 96 RX0 yX0_isUnderway wsX0_isUnderway) := goodIn_app (goodIn_of _ (by decide +kernel)) ggX3_checkIdle_X0_isUnderway
theorem dX3_checkIdle_0 : decode cX3_checkIdle 0 = .ok (.aload_n 0, 1) := by decide +kernel
theorem dX3_checkIdle_1 : decode cX3_checkIdle 1 = .ok (.getfield 21, 3) := by decide +kernel
theorem dX3_checkIdle_4 : decode cX3_checkIdle 4 = .ok (.invokevirtual 96, 3) := by decide +kernel
theorem dX3_checkIdle_7 : decode cX3_checkIdle 7 = .ok (.ifCond .eq 13, 3) := by decide +kernel
theorem dX3_checkIdle_10 : decode cX3_checkIdle 10 = .ok (.new 32, 3) := by decide +kernel
theorem dX3_checkIdle_13 : decode cX3_checkIdle 13 = .ok (.dup, 1) := by decide +kernel
theorem dX3_checkIdle_14 : decode cX3_checkIdle 14 = .ok (.ldc 220, 2) := by decide +kernel
theorem dX3_checkIdle_16 : decode cX3_checkIdle 16 = .ok (.invokespecial 36, 3) := by decide +kernel
theorem dX3_checkIdle_19 : decode cX3_checkIdle 19 = .ok (.athrow, 1) := by decide +kernel
theorem dX3_checkIdle_20 : decode cX3_checkIdle 20 = .ok (.return_, 1) := by decide +kernel
set_option maxRecDepth 20000 in
theorem ggX3_checkUnderway_X0_isUnderway : GoodIn wsX3_checkUnderway wsX0_isUnderway := goodIn_r _ [8, 9, 13, 14, 15, 16, 17, 18, 19, 20, 21, 22, 23, 24, 25, 26, 27] (by decide +kernel) (by decide +kernel)
set_option maxRecDepth 20000 in
theorem gX3_checkUnderway_X0_isUnderway : GoodIn wsX3_checkUnderway (wsV RX3 96 RX0 yX0_isUnderway wsX0_isUnderway) := goodIn_app (goodIn_of _ (by decide +kernel)) ggX3_checkUnderway_X0_isUnderway
theorem dX3_checkUnderway_0 : decode cX3_checkUnderway 0 = .ok (.aload_n 0, 1) := by decide +kernel
theorem dX3_checkUnderway_1 : decode cX3_checkUnderway 1 = .ok (.getfield 21, 3) := by decide +kernel
theorem dX3_checkUnderway_4 : decode cX3_checkUnderway 4 = .ok (.invokevirtual 96, 3) := by decide +kernel
theorem dX3_checkUnderway_7 : decode cX3_checkUnderway 7 = .ok (.ifCond .ne 13, 3) := by decide +kernel
theorem dX3_checkUnderway_10 : decode cX3_checkUnderway 10 = .ok (.new 32, 3) := by decide +kernel
theorem dX3_checkUnderway_13 : decode cX3_checkUnderway 13 = .ok (.dup, 1) := by decide +kernel
theorem dX3_checkUnderway_14 : decode cX3_checkUnderway 14 = .ok (.ldc 222, 2) := by decide +kernel
theorem dX3_checkUnderway_16 : decode cX3_checkUnderway 16 = .ok (.invokespecial 36, 3) := by decide +kernel
theorem dX3_checkUnderway_19 : decode cX3_checkUnderway 19 = .ok (.athrow, 1) := by decide +kernel
theorem dX3_checkUnderway_20 : decode cX3_checkUnderway 20 = .ok (.return_, 1) := by decide +kernel
set_option maxRecDepth 20000 in
theorem ggX3_trialMiles_X0_startLike : GoodIn wsX3_trialMiles wsX0_startLike := goodIn_r _ [7, 8, 9, 10, 11, 12, 13, 14, 15, 16, 17, 18, 19, 20, 21, 22, 23, 24, 153, 154, 155, 156, 157, 158, 159, 160, 161, 162, 163, 164, 165, 166, 167, 168, 169] (by decide +kernel) (by decide +kernel)
set_option maxRecDepth 20000 in
theorem gX3_trialMiles_X0_startLike : GoodIn wsX3_trialMiles (wsV RX3 224 RX0 yX0_startLike wsX0_startLike) := goodIn_app (goodIn_of _ (by decide +kernel)) ggX3_trialMiles_X0_startLike
set_option maxRecDepth 20000 in
theorem ggX3_trialMiles_X0_begin : GoodIn wsX3_trialMiles wsX0_begin := goodIn_r _ [28, 29, 30, 31, 32, 8, 33, 34, 35, 6, 36, 37, 38, 39, 40, 153, 154, 155, 156, 157, 158, 159, 160, 161, 162, 163, 164, 165, 166, 167] (by decide +kernel) (by decide +kernel)
set_option maxRecDepth 20000 in
theorem gX3_trialMiles_X0_begin : GoodIn wsX3_trialMiles (wsV RX3 90 RX0 yX0_begin wsX0_begin) := goodIn_app (goodIn_of _ (by decide +kernel)) ggX3_trialMiles_X0_begin
set_option maxRecDepth 20000 in
theorem ggX3_trialMiles_X0_isUnderway : GoodIn wsX3_trialMiles wsX0_isUnderway := goodIn_r _ [44, 32, 153, 154, 155, 156, 157, 158, 159, 160, 161, 162, 163, 164, 165, 166, 167] (by decide +kernel) (by decide +kernel)
set_option maxRecDepth 20000 in
theorem gX3_trialMiles_X0_isUnderway : GoodIn wsX3_trialMiles (wsV RX3 96 RX0 yX0_isUnderway wsX0_isUnderway) := goodIn_app (goodIn_of _ (by decide +kernel)) ggX3_trialMiles_X0_isUnderway
set_option maxRecDepth 20000 in
theorem ggX3_trialMiles_X0_step : GoodIn wsX3_trialMiles wsX0_step := goodIn_r _ [48, 31, 13, 8, 32, 33, 49, 50, 51, 6, 52, 53, 10, 54, 55, 56, 17, 57, 24, 19, 58, 59, 60, 61, 62, 63, 64, 65, 66, 67, 68, 69, 70, 71, 72, 73, 74, 75, 29, 76, 77, 78, 79, 80, 81, 82, 11, 30, 9, 83, 84, 85, 86, 87, 88, 89, 90, 91, 92, 93, 94, 95, 96, 97, 98, 99, 100, 101, 102, 103, 104, 105, 106, 107, 108, 109, 110, 111, 112, 113, 114, 115, 116, 117, 118, 119, 120, 121, 122, 12, 123, 124, 125, 126, 127, 128, 129, 130, 131, 132, 133, 134, 135, 136, 37, 38, 39, 40, 137, 138, 139, 140, 141, 142, 143, 144, 145, 146, 147, 148, 149, 153, 154, 155, 156, 157, 158, 159, 160, 161, 162, 163, 164, 165, 166, 167, 168, 169, 170, 171, 172, 173, 174, 175, 176, 177] (by decide +kernel) (by decide +kernel)
set_option maxRecDepth 20000 in
theorem gX3_trialMiles_X0_step : GoodIn wsX3_trialMiles (wsV RX3 100 RX0 yX0_step wsX0_step) := goodIn_app (goodIn_of _ (by decide +kernel)) ggX3_trialMiles_X0_step
theorem dX3_trialMiles_0 : decode cX3_trialMiles 0 = .ok (.aload_n 0, 1) := by decide +kernel
theorem dX3_trialMiles_1 : decode cX3_trialMiles 1 = .ok (.getfield 25, 3) := by decide +kernel
theorem dX3_trialMiles_4 : decode cX3_trialMiles 4 = .ok (.aload_n 0, 1) := by decide +kernel
theorem dX3_trialMiles_5 : decode cX3_trialMiles 5 = .ok (.getfield 21, 3) := by decide +kernel
theorem dX3_trialMiles_8 : decode cX3_trialMiles 8 = .ok (.iload_n 2, 1) := by decide +kernel
theorem dX3_trialMiles_9 : decode cX3_trialMiles 9 = .ok (.invokevirtual 224, 3) := by decide +kernel
theorem dX3_trialMiles_12 : decode cX3_trialMiles 12 = .ok (.aload_n 0, 1) := by decide +kernel
theorem dX3_trialMiles_13 : decode cX3_trialMiles 13 = .ok (.getfield 25, 3) := by decide +kernel
theorem dX3_trialMiles_16 : decode cX3_trialMiles 16 = .ok (.iload_n 1, 1) := by decide +kernel
theorem dX3_trialMiles_17 : decode cX3_trialMiles 17 = .ok (.invokevirtual 90, 3) := by decide +kernel
theorem dX3_trialMiles_20 : decode cX3_trialMiles 20 = .ok (.iconst 0, 1) := by decide +kernel
theorem dX3_trialMiles_21 : decode cX3_trialMiles 21 = .ok (.istore_n 3, 1) := by decide +kernel
theorem dX3_trialMiles_22 : decode cX3_trialMiles 22 = .ok (.iload_n 3, 1) := by decide +kernel
theorem dX3_trialMiles_23 : decode cX3_trialMiles 23 = .ok (.sipush 1000, 3) := by decide +kernel
theorem dX3_trialMiles_26 : decode cX3_trialMiles 26 = .ok (.if_icmp .ge 27, 3) := by decide +kernel
theorem dX3_trialMiles_29 : decode cX3_trialMiles 29 = .ok (.aload_n 0, 1) := by decide +kernel
theorem dX3_trialMiles_30 : decode cX3_trialMiles 30 = .ok (.getfield 25, 3) := by decide +kernel
theorem dX3_trialMiles_33 : decode cX3_trialMiles 33 = .ok (.invokevirtual 96, 3) := by decide +kernel
theorem dX3_trialMiles_36 : decode cX3_trialMiles 36 = .ok (.ifCond .eq 17, 3) := by decide +kernel
theorem dX3_trialMiles_39 : decode cX3_trialMiles 39 = .ok (.aload_n 0, 1) := by decide +kernel
theorem dX3_trialMiles_40 : decode cX3_trialMiles 40 = .ok (.getfield 25, 3) := by decide +kernel
theorem dX3_trialMiles_43 : decode cX3_trialMiles 43 = .ok (.invokevirtual 100, 3) := by decide +kernel
theorem dX3_trialMiles_46 : decode cX3_trialMiles 46 = .ok (.pop, 1) := by decide +kernel
theorem dX3_trialMiles_47 : decode cX3_trialMiles 47 = .ok (.iinc 3 1, 3) := by decide +kernel
theorem dX3_trialMiles_50 : decode cX3_trialMiles 50 = .ok (.goto (-28), 3) := by decide +kernel
theorem dX3_trialMiles_53 : decode cX3_trialMiles 53 = .ok (.aload_n 0, 1) := by decide +kernel
theorem dX3_trialMiles_54 : decode cX3_trialMiles 54 = .ok (.getfield 25, 3) := by decide +kernel
theorem dX3_trialMiles_57 : decode cX3_trialMiles 57 = .ok (.getfield 156, 3) := by decide +kernel
theorem dX3_trialMiles_60 : decode cX3_trialMiles 60 = .ok (.ifCond .le 7, 3) := by decide +kernel
theorem dX3_trialMiles_63 : decode cX3_trialMiles 63 = .ok (.iconst (-1), 1) := by decide +kernel
theorem dX3_trialMiles_64 : decode cX3_trialMiles 64 = .ok (.goto 10, 3) := by decide +kernel
theorem dX3_trialMiles_67 : decode cX3_trialMiles 67 = .ok (.aload_n 0, 1) := by decide +kernel
theorem dX3_trialMiles_68 : decode cX3_trialMiles 68 = .ok (.getfield 25, 3) := by decide +kernel
theorem dX3_trialMiles_71 : decode cX3_trialMiles 71 = .ok (.getfield 147, 3) := by decide +kernel
theorem dX3_trialMiles_74 : decode cX3_trialMiles 74 = .ok (.ireturn, 1) := by decide +kernel
theorem dX3_mix_0 : decode cX3_mix 0 = .ok (.lload_n 0, 1) := by decide +kernel
theorem dX3_mix_1 : decode cX3_mix 1 = .ok (.ldc2_w 228, 3) := by decide +kernel
theorem dX3_mix_4 : decode cX3_mix 4 = .ok (.lmul, 1) := by decide +kernel
theorem dX3_mix_5 : decode cX3_mix 5 = .ok (.lload_n 2, 1) := by decide +kernel
theorem dX3_mix_6 : decode cX3_mix 6 = .ok (.ladd, 1) := by decide +kernel
theorem dX3_mix_7 : decode cX3_mix 7 = .ok (.lreturn, 1) := by decide +kernel
set_option maxRecDepth 20000 in
theorem ggX3_mixFlag_X3_mix : GoodIn wsX3_mixFlag wsX3_mix := goodIn_r _ [4, 5] (by decide +kernel) (by decide +kernel)
set_option maxRecDepth 20000 in
theorem gX3_mixFlag_X3_mix : GoodIn wsX3_mixFlag (va_wsS RX3 170 yX3_mix wsX3_mix) := goodIn_app (goodIn_of _ (by decide +kernel)) ggX3_mixFlag_X3_mix
theorem dX3_mixFlag_0 : decode cX3_mixFlag 0 = .ok (.lload_n 0, 1) := by decide +kernel
theorem dX3_mixFlag_1 : decode cX3_mixFlag 1 = .ok (.iload_n 2, 1) := by decide +kernel
theorem dX3_mixFlag_2 : decode cX3_mixFlag 2 = .ok (.ifCond .eq 7, 3) := by decide +kernel
theorem dX3_mixFlag_5 : decode cX3_mixFlag 5 = .ok (.lconst 1, 1) := by decide +kernel
theorem dX3_mixFlag_6 : decode cX3_mixFlag 6 = .ok (.goto 4, 3) := by decide +kernel
theorem dX3_mixFlag_9 : decode cX3_mixFlag 9 = .ok (.lconst 0, 1) := by decide +kernel
theorem dX3_mixFlag_10 : decode cX3_mixFlag 10 = .ok (.invokestatic 170, 3) := by decide +kernel
theorem dX3_mixFlag_13 : decode cX3_mixFlag 13 = .ok (.lreturn, 1) := by decide +kernel
set_option maxRecDepth 20000 in
theorem ggX3_mixPlaces_X3_hasShepherd : GoodIn wsX3_mixPlaces wsX3_hasShepherd := goodIn_ca (goodIn_r _ [6, 1, 7, 8, 9, 5, 10, 11, 12, 13, 14, 15, 16, 17, 18, 85, 86, 87, 88, 89, 90, 91, 92, 93, 94, 95] (by decide +kernel) (by decide +kernel)) (goodIn_sub (fun _ h => List.mem_cons_of_mem _ (List.mem_append_right _ h)) (by decide +kernel))
set_option maxRecDepth 20000 in
theorem gX3_mixPlaces_X3_hasShepherd : GoodIn wsX3_mixPlaces (wsV RX3 230 RX3 yX3_hasShepherd wsX3_hasShepherd) := goodIn_app (goodIn_of _ (by decide +kernel)) ggX3_mixPlaces_X3_hasShepherd
set_option maxRecDepth 20000 in
theorem ggX3_mixPlaces_X3_mixFlag : GoodIn wsX3_mixPlaces wsX3_mixFlag := goodIn_r _ [21, 22, 23, 5, 24, 25] (by decide +kernel) (by decide +kernel)
set_option maxRecDepth 20000 in
theorem gX3_mixPlaces_X3_mixFlag : GoodIn wsX3_mixPlaces (va_wsS RX3 233 yX3_mixFlag wsX3_mixFlag) := goodIn_app (goodIn_of _ (by decide +kernel)) ggX3_mixPlaces_X3_mixFlag
set_option maxRecDepth 20000 in
theorem ggX3_mixPlaces_X3_exitsOf : GoodIn wsX3_mixPlaces wsX3_exitsOf := goodIn_ca (goodIn_r _ [29, 1, 7, 8, 9, 5, 10, 11, 12, 13, 14, 15, 16, 17, 18, 85, 86, 87, 88, 89, 90, 91, 92, 93, 94, 95] (by decide +kernel) (by decide +kernel)) (goodIn_sub (fun _ h => List.mem_cons_of_mem _ (List.mem_append_right _ h)) (by decide +kernel))
set_option maxRecDepth 20000 in
theorem gX3_mixPlaces_X3_exitsOf : GoodIn wsX3_mixPlaces (wsV RX3 237 RX3 yX3_exitsOf wsX3_exitsOf) := goodIn_app (goodIn_of _ (by decide +kernel)) ggX3_mixPlaces_X3_exitsOf
set_option maxRecDepth 20000 in
theorem ggX3_mixPlaces_X3_mix : GoodIn wsX3_mixPlaces wsX3_mix := goodIn_r _ [24, 25] (by decide +kernel) (by decide +kernel)
set_option maxRecDepth 20000 in
theorem gX3_mixPlaces_X3_mix : GoodIn wsX3_mixPlaces (va_wsS RX3 170 yX3_mix wsX3_mix) := goodIn_app (goodIn_of _ (by decide +kernel)) ggX3_mixPlaces_X3_mix
set_option maxRecDepth 20000 in
theorem ggX3_mixPlaces_X3_leadsTo : GoodIn wsX3_mixPlaces wsX3_leadsTo := goodIn_ca (goodIn_r _ [33, 1, 34, 35, 36, 5, 37, 11, 12, 38, 39, 40, 16, 41, 42, 43, 14, 15, 17, 18, 44, 45, 46, 47, 48, 49, 50, 85, 86, 87, 88, 89, 90, 91, 92, 93, 94, 95] (by decide +kernel) (by decide +kernel)) (goodIn_sub (fun _ h => List.mem_cons_of_mem _ (List.mem_append_right _ h)) (by decide +kernel))
set_option maxRecDepth 20000 in
theorem gX3_mixPlaces_X3_leadsTo : GoodIn wsX3_mixPlaces (wsV RX3 240 RX3 yX3_leadsTo wsX3_leadsTo) := goodIn_app (goodIn_of _ (by decide +kernel)) ggX3_mixPlaces_X3_leadsTo
set_option maxRecDepth 20000 in
theorem ggX3_mixPlaces_X3_milesOf : GoodIn wsX3_mixPlaces wsX3_milesOf := goodIn_ca (goodIn_r _ [54, 1, 34, 35, 36, 5, 37, 11, 12, 38, 39, 40, 16, 41, 42, 43, 14, 15, 17, 18, 55, 56, 57, 58, 59, 49, 50, 85, 86, 87, 88, 89, 90, 91, 92, 93, 94, 95] (by decide +kernel) (by decide +kernel)) (goodIn_sub (fun _ h => List.mem_cons_of_mem _ (List.mem_append_right _ h)) (by decide +kernel))
set_option maxRecDepth 20000 in
theorem gX3_mixPlaces_X3_milesOf : GoodIn wsX3_mixPlaces (wsV RX3 243 RX3 yX3_milesOf wsX3_milesOf) := goodIn_app (goodIn_of _ (by decide +kernel)) ggX3_mixPlaces_X3_milesOf
set_option maxRecDepth 20000 in
theorem ggX3_mixPlaces_X3_isOpen : GoodIn wsX3_mixPlaces wsX3_isOpen := goodIn_ca (goodIn_r _ [63, 1, 34, 35, 36, 5, 37, 11, 12, 38, 39, 40, 16, 41, 42, 43, 14, 15, 17, 18, 64, 65, 66, 67, 68, 49, 50, 85, 86, 87, 88, 89, 90, 91, 92, 93, 94, 95] (by decide +kernel) (by decide +kernel)) (goodIn_sub (fun _ h => List.mem_cons_of_mem _ (List.mem_append_right _ h)) (by decide +kernel))
set_option maxRecDepth 20000 in
theorem gX3_mixPlaces_X3_isOpen : GoodIn wsX3_mixPlaces (wsV RX3 246 RX3 yX3_isOpen wsX3_isOpen) := goodIn_app (goodIn_of _ (by decide +kernel)) ggX3_mixPlaces_X3_isOpen
set_option maxRecDepth 20000 in
theorem ggX3_mixPlaces_X3_isTried : GoodIn wsX3_mixPlaces wsX3_isTried := goodIn_ca (goodIn_r _ [72, 73, 34, 35, 36, 5, 37, 11, 12, 1, 38, 39, 40, 16, 41, 42, 43, 14, 15, 17, 18, 74, 75, 76, 77, 78, 79, 80, 81, 82, 83, 84, 49, 50, 85, 86, 87, 88, 89, 90, 91, 92, 93, 94, 95, 96, 97, 98, 99, 100, 101, 102, 103, 104, 105, 106, 107, 108, 109, 110] (by decide +kernel) (by decide +kernel)) (goodIn_sub (fun _ h => List.mem_cons_of_mem _ (List.mem_append_right _ h)) (by decide +kernel))
set_option maxRecDepth 20000 in
theorem gX3_mixPlaces_X3_isTried : GoodIn wsX3_mixPlaces (wsV RX3 250 RX3 yX3_isTried wsX3_isTried) := goodIn_app (goodIn_of _ (by decide +kernel)) ggX3_mixPlaces_X3_isTried
theorem dX3_mixPlaces_0 : decode cX3_mixPlaces 0 = .ok (.lload_n 1, 1) := by decide +kernel
theorem dX3_mixPlaces_1 : decode cX3_mixPlaces 1 = .ok (.lstore_n 3, 1) := by decide +kernel
theorem dX3_mixPlaces_2 : decode cX3_mixPlaces 2 = .ok (.iconst 0, 1) := by decide +kernel
theorem dX3_mixPlaces_3 : decode cX3_mixPlaces 3 = .ok (.istore 5, 2) := by decide +kernel
theorem dX3_mixPlaces_5 : decode cX3_mixPlaces 5 = .ok (.iload 5, 2) := by decide +kernel
theorem dX3_mixPlaces_7 : decode cX3_mixPlaces 7 = .ok (.aload_n 0, 1) := by decide +kernel
theorem dX3_mixPlaces_8 : decode cX3_mixPlaces 8 = .ok (.getfield 12, 3) := by decide +kernel
theorem dX3_mixPlaces_11 : decode cX3_mixPlaces 11 = .ok (.getfield 28, 3) := by decide +kernel
theorem dX3_mixPlaces_14 : decode cX3_mixPlaces 14 = .ok (.if_icmp .ge 106, 3) := by decide +kernel
theorem dX3_mixPlaces_17 : decode cX3_mixPlaces 17 = .ok (.lload_n 3, 1) := by decide +kernel
theorem dX3_mixPlaces_18 : decode cX3_mixPlaces 18 = .ok (.aload_n 0, 1) := by decide +kernel
theorem dX3_mixPlaces_19 : decode cX3_mixPlaces 19 = .ok (.iload 5, 2) := by decide +kernel
theorem dX3_mixPlaces_21 : decode cX3_mixPlaces 21 = .ok (.invokevirtual 230, 3) := by decide +kernel
theorem dX3_mixPlaces_24 : decode cX3_mixPlaces 24 = .ok (.invokestatic 233, 3) := by decide +kernel
theorem dX3_mixPlaces_27 : decode cX3_mixPlaces 27 = .ok (.lstore_n 3, 1) := by decide +kernel
theorem dX3_mixPlaces_28 : decode cX3_mixPlaces 28 = .ok (.lload_n 3, 1) := by decide +kernel
theorem dX3_mixPlaces_29 : decode cX3_mixPlaces 29 = .ok (.aload_n 0, 1) := by decide +kernel
theorem dX3_mixPlaces_30 : decode cX3_mixPlaces 30 = .ok (.iload 5, 2) := by decide +kernel
theorem dX3_mixPlaces_32 : decode cX3_mixPlaces 32 = .ok (.invokevirtual 237, 3) := by decide +kernel
theorem dX3_mixPlaces_35 : decode cX3_mixPlaces 35 = .ok (.i2l, 1) := by decide +kernel
theorem dX3_mixPlaces_36 : decode cX3_mixPlaces 36 = .ok (.invokestatic 170, 3) := by decide +kernel
theorem dX3_mixPlaces_39 : decode cX3_mixPlaces 39 = .ok (.lstore_n 3, 1) := by decide +kernel
theorem dX3_mixPlaces_40 : decode cX3_mixPlaces 40 = .ok (.iconst 0, 1) := by decide +kernel
theorem dX3_mixPlaces_41 : decode cX3_mixPlaces 41 = .ok (.istore 6, 2) := by decide +kernel
theorem dX3_mixPlaces_43 : decode cX3_mixPlaces 43 = .ok (.iload 6, 2) := by decide +kernel
theorem dX3_mixPlaces_45 : decode cX3_mixPlaces 45 = .ok (.aload_n 0, 1) := by decide +kernel
theorem dX3_mixPlaces_46 : decode cX3_mixPlaces 46 = .ok (.iload 5, 2) := by decide +kernel
theorem dX3_mixPlaces_48 : decode cX3_mixPlaces 48 = .ok (.invokevirtual 237, 3) := by decide +kernel
theorem dX3_mixPlaces_51 : decode cX3_mixPlaces 51 = .ok (.if_icmp .ge 63, 3) := by decide +kernel
theorem dX3_mixPlaces_54 : decode cX3_mixPlaces 54 = .ok (.lload_n 3, 1) := by decide +kernel
theorem dX3_mixPlaces_55 : decode cX3_mixPlaces 55 = .ok (.aload_n 0, 1) := by decide +kernel
theorem dX3_mixPlaces_56 : decode cX3_mixPlaces 56 = .ok (.iload 5, 2) := by decide +kernel
theorem dX3_mixPlaces_58 : decode cX3_mixPlaces 58 = .ok (.iload 6, 2) := by decide +kernel
theorem dX3_mixPlaces_60 : decode cX3_mixPlaces 60 = .ok (.invokevirtual 240, 3) := by decide +kernel
theorem dX3_mixPlaces_63 : decode cX3_mixPlaces 63 = .ok (.i2l, 1) := by decide +kernel
theorem dX3_mixPlaces_64 : decode cX3_mixPlaces 64 = .ok (.invokestatic 170, 3) := by decide +kernel
theorem dX3_mixPlaces_67 : decode cX3_mixPlaces 67 = .ok (.lstore_n 3, 1) := by decide +kernel
theorem dX3_mixPlaces_68 : decode cX3_mixPlaces 68 = .ok (.lload_n 3, 1) := by decide +kernel
theorem dX3_mixPlaces_69 : decode cX3_mixPlaces 69 = .ok (.aload_n 0, 1) := by decide +kernel
theorem dX3_mixPlaces_70 : decode cX3_mixPlaces 70 = .ok (.iload 5, 2) := by decide +kernel
theorem dX3_mixPlaces_72 : decode cX3_mixPlaces 72 = .ok (.iload 6, 2) := by decide +kernel
theorem dX3_mixPlaces_74 : decode cX3_mixPlaces 74 = .ok (.invokevirtual 243, 3) := by decide +kernel
theorem dX3_mixPlaces_77 : decode cX3_mixPlaces 77 = .ok (.i2l, 1) := by decide +kernel
theorem dX3_mixPlaces_78 : decode cX3_mixPlaces 78 = .ok (.invokestatic 170, 3) := by decide +kernel
theorem dX3_mixPlaces_81 : decode cX3_mixPlaces 81 = .ok (.lstore_n 3, 1) := by decide +kernel
theorem dX3_mixPlaces_82 : decode cX3_mixPlaces 82 = .ok (.lload_n 3, 1) := by decide +kernel
theorem dX3_mixPlaces_83 : decode cX3_mixPlaces 83 = .ok (.aload_n 0, 1) := by decide +kernel
theorem dX3_mixPlaces_84 : decode cX3_mixPlaces 84 = .ok (.iload 5, 2) := by decide +kernel
theorem dX3_mixPlaces_86 : decode cX3_mixPlaces 86 = .ok (.iload 6, 2) := by decide +kernel
theorem dX3_mixPlaces_88 : decode cX3_mixPlaces 88 = .ok (.invokevirtual 246, 3) := by decide +kernel
theorem dX3_mixPlaces_91 : decode cX3_mixPlaces 91 = .ok (.invokestatic 233, 3) := by decide +kernel
theorem dX3_mixPlaces_94 : decode cX3_mixPlaces 94 = .ok (.lstore_n 3, 1) := by decide +kernel
theorem dX3_mixPlaces_95 : decode cX3_mixPlaces 95 = .ok (.lload_n 3, 1) := by decide +kernel
theorem dX3_mixPlaces_96 : decode cX3_mixPlaces 96 = .ok (.aload_n 0, 1) := by decide +kernel
theorem dX3_mixPlaces_97 : decode cX3_mixPlaces 97 = .ok (.iload 5, 2) := by decide +kernel
theorem dX3_mixPlaces_99 : decode cX3_mixPlaces 99 = .ok (.iload 6, 2) := by decide +kernel
theorem dX3_mixPlaces_101 : decode cX3_mixPlaces 101 = .ok (.invokevirtual 250, 3) := by decide +kernel
theorem dX3_mixPlaces_104 : decode cX3_mixPlaces 104 = .ok (.invokestatic 233, 3) := by decide +kernel
theorem dX3_mixPlaces_107 : decode cX3_mixPlaces 107 = .ok (.lstore_n 3, 1) := by decide +kernel
theorem dX3_mixPlaces_108 : decode cX3_mixPlaces 108 = .ok (.iinc 6 1, 3) := by decide +kernel
theorem dX3_mixPlaces_111 : decode cX3_mixPlaces 111 = .ok (.goto (-68), 3) := by decide +kernel
theorem dX3_mixPlaces_114 : decode cX3_mixPlaces 114 = .ok (.iinc 5 1, 3) := by decide +kernel
theorem dX3_mixPlaces_117 : decode cX3_mixPlaces 117 = .ok (.goto (-112), 3) := by decide +kernel
theorem dX3_mixPlaces_120 : decode cX3_mixPlaces 120 = .ok (.lload_n 3, 1) := by decide +kernel
theorem dX3_mixPlaces_121 : decode cX3_mixPlaces 121 = .ok (.lreturn, 1) := by decide +kernel
set_option maxRecDepth 20000 in
theorem ggX3_mixMemory_X3_remembered : GoodIn wsX3_mixMemory wsX3_remembered := goodIn_ca (goodIn_r _ [6, 7, 8, 9, 10, 5, 11, 12, 13, 1, 14, 15, 16, 17, 18, 19, 20, 21, 22, 23, 24, 25, 26, 27, 28, 29, 42, 43, 44, 53, 54, 55, 56, 57, 58, 59, 60, 61, 62, 63, 64, 65, 66, 67, 45, 46, 47, 48, 49, 50, 51, 52, 68, 69] (by decide +kernel) (by decide +kernel)) (goodIn_sub (fun _ h => List.mem_cons_of_mem _ (List.mem_append_right _ h)) (by decide +kernel))
set_option maxRecDepth 20000 in
theorem gX3_mixMemory_X3_remembered : GoodIn wsX3_mixMemory (wsV RX3 253 RX3 yX3_remembered wsX3_remembered) := goodIn_app (goodIn_of _ (by decide +kernel)) ggX3_mixMemory_X3_remembered
set_option maxRecDepth 20000 in
theorem ggX3_mixMemory_X3_mix : GoodIn wsX3_mixMemory wsX3_mix := goodIn_r _ [32, 33] (by decide +kernel) (by decide +kernel)
set_option maxRecDepth 20000 in
theorem gX3_mixMemory_X3_mix : GoodIn wsX3_mixMemory (va_wsS RX3 170 yX3_mix wsX3_mix) := goodIn_app (goodIn_of _ (by decide +kernel)) ggX3_mixMemory_X3_mix
set_option maxRecDepth 20000 in
theorem ggX3_mixMemory_X3_strength : GoodIn wsX3_mixMemory wsX3_strength := goodIn_ca (goodIn_r _ [37, 7, 8, 9, 10, 5, 11, 12, 13, 1, 14, 15, 16, 17, 18, 19, 38, 39, 40, 23, 41, 25, 27, 28, 29, 42, 43, 44, 53, 54, 55, 56, 57, 58, 59, 60, 61, 62, 63, 64, 65, 66, 67, 45, 46, 47, 48, 49, 50, 51, 52, 68, 69] (by decide +kernel) (by decide +kernel)) (goodIn_sub (fun _ h => List.mem_cons_of_mem _ (List.mem_append_right _ h)) (by decide +kernel))
set_option maxRecDepth 20000 in
theorem gX3_mixMemory_X3_strength : GoodIn wsX3_mixMemory (wsV RX3 256 RX3 yX3_strength wsX3_strength) := goodIn_app (goodIn_of _ (by decide +kernel)) ggX3_mixMemory_X3_strength
theorem dX3_mixMemory_0 : decode cX3_mixMemory 0 = .ok (.lload_n 1, 1) := by decide +kernel
theorem dX3_mixMemory_1 : decode cX3_mixMemory 1 = .ok (.lstore_n 3, 1) := by decide +kernel
theorem dX3_mixMemory_2 : decode cX3_mixMemory 2 = .ok (.iconst 0, 1) := by decide +kernel
theorem dX3_mixMemory_3 : decode cX3_mixMemory 3 = .ok (.istore 5, 2) := by decide +kernel
theorem dX3_mixMemory_5 : decode cX3_mixMemory 5 = .ok (.iload 5, 2) := by decide +kernel
theorem dX3_mixMemory_7 : decode cX3_mixMemory 7 = .ok (.aload_n 0, 1) := by decide +kernel
theorem dX3_mixMemory_8 : decode cX3_mixMemory 8 = .ok (.getfield 12, 3) := by decide +kernel
theorem dX3_mixMemory_11 : decode cX3_mixMemory 11 = .ok (.getfield 28, 3) := by decide +kernel
theorem dX3_mixMemory_14 : decode cX3_mixMemory 14 = .ok (.if_icmp .ge 58, 3) := by decide +kernel
theorem dX3_mixMemory_17 : decode cX3_mixMemory 17 = .ok (.iconst 0, 1) := by decide +kernel
theorem dX3_mixMemory_18 : decode cX3_mixMemory 18 = .ok (.istore 6, 2) := by decide +kernel
theorem dX3_mixMemory_20 : decode cX3_mixMemory 20 = .ok (.iload 6, 2) := by decide +kernel
theorem dX3_mixMemory_22 : decode cX3_mixMemory 22 = .ok (.aload_n 0, 1) := by decide +kernel
theorem dX3_mixMemory_23 : decode cX3_mixMemory 23 = .ok (.getfield 12, 3) := by decide +kernel
theorem dX3_mixMemory_26 : decode cX3_mixMemory 26 = .ok (.getfield 28, 3) := by decide +kernel
theorem dX3_mixMemory_29 : decode cX3_mixMemory 29 = .ok (.if_icmp .ge 37, 3) := by decide +kernel
theorem dX3_mixMemory_32 : decode cX3_mixMemory 32 = .ok (.lload_n 3, 1) := by decide +kernel
theorem dX3_mixMemory_33 : decode cX3_mixMemory 33 = .ok (.aload_n 0, 1) := by decide +kernel
theorem dX3_mixMemory_34 : decode cX3_mixMemory 34 = .ok (.iload 5, 2) := by decide +kernel
theorem dX3_mixMemory_36 : decode cX3_mixMemory 36 = .ok (.iload 6, 2) := by decide +kernel
theorem dX3_mixMemory_38 : decode cX3_mixMemory 38 = .ok (.invokevirtual 253, 3) := by decide +kernel
theorem dX3_mixMemory_41 : decode cX3_mixMemory 41 = .ok (.i2l, 1) := by decide +kernel
theorem dX3_mixMemory_42 : decode cX3_mixMemory 42 = .ok (.invokestatic 170, 3) := by decide +kernel
theorem dX3_mixMemory_45 : decode cX3_mixMemory 45 = .ok (.lstore_n 3, 1) := by decide +kernel
theorem dX3_mixMemory_46 : decode cX3_mixMemory 46 = .ok (.lload_n 3, 1) := by decide +kernel
theorem dX3_mixMemory_47 : decode cX3_mixMemory 47 = .ok (.aload_n 0, 1) := by decide +kernel
theorem dX3_mixMemory_48 : decode cX3_mixMemory 48 = .ok (.iload 5, 2) := by decide +kernel
theorem dX3_mixMemory_50 : decode cX3_mixMemory 50 = .ok (.iload 6, 2) := by decide +kernel
theorem dX3_mixMemory_52 : decode cX3_mixMemory 52 = .ok (.invokevirtual 256, 3) := by decide +kernel
theorem dX3_mixMemory_55 : decode cX3_mixMemory 55 = .ok (.i2l, 1) := by decide +kernel
theorem dX3_mixMemory_56 : decode cX3_mixMemory 56 = .ok (.invokestatic 170, 3) := by decide +kernel
theorem dX3_mixMemory_59 : decode cX3_mixMemory 59 = .ok (.lstore_n 3, 1) := by decide +kernel
theorem dX3_mixMemory_60 : decode cX3_mixMemory 60 = .ok (.iinc 6 1, 3) := by decide +kernel
theorem dX3_mixMemory_63 : decode cX3_mixMemory 63 = .ok (.goto (-43), 3) := by decide +kernel
theorem dX3_mixMemory_66 : decode cX3_mixMemory 66 = .ok (.iinc 5 1, 3) := by decide +kernel
theorem dX3_mixMemory_69 : decode cX3_mixMemory 69 = .ok (.goto (-64), 3) := by decide +kernel
theorem dX3_mixMemory_72 : decode cX3_mixMemory 72 = .ok (.lload_n 3, 1) := by decide +kernel
theorem dX3_mixMemory_73 : decode cX3_mixMemory 73 = .ok (.lreturn, 1) := by decide +kernel
theorem dX3_isEnd_0 : decode cX3_isEnd 0 = .ok (.iload_n 0, 1) := by decide +kernel
theorem dX3_isEnd_1 : decode cX3_isEnd 1 = .ok (.ifCond .lt 13, 3) := by decide +kernel
theorem dX3_isEnd_4 : decode cX3_isEnd 4 = .ok (.iload_n 0, 1) := by decide +kernel
theorem dX3_isEnd_5 : decode cX3_isEnd 5 = .ok (.bipush 40, 2) := by decide +kernel
theorem dX3_isEnd_7 : decode cX3_isEnd 7 = .ok (.if_icmp .ge 7, 3) := by decide +kernel
theorem dX3_isEnd_10 : decode cX3_isEnd 10 = .ok (.iconst 1, 1) := by decide +kernel
theorem dX3_isEnd_11 : decode cX3_isEnd 11 = .ok (.goto 4, 3) := by decide +kernel
theorem dX3_isEnd_14 : decode cX3_isEnd 14 = .ok (.iconst 0, 1) := by decide +kernel
theorem dX3_isEnd_15 : decode cX3_isEnd 15 = .ok (.ireturn, 1) := by decide +kernel
theorem dX3_placeOfEnd_0 : decode cX3_placeOfEnd 0 = .ok (.iload_n 0, 1) := by decide +kernel
theorem dX3_placeOfEnd_1 : decode cX3_placeOfEnd 1 = .ok (.iconst 4, 1) := by decide +kernel
theorem dX3_placeOfEnd_2 : decode cX3_placeOfEnd 2 = .ok (.idiv, 1) := by decide +kernel
theorem dX3_placeOfEnd_3 : decode cX3_placeOfEnd 3 = .ok (.ireturn, 1) := by decide +kernel
theorem dX3_exitOfEnd_0 : decode cX3_exitOfEnd 0 = .ok (.iload_n 0, 1) := by decide +kernel
theorem dX3_exitOfEnd_1 : decode cX3_exitOfEnd 1 = .ok (.iconst 4, 1) := by decide +kernel
theorem dX3_exitOfEnd_2 : decode cX3_exitOfEnd 2 = .ok (.irem, 1) := by decide +kernel
theorem dX3_exitOfEnd_3 : decode cX3_exitOfEnd 3 = .ok (.ireturn, 1) := by decide +kernel
theorem dX4_init_0 : decode cX4_init 0 = .ok (.aload_n 0, 1) := by decide +kernel
theorem dX4_init_1 : decode cX4_init 1 = .ok (.invokespecial 1, 3) := by decide +kernel
theorem dX4_init_4 : decode cX4_init 4 = .ok (.aload_n 0, 1) := by decide +kernel
theorem dX4_init_5 : decode cX4_init 5 = .ok (.iconst 0, 1) := by decide +kernel
theorem dX4_init_6 : decode cX4_init 6 = .ok (.anewarray 7, 3) := by decide +kernel
theorem dX4_init_9 : decode cX4_init 9 = .ok (.putfield 9, 3) := by decide +kernel
theorem dX4_init_12 : decode cX4_init 12 = .ok (.aload_n 0, 1) := by decide +kernel
theorem dX4_init_13 : decode cX4_init 13 = .ok (.iconst 0, 1) := by decide +kernel
theorem dX4_init_14 : decode cX4_init 14 = .ok (.anewarray 7, 3) := by decide +kernel
theorem dX4_init_17 : decode cX4_init 17 = .ok (.putfield 15, 3) := by decide +kernel
theorem dX4_init_20 : decode cX4_init 20 = .ok (.aload_n 0, 1) := by decide +kernel
theorem dX4_init_21 : decode cX4_init 21 = .ok (.bipush 10, 2) := by decide +kernel
theorem dX4_init_23 : decode cX4_init 23 = .ok (.newarray .boolean, 2) := by decide +kernel
theorem dX4_init_25 : decode cX4_init 25 = .ok (.putfield 18, 3) := by decide +kernel
theorem dX4_init_28 : decode cX4_init 28 = .ok (.aload_n 0, 1) := by decide +kernel
theorem dX4_init_29 : decode cX4_init 29 = .ok (.bipush 10, 2) := by decide +kernel
theorem dX4_init_31 : decode cX4_init 31 = .ok (.newarray .boolean, 2) := by decide +kernel
theorem dX4_init_33 : decode cX4_init 33 = .ok (.putfield 22, 3) := by decide +kernel
theorem dX4_init_36 : decode cX4_init 36 = .ok (.aload_n 0, 1) := by decide +kernel
theorem dX4_init_37 : decode cX4_init 37 = .ok (.iconst (-1), 1) := by decide +kernel
theorem dX4_init_38 : decode cX4_init 38 = .ok (.putfield 25, 3) := by decide +kernel
theorem dX4_init_41 : decode cX4_init 41 = .ok (.aload_n 0, 1) := by decide +kernel
theorem dX4_init_42 : decode cX4_init 42 = .ok (.iconst (-1), 1) := by decide +kernel
theorem dX4_init_43 : decode cX4_init 43 = .ok (.putfield 29, 3) := by decide +kernel
theorem dX4_init_46 : decode cX4_init 46 = .ok (.aload_n 0, 1) := by decide +kernel
theorem dX4_init_47 : decode cX4_init 47 = .ok (.iconst 0, 1) := by decide +kernel
theorem dX4_init_48 : decode cX4_init 48 = .ok (.anewarray 7, 3) := by decide +kernel
theorem dX4_init_51 : decode cX4_init 51 = .ok (.putfield 32, 3) := by decide +kernel
theorem dX4_init_54 : decode cX4_init 54 = .ok (.aload_n 0, 1) := by decide +kernel
theorem dX4_init_55 : decode cX4_init 55 = .ok (.bipush 10, 2) := by decide +kernel
theorem dX4_init_57 : decode cX4_init 57 = .ok (.bipush 10, 2) := by decide +kernel
theorem dX4_init_59 : decode cX4_init 59 = .ok (.multianewarray 35 2, 4) := by decide +kernel
theorem dX4_init_63 : decode cX4_init 63 = .ok (.putfield 37, 3) := by decide +kernel
theorem dX4_init_66 : decode cX4_init 66 = .ok (.return_, 1) := by decide +kernel
theorem dX4_more_0 : decode cX4_more 0 = .ok (.aload_n 0, 1) := by decide +kernel
theorem dX4_more_1 : decode cX4_more 1 = .ok (.arraylength, 1) := by decide +kernel
theorem dX4_more_2 : decode cX4_more 2 = .ok (.iconst 1, 1) := by decide +kernel
theorem dX4_more_3 : decode cX4_more 3 = .ok (.iadd, 1) := by decide +kernel
theorem dX4_more_4 : decode cX4_more 4 = .ok (.anewarray 7, 3) := by decide +kernel
theorem dX4_more_7 : decode cX4_more 7 = .ok (.astore_n 2, 1) := by decide +kernel
theorem dX4_more_8 : decode cX4_more 8 = .ok (.iconst 0, 1) := by decide +kernel
theorem dX4_more_9 : decode cX4_more 9 = .ok (.istore_n 3, 1) := by decide +kernel
theorem dX4_more_10 : decode cX4_more 10 = .ok (.iload_n 3, 1) := by decide +kernel
theorem dX4_more_11 : decode cX4_more 11 = .ok (.aload_n 0, 1) := by decide +kernel
theorem dX4_more_12 : decode cX4_more 12 = .ok (.arraylength, 1) := by decide +kernel
theorem dX4_more_13 : decode cX4_more 13 = .ok (.if_icmp .ge 15, 3) := by decide +kernel
theorem dX4_more_16 : decode cX4_more 16 = .ok (.aload_n 2, 1) := by decide +kernel
theorem dX4_more_17 : decode cX4_more 17 = .ok (.iload_n 3, 1) := by decide +kernel
theorem dX4_more_18 : decode cX4_more 18 = .ok (.aload_n 0, 1) := by decide +kernel
theorem dX4_more_19 : decode cX4_more 19 = .ok (.iload_n 3, 1) := by decide +kernel
theorem dX4_more_20 : decode cX4_more 20 = .ok (.aaload, 1) := by decide +kernel
theorem dX4_more_21 : decode cX4_more 21 = .ok (.aastore, 1) := by decide +kernel
theorem dX4_more_22 : decode cX4_more 22 = .ok (.iinc 3 1, 3) := by decide +kernel
theorem dX4_more_25 : decode cX4_more 25 = .ok (.goto (-15), 3) := by decide +kernel
theorem dX4_more_28 : decode cX4_more 28 = .ok (.aload_n 2, 1) := by decide +kernel
theorem dX4_more_29 : decode cX4_more 29 = .ok (.aload_n 0, 1) := by decide +kernel
theorem dX4_more_30 : decode cX4_more 30 = .ok (.arraylength, 1) := by decide +kernel
theorem dX4_more_31 : decode cX4_more 31 = .ok (.aload_n 1, 1) := by decide +kernel
theorem dX4_more_32 : decode cX4_more 32 = .ok (.aastore, 1) := by decide +kernel
theorem dX4_more_33 : decode cX4_more 33 = .ok (.aload_n 2, 1) := by decide +kernel
theorem dX4_more_34 : decode cX4_more 34 = .ok (.areturn, 1) := by decide +kernel
theorem dX4_more__0 : decode cX4_more_ 0 = .ok (.aload_n 0, 1) := by decide +kernel
theorem dX4_more__1 : decode cX4_more_ 1 = .ok (.arraylength, 1) := by decide +kernel
theorem dX4_more__2 : decode cX4_more_ 2 = .ok (.iconst 1, 1) := by decide +kernel
theorem dX4_more__3 : decode cX4_more_ 3 = .ok (.iadd, 1) := by decide +kernel
theorem dX4_more__4 : decode cX4_more_ 4 = .ok (.newarray .int, 2) := by decide +kernel
theorem dX4_more__6 : decode cX4_more_ 6 = .ok (.astore_n 2, 1) := by decide +kernel
theorem dX4_more__7 : decode cX4_more_ 7 = .ok (.iconst 0, 1) := by decide +kernel
theorem dX4_more__8 : decode cX4_more_ 8 = .ok (.istore_n 3, 1) := by decide +kernel
theorem dX4_more__9 : decode cX4_more_ 9 = .ok (.iload_n 3, 1) := by decide +kernel
theorem dX4_more__10 : decode cX4_more_ 10 = .ok (.aload_n 0, 1) := by decide +kernel
theorem dX4_more__11 : decode cX4_more_ 11 = .ok (.arraylength, 1) := by decide +kernel
theorem dX4_more__12 : decode cX4_more_ 12 = .ok (.if_icmp .ge 15, 3) := by decide +kernel
theorem dX4_more__15 : decode cX4_more_ 15 = .ok (.aload_n 2, 1) := by decide +kernel
theorem dX4_more__16 : decode cX4_more_ 16 = .ok (.iload_n 3, 1) := by decide +kernel
theorem dX4_more__17 : decode cX4_more_ 17 = .ok (.aload_n 0, 1) := by decide +kernel
theorem dX4_more__18 : decode cX4_more_ 18 = .ok (.iload_n 3, 1) := by decide +kernel
theorem dX4_more__19 : decode cX4_more_ 19 = .ok (.iaload, 1) := by decide +kernel
theorem dX4_more__20 : decode cX4_more_ 20 = .ok (.iastore, 1) := by decide +kernel
theorem dX4_more__21 : decode cX4_more_ 21 = .ok (.iinc 3 1, 3) := by decide +kernel
theorem dX4_more__24 : decode cX4_more_ 24 = .ok (.goto (-15), 3) := by decide +kernel
theorem dX4_more__27 : decode cX4_more_ 27 = .ok (.aload_n 2, 1) := by decide +kernel
theorem dX4_more__28 : decode cX4_more_ 28 = .ok (.aload_n 0, 1) := by decide +kernel
theorem dX4_more__29 : decode cX4_more_ 29 = .ok (.arraylength, 1) := by decide +kernel
theorem dX4_more__30 : decode cX4_more_ 30 = .ok (.iload_n 1, 1) := by decide +kernel
theorem dX4_more__31 : decode cX4_more_ 31 = .ok (.iastore, 1) := by decide +kernel
theorem dX4_more__32 : decode cX4_more_ 32 = .ok (.aload_n 2, 1) := by decide +kernel
theorem dX4_more__33 : decode cX4_more_ 33 = .ok (.areturn, 1) := by decide +kernel
set_option maxRecDepth 20000 in
theorem ggX4_place_X4_more : GoodIn wsX4_place wsX4_more := goodIn_r _ [7, 8] (by decide +kernel) (by decide +kernel)
set_option maxRecDepth 20000 in
theorem gX4_place_X4_more : GoodIn wsX4_place (va_wsS RX4 69 yX4_more wsX4_more) := goodIn_app (goodIn_of _ (by decide +kernel)) ggX4_place_X4_more
theorem dX4_place_0 : decode cX4_place 0 = .ok (.aload_n 0, 1) := by decide +kernel
theorem dX4_place_1 : decode cX4_place 1 = .ok (.aload_n 0, 1) := by decide +kernel
theorem dX4_place_2 : decode cX4_place 2 = .ok (.getfield 15, 3) := by decide +kernel
theorem dX4_place_5 : decode cX4_place 5 = .ok (.iconst 0, 1) := by decide +kernel
theorem dX4_place_6 : decode cX4_place 6 = .ok (.newarray .int, 2) := by decide +kernel
theorem dX4_place_8 : decode cX4_place 8 = .ok (.invokestatic 69, 3) := by decide +kernel
theorem dX4_place_11 : decode cX4_place 11 = .ok (.putfield 15, 3) := by decide +kernel
theorem dX4_place_14 : decode cX4_place 14 = .ok (.aload_n 0, 1) := by decide +kernel
theorem dX4_place_15 : decode cX4_place 15 = .ok (.getfield 25, 3) := by decide +kernel
theorem dX4_place_18 : decode cX4_place 18 = .ok (.ifCond .ge 8, 3) := by decide +kernel
theorem dX4_place_21 : decode cX4_place 21 = .ok (.aload_n 0, 1) := by decide +kernel
theorem dX4_place_22 : decode cX4_place 22 = .ok (.iconst 0, 1) := by decide +kernel
theorem dX4_place_23 : decode cX4_place 23 = .ok (.putfield 25, 3) := by decide +kernel
theorem dX4_place_26 : decode cX4_place 26 = .ok (.return_, 1) := by decide +kernel
set_option maxRecDepth 20000 in
theorem ggX4_road_X4_more : GoodIn wsX4_road wsX4_more := goodIn_r _ [7, 8] (by decide +kernel) (by decide +kernel)
set_option maxRecDepth 20000 in
theorem gX4_road_X4_more : GoodIn wsX4_road (va_wsS RX4 69 yX4_more wsX4_more) := goodIn_app (goodIn_of _ (by decide +kernel)) ggX4_road_X4_more
set_option maxRecDepth 20000 in
theorem ggX4_road_X4_more_ : GoodIn wsX4_road wsX4_more_ := goodIn_r _ [11, 2] (by decide +kernel) (by decide +kernel)
set_option maxRecDepth 20000 in
theorem gX4_road_X4_more_ : GoodIn wsX4_road (va_wsS RX4 73 yX4_more_ wsX4_more_) := goodIn_app (goodIn_of _ (by decide +kernel)) ggX4_road_X4_more_
theorem dX4_road_0 : decode cX4_road 0 = .ok (.aload_n 0, 1) := by decide +kernel
theorem dX4_road_1 : decode cX4_road 1 = .ok (.aload_n 0, 1) := by decide +kernel
theorem dX4_road_2 : decode cX4_road 2 = .ok (.getfield 9, 3) := by decide +kernel
theorem dX4_road_5 : decode cX4_road 5 = .ok (.iconst 5, 1) := by decide +kernel
theorem dX4_road_6 : decode cX4_road 6 = .ok (.newarray .int, 2) := by decide +kernel
theorem dX4_road_8 : decode cX4_road 8 = .ok (.dup, 1) := by decide +kernel
theorem dX4_road_9 : decode cX4_road 9 = .ok (.iconst 0, 1) := by decide +kernel
theorem dX4_road_10 : decode cX4_road 10 = .ok (.iload_n 1, 1) := by decide +kernel
theorem dX4_road_11 : decode cX4_road 11 = .ok (.iastore, 1) := by decide +kernel
theorem dX4_road_12 : decode cX4_road 12 = .ok (.dup, 1) := by decide +kernel
theorem dX4_road_13 : decode cX4_road 13 = .ok (.iconst 1, 1) := by decide +kernel
theorem dX4_road_14 : decode cX4_road 14 = .ok (.iload_n 2, 1) := by decide +kernel
theorem dX4_road_15 : decode cX4_road 15 = .ok (.iastore, 1) := by decide +kernel
theorem dX4_road_16 : decode cX4_road 16 = .ok (.dup, 1) := by decide +kernel
theorem dX4_road_17 : decode cX4_road 17 = .ok (.iconst 2, 1) := by decide +kernel
theorem dX4_road_18 : decode cX4_road 18 = .ok (.iload_n 3, 1) := by decide +kernel
theorem dX4_road_19 : decode cX4_road 19 = .ok (.iastore, 1) := by decide +kernel
theorem dX4_road_20 : decode cX4_road 20 = .ok (.dup, 1) := by decide +kernel
theorem dX4_road_21 : decode cX4_road 21 = .ok (.iconst 3, 1) := by decide +kernel
theorem dX4_road_22 : decode cX4_road 22 = .ok (.iconst 1, 1) := by decide +kernel
theorem dX4_road_23 : decode cX4_road 23 = .ok (.iastore, 1) := by decide +kernel
theorem dX4_road_24 : decode cX4_road 24 = .ok (.dup, 1) := by decide +kernel
theorem dX4_road_25 : decode cX4_road 25 = .ok (.iconst 4, 1) := by decide +kernel
theorem dX4_road_26 : decode cX4_road 26 = .ok (.iconst 0, 1) := by decide +kernel
theorem dX4_road_27 : decode cX4_road 27 = .ok (.iastore, 1) := by decide +kernel
theorem dX4_road_28 : decode cX4_road 28 = .ok (.invokestatic 69, 3) := by decide +kernel
theorem dX4_road_31 : decode cX4_road 31 = .ok (.putfield 9, 3) := by decide +kernel
theorem dX4_road_34 : decode cX4_road 34 = .ok (.aload_n 0, 1) := by decide +kernel
theorem dX4_road_35 : decode cX4_road 35 = .ok (.getfield 15, 3) := by decide +kernel
theorem dX4_road_38 : decode cX4_road 38 = .ok (.iload_n 1, 1) := by decide +kernel
theorem dX4_road_39 : decode cX4_road 39 = .ok (.aload_n 0, 1) := by decide +kernel
theorem dX4_road_40 : decode cX4_road 40 = .ok (.getfield 15, 3) := by decide +kernel
theorem dX4_road_43 : decode cX4_road 43 = .ok (.iload_n 1, 1) := by decide +kernel
theorem dX4_road_44 : decode cX4_road 44 = .ok (.aaload, 1) := by decide +kernel
theorem dX4_road_45 : decode cX4_road 45 = .ok (.aload_n 0, 1) := by decide +kernel
theorem dX4_road_46 : decode cX4_road 46 = .ok (.getfield 9, 3) := by decide +kernel
theorem dX4_road_49 : decode cX4_road 49 = .ok (.arraylength, 1) := by decide +kernel
theorem dX4_road_50 : decode cX4_road 50 = .ok (.iconst 1, 1) := by decide +kernel
theorem dX4_road_51 : decode cX4_road 51 = .ok (.isub, 1) := by decide +kernel
theorem dX4_road_52 : decode cX4_road 52 = .ok (.invokestatic 73, 3) := by decide +kernel
theorem dX4_road_55 : decode cX4_road 55 = .ok (.aastore, 1) := by decide +kernel
theorem dX4_road_56 : decode cX4_road 56 = .ok (.aload_n 0, 1) := by decide +kernel
theorem dX4_road_57 : decode cX4_road 57 = .ok (.getfield 15, 3) := by decide +kernel
theorem dX4_road_60 : decode cX4_road 60 = .ok (.iload_n 2, 1) := by decide +kernel
theorem dX4_road_61 : decode cX4_road 61 = .ok (.aload_n 0, 1) := by decide +kernel
theorem dX4_road_62 : decode cX4_road 62 = .ok (.getfield 15, 3) := by decide +kernel
theorem dX4_road_65 : decode cX4_road 65 = .ok (.iload_n 2, 1) := by decide +kernel
theorem dX4_road_66 : decode cX4_road 66 = .ok (.aaload, 1) := by decide +kernel
theorem dX4_road_67 : decode cX4_road 67 = .ok (.aload_n 0, 1) := by decide +kernel
theorem dX4_road_68 : decode cX4_road 68 = .ok (.getfield 9, 3) := by decide +kernel
theorem dX4_road_71 : decode cX4_road 71 = .ok (.arraylength, 1) := by decide +kernel
theorem dX4_road_72 : decode cX4_road 72 = .ok (.iconst 1, 1) := by decide +kernel
theorem dX4_road_73 : decode cX4_road 73 = .ok (.isub, 1) := by decide +kernel
theorem dX4_road_74 : decode cX4_road 74 = .ok (.invokestatic 73, 3) := by decide +kernel
theorem dX4_road_77 : decode cX4_road 77 = .ok (.aastore, 1) := by decide +kernel
theorem dX4_road_78 : decode cX4_road 78 = .ok (.aload_n 0, 1) := by decide +kernel
theorem dX4_road_79 : decode cX4_road 79 = .ok (.getfield 15, 3) := by decide +kernel
theorem dX4_road_82 : decode cX4_road 82 = .ok (.iload_n 1, 1) := by decide +kernel
theorem dX4_road_83 : decode cX4_road 83 = .ok (.aaload, 1) := by decide +kernel
theorem dX4_road_84 : decode cX4_road 84 = .ok (.arraylength, 1) := by decide +kernel
theorem dX4_road_85 : decode cX4_road 85 = .ok (.iconst 1, 1) := by decide +kernel
theorem dX4_road_86 : decode cX4_road 86 = .ok (.isub, 1) := by decide +kernel
theorem dX4_road_87 : decode cX4_road 87 = .ok (.ireturn, 1) := by decide +kernel
theorem dX4_to_0 : decode cX4_to 0 = .ok (.aload_n 0, 1) := by decide +kernel
theorem dX4_to_1 : decode cX4_to 1 = .ok (.getfield 9, 3) := by decide +kernel
theorem dX4_to_4 : decode cX4_to 4 = .ok (.aload_n 0, 1) := by decide +kernel
theorem dX4_to_5 : decode cX4_to 5 = .ok (.getfield 15, 3) := by decide +kernel
theorem dX4_to_8 : decode cX4_to 8 = .ok (.iload_n 1, 1) := by decide +kernel
theorem dX4_to_9 : decode cX4_to 9 = .ok (.aaload, 1) := by decide +kernel
theorem dX4_to_10 : decode cX4_to 10 = .ok (.iload_n 2, 1) := by decide +kernel
theorem dX4_to_11 : decode cX4_to 11 = .ok (.iaload, 1) := by decide +kernel
theorem dX4_to_12 : decode cX4_to 12 = .ok (.aaload, 1) := by decide +kernel
theorem dX4_to_13 : decode cX4_to 13 = .ok (.astore_n 3, 1) := by decide +kernel
theorem dX4_to_14 : decode cX4_to 14 = .ok (.aload_n 3, 1) := by decide +kernel
theorem dX4_to_15 : decode cX4_to 15 = .ok (.iconst 0, 1) := by decide +kernel
theorem dX4_to_16 : decode cX4_to 16 = .ok (.iaload, 1) := by decide +kernel
theorem dX4_to_17 : decode cX4_to 17 = .ok (.iload_n 1, 1) := by decide +kernel
theorem dX4_to_18 : decode cX4_to 18 = .ok (.if_icmp .ne 9, 3) := by decide +kernel
theorem dX4_to_21 : decode cX4_to 21 = .ok (.aload_n 3, 1) := by decide +kernel
theorem dX4_to_22 : decode cX4_to 22 = .ok (.iconst 1, 1) := by decide +kernel
theorem dX4_to_23 : decode cX4_to 23 = .ok (.iaload, 1) := by decide +kernel
theorem dX4_to_24 : decode cX4_to 24 = .ok (.goto 6, 3) := by decide +kernel
theorem dX4_to_27 : decode cX4_to 27 = .ok (.aload_n 3, 1) := by decide +kernel
theorem dX4_to_28 : decode cX4_to 28 = .ok (.iconst 0, 1) := by decide +kernel
theorem dX4_to_29 : decode cX4_to 29 = .ok (.iaload, 1) := by decide +kernel
theorem dX4_to_30 : decode cX4_to 30 = .ok (.ireturn, 1) := by decide +kernel
theorem dX4_far_0 : decode cX4_far 0 = .ok (.aload_n 0, 1) := by decide +kernel
theorem dX4_far_1 : decode cX4_far 1 = .ok (.getfield 15, 3) := by decide +kernel
theorem dX4_far_4 : decode cX4_far 4 = .ok (.arraylength, 1) := by decide +kernel
theorem dX4_far_5 : decode cX4_far 5 = .ok (.newarray .int, 2) := by decide +kernel
theorem dX4_far_7 : decode cX4_far 7 = .ok (.astore_n 3, 1) := by decide +kernel
theorem dX4_far_8 : decode cX4_far 8 = .ok (.iconst 0, 1) := by decide +kernel
theorem dX4_far_9 : decode cX4_far 9 = .ok (.istore 4, 2) := by decide +kernel
theorem dX4_far_11 : decode cX4_far 11 = .ok (.iload 4, 2) := by decide +kernel
theorem dX4_far_13 : decode cX4_far 13 = .ok (.aload_n 3, 1) := by decide +kernel
theorem dX4_far_14 : decode cX4_far 14 = .ok (.arraylength, 1) := by decide +kernel
theorem dX4_far_15 : decode cX4_far 15 = .ok (.if_icmp .ge 26, 3) := by decide +kernel
theorem dX4_far_18 : decode cX4_far 18 = .ok (.aload_n 3, 1) := by decide +kernel
theorem dX4_far_19 : decode cX4_far 19 = .ok (.iload 4, 2) := by decide +kernel
theorem dX4_far_21 : decode cX4_far 21 = .ok (.iload 4, 2) := by decide +kernel
theorem dX4_far_23 : decode cX4_far 23 = .ok (.iload_n 1, 1) := by decide +kernel
theorem dX4_far_24 : decode cX4_far 24 = .ok (.if_icmp .ne 7, 3) := by decide +kernel
theorem dX4_far_27 : decode cX4_far 27 = .ok (.iconst 0, 1) := by decide +kernel
theorem dX4_far_28 : decode cX4_far 28 = .ok (.goto 6, 3) := by decide +kernel
theorem dX4_far_31 : decode cX4_far 31 = .ok (.sipush 9999, 3) := by decide +kernel
theorem dX4_far_34 : decode cX4_far 34 = .ok (.iastore, 1) := by decide +kernel
theorem dX4_far_35 : decode cX4_far 35 = .ok (.iinc 4 1, 3) := by decide +kernel
theorem dX4_far_38 : decode cX4_far 38 = .ok (.goto (-27), 3) := by decide +kernel
theorem dX4_far_41 : decode cX4_far 41 = .ok (.iconst 0, 1) := by decide +kernel
theorem dX4_far_42 : decode cX4_far 42 = .ok (.istore 4, 2) := by decide +kernel
theorem dX4_far_44 : decode cX4_far 44 = .ok (.iload 4, 2) := by decide +kernel
theorem dX4_far_46 : decode cX4_far 46 = .ok (.aload_n 3, 1) := by decide +kernel
theorem dX4_far_47 : decode cX4_far 47 = .ok (.arraylength, 1) := by decide +kernel
theorem dX4_far_48 : decode cX4_far 48 = .ok (.if_icmp .ge 105, 3) := by decide +kernel
theorem dX4_far_51 : decode cX4_far 51 = .ok (.aload_n 0, 1) := by decide +kernel
theorem dX4_far_52 : decode cX4_far 52 = .ok (.getfield 9, 3) := by decide +kernel
theorem dX4_far_55 : decode cX4_far 55 = .ok (.astore 5, 2) := by decide +kernel
theorem dX4_far_57 : decode cX4_far 57 = .ok (.aload 5, 2) := by decide +kernel
theorem dX4_far_59 : decode cX4_far 59 = .ok (.arraylength, 1) := by decide +kernel
theorem dX4_far_60 : decode cX4_far 60 = .ok (.istore 6, 2) := by decide +kernel
theorem dX4_far_62 : decode cX4_far 62 = .ok (.iconst 0, 1) := by decide +kernel
theorem dX4_far_63 : decode cX4_far 63 = .ok (.istore 7, 2) := by decide +kernel
theorem dX4_far_65 : decode cX4_far 65 = .ok (.iload 7, 2) := by decide +kernel
theorem dX4_far_67 : decode cX4_far 67 = .ok (.iload 6, 2) := by decide +kernel
theorem dX4_far_69 : decode cX4_far 69 = .ok (.if_icmp .ge 78, 3) := by decide +kernel
theorem dX4_far_72 : decode cX4_far 72 = .ok (.aload 5, 2) := by decide +kernel
theorem dX4_far_74 : decode cX4_far 74 = .ok (.iload 7, 2) := by decide +kernel
theorem dX4_far_76 : decode cX4_far 76 = .ok (.aaload, 1) := by decide +kernel
theorem dX4_far_77 : decode cX4_far 77 = .ok (.astore 8, 2) := by decide +kernel
theorem dX4_far_79 : decode cX4_far 79 = .ok (.aload 8, 2) := by decide +kernel
theorem dX4_far_81 : decode cX4_far 81 = .ok (.iconst 3, 1) := by decide +kernel
theorem dX4_far_82 : decode cX4_far 82 = .ok (.iaload, 1) := by decide +kernel
theorem dX4_far_83 : decode cX4_far 83 = .ok (.ifCond .ne 6, 3) := by decide +kernel
theorem dX4_far_86 : decode cX4_far 86 = .ok (.goto 55, 3) := by decide +kernel
theorem dX4_far_89 : decode cX4_far 89 = .ok (.aload_n 3, 1) := by decide +kernel
theorem dX4_far_90 : decode cX4_far 90 = .ok (.aload 8, 2) := by decide +kernel
theorem dX4_far_92 : decode cX4_far 92 = .ok (.iconst 0, 1) := by decide +kernel
theorem dX4_far_93 : decode cX4_far 93 = .ok (.iaload, 1) := by decide +kernel
theorem dX4_far_94 : decode cX4_far 94 = .ok (.aload_n 3, 1) := by decide +kernel
theorem dX4_far_95 : decode cX4_far 95 = .ok (.aload 8, 2) := by decide +kernel
theorem dX4_far_97 : decode cX4_far 97 = .ok (.iconst 0, 1) := by decide +kernel
theorem dX4_far_98 : decode cX4_far 98 = .ok (.iaload, 1) := by decide +kernel
theorem dX4_far_99 : decode cX4_far 99 = .ok (.iaload, 1) := by decide +kernel
theorem dX4_far_100 : decode cX4_far 100 = .ok (.aload_n 3, 1) := by decide +kernel
theorem dX4_far_101 : decode cX4_far 101 = .ok (.aload 8, 2) := by decide +kernel
theorem dX4_far_103 : decode cX4_far 103 = .ok (.iconst 1, 1) := by decide +kernel
theorem dX4_far_104 : decode cX4_far 104 = .ok (.iaload, 1) := by decide +kernel
theorem dX4_far_105 : decode cX4_far 105 = .ok (.iaload, 1) := by decide +kernel
theorem dX4_far_106 : decode cX4_far 106 = .ok (.aload 8, 2) := by decide +kernel
theorem dX4_far_108 : decode cX4_far 108 = .ok (.iconst 2, 1) := by decide +kernel
theorem dX4_far_109 : decode cX4_far 109 = .ok (.iaload, 1) := by decide +kernel
theorem dX4_far_110 : decode cX4_far 110 = .ok (.iadd, 1) := by decide +kernel
theorem dX4_far_111 : decode cX4_far 111 = .ok (.invokestatic 76, 3) := by decide +kernel
theorem dX4_far_114 : decode cX4_far 114 = .ok (.iastore, 1) := by decide +kernel
theorem dX4_far_115 : decode cX4_far 115 = .ok (.aload_n 3, 1) := by decide +kernel
theorem dX4_far_116 : decode cX4_far 116 = .ok (.aload 8, 2) := by decide +kernel
theorem dX4_far_118 : decode cX4_far 118 = .ok (.iconst 1, 1) := by decide +kernel
theorem dX4_far_119 : decode cX4_far 119 = .ok (.iaload, 1) := by decide +kernel
theorem dX4_far_120 : decode cX4_far 120 = .ok (.aload_n 3, 1) := by decide +kernel
theorem dX4_far_121 : decode cX4_far 121 = .ok (.aload 8, 2) := by decide +kernel
theorem dX4_far_123 : decode cX4_far 123 = .ok (.iconst 1, 1) := by decide +kernel
theorem dX4_far_124 : decode cX4_far 124 = .ok (.iaload, 1) := by decide +kernel
theorem dX4_far_125 : decode cX4_far 125 = .ok (.iaload, 1) := by decide +kernel
theorem dX4_far_126 : decode cX4_far 126 = .ok (.aload_n 3, 1) := by decide +kernel
theorem dX4_far_127 : decode cX4_far 127 = .ok (.aload 8, 2) := by decide +kernel
theorem dX4_far_129 : decode cX4_far 129 = .ok (.iconst 0, 1) := by decide +kernel
theorem dX4_far_130 : decode cX4_far 130 = .ok (.iaload, 1) := by decide +kernel
theorem dX4_far_131 : decode cX4_far 131 = .ok (.iaload, 1) := by decide +kernel
theorem dX4_far_132 : decode cX4_far 132 = .ok (.aload 8, 2) := by decide +kernel
theorem dX4_far_134 : decode cX4_far 134 = .ok (.iconst 2, 1) := by decide +kernel
theorem dX4_far_135 : decode cX4_far 135 = .ok (.iaload, 1) := by decide +kernel
theorem dX4_far_136 : decode cX4_far 136 = .ok (.iadd, 1) := by decide +kernel
theorem dX4_far_137 : decode cX4_far 137 = .ok (.invokestatic 76, 3) := by decide +kernel
theorem dX4_far_140 : decode cX4_far 140 = .ok (.iastore, 1) := by decide +kernel
theorem dX4_far_141 : decode cX4_far 141 = .ok (.iinc 7 1, 3) := by decide +kernel
theorem dX4_far_144 : decode cX4_far 144 = .ok (.goto (-79), 3) := by decide +kernel
theorem dX4_far_147 : decode cX4_far 147 = .ok (.iinc 4 1, 3) := by decide +kernel
theorem dX4_far_150 : decode cX4_far 150 = .ok (.goto (-106), 3) := by decide +kernel
theorem dX4_far_153 : decode cX4_far 153 = .ok (.sipush 9999, 3) := by decide +kernel
theorem dX4_far_156 : decode cX4_far 156 = .ok (.aload_n 3, 1) := by decide +kernel
theorem dX4_far_157 : decode cX4_far 157 = .ok (.iload_n 2, 1) := by decide +kernel
theorem dX4_far_158 : decode cX4_far 158 = .ok (.iaload, 1) := by decide +kernel
theorem dX4_far_159 : decode cX4_far 159 = .ok (.invokestatic 76, 3) := by decide +kernel
theorem dX4_far_162 : decode cX4_far 162 = .ok (.ireturn, 1) := by decide +kernel
theorem dX4_over_0 : decode cX4_over 0 = .ok (.aload_n 0, 1) := by decide +kernel
theorem dX4_over_1 : decode cX4_over 1 = .ok (.iconst (-1), 1) := by decide +kernel
theorem dX4_over_2 : decode cX4_over 2 = .ok (.putfield 29, 3) := by decide +kernel
theorem dX4_over_5 : decode cX4_over 5 = .ok (.aload_n 0, 1) := by decide +kernel
theorem dX4_over_6 : decode cX4_over 6 = .ok (.iconst 0, 1) := by decide +kernel
theorem dX4_over_7 : decode cX4_over 7 = .ok (.anewarray 7, 3) := by decide +kernel
theorem dX4_over_10 : decode cX4_over 10 = .ok (.putfield 32, 3) := by decide +kernel
theorem dX4_over_13 : decode cX4_over 13 = .ok (.aload_n 0, 1) := by decide +kernel
theorem dX4_over_14 : decode cX4_over 14 = .ok (.bipush 10, 2) := by decide +kernel
theorem dX4_over_16 : decode cX4_over 16 = .ok (.newarray .boolean, 2) := by decide +kernel
theorem dX4_over_18 : decode cX4_over 18 = .ok (.putfield 22, 3) := by decide +kernel
theorem dX4_over_21 : decode cX4_over 21 = .ok (.aload_n 0, 1) := by decide +kernel
theorem dX4_over_22 : decode cX4_over 22 = .ok (.getfield 9, 3) := by decide +kernel
theorem dX4_over_25 : decode cX4_over 25 = .ok (.astore_n 1, 1) := by decide +kernel
theorem dX4_over_26 : decode cX4_over 26 = .ok (.aload_n 1, 1) := by decide +kernel
theorem dX4_over_27 : decode cX4_over 27 = .ok (.arraylength, 1) := by decide +kernel
theorem dX4_over_28 : decode cX4_over 28 = .ok (.istore_n 2, 1) := by decide +kernel
theorem dX4_over_29 : decode cX4_over 29 = .ok (.iconst 0, 1) := by decide +kernel
theorem dX4_over_30 : decode cX4_over 30 = .ok (.istore_n 3, 1) := by decide +kernel
theorem dX4_over_31 : decode cX4_over 31 = .ok (.iload_n 3, 1) := by decide +kernel
theorem dX4_over_32 : decode cX4_over 32 = .ok (.iload_n 2, 1) := by decide +kernel
theorem dX4_over_33 : decode cX4_over 33 = .ok (.if_icmp .ge 19, 3) := by decide +kernel
theorem dX4_over_36 : decode cX4_over 36 = .ok (.aload_n 1, 1) := by decide +kernel
theorem dX4_over_37 : decode cX4_over 37 = .ok (.iload_n 3, 1) := by decide +kernel
theorem dX4_over_38 : decode cX4_over 38 = .ok (.aaload, 1) := by decide +kernel
theorem dX4_over_39 : decode cX4_over 39 = .ok (.astore 4, 2) := by decide +kernel
theorem dX4_over_41 : decode cX4_over 41 = .ok (.aload 4, 2) := by decide +kernel
theorem dX4_over_43 : decode cX4_over 43 = .ok (.iconst 4, 1) := by decide +kernel
theorem dX4_over_44 : decode cX4_over 44 = .ok (.iconst 0, 1) := by decide +kernel
theorem dX4_over_45 : decode cX4_over 45 = .ok (.iastore, 1) := by decide +kernel
theorem dX4_over_46 : decode cX4_over 46 = .ok (.iinc 3 1, 3) := by decide +kernel
theorem dX4_over_49 : decode cX4_over 49 = .ok (.goto (-18), 3) := by decide +kernel
theorem dX4_over_52 : decode cX4_over 52 = .ok (.return_, 1) := by decide +kernel
set_option maxRecDepth 20000 in
theorem ggX4_begin_X4_over : GoodIn wsX4_begin wsX4_over := goodIn_r _ [8, 3, 9, 10, 11, 12, 13, 14, 15, 16, 17, 18, 19, 20, 21, 22, 23, 24, 25, 26, 27] (by decide +kernel) (by decide +kernel)
set_option maxRecDepth 20000 in
theorem gX4_begin_X4_over : GoodIn wsX4_begin (wsV RX4 82 RX4 yX4_over wsX4_over) := goodIn_app (goodIn_of _ (by decide +kernel)) ggX4_begin_X4_over
theorem dX4_begin_0 : decode cX4_begin 0 = .ok (.iload_n 1, 1) := by decide +kernel
theorem dX4_begin_1 : decode cX4_begin 1 = .ok (.aload_n 0, 1) := by decide +kernel
theorem dX4_begin_2 : decode cX4_begin 2 = .ok (.getfield 25, 3) := by decide +kernel
theorem dX4_begin_5 : decode cX4_begin 5 = .ok (.if_icmp .ne 15, 3) := by decide +kernel
theorem dX4_begin_8 : decode cX4_begin 8 = .ok (.aload_n 0, 1) := by decide +kernel
theorem dX4_begin_9 : decode cX4_begin 9 = .ok (.dup, 1) := by decide +kernel
theorem dX4_begin_10 : decode cX4_begin 10 = .ok (.getfield 59, 3) := by decide +kernel
theorem dX4_begin_13 : decode cX4_begin 13 = .ok (.iconst 1, 1) := by decide +kernel
theorem dX4_begin_14 : decode cX4_begin 14 = .ok (.iadd, 1) := by decide +kernel
theorem dX4_begin_15 : decode cX4_begin 15 = .ok (.putfield 59, 3) := by decide +kernel
theorem dX4_begin_18 : decode cX4_begin 18 = .ok (.iconst 0, 1) := by decide +kernel
theorem dX4_begin_19 : decode cX4_begin 19 = .ok (.ireturn, 1) := by decide +kernel
theorem dX4_begin_20 : decode cX4_begin 20 = .ok (.aload_n 0, 1) := by decide +kernel
theorem dX4_begin_21 : decode cX4_begin 21 = .ok (.invokevirtual 82, 3) := by decide +kernel
theorem dX4_begin_24 : decode cX4_begin 24 = .ok (.aload_n 0, 1) := by decide +kernel
theorem dX4_begin_25 : decode cX4_begin 25 = .ok (.iload_n 1, 1) := by decide +kernel
theorem dX4_begin_26 : decode cX4_begin 26 = .ok (.putfield 29, 3) := by decide +kernel
theorem dX4_begin_29 : decode cX4_begin 29 = .ok (.iconst 1, 1) := by decide +kernel
theorem dX4_begin_30 : decode cX4_begin 30 = .ok (.ireturn, 1) := by decide +kernel
theorem dX4_isFree_0 : decode cX4_isFree 0 = .ok (.aload_n 0, 1) := by decide +kernel
theorem dX4_isFree_1 : decode cX4_isFree 1 = .ok (.getfield 9, 3) := by decide +kernel
theorem dX4_isFree_4 : decode cX4_isFree 4 = .ok (.aload_n 0, 1) := by decide +kernel
theorem dX4_isFree_5 : decode cX4_isFree 5 = .ok (.getfield 15, 3) := by decide +kernel
theorem dX4_isFree_8 : decode cX4_isFree 8 = .ok (.aload_n 0, 1) := by decide +kernel
theorem dX4_isFree_9 : decode cX4_isFree 9 = .ok (.getfield 25, 3) := by decide +kernel
theorem dX4_isFree_12 : decode cX4_isFree 12 = .ok (.aaload, 1) := by decide +kernel
theorem dX4_isFree_13 : decode cX4_isFree 13 = .ok (.iload_n 1, 1) := by decide +kernel
theorem dX4_isFree_14 : decode cX4_isFree 14 = .ok (.iaload, 1) := by decide +kernel
theorem dX4_isFree_15 : decode cX4_isFree 15 = .ok (.aaload, 1) := by decide +kernel
theorem dX4_isFree_16 : decode cX4_isFree 16 = .ok (.iconst 3, 1) := by decide +kernel
theorem dX4_isFree_17 : decode cX4_isFree 17 = .ok (.iaload, 1) := by decide +kernel
theorem dX4_isFree_18 : decode cX4_isFree 18 = .ok (.iconst 1, 1) := by decide +kernel
theorem dX4_isFree_19 : decode cX4_isFree 19 = .ok (.if_icmp .ne 28, 3) := by decide +kernel
theorem dX4_isFree_22 : decode cX4_isFree 22 = .ok (.aload_n 0, 1) := by decide +kernel
theorem dX4_isFree_23 : decode cX4_isFree 23 = .ok (.getfield 9, 3) := by decide +kernel
theorem dX4_isFree_26 : decode cX4_isFree 26 = .ok (.aload_n 0, 1) := by decide +kernel
theorem dX4_isFree_27 : decode cX4_isFree 27 = .ok (.getfield 15, 3) := by decide +kernel
theorem dX4_isFree_30 : decode cX4_isFree 30 = .ok (.aload_n 0, 1) := by decide +kernel
theorem dX4_isFree_31 : decode cX4_isFree 31 = .ok (.getfield 25, 3) := by decide +kernel
theorem dX4_isFree_34 : decode cX4_isFree 34 = .ok (.aaload, 1) := by decide +kernel
theorem dX4_isFree_35 : decode cX4_isFree 35 = .ok (.iload_n 1, 1) := by decide +kernel
theorem dX4_isFree_36 : decode cX4_isFree 36 = .ok (.iaload, 1) := by decide +kernel
theorem dX4_isFree_37 : decode cX4_isFree 37 = .ok (.aaload, 1) := by decide +kernel
theorem dX4_isFree_38 : decode cX4_isFree 38 = .ok (.iconst 4, 1) := by decide +kernel
theorem dX4_isFree_39 : decode cX4_isFree 39 = .ok (.iaload, 1) := by decide +kernel
theorem dX4_isFree_40 : decode cX4_isFree 40 = .ok (.ifCond .ne 7, 3) := by decide +kernel
theorem dX4_isFree_43 : decode cX4_isFree 43 = .ok (.iconst 1, 1) := by decide +kernel
theorem dX4_isFree_44 : decode cX4_isFree 44 = .ok (.goto 4, 3) := by decide +kernel
theorem dX4_isFree_47 : decode cX4_isFree 47 = .ok (.iconst 0, 1) := by decide +kernel
theorem dX4_isFree_48 : decode cX4_isFree 48 = .ok (.ireturn, 1) := by decide +kernel
set_option maxRecDepth 20000 in
theorem ggX4_chosen_X4_isFree : GoodIn wsX4_chosen wsX4_isFree := goodIn_r _ [15, 9, 8, 3, 28, 29, 30, 31, 32, 33, 34, 35, 36, 37, 38, 39, 40, 41] (by decide +kernel) (by decide +kernel)
set_option maxRecDepth 20000 in
theorem gX4_chosen_X4_isFree : GoodIn wsX4_chosen (wsV RX4 85 RX4 yX4_isFree wsX4_isFree) := goodIn_app (goodIn_of _ (by decide +kernel)) ggX4_chosen_X4_isFree
set_option maxRecDepth 20000 in
theorem ggX4_chosen_X4_to : GoodIn wsX4_chosen wsX4_to := goodIn_r _ [19, 9, 8, 28, 29, 30, 31, 32, 33, 34, 35, 36, 37, 38, 39, 40, 41] (by decide +kernel) (by decide +kernel)
set_option maxRecDepth 20000 in
theorem gX4_chosen_X4_to : GoodIn wsX4_chosen (wsV RX4 89 RX4 yX4_to wsX4_to) := goodIn_app (goodIn_of _ (by decide +kernel)) ggX4_chosen_X4_to
set_option maxRecDepth 20000 in
theorem ggX4_chosen_X4_far : GoodIn wsX4_chosen wsX4_far := goodIn_r _ [23, 8, 10, 9, 24, 25, 26, 27, 28, 29, 30, 31, 32, 33, 34, 35, 36, 37, 38, 39, 40, 41] (by decide +kernel) (by decide +kernel)
set_option maxRecDepth 20000 in
theorem gX4_chosen_X4_far : GoodIn wsX4_chosen (wsV RX4 92 RX4 yX4_far wsX4_far) := goodIn_app (goodIn_of _ (by decide +kernel)) ggX4_chosen_X4_far
theorem dX4_chosen_0 : decode cX4_chosen 0 = .ok (.aload_n 0, 1) := by decide +kernel
theorem dX4_chosen_1 : decode cX4_chosen 1 = .ok (.getfield 37, 3) := by decide +kernel
theorem dX4_chosen_4 : decode cX4_chosen 4 = .ok (.aload_n 0, 1) := by decide +kernel
theorem dX4_chosen_5 : decode cX4_chosen 5 = .ok (.getfield 29, 3) := by decide +kernel
theorem dX4_chosen_8 : decode cX4_chosen 8 = .ok (.aaload, 1) := by decide +kernel
theorem dX4_chosen_9 : decode cX4_chosen 9 = .ok (.aload_n 0, 1) := by decide +kernel
theorem dX4_chosen_10 : decode cX4_chosen 10 = .ok (.getfield 25, 3) := by decide +kernel
theorem dX4_chosen_13 : decode cX4_chosen 13 = .ok (.aaload, 1) := by decide +kernel
theorem dX4_chosen_14 : decode cX4_chosen 14 = .ok (.astore_n 1, 1) := by decide +kernel
theorem dX4_chosen_15 : decode cX4_chosen 15 = .ok (.aload_n 1, 1) := by decide +kernel
theorem dX4_chosen_16 : decode cX4_chosen 16 = .ok (.ifnull 17, 3) := by decide +kernel
theorem dX4_chosen_19 : decode cX4_chosen 19 = .ok (.aload_n 0, 1) := by decide +kernel
theorem dX4_chosen_20 : decode cX4_chosen 20 = .ok (.aload_n 1, 1) := by decide +kernel
theorem dX4_chosen_21 : decode cX4_chosen 21 = .ok (.iconst 0, 1) := by decide +kernel
theorem dX4_chosen_22 : decode cX4_chosen 22 = .ok (.iaload, 1) := by decide +kernel
theorem dX4_chosen_23 : decode cX4_chosen 23 = .ok (.invokevirtual 85, 3) := by decide +kernel
theorem dX4_chosen_26 : decode cX4_chosen 26 = .ok (.ifCond .eq 7, 3) := by decide +kernel
theorem dX4_chosen_29 : decode cX4_chosen 29 = .ok (.aload_n 1, 1) := by decide +kernel
theorem dX4_chosen_30 : decode cX4_chosen 30 = .ok (.iconst 0, 1) := by decide +kernel
theorem dX4_chosen_31 : decode cX4_chosen 31 = .ok (.iaload, 1) := by decide +kernel
theorem dX4_chosen_32 : decode cX4_chosen 32 = .ok (.ireturn, 1) := by decide +kernel
theorem dX4_chosen_33 : decode cX4_chosen 33 = .ok (.aload_n 0, 1) := by decide +kernel
theorem dX4_chosen_34 : decode cX4_chosen 34 = .ok (.getfield 18, 3) := by decide +kernel
theorem dX4_chosen_37 : decode cX4_chosen 37 = .ok (.aload_n 0, 1) := by decide +kernel
theorem dX4_chosen_38 : decode cX4_chosen 38 = .ok (.getfield 25, 3) := by decide +kernel
theorem dX4_chosen_41 : decode cX4_chosen 41 = .ok (.baload, 1) := by decide +kernel
theorem dX4_chosen_42 : decode cX4_chosen 42 = .ok (.ifCond .eq 206, 3) := by decide +kernel
theorem dX4_chosen_45 : decode cX4_chosen 45 = .ok (.aload_n 0, 1) := by decide +kernel
theorem dX4_chosen_46 : decode cX4_chosen 46 = .ok (.getfield 22, 3) := by decide +kernel
theorem dX4_chosen_49 : decode cX4_chosen 49 = .ok (.aload_n 0, 1) := by decide +kernel
theorem dX4_chosen_50 : decode cX4_chosen 50 = .ok (.getfield 25, 3) := by decide +kernel
theorem dX4_chosen_53 : decode cX4_chosen 53 = .ok (.baload, 1) := by decide +kernel
theorem dX4_chosen_54 : decode cX4_chosen 54 = .ok (.ifCond .ne 194, 3) := by decide +kernel
theorem dX4_chosen_57 : decode cX4_chosen 57 = .ok (.aload_n 0, 1) := by decide +kernel
theorem dX4_chosen_58 : decode cX4_chosen 58 = .ok (.getfield 50, 3) := by decide +kernel
theorem dX4_chosen_61 : decode cX4_chosen 61 = .ok (.ifCond .le 187, 3) := by decide +kernel
theorem dX4_chosen_64 : decode cX4_chosen 64 = .ok (.aload_n 0, 1) := by decide +kernel
theorem dX4_chosen_65 : decode cX4_chosen 65 = .ok (.dup, 1) := by decide +kernel
theorem dX4_chosen_66 : decode cX4_chosen 66 = .ok (.getfield 50, 3) := by decide +kernel
theorem dX4_chosen_69 : decode cX4_chosen 69 = .ok (.iconst 1, 1) := by decide +kernel
theorem dX4_chosen_70 : decode cX4_chosen 70 = .ok (.isub, 1) := by decide +kernel
theorem dX4_chosen_71 : decode cX4_chosen 71 = .ok (.putfield 50, 3) := by decide +kernel
theorem dX4_chosen_74 : decode cX4_chosen 74 = .ok (.aload_n 0, 1) := by decide +kernel
theorem dX4_chosen_75 : decode cX4_chosen 75 = .ok (.dup, 1) := by decide +kernel
theorem dX4_chosen_76 : decode cX4_chosen 76 = .ok (.getfield 65, 3) := by decide +kernel
theorem dX4_chosen_79 : decode cX4_chosen 79 = .ok (.iconst 1, 1) := by decide +kernel
theorem dX4_chosen_80 : decode cX4_chosen 80 = .ok (.iadd, 1) := by decide +kernel
theorem dX4_chosen_81 : decode cX4_chosen 81 = .ok (.putfield 65, 3) := by decide +kernel
theorem dX4_chosen_84 : decode cX4_chosen 84 = .ok (.aload_n 0, 1) := by decide +kernel
theorem dX4_chosen_85 : decode cX4_chosen 85 = .ok (.getfield 22, 3) := by decide +kernel
theorem dX4_chosen_88 : decode cX4_chosen 88 = .ok (.aload_n 0, 1) := by decide +kernel
theorem dX4_chosen_89 : decode cX4_chosen 89 = .ok (.getfield 25, 3) := by decide +kernel
theorem dX4_chosen_92 : decode cX4_chosen 92 = .ok (.iconst 1, 1) := by decide +kernel
theorem dX4_chosen_93 : decode cX4_chosen 93 = .ok (.bastore, 1) := by decide +kernel
theorem dX4_chosen_94 : decode cX4_chosen 94 = .ok (.iconst (-1), 1) := by decide +kernel
theorem dX4_chosen_95 : decode cX4_chosen 95 = .ok (.istore_n 2, 1) := by decide +kernel
theorem dX4_chosen_96 : decode cX4_chosen 96 = .ok (.sipush 9999, 3) := by decide +kernel
theorem dX4_chosen_99 : decode cX4_chosen 99 = .ok (.istore_n 3, 1) := by decide +kernel
theorem dX4_chosen_100 : decode cX4_chosen 100 = .ok (.aload_n 0, 1) := by decide +kernel
theorem dX4_chosen_101 : decode cX4_chosen 101 = .ok (.getfield 15, 3) := by decide +kernel
theorem dX4_chosen_104 : decode cX4_chosen 104 = .ok (.aload_n 0, 1) := by decide +kernel
theorem dX4_chosen_105 : decode cX4_chosen 105 = .ok (.getfield 25, 3) := by decide +kernel
theorem dX4_chosen_108 : decode cX4_chosen 108 = .ok (.aaload, 1) := by decide +kernel
theorem dX4_chosen_109 : decode cX4_chosen 109 = .ok (.arraylength, 1) := by decide +kernel
theorem dX4_chosen_110 : decode cX4_chosen 110 = .ok (.iconst 1, 1) := by decide +kernel
theorem dX4_chosen_111 : decode cX4_chosen 111 = .ok (.isub, 1) := by decide +kernel
theorem dX4_chosen_112 : decode cX4_chosen 112 = .ok (.istore 4, 2) := by decide +kernel
theorem dX4_chosen_114 : decode cX4_chosen 114 = .ok (.iload 4, 2) := by decide +kernel
theorem dX4_chosen_116 : decode cX4_chosen 116 = .ok (.ifCond .lt 89, 3) := by decide +kernel
theorem dX4_chosen_119 : decode cX4_chosen 119 = .ok (.aload_n 0, 1) := by decide +kernel
theorem dX4_chosen_120 : decode cX4_chosen 120 = .ok (.getfield 9, 3) := by decide +kernel
theorem dX4_chosen_123 : decode cX4_chosen 123 = .ok (.aload_n 0, 1) := by decide +kernel
theorem dX4_chosen_124 : decode cX4_chosen 124 = .ok (.getfield 15, 3) := by decide +kernel
theorem dX4_chosen_127 : decode cX4_chosen 127 = .ok (.aload_n 0, 1) := by decide +kernel
theorem dX4_chosen_128 : decode cX4_chosen 128 = .ok (.getfield 25, 3) := by decide +kernel
theorem dX4_chosen_131 : decode cX4_chosen 131 = .ok (.aaload, 1) := by decide +kernel
theorem dX4_chosen_132 : decode cX4_chosen 132 = .ok (.iload 4, 2) := by decide +kernel
theorem dX4_chosen_134 : decode cX4_chosen 134 = .ok (.iaload, 1) := by decide +kernel
theorem dX4_chosen_135 : decode cX4_chosen 135 = .ok (.aaload, 1) := by decide +kernel
theorem dX4_chosen_136 : decode cX4_chosen 136 = .ok (.astore 5, 2) := by decide +kernel
theorem dX4_chosen_138 : decode cX4_chosen 138 = .ok (.aload 5, 2) := by decide +kernel
theorem dX4_chosen_140 : decode cX4_chosen 140 = .ok (.iconst 3, 1) := by decide +kernel
theorem dX4_chosen_141 : decode cX4_chosen 141 = .ok (.iaload, 1) := by decide +kernel
theorem dX4_chosen_142 : decode cX4_chosen 142 = .ok (.ifCond .ne 9, 3) := by decide +kernel
theorem dX4_chosen_145 : decode cX4_chosen 145 = .ok (.sipush 9999, 3) := by decide +kernel
theorem dX4_chosen_148 : decode cX4_chosen 148 = .ok (.goto 26, 3) := by decide +kernel
theorem dX4_chosen_151 : decode cX4_chosen 151 = .ok (.aload 5, 2) := by decide +kernel
theorem dX4_chosen_153 : decode cX4_chosen 153 = .ok (.iconst 2, 1) := by decide +kernel
theorem dX4_chosen_154 : decode cX4_chosen 154 = .ok (.iaload, 1) := by decide +kernel
theorem dX4_chosen_155 : decode cX4_chosen 155 = .ok (.aload_n 0, 1) := by decide +kernel
theorem dX4_chosen_156 : decode cX4_chosen 156 = .ok (.aload_n 0, 1) := by decide +kernel
theorem dX4_chosen_157 : decode cX4_chosen 157 = .ok (.aload_n 0, 1) := by decide +kernel
theorem dX4_chosen_158 : decode cX4_chosen 158 = .ok (.getfield 25, 3) := by decide +kernel
theorem dX4_chosen_161 : decode cX4_chosen 161 = .ok (.iload 4, 2) := by decide +kernel
theorem dX4_chosen_163 : decode cX4_chosen 163 = .ok (.invokevirtual 89, 3) := by decide +kernel
theorem dX4_chosen_166 : decode cX4_chosen 166 = .ok (.aload_n 0, 1) := by decide +kernel
theorem dX4_chosen_167 : decode cX4_chosen 167 = .ok (.getfield 29, 3) := by decide +kernel
theorem dX4_chosen_170 : decode cX4_chosen 170 = .ok (.invokevirtual 92, 3) := by decide +kernel
theorem dX4_chosen_173 : decode cX4_chosen 173 = .ok (.iadd, 1) := by decide +kernel
theorem dX4_chosen_174 : decode cX4_chosen 174 = .ok (.istore 6, 2) := by decide +kernel
theorem dX4_chosen_176 : decode cX4_chosen 176 = .ok (.iload 6, 2) := by decide +kernel
theorem dX4_chosen_178 : decode cX4_chosen 178 = .ok (.sipush 9999, 3) := by decide +kernel
theorem dX4_chosen_181 : decode cX4_chosen 181 = .ok (.if_icmp .ge 18, 3) := by decide +kernel
theorem dX4_chosen_184 : decode cX4_chosen 184 = .ok (.iload 6, 2) := by decide +kernel
theorem dX4_chosen_186 : decode cX4_chosen 186 = .ok (.iload_n 3, 1) := by decide +kernel
theorem dX4_chosen_187 : decode cX4_chosen 187 = .ok (.if_icmp .le 6, 3) := by decide +kernel
theorem dX4_chosen_190 : decode cX4_chosen 190 = .ok (.goto 9, 3) := by decide +kernel
theorem dX4_chosen_193 : decode cX4_chosen 193 = .ok (.iload 4, 2) := by decide +kernel
theorem dX4_chosen_195 : decode cX4_chosen 195 = .ok (.istore_n 2, 1) := by decide +kernel
theorem dX4_chosen_196 : decode cX4_chosen 196 = .ok (.iload 6, 2) := by decide +kernel
theorem dX4_chosen_198 : decode cX4_chosen 198 = .ok (.istore_n 3, 1) := by decide +kernel
theorem dX4_chosen_199 : decode cX4_chosen 199 = .ok (.iinc 4 (-1), 3) := by decide +kernel
theorem dX4_chosen_202 : decode cX4_chosen 202 = .ok (.goto (-88), 3) := by decide +kernel
theorem dX4_chosen_205 : decode cX4_chosen 205 = .ok (.iload_n 2, 1) := by decide +kernel
theorem dX4_chosen_206 : decode cX4_chosen 206 = .ok (.ifCond .lt 28, 3) := by decide +kernel
theorem dX4_chosen_209 : decode cX4_chosen 209 = .ok (.aload_n 0, 1) := by decide +kernel
theorem dX4_chosen_210 : decode cX4_chosen 210 = .ok (.getfield 37, 3) := by decide +kernel
theorem dX4_chosen_213 : decode cX4_chosen 213 = .ok (.aload_n 0, 1) := by decide +kernel
theorem dX4_chosen_214 : decode cX4_chosen 214 = .ok (.getfield 29, 3) := by decide +kernel
theorem dX4_chosen_217 : decode cX4_chosen 217 = .ok (.aaload, 1) := by decide +kernel
theorem dX4_chosen_218 : decode cX4_chosen 218 = .ok (.aload_n 0, 1) := by decide +kernel
theorem dX4_chosen_219 : decode cX4_chosen 219 = .ok (.getfield 25, 3) := by decide +kernel
theorem dX4_chosen_222 : decode cX4_chosen 222 = .ok (.iconst 2, 1) := by decide +kernel
theorem dX4_chosen_223 : decode cX4_chosen 223 = .ok (.newarray .int, 2) := by decide +kernel
theorem dX4_chosen_225 : decode cX4_chosen 225 = .ok (.dup, 1) := by decide +kernel
theorem dX4_chosen_226 : decode cX4_chosen 226 = .ok (.iconst 0, 1) := by decide +kernel
theorem dX4_chosen_227 : decode cX4_chosen 227 = .ok (.iload_n 2, 1) := by decide +kernel
theorem dX4_chosen_228 : decode cX4_chosen 228 = .ok (.iastore, 1) := by decide +kernel
theorem dX4_chosen_229 : decode cX4_chosen 229 = .ok (.dup, 1) := by decide +kernel
theorem dX4_chosen_230 : decode cX4_chosen 230 = .ok (.iconst 1, 1) := by decide +kernel
theorem dX4_chosen_231 : decode cX4_chosen 231 = .ok (.iconst 3, 1) := by decide +kernel
theorem dX4_chosen_232 : decode cX4_chosen 232 = .ok (.iastore, 1) := by decide +kernel
theorem dX4_chosen_233 : decode cX4_chosen 233 = .ok (.aastore, 1) := by decide +kernel
theorem dX4_chosen_234 : decode cX4_chosen 234 = .ok (.iload_n 2, 1) := by decide +kernel
theorem dX4_chosen_235 : decode cX4_chosen 235 = .ok (.ifCond .lt 13, 3) := by decide +kernel
theorem dX4_chosen_238 : decode cX4_chosen 238 = .ok (.aload_n 0, 1) := by decide +kernel
theorem dX4_chosen_239 : decode cX4_chosen 239 = .ok (.iload_n 2, 1) := by decide +kernel
theorem dX4_chosen_240 : decode cX4_chosen 240 = .ok (.invokevirtual 85, 3) := by decide +kernel
theorem dX4_chosen_243 : decode cX4_chosen 243 = .ok (.ifCond .eq 5, 3) := by decide +kernel
theorem dX4_chosen_246 : decode cX4_chosen 246 = .ok (.iload_n 2, 1) := by decide +kernel
theorem dX4_chosen_247 : decode cX4_chosen 247 = .ok (.ireturn, 1) := by decide +kernel
theorem dX4_chosen_248 : decode cX4_chosen 248 = .ok (.iconst 0, 1) := by decide +kernel
theorem dX4_chosen_249 : decode cX4_chosen 249 = .ok (.istore_n 2, 1) := by decide +kernel
theorem dX4_chosen_250 : decode cX4_chosen 250 = .ok (.iload_n 2, 1) := by decide +kernel
theorem dX4_chosen_251 : decode cX4_chosen 251 = .ok (.aload_n 0, 1) := by decide +kernel
theorem dX4_chosen_252 : decode cX4_chosen 252 = .ok (.getfield 15, 3) := by decide +kernel
theorem dX4_chosen_255 : decode cX4_chosen 255 = .ok (.aload_n 0, 1) := by decide +kernel
theorem dX4_chosen_256 : decode cX4_chosen 256 = .ok (.getfield 25, 3) := by decide +kernel
theorem dX4_chosen_259 : decode cX4_chosen 259 = .ok (.aaload, 1) := by decide +kernel
theorem dX4_chosen_260 : decode cX4_chosen 260 = .ok (.arraylength, 1) := by decide +kernel
theorem dX4_chosen_261 : decode cX4_chosen 261 = .ok (.if_icmp .ge 19, 3) := by decide +kernel
theorem dX4_chosen_264 : decode cX4_chosen 264 = .ok (.aload_n 0, 1) := by decide +kernel
theorem dX4_chosen_265 : decode cX4_chosen 265 = .ok (.iload_n 2, 1) := by decide +kernel
theorem dX4_chosen_266 : decode cX4_chosen 266 = .ok (.invokevirtual 85, 3) := by decide +kernel
theorem dX4_chosen_269 : decode cX4_chosen 269 = .ok (.ifCond .eq 5, 3) := by decide +kernel
theorem dX4_chosen_272 : decode cX4_chosen 272 = .ok (.iload_n 2, 1) := by decide +kernel
theorem dX4_chosen_273 : decode cX4_chosen 273 = .ok (.ireturn, 1) := by decide +kernel
theorem dX4_chosen_274 : decode cX4_chosen 274 = .ok (.iinc 2 1, 3) := by decide +kernel
theorem dX4_chosen_277 : decode cX4_chosen 277 = .ok (.goto (-27), 3) := by decide +kernel
theorem dX4_chosen_280 : decode cX4_chosen 280 = .ok (.iconst (-1), 1) := by decide +kernel
theorem dX4_chosen_281 : decode cX4_chosen 281 = .ok (.ireturn, 1) := by decide +kernel
set_option maxRecDepth 20000 in
theorem ggX4_step_X4_chosen : GoodIn wsX4_step wsX4_chosen := goodIn_r _ [21, 11, 10, 3, 22, 23, 24, 25, 2, 1, 5, 26, 27, 28, 20, 29, 30, 31, 32, 33, 34, 35, 36, 37, 12, 13, 14, 15, 46, 47, 48, 49, 50, 51, 52, 53, 54, 55, 56, 57, 58, 59] (by decide +kernel) (by decide +kernel)
set_option maxRecDepth 20000 in
theorem gX4_step_X4_chosen : GoodIn wsX4_step (wsV RX4 95 RX4 yX4_chosen wsX4_chosen) := goodIn_app (goodIn_of _ (by decide +kernel)) ggX4_step_X4_chosen
set_option maxRecDepth 20000 in
theorem ggX4_step_X4_more : GoodIn wsX4_step wsX4_more := goodIn_r _ [40, 8] (by decide +kernel) (by decide +kernel)
set_option maxRecDepth 20000 in
theorem gX4_step_X4_more : GoodIn wsX4_step (va_wsS RX4 69 yX4_more wsX4_more) := goodIn_app (goodIn_of _ (by decide +kernel)) ggX4_step_X4_more
set_option maxRecDepth 20000 in
theorem ggX4_step_X4_to : GoodIn wsX4_step wsX4_to := goodIn_r _ [33, 1, 2, 46, 47, 48, 49, 50, 51, 52, 53, 54, 55, 56, 57, 58, 59] (by decide +kernel) (by decide +kernel)
set_option maxRecDepth 20000 in
theorem gX4_step_X4_to : GoodIn wsX4_step (wsV RX4 89 RX4 yX4_to wsX4_to) := goodIn_app (goodIn_of _ (by decide +kernel)) ggX4_step_X4_to
set_option maxRecDepth 20000 in
theorem ggX4_step_X4_over : GoodIn wsX4_step wsX4_over := goodIn_r _ [44, 10, 8, 4, 45, 23, 1, 46, 47, 48, 49, 50, 51, 52, 53, 54, 55, 56, 57, 58, 59] (by decide +kernel) (by decide +kernel)
set_option maxRecDepth 20000 in
theorem gX4_step_X4_over : GoodIn wsX4_step (wsV RX4 82 RX4 yX4_over wsX4_over) := goodIn_app (goodIn_of _ (by decide +kernel)) ggX4_step_X4_over
theorem dX4_step_0 : decode cX4_step 0 = .ok (.aload_n 0, 1) := by decide +kernel
theorem dX4_step_1 : decode cX4_step 1 = .ok (.invokevirtual 95, 3) := by decide +kernel
theorem dX4_step_4 : decode cX4_step 4 = .ok (.istore_n 1, 1) := by decide +kernel
theorem dX4_step_5 : decode cX4_step 5 = .ok (.iload_n 1, 1) := by decide +kernel
theorem dX4_step_6 : decode cX4_step 6 = .ok (.ifCond .lt 77, 3) := by decide +kernel
theorem dX4_step_9 : decode cX4_step 9 = .ok (.aload_n 0, 1) := by decide +kernel
theorem dX4_step_10 : decode cX4_step 10 = .ok (.getfield 9, 3) := by decide +kernel
theorem dX4_step_13 : decode cX4_step 13 = .ok (.aload_n 0, 1) := by decide +kernel
theorem dX4_step_14 : decode cX4_step 14 = .ok (.getfield 15, 3) := by decide +kernel
theorem dX4_step_17 : decode cX4_step 17 = .ok (.aload_n 0, 1) := by decide +kernel
theorem dX4_step_18 : decode cX4_step 18 = .ok (.getfield 25, 3) := by decide +kernel
theorem dX4_step_21 : decode cX4_step 21 = .ok (.aaload, 1) := by decide +kernel
theorem dX4_step_22 : decode cX4_step 22 = .ok (.iload_n 1, 1) := by decide +kernel
theorem dX4_step_23 : decode cX4_step 23 = .ok (.iaload, 1) := by decide +kernel
theorem dX4_step_24 : decode cX4_step 24 = .ok (.aaload, 1) := by decide +kernel
theorem dX4_step_25 : decode cX4_step 25 = .ok (.astore_n 2, 1) := by decide +kernel
theorem dX4_step_26 : decode cX4_step 26 = .ok (.aload_n 2, 1) := by decide +kernel
theorem dX4_step_27 : decode cX4_step 27 = .ok (.iconst 4, 1) := by decide +kernel
theorem dX4_step_28 : decode cX4_step 28 = .ok (.iconst 1, 1) := by decide +kernel
theorem dX4_step_29 : decode cX4_step 29 = .ok (.iastore, 1) := by decide +kernel
theorem dX4_step_30 : decode cX4_step 30 = .ok (.aload_n 0, 1) := by decide +kernel
theorem dX4_step_31 : decode cX4_step 31 = .ok (.aload_n 0, 1) := by decide +kernel
theorem dX4_step_32 : decode cX4_step 32 = .ok (.getfield 32, 3) := by decide +kernel
theorem dX4_step_35 : decode cX4_step 35 = .ok (.iconst 2, 1) := by decide +kernel
theorem dX4_step_36 : decode cX4_step 36 = .ok (.newarray .int, 2) := by decide +kernel
theorem dX4_step_38 : decode cX4_step 38 = .ok (.dup, 1) := by decide +kernel
theorem dX4_step_39 : decode cX4_step 39 = .ok (.iconst 0, 1) := by decide +kernel
theorem dX4_step_40 : decode cX4_step 40 = .ok (.aload_n 0, 1) := by decide +kernel
theorem dX4_step_41 : decode cX4_step 41 = .ok (.getfield 25, 3) := by decide +kernel
theorem dX4_step_44 : decode cX4_step 44 = .ok (.iastore, 1) := by decide +kernel
theorem dX4_step_45 : decode cX4_step 45 = .ok (.dup, 1) := by decide +kernel
theorem dX4_step_46 : decode cX4_step 46 = .ok (.iconst 1, 1) := by decide +kernel
theorem dX4_step_47 : decode cX4_step 47 = .ok (.iload_n 1, 1) := by decide +kernel
theorem dX4_step_48 : decode cX4_step 48 = .ok (.iastore, 1) := by decide +kernel
theorem dX4_step_49 : decode cX4_step 49 = .ok (.invokestatic 69, 3) := by decide +kernel
theorem dX4_step_52 : decode cX4_step 52 = .ok (.putfield 32, 3) := by decide +kernel
theorem dX4_step_55 : decode cX4_step 55 = .ok (.aload_n 0, 1) := by decide +kernel
theorem dX4_step_56 : decode cX4_step 56 = .ok (.aload_n 0, 1) := by decide +kernel
theorem dX4_step_57 : decode cX4_step 57 = .ok (.aload_n 0, 1) := by decide +kernel
theorem dX4_step_58 : decode cX4_step 58 = .ok (.getfield 25, 3) := by decide +kernel
theorem dX4_step_61 : decode cX4_step 61 = .ok (.iload_n 1, 1) := by decide +kernel
theorem dX4_step_62 : decode cX4_step 62 = .ok (.invokevirtual 89, 3) := by decide +kernel
theorem dX4_step_65 : decode cX4_step 65 = .ok (.putfield 25, 3) := by decide +kernel
theorem dX4_step_68 : decode cX4_step 68 = .ok (.aload_n 0, 1) := by decide +kernel
theorem dX4_step_69 : decode cX4_step 69 = .ok (.dup, 1) := by decide +kernel
theorem dX4_step_70 : decode cX4_step 70 = .ok (.getfield 53, 3) := by decide +kernel
theorem dX4_step_73 : decode cX4_step 73 = .ok (.aload_n 2, 1) := by decide +kernel
theorem dX4_step_74 : decode cX4_step 74 = .ok (.iconst 2, 1) := by decide +kernel
theorem dX4_step_75 : decode cX4_step 75 = .ok (.iaload, 1) := by decide +kernel
theorem dX4_step_76 : decode cX4_step 76 = .ok (.iadd, 1) := by decide +kernel
theorem dX4_step_77 : decode cX4_step 77 = .ok (.putfield 53, 3) := by decide +kernel
theorem dX4_step_80 : decode cX4_step 80 = .ok (.goto 133, 3) := by decide +kernel
theorem dX4_step_83 : decode cX4_step 83 = .ok (.aload_n 0, 1) := by decide +kernel
theorem dX4_step_84 : decode cX4_step 84 = .ok (.getfield 32, 3) := by decide +kernel
theorem dX4_step_87 : decode cX4_step 87 = .ok (.arraylength, 1) := by decide +kernel
theorem dX4_step_88 : decode cX4_step 88 = .ok (.ifCond .ne 19, 3) := by decide +kernel
theorem dX4_step_91 : decode cX4_step 91 = .ok (.aload_n 0, 1) := by decide +kernel
theorem dX4_step_92 : decode cX4_step 92 = .ok (.dup, 1) := by decide +kernel
theorem dX4_step_93 : decode cX4_step 93 = .ok (.getfield 62, 3) := by decide +kernel
theorem dX4_step_96 : decode cX4_step 96 = .ok (.iconst 1, 1) := by decide +kernel
theorem dX4_step_97 : decode cX4_step 97 = .ok (.iadd, 1) := by decide +kernel
theorem dX4_step_98 : decode cX4_step 98 = .ok (.putfield 62, 3) := by decide +kernel
theorem dX4_step_101 : decode cX4_step 101 = .ok (.aload_n 0, 1) := by decide +kernel
theorem dX4_step_102 : decode cX4_step 102 = .ok (.invokevirtual 82, 3) := by decide +kernel
theorem dX4_step_105 : decode cX4_step 105 = .ok (.iconst 0, 1) := by decide +kernel
theorem dX4_step_106 : decode cX4_step 106 = .ok (.ireturn, 1) := by decide +kernel
theorem dX4_step_107 : decode cX4_step 107 = .ok (.aload_n 0, 1) := by decide +kernel
theorem dX4_step_108 : decode cX4_step 108 = .ok (.getfield 32, 3) := by decide +kernel
theorem dX4_step_111 : decode cX4_step 111 = .ok (.aload_n 0, 1) := by decide +kernel
theorem dX4_step_112 : decode cX4_step 112 = .ok (.getfield 32, 3) := by decide +kernel
theorem dX4_step_115 : decode cX4_step 115 = .ok (.arraylength, 1) := by decide +kernel
theorem dX4_step_116 : decode cX4_step 116 = .ok (.iconst 1, 1) := by decide +kernel
theorem dX4_step_117 : decode cX4_step 117 = .ok (.isub, 1) := by decide +kernel
theorem dX4_step_118 : decode cX4_step 118 = .ok (.aaload, 1) := by decide +kernel
theorem dX4_step_119 : decode cX4_step 119 = .ok (.astore_n 2, 1) := by decide +kernel
theorem dX4_step_120 : decode cX4_step 120 = .ok (.aload_n 0, 1) := by decide +kernel
theorem dX4_step_121 : decode cX4_step 121 = .ok (.getfield 32, 3) := by decide +kernel
theorem dX4_step_124 : decode cX4_step 124 = .ok (.arraylength, 1) := by decide +kernel
theorem dX4_step_125 : decode cX4_step 125 = .ok (.iconst 1, 1) := by decide +kernel
theorem dX4_step_126 : decode cX4_step 126 = .ok (.isub, 1) := by decide +kernel
theorem dX4_step_127 : decode cX4_step 127 = .ok (.anewarray 7, 3) := by decide +kernel
theorem dX4_step_130 : decode cX4_step 130 = .ok (.astore_n 3, 1) := by decide +kernel
theorem dX4_step_131 : decode cX4_step 131 = .ok (.iconst 0, 1) := by decide +kernel
theorem dX4_step_132 : decode cX4_step 132 = .ok (.istore 4, 2) := by decide +kernel
theorem dX4_step_134 : decode cX4_step 134 = .ok (.iload 4, 2) := by decide +kernel
theorem dX4_step_136 : decode cX4_step 136 = .ok (.aload_n 3, 1) := by decide +kernel
theorem dX4_step_137 : decode cX4_step 137 = .ok (.arraylength, 1) := by decide +kernel
theorem dX4_step_138 : decode cX4_step 138 = .ok (.if_icmp .ge 20, 3) := by decide +kernel
theorem dX4_step_141 : decode cX4_step 141 = .ok (.aload_n 3, 1) := by decide +kernel
theorem dX4_step_142 : decode cX4_step 142 = .ok (.iload 4, 2) := by decide +kernel
theorem dX4_step_144 : decode cX4_step 144 = .ok (.aload_n 0, 1) := by decide +kernel
theorem dX4_step_145 : decode cX4_step 145 = .ok (.getfield 32, 3) := by decide +kernel
theorem dX4_step_148 : decode cX4_step 148 = .ok (.iload 4, 2) := by decide +kernel
theorem dX4_step_150 : decode cX4_step 150 = .ok (.aaload, 1) := by decide +kernel
theorem dX4_step_151 : decode cX4_step 151 = .ok (.aastore, 1) := by decide +kernel
theorem dX4_step_152 : decode cX4_step 152 = .ok (.iinc 4 1, 3) := by decide +kernel
theorem dX4_step_155 : decode cX4_step 155 = .ok (.goto (-21), 3) := by decide +kernel
theorem dX4_step_158 : decode cX4_step 158 = .ok (.aload_n 0, 1) := by decide +kernel
theorem dX4_step_159 : decode cX4_step 159 = .ok (.aload_n 3, 1) := by decide +kernel
theorem dX4_step_160 : decode cX4_step 160 = .ok (.putfield 32, 3) := by decide +kernel
theorem dX4_step_163 : decode cX4_step 163 = .ok (.aload_n 0, 1) := by decide +kernel
theorem dX4_step_164 : decode cX4_step 164 = .ok (.aload_n 2, 1) := by decide +kernel
theorem dX4_step_165 : decode cX4_step 165 = .ok (.iconst 0, 1) := by decide +kernel
theorem dX4_step_166 : decode cX4_step 166 = .ok (.iaload, 1) := by decide +kernel
theorem dX4_step_167 : decode cX4_step 167 = .ok (.putfield 25, 3) := by decide +kernel
theorem dX4_step_170 : decode cX4_step 170 = .ok (.aload_n 0, 1) := by decide +kernel
theorem dX4_step_171 : decode cX4_step 171 = .ok (.getfield 9, 3) := by decide +kernel
theorem dX4_step_174 : decode cX4_step 174 = .ok (.aload_n 0, 1) := by decide +kernel
theorem dX4_step_175 : decode cX4_step 175 = .ok (.getfield 15, 3) := by decide +kernel
theorem dX4_step_178 : decode cX4_step 178 = .ok (.aload_n 2, 1) := by decide +kernel
theorem dX4_step_179 : decode cX4_step 179 = .ok (.iconst 0, 1) := by decide +kernel
theorem dX4_step_180 : decode cX4_step 180 = .ok (.iaload, 1) := by decide +kernel
theorem dX4_step_181 : decode cX4_step 181 = .ok (.aaload, 1) := by decide +kernel
theorem dX4_step_182 : decode cX4_step 182 = .ok (.aload_n 2, 1) := by decide +kernel
theorem dX4_step_183 : decode cX4_step 183 = .ok (.iconst 1, 1) := by decide +kernel
theorem dX4_step_184 : decode cX4_step 184 = .ok (.iaload, 1) := by decide +kernel
theorem dX4_step_185 : decode cX4_step 185 = .ok (.iaload, 1) := by decide +kernel
theorem dX4_step_186 : decode cX4_step 186 = .ok (.aaload, 1) := by decide +kernel
theorem dX4_step_187 : decode cX4_step 187 = .ok (.iconst 2, 1) := by decide +kernel
theorem dX4_step_188 : decode cX4_step 188 = .ok (.iaload, 1) := by decide +kernel
theorem dX4_step_189 : decode cX4_step 189 = .ok (.istore 4, 2) := by decide +kernel
theorem dX4_step_191 : decode cX4_step 191 = .ok (.aload_n 0, 1) := by decide +kernel
theorem dX4_step_192 : decode cX4_step 192 = .ok (.dup, 1) := by decide +kernel
theorem dX4_step_193 : decode cX4_step 193 = .ok (.getfield 53, 3) := by decide +kernel
theorem dX4_step_196 : decode cX4_step 196 = .ok (.iload 4, 2) := by decide +kernel
theorem dX4_step_198 : decode cX4_step 198 = .ok (.iadd, 1) := by decide +kernel
theorem dX4_step_199 : decode cX4_step 199 = .ok (.putfield 53, 3) := by decide +kernel
theorem dX4_step_202 : decode cX4_step 202 = .ok (.aload_n 0, 1) := by decide +kernel
theorem dX4_step_203 : decode cX4_step 203 = .ok (.dup, 1) := by decide +kernel
theorem dX4_step_204 : decode cX4_step 204 = .ok (.getfield 56, 3) := by decide +kernel
theorem dX4_step_207 : decode cX4_step 207 = .ok (.iload 4, 2) := by decide +kernel
theorem dX4_step_209 : decode cX4_step 209 = .ok (.iadd, 1) := by decide +kernel
theorem dX4_step_210 : decode cX4_step 210 = .ok (.putfield 56, 3) := by decide +kernel
theorem dX4_step_213 : decode cX4_step 213 = .ok (.aload_n 0, 1) := by decide +kernel
theorem dX4_step_214 : decode cX4_step 214 = .ok (.getfield 25, 3) := by decide +kernel
theorem dX4_step_217 : decode cX4_step 217 = .ok (.aload_n 0, 1) := by decide +kernel
theorem dX4_step_218 : decode cX4_step 218 = .ok (.getfield 29, 3) := by decide +kernel
theorem dX4_step_221 : decode cX4_step 221 = .ok (.if_icmp .eq 5, 3) := by decide +kernel
theorem dX4_step_224 : decode cX4_step 224 = .ok (.iconst 1, 1) := by decide +kernel
theorem dX4_step_225 : decode cX4_step 225 = .ok (.ireturn, 1) := by decide +kernel
theorem dX4_step_226 : decode cX4_step 226 = .ok (.aload_n 0, 1) := by decide +kernel
theorem dX4_step_227 : decode cX4_step 227 = .ok (.getfield 32, 3) := by decide +kernel
theorem dX4_step_230 : decode cX4_step 230 = .ok (.astore_n 2, 1) := by decide +kernel
theorem dX4_step_231 : decode cX4_step 231 = .ok (.aload_n 2, 1) := by decide +kernel
theorem dX4_step_232 : decode cX4_step 232 = .ok (.arraylength, 1) := by decide +kernel
theorem dX4_step_233 : decode cX4_step 233 = .ok (.istore_n 3, 1) := by decide +kernel
theorem dX4_step_234 : decode cX4_step 234 = .ok (.iconst 0, 1) := by decide +kernel
theorem dX4_step_235 : decode cX4_step 235 = .ok (.istore 4, 2) := by decide +kernel
theorem dX4_step_237 : decode cX4_step 237 = .ok (.iload 4, 2) := by decide +kernel
theorem dX4_step_239 : decode cX4_step 239 = .ok (.iload_n 3, 1) := by decide +kernel
theorem dX4_step_240 : decode cX4_step 240 = .ok (.if_icmp .ge 89, 3) := by decide +kernel
theorem dX4_step_243 : decode cX4_step 243 = .ok (.aload_n 2, 1) := by decide +kernel
theorem dX4_step_244 : decode cX4_step 244 = .ok (.iload 4, 2) := by decide +kernel
theorem dX4_step_246 : decode cX4_step 246 = .ok (.aaload, 1) := by decide +kernel
theorem dX4_step_247 : decode cX4_step 247 = .ok (.astore 5, 2) := by decide +kernel
theorem dX4_step_249 : decode cX4_step 249 = .ok (.aload_n 0, 1) := by decide +kernel
theorem dX4_step_250 : decode cX4_step 250 = .ok (.getfield 37, 3) := by decide +kernel
theorem dX4_step_253 : decode cX4_step 253 = .ok (.aload_n 0, 1) := by decide +kernel
theorem dX4_step_254 : decode cX4_step 254 = .ok (.getfield 29, 3) := by decide +kernel
theorem dX4_step_257 : decode cX4_step 257 = .ok (.aaload, 1) := by decide +kernel
theorem dX4_step_258 : decode cX4_step 258 = .ok (.aload 5, 2) := by decide +kernel
theorem dX4_step_260 : decode cX4_step 260 = .ok (.iconst 0, 1) := by decide +kernel
theorem dX4_step_261 : decode cX4_step 261 = .ok (.iaload, 1) := by decide +kernel
theorem dX4_step_262 : decode cX4_step 262 = .ok (.aaload, 1) := by decide +kernel
theorem dX4_step_263 : decode cX4_step 263 = .ok (.astore 6, 2) := by decide +kernel
theorem dX4_step_265 : decode cX4_step 265 = .ok (.aload_n 0, 1) := by decide +kernel
theorem dX4_step_266 : decode cX4_step 266 = .ok (.getfield 37, 3) := by decide +kernel
theorem dX4_step_269 : decode cX4_step 269 = .ok (.aload_n 0, 1) := by decide +kernel
theorem dX4_step_270 : decode cX4_step 270 = .ok (.getfield 29, 3) := by decide +kernel
theorem dX4_step_273 : decode cX4_step 273 = .ok (.aaload, 1) := by decide +kernel
theorem dX4_step_274 : decode cX4_step 274 = .ok (.aload 5, 2) := by decide +kernel
theorem dX4_step_276 : decode cX4_step 276 = .ok (.iconst 0, 1) := by decide +kernel
theorem dX4_step_277 : decode cX4_step 277 = .ok (.iaload, 1) := by decide +kernel
theorem dX4_step_278 : decode cX4_step 278 = .ok (.iconst 2, 1) := by decide +kernel
theorem dX4_step_279 : decode cX4_step 279 = .ok (.newarray .int, 2) := by decide +kernel
theorem dX4_step_281 : decode cX4_step 281 = .ok (.dup, 1) := by decide +kernel
theorem dX4_step_282 : decode cX4_step 282 = .ok (.iconst 0, 1) := by decide +kernel
theorem dX4_step_283 : decode cX4_step 283 = .ok (.aload 5, 2) := by decide +kernel
theorem dX4_step_285 : decode cX4_step 285 = .ok (.iconst 1, 1) := by decide +kernel
theorem dX4_step_286 : decode cX4_step 286 = .ok (.iaload, 1) := by decide +kernel
theorem dX4_step_287 : decode cX4_step 287 = .ok (.iastore, 1) := by decide +kernel
theorem dX4_step_288 : decode cX4_step 288 = .ok (.dup, 1) := by decide +kernel
theorem dX4_step_289 : decode cX4_step 289 = .ok (.iconst 1, 1) := by decide +kernel
theorem dX4_step_290 : decode cX4_step 290 = .ok (.aload 6, 2) := by decide +kernel
theorem dX4_step_292 : decode cX4_step 292 = .ok (.ifnull 28, 3) := by decide +kernel
theorem dX4_step_295 : decode cX4_step 295 = .ok (.aload 6, 2) := by decide +kernel
theorem dX4_step_297 : decode cX4_step 297 = .ok (.iconst 0, 1) := by decide +kernel
theorem dX4_step_298 : decode cX4_step 298 = .ok (.iaload, 1) := by decide +kernel
theorem dX4_step_299 : decode cX4_step 299 = .ok (.aload 5, 2) := by decide +kernel
theorem dX4_step_301 : decode cX4_step 301 = .ok (.iconst 1, 1) := by decide +kernel
theorem dX4_step_302 : decode cX4_step 302 = .ok (.iaload, 1) := by decide +kernel
theorem dX4_step_303 : decode cX4_step 303 = .ok (.if_icmp .ne 17, 3) := by decide +kernel
theorem dX4_step_306 : decode cX4_step 306 = .ok (.bipush 9, 2) := by decide +kernel
theorem dX4_step_308 : decode cX4_step 308 = .ok (.aload 6, 2) := by decide +kernel
theorem dX4_step_310 : decode cX4_step 310 = .ok (.iconst 1, 1) := by decide +kernel
theorem dX4_step_311 : decode cX4_step 311 = .ok (.iaload, 1) := by decide +kernel
theorem dX4_step_312 : decode cX4_step 312 = .ok (.iconst 3, 1) := by decide +kernel
theorem dX4_step_313 : decode cX4_step 313 = .ok (.iadd, 1) := by decide +kernel
theorem dX4_step_314 : decode cX4_step 314 = .ok (.invokestatic 76, 3) := by decide +kernel
theorem dX4_step_317 : decode cX4_step 317 = .ok (.goto 4, 3) := by decide +kernel
theorem dX4_step_320 : decode cX4_step 320 = .ok (.iconst 3, 1) := by decide +kernel
theorem dX4_step_321 : decode cX4_step 321 = .ok (.iastore, 1) := by decide +kernel
theorem dX4_step_322 : decode cX4_step 322 = .ok (.aastore, 1) := by decide +kernel
theorem dX4_step_323 : decode cX4_step 323 = .ok (.iinc 4 1, 3) := by decide +kernel
theorem dX4_step_326 : decode cX4_step 326 = .ok (.goto (-89), 3) := by decide +kernel
theorem dX4_step_329 : decode cX4_step 329 = .ok (.aload_n 0, 1) := by decide +kernel
theorem dX4_step_330 : decode cX4_step 330 = .ok (.dup, 1) := by decide +kernel
theorem dX4_step_331 : decode cX4_step 331 = .ok (.getfield 59, 3) := by decide +kernel
theorem dX4_step_334 : decode cX4_step 334 = .ok (.iconst 1, 1) := by decide +kernel
theorem dX4_step_335 : decode cX4_step 335 = .ok (.iadd, 1) := by decide +kernel
theorem dX4_step_336 : decode cX4_step 336 = .ok (.putfield 59, 3) := by decide +kernel
theorem dX4_step_339 : decode cX4_step 339 = .ok (.aload_n 0, 1) := by decide +kernel
theorem dX4_step_340 : decode cX4_step 340 = .ok (.invokevirtual 82, 3) := by decide +kernel
theorem dX4_step_343 : decode cX4_step 343 = .ok (.iconst 1, 1) := by decide +kernel
theorem dX4_step_344 : decode cX4_step 344 = .ok (.ireturn, 1) := by decide +kernel
set_option maxRecDepth 20000 in
theorem ggX4_go_X4_step : GoodIn wsX4_go wsX4_step := goodIn_r _ [6, 7, 8, 9, 10, 11, 12, 13, 14, 15, 1, 16, 17, 18, 19, 20, 21, 22, 23, 24, 5, 25, 26, 27, 28, 29, 30, 31, 32, 33, 34, 35, 36, 37, 38, 39, 40, 41, 42, 43, 44, 45, 46, 47, 48, 49, 50, 51, 52, 53, 54, 55, 56, 57, 58, 59, 60, 61, 62, 63] (by decide +kernel) (by decide +kernel)
set_option maxRecDepth 20000 in
theorem gX4_go_X4_step : GoodIn wsX4_go (wsV RX4 99 RX4 yX4_step wsX4_step) := goodIn_app (goodIn_of _ (by decide +kernel)) ggX4_go_X4_step
theorem dX4_go_0 : decode cX4_go 0 = .ok (.iconst 0, 1) := by decide +kernel
theorem dX4_go_1 : decode cX4_go 1 = .ok (.istore_n 2, 1) := by decide +kernel
theorem dX4_go_2 : decode cX4_go 2 = .ok (.iload_n 2, 1) := by decide +kernel
theorem dX4_go_3 : decode cX4_go 3 = .ok (.iload_n 1, 1) := by decide +kernel
theorem dX4_go_4 : decode cX4_go 4 = .ok (.if_icmp .ge 23, 3) := by decide +kernel
theorem dX4_go_7 : decode cX4_go 7 = .ok (.aload_n 0, 1) := by decide +kernel
theorem dX4_go_8 : decode cX4_go 8 = .ok (.getfield 29, 3) := by decide +kernel
theorem dX4_go_11 : decode cX4_go 11 = .ok (.ifCond .lt 16, 3) := by decide +kernel
theorem dX4_go_14 : decode cX4_go 14 = .ok (.aload_n 0, 1) := by decide +kernel
theorem dX4_go_15 : decode cX4_go 15 = .ok (.invokevirtual 99, 3) := by decide +kernel
theorem dX4_go_18 : decode cX4_go 18 = .ok (.ifCond .eq 9, 3) := by decide +kernel
theorem dX4_go_21 : decode cX4_go 21 = .ok (.iinc 2 1, 3) := by decide +kernel
theorem dX4_go_24 : decode cX4_go 24 = .ok (.goto (-22), 3) := by decide +kernel
theorem dX4_go_27 : decode cX4_go 27 = .ok (.iload_n 2, 1) := by decide +kernel
theorem dX4_go_28 : decode cX4_go 28 = .ok (.ireturn, 1) := by decide +kernel
theorem dX4_night_0 : decode cX4_night 0 = .ok (.iconst 0, 1) := by decide +kernel
theorem dX4_night_1 : decode cX4_night 1 = .ok (.istore_n 1, 1) := by decide +kernel
theorem dX4_night_2 : decode cX4_night 2 = .ok (.aload_n 0, 1) := by decide +kernel
theorem dX4_night_3 : decode cX4_night 3 = .ok (.getfield 37, 3) := by decide +kernel
theorem dX4_night_6 : decode cX4_night 6 = .ok (.astore_n 2, 1) := by decide +kernel
theorem dX4_night_7 : decode cX4_night 7 = .ok (.aload_n 2, 1) := by decide +kernel
theorem dX4_night_8 : decode cX4_night 8 = .ok (.arraylength, 1) := by decide +kernel
theorem dX4_night_9 : decode cX4_night 9 = .ok (.istore_n 3, 1) := by decide +kernel
theorem dX4_night_10 : decode cX4_night 10 = .ok (.iconst 0, 1) := by decide +kernel
theorem dX4_night_11 : decode cX4_night 11 = .ok (.istore 4, 2) := by decide +kernel
theorem dX4_night_13 : decode cX4_night 13 = .ok (.iload 4, 2) := by decide +kernel
theorem dX4_night_15 : decode cX4_night 15 = .ok (.iload_n 3, 1) := by decide +kernel
theorem dX4_night_16 : decode cX4_night 16 = .ok (.if_icmp .ge 112, 3) := by decide +kernel
theorem dX4_night_19 : decode cX4_night 19 = .ok (.aload_n 2, 1) := by decide +kernel
theorem dX4_night_20 : decode cX4_night 20 = .ok (.iload 4, 2) := by decide +kernel
theorem dX4_night_22 : decode cX4_night 22 = .ok (.aaload, 1) := by decide +kernel
theorem dX4_night_23 : decode cX4_night 23 = .ok (.astore 5, 2) := by decide +kernel
theorem dX4_night_25 : decode cX4_night 25 = .ok (.iconst 0, 1) := by decide +kernel
theorem dX4_night_26 : decode cX4_night 26 = .ok (.istore 6, 2) := by decide +kernel
theorem dX4_night_28 : decode cX4_night 28 = .ok (.iload 6, 2) := by decide +kernel
theorem dX4_night_30 : decode cX4_night 30 = .ok (.bipush 10, 2) := by decide +kernel
theorem dX4_night_32 : decode cX4_night 32 = .ok (.if_icmp .ge 90, 3) := by decide +kernel
theorem dX4_night_35 : decode cX4_night 35 = .ok (.aload 5, 2) := by decide +kernel
theorem dX4_night_37 : decode cX4_night 37 = .ok (.iload 6, 2) := by decide +kernel
theorem dX4_night_39 : decode cX4_night 39 = .ok (.aaload, 1) := by decide +kernel
theorem dX4_night_40 : decode cX4_night 40 = .ok (.ifnonnull 6, 3) := by decide +kernel
theorem dX4_night_43 : decode cX4_night 43 = .ok (.goto 73, 3) := by decide +kernel
theorem dX4_night_46 : decode cX4_night 46 = .ok (.aload 5, 2) := by decide +kernel
theorem dX4_night_48 : decode cX4_night 48 = .ok (.iload 6, 2) := by decide +kernel
theorem dX4_night_50 : decode cX4_night 50 = .ok (.aaload, 1) := by decide +kernel
theorem dX4_night_51 : decode cX4_night 51 = .ok (.iconst 1, 1) := by decide +kernel
theorem dX4_night_52 : decode cX4_night 52 = .ok (.iaload, 1) := by decide +kernel
theorem dX4_night_53 : decode cX4_night 53 = .ok (.iconst 1, 1) := by decide +kernel
theorem dX4_night_54 : decode cX4_night 54 = .ok (.if_icmp .ne 7, 3) := by decide +kernel
theorem dX4_night_57 : decode cX4_night 57 = .ok (.iconst 1, 1) := by decide +kernel
theorem dX4_night_58 : decode cX4_night 58 = .ok (.goto 4, 3) := by decide +kernel
theorem dX4_night_61 : decode cX4_night 61 = .ok (.iconst 0, 1) := by decide +kernel
theorem dX4_night_62 : decode cX4_night 62 = .ok (.istore 7, 2) := by decide +kernel
theorem dX4_night_64 : decode cX4_night 64 = .ok (.aload 5, 2) := by decide +kernel
theorem dX4_night_66 : decode cX4_night 66 = .ok (.iload 6, 2) := by decide +kernel
theorem dX4_night_68 : decode cX4_night 68 = .ok (.iload 7, 2) := by decide +kernel
theorem dX4_night_70 : decode cX4_night 70 = .ok (.ifCond .eq 7, 3) := by decide +kernel
theorem dX4_night_73 : decode cX4_night 73 = .ok (.aconst_null, 1) := by decide +kernel
theorem dX4_night_74 : decode cX4_night 74 = .ok (.goto 28, 3) := by decide +kernel
theorem dX4_night_77 : decode cX4_night 77 = .ok (.iconst 2, 1) := by decide +kernel
theorem dX4_night_78 : decode cX4_night 78 = .ok (.newarray .int, 2) := by decide +kernel
theorem dX4_night_80 : decode cX4_night 80 = .ok (.dup, 1) := by decide +kernel
theorem dX4_night_81 : decode cX4_night 81 = .ok (.iconst 0, 1) := by decide +kernel
theorem dX4_night_82 : decode cX4_night 82 = .ok (.aload 5, 2) := by decide +kernel
theorem dX4_night_84 : decode cX4_night 84 = .ok (.iload 6, 2) := by decide +kernel
theorem dX4_night_86 : decode cX4_night 86 = .ok (.aaload, 1) := by decide +kernel
theorem dX4_night_87 : decode cX4_night 87 = .ok (.iconst 0, 1) := by decide +kernel
theorem dX4_night_88 : decode cX4_night 88 = .ok (.iaload, 1) := by decide +kernel
theorem dX4_night_89 : decode cX4_night 89 = .ok (.iastore, 1) := by decide +kernel
theorem dX4_night_90 : decode cX4_night 90 = .ok (.dup, 1) := by decide +kernel
theorem dX4_night_91 : decode cX4_night 91 = .ok (.iconst 1, 1) := by decide +kernel
theorem dX4_night_92 : decode cX4_night 92 = .ok (.aload 5, 2) := by decide +kernel
theorem dX4_night_94 : decode cX4_night 94 = .ok (.iload 6, 2) := by decide +kernel
theorem dX4_night_96 : decode cX4_night 96 = .ok (.aaload, 1) := by decide +kernel
theorem dX4_night_97 : decode cX4_night 97 = .ok (.iconst 1, 1) := by decide +kernel
theorem dX4_night_98 : decode cX4_night 98 = .ok (.iaload, 1) := by decide +kernel
theorem dX4_night_99 : decode cX4_night 99 = .ok (.iconst 1, 1) := by decide +kernel
theorem dX4_night_100 : decode cX4_night 100 = .ok (.isub, 1) := by decide +kernel
theorem dX4_night_101 : decode cX4_night 101 = .ok (.iastore, 1) := by decide +kernel
theorem dX4_night_102 : decode cX4_night 102 = .ok (.aastore, 1) := by decide +kernel
theorem dX4_night_103 : decode cX4_night 103 = .ok (.iload_n 1, 1) := by decide +kernel
theorem dX4_night_104 : decode cX4_night 104 = .ok (.iload 7, 2) := by decide +kernel
theorem dX4_night_106 : decode cX4_night 106 = .ok (.ifCond .eq 7, 3) := by decide +kernel
theorem dX4_night_109 : decode cX4_night 109 = .ok (.iconst 1, 1) := by decide +kernel
theorem dX4_night_110 : decode cX4_night 110 = .ok (.goto 4, 3) := by decide +kernel
theorem dX4_night_113 : decode cX4_night 113 = .ok (.iconst 0, 1) := by decide +kernel
theorem dX4_night_114 : decode cX4_night 114 = .ok (.iadd, 1) := by decide +kernel
theorem dX4_night_115 : decode cX4_night 115 = .ok (.istore_n 1, 1) := by decide +kernel
theorem dX4_night_116 : decode cX4_night 116 = .ok (.iinc 6 1, 3) := by decide +kernel
theorem dX4_night_119 : decode cX4_night 119 = .ok (.goto (-91), 3) := by decide +kernel
theorem dX4_night_122 : decode cX4_night 122 = .ok (.iinc 4 1, 3) := by decide +kernel
theorem dX4_night_125 : decode cX4_night 125 = .ok (.goto (-112), 3) := by decide +kernel
theorem dX4_night_128 : decode cX4_night 128 = .ok (.iload_n 1, 1) := by decide +kernel
theorem dX4_night_129 : decode cX4_night 129 = .ok (.ireturn, 1) := by decide +kernel
set_option maxRecDepth 20000 in
theorem ggX4_knows_X4_to : GoodIn wsX4_knows wsX4_to := goodIn_r _ [9, 3, 4, 10, 11, 12, 13, 14, 15, 16, 17, 18, 19, 20, 21, 22, 23] (by decide +kernel) (by decide +kernel)
set_option maxRecDepth 20000 in
theorem gX4_knows_X4_to : GoodIn wsX4_knows (wsV RX4 89 RX4 yX4_to wsX4_to) := goodIn_app (goodIn_of _ (by decide +kernel)) ggX4_knows_X4_to
theorem dX4_knows_0 : decode cX4_knows 0 = .ok (.aload_n 0, 1) := by decide +kernel
theorem dX4_knows_1 : decode cX4_knows 1 = .ok (.getfield 25, 3) := by decide +kernel
theorem dX4_knows_4 : decode cX4_knows 4 = .ok (.istore_n 2, 1) := by decide +kernel
theorem dX4_knows_5 : decode cX4_knows 5 = .ok (.iconst 0, 1) := by decide +kernel
theorem dX4_knows_6 : decode cX4_knows 6 = .ok (.istore_n 3, 1) := by decide +kernel
theorem dX4_knows_7 : decode cX4_knows 7 = .ok (.iload_n 3, 1) := by decide +kernel
theorem dX4_knows_8 : decode cX4_knows 8 = .ok (.bipush 10, 2) := by decide +kernel
theorem dX4_knows_10 : decode cX4_knows 10 = .ok (.if_icmp .ge 64, 3) := by decide +kernel
theorem dX4_knows_13 : decode cX4_knows 13 = .ok (.iload_n 2, 1) := by decide +kernel
theorem dX4_knows_14 : decode cX4_knows 14 = .ok (.iload_n 1, 1) := by decide +kernel
theorem dX4_knows_15 : decode cX4_knows 15 = .ok (.if_icmp .ne 5, 3) := by decide +kernel
theorem dX4_knows_18 : decode cX4_knows 18 = .ok (.iconst 1, 1) := by decide +kernel
theorem dX4_knows_19 : decode cX4_knows 19 = .ok (.ireturn, 1) := by decide +kernel
theorem dX4_knows_20 : decode cX4_knows 20 = .ok (.aload_n 0, 1) := by decide +kernel
theorem dX4_knows_21 : decode cX4_knows 21 = .ok (.getfield 37, 3) := by decide +kernel
theorem dX4_knows_24 : decode cX4_knows 24 = .ok (.iload_n 1, 1) := by decide +kernel
theorem dX4_knows_25 : decode cX4_knows 25 = .ok (.aaload, 1) := by decide +kernel
theorem dX4_knows_26 : decode cX4_knows 26 = .ok (.iload_n 2, 1) := by decide +kernel
theorem dX4_knows_27 : decode cX4_knows 27 = .ok (.aaload, 1) := by decide +kernel
theorem dX4_knows_28 : decode cX4_knows 28 = .ok (.astore 4, 2) := by decide +kernel
theorem dX4_knows_30 : decode cX4_knows 30 = .ok (.aload 4, 2) := by decide +kernel
theorem dX4_knows_32 : decode cX4_knows 32 = .ok (.ifnull 24, 3) := by decide +kernel
theorem dX4_knows_35 : decode cX4_knows 35 = .ok (.aload_n 0, 1) := by decide +kernel
theorem dX4_knows_36 : decode cX4_knows 36 = .ok (.getfield 9, 3) := by decide +kernel
theorem dX4_knows_39 : decode cX4_knows 39 = .ok (.aload_n 0, 1) := by decide +kernel
theorem dX4_knows_40 : decode cX4_knows 40 = .ok (.getfield 15, 3) := by decide +kernel
theorem dX4_knows_43 : decode cX4_knows 43 = .ok (.iload_n 2, 1) := by decide +kernel
theorem dX4_knows_44 : decode cX4_knows 44 = .ok (.aaload, 1) := by decide +kernel
theorem dX4_knows_45 : decode cX4_knows 45 = .ok (.aload 4, 2) := by decide +kernel
theorem dX4_knows_47 : decode cX4_knows 47 = .ok (.iconst 0, 1) := by decide +kernel
theorem dX4_knows_48 : decode cX4_knows 48 = .ok (.iaload, 1) := by decide +kernel
theorem dX4_knows_49 : decode cX4_knows 49 = .ok (.iaload, 1) := by decide +kernel
theorem dX4_knows_50 : decode cX4_knows 50 = .ok (.aaload, 1) := by decide +kernel
theorem dX4_knows_51 : decode cX4_knows 51 = .ok (.iconst 3, 1) := by decide +kernel
theorem dX4_knows_52 : decode cX4_knows 52 = .ok (.iaload, 1) := by decide +kernel
theorem dX4_knows_53 : decode cX4_knows 53 = .ok (.ifCond .ne 5, 3) := by decide +kernel
theorem dX4_knows_56 : decode cX4_knows 56 = .ok (.iconst 0, 1) := by decide +kernel
theorem dX4_knows_57 : decode cX4_knows 57 = .ok (.ireturn, 1) := by decide +kernel
theorem dX4_knows_58 : decode cX4_knows 58 = .ok (.aload_n 0, 1) := by decide +kernel
theorem dX4_knows_59 : decode cX4_knows 59 = .ok (.iload_n 2, 1) := by decide +kernel
theorem dX4_knows_60 : decode cX4_knows 60 = .ok (.aload 4, 2) := by decide +kernel
theorem dX4_knows_62 : decode cX4_knows 62 = .ok (.iconst 0, 1) := by decide +kernel
theorem dX4_knows_63 : decode cX4_knows 63 = .ok (.iaload, 1) := by decide +kernel
theorem dX4_knows_64 : decode cX4_knows 64 = .ok (.invokevirtual 89, 3) := by decide +kernel
theorem dX4_knows_67 : decode cX4_knows 67 = .ok (.istore_n 2, 1) := by decide +kernel
theorem dX4_knows_68 : decode cX4_knows 68 = .ok (.iinc 3 1, 3) := by decide +kernel
theorem dX4_knows_71 : decode cX4_knows 71 = .ok (.goto (-64), 3) := by decide +kernel
theorem dX4_knows_74 : decode cX4_knows 74 = .ok (.iload_n 2, 1) := by decide +kernel
theorem dX4_knows_75 : decode cX4_knows 75 = .ok (.iload_n 1, 1) := by decide +kernel
theorem dX4_knows_76 : decode cX4_knows 76 = .ok (.if_icmp .ne 7, 3) := by decide +kernel
theorem dX4_knows_79 : decode cX4_knows 79 = .ok (.iconst 1, 1) := by decide +kernel
theorem dX4_knows_80 : decode cX4_knows 80 = .ok (.goto 4, 3) := by decide +kernel
theorem dX4_knows_83 : decode cX4_knows 83 = .ok (.iconst 0, 1) := by decide +kernel
theorem dX4_knows_84 : decode cX4_knows 84 = .ok (.ireturn, 1) := by decide +kernel
set_option maxRecDepth 20000 in
theorem ggX4_isSame_X3_places : GoodIn wsX4_isSame wsX3_places := goodIn_r _ [18, 19, 228, 229, 230, 231, 232, 233, 234, 235, 236, 237, 238] (by decide +kernel) (by decide +kernel)
set_option maxRecDepth 20000 in
theorem gX4_isSame_X3_places : GoodIn wsX4_isSame (wsV RX4 103 RX3 yX3_places wsX3_places) := goodIn_app (goodIn_of _ (by decide +kernel)) ggX4_isSame_X3_places
set_option maxRecDepth 20000 in
theorem ggX4_isSame_X3_whereIs : GoodIn wsX4_isSame wsX3_whereIs := goodIn_r _ [23, 19, 24, 228, 229, 230, 231, 232, 233, 234, 235, 236, 237, 238, 239, 240, 241, 242, 243, 244, 245, 246, 247, 248, 249, 250, 251, 252, 253] (by decide +kernel) (by decide +kernel)
set_option maxRecDepth 20000 in
theorem gX4_isSame_X3_whereIs : GoodIn wsX4_isSame (wsV RX4 108 RX3 yX3_whereIs wsX3_whereIs) := goodIn_app (goodIn_of _ (by decide +kernel)) ggX4_isSame_X3_whereIs
set_option maxRecDepth 20000 in
theorem ggX4_isSame_X3_coins : GoodIn wsX4_isSame wsX3_coins := goodIn_r _ [28, 24, 228, 229, 230, 239, 240, 241, 242, 243, 244, 245, 246, 247, 248, 249, 250, 251, 252, 253] (by decide +kernel) (by decide +kernel)
set_option maxRecDepth 20000 in
theorem gX4_isSame_X3_coins : GoodIn wsX4_isSame (wsV RX4 111 RX3 yX3_coins wsX3_coins) := goodIn_app (goodIn_of _ (by decide +kernel)) ggX4_isSame_X3_coins
set_option maxRecDepth 20000 in
theorem ggX4_isSame_X3_goal : GoodIn wsX4_isSame wsX3_goal := goodIn_r _ [32, 24, 228, 229, 230, 239, 240, 241, 242, 243, 244, 245, 246, 247, 248, 249, 250, 251, 252, 253] (by decide +kernel) (by decide +kernel)
set_option maxRecDepth 20000 in
theorem gX4_isSame_X3_goal : GoodIn wsX4_isSame (wsV RX4 113 RX3 yX3_goal wsX3_goal) := goodIn_app (goodIn_of _ (by decide +kernel)) ggX4_isSame_X3_goal
set_option maxRecDepth 20000 in
theorem ggX4_isSame_X3_wayLength : GoodIn wsX4_isSame wsX3_wayLength := goodIn_r _ [36, 24, 228, 229, 230, 239, 240, 241, 242, 243, 244, 245, 246, 247, 248, 249, 250, 251, 252, 253] (by decide +kernel) (by decide +kernel)
set_option maxRecDepth 20000 in
theorem gX4_isSame_X3_wayLength : GoodIn wsX4_isSame (wsV RX4 115 RX3 yX3_wayLength wsX3_wayLength) := goodIn_app (goodIn_of _ (by decide +kernel)) ggX4_isSame_X3_wayLength
set_option maxRecDepth 20000 in
theorem ggX4_isSame_X3_milesWalked : GoodIn wsX4_isSame wsX3_milesWalked := goodIn_r _ [40, 24, 228, 229, 230, 239, 240, 241, 242, 243, 244, 245, 246, 247, 248, 249, 250, 251, 252, 253] (by decide +kernel) (by decide +kernel)
set_option maxRecDepth 20000 in
theorem gX4_isSame_X3_milesWalked : GoodIn wsX4_isSame (wsV RX4 118 RX3 yX3_milesWalked wsX3_milesWalked) := goodIn_app (goodIn_of _ (by decide +kernel)) ggX4_isSame_X3_milesWalked
set_option maxRecDepth 20000 in
theorem ggX4_isSame_X3_milesDoubled : GoodIn wsX4_isSame wsX3_milesDoubled := goodIn_r _ [44, 24, 228, 229, 230, 239, 240, 241, 242, 243, 244, 245, 246, 247, 248, 249, 250, 251, 252, 253] (by decide +kernel) (by decide +kernel)
set_option maxRecDepth 20000 in
theorem gX4_isSame_X3_milesDoubled : GoodIn wsX4_isSame (wsV RX4 121 RX3 yX3_milesDoubled wsX3_milesDoubled) := goodIn_app (goodIn_of _ (by decide +kernel)) ggX4_isSame_X3_milesDoubled
set_option maxRecDepth 20000 in
theorem ggX4_isSame_X3_errandsDone : GoodIn wsX4_isSame wsX3_errandsDone := goodIn_r _ [48, 24, 228, 229, 230, 239, 240, 241, 242, 243, 244, 245, 246, 247, 248, 249, 250, 251, 252, 253] (by decide +kernel) (by decide +kernel)
set_option maxRecDepth 20000 in
theorem gX4_isSame_X3_errandsDone : GoodIn wsX4_isSame (wsV RX4 124 RX3 yX3_errandsDone wsX3_errandsDone) := goodIn_app (goodIn_of _ (by decide +kernel)) ggX4_isSame_X3_errandsDone
set_option maxRecDepth 20000 in
theorem ggX4_isSame_X3_errandsInVain : GoodIn wsX4_isSame wsX3_errandsInVain := goodIn_r _ [52, 24, 228, 229, 230, 239, 240, 241, 242, 243, 244, 245, 246, 247, 248, 249, 250, 251, 252, 253] (by decide +kernel) (by decide +kernel)
set_option maxRecDepth 20000 in
theorem gX4_isSame_X3_errandsInVain : GoodIn wsX4_isSame (wsV RX4 127 RX3 yX3_errandsInVain wsX3_errandsInVain) := goodIn_app (goodIn_of _ (by decide +kernel)) ggX4_isSame_X3_errandsInVain
set_option maxRecDepth 20000 in
theorem ggX4_isSame_X3_asked : GoodIn wsX4_isSame wsX3_asked := goodIn_r _ [56, 24, 228, 229, 230, 239, 240, 241, 242, 243, 244, 245, 246, 247, 248, 249, 250, 251, 252, 253] (by decide +kernel) (by decide +kernel)
set_option maxRecDepth 20000 in
theorem gX4_isSame_X3_asked : GoodIn wsX4_isSame (wsV RX4 130 RX3 yX3_asked wsX3_asked) := goodIn_app (goodIn_of _ (by decide +kernel)) ggX4_isSame_X3_asked
set_option maxRecDepth 20000 in
theorem ggX4_isSame_X3_exitsOf : GoodIn wsX4_isSame wsX3_exitsOf := goodIn_ca (goodIn_r _ [60, 19, 61, 62, 63, 17, 64, 65, 66, 67, 68, 69, 70, 71, 72, 228, 229, 230, 231, 232, 233, 234, 235, 236, 237, 238] (by decide +kernel) (by decide +kernel)) (goodIn_sub (fun _ h => List.mem_cons_of_mem _ (List.mem_append_right _ h)) (by decide +kernel))
set_option maxRecDepth 20000 in
theorem gX4_isSame_X3_exitsOf : GoodIn wsX4_isSame (wsV RX4 132 RX3 yX3_exitsOf wsX3_exitsOf) := goodIn_app (goodIn_of _ (by decide +kernel)) ggX4_isSame_X3_exitsOf
set_option maxRecDepth 20000 in
theorem ggX4_isSame_X3_hasShepherd : GoodIn wsX4_isSame wsX3_hasShepherd := goodIn_ca (goodIn_r _ [76, 19, 61, 62, 63, 17, 64, 65, 66, 67, 68, 69, 70, 71, 72, 228, 229, 230, 231, 232, 233, 234, 235, 236, 237, 238] (by decide +kernel) (by decide +kernel)) (goodIn_sub (fun _ h => List.mem_cons_of_mem _ (List.mem_append_right _ h)) (by decide +kernel))
set_option maxRecDepth 20000 in
theorem gX4_isSame_X3_hasShepherd : GoodIn wsX4_isSame (wsV RX4 136 RX3 yX3_hasShepherd wsX3_hasShepherd) := goodIn_app (goodIn_of _ (by decide +kernel)) ggX4_isSame_X3_hasShepherd
set_option maxRecDepth 20000 in
theorem ggX4_isSame_X3_knowsWay : GoodIn wsX4_isSame wsX3_knowsWay := goodIn_ca (goodIn_r _ [80, 24, 61, 62, 63, 17, 64, 65, 66, 19, 67, 68, 69, 70, 71, 72, 81, 82, 83, 84, 85, 86, 87, 88, 89, 90, 91, 92, 93, 94, 95, 96, 97, 98, 99, 100, 101, 102, 103, 104, 105, 106, 107, 108, 109, 110, 111, 112, 113, 114, 115, 116, 228, 229, 230, 231, 232, 233, 234, 235, 236, 237, 238, 239, 240, 241, 242, 243, 244, 245, 246, 247, 248, 249, 250, 251, 252, 253, 254, 255] (by decide +kernel) (by decide +kernel)) (goodIn_sub (fun _ h => List.mem_cons_of_mem _ (List.mem_append_right _ h)) (by decide +kernel))
set_option maxRecDepth 20000 in
theorem gX4_isSame_X3_knowsWay : GoodIn wsX4_isSame (wsV RX4 139 RX3 yX3_knowsWay wsX3_knowsWay) := goodIn_app (goodIn_of _ (by decide +kernel)) ggX4_isSame_X3_knowsWay
set_option maxRecDepth 20000 in
theorem ggX4_isSame_X4_knows : GoodIn wsX4_isSame wsX4_knows := goodIn_r _ [121, 2, 13, 12, 1, 122, 123, 124, 120, 125, 214, 215, 216, 217, 218, 219, 220, 221, 222, 223, 224, 225, 226, 227] (by decide +kernel) (by decide +kernel)
set_option maxRecDepth 20000 in
theorem gX4_isSame_X4_knows : GoodIn wsX4_isSame (wsV RX4 142 RX4 yX4_knows wsX4_knows) := goodIn_app (goodIn_of _ (by decide +kernel)) ggX4_isSame_X4_knows
