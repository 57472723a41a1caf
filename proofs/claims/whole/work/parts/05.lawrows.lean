theorem dL_addPlace_0 : decode cL_addPlace 0 = .ok (.aload_n 1, 1) := by decide +kernel
theorem dL_addPlace_1 : decode cL_addPlace 1 = .ok (.iconst 0, 1) := by decide +kernel
theorem dL_addPlace_2 : decode cL_addPlace 2 = .ok (.aload_n 0, 1) := by decide +kernel
theorem dL_addPlace_3 : decode cL_addPlace 3 = .ok (.invokevirtual 7, 3) := by decide +kernel
theorem dL_addPlace_6 : decode cL_addPlace 6 = .ok (.i2l, 1) := by decide +kernel
theorem dL_addPlace_7 : decode cL_addPlace 7 = .ok (.lastore, 1) := by decide +kernel
theorem dL_addPlace_8 : decode cL_addPlace 8 = .ok (.goto 6, 3) := by decide +kernel
theorem dL_addPlace_11 : decode cL_addPlace 11 = .ok (.astore_n 2, 1) := by decide +kernel
theorem dL_addPlace_12 : decode cL_addPlace 12 = .ok (.iconst 1, 1) := by decide +kernel
theorem dL_addPlace_13 : decode cL_addPlace 13 = .ok (.ireturn, 1) := by decide +kernel
theorem dL_addPlace_14 : decode cL_addPlace 14 = .ok (.iconst 0, 1) := by decide +kernel
theorem dL_addPlace_15 : decode cL_addPlace 15 = .ok (.ireturn, 1) := by decide +kernel
set_option maxRecDepth 20000 in
theorem ggL_addRoad_X3_addRoad : GoodIn wsL_addRoad wsX3_addRoad := goodIn_ca (goodIn_ca (goodIn_ca (goodIn_r _ [8, 9, 10, 11, 12, 13, 14, 15, 16, 7, 17, 18, 19, 20, 21, 22, 23, 24, 25, 26, 27, 28, 29, 30, 31, 32, 33, 34, 35, 36, 37, 38, 39, 40, 41, 42, 43, 44, 45, 46, 47, 48, 49, 50, 51, 52, 53, 54, 55, 56, 57, 58, 59, 60] (by decide +kernel) (by decide +kernel)) (goodIn_sub (fun _ h => List.mem_cons_of_mem _ (List.mem_append_left _ (List.mem_append_left _ (List.mem_append_right _ h)))) (by decide +kernel))) (goodIn_sub (fun _ h => List.mem_cons_of_mem _ (List.mem_append_left _ (List.mem_append_right _ h))) (by decide +kernel))) (goodIn_sub (fun _ h => List.mem_cons_of_mem _ (List.mem_append_right _ h)) (by decide +kernel))
set_option maxRecDepth 20000 in
theorem gL_addRoad_X3_addRoad : GoodIn wsL_addRoad (wsV RL 15 RX3 yX3_addRoad wsX3_addRoad) := goodIn_app (goodIn_of _ (by decide +kernel)) ggL_addRoad_X3_addRoad
theorem dL_addRoad_0 : decode cL_addRoad 0 = .ok (.aload 4, 2) := by decide +kernel
theorem dL_addRoad_2 : decode cL_addRoad 2 = .ok (.iconst 0, 1) := by decide +kernel
theorem dL_addRoad_3 : decode cL_addRoad 3 = .ok (.aload_n 0, 1) := by decide +kernel
theorem dL_addRoad_4 : decode cL_addRoad 4 = .ok (.iload_n 1, 1) := by decide +kernel
theorem dL_addRoad_5 : decode cL_addRoad 5 = .ok (.iload_n 2, 1) := by decide +kernel
theorem dL_addRoad_6 : decode cL_addRoad 6 = .ok (.iload_n 3, 1) := by decide +kernel
theorem dL_addRoad_7 : decode cL_addRoad 7 = .ok (.invokevirtual 15, 3) := by decide +kernel
theorem dL_addRoad_10 : decode cL_addRoad 10 = .ok (.i2l, 1) := by decide +kernel
theorem dL_addRoad_11 : decode cL_addRoad 11 = .ok (.lastore, 1) := by decide +kernel
theorem dL_addRoad_12 : decode cL_addRoad 12 = .ok (.goto 15, 3) := by decide +kernel
theorem dL_addRoad_15 : decode cL_addRoad 15 = .ok (.astore 5, 2) := by decide +kernel
theorem dL_addRoad_17 : decode cL_addRoad 17 = .ok (.iconst 1, 1) := by decide +kernel
theorem dL_addRoad_18 : decode cL_addRoad 18 = .ok (.ireturn, 1) := by decide +kernel
theorem dL_addRoad_19 : decode cL_addRoad 19 = .ok (.astore 5, 2) := by decide +kernel
theorem dL_addRoad_21 : decode cL_addRoad 21 = .ok (.iconst 2, 1) := by decide +kernel
theorem dL_addRoad_22 : decode cL_addRoad 22 = .ok (.ireturn, 1) := by decide +kernel
theorem dL_addRoad_23 : decode cL_addRoad 23 = .ok (.astore 5, 2) := by decide +kernel
theorem dL_addRoad_25 : decode cL_addRoad 25 = .ok (.iconst 3, 1) := by decide +kernel
theorem dL_addRoad_26 : decode cL_addRoad 26 = .ok (.ireturn, 1) := by decide +kernel
theorem dL_addRoad_27 : decode cL_addRoad 27 = .ok (.iconst 0, 1) := by decide +kernel
theorem dL_addRoad_28 : decode cL_addRoad 28 = .ok (.ireturn, 1) := by decide +kernel
set_option maxRecDepth 20000 in
theorem ggL_turnRoad_X3_turnRoad : GoodIn wsL_turnRoad wsX3_turnRoad := goodIn_ca (goodIn_r _ [6, 7, 8, 9, 10, 5, 11, 12, 13, 14, 15, 16, 17, 18, 19, 20, 21, 22, 23, 24, 25, 26, 27, 28, 29, 30, 31, 32, 33, 34, 35, 36, 37, 38, 39, 40, 41, 42, 43] (by decide +kernel) (by decide +kernel)) (goodIn_sub (fun _ h => List.mem_cons_of_mem _ (List.mem_append_right _ h)) (by decide +kernel))
set_option maxRecDepth 20000 in
theorem gL_turnRoad_X3_turnRoad : GoodIn wsL_turnRoad (wsV RL 23 RX3 yX3_turnRoad wsX3_turnRoad) := goodIn_app (goodIn_of _ (by decide +kernel)) ggL_turnRoad_X3_turnRoad
theorem dL_turnRoad_0 : decode cL_turnRoad 0 = .ok (.aload_n 3, 1) := by decide +kernel
theorem dL_turnRoad_1 : decode cL_turnRoad 1 = .ok (.iconst 0, 1) := by decide +kernel
theorem dL_turnRoad_2 : decode cL_turnRoad 2 = .ok (.aload_n 0, 1) := by decide +kernel
theorem dL_turnRoad_3 : decode cL_turnRoad 3 = .ok (.iload_n 1, 1) := by decide +kernel
theorem dL_turnRoad_4 : decode cL_turnRoad 4 = .ok (.iload_n 2, 1) := by decide +kernel
theorem dL_turnRoad_5 : decode cL_turnRoad 5 = .ok (.invokevirtual 23, 3) := by decide +kernel
theorem dL_turnRoad_8 : decode cL_turnRoad 8 = .ok (.ifCond .eq 7, 3) := by decide +kernel
theorem dL_turnRoad_11 : decode cL_turnRoad 11 = .ok (.lconst 1, 1) := by decide +kernel
theorem dL_turnRoad_12 : decode cL_turnRoad 12 = .ok (.goto 4, 3) := by decide +kernel
theorem dL_turnRoad_15 : decode cL_turnRoad 15 = .ok (.lconst 0, 1) := by decide +kernel
theorem dL_turnRoad_16 : decode cL_turnRoad 16 = .ok (.lastore, 1) := by decide +kernel
theorem dL_turnRoad_17 : decode cL_turnRoad 17 = .ok (.goto 7, 3) := by decide +kernel
theorem dL_turnRoad_20 : decode cL_turnRoad 20 = .ok (.astore 4, 2) := by decide +kernel
theorem dL_turnRoad_22 : decode cL_turnRoad 22 = .ok (.iconst 1, 1) := by decide +kernel
theorem dL_turnRoad_23 : decode cL_turnRoad 23 = .ok (.ireturn, 1) := by decide +kernel
theorem dL_turnRoad_24 : decode cL_turnRoad 24 = .ok (.iconst 0, 1) := by decide +kernel
theorem dL_turnRoad_25 : decode cL_turnRoad 25 = .ok (.ireturn, 1) := by decide +kernel
set_option maxRecDepth 20000 in
theorem ggL_turnShepherd_X3_turnShepherd : GoodIn wsL_turnShepherd wsX3_turnShepherd := goodIn_ca (goodIn_r _ [6, 7, 8, 9, 10, 5, 11, 12, 13, 14, 15, 16, 17, 18, 19, 20, 21, 22, 23, 24, 25, 26, 27, 28, 29, 30] (by decide +kernel) (by decide +kernel)) (goodIn_sub (fun _ h => List.mem_cons_of_mem _ (List.mem_append_right _ h)) (by decide +kernel))
set_option maxRecDepth 20000 in
theorem gL_turnShepherd_X3_turnShepherd : GoodIn wsL_turnShepherd (wsV RL 27 RX3 yX3_turnShepherd wsX3_turnShepherd) := goodIn_app (goodIn_of _ (by decide +kernel)) ggL_turnShepherd_X3_turnShepherd
theorem dL_turnShepherd_0 : decode cL_turnShepherd 0 = .ok (.aload_n 2, 1) := by decide +kernel
theorem dL_turnShepherd_1 : decode cL_turnShepherd 1 = .ok (.iconst 0, 1) := by decide +kernel
theorem dL_turnShepherd_2 : decode cL_turnShepherd 2 = .ok (.aload_n 0, 1) := by decide +kernel
theorem dL_turnShepherd_3 : decode cL_turnShepherd 3 = .ok (.iload_n 1, 1) := by decide +kernel
theorem dL_turnShepherd_4 : decode cL_turnShepherd 4 = .ok (.invokevirtual 27, 3) := by decide +kernel
theorem dL_turnShepherd_7 : decode cL_turnShepherd 7 = .ok (.ifCond .eq 7, 3) := by decide +kernel
theorem dL_turnShepherd_10 : decode cL_turnShepherd 10 = .ok (.lconst 1, 1) := by decide +kernel
theorem dL_turnShepherd_11 : decode cL_turnShepherd 11 = .ok (.goto 4, 3) := by decide +kernel
theorem dL_turnShepherd_14 : decode cL_turnShepherd 14 = .ok (.lconst 0, 1) := by decide +kernel
theorem dL_turnShepherd_15 : decode cL_turnShepherd 15 = .ok (.lastore, 1) := by decide +kernel
theorem dL_turnShepherd_16 : decode cL_turnShepherd 16 = .ok (.goto 6, 3) := by decide +kernel
theorem dL_turnShepherd_19 : decode cL_turnShepherd 19 = .ok (.astore_n 3, 1) := by decide +kernel
theorem dL_turnShepherd_20 : decode cL_turnShepherd 20 = .ok (.iconst 1, 1) := by decide +kernel
theorem dL_turnShepherd_21 : decode cL_turnShepherd 21 = .ok (.ireturn, 1) := by decide +kernel
theorem dL_turnShepherd_22 : decode cL_turnShepherd 22 = .ok (.iconst 0, 1) := by decide +kernel
theorem dL_turnShepherd_23 : decode cL_turnShepherd 23 = .ok (.ireturn, 1) := by decide +kernel
set_option maxRecDepth 20000 in
theorem ggL_pay_X3_pay : GoodIn wsL_pay wsX3_pay := goodIn_ca (goodIn_r _ [6, 7, 8, 9, 10, 11, 12, 13, 14, 5, 15, 16, 17, 18, 19, 20, 21, 22, 23, 24, 25, 26, 27, 28, 29, 30, 31, 32, 33, 34, 35] (by decide +kernel) (by decide +kernel)) (goodIn_sub (fun _ h => List.mem_cons_of_mem _ (List.mem_append_right _ h)) (by decide +kernel))
set_option maxRecDepth 20000 in
theorem gL_pay_X3_pay : GoodIn wsL_pay (wsV RL 31 RX3 yX3_pay wsX3_pay) := goodIn_app (goodIn_of _ (by decide +kernel)) ggL_pay_X3_pay
theorem dL_pay_0 : decode cL_pay 0 = .ok (.aload_n 2, 1) := by decide +kernel
theorem dL_pay_1 : decode cL_pay 1 = .ok (.iconst 0, 1) := by decide +kernel
theorem dL_pay_2 : decode cL_pay 2 = .ok (.aload_n 0, 1) := by decide +kernel
theorem dL_pay_3 : decode cL_pay 3 = .ok (.iload_n 1, 1) := by decide +kernel
theorem dL_pay_4 : decode cL_pay 4 = .ok (.invokevirtual 31, 3) := by decide +kernel
theorem dL_pay_7 : decode cL_pay 7 = .ok (.i2l, 1) := by decide +kernel
theorem dL_pay_8 : decode cL_pay 8 = .ok (.lastore, 1) := by decide +kernel
theorem dL_pay_9 : decode cL_pay 9 = .ok (.goto 6, 3) := by decide +kernel
theorem dL_pay_12 : decode cL_pay 12 = .ok (.astore_n 3, 1) := by decide +kernel
theorem dL_pay_13 : decode cL_pay 13 = .ok (.iconst 1, 1) := by decide +kernel
theorem dL_pay_14 : decode cL_pay 14 = .ok (.ireturn, 1) := by decide +kernel
theorem dL_pay_15 : decode cL_pay 15 = .ok (.iconst 0, 1) := by decide +kernel
theorem dL_pay_16 : decode cL_pay 16 = .ok (.ireturn, 1) := by decide +kernel
set_option maxRecDepth 20000 in
theorem ggL_beginErrand_X3_beginErrand : GoodIn wsL_beginErrand wsX3_beginErrand := goodIn_ca (goodIn_ca (goodIn_r _ [7, 8, 9, 10, 11, 12, 6, 13, 14, 15, 16, 17, 18, 19, 20, 21, 22, 23, 24, 25, 26, 27, 28, 29, 30, 31, 32, 33, 34, 35, 36, 37, 38, 39, 40, 41, 42, 43, 44, 45, 46, 47, 48, 49, 50, 51, 52, 53, 54, 55, 56, 57, 58, 59, 60, 61, 62, 63, 64, 65, 66, 67, 68, 69, 70, 71, 72, 73, 74, 75, 76, 77, 78, 79, 80, 81, 82, 83, 84, 85, 86, 87, 88, 89, 90, 91, 92, 93, 94, 95, 96, 97, 98, 99] (by decide +kernel) (by decide +kernel)) (goodIn_sub (fun _ h => List.mem_cons_of_mem _ (List.mem_append_left _ (List.mem_append_right _ h))) (by decide +kernel))) (goodIn_sub (fun _ h => List.mem_cons_of_mem _ (List.mem_append_right _ h)) (by decide +kernel))
set_option maxRecDepth 20000 in
theorem gL_beginErrand_X3_beginErrand : GoodIn wsL_beginErrand (wsV RL 35 RX3 yX3_beginErrand wsX3_beginErrand) := goodIn_app (goodIn_of _ (by decide +kernel)) ggL_beginErrand_X3_beginErrand
theorem dL_beginErrand_0 : decode cL_beginErrand 0 = .ok (.aload_n 2, 1) := by decide +kernel
theorem dL_beginErrand_1 : decode cL_beginErrand 1 = .ok (.iconst 0, 1) := by decide +kernel
theorem dL_beginErrand_2 : decode cL_beginErrand 2 = .ok (.aload_n 0, 1) := by decide +kernel
theorem dL_beginErrand_3 : decode cL_beginErrand 3 = .ok (.iload_n 1, 1) := by decide +kernel
theorem dL_beginErrand_4 : decode cL_beginErrand 4 = .ok (.invokevirtual 35, 3) := by decide +kernel
theorem dL_beginErrand_7 : decode cL_beginErrand 7 = .ok (.i2l, 1) := by decide +kernel
theorem dL_beginErrand_8 : decode cL_beginErrand 8 = .ok (.lastore, 1) := by decide +kernel
theorem dL_beginErrand_9 : decode cL_beginErrand 9 = .ok (.goto 9, 3) := by decide +kernel
theorem dL_beginErrand_12 : decode cL_beginErrand 12 = .ok (.astore_n 3, 1) := by decide +kernel
theorem dL_beginErrand_13 : decode cL_beginErrand 13 = .ok (.iconst 1, 1) := by decide +kernel
theorem dL_beginErrand_14 : decode cL_beginErrand 14 = .ok (.ireturn, 1) := by decide +kernel
theorem dL_beginErrand_15 : decode cL_beginErrand 15 = .ok (.astore_n 3, 1) := by decide +kernel
theorem dL_beginErrand_16 : decode cL_beginErrand 16 = .ok (.iconst 2, 1) := by decide +kernel
theorem dL_beginErrand_17 : decode cL_beginErrand 17 = .ok (.ireturn, 1) := by decide +kernel
theorem dL_beginErrand_18 : decode cL_beginErrand 18 = .ok (.iconst 0, 1) := by decide +kernel
theorem dL_beginErrand_19 : decode cL_beginErrand 19 = .ok (.ireturn, 1) := by decide +kernel
set_option maxRecDepth 20000 in
theorem ggL_goOn_X3_goOn : GoodIn wsL_goOn wsX3_goOn := goodIn_ca (goodIn_ca (goodIn_r _ [7, 8, 9, 10, 11, 6, 12, 13, 14, 15, 16, 17, 18, 19, 20, 21, 22, 23, 24, 25, 26, 27, 28, 29, 30, 31, 32, 33, 34, 35, 36, 37, 38, 39, 40, 41, 42, 43, 44, 45, 46, 47, 48, 49, 50, 51, 52, 53, 54, 55, 56, 57, 58, 59, 60, 61, 62, 63, 64, 65, 66, 67, 68, 69, 70, 71, 72, 73, 74, 75, 76, 77, 78, 79, 80, 81, 82, 83, 84, 85, 86, 87, 88, 89, 90, 91, 92, 93, 94, 95, 96, 97, 98, 99, 100, 101, 102, 103, 104, 105, 106, 107, 108, 109, 110, 111, 112, 113, 114, 115, 116, 117, 118, 119, 120, 121, 122, 123, 124, 125, 126, 127, 128, 129, 130, 131, 132, 133, 134, 135, 136, 137, 138, 139, 140, 141, 142, 143, 144, 145, 146, 147, 148, 149, 150, 151, 152, 153, 154, 155, 156, 157, 158, 159, 160, 161, 162, 163, 164, 165, 166, 167, 168, 169, 170, 171, 172, 173, 174, 175] (by decide +kernel) (by decide +kernel)) (goodIn_sub (fun _ h => List.mem_cons_of_mem _ (List.mem_append_left _ (List.mem_append_right _ h))) (by decide +kernel))) (goodIn_sub (fun _ h => List.mem_cons_of_mem _ (List.mem_append_right _ h)) (by decide +kernel))
set_option maxRecDepth 20000 in
theorem gL_goOn_X3_goOn : GoodIn wsL_goOn (wsV RL 38 RX3 yX3_goOn wsX3_goOn) := goodIn_app (goodIn_of _ (by decide +kernel)) ggL_goOn_X3_goOn
theorem dL_goOn_0 : decode cL_goOn 0 = .ok (.aload_n 2, 1) := by decide +kernel
theorem dL_goOn_1 : decode cL_goOn 1 = .ok (.iconst 0, 1) := by decide +kernel
theorem dL_goOn_2 : decode cL_goOn 2 = .ok (.aload_n 0, 1) := by decide +kernel
theorem dL_goOn_3 : decode cL_goOn 3 = .ok (.iload_n 1, 1) := by decide +kernel
theorem dL_goOn_4 : decode cL_goOn 4 = .ok (.invokevirtual 38, 3) := by decide +kernel
theorem dL_goOn_7 : decode cL_goOn 7 = .ok (.i2l, 1) := by decide +kernel
theorem dL_goOn_8 : decode cL_goOn 8 = .ok (.lastore, 1) := by decide +kernel
theorem dL_goOn_9 : decode cL_goOn 9 = .ok (.goto 9, 3) := by decide +kernel
theorem dL_goOn_12 : decode cL_goOn 12 = .ok (.astore_n 3, 1) := by decide +kernel
theorem dL_goOn_13 : decode cL_goOn 13 = .ok (.iconst 1, 1) := by decide +kernel
theorem dL_goOn_14 : decode cL_goOn 14 = .ok (.ireturn, 1) := by decide +kernel
theorem dL_goOn_15 : decode cL_goOn 15 = .ok (.astore_n 3, 1) := by decide +kernel
theorem dL_goOn_16 : decode cL_goOn 16 = .ok (.iconst 2, 1) := by decide +kernel
theorem dL_goOn_17 : decode cL_goOn 17 = .ok (.ireturn, 1) := by decide +kernel
theorem dL_goOn_18 : decode cL_goOn 18 = .ok (.iconst 0, 1) := by decide +kernel
theorem dL_goOn_19 : decode cL_goOn 19 = .ok (.ireturn, 1) := by decide +kernel
set_option maxRecDepth 20000 in
theorem ggL_giveUp_X3_giveUp : GoodIn wsL_giveUp wsX3_giveUp := goodIn_ca (goodIn_r _ [6, 7, 8, 9, 10, 5, 11, 12, 13, 14, 15, 16, 17, 18, 19, 20, 21, 22, 23, 24, 25, 26, 27, 28, 29, 30, 31, 32, 33, 34, 35, 36, 37, 38, 39, 40, 41, 42] (by decide +kernel) (by decide +kernel)) (goodIn_sub (fun _ h => List.mem_cons_of_mem _ (List.mem_append_right _ h)) (by decide +kernel))
set_option maxRecDepth 20000 in
theorem gL_giveUp_X3_giveUp : GoodIn wsL_giveUp (wsV RL 41 RX3 yX3_giveUp wsX3_giveUp) := goodIn_app (goodIn_of _ (by decide +kernel)) ggL_giveUp_X3_giveUp
theorem dL_giveUp_0 : decode cL_giveUp 0 = .ok (.aload_n 1, 1) := by decide +kernel
theorem dL_giveUp_1 : decode cL_giveUp 1 = .ok (.iconst 0, 1) := by decide +kernel
theorem dL_giveUp_2 : decode cL_giveUp 2 = .ok (.aload_n 0, 1) := by decide +kernel
theorem dL_giveUp_3 : decode cL_giveUp 3 = .ok (.invokevirtual 41, 3) := by decide +kernel
theorem dL_giveUp_6 : decode cL_giveUp 6 = .ok (.i2l, 1) := by decide +kernel
theorem dL_giveUp_7 : decode cL_giveUp 7 = .ok (.lastore, 1) := by decide +kernel
theorem dL_giveUp_8 : decode cL_giveUp 8 = .ok (.goto 6, 3) := by decide +kernel
theorem dL_giveUp_11 : decode cL_giveUp 11 = .ok (.astore_n 2, 1) := by decide +kernel
theorem dL_giveUp_12 : decode cL_giveUp 12 = .ok (.iconst 1, 1) := by decide +kernel
theorem dL_giveUp_13 : decode cL_giveUp 13 = .ok (.ireturn, 1) := by decide +kernel
theorem dL_giveUp_14 : decode cL_giveUp 14 = .ok (.iconst 0, 1) := by decide +kernel
theorem dL_giveUp_15 : decode cL_giveUp 15 = .ok (.ireturn, 1) := by decide +kernel
set_option maxRecDepth 20000 in
theorem ggL_sleep_X3_sleep : GoodIn wsL_sleep wsX3_sleep := goodIn_ca (goodIn_r _ [6, 7, 8, 9, 10, 5, 11, 12, 13, 14, 15, 16, 17, 18, 19, 20, 21, 22, 23, 24, 25, 26, 27, 28, 29, 30, 31, 32, 33, 34, 35, 36, 37, 38, 39, 40, 41, 42, 43] (by decide +kernel) (by decide +kernel)) (goodIn_sub (fun _ h => List.mem_cons_of_mem _ (List.mem_append_right _ h)) (by decide +kernel))
set_option maxRecDepth 20000 in
theorem gL_sleep_X3_sleep : GoodIn wsL_sleep (wsV RL 44 RX3 yX3_sleep wsX3_sleep) := goodIn_app (goodIn_of _ (by decide +kernel)) ggL_sleep_X3_sleep
theorem dL_sleep_0 : decode cL_sleep 0 = .ok (.aload_n 2, 1) := by decide +kernel
theorem dL_sleep_1 : decode cL_sleep 1 = .ok (.iconst 0, 1) := by decide +kernel
theorem dL_sleep_2 : decode cL_sleep 2 = .ok (.aload_n 0, 1) := by decide +kernel
theorem dL_sleep_3 : decode cL_sleep 3 = .ok (.iload_n 1, 1) := by decide +kernel
theorem dL_sleep_4 : decode cL_sleep 4 = .ok (.invokevirtual 44, 3) := by decide +kernel
theorem dL_sleep_7 : decode cL_sleep 7 = .ok (.i2l, 1) := by decide +kernel
theorem dL_sleep_8 : decode cL_sleep 8 = .ok (.lastore, 1) := by decide +kernel
theorem dL_sleep_9 : decode cL_sleep 9 = .ok (.goto 6, 3) := by decide +kernel
theorem dL_sleep_12 : decode cL_sleep 12 = .ok (.astore_n 3, 1) := by decide +kernel
theorem dL_sleep_13 : decode cL_sleep 13 = .ok (.iconst 1, 1) := by decide +kernel
theorem dL_sleep_14 : decode cL_sleep 14 = .ok (.ireturn, 1) := by decide +kernel
theorem dL_sleep_15 : decode cL_sleep 15 = .ok (.iconst 0, 1) := by decide +kernel
theorem dL_sleep_16 : decode cL_sleep 16 = .ok (.ireturn, 1) := by decide +kernel
set_option maxRecDepth 20000 in
theorem ggL_exitsOf_X3_exitsOf : GoodIn wsL_exitsOf wsX3_exitsOf := goodIn_ca (goodIn_r _ [6, 7, 8, 9, 10, 5, 11, 12, 13, 14, 15, 16, 17, 18, 19, 20, 21, 22, 23, 24, 25, 26, 27, 28, 29, 30] (by decide +kernel) (by decide +kernel)) (goodIn_sub (fun _ h => List.mem_cons_of_mem _ (List.mem_append_right _ h)) (by decide +kernel))
set_option maxRecDepth 20000 in
theorem gL_exitsOf_X3_exitsOf : GoodIn wsL_exitsOf (wsV RL 47 RX3 yX3_exitsOf wsX3_exitsOf) := goodIn_app (goodIn_of _ (by decide +kernel)) ggL_exitsOf_X3_exitsOf
theorem dL_exitsOf_0 : decode cL_exitsOf 0 = .ok (.aload_n 2, 1) := by decide +kernel
theorem dL_exitsOf_1 : decode cL_exitsOf 1 = .ok (.iconst 0, 1) := by decide +kernel
theorem dL_exitsOf_2 : decode cL_exitsOf 2 = .ok (.aload_n 0, 1) := by decide +kernel
theorem dL_exitsOf_3 : decode cL_exitsOf 3 = .ok (.iload_n 1, 1) := by decide +kernel
theorem dL_exitsOf_4 : decode cL_exitsOf 4 = .ok (.invokevirtual 47, 3) := by decide +kernel
theorem dL_exitsOf_7 : decode cL_exitsOf 7 = .ok (.i2l, 1) := by decide +kernel
theorem dL_exitsOf_8 : decode cL_exitsOf 8 = .ok (.lastore, 1) := by decide +kernel
theorem dL_exitsOf_9 : decode cL_exitsOf 9 = .ok (.goto 6, 3) := by decide +kernel
theorem dL_exitsOf_12 : decode cL_exitsOf 12 = .ok (.astore_n 3, 1) := by decide +kernel
theorem dL_exitsOf_13 : decode cL_exitsOf 13 = .ok (.iconst 1, 1) := by decide +kernel
theorem dL_exitsOf_14 : decode cL_exitsOf 14 = .ok (.ireturn, 1) := by decide +kernel
theorem dL_exitsOf_15 : decode cL_exitsOf 15 = .ok (.iconst 0, 1) := by decide +kernel
theorem dL_exitsOf_16 : decode cL_exitsOf 16 = .ok (.ireturn, 1) := by decide +kernel
set_option maxRecDepth 20000 in
theorem ggL_leadsTo_X3_leadsTo : GoodIn wsL_leadsTo wsX3_leadsTo := goodIn_ca (goodIn_r _ [6, 7, 8, 9, 10, 5, 11, 12, 13, 14, 15, 16, 17, 18, 19, 20, 21, 22, 23, 24, 25, 26, 27, 28, 29, 30, 31, 32, 33, 34, 35, 36, 37, 38, 39, 40, 41, 42] (by decide +kernel) (by decide +kernel)) (goodIn_sub (fun _ h => List.mem_cons_of_mem _ (List.mem_append_right _ h)) (by decide +kernel))
set_option maxRecDepth 20000 in
theorem gL_leadsTo_X3_leadsTo : GoodIn wsL_leadsTo (wsV RL 50 RX3 yX3_leadsTo wsX3_leadsTo) := goodIn_app (goodIn_of _ (by decide +kernel)) ggL_leadsTo_X3_leadsTo
theorem dL_leadsTo_0 : decode cL_leadsTo 0 = .ok (.aload_n 3, 1) := by decide +kernel
theorem dL_leadsTo_1 : decode cL_leadsTo 1 = .ok (.iconst 0, 1) := by decide +kernel
theorem dL_leadsTo_2 : decode cL_leadsTo 2 = .ok (.aload_n 0, 1) := by decide +kernel
theorem dL_leadsTo_3 : decode cL_leadsTo 3 = .ok (.iload_n 1, 1) := by decide +kernel
theorem dL_leadsTo_4 : decode cL_leadsTo 4 = .ok (.iload_n 2, 1) := by decide +kernel
theorem dL_leadsTo_5 : decode cL_leadsTo 5 = .ok (.invokevirtual 50, 3) := by decide +kernel
theorem dL_leadsTo_8 : decode cL_leadsTo 8 = .ok (.i2l, 1) := by decide +kernel
theorem dL_leadsTo_9 : decode cL_leadsTo 9 = .ok (.lastore, 1) := by decide +kernel
theorem dL_leadsTo_10 : decode cL_leadsTo 10 = .ok (.goto 7, 3) := by decide +kernel
theorem dL_leadsTo_13 : decode cL_leadsTo 13 = .ok (.astore 4, 2) := by decide +kernel
theorem dL_leadsTo_15 : decode cL_leadsTo 15 = .ok (.iconst 1, 1) := by decide +kernel
theorem dL_leadsTo_16 : decode cL_leadsTo 16 = .ok (.ireturn, 1) := by decide +kernel
theorem dL_leadsTo_17 : decode cL_leadsTo 17 = .ok (.iconst 0, 1) := by decide +kernel
theorem dL_leadsTo_18 : decode cL_leadsTo 18 = .ok (.ireturn, 1) := by decide +kernel
set_option maxRecDepth 20000 in
theorem ggL_milesOf_X3_milesOf : GoodIn wsL_milesOf wsX3_milesOf := goodIn_ca (goodIn_r _ [6, 7, 8, 9, 10, 5, 11, 12, 13, 14, 15, 16, 17, 18, 19, 20, 21, 22, 23, 24, 25, 26, 27, 28, 29, 30, 31, 32, 33, 34, 35, 36, 37, 38, 39, 40, 41, 42] (by decide +kernel) (by decide +kernel)) (goodIn_sub (fun _ h => List.mem_cons_of_mem _ (List.mem_append_right _ h)) (by decide +kernel))
set_option maxRecDepth 20000 in
theorem gL_milesOf_X3_milesOf : GoodIn wsL_milesOf (wsV RL 54 RX3 yX3_milesOf wsX3_milesOf) := goodIn_app (goodIn_of _ (by decide +kernel)) ggL_milesOf_X3_milesOf
theorem dL_milesOf_0 : decode cL_milesOf 0 = .ok (.aload_n 3, 1) := by decide +kernel
theorem dL_milesOf_1 : decode cL_milesOf 1 = .ok (.iconst 0, 1) := by decide +kernel
theorem dL_milesOf_2 : decode cL_milesOf 2 = .ok (.aload_n 0, 1) := by decide +kernel
theorem dL_milesOf_3 : decode cL_milesOf 3 = .ok (.iload_n 1, 1) := by decide +kernel
theorem dL_milesOf_4 : decode cL_milesOf 4 = .ok (.iload_n 2, 1) := by decide +kernel
theorem dL_milesOf_5 : decode cL_milesOf 5 = .ok (.invokevirtual 54, 3) := by decide +kernel
theorem dL_milesOf_8 : decode cL_milesOf 8 = .ok (.i2l, 1) := by decide +kernel
theorem dL_milesOf_9 : decode cL_milesOf 9 = .ok (.lastore, 1) := by decide +kernel
theorem dL_milesOf_10 : decode cL_milesOf 10 = .ok (.goto 7, 3) := by decide +kernel
theorem dL_milesOf_13 : decode cL_milesOf 13 = .ok (.astore 4, 2) := by decide +kernel
theorem dL_milesOf_15 : decode cL_milesOf 15 = .ok (.iconst 1, 1) := by decide +kernel
theorem dL_milesOf_16 : decode cL_milesOf 16 = .ok (.ireturn, 1) := by decide +kernel
theorem dL_milesOf_17 : decode cL_milesOf 17 = .ok (.iconst 0, 1) := by decide +kernel
theorem dL_milesOf_18 : decode cL_milesOf 18 = .ok (.ireturn, 1) := by decide +kernel
set_option maxRecDepth 20000 in
theorem ggL_isOpen_X3_isOpen : GoodIn wsL_isOpen wsX3_isOpen := goodIn_ca (goodIn_r _ [6, 7, 8, 9, 10, 5, 11, 12, 13, 14, 15, 16, 17, 18, 19, 20, 21, 22, 23, 24, 25, 26, 27, 28, 29, 30, 31, 32, 33, 34, 35, 36, 37, 38, 39, 40, 41, 42] (by decide +kernel) (by decide +kernel)) (goodIn_sub (fun _ h => List.mem_cons_of_mem _ (List.mem_append_right _ h)) (by decide +kernel))
set_option maxRecDepth 20000 in
theorem gL_isOpen_X3_isOpen : GoodIn wsL_isOpen (wsV RL 57 RX3 yX3_isOpen wsX3_isOpen) := goodIn_app (goodIn_of _ (by decide +kernel)) ggL_isOpen_X3_isOpen
theorem dL_isOpen_0 : decode cL_isOpen 0 = .ok (.aload_n 3, 1) := by decide +kernel
theorem dL_isOpen_1 : decode cL_isOpen 1 = .ok (.iconst 0, 1) := by decide +kernel
theorem dL_isOpen_2 : decode cL_isOpen 2 = .ok (.aload_n 0, 1) := by decide +kernel
theorem dL_isOpen_3 : decode cL_isOpen 3 = .ok (.iload_n 1, 1) := by decide +kernel
theorem dL_isOpen_4 : decode cL_isOpen 4 = .ok (.iload_n 2, 1) := by decide +kernel
theorem dL_isOpen_5 : decode cL_isOpen 5 = .ok (.invokevirtual 57, 3) := by decide +kernel
theorem dL_isOpen_8 : decode cL_isOpen 8 = .ok (.ifCond .eq 7, 3) := by decide +kernel
theorem dL_isOpen_11 : decode cL_isOpen 11 = .ok (.lconst 1, 1) := by decide +kernel
theorem dL_isOpen_12 : decode cL_isOpen 12 = .ok (.goto 4, 3) := by decide +kernel
theorem dL_isOpen_15 : decode cL_isOpen 15 = .ok (.lconst 0, 1) := by decide +kernel
theorem dL_isOpen_16 : decode cL_isOpen 16 = .ok (.lastore, 1) := by decide +kernel
theorem dL_isOpen_17 : decode cL_isOpen 17 = .ok (.goto 7, 3) := by decide +kernel
theorem dL_isOpen_20 : decode cL_isOpen 20 = .ok (.astore 4, 2) := by decide +kernel
theorem dL_isOpen_22 : decode cL_isOpen 22 = .ok (.iconst 1, 1) := by decide +kernel
theorem dL_isOpen_23 : decode cL_isOpen 23 = .ok (.ireturn, 1) := by decide +kernel
theorem dL_isOpen_24 : decode cL_isOpen 24 = .ok (.iconst 0, 1) := by decide +kernel
theorem dL_isOpen_25 : decode cL_isOpen 25 = .ok (.ireturn, 1) := by decide +kernel
set_option maxRecDepth 20000 in
theorem ggL_hasShepherd_X3_hasShepherd : GoodIn wsL_hasShepherd wsX3_hasShepherd := goodIn_ca (goodIn_r _ [6, 7, 8, 9, 10, 5, 11, 12, 13, 14, 15, 16, 17, 18, 19, 20, 21, 22, 23, 24, 25, 26, 27, 28, 29, 30] (by decide +kernel) (by decide +kernel)) (goodIn_sub (fun _ h => List.mem_cons_of_mem _ (List.mem_append_right _ h)) (by decide +kernel))
set_option maxRecDepth 20000 in
theorem gL_hasShepherd_X3_hasShepherd : GoodIn wsL_hasShepherd (wsV RL 60 RX3 yX3_hasShepherd wsX3_hasShepherd) := goodIn_app (goodIn_of _ (by decide +kernel)) ggL_hasShepherd_X3_hasShepherd
theorem dL_hasShepherd_0 : decode cL_hasShepherd 0 = .ok (.aload_n 2, 1) := by decide +kernel
theorem dL_hasShepherd_1 : decode cL_hasShepherd 1 = .ok (.iconst 0, 1) := by decide +kernel
theorem dL_hasShepherd_2 : decode cL_hasShepherd 2 = .ok (.aload_n 0, 1) := by decide +kernel
theorem dL_hasShepherd_3 : decode cL_hasShepherd 3 = .ok (.iload_n 1, 1) := by decide +kernel
theorem dL_hasShepherd_4 : decode cL_hasShepherd 4 = .ok (.invokevirtual 60, 3) := by decide +kernel
theorem dL_hasShepherd_7 : decode cL_hasShepherd 7 = .ok (.ifCond .eq 7, 3) := by decide +kernel
theorem dL_hasShepherd_10 : decode cL_hasShepherd 10 = .ok (.lconst 1, 1) := by decide +kernel
theorem dL_hasShepherd_11 : decode cL_hasShepherd 11 = .ok (.goto 4, 3) := by decide +kernel
theorem dL_hasShepherd_14 : decode cL_hasShepherd 14 = .ok (.lconst 0, 1) := by decide +kernel
theorem dL_hasShepherd_15 : decode cL_hasShepherd 15 = .ok (.lastore, 1) := by decide +kernel
theorem dL_hasShepherd_16 : decode cL_hasShepherd 16 = .ok (.goto 6, 3) := by decide +kernel
theorem dL_hasShepherd_19 : decode cL_hasShepherd 19 = .ok (.astore_n 3, 1) := by decide +kernel
theorem dL_hasShepherd_20 : decode cL_hasShepherd 20 = .ok (.iconst 1, 1) := by decide +kernel
theorem dL_hasShepherd_21 : decode cL_hasShepherd 21 = .ok (.ireturn, 1) := by decide +kernel
theorem dL_hasShepherd_22 : decode cL_hasShepherd 22 = .ok (.iconst 0, 1) := by decide +kernel
theorem dL_hasShepherd_23 : decode cL_hasShepherd 23 = .ok (.ireturn, 1) := by decide +kernel
set_option maxRecDepth 20000 in
theorem ggL_distance_X3_distance : GoodIn wsL_distance wsX3_distance := goodIn_ca (goodIn_r _ [6, 7, 8, 9, 10, 5, 11, 12, 13, 14, 15, 16, 17, 18, 19, 20, 21, 22, 23, 24, 25, 26, 27, 28, 29, 30, 31, 32, 33, 34, 35, 36, 37, 38, 39, 40, 41, 42, 43, 44, 45, 46, 47, 48, 49, 50, 51, 52, 53, 54] (by decide +kernel) (by decide +kernel)) (goodIn_sub (fun _ h => List.mem_cons_of_mem _ (List.mem_append_right _ h)) (by decide +kernel))
set_option maxRecDepth 20000 in
theorem gL_distance_X3_distance : GoodIn wsL_distance (wsV RL 63 RX3 yX3_distance wsX3_distance) := goodIn_app (goodIn_of _ (by decide +kernel)) ggL_distance_X3_distance
theorem dL_distance_0 : decode cL_distance 0 = .ok (.aload_n 3, 1) := by decide +kernel
theorem dL_distance_1 : decode cL_distance 1 = .ok (.iconst 0, 1) := by decide +kernel
theorem dL_distance_2 : decode cL_distance 2 = .ok (.aload_n 0, 1) := by decide +kernel
theorem dL_distance_3 : decode cL_distance 3 = .ok (.iload_n 1, 1) := by decide +kernel
theorem dL_distance_4 : decode cL_distance 4 = .ok (.iload_n 2, 1) := by decide +kernel
theorem dL_distance_5 : decode cL_distance 5 = .ok (.invokevirtual 63, 3) := by decide +kernel
theorem dL_distance_8 : decode cL_distance 8 = .ok (.i2l, 1) := by decide +kernel
theorem dL_distance_9 : decode cL_distance 9 = .ok (.lastore, 1) := by decide +kernel
theorem dL_distance_10 : decode cL_distance 10 = .ok (.goto 7, 3) := by decide +kernel
theorem dL_distance_13 : decode cL_distance 13 = .ok (.astore 4, 2) := by decide +kernel
theorem dL_distance_15 : decode cL_distance 15 = .ok (.iconst 1, 1) := by decide +kernel
theorem dL_distance_16 : decode cL_distance 16 = .ok (.ireturn, 1) := by decide +kernel
theorem dL_distance_17 : decode cL_distance 17 = .ok (.iconst 0, 1) := by decide +kernel
theorem dL_distance_18 : decode cL_distance 18 = .ok (.ireturn, 1) := by decide +kernel
set_option maxRecDepth 20000 in
theorem ggL_isTried_X3_isTried : GoodIn wsL_isTried wsX3_isTried := goodIn_ca (goodIn_r _ [6, 7, 8, 9, 10, 5, 11, 12, 13, 14, 15, 16, 17, 18, 19, 20, 21, 22, 23, 24, 25, 26, 27, 28, 29, 30, 31, 32, 33, 34, 35, 36, 37, 38, 39, 40, 41, 42, 43, 44, 45, 46, 47, 48, 49, 50, 51, 52, 53, 54, 55, 56, 57, 58, 59, 60, 61, 62, 63, 64] (by decide +kernel) (by decide +kernel)) (goodIn_sub (fun _ h => List.mem_cons_of_mem _ (List.mem_append_right _ h)) (by decide +kernel))
set_option maxRecDepth 20000 in
theorem gL_isTried_X3_isTried : GoodIn wsL_isTried (wsV RL 66 RX3 yX3_isTried wsX3_isTried) := goodIn_app (goodIn_of _ (by decide +kernel)) ggL_isTried_X3_isTried
theorem dL_isTried_0 : decode cL_isTried 0 = .ok (.aload_n 3, 1) := by decide +kernel
theorem dL_isTried_1 : decode cL_isTried 1 = .ok (.iconst 0, 1) := by decide +kernel
theorem dL_isTried_2 : decode cL_isTried 2 = .ok (.aload_n 0, 1) := by decide +kernel
theorem dL_isTried_3 : decode cL_isTried 3 = .ok (.iload_n 1, 1) := by decide +kernel
theorem dL_isTried_4 : decode cL_isTried 4 = .ok (.iload_n 2, 1) := by decide +kernel
theorem dL_isTried_5 : decode cL_isTried 5 = .ok (.invokevirtual 66, 3) := by decide +kernel
theorem dL_isTried_8 : decode cL_isTried 8 = .ok (.ifCond .eq 7, 3) := by decide +kernel
theorem dL_isTried_11 : decode cL_isTried 11 = .ok (.lconst 1, 1) := by decide +kernel
theorem dL_isTried_12 : decode cL_isTried 12 = .ok (.goto 4, 3) := by decide +kernel
theorem dL_isTried_15 : decode cL_isTried 15 = .ok (.lconst 0, 1) := by decide +kernel
theorem dL_isTried_16 : decode cL_isTried 16 = .ok (.lastore, 1) := by decide +kernel
theorem dL_isTried_17 : decode cL_isTried 17 = .ok (.goto 7, 3) := by decide +kernel
theorem dL_isTried_20 : decode cL_isTried 20 = .ok (.astore 4, 2) := by decide +kernel
theorem dL_isTried_22 : decode cL_isTried 22 = .ok (.iconst 1, 1) := by decide +kernel
theorem dL_isTried_23 : decode cL_isTried 23 = .ok (.ireturn, 1) := by decide +kernel
theorem dL_isTried_24 : decode cL_isTried 24 = .ok (.iconst 0, 1) := by decide +kernel
theorem dL_isTried_25 : decode cL_isTried 25 = .ok (.ireturn, 1) := by decide +kernel
set_option maxRecDepth 20000 in
theorem ggL_remembered_X3_remembered : GoodIn wsL_remembered wsX3_remembered := goodIn_ca (goodIn_r _ [6, 7, 8, 9, 10, 5, 11, 12, 13, 14, 15, 16, 17, 18, 19, 20, 21, 22, 23, 24, 25, 26, 27, 28, 29, 30, 31, 32, 33, 34, 35, 36, 37, 38, 39, 40, 41, 42, 43, 44, 45, 46, 47, 48, 49, 50, 51, 52, 53, 54, 55, 56, 57, 58] (by decide +kernel) (by decide +kernel)) (goodIn_sub (fun _ h => List.mem_cons_of_mem _ (List.mem_append_right _ h)) (by decide +kernel))
set_option maxRecDepth 20000 in
theorem gL_remembered_X3_remembered : GoodIn wsL_remembered (wsV RL 69 RX3 yX3_remembered wsX3_remembered) := goodIn_app (goodIn_of _ (by decide +kernel)) ggL_remembered_X3_remembered
theorem dL_remembered_0 : decode cL_remembered 0 = .ok (.aload_n 3, 1) := by decide +kernel
theorem dL_remembered_1 : decode cL_remembered 1 = .ok (.iconst 0, 1) := by decide +kernel
theorem dL_remembered_2 : decode cL_remembered 2 = .ok (.aload_n 0, 1) := by decide +kernel
theorem dL_remembered_3 : decode cL_remembered 3 = .ok (.iload_n 1, 1) := by decide +kernel
theorem dL_remembered_4 : decode cL_remembered 4 = .ok (.iload_n 2, 1) := by decide +kernel
theorem dL_remembered_5 : decode cL_remembered 5 = .ok (.invokevirtual 69, 3) := by decide +kernel
theorem dL_remembered_8 : decode cL_remembered 8 = .ok (.i2l, 1) := by decide +kernel
theorem dL_remembered_9 : decode cL_remembered 9 = .ok (.lastore, 1) := by decide +kernel
theorem dL_remembered_10 : decode cL_remembered 10 = .ok (.goto 7, 3) := by decide +kernel
theorem dL_remembered_13 : decode cL_remembered 13 = .ok (.astore 4, 2) := by decide +kernel
theorem dL_remembered_15 : decode cL_remembered 15 = .ok (.iconst 1, 1) := by decide +kernel
theorem dL_remembered_16 : decode cL_remembered 16 = .ok (.ireturn, 1) := by decide +kernel
theorem dL_remembered_17 : decode cL_remembered 17 = .ok (.iconst 0, 1) := by decide +kernel
theorem dL_remembered_18 : decode cL_remembered 18 = .ok (.ireturn, 1) := by decide +kernel
set_option maxRecDepth 20000 in
theorem ggL_strength_X3_strength : GoodIn wsL_strength wsX3_strength := goodIn_ca (goodIn_r _ [6, 7, 8, 9, 10, 5, 11, 12, 13, 14, 15, 16, 17, 18, 19, 20, 21, 22, 23, 24, 25, 26, 27, 28, 29, 30, 31, 32, 33, 34, 35, 36, 37, 38, 39, 40, 41, 42, 43, 44, 45, 46, 47, 48, 49, 50, 51, 52, 53, 54, 55, 56, 57] (by decide +kernel) (by decide +kernel)) (goodIn_sub (fun _ h => List.mem_cons_of_mem _ (List.mem_append_right _ h)) (by decide +kernel))
set_option maxRecDepth 20000 in
theorem gL_strength_X3_strength : GoodIn wsL_strength (wsV RL 72 RX3 yX3_strength wsX3_strength) := goodIn_app (goodIn_of _ (by decide +kernel)) ggL_strength_X3_strength
theorem dL_strength_0 : decode cL_strength 0 = .ok (.aload_n 3, 1) := by decide +kernel
theorem dL_strength_1 : decode cL_strength 1 = .ok (.iconst 0, 1) := by decide +kernel
theorem dL_strength_2 : decode cL_strength 2 = .ok (.aload_n 0, 1) := by decide +kernel
theorem dL_strength_3 : decode cL_strength 3 = .ok (.iload_n 1, 1) := by decide +kernel
theorem dL_strength_4 : decode cL_strength 4 = .ok (.iload_n 2, 1) := by decide +kernel
theorem dL_strength_5 : decode cL_strength 5 = .ok (.invokevirtual 72, 3) := by decide +kernel
theorem dL_strength_8 : decode cL_strength 8 = .ok (.i2l, 1) := by decide +kernel
theorem dL_strength_9 : decode cL_strength 9 = .ok (.lastore, 1) := by decide +kernel
theorem dL_strength_10 : decode cL_strength 10 = .ok (.goto 7, 3) := by decide +kernel
theorem dL_strength_13 : decode cL_strength 13 = .ok (.astore 4, 2) := by decide +kernel
theorem dL_strength_15 : decode cL_strength 15 = .ok (.iconst 1, 1) := by decide +kernel
theorem dL_strength_16 : decode cL_strength 16 = .ok (.ireturn, 1) := by decide +kernel
theorem dL_strength_17 : decode cL_strength 17 = .ok (.iconst 0, 1) := by decide +kernel
theorem dL_strength_18 : decode cL_strength 18 = .ok (.ireturn, 1) := by decide +kernel
set_option maxRecDepth 20000 in
theorem ggL_knowsWay_X3_knowsWay : GoodIn wsL_knowsWay wsX3_knowsWay := goodIn_ca (goodIn_r _ [6, 7, 8, 9, 10, 5, 11, 12, 13, 14, 15, 16, 17, 18, 19, 20, 21, 22, 23, 24, 25, 26, 27, 28, 29, 30, 31, 32, 33, 34, 35, 36, 37, 38, 39, 40, 41, 42, 43, 44, 45, 46, 47, 48, 49, 50, 51, 52, 53, 54, 55, 56, 57, 58, 59, 60, 61, 62, 63, 64, 65, 66, 67, 68, 69, 70, 71, 72, 73, 74, 75, 76, 77, 78, 79, 80, 81, 82, 83, 84] (by decide +kernel) (by decide +kernel)) (goodIn_sub (fun _ h => List.mem_cons_of_mem _ (List.mem_append_right _ h)) (by decide +kernel))
set_option maxRecDepth 20000 in
theorem gL_knowsWay_X3_knowsWay : GoodIn wsL_knowsWay (wsV RL 75 RX3 yX3_knowsWay wsX3_knowsWay) := goodIn_app (goodIn_of _ (by decide +kernel)) ggL_knowsWay_X3_knowsWay
theorem dL_knowsWay_0 : decode cL_knowsWay 0 = .ok (.aload_n 2, 1) := by decide +kernel
theorem dL_knowsWay_1 : decode cL_knowsWay 1 = .ok (.iconst 0, 1) := by decide +kernel
theorem dL_knowsWay_2 : decode cL_knowsWay 2 = .ok (.aload_n 0, 1) := by decide +kernel
theorem dL_knowsWay_3 : decode cL_knowsWay 3 = .ok (.iload_n 1, 1) := by decide +kernel
theorem dL_knowsWay_4 : decode cL_knowsWay 4 = .ok (.invokevirtual 75, 3) := by decide +kernel
theorem dL_knowsWay_7 : decode cL_knowsWay 7 = .ok (.ifCond .eq 7, 3) := by decide +kernel
theorem dL_knowsWay_10 : decode cL_knowsWay 10 = .ok (.lconst 1, 1) := by decide +kernel
theorem dL_knowsWay_11 : decode cL_knowsWay 11 = .ok (.goto 4, 3) := by decide +kernel
theorem dL_knowsWay_14 : decode cL_knowsWay 14 = .ok (.lconst 0, 1) := by decide +kernel
theorem dL_knowsWay_15 : decode cL_knowsWay 15 = .ok (.lastore, 1) := by decide +kernel
theorem dL_knowsWay_16 : decode cL_knowsWay 16 = .ok (.goto 6, 3) := by decide +kernel
theorem dL_knowsWay_19 : decode cL_knowsWay 19 = .ok (.astore_n 3, 1) := by decide +kernel
theorem dL_knowsWay_20 : decode cL_knowsWay 20 = .ok (.iconst 1, 1) := by decide +kernel
theorem dL_knowsWay_21 : decode cL_knowsWay 21 = .ok (.ireturn, 1) := by decide +kernel
theorem dL_knowsWay_22 : decode cL_knowsWay 22 = .ok (.iconst 0, 1) := by decide +kernel
theorem dL_knowsWay_23 : decode cL_knowsWay 23 = .ok (.ireturn, 1) := by decide +kernel
set_option maxRecDepth 20000 in
theorem ggL_wouldWalk_X3_wouldWalk : GoodIn wsL_wouldWalk wsX3_wouldWalk := goodIn_ca (goodIn_ca (goodIn_r _ [7, 8, 9, 10, 6, 11, 12, 13, 14, 15, 16, 17, 18, 19, 20, 21, 22, 23, 24, 25, 26, 27, 28, 29, 30, 31, 32, 33, 34, 35, 36, 37, 38, 39, 40, 41, 42, 43, 44, 45, 46, 47, 48, 49, 50, 51, 52, 53, 54, 55, 56, 57, 58, 59, 60, 61, 62, 63, 64, 65, 66, 67, 68, 69, 70, 71, 72, 73, 74, 75, 76, 77, 78, 79, 80, 81, 82, 83, 84, 85, 86, 87, 88, 89, 90, 91, 92, 93, 94, 95, 96, 97, 98, 99, 100, 101, 102, 103, 104, 105, 106, 107, 108, 109, 110, 111, 112, 113, 114, 115, 116, 117, 118, 119, 120, 121, 122, 123, 124, 125, 126, 127, 128, 129, 130, 131, 132, 133, 134, 135, 136, 137, 138, 139, 140, 141, 142, 143, 144, 145, 146, 147, 148, 149, 150, 151, 152, 153, 154, 155, 156, 157, 158, 159, 160, 161, 162, 163, 164, 165, 166, 167, 168, 169, 170, 171, 172, 173, 174, 175, 176, 177, 178, 179, 180, 181, 182, 183, 184, 185, 186, 187, 188, 189, 190, 191, 192, 193, 194, 195, 196, 197, 198, 199, 200, 201] (by decide +kernel) (by decide +kernel)) (goodIn_sub (fun _ h => List.mem_cons_of_mem _ (List.mem_append_left _ (List.mem_append_right _ h))) (by decide +kernel))) (goodIn_sub (fun _ h => List.mem_cons_of_mem _ (List.mem_append_right _ h)) (by decide +kernel))
set_option maxRecDepth 20000 in
theorem gL_wouldWalk_X3_wouldWalk : GoodIn wsL_wouldWalk (wsV RL 78 RX3 yX3_wouldWalk wsX3_wouldWalk) := goodIn_app (goodIn_of _ (by decide +kernel)) ggL_wouldWalk_X3_wouldWalk
theorem dL_wouldWalk_0 : decode cL_wouldWalk 0 = .ok (.aload_n 2, 1) := by decide +kernel
theorem dL_wouldWalk_1 : decode cL_wouldWalk 1 = .ok (.iconst 0, 1) := by decide +kernel
theorem dL_wouldWalk_2 : decode cL_wouldWalk 2 = .ok (.aload_n 0, 1) := by decide +kernel
theorem dL_wouldWalk_3 : decode cL_wouldWalk 3 = .ok (.iload_n 1, 1) := by decide +kernel
theorem dL_wouldWalk_4 : decode cL_wouldWalk 4 = .ok (.invokevirtual 78, 3) := by decide +kernel
theorem dL_wouldWalk_7 : decode cL_wouldWalk 7 = .ok (.i2l, 1) := by decide +kernel
theorem dL_wouldWalk_8 : decode cL_wouldWalk 8 = .ok (.lastore, 1) := by decide +kernel
theorem dL_wouldWalk_9 : decode cL_wouldWalk 9 = .ok (.goto 9, 3) := by decide +kernel
theorem dL_wouldWalk_12 : decode cL_wouldWalk 12 = .ok (.astore_n 3, 1) := by decide +kernel
theorem dL_wouldWalk_13 : decode cL_wouldWalk 13 = .ok (.iconst 1, 1) := by decide +kernel
theorem dL_wouldWalk_14 : decode cL_wouldWalk 14 = .ok (.ireturn, 1) := by decide +kernel
theorem dL_wouldWalk_15 : decode cL_wouldWalk 15 = .ok (.astore_n 3, 1) := by decide +kernel
theorem dL_wouldWalk_16 : decode cL_wouldWalk 16 = .ok (.iconst 2, 1) := by decide +kernel
theorem dL_wouldWalk_17 : decode cL_wouldWalk 17 = .ok (.ireturn, 1) := by decide +kernel
theorem dL_wouldWalk_18 : decode cL_wouldWalk 18 = .ok (.iconst 0, 1) := by decide +kernel
theorem dL_wouldWalk_19 : decode cL_wouldWalk 19 = .ok (.ireturn, 1) := by decide +kernel
set_option maxRecDepth 20000 in
theorem ggL_bestShepherd_X3_bestShepherd : GoodIn wsL_bestShepherd wsX3_bestShepherd := goodIn_ca (goodIn_ca (goodIn_r _ [7, 8, 9, 10, 11, 6, 12, 13, 14, 15, 16, 17, 18, 19, 20, 21, 22, 23, 24, 25, 26, 27, 28, 29, 30, 31, 32, 33, 34, 35, 36, 37, 38, 39, 40, 41, 42, 43, 44, 45, 46, 47, 48, 49, 50, 51, 52, 53, 54, 55, 56, 57, 58, 59, 60, 61, 62, 63, 64, 65, 66, 67, 68, 69, 70, 71, 72, 73, 74, 75, 76, 77, 78, 79, 80, 81, 82, 83, 84, 85, 86, 87, 88, 89, 90, 91, 92, 93, 94, 95, 96, 97, 98, 99, 100, 101, 102, 103, 104, 105, 106, 107, 108, 109, 110, 111, 112, 113, 114, 115, 116, 117, 118, 119, 120, 121, 122, 123, 124, 125, 126, 127, 128, 129, 130, 131, 132, 133, 134, 135, 136, 137, 138, 139, 140, 141, 142, 143, 144, 145, 146, 147, 148, 149, 150, 151, 152, 153, 154, 155, 156, 157, 158, 159, 160, 161, 162, 163, 164, 165, 166, 167, 168, 169, 170, 171, 172, 173, 174, 175, 176, 177, 178, 179, 180, 181, 182, 183, 184, 185, 186, 187, 188, 189, 190, 191, 192, 193, 194, 195, 196, 197, 198, 199, 200, 201] (by decide +kernel) (by decide +kernel)) (goodIn_sub (fun _ h => List.mem_cons_of_mem _ (List.mem_append_left _ (List.mem_append_right _ h))) (by decide +kernel))) (goodIn_sub (fun _ h => List.mem_cons_of_mem _ (List.mem_append_right _ h)) (by decide +kernel))
set_option maxRecDepth 20000 in
theorem gL_bestShepherd_X3_bestShepherd : GoodIn wsL_bestShepherd (wsV RL 81 RX3 yX3_bestShepherd wsX3_bestShepherd) := goodIn_app (goodIn_of _ (by decide +kernel)) ggL_bestShepherd_X3_bestShepherd
theorem dL_bestShepherd_0 : decode cL_bestShepherd 0 = .ok (.aload_n 2, 1) := by decide +kernel
theorem dL_bestShepherd_1 : decode cL_bestShepherd 1 = .ok (.iconst 0, 1) := by decide +kernel
theorem dL_bestShepherd_2 : decode cL_bestShepherd 2 = .ok (.aload_n 0, 1) := by decide +kernel
theorem dL_bestShepherd_3 : decode cL_bestShepherd 3 = .ok (.iload_n 1, 1) := by decide +kernel
theorem dL_bestShepherd_4 : decode cL_bestShepherd 4 = .ok (.invokevirtual 81, 3) := by decide +kernel
theorem dL_bestShepherd_7 : decode cL_bestShepherd 7 = .ok (.i2l, 1) := by decide +kernel
theorem dL_bestShepherd_8 : decode cL_bestShepherd 8 = .ok (.lastore, 1) := by decide +kernel
theorem dL_bestShepherd_9 : decode cL_bestShepherd 9 = .ok (.goto 9, 3) := by decide +kernel
theorem dL_bestShepherd_12 : decode cL_bestShepherd 12 = .ok (.astore_n 3, 1) := by decide +kernel
theorem dL_bestShepherd_13 : decode cL_bestShepherd 13 = .ok (.iconst 1, 1) := by decide +kernel
theorem dL_bestShepherd_14 : decode cL_bestShepherd 14 = .ok (.ireturn, 1) := by decide +kernel
theorem dL_bestShepherd_15 : decode cL_bestShepherd 15 = .ok (.astore_n 3, 1) := by decide +kernel
theorem dL_bestShepherd_16 : decode cL_bestShepherd 16 = .ok (.iconst 2, 1) := by decide +kernel
theorem dL_bestShepherd_17 : decode cL_bestShepherd 17 = .ok (.ireturn, 1) := by decide +kernel
theorem dL_bestShepherd_18 : decode cL_bestShepherd 18 = .ok (.iconst 0, 1) := by decide +kernel
theorem dL_bestShepherd_19 : decode cL_bestShepherd 19 = .ok (.ireturn, 1) := by decide +kernel
set_option maxRecDepth 20000 in
theorem ggL_law_X3_init : GoodIn wsL_law wsX3_init := goodIn_r _ [9, 10, 11, 12, 13, 14, 15, 16, 17, 18, 19, 20, 21, 22, 23, 24, 25, 26, 27, 28, 29, 30, 31, 32, 33, 34, 35, 36, 37, 38, 39, 40, 41, 42, 43, 44, 45, 46, 47, 48, 49, 50, 51, 52, 809, 810, 811, 812, 813, 814, 815, 816, 794, 795, 796, 817, 818, 819, 820, 821, 822, 823, 824, 825, 826, 827, 828, 829, 830, 831, 832, 833] (by decide +kernel) (by decide +kernel)
set_option maxRecDepth 20000 in
theorem gL_law_X3_init : GoodIn wsL_law (wsX3_init) := ggL_law_X3_init
set_option maxRecDepth 20000 in
theorem ggL_law_X5_init : GoodIn wsL_law wsX5_init := goodIn_r _ [55, 56, 11, 12, 25, 57, 58, 59, 60, 27, 61, 62, 63, 64, 65, 66, 67, 68, 69, 70, 71, 72, 73, 74, 75, 76, 77, 78, 79, 797, 798, 799, 800, 801, 802, 803, 804, 805, 806, 807, 808, 834, 835, 836, 837, 838, 839, 840, 841, 842, 843, 844, 845, 846, 847] (by decide +kernel) (by decide +kernel)
set_option maxRecDepth 20000 in
theorem gL_law_X5_init : GoodIn wsL_law (wsX5_init) := ggL_law_X5_init
set_option maxRecDepth 20000 in
theorem ggL_law_L_addPlace : GoodIn wsL_law wsL_addPlace := goodIn_ca (goodIn_r _ [83, 84, 85, 86, 87, 2, 88, 89, 90, 16, 794, 795, 796, 809, 810, 811, 812, 813, 814, 815, 816] (by decide +kernel) (by decide +kernel)) (goodIn_sub (fun _ h => List.mem_append_left _ (List.mem_append_left _ (List.mem_append_right _ h))) (by decide +kernel))
set_option maxRecDepth 20000 in
theorem gL_law_L_addPlace : GoodIn wsL_law (va_wsS RL 88 yL_addPlace wsL_addPlace) := goodIn_app (goodIn_of _ (by decide +kernel)) ggL_law_L_addPlace
set_option maxRecDepth 20000 in
theorem ggL_law_X5_addPlace : GoodIn wsL_law wsX5_addPlace := goodIn_r _ [94, 95, 96, 67, 97, 98, 99, 5, 100, 797, 798, 799, 800, 801, 802, 803, 804, 805, 806, 807, 808, 834, 835, 836, 837, 838, 839, 840, 841, 842, 843, 844, 845, 846, 847] (by decide +kernel) (by decide +kernel)
set_option maxRecDepth 20000 in
theorem gL_law_X5_addPlace : GoodIn wsL_law (wsV RL 93 RX5 yX5_addPlace wsX5_addPlace) := goodIn_app (goodIn_of _ (by decide +kernel)) ggL_law_X5_addPlace
set_option maxRecDepth 20000 in
theorem ggL_law_X5_thrown : GoodIn wsL_law wsX5_thrown := goodIn_r _ [104, 95, 797, 798, 799, 800, 801, 802, 803, 804, 805, 806, 807, 808] (by decide +kernel) (by decide +kernel)
set_option maxRecDepth 20000 in
theorem gL_law_X5_thrown : GoodIn wsL_law (wsV RL 94 RX5 yX5_thrown wsX5_thrown) := goodIn_app (goodIn_of _ (by decide +kernel)) ggL_law_X5_thrown
set_option maxRecDepth 20000 in
theorem ggL_law_L_addRoad : GoodIn wsL_law wsL_addRoad := goodIn_ca (goodIn_ca (goodIn_ca (goodIn_r _ [107, 108, 109, 84, 110, 111, 112, 2, 113, 114, 115, 89, 90, 16, 116, 117, 118, 119, 120, 121, 122, 123, 124, 15, 125, 126, 127, 128, 129, 130, 131, 132, 133, 134, 26, 135, 136, 137, 138, 139, 140, 141, 142, 143, 29, 30, 31, 32, 144, 145, 794, 795, 796, 809, 810, 811, 812, 813, 814, 815, 816] (by decide +kernel) (by decide +kernel)) (goodIn_sub (fun _ h => List.mem_append_left _ (List.mem_append_right _ h)) (by decide +kernel))) (goodIn_sub (fun _ h => List.mem_append_left _ (List.mem_append_left _ (List.mem_append_right _ h))) (by decide +kernel))) (goodIn_sub (fun _ h => List.mem_append_right _ h) (by decide +kernel))
set_option maxRecDepth 20000 in
theorem gL_law_L_addRoad : GoodIn wsL_law (va_wsS RL 97 yL_addRoad wsL_addRoad) := goodIn_app (goodIn_of _ (by decide +kernel)) ggL_law_L_addRoad
set_option maxRecDepth 20000 in
theorem ggL_law_X5_addRoad : GoodIn wsL_law wsX5_addRoad := goodIn_r _ [149, 95, 57, 60, 150, 61, 67, 151, 152, 153, 5, 154, 96, 155, 156, 157, 97, 98, 99, 100, 158, 159, 160, 161, 58, 59, 797, 798, 799, 800, 801, 802, 803, 804, 805, 806, 807, 808, 834, 835, 836, 837, 838, 839, 840, 841, 842, 843, 844, 845, 846, 847] (by decide +kernel) (by decide +kernel)
set_option maxRecDepth 20000 in
theorem gL_law_X5_addRoad : GoodIn wsL_law (wsV RL 100 RX5 yX5_addRoad wsX5_addRoad) := goodIn_app (goodIn_of _ (by decide +kernel)) ggL_law_X5_addRoad
set_option maxRecDepth 20000 in
theorem ggL_law_L_turnRoad : GoodIn wsL_law wsL_turnRoad := goodIn_ca (goodIn_r _ [164, 108, 165, 166, 167, 2, 168, 16, 169, 170, 171, 172, 120, 121, 173, 174, 175, 15, 176, 26, 135, 123, 124, 125, 126, 177, 178, 179, 180, 32, 30, 181, 182, 794, 795, 796, 809, 810, 811, 812, 813, 814, 815, 816] (by decide +kernel) (by decide +kernel)) (goodIn_sub (fun _ h => List.mem_append_right _ h) (by decide +kernel))
set_option maxRecDepth 20000 in
theorem gL_law_L_turnRoad : GoodIn wsL_law (va_wsS RL 101 yL_turnRoad wsL_turnRoad) := goodIn_app (goodIn_of _ (by decide +kernel)) ggL_law_L_turnRoad
set_option maxRecDepth 20000 in
theorem ggL_law_X5_turnRoad : GoodIn wsL_law wsX5_turnRoad := goodIn_r _ [186, 95, 58, 61, 187, 188, 189, 5, 190, 57, 151, 152, 153, 154, 96, 155, 156, 157, 191, 192, 193, 194, 797, 798, 799, 800, 801, 802, 803, 804, 805, 806, 807, 808] (by decide +kernel) (by decide +kernel)
set_option maxRecDepth 20000 in
theorem gL_law_X5_turnRoad : GoodIn wsL_law (wsV RL 104 RX5 yX5_turnRoad wsX5_turnRoad) := goodIn_app (goodIn_of _ (by decide +kernel)) ggL_law_X5_turnRoad
set_option maxRecDepth 20000 in
theorem ggL_law_L_turnShepherd : GoodIn wsL_law wsL_turnShepherd := goodIn_ca (goodIn_r _ [197, 108, 198, 199, 200, 2, 201, 16, 116, 117, 118, 119, 120, 121, 122, 123, 124, 15, 125, 126, 794, 795, 796, 809, 810, 811, 812, 813, 814, 815, 816] (by decide +kernel) (by decide +kernel)) (goodIn_sub (fun _ h => List.mem_append_right _ h) (by decide +kernel))
set_option maxRecDepth 20000 in
theorem gL_law_L_turnShepherd : GoodIn wsL_law (va_wsS RL 105 yL_turnShepherd wsL_turnShepherd) := goodIn_app (goodIn_of _ (by decide +kernel)) ggL_law_L_turnShepherd
set_option maxRecDepth 20000 in
theorem ggL_law_X5_turnShepherd : GoodIn wsL_law wsX5_turnShepherd := goodIn_r _ [205, 95, 62, 151, 152, 153, 5, 154, 96, 155, 156, 157, 191, 192, 193, 194, 797, 798, 799, 800, 801, 802, 803, 804, 805, 806, 807, 808] (by decide +kernel) (by decide +kernel)
set_option maxRecDepth 20000 in
theorem gL_law_X5_turnShepherd : GoodIn wsL_law (wsV RL 108 RX5 yX5_turnShepherd wsX5_turnShepherd) := goodIn_app (goodIn_of _ (by decide +kernel)) ggL_law_X5_turnShepherd
set_option maxRecDepth 20000 in
theorem ggL_law_L_pay : GoodIn wsL_law wsL_pay := goodIn_ca (goodIn_r _ [208, 109, 209, 210, 211, 2, 212, 20, 213, 214, 215, 216, 127, 128, 129, 130, 114, 115, 794, 795, 796, 817, 818, 819, 820, 821, 822, 823, 824, 825, 826, 827, 828, 829, 830, 831] (by decide +kernel) (by decide +kernel)) (goodIn_sub (fun _ h => List.mem_append_left _ (List.mem_append_right _ h)) (by decide +kernel))
set_option maxRecDepth 20000 in
theorem gL_law_L_pay : GoodIn wsL_law (va_wsS RL 109 yL_pay wsL_pay) := goodIn_app (goodIn_of _ (by decide +kernel)) ggL_law_L_pay
set_option maxRecDepth 20000 in
theorem ggL_law_X5_pay : GoodIn wsL_law wsX5_pay := goodIn_r _ [220, 95, 67, 221, 214, 215, 216, 155, 156, 5, 157, 97, 98, 99, 100, 797, 798, 799, 800, 801, 802, 803, 804, 805, 806, 807, 808, 834, 835, 836, 837, 838, 839, 840, 841, 842, 843, 844, 845, 846, 847] (by decide +kernel) (by decide +kernel)
set_option maxRecDepth 20000 in
theorem gL_law_X5_pay : GoodIn wsL_law (wsV RL 111 RX5 yX5_pay wsX5_pay) := goodIn_app (goodIn_of _ (by decide +kernel)) ggL_law_X5_pay
set_option maxRecDepth 20000 in
theorem ggL_law_L_beginErrand : GoodIn wsL_law wsL_beginErrand := goodIn_ca (goodIn_ca (goodIn_r _ [224, 108, 84, 225, 226, 227, 2, 228, 16, 20, 116, 117, 118, 119, 120, 121, 122, 123, 124, 15, 125, 126, 229, 230, 231, 232, 89, 90, 233, 234, 235, 19, 236, 42, 237, 238, 239, 240, 33, 241, 242, 243, 244, 245, 246, 247, 248, 249, 135, 250, 251, 252, 253, 32, 31, 29, 144, 145, 254, 255, 256, 257, 44, 45, 258, 259, 260, 261, 262, 263, 264, 265, 266, 267, 794, 795, 796, 817, 818, 819, 820, 821, 822, 823, 824, 825, 826, 827, 828, 829, 830, 831, 809, 810, 811, 812, 813, 814, 815, 816] (by decide +kernel) (by decide +kernel)) (goodIn_sub (fun _ h => List.mem_append_right _ h) (by decide +kernel))) (goodIn_sub (fun _ h => List.mem_append_left _ (List.mem_append_left _ (List.mem_append_right _ h))) (by decide +kernel))
set_option maxRecDepth 20000 in
theorem gL_law_L_beginErrand : GoodIn wsL_law (va_wsS RL 112 yL_beginErrand wsL_beginErrand) := goodIn_app (goodIn_of _ (by decide +kernel)) ggL_law_L_beginErrand
set_option maxRecDepth 20000 in
theorem ggL_law_X5_beginErrand : GoodIn wsL_law wsX5_beginErrand := goodIn_r _ [271, 95, 67, 151, 152, 153, 5, 154, 96, 155, 156, 157, 97, 98, 99, 100, 272, 273, 274, 275, 276, 277, 66, 278, 74, 279, 75, 76, 280, 281, 282, 283, 63, 284, 285, 286, 287, 57, 61, 58, 59, 60, 797, 798, 799, 800, 801, 802, 803, 804, 805, 806, 807, 808, 834, 835, 836, 837, 838, 839, 840, 841, 842, 843, 844, 845, 846, 847] (by decide +kernel) (by decide +kernel)
set_option maxRecDepth 20000 in
theorem gL_law_X5_beginErrand : GoodIn wsL_law (wsV RL 114 RX5 yX5_beginErrand wsX5_beginErrand) := goodIn_app (goodIn_of _ (by decide +kernel)) ggL_law_X5_beginErrand
set_option maxRecDepth 20000 in
theorem ggL_law_L_goOn : GoodIn wsL_law wsL_goOn := goodIn_ca (goodIn_ca (goodIn_r _ [290, 109, 84, 291, 292, 293, 2, 294, 20, 127, 128, 129, 130, 114, 115, 295, 296, 297, 298, 89, 90, 233, 234, 235, 19, 236, 42, 299, 300, 301, 302, 258, 303, 259, 260, 304, 305, 306, 307, 47, 41, 308, 309, 310, 40, 311, 52, 51, 312, 313, 314, 315, 174, 175, 15, 176, 26, 135, 123, 124, 125, 126, 316, 317, 318, 319, 44, 181, 182, 320, 321, 322, 323, 46, 45, 324, 325, 326, 327, 328, 329, 330, 33, 241, 242, 243, 244, 245, 246, 247, 248, 249, 250, 251, 252, 253, 32, 31, 29, 144, 145, 331, 332, 333, 334, 335, 336, 337, 338, 339, 340, 341, 342, 343, 344, 43, 345, 346, 347, 348, 349, 30, 350, 351, 352, 353, 354, 355, 356, 357, 358, 264, 265, 266, 267, 359, 360, 361, 362, 363, 364, 365, 366, 367, 214, 215, 216, 368, 794, 795, 796, 817, 818, 819, 820, 821, 822, 823, 824, 825, 826, 827, 828, 829, 830, 831, 832, 833, 809, 810, 811, 812, 813, 814, 815, 816] (by decide +kernel) (by decide +kernel)) (goodIn_sub (fun _ h => List.mem_append_left _ (List.mem_append_right _ h)) (by decide +kernel))) (goodIn_sub (fun _ h => List.mem_append_left _ (List.mem_append_left _ (List.mem_append_right _ h))) (by decide +kernel))
set_option maxRecDepth 20000 in
theorem gL_law_L_goOn : GoodIn wsL_law (va_wsS RL 115 yL_goOn wsL_goOn) := goodIn_app (goodIn_of _ (by decide +kernel)) ggL_law_L_goOn
set_option maxRecDepth 20000 in
theorem ggL_law_X5_goOn : GoodIn wsL_law wsX5_goOn := goodIn_r _ [372, 95, 67, 155, 156, 5, 157, 97, 98, 99, 100, 373, 374, 375, 376, 377, 378, 379, 380, 381, 382, 383, 66, 384, 78, 74, 385, 386, 387, 388, 61, 58, 389, 390, 391, 392, 59, 60, 393, 394, 395, 396, 62, 397, 398, 399, 400, 57, 63, 284, 285, 286, 287, 96, 401, 402, 403, 404, 79, 405, 406, 407, 408, 409, 410, 411, 412, 413, 414, 415, 416, 417, 276, 277, 278, 279, 75, 76, 418, 419, 420, 421, 221, 214, 215, 216, 797, 798, 799, 800, 801, 802, 803, 804, 805, 806, 807, 808, 834, 835, 836, 837, 838, 839, 840, 841, 842, 843, 844, 845, 846, 847] (by decide +kernel) (by decide +kernel)
set_option maxRecDepth 20000 in
theorem gL_law_X5_goOn : GoodIn wsL_law (wsV RL 117 RX5 yX5_goOn wsX5_goOn) := goodIn_app (goodIn_of _ (by decide +kernel)) ggL_law_X5_goOn
set_option maxRecDepth 20000 in
theorem ggL_law_L_giveUp : GoodIn wsL_law wsL_giveUp := goodIn_ca (goodIn_r _ [424, 84, 425, 426, 427, 2, 428, 20, 295, 296, 297, 298, 89, 90, 233, 234, 235, 19, 236, 42, 429, 265, 266, 267, 258, 794, 795, 796, 817, 818, 819, 820, 821, 822, 823, 824, 825, 826, 827, 828, 829, 830, 831] (by decide +kernel) (by decide +kernel)) (goodIn_sub (fun _ h => List.mem_append_left _ (List.mem_append_left _ (List.mem_append_right _ h))) (by decide +kernel))
set_option maxRecDepth 20000 in
theorem gL_law_L_giveUp : GoodIn wsL_law (va_wsS RL 118 yL_giveUp wsL_giveUp) := goodIn_app (goodIn_of _ (by decide +kernel)) ggL_law_L_giveUp
set_option maxRecDepth 20000 in
theorem ggL_law_X5_giveUp : GoodIn wsL_law wsX5_giveUp := goodIn_r _ [433, 95, 67, 97, 98, 99, 5, 100, 413, 414, 415, 66, 416, 417, 276, 277, 278, 74, 279, 75, 76, 797, 798, 799, 800, 801, 802, 803, 804, 805, 806, 807, 808, 834, 835, 836, 837, 838, 839, 840, 841, 842, 843, 844, 845, 846, 847] (by decide +kernel) (by decide +kernel)
set_option maxRecDepth 20000 in
theorem gL_law_X5_giveUp : GoodIn wsL_law (wsV RL 120 RX5 yX5_giveUp wsX5_giveUp) := goodIn_app (goodIn_of _ (by decide +kernel)) ggL_law_X5_giveUp
set_option maxRecDepth 20000 in
theorem ggL_law_L_sleep : GoodIn wsL_law wsL_sleep := goodIn_ca (goodIn_r _ [436, 109, 437, 438, 439, 2, 440, 20, 127, 128, 129, 130, 114, 115, 441, 442, 443, 40, 444, 52, 445, 446, 215, 447, 794, 795, 796, 817, 818, 819, 820, 821, 822, 823, 824, 825, 826, 827, 828, 829, 830, 831, 832, 833] (by decide +kernel) (by decide +kernel)) (goodIn_sub (fun _ h => List.mem_append_left _ (List.mem_append_right _ h)) (by decide +kernel))
set_option maxRecDepth 20000 in
theorem gL_law_L_sleep : GoodIn wsL_law (va_wsS RL 121 yL_sleep wsL_sleep) := goodIn_app (goodIn_of _ (by decide +kernel)) ggL_law_L_sleep
set_option maxRecDepth 20000 in
theorem ggL_law_X5_sleep : GoodIn wsL_law wsX5_sleep := goodIn_r _ [451, 95, 155, 156, 5, 157, 97, 98, 99, 100, 452, 453, 454, 455, 67, 797, 798, 799, 800, 801, 802, 803, 804, 805, 806, 807, 808, 834, 835, 836, 837, 838, 839, 840, 841, 842, 843, 844, 845, 846, 847] (by decide +kernel) (by decide +kernel)
set_option maxRecDepth 20000 in
theorem gL_law_X5_sleep : GoodIn wsL_law (wsV RL 123 RX5 yX5_sleep wsX5_sleep) := goodIn_app (goodIn_of _ (by decide +kernel)) ggL_law_X5_sleep
set_option maxRecDepth 20000 in
theorem ggL_law_X3_places : GoodIn wsL_law wsX3_places := goodIn_r _ [459, 16, 794, 795, 796, 809, 810, 811, 812, 813, 814, 815, 816] (by decide +kernel) (by decide +kernel)
set_option maxRecDepth 20000 in
theorem gL_law_X3_places : GoodIn wsL_law (wsV RL 124 RX3 yX3_places wsX3_places) := goodIn_app (goodIn_of _ (by decide +kernel)) ggL_law_X3_places
set_option maxRecDepth 20000 in
theorem ggL_law_X5_places : GoodIn wsL_law wsX5_places := goodIn_r _ [463, 96, 464, 465, 466, 5, 467, 95, 797, 798, 799, 800, 801, 802, 803, 804, 805, 806, 807, 808] (by decide +kernel) (by decide +kernel)
set_option maxRecDepth 20000 in
theorem gL_law_X5_places : GoodIn wsL_law (wsV RL 127 RX5 yX5_places wsX5_places) := goodIn_app (goodIn_of _ (by decide +kernel)) ggL_law_X5_places
set_option maxRecDepth 20000 in
theorem ggL_law_L_exitsOf : GoodIn wsL_law wsL_exitsOf := goodIn_ca (goodIn_r _ [470, 108, 471, 472, 473, 2, 474, 16, 116, 117, 118, 119, 120, 121, 122, 123, 124, 15, 125, 126, 794, 795, 796, 809, 810, 811, 812, 813, 814, 815, 816] (by decide +kernel) (by decide +kernel)) (goodIn_sub (fun _ h => List.mem_append_right _ h) (by decide +kernel))
set_option maxRecDepth 20000 in
theorem gL_law_L_exitsOf : GoodIn wsL_law (va_wsS RL 128 yL_exitsOf wsL_exitsOf) := goodIn_app (goodIn_of _ (by decide +kernel)) ggL_law_L_exitsOf
set_option maxRecDepth 20000 in
theorem ggL_law_X5_exitsOf : GoodIn wsL_law wsX5_exitsOf := goodIn_r _ [478, 95, 57, 151, 152, 153, 5, 154, 96, 155, 156, 157, 97, 98, 99, 100, 797, 798, 799, 800, 801, 802, 803, 804, 805, 806, 807, 808] (by decide +kernel) (by decide +kernel)
set_option maxRecDepth 20000 in
theorem gL_law_X5_exitsOf : GoodIn wsL_law (wsV RL 130 RX5 yX5_exitsOf wsX5_exitsOf) := goodIn_app (goodIn_of _ (by decide +kernel)) ggL_law_X5_exitsOf
set_option maxRecDepth 20000 in
theorem ggL_law_L_leadsTo : GoodIn wsL_law wsL_leadsTo := goodIn_ca (goodIn_r _ [481, 108, 482, 483, 484, 2, 485, 16, 169, 170, 171, 172, 120, 121, 173, 174, 175, 15, 176, 26, 135, 123, 124, 125, 126, 486, 487, 488, 489, 29, 181, 182, 794, 795, 796, 809, 810, 811, 812, 813, 814, 815, 816] (by decide +kernel) (by decide +kernel)) (goodIn_sub (fun _ h => List.mem_append_right _ h) (by decide +kernel))
set_option maxRecDepth 20000 in
theorem gL_law_L_leadsTo : GoodIn wsL_law (va_wsS RL 131 yL_leadsTo wsL_leadsTo) := goodIn_app (goodIn_of _ (by decide +kernel)) ggL_law_L_leadsTo
set_option maxRecDepth 20000 in
theorem ggL_law_X5_leadsTo : GoodIn wsL_law wsX5_leadsTo := goodIn_r _ [493, 95, 59, 187, 188, 189, 5, 190, 57, 151, 152, 153, 154, 96, 155, 156, 157, 97, 98, 99, 100, 797, 798, 799, 800, 801, 802, 803, 804, 805, 806, 807, 808] (by decide +kernel) (by decide +kernel)
set_option maxRecDepth 20000 in
theorem gL_law_X5_leadsTo : GoodIn wsL_law (wsV RL 133 RX5 yX5_leadsTo wsX5_leadsTo) := goodIn_app (goodIn_of _ (by decide +kernel)) ggL_law_X5_leadsTo
set_option maxRecDepth 20000 in
theorem ggL_law_L_milesOf : GoodIn wsL_law wsL_milesOf := goodIn_ca (goodIn_r _ [496, 108, 497, 498, 499, 2, 500, 16, 169, 170, 171, 172, 120, 121, 173, 174, 175, 15, 176, 26, 135, 123, 124, 125, 126, 501, 351, 352, 353, 31, 181, 182, 794, 795, 796, 809, 810, 811, 812, 813, 814, 815, 816] (by decide +kernel) (by decide +kernel)) (goodIn_sub (fun _ h => List.mem_append_right _ h) (by decide +kernel))
set_option maxRecDepth 20000 in
theorem gL_law_L_milesOf : GoodIn wsL_law (va_wsS RL 134 yL_milesOf wsL_milesOf) := goodIn_app (goodIn_of _ (by decide +kernel)) ggL_law_L_milesOf
set_option maxRecDepth 20000 in
theorem ggL_law_X5_milesOf : GoodIn wsL_law wsX5_milesOf := goodIn_r _ [505, 95, 60, 58, 187, 188, 189, 5, 190, 57, 151, 152, 153, 154, 96, 155, 156, 157, 97, 98, 99, 100, 797, 798, 799, 800, 801, 802, 803, 804, 805, 806, 807, 808] (by decide +kernel) (by decide +kernel)
set_option maxRecDepth 20000 in
theorem gL_law_X5_milesOf : GoodIn wsL_law (wsV RL 136 RX5 yX5_milesOf wsX5_milesOf) := goodIn_app (goodIn_of _ (by decide +kernel)) ggL_law_X5_milesOf
set_option maxRecDepth 20000 in
theorem ggL_law_L_isOpen : GoodIn wsL_law wsL_isOpen := goodIn_ca (goodIn_r _ [508, 108, 509, 510, 511, 2, 512, 16, 169, 170, 171, 172, 120, 121, 173, 174, 175, 15, 176, 26, 135, 123, 124, 125, 126, 513, 514, 515, 516, 32, 181, 182, 794, 795, 796, 809, 810, 811, 812, 813, 814, 815, 816] (by decide +kernel) (by decide +kernel)) (goodIn_sub (fun _ h => List.mem_append_right _ h) (by decide +kernel))
set_option maxRecDepth 20000 in
theorem gL_law_L_isOpen : GoodIn wsL_law (va_wsS RL 137 yL_isOpen wsL_isOpen) := goodIn_app (goodIn_of _ (by decide +kernel)) ggL_law_L_isOpen
set_option maxRecDepth 20000 in
theorem ggL_law_X5_isOpen : GoodIn wsL_law wsX5_isOpen := goodIn_r _ [520, 95, 61, 58, 187, 188, 189, 5, 190, 57, 151, 152, 153, 154, 96, 155, 156, 157, 191, 192, 193, 194, 797, 798, 799, 800, 801, 802, 803, 804, 805, 806, 807, 808] (by decide +kernel) (by decide +kernel)
set_option maxRecDepth 20000 in
theorem gL_law_X5_isOpen : GoodIn wsL_law (wsV RL 139 RX5 yX5_isOpen wsX5_isOpen) := goodIn_app (goodIn_of _ (by decide +kernel)) ggL_law_X5_isOpen
set_option maxRecDepth 20000 in
theorem ggL_law_L_hasShepherd : GoodIn wsL_law wsL_hasShepherd := goodIn_ca (goodIn_r _ [523, 108, 524, 525, 526, 2, 527, 16, 116, 117, 118, 119, 120, 121, 122, 123, 124, 15, 125, 126, 794, 795, 796, 809, 810, 811, 812, 813, 814, 815, 816] (by decide +kernel) (by decide +kernel)) (goodIn_sub (fun _ h => List.mem_append_right _ h) (by decide +kernel))
set_option maxRecDepth 20000 in
theorem gL_law_L_hasShepherd : GoodIn wsL_law (va_wsS RL 140 yL_hasShepherd wsL_hasShepherd) := goodIn_app (goodIn_of _ (by decide +kernel)) ggL_law_L_hasShepherd
set_option maxRecDepth 20000 in
theorem ggL_law_X5_hasShepherd : GoodIn wsL_law wsX5_hasShepherd := goodIn_r _ [531, 95, 62, 151, 152, 153, 5, 154, 96, 155, 156, 157, 191, 192, 193, 194, 797, 798, 799, 800, 801, 802, 803, 804, 805, 806, 807, 808] (by decide +kernel) (by decide +kernel)
set_option maxRecDepth 20000 in
theorem gL_law_X5_hasShepherd : GoodIn wsL_law (wsV RL 142 RX5 yX5_hasShepherd wsX5_hasShepherd) := goodIn_app (goodIn_of _ (by decide +kernel)) ggL_law_X5_hasShepherd
set_option maxRecDepth 20000 in
theorem ggL_law_L_distance : GoodIn wsL_law wsL_distance := goodIn_ca (goodIn_r _ [534, 108, 535, 536, 537, 2, 538, 16, 116, 117, 118, 119, 120, 121, 122, 123, 124, 15, 125, 126, 237, 238, 239, 240, 33, 241, 242, 243, 244, 245, 246, 247, 248, 249, 135, 250, 251, 252, 253, 32, 31, 29, 144, 145, 794, 795, 796, 809, 810, 811, 812, 813, 814, 815, 816] (by decide +kernel) (by decide +kernel)) (goodIn_sub (fun _ h => List.mem_append_right _ h) (by decide +kernel))
set_option maxRecDepth 20000 in
theorem gL_law_L_distance : GoodIn wsL_law (va_wsS RL 143 yL_distance wsL_distance) := goodIn_app (goodIn_of _ (by decide +kernel)) ggL_law_L_distance
set_option maxRecDepth 20000 in
theorem ggL_law_X5_distance : GoodIn wsL_law wsX5_distance := goodIn_r _ [542, 95, 151, 152, 153, 5, 154, 96, 155, 156, 157, 280, 281, 282, 283, 63, 284, 285, 286, 287, 57, 61, 58, 59, 60, 97, 98, 99, 100, 797, 798, 799, 800, 801, 802, 803, 804, 805, 806, 807, 808] (by decide +kernel) (by decide +kernel)
set_option maxRecDepth 20000 in
theorem gL_law_X5_distance : GoodIn wsL_law (wsV RL 145 RX5 yX5_distance wsX5_distance) := goodIn_app (goodIn_of _ (by decide +kernel)) ggL_law_X5_distance
set_option maxRecDepth 20000 in
theorem ggL_law_X3_whereIs : GoodIn wsL_law wsX3_whereIs := goodIn_r _ [546, 16, 20, 794, 795, 796, 809, 810, 811, 812, 813, 814, 815, 816, 817, 818, 819, 820, 821, 822, 823, 824, 825, 826, 827, 828, 829, 830, 831] (by decide +kernel) (by decide +kernel)
set_option maxRecDepth 20000 in
theorem gL_law_X3_whereIs : GoodIn wsL_law (wsV RL 146 RX3 yX3_whereIs wsX3_whereIs) := goodIn_app (goodIn_of _ (by decide +kernel)) ggL_law_X3_whereIs
set_option maxRecDepth 20000 in
theorem ggL_law_X5_whereIs : GoodIn wsL_law wsX5_whereIs := goodIn_r _ [550, 67, 464, 465, 466, 5, 467, 95, 797, 798, 799, 800, 801, 802, 803, 804, 805, 806, 807, 808, 834, 835, 836, 837, 838, 839, 840, 841, 842, 843, 844, 845, 846, 847] (by decide +kernel) (by decide +kernel)
set_option maxRecDepth 20000 in
theorem gL_law_X5_whereIs : GoodIn wsL_law (wsV RL 149 RX5 yX5_whereIs wsX5_whereIs) := goodIn_app (goodIn_of _ (by decide +kernel)) ggL_law_X5_whereIs
set_option maxRecDepth 20000 in
theorem ggL_law_X3_coins : GoodIn wsL_law wsX3_coins := goodIn_r _ [554, 20, 794, 795, 796, 817, 818, 819, 820, 821, 822, 823, 824, 825, 826, 827, 828, 829, 830, 831] (by decide +kernel) (by decide +kernel)
set_option maxRecDepth 20000 in
theorem gL_law_X3_coins : GoodIn wsL_law (wsV RL 150 RX3 yX3_coins wsX3_coins) := goodIn_app (goodIn_of _ (by decide +kernel)) ggL_law_X3_coins
set_option maxRecDepth 20000 in
theorem ggL_law_X5_coins : GoodIn wsL_law wsX5_coins := goodIn_r _ [558, 67, 464, 465, 466, 5, 467, 95, 797, 798, 799, 800, 801, 802, 803, 804, 805, 806, 807, 808, 834, 835, 836, 837, 838, 839, 840, 841, 842, 843, 844, 845, 846, 847] (by decide +kernel) (by decide +kernel)
set_option maxRecDepth 20000 in
theorem gL_law_X5_coins : GoodIn wsL_law (wsV RL 153 RX5 yX5_coins wsX5_coins) := goodIn_app (goodIn_of _ (by decide +kernel)) ggL_law_X5_coins
set_option maxRecDepth 20000 in
theorem ggL_law_X3_goal : GoodIn wsL_law wsX3_goal := goodIn_r _ [562, 20, 794, 795, 796, 817, 818, 819, 820, 821, 822, 823, 824, 825, 826, 827, 828, 829, 830, 831] (by decide +kernel) (by decide +kernel)
set_option maxRecDepth 20000 in
theorem gL_law_X3_goal : GoodIn wsL_law (wsV RL 154 RX3 yX3_goal wsX3_goal) := goodIn_app (goodIn_of _ (by decide +kernel)) ggL_law_X3_goal
set_option maxRecDepth 20000 in
theorem ggL_law_X5_goal : GoodIn wsL_law wsX5_goal := goodIn_r _ [566, 67, 464, 465, 466, 5, 467, 95, 797, 798, 799, 800, 801, 802, 803, 804, 805, 806, 807, 808, 834, 835, 836, 837, 838, 839, 840, 841, 842, 843, 844, 845, 846, 847] (by decide +kernel) (by decide +kernel)
set_option maxRecDepth 20000 in
theorem gL_law_X5_goal : GoodIn wsL_law (wsV RL 157 RX5 yX5_goal wsX5_goal) := goodIn_app (goodIn_of _ (by decide +kernel)) ggL_law_X5_goal
set_option maxRecDepth 20000 in
theorem ggL_law_X3_wayLength : GoodIn wsL_law wsX3_wayLength := goodIn_r _ [570, 20, 794, 795, 796, 817, 818, 819, 820, 821, 822, 823, 824, 825, 826, 827, 828, 829, 830, 831] (by decide +kernel) (by decide +kernel)
set_option maxRecDepth 20000 in
theorem gL_law_X3_wayLength : GoodIn wsL_law (wsV RL 158 RX3 yX3_wayLength wsX3_wayLength) := goodIn_app (goodIn_of _ (by decide +kernel)) ggL_law_X3_wayLength
set_option maxRecDepth 20000 in
theorem ggL_law_X5_wayLength : GoodIn wsL_law wsX5_wayLength := goodIn_r _ [574, 67, 464, 465, 466, 5, 467, 95, 797, 798, 799, 800, 801, 802, 803, 804, 805, 806, 807, 808, 834, 835, 836, 837, 838, 839, 840, 841, 842, 843, 844, 845, 846, 847] (by decide +kernel) (by decide +kernel)
set_option maxRecDepth 20000 in
theorem gL_law_X5_wayLength : GoodIn wsL_law (wsV RL 161 RX5 yX5_wayLength wsX5_wayLength) := goodIn_app (goodIn_of _ (by decide +kernel)) ggL_law_X5_wayLength
set_option maxRecDepth 20000 in
theorem ggL_law_L_isTried : GoodIn wsL_law wsL_isTried := goodIn_ca (goodIn_r _ [577, 108, 578, 579, 580, 2, 581, 20, 169, 170, 171, 172, 120, 121, 16, 173, 174, 175, 15, 176, 26, 135, 123, 124, 125, 126, 233, 234, 235, 19, 236, 42, 582, 583, 584, 585, 44, 181, 182, 794, 795, 796, 809, 810, 811, 812, 813, 814, 815, 816, 817, 818, 819, 820, 821, 822, 823, 824, 825, 826, 827, 828, 829, 830, 831] (by decide +kernel) (by decide +kernel)) (goodIn_sub (fun _ h => List.mem_append_right _ h) (by decide +kernel))
set_option maxRecDepth 20000 in
theorem gL_law_L_isTried : GoodIn wsL_law (va_wsS RL 162 yL_isTried wsL_isTried) := goodIn_app (goodIn_of _ (by decide +kernel)) ggL_law_L_isTried
set_option maxRecDepth 20000 in
theorem ggL_law_X5_isTried : GoodIn wsL_law wsX5_isTried := goodIn_r _ [589, 95, 67, 58, 187, 188, 189, 5, 190, 57, 151, 152, 153, 154, 96, 155, 156, 157, 191, 192, 193, 194, 797, 798, 799, 800, 801, 802, 803, 804, 805, 806, 807, 808, 834, 835, 836, 837, 838, 839, 840, 841, 842, 843, 844, 845, 846, 847] (by decide +kernel) (by decide +kernel)
set_option maxRecDepth 20000 in
theorem gL_law_X5_isTried : GoodIn wsL_law (wsV RL 164 RX5 yX5_isTried wsX5_isTried) := goodIn_app (goodIn_of _ (by decide +kernel)) ggL_law_X5_isTried
set_option maxRecDepth 20000 in
theorem ggL_law_L_remembered : GoodIn wsL_law wsL_remembered := goodIn_ca (goodIn_r _ [592, 108, 593, 594, 595, 2, 596, 20, 116, 117, 118, 119, 120, 121, 16, 122, 123, 124, 15, 125, 126, 597, 309, 310, 40, 311, 52, 51, 312, 313, 314, 794, 795, 796, 817, 818, 819, 820, 821, 822, 823, 824, 825, 826, 827, 828, 829, 830, 831, 809, 810, 811, 812, 813, 814, 815, 816, 832, 833] (by decide +kernel) (by decide +kernel)) (goodIn_sub (fun _ h => List.mem_append_right _ h) (by decide +kernel))
set_option maxRecDepth 20000 in
theorem gL_law_L_remembered : GoodIn wsL_law (va_wsS RL 165 yL_remembered wsL_remembered) := goodIn_app (goodIn_of _ (by decide +kernel)) ggL_law_L_remembered
set_option maxRecDepth 20000 in
theorem ggL_law_X5_remembered : GoodIn wsL_law wsX5_remembered := goodIn_r _ [601, 95, 67, 151, 152, 153, 5, 154, 96, 155, 156, 157, 97, 98, 99, 100, 797, 798, 799, 800, 801, 802, 803, 804, 805, 806, 807, 808, 834, 835, 836, 837, 838, 839, 840, 841, 842, 843, 844, 845, 846, 847] (by decide +kernel) (by decide +kernel)
set_option maxRecDepth 20000 in
theorem gL_law_X5_remembered : GoodIn wsL_law (wsV RL 167 RX5 yX5_remembered wsX5_remembered) := goodIn_app (goodIn_of _ (by decide +kernel)) ggL_law_X5_remembered
set_option maxRecDepth 20000 in
theorem ggL_law_L_strength : GoodIn wsL_law wsL_strength := goodIn_ca (goodIn_r _ [604, 108, 605, 606, 607, 2, 608, 20, 116, 117, 118, 119, 120, 121, 16, 122, 123, 124, 15, 125, 126, 609, 610, 611, 40, 612, 52, 312, 313, 314, 794, 795, 796, 817, 818, 819, 820, 821, 822, 823, 824, 825, 826, 827, 828, 829, 830, 831, 809, 810, 811, 812, 813, 814, 815, 816, 832, 833] (by decide +kernel) (by decide +kernel)) (goodIn_sub (fun _ h => List.mem_append_right _ h) (by decide +kernel))
set_option maxRecDepth 20000 in
theorem gL_law_L_strength : GoodIn wsL_law (va_wsS RL 168 yL_strength wsL_strength) := goodIn_app (goodIn_of _ (by decide +kernel)) ggL_law_L_strength
set_option maxRecDepth 20000 in
theorem ggL_law_X5_strength : GoodIn wsL_law wsX5_strength := goodIn_r _ [616, 95, 151, 152, 153, 5, 154, 96, 155, 156, 157, 617, 618, 619, 620, 67, 97, 98, 99, 100, 797, 798, 799, 800, 801, 802, 803, 804, 805, 806, 807, 808, 834, 835, 836, 837, 838, 839, 840, 841, 842, 843, 844, 845, 846, 847] (by decide +kernel) (by decide +kernel)
set_option maxRecDepth 20000 in
theorem gL_law_X5_strength : GoodIn wsL_law (wsV RL 170 RX5 yX5_strength wsX5_strength) := goodIn_app (goodIn_of _ (by decide +kernel)) ggL_law_X5_strength
set_option maxRecDepth 20000 in
theorem ggL_law_L_knowsWay : GoodIn wsL_law wsL_knowsWay := goodIn_ca (goodIn_r _ [623, 108, 624, 625, 626, 2, 627, 20, 116, 117, 118, 119, 120, 121, 16, 122, 123, 124, 15, 125, 126, 628, 629, 630, 19, 631, 259, 47, 41, 308, 309, 310, 40, 311, 52, 51, 312, 313, 314, 315, 174, 175, 176, 26, 135, 632, 514, 515, 516, 32, 181, 182, 633, 487, 488, 489, 29, 794, 795, 796, 809, 810, 811, 812, 813, 814, 815, 816, 817, 818, 819, 820, 821, 822, 823, 824, 825, 826, 827, 828, 829, 830, 831, 832, 833] (by decide +kernel) (by decide +kernel)) (goodIn_sub (fun _ h => List.mem_append_right _ h) (by decide +kernel))
set_option maxRecDepth 20000 in
theorem gL_law_L_knowsWay : GoodIn wsL_law (va_wsS RL 171 yL_knowsWay wsL_knowsWay) := goodIn_app (goodIn_of _ (by decide +kernel)) ggL_law_L_knowsWay
set_option maxRecDepth 20000 in
theorem ggL_law_X5_knowsWay : GoodIn wsL_law wsX5_knowsWay := goodIn_r _ [637, 95, 151, 152, 153, 5, 154, 96, 155, 156, 157, 638, 639, 640, 641, 67, 61, 58, 59, 191, 192, 193, 194, 797, 798, 799, 800, 801, 802, 803, 804, 805, 806, 807, 808, 834, 835, 836, 837, 838, 839, 840, 841, 842, 843, 844, 845, 846, 847] (by decide +kernel) (by decide +kernel)
set_option maxRecDepth 20000 in
theorem gL_law_X5_knowsWay : GoodIn wsL_law (wsV RL 173 RX5 yX5_knowsWay wsX5_knowsWay) := goodIn_app (goodIn_of _ (by decide +kernel)) ggL_law_X5_knowsWay
set_option maxRecDepth 20000 in
theorem ggL_law_X3_milesWalked : GoodIn wsL_law wsX3_milesWalked := goodIn_r _ [645, 20, 794, 795, 796, 817, 818, 819, 820, 821, 822, 823, 824, 825, 826, 827, 828, 829, 830, 831] (by decide +kernel) (by decide +kernel)
set_option maxRecDepth 20000 in
theorem gL_law_X3_milesWalked : GoodIn wsL_law (wsV RL 174 RX3 yX3_milesWalked wsX3_milesWalked) := goodIn_app (goodIn_of _ (by decide +kernel)) ggL_law_X3_milesWalked
set_option maxRecDepth 20000 in
theorem ggL_law_X5_milesWalked : GoodIn wsL_law wsX5_milesWalked := goodIn_r _ [649, 67, 464, 465, 466, 5, 467, 95, 797, 798, 799, 800, 801, 802, 803, 804, 805, 806, 807, 808, 834, 835, 836, 837, 838, 839, 840, 841, 842, 843, 844, 845, 846, 847] (by decide +kernel) (by decide +kernel)
set_option maxRecDepth 20000 in
theorem gL_law_X5_milesWalked : GoodIn wsL_law (wsV RL 177 RX5 yX5_milesWalked wsX5_milesWalked) := goodIn_app (goodIn_of _ (by decide +kernel)) ggL_law_X5_milesWalked
set_option maxRecDepth 20000 in
theorem ggL_law_X3_milesDoubled : GoodIn wsL_law wsX3_milesDoubled := goodIn_r _ [653, 20, 794, 795, 796, 817, 818, 819, 820, 821, 822, 823, 824, 825, 826, 827, 828, 829, 830, 831] (by decide +kernel) (by decide +kernel)
set_option maxRecDepth 20000 in
theorem gL_law_X3_milesDoubled : GoodIn wsL_law (wsV RL 178 RX3 yX3_milesDoubled wsX3_milesDoubled) := goodIn_app (goodIn_of _ (by decide +kernel)) ggL_law_X3_milesDoubled
set_option maxRecDepth 20000 in
theorem ggL_law_X5_milesDoubled : GoodIn wsL_law wsX5_milesDoubled := goodIn_r _ [657, 67, 464, 465, 466, 5, 467, 95, 797, 798, 799, 800, 801, 802, 803, 804, 805, 806, 807, 808, 834, 835, 836, 837, 838, 839, 840, 841, 842, 843, 844, 845, 846, 847] (by decide +kernel) (by decide +kernel)
set_option maxRecDepth 20000 in
theorem gL_law_X5_milesDoubled : GoodIn wsL_law (wsV RL 181 RX5 yX5_milesDoubled wsX5_milesDoubled) := goodIn_app (goodIn_of _ (by decide +kernel)) ggL_law_X5_milesDoubled
set_option maxRecDepth 20000 in
theorem ggL_law_X3_errandsDone : GoodIn wsL_law wsX3_errandsDone := goodIn_r _ [661, 20, 794, 795, 796, 817, 818, 819, 820, 821, 822, 823, 824, 825, 826, 827, 828, 829, 830, 831] (by decide +kernel) (by decide +kernel)
set_option maxRecDepth 20000 in
theorem gL_law_X3_errandsDone : GoodIn wsL_law (wsV RL 182 RX3 yX3_errandsDone wsX3_errandsDone) := goodIn_app (goodIn_of _ (by decide +kernel)) ggL_law_X3_errandsDone
set_option maxRecDepth 20000 in
theorem ggL_law_X5_errandsDone : GoodIn wsL_law wsX5_errandsDone := goodIn_r _ [665, 67, 464, 465, 466, 5, 467, 95, 797, 798, 799, 800, 801, 802, 803, 804, 805, 806, 807, 808, 834, 835, 836, 837, 838, 839, 840, 841, 842, 843, 844, 845, 846, 847] (by decide +kernel) (by decide +kernel)
set_option maxRecDepth 20000 in
theorem gL_law_X5_errandsDone : GoodIn wsL_law (wsV RL 185 RX5 yX5_errandsDone wsX5_errandsDone) := goodIn_app (goodIn_of _ (by decide +kernel)) ggL_law_X5_errandsDone
set_option maxRecDepth 20000 in
theorem ggL_law_X3_errandsInVain : GoodIn wsL_law wsX3_errandsInVain := goodIn_r _ [669, 20, 794, 795, 796, 817, 818, 819, 820, 821, 822, 823, 824, 825, 826, 827, 828, 829, 830, 831] (by decide +kernel) (by decide +kernel)
set_option maxRecDepth 20000 in
theorem gL_law_X3_errandsInVain : GoodIn wsL_law (wsV RL 186 RX3 yX3_errandsInVain wsX3_errandsInVain) := goodIn_app (goodIn_of _ (by decide +kernel)) ggL_law_X3_errandsInVain
set_option maxRecDepth 20000 in
theorem ggL_law_X5_errandsInVain : GoodIn wsL_law wsX5_errandsInVain := goodIn_r _ [673, 67, 464, 465, 466, 5, 467, 95, 797, 798, 799, 800, 801, 802, 803, 804, 805, 806, 807, 808, 834, 835, 836, 837, 838, 839, 840, 841, 842, 843, 844, 845, 846, 847] (by decide +kernel) (by decide +kernel)
set_option maxRecDepth 20000 in
theorem gL_law_X5_errandsInVain : GoodIn wsL_law (wsV RL 189 RX5 yX5_errandsInVain wsX5_errandsInVain) := goodIn_app (goodIn_of _ (by decide +kernel)) ggL_law_X5_errandsInVain
set_option maxRecDepth 20000 in
theorem ggL_law_X3_asked : GoodIn wsL_law wsX3_asked := goodIn_r _ [677, 20, 794, 795, 796, 817, 818, 819, 820, 821, 822, 823, 824, 825, 826, 827, 828, 829, 830, 831] (by decide +kernel) (by decide +kernel)
set_option maxRecDepth 20000 in
theorem gL_law_X3_asked : GoodIn wsL_law (wsV RL 190 RX3 yX3_asked wsX3_asked) := goodIn_app (goodIn_of _ (by decide +kernel)) ggL_law_X3_asked
set_option maxRecDepth 20000 in
theorem ggL_law_X5_asked : GoodIn wsL_law wsX5_asked := goodIn_r _ [681, 67, 464, 465, 466, 5, 467, 95, 797, 798, 799, 800, 801, 802, 803, 804, 805, 806, 807, 808, 834, 835, 836, 837, 838, 839, 840, 841, 842, 843, 844, 845, 846, 847] (by decide +kernel) (by decide +kernel)
set_option maxRecDepth 20000 in
theorem gL_law_X5_asked : GoodIn wsL_law (wsV RL 193 RX5 yX5_asked wsX5_asked) := goodIn_app (goodIn_of _ (by decide +kernel)) ggL_law_X5_asked
set_option maxRecDepth 20000 in
theorem ggL_law_L_wouldWalk : GoodIn wsL_law wsL_wouldWalk := goodIn_ca (goodIn_ca (goodIn_r _ [684, 108, 84, 685, 686, 687, 2, 688, 116, 117, 118, 119, 120, 121, 16, 122, 123, 124, 15, 125, 126, 229, 230, 231, 232, 89, 90, 20, 233, 234, 235, 19, 236, 42, 689, 690, 691, 692, 21, 693, 694, 695, 696, 259, 324, 41, 46, 345, 303, 697, 698, 699, 40, 700, 51, 701, 702, 703, 704, 52, 254, 255, 256, 257, 44, 45, 258, 260, 261, 262, 263, 264, 265, 266, 267, 299, 300, 301, 302, 304, 305, 306, 307, 47, 308, 309, 310, 311, 312, 313, 314, 315, 174, 175, 176, 26, 135, 316, 317, 318, 319, 181, 182, 320, 321, 322, 323, 325, 326, 327, 328, 329, 330, 33, 241, 242, 243, 244, 245, 246, 247, 248, 249, 250, 251, 252, 253, 32, 31, 29, 144, 145, 331, 332, 333, 334, 335, 336, 337, 338, 339, 340, 341, 342, 343, 344, 43, 346, 347, 348, 349, 30, 350, 351, 352, 353, 354, 355, 356, 357, 358, 359, 360, 361, 362, 363, 364, 365, 366, 367, 214, 215, 216, 368, 794, 795, 796, 809, 810, 811, 812, 813, 814, 815, 816, 817, 818, 819, 820, 821, 822, 823, 824, 825, 826, 827, 828, 829, 830, 831, 832, 833] (by decide +kernel) (by decide +kernel)) (goodIn_sub (fun _ h => List.mem_append_right _ h) (by decide +kernel))) (goodIn_sub (fun _ h => List.mem_append_left _ (List.mem_append_left _ (List.mem_append_right _ h))) (by decide +kernel))
set_option maxRecDepth 20000 in
theorem gL_law_L_wouldWalk : GoodIn wsL_law (va_wsS RL 194 yL_wouldWalk wsL_wouldWalk) := goodIn_app (goodIn_of _ (by decide +kernel)) ggL_law_L_wouldWalk
set_option maxRecDepth 20000 in
theorem ggL_law_X5_wouldWalk : GoodIn wsL_law wsX5_wouldWalk := goodIn_r _ [708, 95, 67, 151, 152, 153, 5, 154, 96, 155, 156, 157, 97, 98, 99, 100, 709, 710, 711, 712, 68, 713, 714, 715, 66, 716, 73, 717, 74, 279, 718, 719, 720, 721, 722, 75, 723, 702, 703, 704, 76, 77, 78, 79, 272, 273, 274, 275, 276, 277, 278, 373, 374, 375, 376, 377, 378, 379, 380, 381, 382, 383, 384, 385, 386, 387, 388, 61, 58, 389, 390, 391, 392, 59, 60, 393, 394, 395, 396, 62, 397, 398, 399, 400, 57, 63, 284, 285, 286, 287, 401, 402, 403, 404, 405, 406, 407, 408, 409, 410, 411, 412, 413, 414, 415, 416, 417, 418, 419, 420, 421, 221, 214, 215, 216, 797, 798, 799, 800, 801, 802, 803, 804, 805, 806, 807, 808, 834, 835, 836, 837, 838, 839, 840, 841, 842, 843, 844, 845, 846, 847] (by decide +kernel) (by decide +kernel)
set_option maxRecDepth 20000 in
theorem gL_law_X5_wouldWalk : GoodIn wsL_law (wsV RL 196 RX5 yX5_wouldWalk wsX5_wouldWalk) := goodIn_app (goodIn_of _ (by decide +kernel)) ggL_law_X5_wouldWalk
set_option maxRecDepth 20000 in
theorem ggL_law_L_bestShepherd : GoodIn wsL_law wsL_bestShepherd := goodIn_ca (goodIn_ca (goodIn_r _ [726, 108, 84, 727, 728, 729, 2, 730, 16, 116, 117, 118, 119, 120, 121, 122, 123, 124, 15, 125, 126, 229, 230, 231, 232, 89, 90, 20, 233, 234, 235, 19, 236, 42, 689, 690, 691, 692, 21, 693, 694, 695, 696, 259, 324, 41, 46, 345, 303, 697, 698, 699, 40, 700, 51, 701, 702, 703, 704, 52, 254, 255, 256, 257, 44, 45, 258, 260, 261, 262, 263, 264, 265, 266, 267, 299, 300, 301, 302, 304, 305, 306, 307, 47, 308, 309, 310, 311, 312, 313, 314, 315, 174, 175, 176, 26, 135, 316, 317, 318, 319, 181, 182, 320, 321, 322, 323, 325, 326, 327, 328, 329, 330, 33, 241, 242, 243, 244, 245, 246, 247, 248, 249, 250, 251, 252, 253, 32, 31, 29, 144, 145, 331, 332, 333, 334, 335, 336, 337, 338, 339, 340, 341, 342, 343, 344, 43, 346, 347, 348, 349, 30, 350, 351, 352, 353, 354, 355, 356, 357, 358, 359, 360, 361, 362, 363, 364, 365, 366, 367, 214, 215, 216, 368, 794, 795, 796, 809, 810, 811, 812, 813, 814, 815, 816, 817, 818, 819, 820, 821, 822, 823, 824, 825, 826, 827, 828, 829, 830, 831, 832, 833] (by decide +kernel) (by decide +kernel)) (goodIn_sub (fun _ h => List.mem_append_right _ h) (by decide +kernel))) (goodIn_sub (fun _ h => List.mem_append_left _ (List.mem_append_left _ (List.mem_append_right _ h))) (by decide +kernel))
set_option maxRecDepth 20000 in
theorem gL_law_L_bestShepherd : GoodIn wsL_law (va_wsS RL 197 yL_bestShepherd wsL_bestShepherd) := goodIn_app (goodIn_of _ (by decide +kernel)) ggL_law_L_bestShepherd
set_option maxRecDepth 20000 in
theorem ggL_law_X5_bestShepherd : GoodIn wsL_law wsX5_bestShepherd := goodIn_r _ [734, 95, 67, 151, 152, 153, 5, 154, 96, 155, 156, 157, 97, 98, 99, 100, 735, 736, 737, 738, 62, 709, 710, 711, 712, 68, 713, 714, 715, 66, 716, 73, 717, 74, 279, 718, 719, 720, 721, 722, 75, 723, 702, 703, 704, 76, 77, 78, 79, 272, 273, 274, 275, 276, 277, 278, 373, 374, 375, 376, 377, 378, 379, 380, 381, 382, 383, 384, 385, 386, 387, 388, 61, 58, 389, 390, 391, 392, 59, 60, 393, 394, 395, 396, 397, 398, 399, 400, 57, 63, 284, 285, 286, 287, 401, 402, 403, 404, 405, 406, 407, 408, 409, 410, 411, 412, 413, 414, 415, 416, 417, 418, 419, 420, 421, 221, 214, 215, 216, 797, 798, 799, 800, 801, 802, 803, 804, 805, 806, 807, 808, 834, 835, 836, 837, 838, 839, 840, 841, 842, 843, 844, 845, 846, 847] (by decide +kernel) (by decide +kernel)
set_option maxRecDepth 20000 in
theorem gL_law_X5_bestShepherd : GoodIn wsL_law (wsV RL 199 RX5 yX5_bestShepherd wsX5_bestShepherd) := goodIn_app (goodIn_of _ (by decide +kernel)) ggL_law_X5_bestShepherd
set_option maxRecDepth 20000 in
theorem ggL_law_X3_meanMiles : GoodIn wsL_law wsX3_meanMiles := goodIn_r _ [742, 20, 794, 795, 796, 817, 818, 819, 820, 821, 822, 823, 824, 825, 826, 827, 828, 829, 830, 831] (by decide +kernel) (by decide +kernel)
set_option maxRecDepth 20000 in
theorem gL_law_X3_meanMiles : GoodIn wsL_law (wsV RL 200 RX3 yX3_meanMiles wsX3_meanMiles) := goodIn_app (goodIn_of _ (by decide +kernel)) ggL_law_X3_meanMiles
set_option maxRecDepth 20000 in
theorem ggL_law_X5_meanMiles : GoodIn wsL_law wsX5_meanMiles := goodIn_r _ [746, 95, 67, 797, 798, 799, 800, 801, 802, 803, 804, 805, 806, 807, 808, 834, 835, 836, 837, 838, 839, 840, 841, 842, 843, 844, 845, 846, 847] (by decide +kernel) (by decide +kernel)
set_option maxRecDepth 20000 in
theorem gL_law_X5_meanMiles : GoodIn wsL_law (wsV RL 204 RX5 yX5_meanMiles wsX5_meanMiles) := goodIn_app (goodIn_of _ (by decide +kernel)) ggL_law_X5_meanMiles
set_option maxRecDepth 20000 in
theorem ggL_law_X3_digest : GoodIn wsL_law wsX3_digest := goodIn_ca (goodIn_r _ [750, 751, 752, 457, 458, 2, 459, 16, 753, 754, 755, 756, 757, 544, 545, 546, 20, 758, 552, 553, 554, 759, 560, 561, 562, 760, 568, 569, 570, 761, 643, 644, 645, 762, 651, 652, 653, 763, 659, 660, 661, 764, 667, 668, 669, 765, 675, 676, 677, 766, 767, 768, 769, 770, 525, 526, 527, 116, 117, 118, 119, 120, 121, 122, 123, 124, 15, 125, 126, 771, 772, 773, 774, 472, 473, 474, 775, 483, 484, 485, 169, 170, 171, 172, 173, 174, 175, 176, 26, 135, 486, 487, 488, 489, 29, 181, 182, 776, 498, 499, 500, 501, 351, 352, 353, 31, 777, 510, 511, 512, 513, 514, 515, 516, 32, 778, 579, 580, 581, 233, 234, 235, 19, 236, 42, 582, 583, 584, 585, 44, 779, 780, 781, 782, 783, 594, 595, 596, 597, 309, 310, 40, 311, 52, 51, 312, 313, 314, 784, 606, 607, 608, 609, 610, 611, 612, 794, 795, 796, 809, 810, 811, 812, 813, 814, 815, 816, 817, 818, 819, 820, 821, 822, 823, 824, 825, 826, 827, 828, 829, 830, 831, 832, 833] (by decide +kernel) (by decide +kernel)) (goodIn_sub (fun _ h => List.mem_append_right _ h) (by decide +kernel))
set_option maxRecDepth 20000 in
theorem gL_law_X3_digest : GoodIn wsL_law (wsV RL 205 RX3 yX3_digest wsX3_digest) := goodIn_app (goodIn_of _ (by decide +kernel)) ggL_law_X3_digest
set_option maxRecDepth 20000 in
theorem ggL_law_X5_digest : GoodIn wsL_law wsX5_digest := goodIn_r _ [788, 95, 25, 96, 67, 789, 790, 62, 57, 59, 60, 58, 61, 791, 792, 5, 793, 617, 618, 619, 620, 797, 798, 799, 800, 801, 802, 803, 804, 805, 806, 807, 808, 834, 835, 836, 837, 838, 839, 840, 841, 842, 843, 844, 845, 846, 847] (by decide +kernel) (by decide +kernel)
set_option maxRecDepth 20000 in
theorem gL_law_X5_digest : GoodIn wsL_law (wsV RL 209 RX5 yX5_digest wsX5_digest) := goodIn_app (goodIn_of _ (by decide +kernel)) ggL_law_X5_digest
theorem dL_law_0 : decode cL_law 0 = .ok (.new 8, 3) := by decide +kernel
theorem dL_law_3 : decode cL_law 3 = .ok (.dup, 1) := by decide +kernel
theorem dL_law_4 : decode cL_law 4 = .ok (.invokespecial 84, 3) := by decide +kernel
theorem dL_law_7 : decode cL_law 7 = .ok (.astore_n 1, 1) := by decide +kernel
theorem dL_law_8 : decode cL_law 8 = .ok (.new 85, 3) := by decide +kernel
theorem dL_law_11 : decode cL_law 11 = .ok (.dup, 1) := by decide +kernel
theorem dL_law_12 : decode cL_law 12 = .ok (.invokespecial 87, 3) := by decide +kernel
theorem dL_law_15 : decode cL_law 15 = .ok (.astore_n 2, 1) := by decide +kernel
theorem dL_law_16 : decode cL_law 16 = .ok (.iconst 1, 1) := by decide +kernel
theorem dL_law_17 : decode cL_law 17 = .ok (.newarray .long, 2) := by decide +kernel
theorem dL_law_19 : decode cL_law 19 = .ok (.astore_n 3, 1) := by decide +kernel
theorem dL_law_20 : decode cL_law 20 = .ok (.iconst 0, 1) := by decide +kernel
theorem dL_law_21 : decode cL_law 21 = .ok (.istore 4, 2) := by decide +kernel
theorem dL_law_23 : decode cL_law 23 = .ok (.iload 4, 2) := by decide +kernel
theorem dL_law_25 : decode cL_law 25 = .ok (.aload_n 0, 1) := by decide +kernel
theorem dL_law_26 : decode cL_law 26 = .ok (.arraylength, 1) := by decide +kernel
theorem dL_law_27 : decode cL_law 27 = .ok (.iconst 4, 1) := by decide +kernel
theorem dL_law_28 : decode cL_law 28 = .ok (.isub, 1) := by decide +kernel
theorem dL_law_29 : decode cL_law 29 = .ok (.if_icmp .gt 1660, 3) := by decide +kernel
theorem dL_law_32 : decode cL_law 32 = .ok (.aload_n 0, 1) := by decide +kernel
theorem dL_law_33 : decode cL_law 33 = .ok (.iload 4, 2) := by decide +kernel
theorem dL_law_35 : decode cL_law 35 = .ok (.iaload, 1) := by decide +kernel
theorem dL_law_36 : decode cL_law 36 = .ok (.bipush 63, 2) := by decide +kernel
theorem dL_law_38 : decode cL_law 38 = .ok (.iand, 1) := by decide +kernel
theorem dL_law_39 : decode cL_law 39 = .ok (.tableswitch 1644 0 32 #[145, 189, 269, 344, 407, 463, 519, 575, 619, 675, 688, 744, 812, 880, 955, 1018, 1086, 1099, 1112, 1125, 1138, 1213, 1281, 1349, 1412, 1425, 1438, 1451, 1464, 1477, 1533, 1589, 1630], 145) := by decide +kernel
theorem dL_law_184 : decode cL_law 184 = .ok (.aload_n 1, 1) := by decide +kernel
theorem dL_law_185 : decode cL_law 185 = .ok (.aload_n 3, 1) := by decide +kernel
theorem dL_law_186 : decode cL_law 186 = .ok (.invokestatic 88, 3) := by decide +kernel
theorem dL_law_189 : decode cL_law 189 = .ok (.istore 5, 2) := by decide +kernel
theorem dL_law_191 : decode cL_law 191 = .ok (.aload_n 2, 1) := by decide +kernel
theorem dL_law_192 : decode cL_law 192 = .ok (.invokevirtual 93, 3) := by decide +kernel
theorem dL_law_195 : decode cL_law 195 = .ok (.istore 6, 2) := by decide +kernel
theorem dL_law_197 : decode cL_law 197 = .ok (.aload_n 2, 1) := by decide +kernel
theorem dL_law_198 : decode cL_law 198 = .ok (.invokevirtual 94, 3) := by decide +kernel
theorem dL_law_201 : decode cL_law 201 = .ok (.iload 5, 2) := by decide +kernel
theorem dL_law_203 : decode cL_law 203 = .ok (.if_icmp .eq 5, 3) := by decide +kernel
theorem dL_law_206 : decode cL_law 206 = .ok (.iconst 0, 1) := by decide +kernel
theorem dL_law_207 : decode cL_law 207 = .ok (.ireturn, 1) := by decide +kernel
theorem dL_law_208 : decode cL_law 208 = .ok (.iload 5, 2) := by decide +kernel
theorem dL_law_210 : decode cL_law 210 = .ok (.ifCond .ne 15, 3) := by decide +kernel
theorem dL_law_213 : decode cL_law 213 = .ok (.aload_n 3, 1) := by decide +kernel
theorem dL_law_214 : decode cL_law 214 = .ok (.iconst 0, 1) := by decide +kernel
theorem dL_law_215 : decode cL_law 215 = .ok (.laload, 1) := by decide +kernel
theorem dL_law_216 : decode cL_law 216 = .ok (.iload 6, 2) := by decide +kernel
theorem dL_law_218 : decode cL_law 218 = .ok (.i2l, 1) := by decide +kernel
theorem dL_law_219 : decode cL_law 219 = .ok (.lcmp, 1) := by decide +kernel
theorem dL_law_220 : decode cL_law 220 = .ok (.ifCond .eq 5, 3) := by decide +kernel
theorem dL_law_223 : decode cL_law 223 = .ok (.iconst 0, 1) := by decide +kernel
theorem dL_law_224 : decode cL_law 224 = .ok (.ireturn, 1) := by decide +kernel
theorem dL_law_225 : decode cL_law 225 = .ok (.goto 1458, 3) := by decide +kernel
theorem dL_law_228 : decode cL_law 228 = .ok (.aload_n 1, 1) := by decide +kernel
theorem dL_law_229 : decode cL_law 229 = .ok (.aload_n 0, 1) := by decide +kernel
theorem dL_law_230 : decode cL_law 230 = .ok (.iload 4, 2) := by decide +kernel
theorem dL_law_232 : decode cL_law 232 = .ok (.iconst 1, 1) := by decide +kernel
theorem dL_law_233 : decode cL_law 233 = .ok (.iadd, 1) := by decide +kernel
theorem dL_law_234 : decode cL_law 234 = .ok (.iaload, 1) := by decide +kernel
theorem dL_law_235 : decode cL_law 235 = .ok (.aload_n 0, 1) := by decide +kernel
theorem dL_law_236 : decode cL_law 236 = .ok (.iload 4, 2) := by decide +kernel
theorem dL_law_238 : decode cL_law 238 = .ok (.iconst 2, 1) := by decide +kernel
theorem dL_law_239 : decode cL_law 239 = .ok (.iadd, 1) := by decide +kernel
theorem dL_law_240 : decode cL_law 240 = .ok (.iaload, 1) := by decide +kernel
theorem dL_law_241 : decode cL_law 241 = .ok (.aload_n 0, 1) := by decide +kernel
theorem dL_law_242 : decode cL_law 242 = .ok (.iload 4, 2) := by decide +kernel
theorem dL_law_244 : decode cL_law 244 = .ok (.iconst 3, 1) := by decide +kernel
theorem dL_law_245 : decode cL_law 245 = .ok (.iadd, 1) := by decide +kernel
theorem dL_law_246 : decode cL_law 246 = .ok (.iaload, 1) := by decide +kernel
theorem dL_law_247 : decode cL_law 247 = .ok (.aload_n 3, 1) := by decide +kernel
theorem dL_law_248 : decode cL_law 248 = .ok (.invokestatic 97, 3) := by decide +kernel
theorem dL_law_251 : decode cL_law 251 = .ok (.istore 5, 2) := by decide +kernel
theorem dL_law_253 : decode cL_law 253 = .ok (.aload_n 2, 1) := by decide +kernel
theorem dL_law_254 : decode cL_law 254 = .ok (.aload_n 0, 1) := by decide +kernel
theorem dL_law_255 : decode cL_law 255 = .ok (.iload 4, 2) := by decide +kernel
theorem dL_law_257 : decode cL_law 257 = .ok (.iconst 1, 1) := by decide +kernel
theorem dL_law_258 : decode cL_law 258 = .ok (.iadd, 1) := by decide +kernel
theorem dL_law_259 : decode cL_law 259 = .ok (.iaload, 1) := by decide +kernel
theorem dL_law_260 : decode cL_law 260 = .ok (.aload_n 0, 1) := by decide +kernel
theorem dL_law_261 : decode cL_law 261 = .ok (.iload 4, 2) := by decide +kernel
theorem dL_law_263 : decode cL_law 263 = .ok (.iconst 2, 1) := by decide +kernel
theorem dL_law_264 : decode cL_law 264 = .ok (.iadd, 1) := by decide +kernel
theorem dL_law_265 : decode cL_law 265 = .ok (.iaload, 1) := by decide +kernel
theorem dL_law_266 : decode cL_law 266 = .ok (.aload_n 0, 1) := by decide +kernel
theorem dL_law_267 : decode cL_law 267 = .ok (.iload 4, 2) := by decide +kernel
theorem dL_law_269 : decode cL_law 269 = .ok (.iconst 3, 1) := by decide +kernel
theorem dL_law_270 : decode cL_law 270 = .ok (.iadd, 1) := by decide +kernel
theorem dL_law_271 : decode cL_law 271 = .ok (.iaload, 1) := by decide +kernel
theorem dL_law_272 : decode cL_law 272 = .ok (.invokevirtual 100, 3) := by decide +kernel
theorem dL_law_275 : decode cL_law 275 = .ok (.istore 6, 2) := by decide +kernel
theorem dL_law_277 : decode cL_law 277 = .ok (.aload_n 2, 1) := by decide +kernel
theorem dL_law_278 : decode cL_law 278 = .ok (.invokevirtual 94, 3) := by decide +kernel
theorem dL_law_281 : decode cL_law 281 = .ok (.iload 5, 2) := by decide +kernel
theorem dL_law_283 : decode cL_law 283 = .ok (.if_icmp .eq 5, 3) := by decide +kernel
theorem dL_law_286 : decode cL_law 286 = .ok (.iconst 0, 1) := by decide +kernel
theorem dL_law_287 : decode cL_law 287 = .ok (.ireturn, 1) := by decide +kernel
theorem dL_law_288 : decode cL_law 288 = .ok (.iload 5, 2) := by decide +kernel
theorem dL_law_290 : decode cL_law 290 = .ok (.ifCond .ne 15, 3) := by decide +kernel
theorem dL_law_293 : decode cL_law 293 = .ok (.aload_n 3, 1) := by decide +kernel
theorem dL_law_294 : decode cL_law 294 = .ok (.iconst 0, 1) := by decide +kernel
theorem dL_law_295 : decode cL_law 295 = .ok (.laload, 1) := by decide +kernel
theorem dL_law_296 : decode cL_law 296 = .ok (.iload 6, 2) := by decide +kernel
theorem dL_law_298 : decode cL_law 298 = .ok (.i2l, 1) := by decide +kernel
theorem dL_law_299 : decode cL_law 299 = .ok (.lcmp, 1) := by decide +kernel
theorem dL_law_300 : decode cL_law 300 = .ok (.ifCond .eq 5, 3) := by decide +kernel
theorem dL_law_303 : decode cL_law 303 = .ok (.iconst 0, 1) := by decide +kernel
theorem dL_law_304 : decode cL_law 304 = .ok (.ireturn, 1) := by decide +kernel
theorem dL_law_305 : decode cL_law 305 = .ok (.goto 1378, 3) := by decide +kernel
theorem dL_law_308 : decode cL_law 308 = .ok (.aload_n 1, 1) := by decide +kernel
theorem dL_law_309 : decode cL_law 309 = .ok (.aload_n 0, 1) := by decide +kernel
theorem dL_law_310 : decode cL_law 310 = .ok (.iload 4, 2) := by decide +kernel
theorem dL_law_312 : decode cL_law 312 = .ok (.iconst 1, 1) := by decide +kernel
theorem dL_law_313 : decode cL_law 313 = .ok (.iadd, 1) := by decide +kernel
theorem dL_law_314 : decode cL_law 314 = .ok (.iaload, 1) := by decide +kernel
theorem dL_law_315 : decode cL_law 315 = .ok (.aload_n 0, 1) := by decide +kernel
theorem dL_law_316 : decode cL_law 316 = .ok (.iload 4, 2) := by decide +kernel
theorem dL_law_318 : decode cL_law 318 = .ok (.iconst 2, 1) := by decide +kernel
theorem dL_law_319 : decode cL_law 319 = .ok (.iadd, 1) := by decide +kernel
theorem dL_law_320 : decode cL_law 320 = .ok (.iaload, 1) := by decide +kernel
theorem dL_law_321 : decode cL_law 321 = .ok (.aload_n 3, 1) := by decide +kernel
theorem dL_law_322 : decode cL_law 322 = .ok (.invokestatic 101, 3) := by decide +kernel
theorem dL_law_325 : decode cL_law 325 = .ok (.istore 5, 2) := by decide +kernel
theorem dL_law_327 : decode cL_law 327 = .ok (.aload_n 2, 1) := by decide +kernel
theorem dL_law_328 : decode cL_law 328 = .ok (.aload_n 0, 1) := by decide +kernel
theorem dL_law_329 : decode cL_law 329 = .ok (.iload 4, 2) := by decide +kernel
theorem dL_law_331 : decode cL_law 331 = .ok (.iconst 1, 1) := by decide +kernel
theorem dL_law_332 : decode cL_law 332 = .ok (.iadd, 1) := by decide +kernel
theorem dL_law_333 : decode cL_law 333 = .ok (.iaload, 1) := by decide +kernel
theorem dL_law_334 : decode cL_law 334 = .ok (.aload_n 0, 1) := by decide +kernel
theorem dL_law_335 : decode cL_law 335 = .ok (.iload 4, 2) := by decide +kernel
theorem dL_law_337 : decode cL_law 337 = .ok (.iconst 2, 1) := by decide +kernel
theorem dL_law_338 : decode cL_law 338 = .ok (.iadd, 1) := by decide +kernel
theorem dL_law_339 : decode cL_law 339 = .ok (.iaload, 1) := by decide +kernel
theorem dL_law_340 : decode cL_law 340 = .ok (.invokevirtual 104, 3) := by decide +kernel
theorem dL_law_343 : decode cL_law 343 = .ok (.istore 6, 2) := by decide +kernel
theorem dL_law_345 : decode cL_law 345 = .ok (.aload_n 2, 1) := by decide +kernel
theorem dL_law_346 : decode cL_law 346 = .ok (.invokevirtual 94, 3) := by decide +kernel
theorem dL_law_349 : decode cL_law 349 = .ok (.iload 5, 2) := by decide +kernel
theorem dL_law_351 : decode cL_law 351 = .ok (.if_icmp .eq 5, 3) := by decide +kernel
theorem dL_law_354 : decode cL_law 354 = .ok (.iconst 0, 1) := by decide +kernel
theorem dL_law_355 : decode cL_law 355 = .ok (.ireturn, 1) := by decide +kernel
theorem dL_law_356 : decode cL_law 356 = .ok (.iload 5, 2) := by decide +kernel
theorem dL_law_358 : decode cL_law 358 = .ok (.ifCond .ne 22, 3) := by decide +kernel
theorem dL_law_361 : decode cL_law 361 = .ok (.aload_n 3, 1) := by decide +kernel
theorem dL_law_362 : decode cL_law 362 = .ok (.iconst 0, 1) := by decide +kernel
theorem dL_law_363 : decode cL_law 363 = .ok (.laload, 1) := by decide +kernel
theorem dL_law_364 : decode cL_law 364 = .ok (.iload 6, 2) := by decide +kernel
theorem dL_law_366 : decode cL_law 366 = .ok (.ifCond .eq 7, 3) := by decide +kernel
theorem dL_law_369 : decode cL_law 369 = .ok (.lconst 1, 1) := by decide +kernel
theorem dL_law_370 : decode cL_law 370 = .ok (.goto 4, 3) := by decide +kernel
theorem dL_law_373 : decode cL_law 373 = .ok (.lconst 0, 1) := by decide +kernel
theorem dL_law_374 : decode cL_law 374 = .ok (.lcmp, 1) := by decide +kernel
theorem dL_law_375 : decode cL_law 375 = .ok (.ifCond .eq 5, 3) := by decide +kernel
theorem dL_law_378 : decode cL_law 378 = .ok (.iconst 0, 1) := by decide +kernel
theorem dL_law_379 : decode cL_law 379 = .ok (.ireturn, 1) := by decide +kernel
theorem dL_law_380 : decode cL_law 380 = .ok (.goto 1303, 3) := by decide +kernel
theorem dL_law_383 : decode cL_law 383 = .ok (.aload_n 1, 1) := by decide +kernel
theorem dL_law_384 : decode cL_law 384 = .ok (.aload_n 0, 1) := by decide +kernel
theorem dL_law_385 : decode cL_law 385 = .ok (.iload 4, 2) := by decide +kernel
theorem dL_law_387 : decode cL_law 387 = .ok (.iconst 1, 1) := by decide +kernel
theorem dL_law_388 : decode cL_law 388 = .ok (.iadd, 1) := by decide +kernel
theorem dL_law_389 : decode cL_law 389 = .ok (.iaload, 1) := by decide +kernel
theorem dL_law_390 : decode cL_law 390 = .ok (.aload_n 3, 1) := by decide +kernel
theorem dL_law_391 : decode cL_law 391 = .ok (.invokestatic 105, 3) := by decide +kernel
theorem dL_law_394 : decode cL_law 394 = .ok (.istore 5, 2) := by decide +kernel
theorem dL_law_396 : decode cL_law 396 = .ok (.aload_n 2, 1) := by decide +kernel
theorem dL_law_397 : decode cL_law 397 = .ok (.aload_n 0, 1) := by decide +kernel
theorem dL_law_398 : decode cL_law 398 = .ok (.iload 4, 2) := by decide +kernel
theorem dL_law_400 : decode cL_law 400 = .ok (.iconst 1, 1) := by decide +kernel
theorem dL_law_401 : decode cL_law 401 = .ok (.iadd, 1) := by decide +kernel
theorem dL_law_402 : decode cL_law 402 = .ok (.iaload, 1) := by decide +kernel
theorem dL_law_403 : decode cL_law 403 = .ok (.invokevirtual 108, 3) := by decide +kernel
theorem dL_law_406 : decode cL_law 406 = .ok (.istore 6, 2) := by decide +kernel
theorem dL_law_408 : decode cL_law 408 = .ok (.aload_n 2, 1) := by decide +kernel
theorem dL_law_409 : decode cL_law 409 = .ok (.invokevirtual 94, 3) := by decide +kernel
theorem dL_law_412 : decode cL_law 412 = .ok (.iload 5, 2) := by decide +kernel
theorem dL_law_414 : decode cL_law 414 = .ok (.if_icmp .eq 5, 3) := by decide +kernel
theorem dL_law_417 : decode cL_law 417 = .ok (.iconst 0, 1) := by decide +kernel
theorem dL_law_418 : decode cL_law 418 = .ok (.ireturn, 1) := by decide +kernel
theorem dL_law_419 : decode cL_law 419 = .ok (.iload 5, 2) := by decide +kernel
theorem dL_law_421 : decode cL_law 421 = .ok (.ifCond .ne 22, 3) := by decide +kernel
theorem dL_law_424 : decode cL_law 424 = .ok (.aload_n 3, 1) := by decide +kernel
theorem dL_law_425 : decode cL_law 425 = .ok (.iconst 0, 1) := by decide +kernel
theorem dL_law_426 : decode cL_law 426 = .ok (.laload, 1) := by decide +kernel
theorem dL_law_427 : decode cL_law 427 = .ok (.iload 6, 2) := by decide +kernel
theorem dL_law_429 : decode cL_law 429 = .ok (.ifCond .eq 7, 3) := by decide +kernel
theorem dL_law_432 : decode cL_law 432 = .ok (.lconst 1, 1) := by decide +kernel
theorem dL_law_433 : decode cL_law 433 = .ok (.goto 4, 3) := by decide +kernel
theorem dL_law_436 : decode cL_law 436 = .ok (.lconst 0, 1) := by decide +kernel
theorem dL_law_437 : decode cL_law 437 = .ok (.lcmp, 1) := by decide +kernel
theorem dL_law_438 : decode cL_law 438 = .ok (.ifCond .eq 5, 3) := by decide +kernel
theorem dL_law_441 : decode cL_law 441 = .ok (.iconst 0, 1) := by decide +kernel
theorem dL_law_442 : decode cL_law 442 = .ok (.ireturn, 1) := by decide +kernel
theorem dL_law_443 : decode cL_law 443 = .ok (.goto 1240, 3) := by decide +kernel
theorem dL_law_446 : decode cL_law 446 = .ok (.aload_n 1, 1) := by decide +kernel
theorem dL_law_447 : decode cL_law 447 = .ok (.aload_n 0, 1) := by decide +kernel
theorem dL_law_448 : decode cL_law 448 = .ok (.iload 4, 2) := by decide +kernel
theorem dL_law_450 : decode cL_law 450 = .ok (.iconst 1, 1) := by decide +kernel
theorem dL_law_451 : decode cL_law 451 = .ok (.iadd, 1) := by decide +kernel
theorem dL_law_452 : decode cL_law 452 = .ok (.iaload, 1) := by decide +kernel
theorem dL_law_453 : decode cL_law 453 = .ok (.aload_n 3, 1) := by decide +kernel
theorem dL_law_454 : decode cL_law 454 = .ok (.invokestatic 109, 3) := by decide +kernel
theorem dL_law_457 : decode cL_law 457 = .ok (.istore 5, 2) := by decide +kernel
theorem dL_law_459 : decode cL_law 459 = .ok (.aload_n 2, 1) := by decide +kernel
theorem dL_law_460 : decode cL_law 460 = .ok (.aload_n 0, 1) := by decide +kernel
theorem dL_law_461 : decode cL_law 461 = .ok (.iload 4, 2) := by decide +kernel
theorem dL_law_463 : decode cL_law 463 = .ok (.iconst 1, 1) := by decide +kernel
theorem dL_law_464 : decode cL_law 464 = .ok (.iadd, 1) := by decide +kernel
theorem dL_law_465 : decode cL_law 465 = .ok (.iaload, 1) := by decide +kernel
theorem dL_law_466 : decode cL_law 466 = .ok (.invokevirtual 111, 3) := by decide +kernel
theorem dL_law_469 : decode cL_law 469 = .ok (.istore 6, 2) := by decide +kernel
theorem dL_law_471 : decode cL_law 471 = .ok (.aload_n 2, 1) := by decide +kernel
theorem dL_law_472 : decode cL_law 472 = .ok (.invokevirtual 94, 3) := by decide +kernel
theorem dL_law_475 : decode cL_law 475 = .ok (.iload 5, 2) := by decide +kernel
theorem dL_law_477 : decode cL_law 477 = .ok (.if_icmp .eq 5, 3) := by decide +kernel
theorem dL_law_480 : decode cL_law 480 = .ok (.iconst 0, 1) := by decide +kernel
theorem dL_law_481 : decode cL_law 481 = .ok (.ireturn, 1) := by decide +kernel
theorem dL_law_482 : decode cL_law 482 = .ok (.iload 5, 2) := by decide +kernel
theorem dL_law_484 : decode cL_law 484 = .ok (.ifCond .ne 15, 3) := by decide +kernel
theorem dL_law_487 : decode cL_law 487 = .ok (.aload_n 3, 1) := by decide +kernel
theorem dL_law_488 : decode cL_law 488 = .ok (.iconst 0, 1) := by decide +kernel
theorem dL_law_489 : decode cL_law 489 = .ok (.laload, 1) := by decide +kernel
theorem dL_law_490 : decode cL_law 490 = .ok (.iload 6, 2) := by decide +kernel
theorem dL_law_492 : decode cL_law 492 = .ok (.i2l, 1) := by decide +kernel
theorem dL_law_493 : decode cL_law 493 = .ok (.lcmp, 1) := by decide +kernel
theorem dL_law_494 : decode cL_law 494 = .ok (.ifCond .eq 5, 3) := by decide +kernel
theorem dL_law_497 : decode cL_law 497 = .ok (.iconst 0, 1) := by decide +kernel
theorem dL_law_498 : decode cL_law 498 = .ok (.ireturn, 1) := by decide +kernel
theorem dL_law_499 : decode cL_law 499 = .ok (.goto 1184, 3) := by decide +kernel
theorem dL_law_502 : decode cL_law 502 = .ok (.aload_n 1, 1) := by decide +kernel
theorem dL_law_503 : decode cL_law 503 = .ok (.aload_n 0, 1) := by decide +kernel
theorem dL_law_504 : decode cL_law 504 = .ok (.iload 4, 2) := by decide +kernel
theorem dL_law_506 : decode cL_law 506 = .ok (.iconst 1, 1) := by decide +kernel
theorem dL_law_507 : decode cL_law 507 = .ok (.iadd, 1) := by decide +kernel
theorem dL_law_508 : decode cL_law 508 = .ok (.iaload, 1) := by decide +kernel
theorem dL_law_509 : decode cL_law 509 = .ok (.aload_n 3, 1) := by decide +kernel
theorem dL_law_510 : decode cL_law 510 = .ok (.invokestatic 112, 3) := by decide +kernel
theorem dL_law_513 : decode cL_law 513 = .ok (.istore 5, 2) := by decide +kernel
theorem dL_law_515 : decode cL_law 515 = .ok (.aload_n 2, 1) := by decide +kernel
theorem dL_law_516 : decode cL_law 516 = .ok (.aload_n 0, 1) := by decide +kernel
theorem dL_law_517 : decode cL_law 517 = .ok (.iload 4, 2) := by decide +kernel
theorem dL_law_519 : decode cL_law 519 = .ok (.iconst 1, 1) := by decide +kernel
theorem dL_law_520 : decode cL_law 520 = .ok (.iadd, 1) := by decide +kernel
theorem dL_law_521 : decode cL_law 521 = .ok (.iaload, 1) := by decide +kernel
theorem dL_law_522 : decode cL_law 522 = .ok (.invokevirtual 114, 3) := by decide +kernel
theorem dL_law_525 : decode cL_law 525 = .ok (.istore 6, 2) := by decide +kernel
theorem dL_law_527 : decode cL_law 527 = .ok (.aload_n 2, 1) := by decide +kernel
theorem dL_law_528 : decode cL_law 528 = .ok (.invokevirtual 94, 3) := by decide +kernel
theorem dL_law_531 : decode cL_law 531 = .ok (.iload 5, 2) := by decide +kernel
theorem dL_law_533 : decode cL_law 533 = .ok (.if_icmp .eq 5, 3) := by decide +kernel
theorem dL_law_536 : decode cL_law 536 = .ok (.iconst 0, 1) := by decide +kernel
theorem dL_law_537 : decode cL_law 537 = .ok (.ireturn, 1) := by decide +kernel
theorem dL_law_538 : decode cL_law 538 = .ok (.iload 5, 2) := by decide +kernel
theorem dL_law_540 : decode cL_law 540 = .ok (.ifCond .ne 15, 3) := by decide +kernel
theorem dL_law_543 : decode cL_law 543 = .ok (.aload_n 3, 1) := by decide +kernel
theorem dL_law_544 : decode cL_law 544 = .ok (.iconst 0, 1) := by decide +kernel
theorem dL_law_545 : decode cL_law 545 = .ok (.laload, 1) := by decide +kernel
theorem dL_law_546 : decode cL_law 546 = .ok (.iload 6, 2) := by decide +kernel
theorem dL_law_548 : decode cL_law 548 = .ok (.i2l, 1) := by decide +kernel
theorem dL_law_549 : decode cL_law 549 = .ok (.lcmp, 1) := by decide +kernel
theorem dL_law_550 : decode cL_law 550 = .ok (.ifCond .eq 5, 3) := by decide +kernel
theorem dL_law_553 : decode cL_law 553 = .ok (.iconst 0, 1) := by decide +kernel
theorem dL_law_554 : decode cL_law 554 = .ok (.ireturn, 1) := by decide +kernel
theorem dL_law_555 : decode cL_law 555 = .ok (.goto 1128, 3) := by decide +kernel
theorem dL_law_558 : decode cL_law 558 = .ok (.aload_n 1, 1) := by decide +kernel
theorem dL_law_559 : decode cL_law 559 = .ok (.aload_n 0, 1) := by decide +kernel
theorem dL_law_560 : decode cL_law 560 = .ok (.iload 4, 2) := by decide +kernel
theorem dL_law_562 : decode cL_law 562 = .ok (.iconst 1, 1) := by decide +kernel
theorem dL_law_563 : decode cL_law 563 = .ok (.iadd, 1) := by decide +kernel
theorem dL_law_564 : decode cL_law 564 = .ok (.iaload, 1) := by decide +kernel
theorem dL_law_565 : decode cL_law 565 = .ok (.aload_n 3, 1) := by decide +kernel
theorem dL_law_566 : decode cL_law 566 = .ok (.invokestatic 115, 3) := by decide +kernel
theorem dL_law_569 : decode cL_law 569 = .ok (.istore 5, 2) := by decide +kernel
theorem dL_law_571 : decode cL_law 571 = .ok (.aload_n 2, 1) := by decide +kernel
theorem dL_law_572 : decode cL_law 572 = .ok (.aload_n 0, 1) := by decide +kernel
theorem dL_law_573 : decode cL_law 573 = .ok (.iload 4, 2) := by decide +kernel
theorem dL_law_575 : decode cL_law 575 = .ok (.iconst 1, 1) := by decide +kernel
theorem dL_law_576 : decode cL_law 576 = .ok (.iadd, 1) := by decide +kernel
theorem dL_law_577 : decode cL_law 577 = .ok (.iaload, 1) := by decide +kernel
theorem dL_law_578 : decode cL_law 578 = .ok (.invokevirtual 117, 3) := by decide +kernel
theorem dL_law_581 : decode cL_law 581 = .ok (.istore 6, 2) := by decide +kernel
theorem dL_law_583 : decode cL_law 583 = .ok (.aload_n 2, 1) := by decide +kernel
theorem dL_law_584 : decode cL_law 584 = .ok (.invokevirtual 94, 3) := by decide +kernel
theorem dL_law_587 : decode cL_law 587 = .ok (.iload 5, 2) := by decide +kernel
theorem dL_law_589 : decode cL_law 589 = .ok (.if_icmp .eq 5, 3) := by decide +kernel
theorem dL_law_592 : decode cL_law 592 = .ok (.iconst 0, 1) := by decide +kernel
theorem dL_law_593 : decode cL_law 593 = .ok (.ireturn, 1) := by decide +kernel
theorem dL_law_594 : decode cL_law 594 = .ok (.iload 5, 2) := by decide +kernel
theorem dL_law_596 : decode cL_law 596 = .ok (.ifCond .ne 15, 3) := by decide +kernel
theorem dL_law_599 : decode cL_law 599 = .ok (.aload_n 3, 1) := by decide +kernel
theorem dL_law_600 : decode cL_law 600 = .ok (.iconst 0, 1) := by decide +kernel
theorem dL_law_601 : decode cL_law 601 = .ok (.laload, 1) := by decide +kernel
theorem dL_law_602 : decode cL_law 602 = .ok (.iload 6, 2) := by decide +kernel
theorem dL_law_604 : decode cL_law 604 = .ok (.i2l, 1) := by decide +kernel
theorem dL_law_605 : decode cL_law 605 = .ok (.lcmp, 1) := by decide +kernel
theorem dL_law_606 : decode cL_law 606 = .ok (.ifCond .eq 5, 3) := by decide +kernel
theorem dL_law_609 : decode cL_law 609 = .ok (.iconst 0, 1) := by decide +kernel
theorem dL_law_610 : decode cL_law 610 = .ok (.ireturn, 1) := by decide +kernel
theorem dL_law_611 : decode cL_law 611 = .ok (.goto 1072, 3) := by decide +kernel
theorem dL_law_614 : decode cL_law 614 = .ok (.aload_n 1, 1) := by decide +kernel
theorem dL_law_615 : decode cL_law 615 = .ok (.aload_n 3, 1) := by decide +kernel
theorem dL_law_616 : decode cL_law 616 = .ok (.invokestatic 118, 3) := by decide +kernel
theorem dL_law_619 : decode cL_law 619 = .ok (.istore 5, 2) := by decide +kernel
theorem dL_law_621 : decode cL_law 621 = .ok (.aload_n 2, 1) := by decide +kernel
theorem dL_law_622 : decode cL_law 622 = .ok (.invokevirtual 120, 3) := by decide +kernel
theorem dL_law_625 : decode cL_law 625 = .ok (.istore 6, 2) := by decide +kernel
theorem dL_law_627 : decode cL_law 627 = .ok (.aload_n 2, 1) := by decide +kernel
theorem dL_law_628 : decode cL_law 628 = .ok (.invokevirtual 94, 3) := by decide +kernel
theorem dL_law_631 : decode cL_law 631 = .ok (.iload 5, 2) := by decide +kernel
theorem dL_law_633 : decode cL_law 633 = .ok (.if_icmp .eq 5, 3) := by decide +kernel
theorem dL_law_636 : decode cL_law 636 = .ok (.iconst 0, 1) := by decide +kernel
theorem dL_law_637 : decode cL_law 637 = .ok (.ireturn, 1) := by decide +kernel
theorem dL_law_638 : decode cL_law 638 = .ok (.iload 5, 2) := by decide +kernel
theorem dL_law_640 : decode cL_law 640 = .ok (.ifCond .ne 15, 3) := by decide +kernel
theorem dL_law_643 : decode cL_law 643 = .ok (.aload_n 3, 1) := by decide +kernel
theorem dL_law_644 : decode cL_law 644 = .ok (.iconst 0, 1) := by decide +kernel
theorem dL_law_645 : decode cL_law 645 = .ok (.laload, 1) := by decide +kernel
theorem dL_law_646 : decode cL_law 646 = .ok (.iload 6, 2) := by decide +kernel
theorem dL_law_648 : decode cL_law 648 = .ok (.i2l, 1) := by decide +kernel
theorem dL_law_649 : decode cL_law 649 = .ok (.lcmp, 1) := by decide +kernel
theorem dL_law_650 : decode cL_law 650 = .ok (.ifCond .eq 5, 3) := by decide +kernel
theorem dL_law_653 : decode cL_law 653 = .ok (.iconst 0, 1) := by decide +kernel
theorem dL_law_654 : decode cL_law 654 = .ok (.ireturn, 1) := by decide +kernel
theorem dL_law_655 : decode cL_law 655 = .ok (.goto 1028, 3) := by decide +kernel
theorem dL_law_658 : decode cL_law 658 = .ok (.aload_n 1, 1) := by decide +kernel
theorem dL_law_659 : decode cL_law 659 = .ok (.aload_n 0, 1) := by decide +kernel
theorem dL_law_660 : decode cL_law 660 = .ok (.iload 4, 2) := by decide +kernel
theorem dL_law_662 : decode cL_law 662 = .ok (.iconst 1, 1) := by decide +kernel
theorem dL_law_663 : decode cL_law 663 = .ok (.iadd, 1) := by decide +kernel
theorem dL_law_664 : decode cL_law 664 = .ok (.iaload, 1) := by decide +kernel
theorem dL_law_665 : decode cL_law 665 = .ok (.aload_n 3, 1) := by decide +kernel
theorem dL_law_666 : decode cL_law 666 = .ok (.invokestatic 121, 3) := by decide +kernel
theorem dL_law_669 : decode cL_law 669 = .ok (.istore 5, 2) := by decide +kernel
theorem dL_law_671 : decode cL_law 671 = .ok (.aload_n 2, 1) := by decide +kernel
theorem dL_law_672 : decode cL_law 672 = .ok (.aload_n 0, 1) := by decide +kernel
theorem dL_law_673 : decode cL_law 673 = .ok (.iload 4, 2) := by decide +kernel
theorem dL_law_675 : decode cL_law 675 = .ok (.iconst 1, 1) := by decide +kernel
theorem dL_law_676 : decode cL_law 676 = .ok (.iadd, 1) := by decide +kernel
theorem dL_law_677 : decode cL_law 677 = .ok (.iaload, 1) := by decide +kernel
theorem dL_law_678 : decode cL_law 678 = .ok (.invokevirtual 123, 3) := by decide +kernel
theorem dL_law_681 : decode cL_law 681 = .ok (.istore 6, 2) := by decide +kernel
theorem dL_law_683 : decode cL_law 683 = .ok (.aload_n 2, 1) := by decide +kernel
theorem dL_law_684 : decode cL_law 684 = .ok (.invokevirtual 94, 3) := by decide +kernel
theorem dL_law_687 : decode cL_law 687 = .ok (.iload 5, 2) := by decide +kernel
theorem dL_law_689 : decode cL_law 689 = .ok (.if_icmp .eq 5, 3) := by decide +kernel
theorem dL_law_692 : decode cL_law 692 = .ok (.iconst 0, 1) := by decide +kernel
theorem dL_law_693 : decode cL_law 693 = .ok (.ireturn, 1) := by decide +kernel
theorem dL_law_694 : decode cL_law 694 = .ok (.iload 5, 2) := by decide +kernel
theorem dL_law_696 : decode cL_law 696 = .ok (.ifCond .ne 15, 3) := by decide +kernel
theorem dL_law_699 : decode cL_law 699 = .ok (.aload_n 3, 1) := by decide +kernel
theorem dL_law_700 : decode cL_law 700 = .ok (.iconst 0, 1) := by decide +kernel
theorem dL_law_701 : decode cL_law 701 = .ok (.laload, 1) := by decide +kernel
theorem dL_law_702 : decode cL_law 702 = .ok (.iload 6, 2) := by decide +kernel
theorem dL_law_704 : decode cL_law 704 = .ok (.i2l, 1) := by decide +kernel
theorem dL_law_705 : decode cL_law 705 = .ok (.lcmp, 1) := by decide +kernel
theorem dL_law_706 : decode cL_law 706 = .ok (.ifCond .eq 5, 3) := by decide +kernel
theorem dL_law_709 : decode cL_law 709 = .ok (.iconst 0, 1) := by decide +kernel
theorem dL_law_710 : decode cL_law 710 = .ok (.ireturn, 1) := by decide +kernel
theorem dL_law_711 : decode cL_law 711 = .ok (.goto 972, 3) := by decide +kernel
theorem dL_law_714 : decode cL_law 714 = .ok (.aload_n 1, 1) := by decide +kernel
theorem dL_law_715 : decode cL_law 715 = .ok (.invokevirtual 124, 3) := by decide +kernel
theorem dL_law_718 : decode cL_law 718 = .ok (.aload_n 2, 1) := by decide +kernel
theorem dL_law_719 : decode cL_law 719 = .ok (.invokevirtual 127, 3) := by decide +kernel
theorem dL_law_722 : decode cL_law 722 = .ok (.if_icmp .eq 961, 3) := by decide +kernel
theorem dL_law_725 : decode cL_law 725 = .ok (.iconst 0, 1) := by decide +kernel
theorem dL_law_726 : decode cL_law 726 = .ok (.ireturn, 1) := by decide +kernel
theorem dL_law_727 : decode cL_law 727 = .ok (.aload_n 1, 1) := by decide +kernel
theorem dL_law_728 : decode cL_law 728 = .ok (.aload_n 0, 1) := by decide +kernel
theorem dL_law_729 : decode cL_law 729 = .ok (.iload 4, 2) := by decide +kernel
theorem dL_law_731 : decode cL_law 731 = .ok (.iconst 1, 1) := by decide +kernel
theorem dL_law_732 : decode cL_law 732 = .ok (.iadd, 1) := by decide +kernel
theorem dL_law_733 : decode cL_law 733 = .ok (.iaload, 1) := by decide +kernel
theorem dL_law_734 : decode cL_law 734 = .ok (.aload_n 3, 1) := by decide +kernel
theorem dL_law_735 : decode cL_law 735 = .ok (.invokestatic 128, 3) := by decide +kernel
theorem dL_law_738 : decode cL_law 738 = .ok (.istore 5, 2) := by decide +kernel
theorem dL_law_740 : decode cL_law 740 = .ok (.aload_n 2, 1) := by decide +kernel
theorem dL_law_741 : decode cL_law 741 = .ok (.aload_n 0, 1) := by decide +kernel
theorem dL_law_742 : decode cL_law 742 = .ok (.iload 4, 2) := by decide +kernel
theorem dL_law_744 : decode cL_law 744 = .ok (.iconst 1, 1) := by decide +kernel
theorem dL_law_745 : decode cL_law 745 = .ok (.iadd, 1) := by decide +kernel
theorem dL_law_746 : decode cL_law 746 = .ok (.iaload, 1) := by decide +kernel
theorem dL_law_747 : decode cL_law 747 = .ok (.invokevirtual 130, 3) := by decide +kernel
theorem dL_law_750 : decode cL_law 750 = .ok (.istore 6, 2) := by decide +kernel
theorem dL_law_752 : decode cL_law 752 = .ok (.aload_n 2, 1) := by decide +kernel
theorem dL_law_753 : decode cL_law 753 = .ok (.invokevirtual 94, 3) := by decide +kernel
theorem dL_law_756 : decode cL_law 756 = .ok (.iload 5, 2) := by decide +kernel
theorem dL_law_758 : decode cL_law 758 = .ok (.if_icmp .eq 5, 3) := by decide +kernel
theorem dL_law_761 : decode cL_law 761 = .ok (.iconst 0, 1) := by decide +kernel
theorem dL_law_762 : decode cL_law 762 = .ok (.ireturn, 1) := by decide +kernel
theorem dL_law_763 : decode cL_law 763 = .ok (.iload 5, 2) := by decide +kernel
theorem dL_law_765 : decode cL_law 765 = .ok (.ifCond .ne 15, 3) := by decide +kernel
theorem dL_law_768 : decode cL_law 768 = .ok (.aload_n 3, 1) := by decide +kernel
theorem dL_law_769 : decode cL_law 769 = .ok (.iconst 0, 1) := by decide +kernel
theorem dL_law_770 : decode cL_law 770 = .ok (.laload, 1) := by decide +kernel
theorem dL_law_771 : decode cL_law 771 = .ok (.iload 6, 2) := by decide +kernel
theorem dL_law_773 : decode cL_law 773 = .ok (.i2l, 1) := by decide +kernel
theorem dL_law_774 : decode cL_law 774 = .ok (.lcmp, 1) := by decide +kernel
theorem dL_law_775 : decode cL_law 775 = .ok (.ifCond .eq 5, 3) := by decide +kernel
theorem dL_law_778 : decode cL_law 778 = .ok (.iconst 0, 1) := by decide +kernel
theorem dL_law_779 : decode cL_law 779 = .ok (.ireturn, 1) := by decide +kernel
theorem dL_law_780 : decode cL_law 780 = .ok (.goto 903, 3) := by decide +kernel
theorem dL_law_783 : decode cL_law 783 = .ok (.aload_n 1, 1) := by decide +kernel
theorem dL_law_784 : decode cL_law 784 = .ok (.aload_n 0, 1) := by decide +kernel
theorem dL_law_785 : decode cL_law 785 = .ok (.iload 4, 2) := by decide +kernel
theorem dL_law_787 : decode cL_law 787 = .ok (.iconst 1, 1) := by decide +kernel
theorem dL_law_788 : decode cL_law 788 = .ok (.iadd, 1) := by decide +kernel
theorem dL_law_789 : decode cL_law 789 = .ok (.iaload, 1) := by decide +kernel
theorem dL_law_790 : decode cL_law 790 = .ok (.aload_n 0, 1) := by decide +kernel
theorem dL_law_791 : decode cL_law 791 = .ok (.iload 4, 2) := by decide +kernel
theorem dL_law_793 : decode cL_law 793 = .ok (.iconst 2, 1) := by decide +kernel
theorem dL_law_794 : decode cL_law 794 = .ok (.iadd, 1) := by decide +kernel
theorem dL_law_795 : decode cL_law 795 = .ok (.iaload, 1) := by decide +kernel
theorem dL_law_796 : decode cL_law 796 = .ok (.aload_n 3, 1) := by decide +kernel
theorem dL_law_797 : decode cL_law 797 = .ok (.invokestatic 131, 3) := by decide +kernel
theorem dL_law_800 : decode cL_law 800 = .ok (.istore 5, 2) := by decide +kernel
theorem dL_law_802 : decode cL_law 802 = .ok (.aload_n 2, 1) := by decide +kernel
theorem dL_law_803 : decode cL_law 803 = .ok (.aload_n 0, 1) := by decide +kernel
theorem dL_law_804 : decode cL_law 804 = .ok (.iload 4, 2) := by decide +kernel
theorem dL_law_806 : decode cL_law 806 = .ok (.iconst 1, 1) := by decide +kernel
theorem dL_law_807 : decode cL_law 807 = .ok (.iadd, 1) := by decide +kernel
theorem dL_law_808 : decode cL_law 808 = .ok (.iaload, 1) := by decide +kernel
theorem dL_law_809 : decode cL_law 809 = .ok (.aload_n 0, 1) := by decide +kernel
theorem dL_law_810 : decode cL_law 810 = .ok (.iload 4, 2) := by decide +kernel
theorem dL_law_812 : decode cL_law 812 = .ok (.iconst 2, 1) := by decide +kernel
theorem dL_law_813 : decode cL_law 813 = .ok (.iadd, 1) := by decide +kernel
theorem dL_law_814 : decode cL_law 814 = .ok (.iaload, 1) := by decide +kernel
theorem dL_law_815 : decode cL_law 815 = .ok (.invokevirtual 133, 3) := by decide +kernel
theorem dL_law_818 : decode cL_law 818 = .ok (.istore 6, 2) := by decide +kernel
theorem dL_law_820 : decode cL_law 820 = .ok (.aload_n 2, 1) := by decide +kernel
theorem dL_law_821 : decode cL_law 821 = .ok (.invokevirtual 94, 3) := by decide +kernel
theorem dL_law_824 : decode cL_law 824 = .ok (.iload 5, 2) := by decide +kernel
theorem dL_law_826 : decode cL_law 826 = .ok (.if_icmp .eq 5, 3) := by decide +kernel
theorem dL_law_829 : decode cL_law 829 = .ok (.iconst 0, 1) := by decide +kernel
theorem dL_law_830 : decode cL_law 830 = .ok (.ireturn, 1) := by decide +kernel
theorem dL_law_831 : decode cL_law 831 = .ok (.iload 5, 2) := by decide +kernel
theorem dL_law_833 : decode cL_law 833 = .ok (.ifCond .ne 15, 3) := by decide +kernel
theorem dL_law_836 : decode cL_law 836 = .ok (.aload_n 3, 1) := by decide +kernel
theorem dL_law_837 : decode cL_law 837 = .ok (.iconst 0, 1) := by decide +kernel
theorem dL_law_838 : decode cL_law 838 = .ok (.laload, 1) := by decide +kernel
theorem dL_law_839 : decode cL_law 839 = .ok (.iload 6, 2) := by decide +kernel
theorem dL_law_841 : decode cL_law 841 = .ok (.i2l, 1) := by decide +kernel
theorem dL_law_842 : decode cL_law 842 = .ok (.lcmp, 1) := by decide +kernel
theorem dL_law_843 : decode cL_law 843 = .ok (.ifCond .eq 5, 3) := by decide +kernel
theorem dL_law_846 : decode cL_law 846 = .ok (.iconst 0, 1) := by decide +kernel
theorem dL_law_847 : decode cL_law 847 = .ok (.ireturn, 1) := by decide +kernel
theorem dL_law_848 : decode cL_law 848 = .ok (.goto 835, 3) := by decide +kernel
theorem dL_law_851 : decode cL_law 851 = .ok (.aload_n 1, 1) := by decide +kernel
theorem dL_law_852 : decode cL_law 852 = .ok (.aload_n 0, 1) := by decide +kernel
theorem dL_law_853 : decode cL_law 853 = .ok (.iload 4, 2) := by decide +kernel
theorem dL_law_855 : decode cL_law 855 = .ok (.iconst 1, 1) := by decide +kernel
theorem dL_law_856 : decode cL_law 856 = .ok (.iadd, 1) := by decide +kernel
theorem dL_law_857 : decode cL_law 857 = .ok (.iaload, 1) := by decide +kernel
theorem dL_law_858 : decode cL_law 858 = .ok (.aload_n 0, 1) := by decide +kernel
theorem dL_law_859 : decode cL_law 859 = .ok (.iload 4, 2) := by decide +kernel
theorem dL_law_861 : decode cL_law 861 = .ok (.iconst 2, 1) := by decide +kernel
theorem dL_law_862 : decode cL_law 862 = .ok (.iadd, 1) := by decide +kernel
theorem dL_law_863 : decode cL_law 863 = .ok (.iaload, 1) := by decide +kernel
theorem dL_law_864 : decode cL_law 864 = .ok (.aload_n 3, 1) := by decide +kernel
theorem dL_law_865 : decode cL_law 865 = .ok (.invokestatic 134, 3) := by decide +kernel
theorem dL_law_868 : decode cL_law 868 = .ok (.istore 5, 2) := by decide +kernel
theorem dL_law_870 : decode cL_law 870 = .ok (.aload_n 2, 1) := by decide +kernel
theorem dL_law_871 : decode cL_law 871 = .ok (.aload_n 0, 1) := by decide +kernel
theorem dL_law_872 : decode cL_law 872 = .ok (.iload 4, 2) := by decide +kernel
theorem dL_law_874 : decode cL_law 874 = .ok (.iconst 1, 1) := by decide +kernel
theorem dL_law_875 : decode cL_law 875 = .ok (.iadd, 1) := by decide +kernel
theorem dL_law_876 : decode cL_law 876 = .ok (.iaload, 1) := by decide +kernel
theorem dL_law_877 : decode cL_law 877 = .ok (.aload_n 0, 1) := by decide +kernel
theorem dL_law_878 : decode cL_law 878 = .ok (.iload 4, 2) := by decide +kernel
theorem dL_law_880 : decode cL_law 880 = .ok (.iconst 2, 1) := by decide +kernel
theorem dL_law_881 : decode cL_law 881 = .ok (.iadd, 1) := by decide +kernel
theorem dL_law_882 : decode cL_law 882 = .ok (.iaload, 1) := by decide +kernel
theorem dL_law_883 : decode cL_law 883 = .ok (.invokevirtual 136, 3) := by decide +kernel
theorem dL_law_886 : decode cL_law 886 = .ok (.istore 6, 2) := by decide +kernel
theorem dL_law_888 : decode cL_law 888 = .ok (.aload_n 2, 1) := by decide +kernel
theorem dL_law_889 : decode cL_law 889 = .ok (.invokevirtual 94, 3) := by decide +kernel
theorem dL_law_892 : decode cL_law 892 = .ok (.iload 5, 2) := by decide +kernel
theorem dL_law_894 : decode cL_law 894 = .ok (.if_icmp .eq 5, 3) := by decide +kernel
theorem dL_law_897 : decode cL_law 897 = .ok (.iconst 0, 1) := by decide +kernel
theorem dL_law_898 : decode cL_law 898 = .ok (.ireturn, 1) := by decide +kernel
theorem dL_law_899 : decode cL_law 899 = .ok (.iload 5, 2) := by decide +kernel
theorem dL_law_901 : decode cL_law 901 = .ok (.ifCond .ne 15, 3) := by decide +kernel
theorem dL_law_904 : decode cL_law 904 = .ok (.aload_n 3, 1) := by decide +kernel
theorem dL_law_905 : decode cL_law 905 = .ok (.iconst 0, 1) := by decide +kernel
theorem dL_law_906 : decode cL_law 906 = .ok (.laload, 1) := by decide +kernel
theorem dL_law_907 : decode cL_law 907 = .ok (.iload 6, 2) := by decide +kernel
theorem dL_law_909 : decode cL_law 909 = .ok (.i2l, 1) := by decide +kernel
theorem dL_law_910 : decode cL_law 910 = .ok (.lcmp, 1) := by decide +kernel
theorem dL_law_911 : decode cL_law 911 = .ok (.ifCond .eq 5, 3) := by decide +kernel
theorem dL_law_914 : decode cL_law 914 = .ok (.iconst 0, 1) := by decide +kernel
theorem dL_law_915 : decode cL_law 915 = .ok (.ireturn, 1) := by decide +kernel
theorem dL_law_916 : decode cL_law 916 = .ok (.goto 767, 3) := by decide +kernel
theorem dL_law_919 : decode cL_law 919 = .ok (.aload_n 1, 1) := by decide +kernel
theorem dL_law_920 : decode cL_law 920 = .ok (.aload_n 0, 1) := by decide +kernel
theorem dL_law_921 : decode cL_law 921 = .ok (.iload 4, 2) := by decide +kernel
theorem dL_law_923 : decode cL_law 923 = .ok (.iconst 1, 1) := by decide +kernel
theorem dL_law_924 : decode cL_law 924 = .ok (.iadd, 1) := by decide +kernel
theorem dL_law_925 : decode cL_law 925 = .ok (.iaload, 1) := by decide +kernel
theorem dL_law_926 : decode cL_law 926 = .ok (.aload_n 0, 1) := by decide +kernel
theorem dL_law_927 : decode cL_law 927 = .ok (.iload 4, 2) := by decide +kernel
theorem dL_law_929 : decode cL_law 929 = .ok (.iconst 2, 1) := by decide +kernel
theorem dL_law_930 : decode cL_law 930 = .ok (.iadd, 1) := by decide +kernel
theorem dL_law_931 : decode cL_law 931 = .ok (.iaload, 1) := by decide +kernel
theorem dL_law_932 : decode cL_law 932 = .ok (.aload_n 3, 1) := by decide +kernel
theorem dL_law_933 : decode cL_law 933 = .ok (.invokestatic 137, 3) := by decide +kernel
theorem dL_law_936 : decode cL_law 936 = .ok (.istore 5, 2) := by decide +kernel
theorem dL_law_938 : decode cL_law 938 = .ok (.aload_n 2, 1) := by decide +kernel
theorem dL_law_939 : decode cL_law 939 = .ok (.aload_n 0, 1) := by decide +kernel
theorem dL_law_940 : decode cL_law 940 = .ok (.iload 4, 2) := by decide +kernel
theorem dL_law_942 : decode cL_law 942 = .ok (.iconst 1, 1) := by decide +kernel
theorem dL_law_943 : decode cL_law 943 = .ok (.iadd, 1) := by decide +kernel
theorem dL_law_944 : decode cL_law 944 = .ok (.iaload, 1) := by decide +kernel
theorem dL_law_945 : decode cL_law 945 = .ok (.aload_n 0, 1) := by decide +kernel
theorem dL_law_946 : decode cL_law 946 = .ok (.iload 4, 2) := by decide +kernel
theorem dL_law_948 : decode cL_law 948 = .ok (.iconst 2, 1) := by decide +kernel
theorem dL_law_949 : decode cL_law 949 = .ok (.iadd, 1) := by decide +kernel
theorem dL_law_950 : decode cL_law 950 = .ok (.iaload, 1) := by decide +kernel
theorem dL_law_951 : decode cL_law 951 = .ok (.invokevirtual 139, 3) := by decide +kernel
theorem dL_law_954 : decode cL_law 954 = .ok (.istore 6, 2) := by decide +kernel
theorem dL_law_956 : decode cL_law 956 = .ok (.aload_n 2, 1) := by decide +kernel
theorem dL_law_957 : decode cL_law 957 = .ok (.invokevirtual 94, 3) := by decide +kernel
theorem dL_law_960 : decode cL_law 960 = .ok (.iload 5, 2) := by decide +kernel
theorem dL_law_962 : decode cL_law 962 = .ok (.if_icmp .eq 5, 3) := by decide +kernel
theorem dL_law_965 : decode cL_law 965 = .ok (.iconst 0, 1) := by decide +kernel
theorem dL_law_966 : decode cL_law 966 = .ok (.ireturn, 1) := by decide +kernel
theorem dL_law_967 : decode cL_law 967 = .ok (.iload 5, 2) := by decide +kernel
theorem dL_law_969 : decode cL_law 969 = .ok (.ifCond .ne 22, 3) := by decide +kernel
theorem dL_law_972 : decode cL_law 972 = .ok (.aload_n 3, 1) := by decide +kernel
theorem dL_law_973 : decode cL_law 973 = .ok (.iconst 0, 1) := by decide +kernel
theorem dL_law_974 : decode cL_law 974 = .ok (.laload, 1) := by decide +kernel
theorem dL_law_975 : decode cL_law 975 = .ok (.iload 6, 2) := by decide +kernel
theorem dL_law_977 : decode cL_law 977 = .ok (.ifCond .eq 7, 3) := by decide +kernel
theorem dL_law_980 : decode cL_law 980 = .ok (.lconst 1, 1) := by decide +kernel
theorem dL_law_981 : decode cL_law 981 = .ok (.goto 4, 3) := by decide +kernel
theorem dL_law_984 : decode cL_law 984 = .ok (.lconst 0, 1) := by decide +kernel
theorem dL_law_985 : decode cL_law 985 = .ok (.lcmp, 1) := by decide +kernel
theorem dL_law_986 : decode cL_law 986 = .ok (.ifCond .eq 5, 3) := by decide +kernel
theorem dL_law_989 : decode cL_law 989 = .ok (.iconst 0, 1) := by decide +kernel
theorem dL_law_990 : decode cL_law 990 = .ok (.ireturn, 1) := by decide +kernel
theorem dL_law_991 : decode cL_law 991 = .ok (.goto 692, 3) := by decide +kernel
theorem dL_law_994 : decode cL_law 994 = .ok (.aload_n 1, 1) := by decide +kernel
theorem dL_law_995 : decode cL_law 995 = .ok (.aload_n 0, 1) := by decide +kernel
theorem dL_law_996 : decode cL_law 996 = .ok (.iload 4, 2) := by decide +kernel
theorem dL_law_998 : decode cL_law 998 = .ok (.iconst 1, 1) := by decide +kernel
theorem dL_law_999 : decode cL_law 999 = .ok (.iadd, 1) := by decide +kernel
theorem dL_law_1000 : decode cL_law 1000 = .ok (.iaload, 1) := by decide +kernel
theorem dL_law_1001 : decode cL_law 1001 = .ok (.aload_n 3, 1) := by decide +kernel
theorem dL_law_1002 : decode cL_law 1002 = .ok (.invokestatic 140, 3) := by decide +kernel
theorem dL_law_1005 : decode cL_law 1005 = .ok (.istore 5, 2) := by decide +kernel
theorem dL_law_1007 : decode cL_law 1007 = .ok (.aload_n 2, 1) := by decide +kernel
theorem dL_law_1008 : decode cL_law 1008 = .ok (.aload_n 0, 1) := by decide +kernel
theorem dL_law_1009 : decode cL_law 1009 = .ok (.iload 4, 2) := by decide +kernel
theorem dL_law_1011 : decode cL_law 1011 = .ok (.iconst 1, 1) := by decide +kernel
theorem dL_law_1012 : decode cL_law 1012 = .ok (.iadd, 1) := by decide +kernel
theorem dL_law_1013 : decode cL_law 1013 = .ok (.iaload, 1) := by decide +kernel
theorem dL_law_1014 : decode cL_law 1014 = .ok (.invokevirtual 142, 3) := by decide +kernel
theorem dL_law_1017 : decode cL_law 1017 = .ok (.istore 6, 2) := by decide +kernel
theorem dL_law_1019 : decode cL_law 1019 = .ok (.aload_n 2, 1) := by decide +kernel
theorem dL_law_1020 : decode cL_law 1020 = .ok (.invokevirtual 94, 3) := by decide +kernel
theorem dL_law_1023 : decode cL_law 1023 = .ok (.iload 5, 2) := by decide +kernel
theorem dL_law_1025 : decode cL_law 1025 = .ok (.if_icmp .eq 5, 3) := by decide +kernel
theorem dL_law_1028 : decode cL_law 1028 = .ok (.iconst 0, 1) := by decide +kernel
theorem dL_law_1029 : decode cL_law 1029 = .ok (.ireturn, 1) := by decide +kernel
theorem dL_law_1030 : decode cL_law 1030 = .ok (.iload 5, 2) := by decide +kernel
theorem dL_law_1032 : decode cL_law 1032 = .ok (.ifCond .ne 22, 3) := by decide +kernel
theorem dL_law_1035 : decode cL_law 1035 = .ok (.aload_n 3, 1) := by decide +kernel
theorem dL_law_1036 : decode cL_law 1036 = .ok (.iconst 0, 1) := by decide +kernel
theorem dL_law_1037 : decode cL_law 1037 = .ok (.laload, 1) := by decide +kernel
theorem dL_law_1038 : decode cL_law 1038 = .ok (.iload 6, 2) := by decide +kernel
theorem dL_law_1040 : decode cL_law 1040 = .ok (.ifCond .eq 7, 3) := by decide +kernel
theorem dL_law_1043 : decode cL_law 1043 = .ok (.lconst 1, 1) := by decide +kernel
theorem dL_law_1044 : decode cL_law 1044 = .ok (.goto 4, 3) := by decide +kernel
theorem dL_law_1047 : decode cL_law 1047 = .ok (.lconst 0, 1) := by decide +kernel
theorem dL_law_1048 : decode cL_law 1048 = .ok (.lcmp, 1) := by decide +kernel
theorem dL_law_1049 : decode cL_law 1049 = .ok (.ifCond .eq 5, 3) := by decide +kernel
theorem dL_law_1052 : decode cL_law 1052 = .ok (.iconst 0, 1) := by decide +kernel
theorem dL_law_1053 : decode cL_law 1053 = .ok (.ireturn, 1) := by decide +kernel
theorem dL_law_1054 : decode cL_law 1054 = .ok (.goto 629, 3) := by decide +kernel
theorem dL_law_1057 : decode cL_law 1057 = .ok (.aload_n 1, 1) := by decide +kernel
theorem dL_law_1058 : decode cL_law 1058 = .ok (.aload_n 0, 1) := by decide +kernel
theorem dL_law_1059 : decode cL_law 1059 = .ok (.iload 4, 2) := by decide +kernel
theorem dL_law_1061 : decode cL_law 1061 = .ok (.iconst 1, 1) := by decide +kernel
theorem dL_law_1062 : decode cL_law 1062 = .ok (.iadd, 1) := by decide +kernel
theorem dL_law_1063 : decode cL_law 1063 = .ok (.iaload, 1) := by decide +kernel
theorem dL_law_1064 : decode cL_law 1064 = .ok (.aload_n 0, 1) := by decide +kernel
theorem dL_law_1065 : decode cL_law 1065 = .ok (.iload 4, 2) := by decide +kernel
theorem dL_law_1067 : decode cL_law 1067 = .ok (.iconst 2, 1) := by decide +kernel
theorem dL_law_1068 : decode cL_law 1068 = .ok (.iadd, 1) := by decide +kernel
theorem dL_law_1069 : decode cL_law 1069 = .ok (.iaload, 1) := by decide +kernel
theorem dL_law_1070 : decode cL_law 1070 = .ok (.aload_n 3, 1) := by decide +kernel
theorem dL_law_1071 : decode cL_law 1071 = .ok (.invokestatic 143, 3) := by decide +kernel
theorem dL_law_1074 : decode cL_law 1074 = .ok (.istore 5, 2) := by decide +kernel
theorem dL_law_1076 : decode cL_law 1076 = .ok (.aload_n 2, 1) := by decide +kernel
theorem dL_law_1077 : decode cL_law 1077 = .ok (.aload_n 0, 1) := by decide +kernel
theorem dL_law_1078 : decode cL_law 1078 = .ok (.iload 4, 2) := by decide +kernel
theorem dL_law_1080 : decode cL_law 1080 = .ok (.iconst 1, 1) := by decide +kernel
theorem dL_law_1081 : decode cL_law 1081 = .ok (.iadd, 1) := by decide +kernel
theorem dL_law_1082 : decode cL_law 1082 = .ok (.iaload, 1) := by decide +kernel
theorem dL_law_1083 : decode cL_law 1083 = .ok (.aload_n 0, 1) := by decide +kernel
theorem dL_law_1084 : decode cL_law 1084 = .ok (.iload 4, 2) := by decide +kernel
theorem dL_law_1086 : decode cL_law 1086 = .ok (.iconst 2, 1) := by decide +kernel
theorem dL_law_1087 : decode cL_law 1087 = .ok (.iadd, 1) := by decide +kernel
theorem dL_law_1088 : decode cL_law 1088 = .ok (.iaload, 1) := by decide +kernel
theorem dL_law_1089 : decode cL_law 1089 = .ok (.invokevirtual 145, 3) := by decide +kernel
theorem dL_law_1092 : decode cL_law 1092 = .ok (.istore 6, 2) := by decide +kernel
theorem dL_law_1094 : decode cL_law 1094 = .ok (.aload_n 2, 1) := by decide +kernel
theorem dL_law_1095 : decode cL_law 1095 = .ok (.invokevirtual 94, 3) := by decide +kernel
theorem dL_law_1098 : decode cL_law 1098 = .ok (.iload 5, 2) := by decide +kernel
theorem dL_law_1100 : decode cL_law 1100 = .ok (.if_icmp .eq 5, 3) := by decide +kernel
theorem dL_law_1103 : decode cL_law 1103 = .ok (.iconst 0, 1) := by decide +kernel
theorem dL_law_1104 : decode cL_law 1104 = .ok (.ireturn, 1) := by decide +kernel
theorem dL_law_1105 : decode cL_law 1105 = .ok (.iload 5, 2) := by decide +kernel
theorem dL_law_1107 : decode cL_law 1107 = .ok (.ifCond .ne 15, 3) := by decide +kernel
theorem dL_law_1110 : decode cL_law 1110 = .ok (.aload_n 3, 1) := by decide +kernel
theorem dL_law_1111 : decode cL_law 1111 = .ok (.iconst 0, 1) := by decide +kernel
theorem dL_law_1112 : decode cL_law 1112 = .ok (.laload, 1) := by decide +kernel
theorem dL_law_1113 : decode cL_law 1113 = .ok (.iload 6, 2) := by decide +kernel
theorem dL_law_1115 : decode cL_law 1115 = .ok (.i2l, 1) := by decide +kernel
theorem dL_law_1116 : decode cL_law 1116 = .ok (.lcmp, 1) := by decide +kernel
theorem dL_law_1117 : decode cL_law 1117 = .ok (.ifCond .eq 5, 3) := by decide +kernel
theorem dL_law_1120 : decode cL_law 1120 = .ok (.iconst 0, 1) := by decide +kernel
theorem dL_law_1121 : decode cL_law 1121 = .ok (.ireturn, 1) := by decide +kernel
theorem dL_law_1122 : decode cL_law 1122 = .ok (.goto 561, 3) := by decide +kernel
theorem dL_law_1125 : decode cL_law 1125 = .ok (.aload_n 1, 1) := by decide +kernel
theorem dL_law_1126 : decode cL_law 1126 = .ok (.invokevirtual 146, 3) := by decide +kernel
theorem dL_law_1129 : decode cL_law 1129 = .ok (.aload_n 2, 1) := by decide +kernel
theorem dL_law_1130 : decode cL_law 1130 = .ok (.invokevirtual 149, 3) := by decide +kernel
theorem dL_law_1133 : decode cL_law 1133 = .ok (.if_icmp .eq 550, 3) := by decide +kernel
theorem dL_law_1136 : decode cL_law 1136 = .ok (.iconst 0, 1) := by decide +kernel
theorem dL_law_1137 : decode cL_law 1137 = .ok (.ireturn, 1) := by decide +kernel
theorem dL_law_1138 : decode cL_law 1138 = .ok (.aload_n 1, 1) := by decide +kernel
theorem dL_law_1139 : decode cL_law 1139 = .ok (.invokevirtual 150, 3) := by decide +kernel
theorem dL_law_1142 : decode cL_law 1142 = .ok (.aload_n 2, 1) := by decide +kernel
theorem dL_law_1143 : decode cL_law 1143 = .ok (.invokevirtual 153, 3) := by decide +kernel
theorem dL_law_1146 : decode cL_law 1146 = .ok (.if_icmp .eq 537, 3) := by decide +kernel
theorem dL_law_1149 : decode cL_law 1149 = .ok (.iconst 0, 1) := by decide +kernel
theorem dL_law_1150 : decode cL_law 1150 = .ok (.ireturn, 1) := by decide +kernel
theorem dL_law_1151 : decode cL_law 1151 = .ok (.aload_n 1, 1) := by decide +kernel
theorem dL_law_1152 : decode cL_law 1152 = .ok (.invokevirtual 154, 3) := by decide +kernel
theorem dL_law_1155 : decode cL_law 1155 = .ok (.aload_n 2, 1) := by decide +kernel
theorem dL_law_1156 : decode cL_law 1156 = .ok (.invokevirtual 157, 3) := by decide +kernel
theorem dL_law_1159 : decode cL_law 1159 = .ok (.if_icmp .eq 524, 3) := by decide +kernel
theorem dL_law_1162 : decode cL_law 1162 = .ok (.iconst 0, 1) := by decide +kernel
theorem dL_law_1163 : decode cL_law 1163 = .ok (.ireturn, 1) := by decide +kernel
theorem dL_law_1164 : decode cL_law 1164 = .ok (.aload_n 1, 1) := by decide +kernel
theorem dL_law_1165 : decode cL_law 1165 = .ok (.invokevirtual 158, 3) := by decide +kernel
theorem dL_law_1168 : decode cL_law 1168 = .ok (.aload_n 2, 1) := by decide +kernel
theorem dL_law_1169 : decode cL_law 1169 = .ok (.invokevirtual 161, 3) := by decide +kernel
theorem dL_law_1172 : decode cL_law 1172 = .ok (.if_icmp .eq 511, 3) := by decide +kernel
theorem dL_law_1175 : decode cL_law 1175 = .ok (.iconst 0, 1) := by decide +kernel
theorem dL_law_1176 : decode cL_law 1176 = .ok (.ireturn, 1) := by decide +kernel
theorem dL_law_1177 : decode cL_law 1177 = .ok (.aload_n 1, 1) := by decide +kernel
theorem dL_law_1178 : decode cL_law 1178 = .ok (.aload_n 0, 1) := by decide +kernel
theorem dL_law_1179 : decode cL_law 1179 = .ok (.iload 4, 2) := by decide +kernel
theorem dL_law_1181 : decode cL_law 1181 = .ok (.iconst 1, 1) := by decide +kernel
theorem dL_law_1182 : decode cL_law 1182 = .ok (.iadd, 1) := by decide +kernel
theorem dL_law_1183 : decode cL_law 1183 = .ok (.iaload, 1) := by decide +kernel
theorem dL_law_1184 : decode cL_law 1184 = .ok (.aload_n 0, 1) := by decide +kernel
theorem dL_law_1185 : decode cL_law 1185 = .ok (.iload 4, 2) := by decide +kernel
theorem dL_law_1187 : decode cL_law 1187 = .ok (.iconst 2, 1) := by decide +kernel
theorem dL_law_1188 : decode cL_law 1188 = .ok (.iadd, 1) := by decide +kernel
theorem dL_law_1189 : decode cL_law 1189 = .ok (.iaload, 1) := by decide +kernel
theorem dL_law_1190 : decode cL_law 1190 = .ok (.aload_n 3, 1) := by decide +kernel
theorem dL_law_1191 : decode cL_law 1191 = .ok (.invokestatic 162, 3) := by decide +kernel
theorem dL_law_1194 : decode cL_law 1194 = .ok (.istore 5, 2) := by decide +kernel
theorem dL_law_1196 : decode cL_law 1196 = .ok (.aload_n 2, 1) := by decide +kernel
theorem dL_law_1197 : decode cL_law 1197 = .ok (.aload_n 0, 1) := by decide +kernel
theorem dL_law_1198 : decode cL_law 1198 = .ok (.iload 4, 2) := by decide +kernel
theorem dL_law_1200 : decode cL_law 1200 = .ok (.iconst 1, 1) := by decide +kernel
theorem dL_law_1201 : decode cL_law 1201 = .ok (.iadd, 1) := by decide +kernel
theorem dL_law_1202 : decode cL_law 1202 = .ok (.iaload, 1) := by decide +kernel
theorem dL_law_1203 : decode cL_law 1203 = .ok (.aload_n 0, 1) := by decide +kernel
theorem dL_law_1204 : decode cL_law 1204 = .ok (.iload 4, 2) := by decide +kernel
theorem dL_law_1206 : decode cL_law 1206 = .ok (.iconst 2, 1) := by decide +kernel
theorem dL_law_1207 : decode cL_law 1207 = .ok (.iadd, 1) := by decide +kernel
theorem dL_law_1208 : decode cL_law 1208 = .ok (.iaload, 1) := by decide +kernel
theorem dL_law_1209 : decode cL_law 1209 = .ok (.invokevirtual 164, 3) := by decide +kernel
theorem dL_law_1212 : decode cL_law 1212 = .ok (.istore 6, 2) := by decide +kernel
theorem dL_law_1214 : decode cL_law 1214 = .ok (.aload_n 2, 1) := by decide +kernel
theorem dL_law_1215 : decode cL_law 1215 = .ok (.invokevirtual 94, 3) := by decide +kernel
theorem dL_law_1218 : decode cL_law 1218 = .ok (.iload 5, 2) := by decide +kernel
theorem dL_law_1220 : decode cL_law 1220 = .ok (.if_icmp .eq 5, 3) := by decide +kernel
theorem dL_law_1223 : decode cL_law 1223 = .ok (.iconst 0, 1) := by decide +kernel
theorem dL_law_1224 : decode cL_law 1224 = .ok (.ireturn, 1) := by decide +kernel
theorem dL_law_1225 : decode cL_law 1225 = .ok (.iload 5, 2) := by decide +kernel
theorem dL_law_1227 : decode cL_law 1227 = .ok (.ifCond .ne 22, 3) := by decide +kernel
theorem dL_law_1230 : decode cL_law 1230 = .ok (.aload_n 3, 1) := by decide +kernel
theorem dL_law_1231 : decode cL_law 1231 = .ok (.iconst 0, 1) := by decide +kernel
theorem dL_law_1232 : decode cL_law 1232 = .ok (.laload, 1) := by decide +kernel
theorem dL_law_1233 : decode cL_law 1233 = .ok (.iload 6, 2) := by decide +kernel
theorem dL_law_1235 : decode cL_law 1235 = .ok (.ifCond .eq 7, 3) := by decide +kernel
theorem dL_law_1238 : decode cL_law 1238 = .ok (.lconst 1, 1) := by decide +kernel
theorem dL_law_1239 : decode cL_law 1239 = .ok (.goto 4, 3) := by decide +kernel
theorem dL_law_1242 : decode cL_law 1242 = .ok (.lconst 0, 1) := by decide +kernel
theorem dL_law_1243 : decode cL_law 1243 = .ok (.lcmp, 1) := by decide +kernel
theorem dL_law_1244 : decode cL_law 1244 = .ok (.ifCond .eq 5, 3) := by decide +kernel
theorem dL_law_1247 : decode cL_law 1247 = .ok (.iconst 0, 1) := by decide +kernel
theorem dL_law_1248 : decode cL_law 1248 = .ok (.ireturn, 1) := by decide +kernel
theorem dL_law_1249 : decode cL_law 1249 = .ok (.goto 434, 3) := by decide +kernel
theorem dL_law_1252 : decode cL_law 1252 = .ok (.aload_n 1, 1) := by decide +kernel
theorem dL_law_1253 : decode cL_law 1253 = .ok (.aload_n 0, 1) := by decide +kernel
theorem dL_law_1254 : decode cL_law 1254 = .ok (.iload 4, 2) := by decide +kernel
theorem dL_law_1256 : decode cL_law 1256 = .ok (.iconst 1, 1) := by decide +kernel
theorem dL_law_1257 : decode cL_law 1257 = .ok (.iadd, 1) := by decide +kernel
theorem dL_law_1258 : decode cL_law 1258 = .ok (.iaload, 1) := by decide +kernel
theorem dL_law_1259 : decode cL_law 1259 = .ok (.aload_n 0, 1) := by decide +kernel
theorem dL_law_1260 : decode cL_law 1260 = .ok (.iload 4, 2) := by decide +kernel
theorem dL_law_1262 : decode cL_law 1262 = .ok (.iconst 2, 1) := by decide +kernel
theorem dL_law_1263 : decode cL_law 1263 = .ok (.iadd, 1) := by decide +kernel
theorem dL_law_1264 : decode cL_law 1264 = .ok (.iaload, 1) := by decide +kernel
theorem dL_law_1265 : decode cL_law 1265 = .ok (.aload_n 3, 1) := by decide +kernel
theorem dL_law_1266 : decode cL_law 1266 = .ok (.invokestatic 165, 3) := by decide +kernel
theorem dL_law_1269 : decode cL_law 1269 = .ok (.istore 5, 2) := by decide +kernel
theorem dL_law_1271 : decode cL_law 1271 = .ok (.aload_n 2, 1) := by decide +kernel
theorem dL_law_1272 : decode cL_law 1272 = .ok (.aload_n 0, 1) := by decide +kernel
theorem dL_law_1273 : decode cL_law 1273 = .ok (.iload 4, 2) := by decide +kernel
theorem dL_law_1275 : decode cL_law 1275 = .ok (.iconst 1, 1) := by decide +kernel
theorem dL_law_1276 : decode cL_law 1276 = .ok (.iadd, 1) := by decide +kernel
theorem dL_law_1277 : decode cL_law 1277 = .ok (.iaload, 1) := by decide +kernel
theorem dL_law_1278 : decode cL_law 1278 = .ok (.aload_n 0, 1) := by decide +kernel
theorem dL_law_1279 : decode cL_law 1279 = .ok (.iload 4, 2) := by decide +kernel
theorem dL_law_1281 : decode cL_law 1281 = .ok (.iconst 2, 1) := by decide +kernel
theorem dL_law_1282 : decode cL_law 1282 = .ok (.iadd, 1) := by decide +kernel
theorem dL_law_1283 : decode cL_law 1283 = .ok (.iaload, 1) := by decide +kernel
theorem dL_law_1284 : decode cL_law 1284 = .ok (.invokevirtual 167, 3) := by decide +kernel
theorem dL_law_1287 : decode cL_law 1287 = .ok (.istore 6, 2) := by decide +kernel
theorem dL_law_1289 : decode cL_law 1289 = .ok (.aload_n 2, 1) := by decide +kernel
theorem dL_law_1290 : decode cL_law 1290 = .ok (.invokevirtual 94, 3) := by decide +kernel
theorem dL_law_1293 : decode cL_law 1293 = .ok (.iload 5, 2) := by decide +kernel
theorem dL_law_1295 : decode cL_law 1295 = .ok (.if_icmp .eq 5, 3) := by decide +kernel
theorem dL_law_1298 : decode cL_law 1298 = .ok (.iconst 0, 1) := by decide +kernel
theorem dL_law_1299 : decode cL_law 1299 = .ok (.ireturn, 1) := by decide +kernel
theorem dL_law_1300 : decode cL_law 1300 = .ok (.iload 5, 2) := by decide +kernel
theorem dL_law_1302 : decode cL_law 1302 = .ok (.ifCond .ne 15, 3) := by decide +kernel
theorem dL_law_1305 : decode cL_law 1305 = .ok (.aload_n 3, 1) := by decide +kernel
theorem dL_law_1306 : decode cL_law 1306 = .ok (.iconst 0, 1) := by decide +kernel
theorem dL_law_1307 : decode cL_law 1307 = .ok (.laload, 1) := by decide +kernel
theorem dL_law_1308 : decode cL_law 1308 = .ok (.iload 6, 2) := by decide +kernel
theorem dL_law_1310 : decode cL_law 1310 = .ok (.i2l, 1) := by decide +kernel
theorem dL_law_1311 : decode cL_law 1311 = .ok (.lcmp, 1) := by decide +kernel
theorem dL_law_1312 : decode cL_law 1312 = .ok (.ifCond .eq 5, 3) := by decide +kernel
theorem dL_law_1315 : decode cL_law 1315 = .ok (.iconst 0, 1) := by decide +kernel
theorem dL_law_1316 : decode cL_law 1316 = .ok (.ireturn, 1) := by decide +kernel
theorem dL_law_1317 : decode cL_law 1317 = .ok (.goto 366, 3) := by decide +kernel
theorem dL_law_1320 : decode cL_law 1320 = .ok (.aload_n 1, 1) := by decide +kernel
theorem dL_law_1321 : decode cL_law 1321 = .ok (.aload_n 0, 1) := by decide +kernel
theorem dL_law_1322 : decode cL_law 1322 = .ok (.iload 4, 2) := by decide +kernel
theorem dL_law_1324 : decode cL_law 1324 = .ok (.iconst 1, 1) := by decide +kernel
theorem dL_law_1325 : decode cL_law 1325 = .ok (.iadd, 1) := by decide +kernel
theorem dL_law_1326 : decode cL_law 1326 = .ok (.iaload, 1) := by decide +kernel
theorem dL_law_1327 : decode cL_law 1327 = .ok (.aload_n 0, 1) := by decide +kernel
theorem dL_law_1328 : decode cL_law 1328 = .ok (.iload 4, 2) := by decide +kernel
theorem dL_law_1330 : decode cL_law 1330 = .ok (.iconst 2, 1) := by decide +kernel
theorem dL_law_1331 : decode cL_law 1331 = .ok (.iadd, 1) := by decide +kernel
theorem dL_law_1332 : decode cL_law 1332 = .ok (.iaload, 1) := by decide +kernel
theorem dL_law_1333 : decode cL_law 1333 = .ok (.aload_n 3, 1) := by decide +kernel
theorem dL_law_1334 : decode cL_law 1334 = .ok (.invokestatic 168, 3) := by decide +kernel
theorem dL_law_1337 : decode cL_law 1337 = .ok (.istore 5, 2) := by decide +kernel
theorem dL_law_1339 : decode cL_law 1339 = .ok (.aload_n 2, 1) := by decide +kernel
theorem dL_law_1340 : decode cL_law 1340 = .ok (.aload_n 0, 1) := by decide +kernel
theorem dL_law_1341 : decode cL_law 1341 = .ok (.iload 4, 2) := by decide +kernel
theorem dL_law_1343 : decode cL_law 1343 = .ok (.iconst 1, 1) := by decide +kernel
theorem dL_law_1344 : decode cL_law 1344 = .ok (.iadd, 1) := by decide +kernel
theorem dL_law_1345 : decode cL_law 1345 = .ok (.iaload, 1) := by decide +kernel
theorem dL_law_1346 : decode cL_law 1346 = .ok (.aload_n 0, 1) := by decide +kernel
theorem dL_law_1347 : decode cL_law 1347 = .ok (.iload 4, 2) := by decide +kernel
theorem dL_law_1349 : decode cL_law 1349 = .ok (.iconst 2, 1) := by decide +kernel
theorem dL_law_1350 : decode cL_law 1350 = .ok (.iadd, 1) := by decide +kernel
theorem dL_law_1351 : decode cL_law 1351 = .ok (.iaload, 1) := by decide +kernel
theorem dL_law_1352 : decode cL_law 1352 = .ok (.invokevirtual 170, 3) := by decide +kernel
theorem dL_law_1355 : decode cL_law 1355 = .ok (.istore 6, 2) := by decide +kernel
theorem dL_law_1357 : decode cL_law 1357 = .ok (.aload_n 2, 1) := by decide +kernel
theorem dL_law_1358 : decode cL_law 1358 = .ok (.invokevirtual 94, 3) := by decide +kernel
theorem dL_law_1361 : decode cL_law 1361 = .ok (.iload 5, 2) := by decide +kernel
theorem dL_law_1363 : decode cL_law 1363 = .ok (.if_icmp .eq 5, 3) := by decide +kernel
theorem dL_law_1366 : decode cL_law 1366 = .ok (.iconst 0, 1) := by decide +kernel
theorem dL_law_1367 : decode cL_law 1367 = .ok (.ireturn, 1) := by decide +kernel
theorem dL_law_1368 : decode cL_law 1368 = .ok (.iload 5, 2) := by decide +kernel
theorem dL_law_1370 : decode cL_law 1370 = .ok (.ifCond .ne 15, 3) := by decide +kernel
theorem dL_law_1373 : decode cL_law 1373 = .ok (.aload_n 3, 1) := by decide +kernel
theorem dL_law_1374 : decode cL_law 1374 = .ok (.iconst 0, 1) := by decide +kernel
theorem dL_law_1375 : decode cL_law 1375 = .ok (.laload, 1) := by decide +kernel
theorem dL_law_1376 : decode cL_law 1376 = .ok (.iload 6, 2) := by decide +kernel
theorem dL_law_1378 : decode cL_law 1378 = .ok (.i2l, 1) := by decide +kernel
theorem dL_law_1379 : decode cL_law 1379 = .ok (.lcmp, 1) := by decide +kernel
theorem dL_law_1380 : decode cL_law 1380 = .ok (.ifCond .eq 5, 3) := by decide +kernel
theorem dL_law_1383 : decode cL_law 1383 = .ok (.iconst 0, 1) := by decide +kernel
theorem dL_law_1384 : decode cL_law 1384 = .ok (.ireturn, 1) := by decide +kernel
theorem dL_law_1385 : decode cL_law 1385 = .ok (.goto 298, 3) := by decide +kernel
theorem dL_law_1388 : decode cL_law 1388 = .ok (.aload_n 1, 1) := by decide +kernel
theorem dL_law_1389 : decode cL_law 1389 = .ok (.aload_n 0, 1) := by decide +kernel
theorem dL_law_1390 : decode cL_law 1390 = .ok (.iload 4, 2) := by decide +kernel
theorem dL_law_1392 : decode cL_law 1392 = .ok (.iconst 1, 1) := by decide +kernel
theorem dL_law_1393 : decode cL_law 1393 = .ok (.iadd, 1) := by decide +kernel
theorem dL_law_1394 : decode cL_law 1394 = .ok (.iaload, 1) := by decide +kernel
theorem dL_law_1395 : decode cL_law 1395 = .ok (.aload_n 3, 1) := by decide +kernel
theorem dL_law_1396 : decode cL_law 1396 = .ok (.invokestatic 171, 3) := by decide +kernel
theorem dL_law_1399 : decode cL_law 1399 = .ok (.istore 5, 2) := by decide +kernel
theorem dL_law_1401 : decode cL_law 1401 = .ok (.aload_n 2, 1) := by decide +kernel
theorem dL_law_1402 : decode cL_law 1402 = .ok (.aload_n 0, 1) := by decide +kernel
theorem dL_law_1403 : decode cL_law 1403 = .ok (.iload 4, 2) := by decide +kernel
theorem dL_law_1405 : decode cL_law 1405 = .ok (.iconst 1, 1) := by decide +kernel
theorem dL_law_1406 : decode cL_law 1406 = .ok (.iadd, 1) := by decide +kernel
theorem dL_law_1407 : decode cL_law 1407 = .ok (.iaload, 1) := by decide +kernel
theorem dL_law_1408 : decode cL_law 1408 = .ok (.invokevirtual 173, 3) := by decide +kernel
theorem dL_law_1411 : decode cL_law 1411 = .ok (.istore 6, 2) := by decide +kernel
theorem dL_law_1413 : decode cL_law 1413 = .ok (.aload_n 2, 1) := by decide +kernel
theorem dL_law_1414 : decode cL_law 1414 = .ok (.invokevirtual 94, 3) := by decide +kernel
theorem dL_law_1417 : decode cL_law 1417 = .ok (.iload 5, 2) := by decide +kernel
theorem dL_law_1419 : decode cL_law 1419 = .ok (.if_icmp .eq 5, 3) := by decide +kernel
theorem dL_law_1422 : decode cL_law 1422 = .ok (.iconst 0, 1) := by decide +kernel
theorem dL_law_1423 : decode cL_law 1423 = .ok (.ireturn, 1) := by decide +kernel
theorem dL_law_1424 : decode cL_law 1424 = .ok (.iload 5, 2) := by decide +kernel
theorem dL_law_1426 : decode cL_law 1426 = .ok (.ifCond .ne 22, 3) := by decide +kernel
theorem dL_law_1429 : decode cL_law 1429 = .ok (.aload_n 3, 1) := by decide +kernel
theorem dL_law_1430 : decode cL_law 1430 = .ok (.iconst 0, 1) := by decide +kernel
theorem dL_law_1431 : decode cL_law 1431 = .ok (.laload, 1) := by decide +kernel
theorem dL_law_1432 : decode cL_law 1432 = .ok (.iload 6, 2) := by decide +kernel
theorem dL_law_1434 : decode cL_law 1434 = .ok (.ifCond .eq 7, 3) := by decide +kernel
theorem dL_law_1437 : decode cL_law 1437 = .ok (.lconst 1, 1) := by decide +kernel
theorem dL_law_1438 : decode cL_law 1438 = .ok (.goto 4, 3) := by decide +kernel
theorem dL_law_1441 : decode cL_law 1441 = .ok (.lconst 0, 1) := by decide +kernel
theorem dL_law_1442 : decode cL_law 1442 = .ok (.lcmp, 1) := by decide +kernel
theorem dL_law_1443 : decode cL_law 1443 = .ok (.ifCond .eq 5, 3) := by decide +kernel
theorem dL_law_1446 : decode cL_law 1446 = .ok (.iconst 0, 1) := by decide +kernel
theorem dL_law_1447 : decode cL_law 1447 = .ok (.ireturn, 1) := by decide +kernel
theorem dL_law_1448 : decode cL_law 1448 = .ok (.goto 235, 3) := by decide +kernel
theorem dL_law_1451 : decode cL_law 1451 = .ok (.aload_n 1, 1) := by decide +kernel
theorem dL_law_1452 : decode cL_law 1452 = .ok (.invokevirtual 174, 3) := by decide +kernel
theorem dL_law_1455 : decode cL_law 1455 = .ok (.aload_n 2, 1) := by decide +kernel
theorem dL_law_1456 : decode cL_law 1456 = .ok (.invokevirtual 177, 3) := by decide +kernel
theorem dL_law_1459 : decode cL_law 1459 = .ok (.if_icmp .eq 224, 3) := by decide +kernel
theorem dL_law_1462 : decode cL_law 1462 = .ok (.iconst 0, 1) := by decide +kernel
theorem dL_law_1463 : decode cL_law 1463 = .ok (.ireturn, 1) := by decide +kernel
theorem dL_law_1464 : decode cL_law 1464 = .ok (.aload_n 1, 1) := by decide +kernel
theorem dL_law_1465 : decode cL_law 1465 = .ok (.invokevirtual 178, 3) := by decide +kernel
theorem dL_law_1468 : decode cL_law 1468 = .ok (.aload_n 2, 1) := by decide +kernel
theorem dL_law_1469 : decode cL_law 1469 = .ok (.invokevirtual 181, 3) := by decide +kernel
theorem dL_law_1472 : decode cL_law 1472 = .ok (.if_icmp .eq 211, 3) := by decide +kernel
theorem dL_law_1475 : decode cL_law 1475 = .ok (.iconst 0, 1) := by decide +kernel
theorem dL_law_1476 : decode cL_law 1476 = .ok (.ireturn, 1) := by decide +kernel
theorem dL_law_1477 : decode cL_law 1477 = .ok (.aload_n 1, 1) := by decide +kernel
theorem dL_law_1478 : decode cL_law 1478 = .ok (.invokevirtual 182, 3) := by decide +kernel
theorem dL_law_1481 : decode cL_law 1481 = .ok (.aload_n 2, 1) := by decide +kernel
theorem dL_law_1482 : decode cL_law 1482 = .ok (.invokevirtual 185, 3) := by decide +kernel
theorem dL_law_1485 : decode cL_law 1485 = .ok (.if_icmp .eq 198, 3) := by decide +kernel
theorem dL_law_1488 : decode cL_law 1488 = .ok (.iconst 0, 1) := by decide +kernel
theorem dL_law_1489 : decode cL_law 1489 = .ok (.ireturn, 1) := by decide +kernel
theorem dL_law_1490 : decode cL_law 1490 = .ok (.aload_n 1, 1) := by decide +kernel
theorem dL_law_1491 : decode cL_law 1491 = .ok (.invokevirtual 186, 3) := by decide +kernel
theorem dL_law_1494 : decode cL_law 1494 = .ok (.aload_n 2, 1) := by decide +kernel
theorem dL_law_1495 : decode cL_law 1495 = .ok (.invokevirtual 189, 3) := by decide +kernel
theorem dL_law_1498 : decode cL_law 1498 = .ok (.if_icmp .eq 185, 3) := by decide +kernel
theorem dL_law_1501 : decode cL_law 1501 = .ok (.iconst 0, 1) := by decide +kernel
theorem dL_law_1502 : decode cL_law 1502 = .ok (.ireturn, 1) := by decide +kernel
theorem dL_law_1503 : decode cL_law 1503 = .ok (.aload_n 1, 1) := by decide +kernel
theorem dL_law_1504 : decode cL_law 1504 = .ok (.invokevirtual 190, 3) := by decide +kernel
theorem dL_law_1507 : decode cL_law 1507 = .ok (.aload_n 2, 1) := by decide +kernel
theorem dL_law_1508 : decode cL_law 1508 = .ok (.invokevirtual 193, 3) := by decide +kernel
theorem dL_law_1511 : decode cL_law 1511 = .ok (.if_icmp .eq 172, 3) := by decide +kernel
theorem dL_law_1514 : decode cL_law 1514 = .ok (.iconst 0, 1) := by decide +kernel
theorem dL_law_1515 : decode cL_law 1515 = .ok (.ireturn, 1) := by decide +kernel
theorem dL_law_1516 : decode cL_law 1516 = .ok (.aload_n 1, 1) := by decide +kernel
theorem dL_law_1517 : decode cL_law 1517 = .ok (.aload_n 0, 1) := by decide +kernel
theorem dL_law_1518 : decode cL_law 1518 = .ok (.iload 4, 2) := by decide +kernel
theorem dL_law_1520 : decode cL_law 1520 = .ok (.iconst 1, 1) := by decide +kernel
theorem dL_law_1521 : decode cL_law 1521 = .ok (.iadd, 1) := by decide +kernel
theorem dL_law_1522 : decode cL_law 1522 = .ok (.iaload, 1) := by decide +kernel
theorem dL_law_1523 : decode cL_law 1523 = .ok (.aload_n 3, 1) := by decide +kernel
theorem dL_law_1524 : decode cL_law 1524 = .ok (.invokestatic 194, 3) := by decide +kernel
theorem dL_law_1527 : decode cL_law 1527 = .ok (.istore 5, 2) := by decide +kernel
theorem dL_law_1529 : decode cL_law 1529 = .ok (.aload_n 2, 1) := by decide +kernel
theorem dL_law_1530 : decode cL_law 1530 = .ok (.aload_n 0, 1) := by decide +kernel
theorem dL_law_1531 : decode cL_law 1531 = .ok (.iload 4, 2) := by decide +kernel
theorem dL_law_1533 : decode cL_law 1533 = .ok (.iconst 1, 1) := by decide +kernel
theorem dL_law_1534 : decode cL_law 1534 = .ok (.iadd, 1) := by decide +kernel
theorem dL_law_1535 : decode cL_law 1535 = .ok (.iaload, 1) := by decide +kernel
theorem dL_law_1536 : decode cL_law 1536 = .ok (.invokevirtual 196, 3) := by decide +kernel
theorem dL_law_1539 : decode cL_law 1539 = .ok (.istore 6, 2) := by decide +kernel
theorem dL_law_1541 : decode cL_law 1541 = .ok (.aload_n 2, 1) := by decide +kernel
theorem dL_law_1542 : decode cL_law 1542 = .ok (.invokevirtual 94, 3) := by decide +kernel
theorem dL_law_1545 : decode cL_law 1545 = .ok (.iload 5, 2) := by decide +kernel
theorem dL_law_1547 : decode cL_law 1547 = .ok (.if_icmp .eq 5, 3) := by decide +kernel
theorem dL_law_1550 : decode cL_law 1550 = .ok (.iconst 0, 1) := by decide +kernel
theorem dL_law_1551 : decode cL_law 1551 = .ok (.ireturn, 1) := by decide +kernel
theorem dL_law_1552 : decode cL_law 1552 = .ok (.iload 5, 2) := by decide +kernel
theorem dL_law_1554 : decode cL_law 1554 = .ok (.ifCond .ne 15, 3) := by decide +kernel
theorem dL_law_1557 : decode cL_law 1557 = .ok (.aload_n 3, 1) := by decide +kernel
theorem dL_law_1558 : decode cL_law 1558 = .ok (.iconst 0, 1) := by decide +kernel
theorem dL_law_1559 : decode cL_law 1559 = .ok (.laload, 1) := by decide +kernel
theorem dL_law_1560 : decode cL_law 1560 = .ok (.iload 6, 2) := by decide +kernel
theorem dL_law_1562 : decode cL_law 1562 = .ok (.i2l, 1) := by decide +kernel
theorem dL_law_1563 : decode cL_law 1563 = .ok (.lcmp, 1) := by decide +kernel
theorem dL_law_1564 : decode cL_law 1564 = .ok (.ifCond .eq 5, 3) := by decide +kernel
theorem dL_law_1567 : decode cL_law 1567 = .ok (.iconst 0, 1) := by decide +kernel
theorem dL_law_1568 : decode cL_law 1568 = .ok (.ireturn, 1) := by decide +kernel
theorem dL_law_1569 : decode cL_law 1569 = .ok (.goto 114, 3) := by decide +kernel
theorem dL_law_1572 : decode cL_law 1572 = .ok (.aload_n 1, 1) := by decide +kernel
theorem dL_law_1573 : decode cL_law 1573 = .ok (.aload_n 0, 1) := by decide +kernel
theorem dL_law_1574 : decode cL_law 1574 = .ok (.iload 4, 2) := by decide +kernel
theorem dL_law_1576 : decode cL_law 1576 = .ok (.iconst 1, 1) := by decide +kernel
theorem dL_law_1577 : decode cL_law 1577 = .ok (.iadd, 1) := by decide +kernel
theorem dL_law_1578 : decode cL_law 1578 = .ok (.iaload, 1) := by decide +kernel
theorem dL_law_1579 : decode cL_law 1579 = .ok (.aload_n 3, 1) := by decide +kernel
theorem dL_law_1580 : decode cL_law 1580 = .ok (.invokestatic 197, 3) := by decide +kernel
theorem dL_law_1583 : decode cL_law 1583 = .ok (.istore 5, 2) := by decide +kernel
theorem dL_law_1585 : decode cL_law 1585 = .ok (.aload_n 2, 1) := by decide +kernel
theorem dL_law_1586 : decode cL_law 1586 = .ok (.aload_n 0, 1) := by decide +kernel
theorem dL_law_1587 : decode cL_law 1587 = .ok (.iload 4, 2) := by decide +kernel
theorem dL_law_1589 : decode cL_law 1589 = .ok (.iconst 1, 1) := by decide +kernel
theorem dL_law_1590 : decode cL_law 1590 = .ok (.iadd, 1) := by decide +kernel
theorem dL_law_1591 : decode cL_law 1591 = .ok (.iaload, 1) := by decide +kernel
theorem dL_law_1592 : decode cL_law 1592 = .ok (.invokevirtual 199, 3) := by decide +kernel
theorem dL_law_1595 : decode cL_law 1595 = .ok (.istore 6, 2) := by decide +kernel
theorem dL_law_1597 : decode cL_law 1597 = .ok (.aload_n 2, 1) := by decide +kernel
theorem dL_law_1598 : decode cL_law 1598 = .ok (.invokevirtual 94, 3) := by decide +kernel
theorem dL_law_1601 : decode cL_law 1601 = .ok (.iload 5, 2) := by decide +kernel
theorem dL_law_1603 : decode cL_law 1603 = .ok (.if_icmp .eq 5, 3) := by decide +kernel
theorem dL_law_1606 : decode cL_law 1606 = .ok (.iconst 0, 1) := by decide +kernel
theorem dL_law_1607 : decode cL_law 1607 = .ok (.ireturn, 1) := by decide +kernel
theorem dL_law_1608 : decode cL_law 1608 = .ok (.iload 5, 2) := by decide +kernel
theorem dL_law_1610 : decode cL_law 1610 = .ok (.ifCond .ne 15, 3) := by decide +kernel
theorem dL_law_1613 : decode cL_law 1613 = .ok (.aload_n 3, 1) := by decide +kernel
theorem dL_law_1614 : decode cL_law 1614 = .ok (.iconst 0, 1) := by decide +kernel
theorem dL_law_1615 : decode cL_law 1615 = .ok (.laload, 1) := by decide +kernel
theorem dL_law_1616 : decode cL_law 1616 = .ok (.iload 6, 2) := by decide +kernel
theorem dL_law_1618 : decode cL_law 1618 = .ok (.i2l, 1) := by decide +kernel
theorem dL_law_1619 : decode cL_law 1619 = .ok (.lcmp, 1) := by decide +kernel
theorem dL_law_1620 : decode cL_law 1620 = .ok (.ifCond .eq 5, 3) := by decide +kernel
theorem dL_law_1623 : decode cL_law 1623 = .ok (.iconst 0, 1) := by decide +kernel
theorem dL_law_1624 : decode cL_law 1624 = .ok (.ireturn, 1) := by decide +kernel
theorem dL_law_1625 : decode cL_law 1625 = .ok (.goto 58, 3) := by decide +kernel
theorem dL_law_1628 : decode cL_law 1628 = .ok (.aload_n 1, 1) := by decide +kernel
theorem dL_law_1629 : decode cL_law 1629 = .ok (.invokevirtual 200, 3) := by decide +kernel
theorem dL_law_1632 : decode cL_law 1632 = .ok (.dstore 5, 2) := by decide +kernel
theorem dL_law_1634 : decode cL_law 1634 = .ok (.aload_n 2, 1) := by decide +kernel
theorem dL_law_1635 : decode cL_law 1635 = .ok (.invokevirtual 204, 3) := by decide +kernel
theorem dL_law_1638 : decode cL_law 1638 = .ok (.dstore 7, 2) := by decide +kernel
theorem dL_law_1640 : decode cL_law 1640 = .ok (.dload 5, 2) := by decide +kernel
theorem dL_law_1642 : decode cL_law 1642 = .ok (.dload 7, 2) := by decide +kernel
theorem dL_law_1644 : decode cL_law 1644 = .ok (.dcmp .l, 1) := by decide +kernel
theorem dL_law_1645 : decode cL_law 1645 = .ok (.ifCond .eq 21, 3) := by decide +kernel
theorem dL_law_1648 : decode cL_law 1648 = .ok (.dload 5, 2) := by decide +kernel
theorem dL_law_1650 : decode cL_law 1650 = .ok (.dload 5, 2) := by decide +kernel
theorem dL_law_1652 : decode cL_law 1652 = .ok (.dcmp .l, 1) := by decide +kernel
theorem dL_law_1653 : decode cL_law 1653 = .ok (.ifCond .eq 11, 3) := by decide +kernel
theorem dL_law_1656 : decode cL_law 1656 = .ok (.dload 7, 2) := by decide +kernel
theorem dL_law_1658 : decode cL_law 1658 = .ok (.dload 7, 2) := by decide +kernel
theorem dL_law_1660 : decode cL_law 1660 = .ok (.dcmp .l, 1) := by decide +kernel
theorem dL_law_1661 : decode cL_law 1661 = .ok (.ifCond .ne 5, 3) := by decide +kernel
theorem dL_law_1664 : decode cL_law 1664 = .ok (.iconst 0, 1) := by decide +kernel
theorem dL_law_1665 : decode cL_law 1665 = .ok (.ireturn, 1) := by decide +kernel
theorem dL_law_1666 : decode cL_law 1666 = .ok (.goto 17, 3) := by decide +kernel
theorem dL_law_1669 : decode cL_law 1669 = .ok (.aload_n 1, 1) := by decide +kernel
theorem dL_law_1670 : decode cL_law 1670 = .ok (.invokevirtual 205, 3) := by decide +kernel
theorem dL_law_1673 : decode cL_law 1673 = .ok (.aload_n 2, 1) := by decide +kernel
theorem dL_law_1674 : decode cL_law 1674 = .ok (.invokevirtual 209, 3) := by decide +kernel
theorem dL_law_1677 : decode cL_law 1677 = .ok (.lcmp, 1) := by decide +kernel
theorem dL_law_1678 : decode cL_law 1678 = .ok (.ifCond .eq 5, 3) := by decide +kernel
theorem dL_law_1681 : decode cL_law 1681 = .ok (.iconst 0, 1) := by decide +kernel
theorem dL_law_1682 : decode cL_law 1682 = .ok (.ireturn, 1) := by decide +kernel
theorem dL_law_1683 : decode cL_law 1683 = .ok (.iinc 4 4, 3) := by decide +kernel
theorem dL_law_1686 : decode cL_law 1686 = .ok (.goto (-1663), 3) := by decide +kernel
theorem dL_law_1689 : decode cL_law 1689 = .ok (.iconst 1, 1) := by decide +kernel
theorem dL_law_1690 : decode cL_law 1690 = .ok (.ireturn, 1) := by decide +kernel
