set_option maxRecDepth 20000 in
theorem ggX0_init_X2_init : GoodIn wsX0_init wsX2_init := goodIn_r _ [17, 18, 2, 3, 9, 19, 20, 21, 22] (by decide +kernel) (by decide +kernel)
set_option maxRecDepth 20000 in
theorem gX0_init_X2_init_n11 : GoodIn wsX0_init (wsX2_init) := ggX0_init_X2_init
theorem dX0_init_0 : decode cX0_init 0 = .ok (.aload_n 0, 1) := by decide +kernel
theorem dX0_init_1 : decode cX0_init 1 = .ok (.invokespecial 3, 3) := by decide +kernel
theorem dX0_init_4 : decode cX0_init 4 = .ok (.aload_n 0, 1) := by decide +kernel
theorem dX0_init_5 : decode cX0_init 5 = .ok (.new 9, 3) := by decide +kernel
theorem dX0_init_8 : decode cX0_init 8 = .ok (.dup, 1) := by decide +kernel
theorem dX0_init_9 : decode cX0_init 9 = .ok (.invokespecial 11, 3) := by decide +kernel
theorem dX0_init_12 : decode cX0_init 12 = .ok (.putfield 12, 3) := by decide +kernel
theorem dX0_init_15 : decode cX0_init 15 = .ok (.aload_n 0, 1) := by decide +kernel
theorem dX0_init_16 : decode cX0_init 16 = .ok (.iconst (-1), 1) := by decide +kernel
theorem dX0_init_17 : decode cX0_init 17 = .ok (.putfield 18, 3) := by decide +kernel
theorem dX0_init_20 : decode cX0_init 20 = .ok (.aload_n 0, 1) := by decide +kernel
theorem dX0_init_21 : decode cX0_init 21 = .ok (.bipush 20, 2) := by decide +kernel
theorem dX0_init_23 : decode cX0_init 23 = .ok (.newarray .int, 2) := by decide +kernel
theorem dX0_init_25 : decode cX0_init 25 = .ok (.putfield 22, 3) := by decide +kernel
theorem dX0_init_28 : decode cX0_init 28 = .ok (.aload_n 0, 1) := by decide +kernel
theorem dX0_init_29 : decode cX0_init 29 = .ok (.bipush 40, 2) := by decide +kernel
theorem dX0_init_31 : decode cX0_init 31 = .ok (.newarray .boolean, 2) := by decide +kernel
theorem dX0_init_33 : decode cX0_init 33 = .ok (.putfield 26, 3) := by decide +kernel
theorem dX0_init_36 : decode cX0_init 36 = .ok (.aload_n 0, 1) := by decide +kernel
theorem dX0_init_37 : decode cX0_init 37 = .ok (.bipush 10, 2) := by decide +kernel
theorem dX0_init_39 : decode cX0_init 39 = .ok (.newarray .boolean, 2) := by decide +kernel
theorem dX0_init_41 : decode cX0_init 41 = .ok (.putfield 30, 3) := by decide +kernel
theorem dX0_init_44 : decode cX0_init 44 = .ok (.aload_n 0, 1) := by decide +kernel
theorem dX0_init_45 : decode cX0_init 45 = .ok (.iconst (-1), 1) := by decide +kernel
theorem dX0_init_46 : decode cX0_init 46 = .ok (.putfield 33, 3) := by decide +kernel
theorem dX0_init_49 : decode cX0_init 49 = .ok (.aload_n 0, 1) := by decide +kernel
theorem dX0_init_50 : decode cX0_init 50 = .ok (.aload_n 1, 1) := by decide +kernel
theorem dX0_init_51 : decode cX0_init 51 = .ok (.putfield 36, 3) := by decide +kernel
theorem dX0_init_54 : decode cX0_init 54 = .ok (.return_, 1) := by decide +kernel
set_option maxRecDepth 20000 in
theorem ggX0_startLike_X2_copyFrom : GoodIn wsX0_startLike wsX2_copyFrom := goodIn_r _ [11, 12, 13, 14, 15, 16, 17, 33, 34] (by decide +kernel) (by decide +kernel)
set_option maxRecDepth 20000 in
theorem gX0_startLike_X2_copyFrom : GoodIn wsX0_startLike (wsV RX0 46 RX2 yX2_copyFrom wsX2_copyFrom) := goodIn_app (goodIn_of _ (by decide +kernel)) ggX0_startLike_X2_copyFrom
theorem dX0_startLike_0 : decode cX0_startLike 0 = .ok (.aload_n 0, 1) := by decide +kernel
theorem dX0_startLike_1 : decode cX0_startLike 1 = .ok (.aload_n 1, 1) := by decide +kernel
theorem dX0_startLike_2 : decode cX0_startLike 2 = .ok (.getfield 40, 3) := by decide +kernel
theorem dX0_startLike_5 : decode cX0_startLike 5 = .ok (.putfield 40, 3) := by decide +kernel
theorem dX0_startLike_8 : decode cX0_startLike 8 = .ok (.aload_n 0, 1) := by decide +kernel
theorem dX0_startLike_9 : decode cX0_startLike 9 = .ok (.aload_n 1, 1) := by decide +kernel
theorem dX0_startLike_10 : decode cX0_startLike 10 = .ok (.getfield 43, 3) := by decide +kernel
theorem dX0_startLike_13 : decode cX0_startLike 13 = .ok (.putfield 43, 3) := by decide +kernel
theorem dX0_startLike_16 : decode cX0_startLike 16 = .ok (.aload_n 0, 1) := by decide +kernel
theorem dX0_startLike_17 : decode cX0_startLike 17 = .ok (.getfield 12, 3) := by decide +kernel
theorem dX0_startLike_20 : decode cX0_startLike 20 = .ok (.aload_n 1, 1) := by decide +kernel
theorem dX0_startLike_21 : decode cX0_startLike 21 = .ok (.getfield 12, 3) := by decide +kernel
theorem dX0_startLike_24 : decode cX0_startLike 24 = .ok (.invokevirtual 46, 3) := by decide +kernel
theorem dX0_startLike_27 : decode cX0_startLike 27 = .ok (.aload_n 0, 1) := by decide +kernel
theorem dX0_startLike_28 : decode cX0_startLike 28 = .ok (.iload_n 2, 1) := by decide +kernel
theorem dX0_startLike_29 : decode cX0_startLike 29 = .ok (.putfield 33, 3) := by decide +kernel
theorem dX0_startLike_32 : decode cX0_startLike 32 = .ok (.aload_n 0, 1) := by decide +kernel
theorem dX0_startLike_33 : decode cX0_startLike 33 = .ok (.iconst 0, 1) := by decide +kernel
theorem dX0_startLike_34 : decode cX0_startLike 34 = .ok (.putfield 50, 3) := by decide +kernel
theorem dX0_startLike_37 : decode cX0_startLike 37 = .ok (.aload_n 0, 1) := by decide +kernel
theorem dX0_startLike_38 : decode cX0_startLike 38 = .ok (.iconst 0, 1) := by decide +kernel
theorem dX0_startLike_39 : decode cX0_startLike 39 = .ok (.putfield 53, 3) := by decide +kernel
theorem dX0_startLike_42 : decode cX0_startLike 42 = .ok (.return_, 1) := by decide +kernel
theorem dX0_isUnderway_0 : decode cX0_isUnderway 0 = .ok (.aload_n 0, 1) := by decide +kernel
theorem dX0_isUnderway_1 : decode cX0_isUnderway 1 = .ok (.getfield 18, 3) := by decide +kernel
theorem dX0_isUnderway_4 : decode cX0_isUnderway 4 = .ok (.iconst (-1), 1) := by decide +kernel
theorem dX0_isUnderway_5 : decode cX0_isUnderway 5 = .ok (.if_icmp .eq 7, 3) := by decide +kernel
theorem dX0_isUnderway_8 : decode cX0_isUnderway 8 = .ok (.iconst 1, 1) := by decide +kernel
theorem dX0_isUnderway_9 : decode cX0_isUnderway 9 = .ok (.goto 4, 3) := by decide +kernel
theorem dX0_isUnderway_12 : decode cX0_isUnderway 12 = .ok (.iconst 0, 1) := by decide +kernel
theorem dX0_isUnderway_13 : decode cX0_isUnderway 13 = .ok (.ireturn, 1) := by decide +kernel
set_option maxRecDepth 20000 in
theorem ggX0_hasTried_X3_isEnd : GoodIn wsX0_hasTried wsX3_isEnd := goodIn_r _ [4] (by decide +kernel) (by decide +kernel)
set_option maxRecDepth 20000 in
theorem gX0_hasTried_X3_isEnd_n56 : GoodIn wsX0_hasTried (wsX3_isEnd) := ggX0_hasTried_X3_isEnd
theorem dX0_hasTried_0 : decode cX0_hasTried 0 = .ok (.iload_n 1, 1) := by decide +kernel
theorem dX0_hasTried_1 : decode cX0_hasTried 1 = .ok (.invokestatic 56, 3) := by decide +kernel
theorem dX0_hasTried_4 : decode cX0_hasTried 4 = .ok (.ifCond .eq 16, 3) := by decide +kernel
theorem dX0_hasTried_7 : decode cX0_hasTried 7 = .ok (.aload_n 0, 1) := by decide +kernel
theorem dX0_hasTried_8 : decode cX0_hasTried 8 = .ok (.getfield 26, 3) := by decide +kernel
theorem dX0_hasTried_11 : decode cX0_hasTried 11 = .ok (.iload_n 1, 1) := by decide +kernel
theorem dX0_hasTried_12 : decode cX0_hasTried 12 = .ok (.baload, 1) := by decide +kernel
theorem dX0_hasTried_13 : decode cX0_hasTried 13 = .ok (.ifCond .eq 7, 3) := by decide +kernel
theorem dX0_hasTried_16 : decode cX0_hasTried 16 = .ok (.iconst 1, 1) := by decide +kernel
theorem dX0_hasTried_17 : decode cX0_hasTried 17 = .ok (.goto 4, 3) := by decide +kernel
theorem dX0_hasTried_20 : decode cX0_hasTried 20 = .ok (.iconst 0, 1) := by decide +kernel
theorem dX0_hasTried_21 : decode cX0_hasTried 21 = .ok (.ireturn, 1) := by decide +kernel
set_option maxRecDepth 20000 in
theorem ggX0_begin_X0_forget : GoodIn wsX0_begin wsX0_forget := goodIn_r _ [10] (by decide +kernel) (by decide +kernel)
set_option maxRecDepth 20000 in
theorem gX0_begin_X0_forget : GoodIn wsX0_begin (va_wsS RX0 60 yX0_forget wsX0_forget) := goodIn_app (goodIn_of _ (by decide +kernel)) ggX0_begin_X0_forget
set_option maxRecDepth 20000 in
theorem ggX0_begin_X0_endErrand : GoodIn wsX0_begin wsX0_endErrand := goodIn_r _ [14, 4, 3, 15, 16, 17, 18, 19, 20, 21, 22, 23, 24, 25, 26, 27, 28, 29] (by decide +kernel) (by decide +kernel)
set_option maxRecDepth 20000 in
theorem gX0_begin_X0_endErrand : GoodIn wsX0_begin (wsV RX0 70 RX0 yX0_endErrand wsX0_endErrand) := goodIn_app (goodIn_of _ (by decide +kernel)) ggX0_begin_X0_endErrand
theorem dX0_begin_0 : decode cX0_begin 0 = .ok (.aload_n 0, 1) := by decide +kernel
theorem dX0_begin_1 : decode cX0_begin 1 = .ok (.getfield 26, 3) := by decide +kernel
theorem dX0_begin_4 : decode cX0_begin 4 = .ok (.invokestatic 60, 3) := by decide +kernel
theorem dX0_begin_7 : decode cX0_begin 7 = .ok (.aload_n 0, 1) := by decide +kernel
theorem dX0_begin_8 : decode cX0_begin 8 = .ok (.getfield 30, 3) := by decide +kernel
theorem dX0_begin_11 : decode cX0_begin 11 = .ok (.invokestatic 60, 3) := by decide +kernel
theorem dX0_begin_14 : decode cX0_begin 14 = .ok (.aload_n 0, 1) := by decide +kernel
theorem dX0_begin_15 : decode cX0_begin 15 = .ok (.iconst 0, 1) := by decide +kernel
theorem dX0_begin_16 : decode cX0_begin 16 = .ok (.putfield 64, 3) := by decide +kernel
theorem dX0_begin_19 : decode cX0_begin 19 = .ok (.aload_n 0, 1) := by decide +kernel
theorem dX0_begin_20 : decode cX0_begin 20 = .ok (.iload_n 1, 1) := by decide +kernel
theorem dX0_begin_21 : decode cX0_begin 21 = .ok (.putfield 18, 3) := by decide +kernel
theorem dX0_begin_24 : decode cX0_begin 24 = .ok (.aload_n 0, 1) := by decide +kernel
theorem dX0_begin_25 : decode cX0_begin 25 = .ok (.getfield 40, 3) := by decide +kernel
theorem dX0_begin_28 : decode cX0_begin 28 = .ok (.aload_n 0, 1) := by decide +kernel
theorem dX0_begin_29 : decode cX0_begin 29 = .ok (.getfield 18, 3) := by decide +kernel
theorem dX0_begin_32 : decode cX0_begin 32 = .ok (.if_icmp .ne 17, 3) := by decide +kernel
theorem dX0_begin_35 : decode cX0_begin 35 = .ok (.aload_n 0, 1) := by decide +kernel
theorem dX0_begin_36 : decode cX0_begin 36 = .ok (.dup, 1) := by decide +kernel
theorem dX0_begin_37 : decode cX0_begin 37 = .ok (.getfield 67, 3) := by decide +kernel
theorem dX0_begin_40 : decode cX0_begin 40 = .ok (.iconst 1, 1) := by decide +kernel
theorem dX0_begin_41 : decode cX0_begin 41 = .ok (.iadd, 1) := by decide +kernel
theorem dX0_begin_42 : decode cX0_begin 42 = .ok (.putfield 67, 3) := by decide +kernel
theorem dX0_begin_45 : decode cX0_begin 45 = .ok (.aload_n 0, 1) := by decide +kernel
theorem dX0_begin_46 : decode cX0_begin 46 = .ok (.invokevirtual 70, 3) := by decide +kernel
theorem dX0_begin_49 : decode cX0_begin 49 = .ok (.return_, 1) := by decide +kernel
theorem dX0_endErrand_0 : decode cX0_endErrand 0 = .ok (.aload_n 0, 1) := by decide +kernel
theorem dX0_endErrand_1 : decode cX0_endErrand 1 = .ok (.iconst (-1), 1) := by decide +kernel
theorem dX0_endErrand_2 : decode cX0_endErrand 2 = .ok (.putfield 18, 3) := by decide +kernel
theorem dX0_endErrand_5 : decode cX0_endErrand 5 = .ok (.aload_n 0, 1) := by decide +kernel
theorem dX0_endErrand_6 : decode cX0_endErrand 6 = .ok (.iconst 0, 1) := by decide +kernel
theorem dX0_endErrand_7 : decode cX0_endErrand 7 = .ok (.putfield 64, 3) := by decide +kernel
theorem dX0_endErrand_10 : decode cX0_endErrand 10 = .ok (.return_, 1) := by decide +kernel
set_option maxRecDepth 20000 in
theorem ggX0_step_X0_rememberedEnd : GoodIn wsX0_step wsX0_rememberedEnd := goodIn_r _ [10, 11, 3, 12, 4, 13, 14, 15, 16, 17, 18, 19, 20, 21, 22, 23, 24, 25, 26, 27, 28, 29, 30, 31, 32, 33, 34, 35, 36, 9, 37, 38, 39, 40, 41, 121, 122, 123, 124, 125, 126, 127, 128, 129, 130, 131, 132, 133, 134, 135, 136, 137, 138, 139, 140, 141, 142, 143, 144, 145] (by decide +kernel) (by decide +kernel)
set_option maxRecDepth 20000 in
theorem gX0_step_X0_rememberedEnd : GoodIn wsX0_step (wsV RX0 73 RX0 yX0_rememberedEnd wsX0_rememberedEnd) := goodIn_app (goodIn_of _ (by decide +kernel)) ggX0_step_X0_rememberedEnd
set_option maxRecDepth 20000 in
theorem ggX0_step_X0_askedEnd : GoodIn wsX0_step wsX0_askedEnd := goodIn_r _ [45, 11, 3, 46, 47, 48, 49, 4, 12, 50, 30, 31, 26, 32, 33, 51, 52, 53, 54, 55, 56, 28, 57, 58, 59, 60, 61, 62, 63, 64, 29, 65, 66, 67, 68, 69, 70, 71, 72, 40, 73, 74, 75, 76, 77, 78, 16, 79, 19, 18, 20, 21, 22, 34, 35, 36, 9, 37, 38, 39, 41, 121, 122, 123, 124, 125, 126, 127, 128, 129, 130, 131, 132, 133, 134, 135, 138, 139, 140, 141, 142, 143, 144, 145, 136, 137] (by decide +kernel) (by decide +kernel)
set_option maxRecDepth 20000 in
theorem gX0_step_X0_askedEnd : GoodIn wsX0_step (wsV RX0 77 RX0 yX0_askedEnd wsX0_askedEnd) := goodIn_app (goodIn_of _ (by decide +kernel)) ggX0_step_X0_askedEnd
set_option maxRecDepth 20000 in
theorem ggX0_step_X0_firstUntried : GoodIn wsX0_step wsX0_firstUntried := goodIn_r _ [83, 3, 34, 35, 36, 9, 37, 11, 38, 39, 40, 41, 121, 122, 123, 124, 125, 126, 127, 128, 129, 130, 131, 132, 133, 134, 135, 138, 139, 140, 141, 142, 143, 144, 145] (by decide +kernel) (by decide +kernel)
set_option maxRecDepth 20000 in
theorem gX0_step_X0_firstUntried : GoodIn wsX0_step (wsV RX0 80 RX0 yX0_firstUntried wsX0_firstUntried) := goodIn_app (goodIn_of _ (by decide +kernel)) ggX0_step_X0_firstUntried
set_option maxRecDepth 20000 in
theorem ggX0_step_X0_take : GoodIn wsX0_step wsX0_take := goodIn_r _ [87, 11, 1, 38, 88, 89, 3, 90, 91, 92, 26, 93, 94, 39, 40, 41, 95, 96, 97, 98, 71, 72, 73, 121, 122, 123, 124, 125, 126, 127, 128, 129, 130, 131, 132, 133, 134, 135, 138, 139, 140, 141, 142, 143, 144, 145] (by decide +kernel) (by decide +kernel)
set_option maxRecDepth 20000 in
theorem gX0_step_X0_take : GoodIn wsX0_step (wsV RX0 83 RX0 yX0_take wsX0_take) := goodIn_app (goodIn_of _ (by decide +kernel)) ggX0_step_X0_take
set_option maxRecDepth 20000 in
theorem ggX0_step_X0_doubleBack : GoodIn wsX0_step wsX0_doubleBack := goodIn_r _ [102, 1, 88, 11, 89, 103, 3, 95, 96, 97, 26, 98, 71, 39, 40, 41, 72, 73, 121, 122, 123, 124, 125, 126, 127, 128, 129, 130, 131, 132, 133, 134, 135, 138, 139, 140, 141, 142, 143, 144, 145] (by decide +kernel) (by decide +kernel)
set_option maxRecDepth 20000 in
theorem gX0_step_X0_doubleBack : GoodIn wsX0_step (wsV RX0 87 RX0 yX0_doubleBack wsX0_doubleBack) := goodIn_app (goodIn_of _ (by decide +kernel)) ggX0_step_X0_doubleBack
set_option maxRecDepth 20000 in
theorem ggX0_step_X0_endErrand : GoodIn wsX0_step wsX0_endErrand := goodIn_r _ [107, 4, 1, 121, 122, 123, 124, 125, 126, 127, 128, 129, 130, 131, 132, 133, 134, 135] (by decide +kernel) (by decide +kernel)
set_option maxRecDepth 20000 in
theorem gX0_step_X0_endErrand : GoodIn wsX0_step (wsV RX0 70 RX0 yX0_endErrand wsX0_endErrand) := goodIn_app (goodIn_of _ (by decide +kernel)) ggX0_step_X0_endErrand
set_option maxRecDepth 20000 in
theorem ggX0_step_X0_rememberWay : GoodIn wsX0_step wsX0_rememberWay := goodIn_r _ [111, 1, 12, 4, 88, 72, 40, 73, 74, 75, 112, 113, 114, 16, 115, 18, 19, 116, 117, 118, 119, 20, 21, 22, 120, 77, 78, 79, 121, 122, 123, 124, 125, 126, 127, 128, 129, 130, 131, 132, 133, 134, 135, 136, 137] (by decide +kernel) (by decide +kernel)
set_option maxRecDepth 20000 in
theorem gX0_step_X0_rememberWay : GoodIn wsX0_step (wsV RX0 90 RX0 yX0_rememberWay wsX0_rememberWay) := goodIn_app (goodIn_of _ (by decide +kernel)) ggX0_step_X0_rememberWay
theorem dX0_step_0 : decode cX0_step 0 = .ok (.aload_n 0, 1) := by decide +kernel
theorem dX0_step_1 : decode cX0_step 1 = .ok (.invokevirtual 73, 3) := by decide +kernel
theorem dX0_step_4 : decode cX0_step 4 = .ok (.istore_n 1, 1) := by decide +kernel
theorem dX0_step_5 : decode cX0_step 5 = .ok (.iload_n 1, 1) := by decide +kernel
theorem dX0_step_6 : decode cX0_step 6 = .ok (.iconst (-1), 1) := by decide +kernel
theorem dX0_step_7 : decode cX0_step 7 = .ok (.if_icmp .ne 8, 3) := by decide +kernel
theorem dX0_step_10 : decode cX0_step 10 = .ok (.aload_n 0, 1) := by decide +kernel
theorem dX0_step_11 : decode cX0_step 11 = .ok (.invokevirtual 77, 3) := by decide +kernel
theorem dX0_step_14 : decode cX0_step 14 = .ok (.istore_n 1, 1) := by decide +kernel
theorem dX0_step_15 : decode cX0_step 15 = .ok (.iload_n 1, 1) := by decide +kernel
theorem dX0_step_16 : decode cX0_step 16 = .ok (.iconst (-1), 1) := by decide +kernel
theorem dX0_step_17 : decode cX0_step 17 = .ok (.if_icmp .ne 8, 3) := by decide +kernel
theorem dX0_step_20 : decode cX0_step 20 = .ok (.aload_n 0, 1) := by decide +kernel
theorem dX0_step_21 : decode cX0_step 21 = .ok (.invokevirtual 80, 3) := by decide +kernel
theorem dX0_step_24 : decode cX0_step 24 = .ok (.istore_n 1, 1) := by decide +kernel
theorem dX0_step_25 : decode cX0_step 25 = .ok (.iload_n 1, 1) := by decide +kernel
theorem dX0_step_26 : decode cX0_step 26 = .ok (.iconst (-1), 1) := by decide +kernel
theorem dX0_step_27 : decode cX0_step 27 = .ok (.if_icmp .eq 11, 3) := by decide +kernel
theorem dX0_step_30 : decode cX0_step 30 = .ok (.aload_n 0, 1) := by decide +kernel
theorem dX0_step_31 : decode cX0_step 31 = .ok (.iload_n 1, 1) := by decide +kernel
theorem dX0_step_32 : decode cX0_step 32 = .ok (.invokevirtual 83, 3) := by decide +kernel
theorem dX0_step_35 : decode cX0_step 35 = .ok (.goto 33, 3) := by decide +kernel
theorem dX0_step_38 : decode cX0_step 38 = .ok (.aload_n 0, 1) := by decide +kernel
theorem dX0_step_39 : decode cX0_step 39 = .ok (.getfield 64, 3) := by decide +kernel
theorem dX0_step_42 : decode cX0_step 42 = .ok (.ifCond .le 10, 3) := by decide +kernel
theorem dX0_step_45 : decode cX0_step 45 = .ok (.aload_n 0, 1) := by decide +kernel
theorem dX0_step_46 : decode cX0_step 46 = .ok (.invokevirtual 87, 3) := by decide +kernel
theorem dX0_step_49 : decode cX0_step 49 = .ok (.goto 19, 3) := by decide +kernel
theorem dX0_step_52 : decode cX0_step 52 = .ok (.aload_n 0, 1) := by decide +kernel
theorem dX0_step_53 : decode cX0_step 53 = .ok (.dup, 1) := by decide +kernel
theorem dX0_step_54 : decode cX0_step 54 = .ok (.getfield 53, 3) := by decide +kernel
theorem dX0_step_57 : decode cX0_step 57 = .ok (.iconst 1, 1) := by decide +kernel
theorem dX0_step_58 : decode cX0_step 58 = .ok (.iadd, 1) := by decide +kernel
theorem dX0_step_59 : decode cX0_step 59 = .ok (.putfield 53, 3) := by decide +kernel
theorem dX0_step_62 : decode cX0_step 62 = .ok (.aload_n 0, 1) := by decide +kernel
theorem dX0_step_63 : decode cX0_step 63 = .ok (.invokevirtual 70, 3) := by decide +kernel
theorem dX0_step_66 : decode cX0_step 66 = .ok (.iconst 0, 1) := by decide +kernel
theorem dX0_step_67 : decode cX0_step 67 = .ok (.ireturn, 1) := by decide +kernel
theorem dX0_step_68 : decode cX0_step 68 = .ok (.aload_n 0, 1) := by decide +kernel
theorem dX0_step_69 : decode cX0_step 69 = .ok (.getfield 40, 3) := by decide +kernel
theorem dX0_step_72 : decode cX0_step 72 = .ok (.aload_n 0, 1) := by decide +kernel
theorem dX0_step_73 : decode cX0_step 73 = .ok (.getfield 18, 3) := by decide +kernel
theorem dX0_step_76 : decode cX0_step 76 = .ok (.if_icmp .ne 21, 3) := by decide +kernel
theorem dX0_step_79 : decode cX0_step 79 = .ok (.aload_n 0, 1) := by decide +kernel
theorem dX0_step_80 : decode cX0_step 80 = .ok (.invokevirtual 90, 3) := by decide +kernel
theorem dX0_step_83 : decode cX0_step 83 = .ok (.aload_n 0, 1) := by decide +kernel
theorem dX0_step_84 : decode cX0_step 84 = .ok (.dup, 1) := by decide +kernel
theorem dX0_step_85 : decode cX0_step 85 = .ok (.getfield 67, 3) := by decide +kernel
theorem dX0_step_88 : decode cX0_step 88 = .ok (.iconst 1, 1) := by decide +kernel
theorem dX0_step_89 : decode cX0_step 89 = .ok (.iadd, 1) := by decide +kernel
theorem dX0_step_90 : decode cX0_step 90 = .ok (.putfield 67, 3) := by decide +kernel
theorem dX0_step_93 : decode cX0_step 93 = .ok (.aload_n 0, 1) := by decide +kernel
theorem dX0_step_94 : decode cX0_step 94 = .ok (.invokevirtual 70, 3) := by decide +kernel
theorem dX0_step_97 : decode cX0_step 97 = .ok (.iconst 1, 1) := by decide +kernel
theorem dX0_step_98 : decode cX0_step 98 = .ok (.ireturn, 1) := by decide +kernel
set_option maxRecDepth 20000 in
theorem ggX0_canTake_X3_isEnd : GoodIn wsX0_canTake wsX3_isEnd := goodIn_r _ [5] (by decide +kernel) (by decide +kernel)
set_option maxRecDepth 20000 in
theorem gX0_canTake_X3_isEnd_n56 : GoodIn wsX0_canTake (wsX3_isEnd) := ggX0_canTake_X3_isEnd
theorem dX0_canTake_0 : decode cX0_canTake 0 = .ok (.iload_n 1, 1) := by decide +kernel
theorem dX0_canTake_1 : decode cX0_canTake 1 = .ok (.invokestatic 56, 3) := by decide +kernel
theorem dX0_canTake_4 : decode cX0_canTake 4 = .ok (.ifCond .eq 28, 3) := by decide +kernel
theorem dX0_canTake_7 : decode cX0_canTake 7 = .ok (.aload_n 0, 1) := by decide +kernel
theorem dX0_canTake_8 : decode cX0_canTake 8 = .ok (.getfield 36, 3) := by decide +kernel
theorem dX0_canTake_11 : decode cX0_canTake 11 = .ok (.getfield 93, 3) := by decide +kernel
theorem dX0_canTake_14 : decode cX0_canTake 14 = .ok (.iload_n 1, 1) := by decide +kernel
theorem dX0_canTake_15 : decode cX0_canTake 15 = .ok (.baload, 1) := by decide +kernel
theorem dX0_canTake_16 : decode cX0_canTake 16 = .ok (.ifCond .eq 16, 3) := by decide +kernel
theorem dX0_canTake_19 : decode cX0_canTake 19 = .ok (.aload_n 0, 1) := by decide +kernel
theorem dX0_canTake_20 : decode cX0_canTake 20 = .ok (.getfield 26, 3) := by decide +kernel
theorem dX0_canTake_23 : decode cX0_canTake 23 = .ok (.iload_n 1, 1) := by decide +kernel
theorem dX0_canTake_24 : decode cX0_canTake 24 = .ok (.baload, 1) := by decide +kernel
theorem dX0_canTake_25 : decode cX0_canTake 25 = .ok (.ifCond .ne 7, 3) := by decide +kernel
theorem dX0_canTake_28 : decode cX0_canTake 28 = .ok (.iconst 1, 1) := by decide +kernel
theorem dX0_canTake_29 : decode cX0_canTake 29 = .ok (.goto 4, 3) := by decide +kernel
theorem dX0_canTake_32 : decode cX0_canTake 32 = .ok (.iconst 0, 1) := by decide +kernel
theorem dX0_canTake_33 : decode cX0_canTake 33 = .ok (.ireturn, 1) := by decide +kernel
set_option maxRecDepth 20000 in
theorem ggX0_rememberedEnd_X2_exitFor : GoodIn wsX0_rememberedEnd wsX2_exitFor := goodIn_r _ [9, 10, 11, 12, 13, 8, 14, 50, 51] (by decide +kernel) (by decide +kernel)
set_option maxRecDepth 20000 in
theorem gX0_rememberedEnd_X2_exitFor : GoodIn wsX0_rememberedEnd (wsV RX0 98 RX2 yX2_exitFor wsX2_exitFor) := goodIn_app (goodIn_of _ (by decide +kernel)) ggX0_rememberedEnd_X2_exitFor
set_option maxRecDepth 20000 in
theorem ggX0_rememberedEnd_X1_endAt : GoodIn wsX0_rememberedEnd wsX1_endAt := goodIn_r _ [19, 20, 21, 22, 23, 18, 24, 25, 52, 53, 54, 55, 56, 57, 58, 59] (by decide +kernel) (by decide +kernel)
set_option maxRecDepth 20000 in
theorem gX0_rememberedEnd_X1_endAt : GoodIn wsX0_rememberedEnd (wsV RX0 102 RX1 yX1_endAt wsX1_endAt) := goodIn_app (goodIn_of _ (by decide +kernel)) ggX0_rememberedEnd_X1_endAt
set_option maxRecDepth 20000 in
theorem ggX0_rememberedEnd_X0_canTake : GoodIn wsX0_rememberedEnd wsX0_canTake := goodIn_r _ [30, 1, 31, 32, 33, 34, 35, 36, 37, 38, 39, 40, 41, 42, 43, 44, 45, 46, 47, 48, 49, 52, 53, 54, 55, 56, 57, 58, 59] (by decide +kernel) (by decide +kernel)
set_option maxRecDepth 20000 in
theorem gX0_rememberedEnd_X0_canTake : GoodIn wsX0_rememberedEnd (wsV RX0 105 RX0 yX0_canTake wsX0_canTake) := goodIn_app (goodIn_of _ (by decide +kernel)) ggX0_rememberedEnd_X0_canTake
theorem dX0_rememberedEnd_0 : decode cX0_rememberedEnd 0 = .ok (.aload_n 0, 1) := by decide +kernel
theorem dX0_rememberedEnd_1 : decode cX0_rememberedEnd 1 = .ok (.getfield 36, 3) := by decide +kernel
theorem dX0_rememberedEnd_4 : decode cX0_rememberedEnd 4 = .ok (.aload_n 0, 1) := by decide +kernel
theorem dX0_rememberedEnd_5 : decode cX0_rememberedEnd 5 = .ok (.getfield 40, 3) := by decide +kernel
theorem dX0_rememberedEnd_8 : decode cX0_rememberedEnd 8 = .ok (.aload_n 0, 1) := by decide +kernel
theorem dX0_rememberedEnd_9 : decode cX0_rememberedEnd 9 = .ok (.getfield 12, 3) := by decide +kernel
theorem dX0_rememberedEnd_12 : decode cX0_rememberedEnd 12 = .ok (.aload_n 0, 1) := by decide +kernel
theorem dX0_rememberedEnd_13 : decode cX0_rememberedEnd 13 = .ok (.getfield 18, 3) := by decide +kernel
theorem dX0_rememberedEnd_16 : decode cX0_rememberedEnd 16 = .ok (.aload_n 0, 1) := by decide +kernel
theorem dX0_rememberedEnd_17 : decode cX0_rememberedEnd 17 = .ok (.getfield 40, 3) := by decide +kernel
theorem dX0_rememberedEnd_20 : decode cX0_rememberedEnd 20 = .ok (.invokevirtual 98, 3) := by decide +kernel
theorem dX0_rememberedEnd_23 : decode cX0_rememberedEnd 23 = .ok (.invokevirtual 102, 3) := by decide +kernel
theorem dX0_rememberedEnd_26 : decode cX0_rememberedEnd 26 = .ok (.istore_n 1, 1) := by decide +kernel
theorem dX0_rememberedEnd_27 : decode cX0_rememberedEnd 27 = .ok (.aload_n 0, 1) := by decide +kernel
theorem dX0_rememberedEnd_28 : decode cX0_rememberedEnd 28 = .ok (.iload_n 1, 1) := by decide +kernel
theorem dX0_rememberedEnd_29 : decode cX0_rememberedEnd 29 = .ok (.invokevirtual 105, 3) := by decide +kernel
theorem dX0_rememberedEnd_32 : decode cX0_rememberedEnd 32 = .ok (.ifCond .eq 7, 3) := by decide +kernel
theorem dX0_rememberedEnd_35 : decode cX0_rememberedEnd 35 = .ok (.iload_n 1, 1) := by decide +kernel
theorem dX0_rememberedEnd_36 : decode cX0_rememberedEnd 36 = .ok (.goto 4, 3) := by decide +kernel
theorem dX0_rememberedEnd_39 : decode cX0_rememberedEnd 39 = .ok (.iconst (-1), 1) := by decide +kernel
theorem dX0_rememberedEnd_40 : decode cX0_rememberedEnd 40 = .ok (.ireturn, 1) := by decide +kernel
set_option maxRecDepth 20000 in
theorem ggX0_askedEnd_X1_isPlace : GoodIn wsX0_askedEnd wsX1_isPlace := goodIn_r _ [13, 14, 76, 77, 78, 79, 80, 81, 82, 83] (by decide +kernel) (by decide +kernel)
set_option maxRecDepth 20000 in
theorem gX0_askedEnd_X1_isPlace : GoodIn wsX0_askedEnd (wsV RX0 108 RX1 yX1_isPlace wsX1_isPlace) := goodIn_app (goodIn_of _ (by decide +kernel)) ggX0_askedEnd_X1_isPlace
set_option maxRecDepth 20000 in
theorem ggX0_askedEnd_X1_endTowards : GoodIn wsX0_askedEnd wsX1_endTowards := goodIn_r _ [18, 19, 20, 21, 22, 23, 24, 12, 25, 26, 27, 28, 29, 30, 10, 11, 13, 14, 31, 32, 33, 34, 35, 36, 37, 38, 39, 40, 76, 77, 78, 79, 80, 81, 82, 83] (by decide +kernel) (by decide +kernel)
set_option maxRecDepth 20000 in
theorem gX0_askedEnd_X1_endTowards : GoodIn wsX0_askedEnd (wsV RX0 117 RX1 yX1_endTowards wsX1_endTowards) := goodIn_app (goodIn_of _ (by decide +kernel)) ggX0_askedEnd_X1_endTowards
set_option maxRecDepth 20000 in
theorem ggX0_askedEnd_X3_exitOfEnd : GoodIn wsX0_askedEnd wsX3_exitOfEnd := goodIn_r _ [42] (by decide +kernel) (by decide +kernel)
set_option maxRecDepth 20000 in
theorem gX0_askedEnd_X3_exitOfEnd_n120 : GoodIn wsX0_askedEnd (wsX3_exitOfEnd) := ggX0_askedEnd_X3_exitOfEnd
set_option maxRecDepth 20000 in
theorem ggX0_askedEnd_X2_learn : GoodIn wsX0_askedEnd wsX2_learn := goodIn_r _ [47, 48, 49, 50, 51, 46, 52, 84, 85] (by decide +kernel) (by decide +kernel)
set_option maxRecDepth 20000 in
theorem gX0_askedEnd_X2_learn : GoodIn wsX0_askedEnd (wsV RX0 124 RX2 yX2_learn wsX2_learn) := goodIn_app (goodIn_of _ (by decide +kernel)) ggX0_askedEnd_X2_learn
set_option maxRecDepth 20000 in
theorem ggX0_askedEnd_X0_canTake : GoodIn wsX0_askedEnd wsX0_canTake := goodIn_r _ [57, 1, 58, 59, 39, 60, 61, 62, 63, 64, 65, 66, 67, 68, 69, 70, 71, 72, 73, 74, 75, 76, 77, 78, 79, 80, 81, 82, 83] (by decide +kernel) (by decide +kernel)
set_option maxRecDepth 20000 in
theorem gX0_askedEnd_X0_canTake : GoodIn wsX0_askedEnd (wsV RX0 105 RX0 yX0_canTake wsX0_canTake) := goodIn_app (goodIn_of _ (by decide +kernel)) ggX0_askedEnd_X0_canTake
theorem dX0_askedEnd_0 : decode cX0_askedEnd 0 = .ok (.aload_n 0, 1) := by decide +kernel
theorem dX0_askedEnd_1 : decode cX0_askedEnd 1 = .ok (.getfield 36, 3) := by decide +kernel
theorem dX0_askedEnd_4 : decode cX0_askedEnd 4 = .ok (.aload_n 0, 1) := by decide +kernel
theorem dX0_askedEnd_5 : decode cX0_askedEnd 5 = .ok (.getfield 40, 3) := by decide +kernel
theorem dX0_askedEnd_8 : decode cX0_askedEnd 8 = .ok (.invokevirtual 108, 3) := by decide +kernel
theorem dX0_askedEnd_11 : decode cX0_askedEnd 11 = .ok (.ifCond .eq 33, 3) := by decide +kernel
theorem dX0_askedEnd_14 : decode cX0_askedEnd 14 = .ok (.aload_n 0, 1) := by decide +kernel
theorem dX0_askedEnd_15 : decode cX0_askedEnd 15 = .ok (.getfield 36, 3) := by decide +kernel
theorem dX0_askedEnd_18 : decode cX0_askedEnd 18 = .ok (.getfield 111, 3) := by decide +kernel
theorem dX0_askedEnd_21 : decode cX0_askedEnd 21 = .ok (.aload_n 0, 1) := by decide +kernel
theorem dX0_askedEnd_22 : decode cX0_askedEnd 22 = .ok (.getfield 40, 3) := by decide +kernel
theorem dX0_askedEnd_25 : decode cX0_askedEnd 25 = .ok (.baload, 1) := by decide +kernel
theorem dX0_askedEnd_26 : decode cX0_askedEnd 26 = .ok (.ifCond .ne 14, 3) := by decide +kernel
theorem dX0_askedEnd_29 : decode cX0_askedEnd 29 = .ok (.aload_n 0, 1) := by decide +kernel
theorem dX0_askedEnd_30 : decode cX0_askedEnd 30 = .ok (.getfield 40, 3) := by decide +kernel
theorem dX0_askedEnd_33 : decode cX0_askedEnd 33 = .ok (.aload_n 0, 1) := by decide +kernel
theorem dX0_askedEnd_34 : decode cX0_askedEnd 34 = .ok (.getfield 33, 3) := by decide +kernel
theorem dX0_askedEnd_37 : decode cX0_askedEnd 37 = .ok (.if_icmp .ne 7, 3) := by decide +kernel
theorem dX0_askedEnd_40 : decode cX0_askedEnd 40 = .ok (.iconst 1, 1) := by decide +kernel
theorem dX0_askedEnd_41 : decode cX0_askedEnd 41 = .ok (.goto 4, 3) := by decide +kernel
theorem dX0_askedEnd_44 : decode cX0_askedEnd 44 = .ok (.iconst 0, 1) := by decide +kernel
theorem dX0_askedEnd_45 : decode cX0_askedEnd 45 = .ok (.istore_n 1, 1) := by decide +kernel
theorem dX0_askedEnd_46 : decode cX0_askedEnd 46 = .ok (.iload_n 1, 1) := by decide +kernel
theorem dX0_askedEnd_47 : decode cX0_askedEnd 47 = .ok (.ifCond .eq 22, 3) := by decide +kernel
theorem dX0_askedEnd_50 : decode cX0_askedEnd 50 = .ok (.aload_n 0, 1) := by decide +kernel
theorem dX0_askedEnd_51 : decode cX0_askedEnd 51 = .ok (.getfield 30, 3) := by decide +kernel
theorem dX0_askedEnd_54 : decode cX0_askedEnd 54 = .ok (.aload_n 0, 1) := by decide +kernel
theorem dX0_askedEnd_55 : decode cX0_askedEnd 55 = .ok (.getfield 40, 3) := by decide +kernel
theorem dX0_askedEnd_58 : decode cX0_askedEnd 58 = .ok (.baload, 1) := by decide +kernel
theorem dX0_askedEnd_59 : decode cX0_askedEnd 59 = .ok (.ifCond .ne 10, 3) := by decide +kernel
theorem dX0_askedEnd_62 : decode cX0_askedEnd 62 = .ok (.aload_n 0, 1) := by decide +kernel
theorem dX0_askedEnd_63 : decode cX0_askedEnd 63 = .ok (.getfield 43, 3) := by decide +kernel
theorem dX0_askedEnd_66 : decode cX0_askedEnd 66 = .ok (.ifCond .ne 5, 3) := by decide +kernel
theorem dX0_askedEnd_69 : decode cX0_askedEnd 69 = .ok (.iconst (-1), 1) := by decide +kernel
theorem dX0_askedEnd_70 : decode cX0_askedEnd 70 = .ok (.ireturn, 1) := by decide +kernel
theorem dX0_askedEnd_71 : decode cX0_askedEnd 71 = .ok (.aload_n 0, 1) := by decide +kernel
theorem dX0_askedEnd_72 : decode cX0_askedEnd 72 = .ok (.dup, 1) := by decide +kernel
theorem dX0_askedEnd_73 : decode cX0_askedEnd 73 = .ok (.getfield 43, 3) := by decide +kernel
theorem dX0_askedEnd_76 : decode cX0_askedEnd 76 = .ok (.iconst 1, 1) := by decide +kernel
theorem dX0_askedEnd_77 : decode cX0_askedEnd 77 = .ok (.isub, 1) := by decide +kernel
theorem dX0_askedEnd_78 : decode cX0_askedEnd 78 = .ok (.putfield 43, 3) := by decide +kernel
theorem dX0_askedEnd_81 : decode cX0_askedEnd 81 = .ok (.aload_n 0, 1) := by decide +kernel
theorem dX0_askedEnd_82 : decode cX0_askedEnd 82 = .ok (.dup, 1) := by decide +kernel
theorem dX0_askedEnd_83 : decode cX0_askedEnd 83 = .ok (.getfield 114, 3) := by decide +kernel
theorem dX0_askedEnd_86 : decode cX0_askedEnd 86 = .ok (.iconst 1, 1) := by decide +kernel
theorem dX0_askedEnd_87 : decode cX0_askedEnd 87 = .ok (.iadd, 1) := by decide +kernel
theorem dX0_askedEnd_88 : decode cX0_askedEnd 88 = .ok (.putfield 114, 3) := by decide +kernel
theorem dX0_askedEnd_91 : decode cX0_askedEnd 91 = .ok (.aload_n 0, 1) := by decide +kernel
theorem dX0_askedEnd_92 : decode cX0_askedEnd 92 = .ok (.getfield 30, 3) := by decide +kernel
theorem dX0_askedEnd_95 : decode cX0_askedEnd 95 = .ok (.aload_n 0, 1) := by decide +kernel
theorem dX0_askedEnd_96 : decode cX0_askedEnd 96 = .ok (.getfield 40, 3) := by decide +kernel
theorem dX0_askedEnd_99 : decode cX0_askedEnd 99 = .ok (.iconst 1, 1) := by decide +kernel
theorem dX0_askedEnd_100 : decode cX0_askedEnd 100 = .ok (.bastore, 1) := by decide +kernel
theorem dX0_askedEnd_101 : decode cX0_askedEnd 101 = .ok (.aload_n 0, 1) := by decide +kernel
theorem dX0_askedEnd_102 : decode cX0_askedEnd 102 = .ok (.getfield 36, 3) := by decide +kernel
theorem dX0_askedEnd_105 : decode cX0_askedEnd 105 = .ok (.aload_n 0, 1) := by decide +kernel
theorem dX0_askedEnd_106 : decode cX0_askedEnd 106 = .ok (.getfield 40, 3) := by decide +kernel
theorem dX0_askedEnd_109 : decode cX0_askedEnd 109 = .ok (.aload_n 0, 1) := by decide +kernel
theorem dX0_askedEnd_110 : decode cX0_askedEnd 110 = .ok (.getfield 18, 3) := by decide +kernel
theorem dX0_askedEnd_113 : decode cX0_askedEnd 113 = .ok (.invokevirtual 117, 3) := by decide +kernel
theorem dX0_askedEnd_116 : decode cX0_askedEnd 116 = .ok (.istore_n 2, 1) := by decide +kernel
theorem dX0_askedEnd_117 : decode cX0_askedEnd 117 = .ok (.iload_n 2, 1) := by decide +kernel
theorem dX0_askedEnd_118 : decode cX0_askedEnd 118 = .ok (.iconst (-1), 1) := by decide +kernel
theorem dX0_askedEnd_119 : decode cX0_askedEnd 119 = .ok (.if_icmp .eq 22, 3) := by decide +kernel
theorem dX0_askedEnd_122 : decode cX0_askedEnd 122 = .ok (.aload_n 0, 1) := by decide +kernel
theorem dX0_askedEnd_123 : decode cX0_askedEnd 123 = .ok (.getfield 12, 3) := by decide +kernel
theorem dX0_askedEnd_126 : decode cX0_askedEnd 126 = .ok (.aload_n 0, 1) := by decide +kernel
theorem dX0_askedEnd_127 : decode cX0_askedEnd 127 = .ok (.getfield 18, 3) := by decide +kernel
theorem dX0_askedEnd_130 : decode cX0_askedEnd 130 = .ok (.aload_n 0, 1) := by decide +kernel
theorem dX0_askedEnd_131 : decode cX0_askedEnd 131 = .ok (.getfield 40, 3) := by decide +kernel
theorem dX0_askedEnd_134 : decode cX0_askedEnd 134 = .ok (.iload_n 2, 1) := by decide +kernel
theorem dX0_askedEnd_135 : decode cX0_askedEnd 135 = .ok (.invokestatic 120, 3) := by decide +kernel
theorem dX0_askedEnd_138 : decode cX0_askedEnd 138 = .ok (.invokevirtual 124, 3) := by decide +kernel
theorem dX0_askedEnd_141 : decode cX0_askedEnd 141 = .ok (.aload_n 0, 1) := by decide +kernel
theorem dX0_askedEnd_142 : decode cX0_askedEnd 142 = .ok (.iload_n 2, 1) := by decide +kernel
theorem dX0_askedEnd_143 : decode cX0_askedEnd 143 = .ok (.invokevirtual 105, 3) := by decide +kernel
theorem dX0_askedEnd_146 : decode cX0_askedEnd 146 = .ok (.ifCond .eq 7, 3) := by decide +kernel
theorem dX0_askedEnd_149 : decode cX0_askedEnd 149 = .ok (.iload_n 2, 1) := by decide +kernel
theorem dX0_askedEnd_150 : decode cX0_askedEnd 150 = .ok (.goto 4, 3) := by decide +kernel
theorem dX0_askedEnd_153 : decode cX0_askedEnd 153 = .ok (.iconst (-1), 1) := by decide +kernel
theorem dX0_askedEnd_154 : decode cX0_askedEnd 154 = .ok (.ireturn, 1) := by decide +kernel
set_option maxRecDepth 20000 in
theorem ggX0_firstUntried_X0_canTake : GoodIn wsX0_firstUntried wsX0_canTake := goodIn_r _ [6, 7, 8, 9, 10, 11, 12, 13, 14, 15, 16, 17, 18, 19, 20, 21, 22, 23, 24, 25, 26, 27, 28, 29, 30, 31, 32, 33, 34] (by decide +kernel) (by decide +kernel)
set_option maxRecDepth 20000 in
theorem gX0_firstUntried_X0_canTake : GoodIn wsX0_firstUntried (wsV RX0 105 RX0 yX0_canTake wsX0_canTake) := goodIn_app (goodIn_of _ (by decide +kernel)) ggX0_firstUntried_X0_canTake
theorem dX0_firstUntried_0 : decode cX0_firstUntried 0 = .ok (.iconst 0, 1) := by decide +kernel
theorem dX0_firstUntried_1 : decode cX0_firstUntried 1 = .ok (.istore_n 1, 1) := by decide +kernel
theorem dX0_firstUntried_2 : decode cX0_firstUntried 2 = .ok (.iload_n 1, 1) := by decide +kernel
theorem dX0_firstUntried_3 : decode cX0_firstUntried 3 = .ok (.iconst 4, 1) := by decide +kernel
theorem dX0_firstUntried_4 : decode cX0_firstUntried 4 = .ok (.if_icmp .ge 28, 3) := by decide +kernel
theorem dX0_firstUntried_7 : decode cX0_firstUntried 7 = .ok (.aload_n 0, 1) := by decide +kernel
theorem dX0_firstUntried_8 : decode cX0_firstUntried 8 = .ok (.getfield 40, 3) := by decide +kernel
theorem dX0_firstUntried_11 : decode cX0_firstUntried 11 = .ok (.iconst 4, 1) := by decide +kernel
theorem dX0_firstUntried_12 : decode cX0_firstUntried 12 = .ok (.imul, 1) := by decide +kernel
theorem dX0_firstUntried_13 : decode cX0_firstUntried 13 = .ok (.iload_n 1, 1) := by decide +kernel
theorem dX0_firstUntried_14 : decode cX0_firstUntried 14 = .ok (.iadd, 1) := by decide +kernel
theorem dX0_firstUntried_15 : decode cX0_firstUntried 15 = .ok (.istore_n 2, 1) := by decide +kernel
theorem dX0_firstUntried_16 : decode cX0_firstUntried 16 = .ok (.aload_n 0, 1) := by decide +kernel
theorem dX0_firstUntried_17 : decode cX0_firstUntried 17 = .ok (.iload_n 2, 1) := by decide +kernel
theorem dX0_firstUntried_18 : decode cX0_firstUntried 18 = .ok (.invokevirtual 105, 3) := by decide +kernel
theorem dX0_firstUntried_21 : decode cX0_firstUntried 21 = .ok (.ifCond .eq 5, 3) := by decide +kernel
theorem dX0_firstUntried_24 : decode cX0_firstUntried 24 = .ok (.iload_n 2, 1) := by decide +kernel
theorem dX0_firstUntried_25 : decode cX0_firstUntried 25 = .ok (.ireturn, 1) := by decide +kernel
theorem dX0_firstUntried_26 : decode cX0_firstUntried 26 = .ok (.iinc 1 1, 3) := by decide +kernel
theorem dX0_firstUntried_29 : decode cX0_firstUntried 29 = .ok (.goto (-27), 3) := by decide +kernel
theorem dX0_firstUntried_32 : decode cX0_firstUntried 32 = .ok (.iconst (-1), 1) := by decide +kernel
theorem dX0_firstUntried_33 : decode cX0_firstUntried 33 = .ok (.ireturn, 1) := by decide +kernel
set_option maxRecDepth 20000 in
theorem ggX0_take_X1_twinOf : GoodIn wsX0_take wsX1_twinOf := goodIn_r _ [11, 12, 13, 14, 15, 38, 39, 40, 41, 42, 43, 44, 45] (by decide +kernel) (by decide +kernel)
set_option maxRecDepth 20000 in
theorem gX0_take_X1_twinOf : GoodIn wsX0_take (wsV RX0 128 RX1 yX1_twinOf wsX1_twinOf) := goodIn_app (goodIn_of _ (by decide +kernel)) ggX0_take_X1_twinOf
set_option maxRecDepth 20000 in
theorem ggX0_take_X3_isEnd : GoodIn wsX0_take wsX3_isEnd := goodIn_r _ [15] (by decide +kernel) (by decide +kernel)
set_option maxRecDepth 20000 in
theorem gX0_take_X3_isEnd_n56 : GoodIn wsX0_take (wsX3_isEnd) := ggX0_take_X3_isEnd
set_option maxRecDepth 20000 in
theorem ggX0_take_X1_milesAt : GoodIn wsX0_take wsX1_milesAt := goodIn_r _ [19, 20, 13, 14, 15, 38, 39, 40, 41, 42, 43, 44, 45] (by decide +kernel) (by decide +kernel)
set_option maxRecDepth 20000 in
theorem gX0_take_X1_milesAt : GoodIn wsX0_take (wsV RX0 131 RX1 yX1_milesAt wsX1_milesAt) := goodIn_app (goodIn_of _ (by decide +kernel)) ggX0_take_X1_milesAt
set_option maxRecDepth 20000 in
theorem ggX0_take_X3_placeOfEnd : GoodIn wsX0_take wsX3_placeOfEnd := goodIn_r _ [22] (by decide +kernel) (by decide +kernel)
set_option maxRecDepth 20000 in
theorem gX0_take_X3_placeOfEnd_n134 : GoodIn wsX0_take (wsX3_placeOfEnd) := ggX0_take_X3_placeOfEnd
theorem dX0_take_0 : decode cX0_take 0 = .ok (.aload_n 0, 1) := by decide +kernel
theorem dX0_take_1 : decode cX0_take 1 = .ok (.getfield 36, 3) := by decide +kernel
theorem dX0_take_4 : decode cX0_take 4 = .ok (.iload_n 1, 1) := by decide +kernel
theorem dX0_take_5 : decode cX0_take 5 = .ok (.invokevirtual 128, 3) := by decide +kernel
theorem dX0_take_8 : decode cX0_take 8 = .ok (.istore_n 2, 1) := by decide +kernel
theorem dX0_take_9 : decode cX0_take 9 = .ok (.iload_n 1, 1) := by decide +kernel
theorem dX0_take_10 : decode cX0_take 10 = .ok (.invokestatic 56, 3) := by decide +kernel
theorem dX0_take_13 : decode cX0_take 13 = .ok (.ifCond .eq 19, 3) := by decide +kernel
theorem dX0_take_16 : decode cX0_take 16 = .ok (.iload_n 2, 1) := by decide +kernel
theorem dX0_take_17 : decode cX0_take 17 = .ok (.invokestatic 56, 3) := by decide +kernel
theorem dX0_take_20 : decode cX0_take 20 = .ok (.ifCond .eq 12, 3) := by decide +kernel
theorem dX0_take_23 : decode cX0_take 23 = .ok (.aload_n 0, 1) := by decide +kernel
theorem dX0_take_24 : decode cX0_take 24 = .ok (.getfield 64, 3) := by decide +kernel
theorem dX0_take_27 : decode cX0_take 27 = .ok (.bipush 20, 2) := by decide +kernel
theorem dX0_take_29 : decode cX0_take 29 = .ok (.if_icmp .lt 4, 3) := by decide +kernel
theorem dX0_take_32 : decode cX0_take 32 = .ok (.return_, 1) := by decide +kernel
theorem dX0_take_33 : decode cX0_take 33 = .ok (.aload_n 0, 1) := by decide +kernel
theorem dX0_take_34 : decode cX0_take 34 = .ok (.getfield 26, 3) := by decide +kernel
theorem dX0_take_37 : decode cX0_take 37 = .ok (.iload_n 1, 1) := by decide +kernel
theorem dX0_take_38 : decode cX0_take 38 = .ok (.iconst 1, 1) := by decide +kernel
theorem dX0_take_39 : decode cX0_take 39 = .ok (.bastore, 1) := by decide +kernel
theorem dX0_take_40 : decode cX0_take 40 = .ok (.aload_n 0, 1) := by decide +kernel
theorem dX0_take_41 : decode cX0_take 41 = .ok (.getfield 26, 3) := by decide +kernel
theorem dX0_take_44 : decode cX0_take 44 = .ok (.iload_n 2, 1) := by decide +kernel
theorem dX0_take_45 : decode cX0_take 45 = .ok (.iconst 1, 1) := by decide +kernel
theorem dX0_take_46 : decode cX0_take 46 = .ok (.bastore, 1) := by decide +kernel
theorem dX0_take_47 : decode cX0_take 47 = .ok (.aload_n 0, 1) := by decide +kernel
theorem dX0_take_48 : decode cX0_take 48 = .ok (.getfield 22, 3) := by decide +kernel
theorem dX0_take_51 : decode cX0_take 51 = .ok (.aload_n 0, 1) := by decide +kernel
theorem dX0_take_52 : decode cX0_take 52 = .ok (.getfield 64, 3) := by decide +kernel
theorem dX0_take_55 : decode cX0_take 55 = .ok (.iload_n 1, 1) := by decide +kernel
theorem dX0_take_56 : decode cX0_take 56 = .ok (.iastore, 1) := by decide +kernel
theorem dX0_take_57 : decode cX0_take 57 = .ok (.aload_n 0, 1) := by decide +kernel
theorem dX0_take_58 : decode cX0_take 58 = .ok (.dup, 1) := by decide +kernel
theorem dX0_take_59 : decode cX0_take 59 = .ok (.getfield 64, 3) := by decide +kernel
theorem dX0_take_62 : decode cX0_take 62 = .ok (.iconst 1, 1) := by decide +kernel
theorem dX0_take_63 : decode cX0_take 63 = .ok (.iadd, 1) := by decide +kernel
theorem dX0_take_64 : decode cX0_take 64 = .ok (.putfield 64, 3) := by decide +kernel
theorem dX0_take_67 : decode cX0_take 67 = .ok (.aload_n 0, 1) := by decide +kernel
theorem dX0_take_68 : decode cX0_take 68 = .ok (.dup, 1) := by decide +kernel
theorem dX0_take_69 : decode cX0_take 69 = .ok (.getfield 50, 3) := by decide +kernel
theorem dX0_take_72 : decode cX0_take 72 = .ok (.aload_n 0, 1) := by decide +kernel
theorem dX0_take_73 : decode cX0_take 73 = .ok (.getfield 36, 3) := by decide +kernel
theorem dX0_take_76 : decode cX0_take 76 = .ok (.iload_n 1, 1) := by decide +kernel
theorem dX0_take_77 : decode cX0_take 77 = .ok (.invokevirtual 131, 3) := by decide +kernel
theorem dX0_take_80 : decode cX0_take 80 = .ok (.iadd, 1) := by decide +kernel
theorem dX0_take_81 : decode cX0_take 81 = .ok (.putfield 50, 3) := by decide +kernel
theorem dX0_take_84 : decode cX0_take 84 = .ok (.aload_n 0, 1) := by decide +kernel
theorem dX0_take_85 : decode cX0_take 85 = .ok (.iload_n 2, 1) := by decide +kernel
theorem dX0_take_86 : decode cX0_take 86 = .ok (.invokestatic 134, 3) := by decide +kernel
theorem dX0_take_89 : decode cX0_take 89 = .ok (.putfield 40, 3) := by decide +kernel
theorem dX0_take_92 : decode cX0_take 92 = .ok (.return_, 1) := by decide +kernel
set_option maxRecDepth 20000 in
theorem ggX0_doubleBack_X1_milesAt : GoodIn wsX0_doubleBack wsX1_milesAt := goodIn_r _ [11, 12, 13, 14, 15, 33, 34, 35, 36, 37, 38, 39, 40] (by decide +kernel) (by decide +kernel)
set_option maxRecDepth 20000 in
theorem gX0_doubleBack_X1_milesAt : GoodIn wsX0_doubleBack (wsV RX0 131 RX1 yX1_milesAt wsX1_milesAt) := goodIn_app (goodIn_of _ (by decide +kernel)) ggX0_doubleBack_X1_milesAt
set_option maxRecDepth 20000 in
theorem ggX0_doubleBack_X3_placeOfEnd : GoodIn wsX0_doubleBack wsX3_placeOfEnd := goodIn_r _ [17] (by decide +kernel) (by decide +kernel)
set_option maxRecDepth 20000 in
theorem gX0_doubleBack_X3_placeOfEnd_n134 : GoodIn wsX0_doubleBack (wsX3_placeOfEnd) := ggX0_doubleBack_X3_placeOfEnd
theorem dX0_doubleBack_0 : decode cX0_doubleBack 0 = .ok (.aload_n 0, 1) := by decide +kernel
theorem dX0_doubleBack_1 : decode cX0_doubleBack 1 = .ok (.getfield 64, 3) := by decide +kernel
theorem dX0_doubleBack_4 : decode cX0_doubleBack 4 = .ok (.iconst 1, 1) := by decide +kernel
theorem dX0_doubleBack_5 : decode cX0_doubleBack 5 = .ok (.isub, 1) := by decide +kernel
theorem dX0_doubleBack_6 : decode cX0_doubleBack 6 = .ok (.istore_n 1, 1) := by decide +kernel
theorem dX0_doubleBack_7 : decode cX0_doubleBack 7 = .ok (.iload_n 1, 1) := by decide +kernel
theorem dX0_doubleBack_8 : decode cX0_doubleBack 8 = .ok (.ifCond .lt 9, 3) := by decide +kernel
theorem dX0_doubleBack_11 : decode cX0_doubleBack 11 = .ok (.iload_n 1, 1) := by decide +kernel
theorem dX0_doubleBack_12 : decode cX0_doubleBack 12 = .ok (.bipush 20, 2) := by decide +kernel
theorem dX0_doubleBack_14 : decode cX0_doubleBack 14 = .ok (.if_icmp .lt 4, 3) := by decide +kernel
theorem dX0_doubleBack_17 : decode cX0_doubleBack 17 = .ok (.return_, 1) := by decide +kernel
theorem dX0_doubleBack_18 : decode cX0_doubleBack 18 = .ok (.aload_n 0, 1) := by decide +kernel
theorem dX0_doubleBack_19 : decode cX0_doubleBack 19 = .ok (.iload_n 1, 1) := by decide +kernel
theorem dX0_doubleBack_20 : decode cX0_doubleBack 20 = .ok (.putfield 64, 3) := by decide +kernel
theorem dX0_doubleBack_23 : decode cX0_doubleBack 23 = .ok (.aload_n 0, 1) := by decide +kernel
theorem dX0_doubleBack_24 : decode cX0_doubleBack 24 = .ok (.getfield 22, 3) := by decide +kernel
theorem dX0_doubleBack_27 : decode cX0_doubleBack 27 = .ok (.iload_n 1, 1) := by decide +kernel
theorem dX0_doubleBack_28 : decode cX0_doubleBack 28 = .ok (.iaload, 1) := by decide +kernel
theorem dX0_doubleBack_29 : decode cX0_doubleBack 29 = .ok (.istore_n 2, 1) := by decide +kernel
theorem dX0_doubleBack_30 : decode cX0_doubleBack 30 = .ok (.aload_n 0, 1) := by decide +kernel
theorem dX0_doubleBack_31 : decode cX0_doubleBack 31 = .ok (.getfield 36, 3) := by decide +kernel
theorem dX0_doubleBack_34 : decode cX0_doubleBack 34 = .ok (.iload_n 2, 1) := by decide +kernel
theorem dX0_doubleBack_35 : decode cX0_doubleBack 35 = .ok (.invokevirtual 131, 3) := by decide +kernel
theorem dX0_doubleBack_38 : decode cX0_doubleBack 38 = .ok (.istore_n 3, 1) := by decide +kernel
theorem dX0_doubleBack_39 : decode cX0_doubleBack 39 = .ok (.aload_n 0, 1) := by decide +kernel
theorem dX0_doubleBack_40 : decode cX0_doubleBack 40 = .ok (.dup, 1) := by decide +kernel
theorem dX0_doubleBack_41 : decode cX0_doubleBack 41 = .ok (.getfield 50, 3) := by decide +kernel
theorem dX0_doubleBack_44 : decode cX0_doubleBack 44 = .ok (.iload_n 3, 1) := by decide +kernel
theorem dX0_doubleBack_45 : decode cX0_doubleBack 45 = .ok (.iadd, 1) := by decide +kernel
theorem dX0_doubleBack_46 : decode cX0_doubleBack 46 = .ok (.putfield 50, 3) := by decide +kernel
theorem dX0_doubleBack_49 : decode cX0_doubleBack 49 = .ok (.aload_n 0, 1) := by decide +kernel
theorem dX0_doubleBack_50 : decode cX0_doubleBack 50 = .ok (.dup, 1) := by decide +kernel
theorem dX0_doubleBack_51 : decode cX0_doubleBack 51 = .ok (.getfield 137, 3) := by decide +kernel
theorem dX0_doubleBack_54 : decode cX0_doubleBack 54 = .ok (.iload_n 3, 1) := by decide +kernel
theorem dX0_doubleBack_55 : decode cX0_doubleBack 55 = .ok (.iadd, 1) := by decide +kernel
theorem dX0_doubleBack_56 : decode cX0_doubleBack 56 = .ok (.putfield 137, 3) := by decide +kernel
theorem dX0_doubleBack_59 : decode cX0_doubleBack 59 = .ok (.aload_n 0, 1) := by decide +kernel
theorem dX0_doubleBack_60 : decode cX0_doubleBack 60 = .ok (.iload_n 2, 1) := by decide +kernel
theorem dX0_doubleBack_61 : decode cX0_doubleBack 61 = .ok (.invokestatic 134, 3) := by decide +kernel
theorem dX0_doubleBack_64 : decode cX0_doubleBack 64 = .ok (.putfield 40, 3) := by decide +kernel
theorem dX0_doubleBack_67 : decode cX0_doubleBack 67 = .ok (.return_, 1) := by decide +kernel
set_option maxRecDepth 20000 in
theorem ggX0_rememberWay_X3_placeOfEnd : GoodIn wsX0_rememberWay wsX3_placeOfEnd := goodIn_r _ [7] (by decide +kernel) (by decide +kernel)
set_option maxRecDepth 20000 in
theorem gX0_rememberWay_X3_placeOfEnd_n134 : GoodIn wsX0_rememberWay (wsX3_placeOfEnd) := ggX0_rememberWay_X3_placeOfEnd
set_option maxRecDepth 20000 in
theorem ggX0_rememberWay_X3_exitOfEnd : GoodIn wsX0_rememberWay wsX3_exitOfEnd := goodIn_r _ [9] (by decide +kernel) (by decide +kernel)
set_option maxRecDepth 20000 in
theorem gX0_rememberWay_X3_exitOfEnd_n120 : GoodIn wsX0_rememberWay (wsX3_exitOfEnd) := ggX0_rememberWay_X3_exitOfEnd
set_option maxRecDepth 20000 in
theorem ggX0_rememberWay_X2_confirm : GoodIn wsX0_rememberWay wsX2_confirm := goodIn_r _ [14, 15, 16, 17, 18, 19, 20, 21, 22, 13, 23, 24, 25, 26, 27, 43, 44] (by decide +kernel) (by decide +kernel)
set_option maxRecDepth 20000 in
theorem gX0_rememberWay_X2_confirm : GoodIn wsX0_rememberWay (wsV RX0 140 RX2 yX2_confirm wsX2_confirm) := goodIn_app (goodIn_of _ (by decide +kernel)) ggX0_rememberWay_X2_confirm
theorem dX0_rememberWay_0 : decode cX0_rememberWay 0 = .ok (.iconst 0, 1) := by decide +kernel
theorem dX0_rememberWay_1 : decode cX0_rememberWay 1 = .ok (.istore_n 1, 1) := by decide +kernel
theorem dX0_rememberWay_2 : decode cX0_rememberWay 2 = .ok (.iload_n 1, 1) := by decide +kernel
theorem dX0_rememberWay_3 : decode cX0_rememberWay 3 = .ok (.aload_n 0, 1) := by decide +kernel
theorem dX0_rememberWay_4 : decode cX0_rememberWay 4 = .ok (.getfield 64, 3) := by decide +kernel
theorem dX0_rememberWay_7 : decode cX0_rememberWay 7 = .ok (.if_icmp .ge 44, 3) := by decide +kernel
theorem dX0_rememberWay_10 : decode cX0_rememberWay 10 = .ok (.iload_n 1, 1) := by decide +kernel
theorem dX0_rememberWay_11 : decode cX0_rememberWay 11 = .ok (.bipush 20, 2) := by decide +kernel
theorem dX0_rememberWay_13 : decode cX0_rememberWay 13 = .ok (.if_icmp .ge 38, 3) := by decide +kernel
theorem dX0_rememberWay_16 : decode cX0_rememberWay 16 = .ok (.aload_n 0, 1) := by decide +kernel
theorem dX0_rememberWay_17 : decode cX0_rememberWay 17 = .ok (.getfield 12, 3) := by decide +kernel
theorem dX0_rememberWay_20 : decode cX0_rememberWay 20 = .ok (.aload_n 0, 1) := by decide +kernel
theorem dX0_rememberWay_21 : decode cX0_rememberWay 21 = .ok (.getfield 18, 3) := by decide +kernel
theorem dX0_rememberWay_24 : decode cX0_rememberWay 24 = .ok (.aload_n 0, 1) := by decide +kernel
theorem dX0_rememberWay_25 : decode cX0_rememberWay 25 = .ok (.getfield 22, 3) := by decide +kernel
theorem dX0_rememberWay_28 : decode cX0_rememberWay 28 = .ok (.iload_n 1, 1) := by decide +kernel
theorem dX0_rememberWay_29 : decode cX0_rememberWay 29 = .ok (.iaload, 1) := by decide +kernel
theorem dX0_rememberWay_30 : decode cX0_rememberWay 30 = .ok (.invokestatic 134, 3) := by decide +kernel
theorem dX0_rememberWay_33 : decode cX0_rememberWay 33 = .ok (.aload_n 0, 1) := by decide +kernel
theorem dX0_rememberWay_34 : decode cX0_rememberWay 34 = .ok (.getfield 22, 3) := by decide +kernel
theorem dX0_rememberWay_37 : decode cX0_rememberWay 37 = .ok (.iload_n 1, 1) := by decide +kernel
theorem dX0_rememberWay_38 : decode cX0_rememberWay 38 = .ok (.iaload, 1) := by decide +kernel
theorem dX0_rememberWay_39 : decode cX0_rememberWay 39 = .ok (.invokestatic 120, 3) := by decide +kernel
theorem dX0_rememberWay_42 : decode cX0_rememberWay 42 = .ok (.invokevirtual 140, 3) := by decide +kernel
theorem dX0_rememberWay_45 : decode cX0_rememberWay 45 = .ok (.iinc 1 1, 3) := by decide +kernel
theorem dX0_rememberWay_48 : decode cX0_rememberWay 48 = .ok (.goto (-46), 3) := by decide +kernel
theorem dX0_rememberWay_51 : decode cX0_rememberWay 51 = .ok (.return_, 1) := by decide +kernel
set_option maxRecDepth 20000 in
theorem ggX0_findsByMemory_X2_exitFor : GoodIn wsX0_findsByMemory wsX2_exitFor := goodIn_r _ [8, 9, 10, 11, 12, 7, 13, 53, 54] (by decide +kernel) (by decide +kernel)
set_option maxRecDepth 20000 in
theorem gX0_findsByMemory_X2_exitFor : GoodIn wsX0_findsByMemory (wsV RX0 98 RX2 yX2_exitFor wsX2_exitFor) := goodIn_app (goodIn_of _ (by decide +kernel)) ggX0_findsByMemory_X2_exitFor
set_option maxRecDepth 20000 in
theorem ggX0_findsByMemory_X1_endAt : GoodIn wsX0_findsByMemory wsX1_endAt := goodIn_r _ [18, 19, 20, 21, 22, 17, 23, 24, 55, 56, 57, 58, 59, 60, 61, 62] (by decide +kernel) (by decide +kernel)
set_option maxRecDepth 20000 in
theorem gX0_findsByMemory_X1_endAt : GoodIn wsX0_findsByMemory (wsV RX0 102 RX1 yX1_endAt wsX1_endAt) := goodIn_app (goodIn_of _ (by decide +kernel)) ggX0_findsByMemory_X1_endAt
set_option maxRecDepth 20000 in
theorem ggX0_findsByMemory_X1_opensAt : GoodIn wsX0_findsByMemory wsX1_opensAt := goodIn_r _ [28, 29, 30, 31, 32, 55, 56, 57, 58, 59, 60, 61, 62] (by decide +kernel) (by decide +kernel)
set_option maxRecDepth 20000 in
theorem gX0_findsByMemory_X1_opensAt : GoodIn wsX0_findsByMemory (wsV RX0 143 RX1 yX1_opensAt wsX1_opensAt) := goodIn_app (goodIn_of _ (by decide +kernel)) ggX0_findsByMemory_X1_opensAt
set_option maxRecDepth 20000 in
theorem ggX0_findsByMemory_X1_beyond : GoodIn wsX0_findsByMemory wsX1_beyond := goodIn_r _ [36, 37, 30, 31, 32, 55, 56, 57, 58, 59, 60, 61, 62] (by decide +kernel) (by decide +kernel)
set_option maxRecDepth 20000 in
theorem gX0_findsByMemory_X1_beyond : GoodIn wsX0_findsByMemory (wsV RX0 146 RX1 yX1_beyond wsX1_beyond) := goodIn_app (goodIn_of _ (by decide +kernel)) ggX0_findsByMemory_X1_beyond
theorem dX0_findsByMemory_0 : decode cX0_findsByMemory 0 = .ok (.aload_n 0, 1) := by decide +kernel
theorem dX0_findsByMemory_1 : decode cX0_findsByMemory 1 = .ok (.getfield 40, 3) := by decide +kernel
theorem dX0_findsByMemory_4 : decode cX0_findsByMemory 4 = .ok (.istore_n 2, 1) := by decide +kernel
theorem dX0_findsByMemory_5 : decode cX0_findsByMemory 5 = .ok (.iconst 0, 1) := by decide +kernel
theorem dX0_findsByMemory_6 : decode cX0_findsByMemory 6 = .ok (.istore_n 3, 1) := by decide +kernel
theorem dX0_findsByMemory_7 : decode cX0_findsByMemory 7 = .ok (.iload_n 3, 1) := by decide +kernel
theorem dX0_findsByMemory_8 : decode cX0_findsByMemory 8 = .ok (.bipush 10, 2) := by decide +kernel
theorem dX0_findsByMemory_10 : decode cX0_findsByMemory 10 = .ok (.if_icmp .ge 57, 3) := by decide +kernel
theorem dX0_findsByMemory_13 : decode cX0_findsByMemory 13 = .ok (.iload_n 2, 1) := by decide +kernel
theorem dX0_findsByMemory_14 : decode cX0_findsByMemory 14 = .ok (.iload_n 1, 1) := by decide +kernel
theorem dX0_findsByMemory_15 : decode cX0_findsByMemory 15 = .ok (.if_icmp .eq 52, 3) := by decide +kernel
theorem dX0_findsByMemory_18 : decode cX0_findsByMemory 18 = .ok (.aload_n 0, 1) := by decide +kernel
theorem dX0_findsByMemory_19 : decode cX0_findsByMemory 19 = .ok (.getfield 36, 3) := by decide +kernel
theorem dX0_findsByMemory_22 : decode cX0_findsByMemory 22 = .ok (.iload_n 2, 1) := by decide +kernel
theorem dX0_findsByMemory_23 : decode cX0_findsByMemory 23 = .ok (.aload_n 0, 1) := by decide +kernel
theorem dX0_findsByMemory_24 : decode cX0_findsByMemory 24 = .ok (.getfield 12, 3) := by decide +kernel
theorem dX0_findsByMemory_27 : decode cX0_findsByMemory 27 = .ok (.iload_n 1, 1) := by decide +kernel
theorem dX0_findsByMemory_28 : decode cX0_findsByMemory 28 = .ok (.iload_n 2, 1) := by decide +kernel
theorem dX0_findsByMemory_29 : decode cX0_findsByMemory 29 = .ok (.invokevirtual 98, 3) := by decide +kernel
theorem dX0_findsByMemory_32 : decode cX0_findsByMemory 32 = .ok (.invokevirtual 102, 3) := by decide +kernel
theorem dX0_findsByMemory_35 : decode cX0_findsByMemory 35 = .ok (.istore 4, 2) := by decide +kernel
theorem dX0_findsByMemory_37 : decode cX0_findsByMemory 37 = .ok (.aload_n 0, 1) := by decide +kernel
theorem dX0_findsByMemory_38 : decode cX0_findsByMemory 38 = .ok (.getfield 36, 3) := by decide +kernel
theorem dX0_findsByMemory_41 : decode cX0_findsByMemory 41 = .ok (.iload 4, 2) := by decide +kernel
theorem dX0_findsByMemory_43 : decode cX0_findsByMemory 43 = .ok (.invokevirtual 143, 3) := by decide +kernel
theorem dX0_findsByMemory_46 : decode cX0_findsByMemory 46 = .ok (.ifCond .ne 5, 3) := by decide +kernel
theorem dX0_findsByMemory_49 : decode cX0_findsByMemory 49 = .ok (.iconst 0, 1) := by decide +kernel
theorem dX0_findsByMemory_50 : decode cX0_findsByMemory 50 = .ok (.ireturn, 1) := by decide +kernel
theorem dX0_findsByMemory_51 : decode cX0_findsByMemory 51 = .ok (.aload_n 0, 1) := by decide +kernel
theorem dX0_findsByMemory_52 : decode cX0_findsByMemory 52 = .ok (.getfield 36, 3) := by decide +kernel
theorem dX0_findsByMemory_55 : decode cX0_findsByMemory 55 = .ok (.iload 4, 2) := by decide +kernel
theorem dX0_findsByMemory_57 : decode cX0_findsByMemory 57 = .ok (.invokevirtual 146, 3) := by decide +kernel
theorem dX0_findsByMemory_60 : decode cX0_findsByMemory 60 = .ok (.istore_n 2, 1) := by decide +kernel
theorem dX0_findsByMemory_61 : decode cX0_findsByMemory 61 = .ok (.iinc 3 1, 3) := by decide +kernel
theorem dX0_findsByMemory_64 : decode cX0_findsByMemory 64 = .ok (.goto (-57), 3) := by decide +kernel
theorem dX0_findsByMemory_67 : decode cX0_findsByMemory 67 = .ok (.iload_n 2, 1) := by decide +kernel
theorem dX0_findsByMemory_68 : decode cX0_findsByMemory 68 = .ok (.iload_n 1, 1) := by decide +kernel
theorem dX0_findsByMemory_69 : decode cX0_findsByMemory 69 = .ok (.if_icmp .ne 7, 3) := by decide +kernel
theorem dX0_findsByMemory_72 : decode cX0_findsByMemory 72 = .ok (.iconst 1, 1) := by decide +kernel
theorem dX0_findsByMemory_73 : decode cX0_findsByMemory 73 = .ok (.goto 4, 3) := by decide +kernel
theorem dX0_findsByMemory_76 : decode cX0_findsByMemory 76 = .ok (.iconst 0, 1) := by decide +kernel
theorem dX0_findsByMemory_77 : decode cX0_findsByMemory 77 = .ok (.ireturn, 1) := by decide +kernel
theorem dX0_forget_0 : decode cX0_forget 0 = .ok (.iconst 0, 1) := by decide +kernel
theorem dX0_forget_1 : decode cX0_forget 1 = .ok (.istore_n 1, 1) := by decide +kernel
theorem dX0_forget_2 : decode cX0_forget 2 = .ok (.iload_n 1, 1) := by decide +kernel
theorem dX0_forget_3 : decode cX0_forget 3 = .ok (.aload_n 0, 1) := by decide +kernel
theorem dX0_forget_4 : decode cX0_forget 4 = .ok (.arraylength, 1) := by decide +kernel
theorem dX0_forget_5 : decode cX0_forget 5 = .ok (.if_icmp .ge 13, 3) := by decide +kernel
theorem dX0_forget_8 : decode cX0_forget 8 = .ok (.aload_n 0, 1) := by decide +kernel
theorem dX0_forget_9 : decode cX0_forget 9 = .ok (.iload_n 1, 1) := by decide +kernel
theorem dX0_forget_10 : decode cX0_forget 10 = .ok (.iconst 0, 1) := by decide +kernel
theorem dX0_forget_11 : decode cX0_forget 11 = .ok (.bastore, 1) := by decide +kernel
theorem dX0_forget_12 : decode cX0_forget 12 = .ok (.iinc 1 1, 3) := by decide +kernel
theorem dX0_forget_15 : decode cX0_forget 15 = .ok (.goto (-13), 3) := by decide +kernel
theorem dX0_forget_18 : decode cX0_forget 18 = .ok (.return_, 1) := by decide +kernel
theorem dX1_init_0 : decode cX1_init 0 = .ok (.aload_n 0, 1) := by decide +kernel
theorem dX1_init_1 : decode cX1_init 1 = .ok (.invokespecial 3, 3) := by decide +kernel
theorem dX1_init_4 : decode cX1_init 4 = .ok (.aload_n 0, 1) := by decide +kernel
theorem dX1_init_5 : decode cX1_init 5 = .ok (.bipush 10, 2) := by decide +kernel
theorem dX1_init_7 : decode cX1_init 7 = .ok (.newarray .int, 2) := by decide +kernel
theorem dX1_init_9 : decode cX1_init 9 = .ok (.putfield 9, 3) := by decide +kernel
theorem dX1_init_12 : decode cX1_init 12 = .ok (.aload_n 0, 1) := by decide +kernel
theorem dX1_init_13 : decode cX1_init 13 = .ok (.bipush 10, 2) := by decide +kernel
theorem dX1_init_15 : decode cX1_init 15 = .ok (.newarray .boolean, 2) := by decide +kernel
theorem dX1_init_17 : decode cX1_init 17 = .ok (.putfield 15, 3) := by decide +kernel
theorem dX1_init_20 : decode cX1_init 20 = .ok (.aload_n 0, 1) := by decide +kernel
theorem dX1_init_21 : decode cX1_init 21 = .ok (.bipush 40, 2) := by decide +kernel
theorem dX1_init_23 : decode cX1_init 23 = .ok (.newarray .int, 2) := by decide +kernel
theorem dX1_init_25 : decode cX1_init 25 = .ok (.putfield 19, 3) := by decide +kernel
theorem dX1_init_28 : decode cX1_init 28 = .ok (.aload_n 0, 1) := by decide +kernel
theorem dX1_init_29 : decode cX1_init 29 = .ok (.bipush 40, 2) := by decide +kernel
theorem dX1_init_31 : decode cX1_init 31 = .ok (.newarray .int, 2) := by decide +kernel
theorem dX1_init_33 : decode cX1_init 33 = .ok (.putfield 22, 3) := by decide +kernel
theorem dX1_init_36 : decode cX1_init 36 = .ok (.aload_n 0, 1) := by decide +kernel
theorem dX1_init_37 : decode cX1_init 37 = .ok (.bipush 40, 2) := by decide +kernel
theorem dX1_init_39 : decode cX1_init 39 = .ok (.newarray .int, 2) := by decide +kernel
theorem dX1_init_41 : decode cX1_init 41 = .ok (.putfield 25, 3) := by decide +kernel
theorem dX1_init_44 : decode cX1_init 44 = .ok (.aload_n 0, 1) := by decide +kernel
theorem dX1_init_45 : decode cX1_init 45 = .ok (.bipush 40, 2) := by decide +kernel
theorem dX1_init_47 : decode cX1_init 47 = .ok (.newarray .boolean, 2) := by decide +kernel
theorem dX1_init_49 : decode cX1_init 49 = .ok (.putfield 28, 3) := by decide +kernel
theorem dX1_init_52 : decode cX1_init 52 = .ok (.aload_n 0, 1) := by decide +kernel
theorem dX1_init_53 : decode cX1_init 53 = .ok (.bipush 10, 2) := by decide +kernel
theorem dX1_init_55 : decode cX1_init 55 = .ok (.newarray .int, 2) := by decide +kernel
theorem dX1_init_57 : decode cX1_init 57 = .ok (.putfield 31, 3) := by decide +kernel
theorem dX1_init_60 : decode cX1_init 60 = .ok (.return_, 1) := by decide +kernel
theorem dX1_isPlace_0 : decode cX1_isPlace 0 = .ok (.iload_n 1, 1) := by decide +kernel
theorem dX1_isPlace_1 : decode cX1_isPlace 1 = .ok (.ifCond .lt 15, 3) := by decide +kernel
theorem dX1_isPlace_4 : decode cX1_isPlace 4 = .ok (.iload_n 1, 1) := by decide +kernel
theorem dX1_isPlace_5 : decode cX1_isPlace 5 = .ok (.aload_n 0, 1) := by decide +kernel
theorem dX1_isPlace_6 : decode cX1_isPlace 6 = .ok (.getfield 34, 3) := by decide +kernel
theorem dX1_isPlace_9 : decode cX1_isPlace 9 = .ok (.if_icmp .ge 7, 3) := by decide +kernel
theorem dX1_isPlace_12 : decode cX1_isPlace 12 = .ok (.iconst 1, 1) := by decide +kernel
theorem dX1_isPlace_13 : decode cX1_isPlace 13 = .ok (.goto 4, 3) := by decide +kernel
theorem dX1_isPlace_16 : decode cX1_isPlace 16 = .ok (.iconst 0, 1) := by decide +kernel
theorem dX1_isPlace_17 : decode cX1_isPlace 17 = .ok (.ireturn, 1) := by decide +kernel
set_option maxRecDepth 20000 in
theorem ggX1_hasRoom_X1_isPlace : GoodIn wsX1_hasRoom wsX1_isPlace := goodIn_r _ [6, 7, 8, 9, 10, 11, 12, 13, 14, 15] (by decide +kernel) (by decide +kernel)
set_option maxRecDepth 20000 in
theorem gX1_hasRoom_X1_isPlace : GoodIn wsX1_hasRoom (wsV RX1 38 RX1 yX1_isPlace wsX1_isPlace) := goodIn_app (goodIn_of _ (by decide +kernel)) ggX1_hasRoom_X1_isPlace
theorem dX1_hasRoom_0 : decode cX1_hasRoom 0 = .ok (.aload_n 0, 1) := by decide +kernel
theorem dX1_hasRoom_1 : decode cX1_hasRoom 1 = .ok (.iload_n 1, 1) := by decide +kernel
theorem dX1_hasRoom_2 : decode cX1_hasRoom 2 = .ok (.invokevirtual 38, 3) := by decide +kernel
theorem dX1_hasRoom_5 : decode cX1_hasRoom 5 = .ok (.ifCond .eq 17, 3) := by decide +kernel
theorem dX1_hasRoom_8 : decode cX1_hasRoom 8 = .ok (.aload_n 0, 1) := by decide +kernel
theorem dX1_hasRoom_9 : decode cX1_hasRoom 9 = .ok (.getfield 9, 3) := by decide +kernel
theorem dX1_hasRoom_12 : decode cX1_hasRoom 12 = .ok (.iload_n 1, 1) := by decide +kernel
theorem dX1_hasRoom_13 : decode cX1_hasRoom 13 = .ok (.iaload, 1) := by decide +kernel
theorem dX1_hasRoom_14 : decode cX1_hasRoom 14 = .ok (.iconst 4, 1) := by decide +kernel
theorem dX1_hasRoom_15 : decode cX1_hasRoom 15 = .ok (.if_icmp .ge 7, 3) := by decide +kernel
theorem dX1_hasRoom_18 : decode cX1_hasRoom 18 = .ok (.iconst 1, 1) := by decide +kernel
theorem dX1_hasRoom_19 : decode cX1_hasRoom 19 = .ok (.goto 4, 3) := by decide +kernel
theorem dX1_hasRoom_22 : decode cX1_hasRoom 22 = .ok (.iconst 0, 1) := by decide +kernel
theorem dX1_hasRoom_23 : decode cX1_hasRoom 23 = .ok (.ireturn, 1) := by decide +kernel
set_option maxRecDepth 20000 in
theorem ggX1_endAt_X1_isPlace : GoodIn wsX1_endAt wsX1_isPlace := goodIn_r _ [6, 7, 8, 9, 10, 11, 12, 13, 14, 15] (by decide +kernel) (by decide +kernel)
set_option maxRecDepth 20000 in
theorem gX1_endAt_X1_isPlace : GoodIn wsX1_endAt (wsV RX1 38 RX1 yX1_isPlace wsX1_isPlace) := goodIn_app (goodIn_of _ (by decide +kernel)) ggX1_endAt_X1_isPlace
theorem dX1_endAt_0 : decode cX1_endAt 0 = .ok (.aload_n 0, 1) := by decide +kernel
theorem dX1_endAt_1 : decode cX1_endAt 1 = .ok (.iload_n 1, 1) := by decide +kernel
theorem dX1_endAt_2 : decode cX1_endAt 2 = .ok (.invokevirtual 38, 3) := by decide +kernel
theorem dX1_endAt_5 : decode cX1_endAt 5 = .ok (.ifCond .eq 21, 3) := by decide +kernel
theorem dX1_endAt_8 : decode cX1_endAt 8 = .ok (.iload_n 2, 1) := by decide +kernel
theorem dX1_endAt_9 : decode cX1_endAt 9 = .ok (.ifCond .lt 17, 3) := by decide +kernel
theorem dX1_endAt_12 : decode cX1_endAt 12 = .ok (.iload_n 2, 1) := by decide +kernel
theorem dX1_endAt_13 : decode cX1_endAt 13 = .ok (.aload_n 0, 1) := by decide +kernel
theorem dX1_endAt_14 : decode cX1_endAt 14 = .ok (.getfield 9, 3) := by decide +kernel
theorem dX1_endAt_17 : decode cX1_endAt 17 = .ok (.iload_n 1, 1) := by decide +kernel
theorem dX1_endAt_18 : decode cX1_endAt 18 = .ok (.iaload, 1) := by decide +kernel
theorem dX1_endAt_19 : decode cX1_endAt 19 = .ok (.if_icmp .ge 7, 3) := by decide +kernel
theorem dX1_endAt_22 : decode cX1_endAt 22 = .ok (.iconst 1, 1) := by decide +kernel
theorem dX1_endAt_23 : decode cX1_endAt 23 = .ok (.goto 4, 3) := by decide +kernel
theorem dX1_endAt_26 : decode cX1_endAt 26 = .ok (.iconst 0, 1) := by decide +kernel
theorem dX1_endAt_27 : decode cX1_endAt 27 = .ok (.istore_n 3, 1) := by decide +kernel
theorem dX1_endAt_28 : decode cX1_endAt 28 = .ok (.iload_n 3, 1) := by decide +kernel
theorem dX1_endAt_29 : decode cX1_endAt 29 = .ok (.ifCond .eq 11, 3) := by decide +kernel
theorem dX1_endAt_32 : decode cX1_endAt 32 = .ok (.iload_n 1, 1) := by decide +kernel
theorem dX1_endAt_33 : decode cX1_endAt 33 = .ok (.iconst 4, 1) := by decide +kernel
theorem dX1_endAt_34 : decode cX1_endAt 34 = .ok (.imul, 1) := by decide +kernel
theorem dX1_endAt_35 : decode cX1_endAt 35 = .ok (.iload_n 2, 1) := by decide +kernel
theorem dX1_endAt_36 : decode cX1_endAt 36 = .ok (.iadd, 1) := by decide +kernel
theorem dX1_endAt_37 : decode cX1_endAt 37 = .ok (.goto 4, 3) := by decide +kernel
theorem dX1_endAt_40 : decode cX1_endAt 40 = .ok (.iconst (-1), 1) := by decide +kernel
theorem dX1_endAt_41 : decode cX1_endAt 41 = .ok (.ireturn, 1) := by decide +kernel
set_option maxRecDepth 20000 in
theorem ggX1_join_X1_hasRoom : GoodIn wsX1_join wsX1_hasRoom := goodIn_r _ [6, 1, 7, 8, 9, 5, 10, 11, 23, 24, 25, 26, 27, 28, 29, 30] (by decide +kernel) (by decide +kernel)
set_option maxRecDepth 20000 in
theorem gX1_join_X1_hasRoom : GoodIn wsX1_join (wsV RX1 42 RX1 yX1_hasRoom wsX1_hasRoom) := goodIn_app (goodIn_of _ (by decide +kernel)) ggX1_join_X1_hasRoom
set_option maxRecDepth 20000 in
theorem ggX1_join_X1_layEnd : GoodIn wsX1_join wsX1_layEnd := goodIn_r _ [15, 16, 17, 18, 19, 20, 21, 22, 23, 24, 25, 26, 27, 28, 29, 30] (by decide +kernel) (by decide +kernel)
set_option maxRecDepth 20000 in
theorem gX1_join_X1_layEnd : GoodIn wsX1_join (wsV RX1 45 RX1 yX1_layEnd wsX1_layEnd) := goodIn_app (goodIn_of _ (by decide +kernel)) ggX1_join_X1_layEnd
theorem dX1_join_0 : decode cX1_join 0 = .ok (.aload_n 0, 1) := by decide +kernel
theorem dX1_join_1 : decode cX1_join 1 = .ok (.iload_n 1, 1) := by decide +kernel
theorem dX1_join_2 : decode cX1_join 2 = .ok (.invokevirtual 42, 3) := by decide +kernel
theorem dX1_join_5 : decode cX1_join 5 = .ok (.ifCond .eq 11, 3) := by decide +kernel
theorem dX1_join_8 : decode cX1_join 8 = .ok (.aload_n 0, 1) := by decide +kernel
theorem dX1_join_9 : decode cX1_join 9 = .ok (.iload_n 2, 1) := by decide +kernel
theorem dX1_join_10 : decode cX1_join 10 = .ok (.invokevirtual 42, 3) := by decide +kernel
theorem dX1_join_13 : decode cX1_join 13 = .ok (.ifCond .ne 5, 3) := by decide +kernel
theorem dX1_join_16 : decode cX1_join 16 = .ok (.iconst (-1), 1) := by decide +kernel
theorem dX1_join_17 : decode cX1_join 17 = .ok (.ireturn, 1) := by decide +kernel
theorem dX1_join_18 : decode cX1_join 18 = .ok (.aload_n 0, 1) := by decide +kernel
theorem dX1_join_19 : decode cX1_join 19 = .ok (.getfield 9, 3) := by decide +kernel
theorem dX1_join_22 : decode cX1_join 22 = .ok (.iload_n 1, 1) := by decide +kernel
theorem dX1_join_23 : decode cX1_join 23 = .ok (.iaload, 1) := by decide +kernel
theorem dX1_join_24 : decode cX1_join 24 = .ok (.istore 4, 2) := by decide +kernel
theorem dX1_join_26 : decode cX1_join 26 = .ok (.iload_n 1, 1) := by decide +kernel
theorem dX1_join_27 : decode cX1_join 27 = .ok (.iconst 4, 1) := by decide +kernel
theorem dX1_join_28 : decode cX1_join 28 = .ok (.imul, 1) := by decide +kernel
theorem dX1_join_29 : decode cX1_join 29 = .ok (.iload 4, 2) := by decide +kernel
theorem dX1_join_31 : decode cX1_join 31 = .ok (.iadd, 1) := by decide +kernel
theorem dX1_join_32 : decode cX1_join 32 = .ok (.istore 5, 2) := by decide +kernel
theorem dX1_join_34 : decode cX1_join 34 = .ok (.iload_n 2, 1) := by decide +kernel
theorem dX1_join_35 : decode cX1_join 35 = .ok (.iconst 4, 1) := by decide +kernel
theorem dX1_join_36 : decode cX1_join 36 = .ok (.imul, 1) := by decide +kernel
theorem dX1_join_37 : decode cX1_join 37 = .ok (.aload_n 0, 1) := by decide +kernel
theorem dX1_join_38 : decode cX1_join 38 = .ok (.getfield 9, 3) := by decide +kernel
theorem dX1_join_41 : decode cX1_join 41 = .ok (.iload_n 2, 1) := by decide +kernel
theorem dX1_join_42 : decode cX1_join 42 = .ok (.iaload, 1) := by decide +kernel
theorem dX1_join_43 : decode cX1_join 43 = .ok (.iadd, 1) := by decide +kernel
theorem dX1_join_44 : decode cX1_join 44 = .ok (.istore 6, 2) := by decide +kernel
theorem dX1_join_46 : decode cX1_join 46 = .ok (.aload_n 0, 1) := by decide +kernel
theorem dX1_join_47 : decode cX1_join 47 = .ok (.getfield 9, 3) := by decide +kernel
theorem dX1_join_50 : decode cX1_join 50 = .ok (.iload_n 1, 1) := by decide +kernel
theorem dX1_join_51 : decode cX1_join 51 = .ok (.dup2, 1) := by decide +kernel
theorem dX1_join_52 : decode cX1_join 52 = .ok (.iaload, 1) := by decide +kernel
theorem dX1_join_53 : decode cX1_join 53 = .ok (.iconst 1, 1) := by decide +kernel
theorem dX1_join_54 : decode cX1_join 54 = .ok (.iadd, 1) := by decide +kernel
theorem dX1_join_55 : decode cX1_join 55 = .ok (.iastore, 1) := by decide +kernel
theorem dX1_join_56 : decode cX1_join 56 = .ok (.aload_n 0, 1) := by decide +kernel
theorem dX1_join_57 : decode cX1_join 57 = .ok (.getfield 9, 3) := by decide +kernel
theorem dX1_join_60 : decode cX1_join 60 = .ok (.iload_n 2, 1) := by decide +kernel
theorem dX1_join_61 : decode cX1_join 61 = .ok (.dup2, 1) := by decide +kernel
theorem dX1_join_62 : decode cX1_join 62 = .ok (.iaload, 1) := by decide +kernel
theorem dX1_join_63 : decode cX1_join 63 = .ok (.iconst 1, 1) := by decide +kernel
theorem dX1_join_64 : decode cX1_join 64 = .ok (.iadd, 1) := by decide +kernel
theorem dX1_join_65 : decode cX1_join 65 = .ok (.iastore, 1) := by decide +kernel
theorem dX1_join_66 : decode cX1_join 66 = .ok (.aload_n 0, 1) := by decide +kernel
theorem dX1_join_67 : decode cX1_join 67 = .ok (.iload 5, 2) := by decide +kernel
theorem dX1_join_69 : decode cX1_join 69 = .ok (.iload 6, 2) := by decide +kernel
theorem dX1_join_71 : decode cX1_join 71 = .ok (.iload_n 3, 1) := by decide +kernel
theorem dX1_join_72 : decode cX1_join 72 = .ok (.invokevirtual 45, 3) := by decide +kernel
theorem dX1_join_75 : decode cX1_join 75 = .ok (.aload_n 0, 1) := by decide +kernel
theorem dX1_join_76 : decode cX1_join 76 = .ok (.iload 6, 2) := by decide +kernel
theorem dX1_join_78 : decode cX1_join 78 = .ok (.iload 5, 2) := by decide +kernel
theorem dX1_join_80 : decode cX1_join 80 = .ok (.iload_n 3, 1) := by decide +kernel
theorem dX1_join_81 : decode cX1_join 81 = .ok (.invokevirtual 45, 3) := by decide +kernel
theorem dX1_join_84 : decode cX1_join 84 = .ok (.iload 4, 2) := by decide +kernel
theorem dX1_join_86 : decode cX1_join 86 = .ok (.ireturn, 1) := by decide +kernel
set_option maxRecDepth 20000 in
theorem ggX1_layEnd_X3_placeOfEnd : GoodIn wsX1_layEnd wsX3_placeOfEnd := goodIn_r _ [7] (by decide +kernel) (by decide +kernel)
set_option maxRecDepth 20000 in
theorem gX1_layEnd_X3_placeOfEnd_n49 : GoodIn wsX1_layEnd (wsX3_placeOfEnd) := ggX1_layEnd_X3_placeOfEnd
theorem dX1_layEnd_0 : decode cX1_layEnd 0 = .ok (.aload_n 0, 1) := by decide +kernel
theorem dX1_layEnd_1 : decode cX1_layEnd 1 = .ok (.getfield 19, 3) := by decide +kernel
theorem dX1_layEnd_4 : decode cX1_layEnd 4 = .ok (.iload_n 1, 1) := by decide +kernel
theorem dX1_layEnd_5 : decode cX1_layEnd 5 = .ok (.iload_n 2, 1) := by decide +kernel
theorem dX1_layEnd_6 : decode cX1_layEnd 6 = .ok (.invokestatic 49, 3) := by decide +kernel
theorem dX1_layEnd_9 : decode cX1_layEnd 9 = .ok (.iastore, 1) := by decide +kernel
theorem dX1_layEnd_10 : decode cX1_layEnd 10 = .ok (.aload_n 0, 1) := by decide +kernel
theorem dX1_layEnd_11 : decode cX1_layEnd 11 = .ok (.getfield 22, 3) := by decide +kernel
theorem dX1_layEnd_14 : decode cX1_layEnd 14 = .ok (.iload_n 1, 1) := by decide +kernel
theorem dX1_layEnd_15 : decode cX1_layEnd 15 = .ok (.iload_n 2, 1) := by decide +kernel
theorem dX1_layEnd_16 : decode cX1_layEnd 16 = .ok (.iastore, 1) := by decide +kernel
theorem dX1_layEnd_17 : decode cX1_layEnd 17 = .ok (.aload_n 0, 1) := by decide +kernel
theorem dX1_layEnd_18 : decode cX1_layEnd 18 = .ok (.getfield 25, 3) := by decide +kernel
theorem dX1_layEnd_21 : decode cX1_layEnd 21 = .ok (.iload_n 1, 1) := by decide +kernel
theorem dX1_layEnd_22 : decode cX1_layEnd 22 = .ok (.iload_n 3, 1) := by decide +kernel
theorem dX1_layEnd_23 : decode cX1_layEnd 23 = .ok (.iastore, 1) := by decide +kernel
theorem dX1_layEnd_24 : decode cX1_layEnd 24 = .ok (.aload_n 0, 1) := by decide +kernel
theorem dX1_layEnd_25 : decode cX1_layEnd 25 = .ok (.getfield 28, 3) := by decide +kernel
theorem dX1_layEnd_28 : decode cX1_layEnd 28 = .ok (.iload_n 1, 1) := by decide +kernel
theorem dX1_layEnd_29 : decode cX1_layEnd 29 = .ok (.iconst 1, 1) := by decide +kernel
theorem dX1_layEnd_30 : decode cX1_layEnd 30 = .ok (.bastore, 1) := by decide +kernel
theorem dX1_layEnd_31 : decode cX1_layEnd 31 = .ok (.return_, 1) := by decide +kernel
set_option maxRecDepth 20000 in
theorem ggX1_turnEnd_X1_twinOf : GoodIn wsX1_turnEnd wsX1_twinOf := goodIn_r _ [6, 7, 8, 9, 10, 11, 12, 13, 14, 15, 16, 17, 18] (by decide +kernel) (by decide +kernel)
set_option maxRecDepth 20000 in
theorem gX1_turnEnd_X1_twinOf : GoodIn wsX1_turnEnd (wsV RX1 53 RX1 yX1_twinOf wsX1_twinOf) := goodIn_app (goodIn_of _ (by decide +kernel)) ggX1_turnEnd_X1_twinOf
set_option maxRecDepth 20000 in
theorem ggX1_turnEnd_X3_isEnd : GoodIn wsX1_turnEnd wsX3_isEnd := goodIn_r _ [10] (by decide +kernel) (by decide +kernel)
set_option maxRecDepth 20000 in
theorem gX1_turnEnd_X3_isEnd_n56 : GoodIn wsX1_turnEnd (wsX3_isEnd) := ggX1_turnEnd_X3_isEnd
theorem dX1_turnEnd_0 : decode cX1_turnEnd 0 = .ok (.aload_n 0, 1) := by decide +kernel
theorem dX1_turnEnd_1 : decode cX1_turnEnd 1 = .ok (.iload_n 1, 1) := by decide +kernel
theorem dX1_turnEnd_2 : decode cX1_turnEnd 2 = .ok (.invokevirtual 53, 3) := by decide +kernel
theorem dX1_turnEnd_5 : decode cX1_turnEnd 5 = .ok (.istore_n 2, 1) := by decide +kernel
theorem dX1_turnEnd_6 : decode cX1_turnEnd 6 = .ok (.iload_n 1, 1) := by decide +kernel
theorem dX1_turnEnd_7 : decode cX1_turnEnd 7 = .ok (.invokestatic 56, 3) := by decide +kernel
theorem dX1_turnEnd_10 : decode cX1_turnEnd 10 = .ok (.ifCond .eq 10, 3) := by decide +kernel
theorem dX1_turnEnd_13 : decode cX1_turnEnd 13 = .ok (.iload_n 2, 1) := by decide +kernel
theorem dX1_turnEnd_14 : decode cX1_turnEnd 14 = .ok (.invokestatic 56, 3) := by decide +kernel
theorem dX1_turnEnd_17 : decode cX1_turnEnd 17 = .ok (.ifCond .ne 5, 3) := by decide +kernel
theorem dX1_turnEnd_20 : decode cX1_turnEnd 20 = .ok (.iconst 0, 1) := by decide +kernel
theorem dX1_turnEnd_21 : decode cX1_turnEnd 21 = .ok (.ireturn, 1) := by decide +kernel
theorem dX1_turnEnd_22 : decode cX1_turnEnd 22 = .ok (.aload_n 0, 1) := by decide +kernel
theorem dX1_turnEnd_23 : decode cX1_turnEnd 23 = .ok (.getfield 28, 3) := by decide +kernel
theorem dX1_turnEnd_26 : decode cX1_turnEnd 26 = .ok (.iload_n 1, 1) := by decide +kernel
theorem dX1_turnEnd_27 : decode cX1_turnEnd 27 = .ok (.baload, 1) := by decide +kernel
theorem dX1_turnEnd_28 : decode cX1_turnEnd 28 = .ok (.ifCond .ne 7, 3) := by decide +kernel
theorem dX1_turnEnd_31 : decode cX1_turnEnd 31 = .ok (.iconst 1, 1) := by decide +kernel
theorem dX1_turnEnd_32 : decode cX1_turnEnd 32 = .ok (.goto 4, 3) := by decide +kernel
theorem dX1_turnEnd_35 : decode cX1_turnEnd 35 = .ok (.iconst 0, 1) := by decide +kernel
theorem dX1_turnEnd_36 : decode cX1_turnEnd 36 = .ok (.istore_n 3, 1) := by decide +kernel
theorem dX1_turnEnd_37 : decode cX1_turnEnd 37 = .ok (.aload_n 0, 1) := by decide +kernel
theorem dX1_turnEnd_38 : decode cX1_turnEnd 38 = .ok (.getfield 28, 3) := by decide +kernel
theorem dX1_turnEnd_41 : decode cX1_turnEnd 41 = .ok (.iload_n 1, 1) := by decide +kernel
theorem dX1_turnEnd_42 : decode cX1_turnEnd 42 = .ok (.iload_n 3, 1) := by decide +kernel
theorem dX1_turnEnd_43 : decode cX1_turnEnd 43 = .ok (.bastore, 1) := by decide +kernel
theorem dX1_turnEnd_44 : decode cX1_turnEnd 44 = .ok (.aload_n 0, 1) := by decide +kernel
theorem dX1_turnEnd_45 : decode cX1_turnEnd 45 = .ok (.getfield 28, 3) := by decide +kernel
theorem dX1_turnEnd_48 : decode cX1_turnEnd 48 = .ok (.iload_n 2, 1) := by decide +kernel
theorem dX1_turnEnd_49 : decode cX1_turnEnd 49 = .ok (.iload_n 3, 1) := by decide +kernel
theorem dX1_turnEnd_50 : decode cX1_turnEnd 50 = .ok (.bastore, 1) := by decide +kernel
theorem dX1_turnEnd_51 : decode cX1_turnEnd 51 = .ok (.iload_n 3, 1) := by decide +kernel
theorem dX1_turnEnd_52 : decode cX1_turnEnd 52 = .ok (.ireturn, 1) := by decide +kernel
set_option maxRecDepth 20000 in
theorem ggX1_opensAt_X3_isEnd : GoodIn wsX1_opensAt wsX3_isEnd := goodIn_r _ [4] (by decide +kernel) (by decide +kernel)
set_option maxRecDepth 20000 in
theorem gX1_opensAt_X3_isEnd_n56 : GoodIn wsX1_opensAt (wsX3_isEnd) := ggX1_opensAt_X3_isEnd
theorem dX1_opensAt_0 : decode cX1_opensAt 0 = .ok (.iload_n 1, 1) := by decide +kernel
theorem dX1_opensAt_1 : decode cX1_opensAt 1 = .ok (.invokestatic 56, 3) := by decide +kernel
theorem dX1_opensAt_4 : decode cX1_opensAt 4 = .ok (.ifCond .eq 16, 3) := by decide +kernel
theorem dX1_opensAt_7 : decode cX1_opensAt 7 = .ok (.aload_n 0, 1) := by decide +kernel
theorem dX1_opensAt_8 : decode cX1_opensAt 8 = .ok (.getfield 28, 3) := by decide +kernel
theorem dX1_opensAt_11 : decode cX1_opensAt 11 = .ok (.iload_n 1, 1) := by decide +kernel
theorem dX1_opensAt_12 : decode cX1_opensAt 12 = .ok (.baload, 1) := by decide +kernel
theorem dX1_opensAt_13 : decode cX1_opensAt 13 = .ok (.ifCond .eq 7, 3) := by decide +kernel
theorem dX1_opensAt_16 : decode cX1_opensAt 16 = .ok (.iconst 1, 1) := by decide +kernel
theorem dX1_opensAt_17 : decode cX1_opensAt 17 = .ok (.goto 4, 3) := by decide +kernel
theorem dX1_opensAt_20 : decode cX1_opensAt 20 = .ok (.iconst 0, 1) := by decide +kernel
theorem dX1_opensAt_21 : decode cX1_opensAt 21 = .ok (.ireturn, 1) := by decide +kernel
set_option maxRecDepth 20000 in
theorem ggX1_milesAt_X3_isEnd : GoodIn wsX1_milesAt wsX3_isEnd := goodIn_r _ [4] (by decide +kernel) (by decide +kernel)
set_option maxRecDepth 20000 in
theorem gX1_milesAt_X3_isEnd_n56 : GoodIn wsX1_milesAt (wsX3_isEnd) := ggX1_milesAt_X3_isEnd
theorem dX1_milesAt_0 : decode cX1_milesAt 0 = .ok (.iload_n 1, 1) := by decide +kernel
theorem dX1_milesAt_1 : decode cX1_milesAt 1 = .ok (.invokestatic 56, 3) := by decide +kernel
theorem dX1_milesAt_4 : decode cX1_milesAt 4 = .ok (.ifCond .eq 12, 3) := by decide +kernel
theorem dX1_milesAt_7 : decode cX1_milesAt 7 = .ok (.aload_n 0, 1) := by decide +kernel
theorem dX1_milesAt_8 : decode cX1_milesAt 8 = .ok (.getfield 25, 3) := by decide +kernel
theorem dX1_milesAt_11 : decode cX1_milesAt 11 = .ok (.iload_n 1, 1) := by decide +kernel
theorem dX1_milesAt_12 : decode cX1_milesAt 12 = .ok (.iaload, 1) := by decide +kernel
theorem dX1_milesAt_13 : decode cX1_milesAt 13 = .ok (.goto 4, 3) := by decide +kernel
theorem dX1_milesAt_16 : decode cX1_milesAt 16 = .ok (.iconst 0, 1) := by decide +kernel
theorem dX1_milesAt_17 : decode cX1_milesAt 17 = .ok (.ireturn, 1) := by decide +kernel
set_option maxRecDepth 20000 in
theorem ggX1_twinOf_X3_isEnd : GoodIn wsX1_twinOf wsX3_isEnd := goodIn_r _ [4] (by decide +kernel) (by decide +kernel)
set_option maxRecDepth 20000 in
theorem gX1_twinOf_X3_isEnd_n56 : GoodIn wsX1_twinOf (wsX3_isEnd) := ggX1_twinOf_X3_isEnd
theorem dX1_twinOf_0 : decode cX1_twinOf 0 = .ok (.iload_n 1, 1) := by decide +kernel
theorem dX1_twinOf_1 : decode cX1_twinOf 1 = .ok (.invokestatic 56, 3) := by decide +kernel
theorem dX1_twinOf_4 : decode cX1_twinOf 4 = .ok (.ifCond .eq 12, 3) := by decide +kernel
theorem dX1_twinOf_7 : decode cX1_twinOf 7 = .ok (.aload_n 0, 1) := by decide +kernel
theorem dX1_twinOf_8 : decode cX1_twinOf 8 = .ok (.getfield 22, 3) := by decide +kernel
theorem dX1_twinOf_11 : decode cX1_twinOf 11 = .ok (.iload_n 1, 1) := by decide +kernel
theorem dX1_twinOf_12 : decode cX1_twinOf 12 = .ok (.iaload, 1) := by decide +kernel
theorem dX1_twinOf_13 : decode cX1_twinOf 13 = .ok (.goto 4, 3) := by decide +kernel
theorem dX1_twinOf_16 : decode cX1_twinOf 16 = .ok (.iconst (-1), 1) := by decide +kernel
theorem dX1_twinOf_17 : decode cX1_twinOf 17 = .ok (.ireturn, 1) := by decide +kernel
set_option maxRecDepth 20000 in
theorem ggX1_beyond_X3_isEnd : GoodIn wsX1_beyond wsX3_isEnd := goodIn_r _ [4] (by decide +kernel) (by decide +kernel)
set_option maxRecDepth 20000 in
theorem gX1_beyond_X3_isEnd_n56 : GoodIn wsX1_beyond (wsX3_isEnd) := ggX1_beyond_X3_isEnd
theorem dX1_beyond_0 : decode cX1_beyond 0 = .ok (.iload_n 1, 1) := by decide +kernel
theorem dX1_beyond_1 : decode cX1_beyond 1 = .ok (.invokestatic 56, 3) := by decide +kernel
theorem dX1_beyond_4 : decode cX1_beyond 4 = .ok (.ifCond .eq 12, 3) := by decide +kernel
theorem dX1_beyond_7 : decode cX1_beyond 7 = .ok (.aload_n 0, 1) := by decide +kernel
theorem dX1_beyond_8 : decode cX1_beyond 8 = .ok (.getfield 19, 3) := by decide +kernel
theorem dX1_beyond_11 : decode cX1_beyond 11 = .ok (.iload_n 1, 1) := by decide +kernel
theorem dX1_beyond_12 : decode cX1_beyond 12 = .ok (.iaload, 1) := by decide +kernel
theorem dX1_beyond_13 : decode cX1_beyond 13 = .ok (.goto 4, 3) := by decide +kernel
theorem dX1_beyond_16 : decode cX1_beyond 16 = .ok (.iconst (-1), 1) := by decide +kernel
theorem dX1_beyond_17 : decode cX1_beyond 17 = .ok (.ireturn, 1) := by decide +kernel
set_option maxRecDepth 20000 in
theorem ggX1_shortest_X1_measure : GoodIn wsX1_shortest wsX1_measure := goodIn_r _ [7, 1, 2, 8, 9, 10, 11, 12, 13, 14, 6, 15, 16, 17, 18, 19, 20, 21, 22, 23, 24, 25, 26, 27, 28, 29, 30, 31, 32, 33, 34] (by decide +kernel) (by decide +kernel)
set_option maxRecDepth 20000 in
theorem gX1_shortest_X1_measure : GoodIn wsX1_shortest (wsV RX1 59 RX1 yX1_measure wsX1_measure) := goodIn_app (goodIn_of _ (by decide +kernel)) ggX1_shortest_X1_measure
set_option maxRecDepth 20000 in
theorem ggX1_shortest_X1_isPlace : GoodIn wsX1_shortest wsX1_isPlace := goodIn_r _ [15, 16, 27, 28, 29, 30, 31, 32, 33, 34] (by decide +kernel) (by decide +kernel)
set_option maxRecDepth 20000 in
theorem gX1_shortest_X1_isPlace : GoodIn wsX1_shortest (wsV RX1 38 RX1 yX1_isPlace wsX1_isPlace) := goodIn_app (goodIn_of _ (by decide +kernel)) ggX1_shortest_X1_isPlace
theorem dX1_shortest_0 : decode cX1_shortest 0 = .ok (.aload_n 0, 1) := by decide +kernel
theorem dX1_shortest_1 : decode cX1_shortest 1 = .ok (.iload_n 2, 1) := by decide +kernel
theorem dX1_shortest_2 : decode cX1_shortest 2 = .ok (.invokevirtual 59, 3) := by decide +kernel
theorem dX1_shortest_5 : decode cX1_shortest 5 = .ok (.aload_n 0, 1) := by decide +kernel
theorem dX1_shortest_6 : decode cX1_shortest 6 = .ok (.iload_n 1, 1) := by decide +kernel
theorem dX1_shortest_7 : decode cX1_shortest 7 = .ok (.invokevirtual 38, 3) := by decide +kernel
theorem dX1_shortest_10 : decode cX1_shortest 10 = .ok (.ifCond .eq 23, 3) := by decide +kernel
theorem dX1_shortest_13 : decode cX1_shortest 13 = .ok (.aload_n 0, 1) := by decide +kernel
theorem dX1_shortest_14 : decode cX1_shortest 14 = .ok (.getfield 31, 3) := by decide +kernel
theorem dX1_shortest_17 : decode cX1_shortest 17 = .ok (.iload_n 1, 1) := by decide +kernel
theorem dX1_shortest_18 : decode cX1_shortest 18 = .ok (.iaload, 1) := by decide +kernel
theorem dX1_shortest_19 : decode cX1_shortest 19 = .ok (.ldc 63, 2) := by decide +kernel
theorem dX1_shortest_21 : decode cX1_shortest 21 = .ok (.if_icmp .ge 12, 3) := by decide +kernel
theorem dX1_shortest_24 : decode cX1_shortest 24 = .ok (.aload_n 0, 1) := by decide +kernel
theorem dX1_shortest_25 : decode cX1_shortest 25 = .ok (.getfield 31, 3) := by decide +kernel
theorem dX1_shortest_28 : decode cX1_shortest 28 = .ok (.iload_n 1, 1) := by decide +kernel
theorem dX1_shortest_29 : decode cX1_shortest 29 = .ok (.iaload, 1) := by decide +kernel
theorem dX1_shortest_30 : decode cX1_shortest 30 = .ok (.goto 4, 3) := by decide +kernel
theorem dX1_shortest_33 : decode cX1_shortest 33 = .ok (.iconst (-1), 1) := by decide +kernel
theorem dX1_shortest_34 : decode cX1_shortest 34 = .ok (.ireturn, 1) := by decide +kernel
set_option maxRecDepth 20000 in
theorem ggX1_endTowards_X1_measure : GoodIn wsX1_endTowards wsX1_measure := goodIn_r _ [8, 1, 2, 9, 10, 11, 12, 13, 14, 15, 7, 16, 17, 18, 19, 20, 21, 22, 23, 24, 25, 26, 27, 28, 29, 30, 31, 32, 33, 34, 35] (by decide +kernel) (by decide +kernel)
set_option maxRecDepth 20000 in
theorem gX1_endTowards_X1_measure : GoodIn wsX1_endTowards (wsV RX1 59 RX1 yX1_measure wsX1_measure) := goodIn_app (goodIn_of _ (by decide +kernel)) ggX1_endTowards_X1_measure
set_option maxRecDepth 20000 in
theorem ggX1_endTowards_X1_isPlace : GoodIn wsX1_endTowards wsX1_isPlace := goodIn_r _ [16, 17, 28, 29, 30, 31, 32, 33, 34, 35] (by decide +kernel) (by decide +kernel)
set_option maxRecDepth 20000 in
theorem gX1_endTowards_X1_isPlace : GoodIn wsX1_endTowards (wsV RX1 38 RX1 yX1_isPlace wsX1_isPlace) := goodIn_app (goodIn_of _ (by decide +kernel)) ggX1_endTowards_X1_isPlace
set_option maxRecDepth 20000 in
theorem ggX1_endTowards_X1_milesBy : GoodIn wsX1_endTowards wsX1_milesBy := goodIn_r _ [21, 22, 2, 23, 24, 1, 28, 29, 30, 31, 32, 33, 34, 35] (by decide +kernel) (by decide +kernel)
set_option maxRecDepth 20000 in
theorem gX1_endTowards_X1_milesBy : GoodIn wsX1_endTowards (wsV RX1 64 RX1 yX1_milesBy wsX1_milesBy) := goodIn_app (goodIn_of _ (by decide +kernel)) ggX1_endTowards_X1_milesBy
theorem dX1_endTowards_0 : decode cX1_endTowards 0 = .ok (.aload_n 0, 1) := by decide +kernel
theorem dX1_endTowards_1 : decode cX1_endTowards 1 = .ok (.iload_n 2, 1) := by decide +kernel
theorem dX1_endTowards_2 : decode cX1_endTowards 2 = .ok (.invokevirtual 59, 3) := by decide +kernel
theorem dX1_endTowards_5 : decode cX1_endTowards 5 = .ok (.aload_n 0, 1) := by decide +kernel
theorem dX1_endTowards_6 : decode cX1_endTowards 6 = .ok (.iload_n 1, 1) := by decide +kernel
theorem dX1_endTowards_7 : decode cX1_endTowards 7 = .ok (.invokevirtual 38, 3) := by decide +kernel
theorem dX1_endTowards_10 : decode cX1_endTowards 10 = .ok (.ifCond .eq 14, 3) := by decide +kernel
theorem dX1_endTowards_13 : decode cX1_endTowards 13 = .ok (.aload_n 0, 1) := by decide +kernel
theorem dX1_endTowards_14 : decode cX1_endTowards 14 = .ok (.getfield 31, 3) := by decide +kernel
theorem dX1_endTowards_17 : decode cX1_endTowards 17 = .ok (.iload_n 1, 1) := by decide +kernel
theorem dX1_endTowards_18 : decode cX1_endTowards 18 = .ok (.iaload, 1) := by decide +kernel
theorem dX1_endTowards_19 : decode cX1_endTowards 19 = .ok (.ldc 63, 2) := by decide +kernel
theorem dX1_endTowards_21 : decode cX1_endTowards 21 = .ok (.if_icmp .lt 5, 3) := by decide +kernel
theorem dX1_endTowards_24 : decode cX1_endTowards 24 = .ok (.iconst (-1), 1) := by decide +kernel
theorem dX1_endTowards_25 : decode cX1_endTowards 25 = .ok (.ireturn, 1) := by decide +kernel
theorem dX1_endTowards_26 : decode cX1_endTowards 26 = .ok (.iconst 0, 1) := by decide +kernel
theorem dX1_endTowards_27 : decode cX1_endTowards 27 = .ok (.istore_n 3, 1) := by decide +kernel
theorem dX1_endTowards_28 : decode cX1_endTowards 28 = .ok (.iload_n 3, 1) := by decide +kernel
theorem dX1_endTowards_29 : decode cX1_endTowards 29 = .ok (.aload_n 0, 1) := by decide +kernel
theorem dX1_endTowards_30 : decode cX1_endTowards 30 = .ok (.getfield 9, 3) := by decide +kernel
theorem dX1_endTowards_33 : decode cX1_endTowards 33 = .ok (.iload_n 1, 1) := by decide +kernel
theorem dX1_endTowards_34 : decode cX1_endTowards 34 = .ok (.iaload, 1) := by decide +kernel
theorem dX1_endTowards_35 : decode cX1_endTowards 35 = .ok (.if_icmp .ge 34, 3) := by decide +kernel
theorem dX1_endTowards_38 : decode cX1_endTowards 38 = .ok (.iload_n 1, 1) := by decide +kernel
theorem dX1_endTowards_39 : decode cX1_endTowards 39 = .ok (.iconst 4, 1) := by decide +kernel
theorem dX1_endTowards_40 : decode cX1_endTowards 40 = .ok (.imul, 1) := by decide +kernel
theorem dX1_endTowards_41 : decode cX1_endTowards 41 = .ok (.iload_n 3, 1) := by decide +kernel
theorem dX1_endTowards_42 : decode cX1_endTowards 42 = .ok (.iadd, 1) := by decide +kernel
theorem dX1_endTowards_43 : decode cX1_endTowards 43 = .ok (.istore 4, 2) := by decide +kernel
theorem dX1_endTowards_45 : decode cX1_endTowards 45 = .ok (.aload_n 0, 1) := by decide +kernel
theorem dX1_endTowards_46 : decode cX1_endTowards 46 = .ok (.iload 4, 2) := by decide +kernel
theorem dX1_endTowards_48 : decode cX1_endTowards 48 = .ok (.invokevirtual 64, 3) := by decide +kernel
theorem dX1_endTowards_51 : decode cX1_endTowards 51 = .ok (.aload_n 0, 1) := by decide +kernel
theorem dX1_endTowards_52 : decode cX1_endTowards 52 = .ok (.getfield 31, 3) := by decide +kernel
theorem dX1_endTowards_55 : decode cX1_endTowards 55 = .ok (.iload_n 1, 1) := by decide +kernel
theorem dX1_endTowards_56 : decode cX1_endTowards 56 = .ok (.iaload, 1) := by decide +kernel
theorem dX1_endTowards_57 : decode cX1_endTowards 57 = .ok (.if_icmp .ne 6, 3) := by decide +kernel
theorem dX1_endTowards_60 : decode cX1_endTowards 60 = .ok (.iload 4, 2) := by decide +kernel
theorem dX1_endTowards_62 : decode cX1_endTowards 62 = .ok (.ireturn, 1) := by decide +kernel
theorem dX1_endTowards_63 : decode cX1_endTowards 63 = .ok (.iinc 3 1, 3) := by decide +kernel
theorem dX1_endTowards_66 : decode cX1_endTowards 66 = .ok (.goto (-38), 3) := by decide +kernel
theorem dX1_endTowards_69 : decode cX1_endTowards 69 = .ok (.iconst (-1), 1) := by decide +kernel
theorem dX1_endTowards_70 : decode cX1_endTowards 70 = .ok (.ireturn, 1) := by decide +kernel
set_option maxRecDepth 20000 in
theorem ggX1_measure_J7_fill_53178 : GoodIn wsX1_measure wsJ7_fill_53178 := goodIn_r _ [6] (by decide +kernel) (by decide +kernel)
set_option maxRecDepth 20000 in
theorem gX1_measure_J7_fill_53178 : GoodIn wsX1_measure (va_wsS RX1 67 yJ7_fill_53178 wsJ7_fill_53178) := goodIn_app (goodIn_of _ (by decide +kernel)) ggX1_measure_J7_fill_53178
set_option maxRecDepth 20000 in
theorem ggX1_measure_X1_isPlace : GoodIn wsX1_measure wsX1_isPlace := goodIn_r _ [11, 12, 23, 24, 25, 26, 27, 28, 29, 30] (by decide +kernel) (by decide +kernel)
set_option maxRecDepth 20000 in
theorem gX1_measure_X1_isPlace : GoodIn wsX1_measure (wsV RX1 38 RX1 yX1_isPlace wsX1_isPlace) := goodIn_app (goodIn_of _ (by decide +kernel)) ggX1_measure_X1_isPlace
set_option maxRecDepth 20000 in
theorem ggX1_measure_X1_milesBy : GoodIn wsX1_measure wsX1_milesBy := goodIn_r _ [16, 17, 2, 18, 19, 1, 23, 24, 25, 26, 27, 28, 29, 30] (by decide +kernel) (by decide +kernel)
set_option maxRecDepth 20000 in
theorem gX1_measure_X1_milesBy : GoodIn wsX1_measure (wsV RX1 64 RX1 yX1_milesBy wsX1_milesBy) := goodIn_app (goodIn_of _ (by decide +kernel)) ggX1_measure_X1_milesBy
set_option maxRecDepth 20000 in
theorem ggX1_measure_X3_placeOfEnd : GoodIn wsX1_measure wsX3_placeOfEnd := goodIn_r _ [22] (by decide +kernel) (by decide +kernel)
set_option maxRecDepth 20000 in
theorem gX1_measure_X3_placeOfEnd_n49 : GoodIn wsX1_measure (wsX3_placeOfEnd) := ggX1_measure_X3_placeOfEnd
theorem dX1_measure_0 : decode cX1_measure 0 = .ok (.aload_n 0, 1) := by decide +kernel
theorem dX1_measure_1 : decode cX1_measure 1 = .ok (.getfield 31, 3) := by decide +kernel
theorem dX1_measure_4 : decode cX1_measure 4 = .ok (.ldc 63, 2) := by decide +kernel
theorem dX1_measure_6 : decode cX1_measure 6 = .ok (.invokestatic 67, 3) := by decide +kernel
theorem dX1_measure_9 : decode cX1_measure 9 = .ok (.aload_n 0, 1) := by decide +kernel
theorem dX1_measure_10 : decode cX1_measure 10 = .ok (.iload_n 1, 1) := by decide +kernel
theorem dX1_measure_11 : decode cX1_measure 11 = .ok (.invokevirtual 38, 3) := by decide +kernel
theorem dX1_measure_14 : decode cX1_measure 14 = .ok (.ifCond .eq 10, 3) := by decide +kernel
theorem dX1_measure_17 : decode cX1_measure 17 = .ok (.aload_n 0, 1) := by decide +kernel
theorem dX1_measure_18 : decode cX1_measure 18 = .ok (.getfield 31, 3) := by decide +kernel
theorem dX1_measure_21 : decode cX1_measure 21 = .ok (.iload_n 1, 1) := by decide +kernel
theorem dX1_measure_22 : decode cX1_measure 22 = .ok (.iconst 0, 1) := by decide +kernel
theorem dX1_measure_23 : decode cX1_measure 23 = .ok (.iastore, 1) := by decide +kernel
theorem dX1_measure_24 : decode cX1_measure 24 = .ok (.iconst 1, 1) := by decide +kernel
theorem dX1_measure_25 : decode cX1_measure 25 = .ok (.istore_n 2, 1) := by decide +kernel
theorem dX1_measure_26 : decode cX1_measure 26 = .ok (.iconst 0, 1) := by decide +kernel
theorem dX1_measure_27 : decode cX1_measure 27 = .ok (.istore_n 3, 1) := by decide +kernel
theorem dX1_measure_28 : decode cX1_measure 28 = .ok (.iload_n 3, 1) := by decide +kernel
theorem dX1_measure_29 : decode cX1_measure 29 = .ok (.bipush 10, 2) := by decide +kernel
theorem dX1_measure_31 : decode cX1_measure 31 = .ok (.if_icmp .ge 68, 3) := by decide +kernel
theorem dX1_measure_34 : decode cX1_measure 34 = .ok (.iload_n 2, 1) := by decide +kernel
theorem dX1_measure_35 : decode cX1_measure 35 = .ok (.ifCond .eq 64, 3) := by decide +kernel
theorem dX1_measure_38 : decode cX1_measure 38 = .ok (.iconst 0, 1) := by decide +kernel
theorem dX1_measure_39 : decode cX1_measure 39 = .ok (.istore_n 2, 1) := by decide +kernel
theorem dX1_measure_40 : decode cX1_measure 40 = .ok (.iconst 0, 1) := by decide +kernel
theorem dX1_measure_41 : decode cX1_measure 41 = .ok (.istore 4, 2) := by decide +kernel
theorem dX1_measure_43 : decode cX1_measure 43 = .ok (.iload 4, 2) := by decide +kernel
theorem dX1_measure_45 : decode cX1_measure 45 = .ok (.bipush 40, 2) := by decide +kernel
theorem dX1_measure_47 : decode cX1_measure 47 = .ok (.if_icmp .ge 46, 3) := by decide +kernel
theorem dX1_measure_50 : decode cX1_measure 50 = .ok (.aload_n 0, 1) := by decide +kernel
theorem dX1_measure_51 : decode cX1_measure 51 = .ok (.iload 4, 2) := by decide +kernel
theorem dX1_measure_53 : decode cX1_measure 53 = .ok (.invokevirtual 64, 3) := by decide +kernel
theorem dX1_measure_56 : decode cX1_measure 56 = .ok (.istore 5, 2) := by decide +kernel
theorem dX1_measure_58 : decode cX1_measure 58 = .ok (.iload 5, 2) := by decide +kernel
theorem dX1_measure_60 : decode cX1_measure 60 = .ok (.aload_n 0, 1) := by decide +kernel
theorem dX1_measure_61 : decode cX1_measure 61 = .ok (.getfield 31, 3) := by decide +kernel
theorem dX1_measure_64 : decode cX1_measure 64 = .ok (.iload 4, 2) := by decide +kernel
theorem dX1_measure_66 : decode cX1_measure 66 = .ok (.invokestatic 49, 3) := by decide +kernel
theorem dX1_measure_69 : decode cX1_measure 69 = .ok (.iaload, 1) := by decide +kernel
theorem dX1_measure_70 : decode cX1_measure 70 = .ok (.if_icmp .ge 17, 3) := by decide +kernel
theorem dX1_measure_73 : decode cX1_measure 73 = .ok (.aload_n 0, 1) := by decide +kernel
theorem dX1_measure_74 : decode cX1_measure 74 = .ok (.getfield 31, 3) := by decide +kernel
theorem dX1_measure_77 : decode cX1_measure 77 = .ok (.iload 4, 2) := by decide +kernel
theorem dX1_measure_79 : decode cX1_measure 79 = .ok (.invokestatic 49, 3) := by decide +kernel
theorem dX1_measure_82 : decode cX1_measure 82 = .ok (.iload 5, 2) := by decide +kernel
theorem dX1_measure_84 : decode cX1_measure 84 = .ok (.iastore, 1) := by decide +kernel
theorem dX1_measure_85 : decode cX1_measure 85 = .ok (.iconst 1, 1) := by decide +kernel
theorem dX1_measure_86 : decode cX1_measure 86 = .ok (.istore_n 2, 1) := by decide +kernel
theorem dX1_measure_87 : decode cX1_measure 87 = .ok (.iinc 4 1, 3) := by decide +kernel
theorem dX1_measure_90 : decode cX1_measure 90 = .ok (.goto (-47), 3) := by decide +kernel
theorem dX1_measure_93 : decode cX1_measure 93 = .ok (.iinc 3 1, 3) := by decide +kernel
theorem dX1_measure_96 : decode cX1_measure 96 = .ok (.goto (-68), 3) := by decide +kernel
theorem dX1_measure_99 : decode cX1_measure 99 = .ok (.return_, 1) := by decide +kernel
theorem dX1_milesBy_0 : decode cX1_milesBy 0 = .ok (.iload_n 1, 1) := by decide +kernel
theorem dX1_milesBy_1 : decode cX1_milesBy 1 = .ok (.ifCond .lt 18, 3) := by decide +kernel
theorem dX1_milesBy_4 : decode cX1_milesBy 4 = .ok (.iload_n 1, 1) := by decide +kernel
theorem dX1_milesBy_5 : decode cX1_milesBy 5 = .ok (.bipush 40, 2) := by decide +kernel
theorem dX1_milesBy_7 : decode cX1_milesBy 7 = .ok (.if_icmp .ge 12, 3) := by decide +kernel
theorem dX1_milesBy_10 : decode cX1_milesBy 10 = .ok (.aload_n 0, 1) := by decide +kernel
theorem dX1_milesBy_11 : decode cX1_milesBy 11 = .ok (.getfield 28, 3) := by decide +kernel
theorem dX1_milesBy_14 : decode cX1_milesBy 14 = .ok (.iload_n 1, 1) := by decide +kernel
theorem dX1_milesBy_15 : decode cX1_milesBy 15 = .ok (.baload, 1) := by decide +kernel
theorem dX1_milesBy_16 : decode cX1_milesBy 16 = .ok (.ifCond .ne 6, 3) := by decide +kernel
theorem dX1_milesBy_19 : decode cX1_milesBy 19 = .ok (.ldc 63, 2) := by decide +kernel
theorem dX1_milesBy_21 : decode cX1_milesBy 21 = .ok (.ireturn, 1) := by decide +kernel
theorem dX1_milesBy_22 : decode cX1_milesBy 22 = .ok (.aload_n 0, 1) := by decide +kernel
theorem dX1_milesBy_23 : decode cX1_milesBy 23 = .ok (.getfield 19, 3) := by decide +kernel
theorem dX1_milesBy_26 : decode cX1_milesBy 26 = .ok (.iload_n 1, 1) := by decide +kernel
theorem dX1_milesBy_27 : decode cX1_milesBy 27 = .ok (.iaload, 1) := by decide +kernel
theorem dX1_milesBy_28 : decode cX1_milesBy 28 = .ok (.istore_n 2, 1) := by decide +kernel
theorem dX1_milesBy_29 : decode cX1_milesBy 29 = .ok (.iload_n 2, 1) := by decide +kernel
theorem dX1_milesBy_30 : decode cX1_milesBy 30 = .ok (.ifCond .lt 25, 3) := by decide +kernel
theorem dX1_milesBy_33 : decode cX1_milesBy 33 = .ok (.iload_n 2, 1) := by decide +kernel
theorem dX1_milesBy_34 : decode cX1_milesBy 34 = .ok (.bipush 10, 2) := by decide +kernel
theorem dX1_milesBy_36 : decode cX1_milesBy 36 = .ok (.if_icmp .ge 19, 3) := by decide +kernel
theorem dX1_milesBy_39 : decode cX1_milesBy 39 = .ok (.aload_n 0, 1) := by decide +kernel
theorem dX1_milesBy_40 : decode cX1_milesBy 40 = .ok (.getfield 25, 3) := by decide +kernel
theorem dX1_milesBy_43 : decode cX1_milesBy 43 = .ok (.iload_n 1, 1) := by decide +kernel
theorem dX1_milesBy_44 : decode cX1_milesBy 44 = .ok (.iaload, 1) := by decide +kernel
theorem dX1_milesBy_45 : decode cX1_milesBy 45 = .ok (.aload_n 0, 1) := by decide +kernel
theorem dX1_milesBy_46 : decode cX1_milesBy 46 = .ok (.getfield 31, 3) := by decide +kernel
theorem dX1_milesBy_49 : decode cX1_milesBy 49 = .ok (.iload_n 2, 1) := by decide +kernel
theorem dX1_milesBy_50 : decode cX1_milesBy 50 = .ok (.iaload, 1) := by decide +kernel
theorem dX1_milesBy_51 : decode cX1_milesBy 51 = .ok (.iadd, 1) := by decide +kernel
theorem dX1_milesBy_52 : decode cX1_milesBy 52 = .ok (.goto 5, 3) := by decide +kernel
theorem dX1_milesBy_55 : decode cX1_milesBy 55 = .ok (.ldc 63, 2) := by decide +kernel
theorem dX1_milesBy_57 : decode cX1_milesBy 57 = .ok (.ireturn, 1) := by decide +kernel
theorem dX2_init_0 : decode cX2_init 0 = .ok (.aload_n 0, 1) := by decide +kernel
theorem dX2_init_1 : decode cX2_init 1 = .ok (.invokespecial 3, 3) := by decide +kernel
theorem dX2_init_4 : decode cX2_init 4 = .ok (.aload_n 0, 1) := by decide +kernel
theorem dX2_init_5 : decode cX2_init 5 = .ok (.bipush 100, 2) := by decide +kernel
theorem dX2_init_7 : decode cX2_init 7 = .ok (.newarray .int, 2) := by decide +kernel
theorem dX2_init_9 : decode cX2_init 9 = .ok (.putfield 9, 3) := by decide +kernel
theorem dX2_init_12 : decode cX2_init 12 = .ok (.aload_n 0, 1) := by decide +kernel
theorem dX2_init_13 : decode cX2_init 13 = .ok (.bipush 100, 2) := by decide +kernel
theorem dX2_init_15 : decode cX2_init 15 = .ok (.newarray .int, 2) := by decide +kernel
theorem dX2_init_17 : decode cX2_init 17 = .ok (.putfield 15, 3) := by decide +kernel
theorem dX2_init_20 : decode cX2_init 20 = .ok (.return_, 1) := by decide +kernel
set_option maxRecDepth 20000 in
theorem ggX2_exitFor_X2_spotOf : GoodIn wsX2_exitFor wsX2_spotOf := goodIn_r _ [6] (by decide +kernel) (by decide +kernel)
set_option maxRecDepth 20000 in
theorem gX2_exitFor_X2_spotOf : GoodIn wsX2_exitFor (va_wsS RX2 18 yX2_spotOf wsX2_spotOf) := goodIn_app (goodIn_of _ (by decide +kernel)) ggX2_exitFor_X2_spotOf
theorem dX2_exitFor_0 : decode cX2_exitFor 0 = .ok (.iload_n 1, 1) := by decide +kernel
theorem dX2_exitFor_1 : decode cX2_exitFor 1 = .ok (.iload_n 2, 1) := by decide +kernel
theorem dX2_exitFor_2 : decode cX2_exitFor 2 = .ok (.invokestatic 18, 3) := by decide +kernel
theorem dX2_exitFor_5 : decode cX2_exitFor 5 = .ok (.istore_n 3, 1) := by decide +kernel
theorem dX2_exitFor_6 : decode cX2_exitFor 6 = .ok (.iload_n 3, 1) := by decide +kernel
theorem dX2_exitFor_7 : decode cX2_exitFor 7 = .ok (.iconst (-1), 1) := by decide +kernel
theorem dX2_exitFor_8 : decode cX2_exitFor 8 = .ok (.if_icmp .eq 21, 3) := by decide +kernel
theorem dX2_exitFor_11 : decode cX2_exitFor 11 = .ok (.aload_n 0, 1) := by decide +kernel
theorem dX2_exitFor_12 : decode cX2_exitFor 12 = .ok (.getfield 15, 3) := by decide +kernel
theorem dX2_exitFor_15 : decode cX2_exitFor 15 = .ok (.iload_n 3, 1) := by decide +kernel
theorem dX2_exitFor_16 : decode cX2_exitFor 16 = .ok (.iaload, 1) := by decide +kernel
theorem dX2_exitFor_17 : decode cX2_exitFor 17 = .ok (.ifCond .le 12, 3) := by decide +kernel
theorem dX2_exitFor_20 : decode cX2_exitFor 20 = .ok (.aload_n 0, 1) := by decide +kernel
theorem dX2_exitFor_21 : decode cX2_exitFor 21 = .ok (.getfield 9, 3) := by decide +kernel
theorem dX2_exitFor_24 : decode cX2_exitFor 24 = .ok (.iload_n 3, 1) := by decide +kernel
theorem dX2_exitFor_25 : decode cX2_exitFor 25 = .ok (.iaload, 1) := by decide +kernel
theorem dX2_exitFor_26 : decode cX2_exitFor 26 = .ok (.goto 4, 3) := by decide +kernel
theorem dX2_exitFor_29 : decode cX2_exitFor 29 = .ok (.iconst (-1), 1) := by decide +kernel
theorem dX2_exitFor_30 : decode cX2_exitFor 30 = .ok (.ireturn, 1) := by decide +kernel
set_option maxRecDepth 20000 in
theorem ggX2_strengthFor_X2_spotOf : GoodIn wsX2_strengthFor wsX2_spotOf := goodIn_r _ [5] (by decide +kernel) (by decide +kernel)
set_option maxRecDepth 20000 in
theorem gX2_strengthFor_X2_spotOf : GoodIn wsX2_strengthFor (va_wsS RX2 18 yX2_spotOf wsX2_spotOf) := goodIn_app (goodIn_of _ (by decide +kernel)) ggX2_strengthFor_X2_spotOf
theorem dX2_strengthFor_0 : decode cX2_strengthFor 0 = .ok (.iload_n 1, 1) := by decide +kernel
theorem dX2_strengthFor_1 : decode cX2_strengthFor 1 = .ok (.iload_n 2, 1) := by decide +kernel
theorem dX2_strengthFor_2 : decode cX2_strengthFor 2 = .ok (.invokestatic 18, 3) := by decide +kernel
theorem dX2_strengthFor_5 : decode cX2_strengthFor 5 = .ok (.istore_n 3, 1) := by decide +kernel
theorem dX2_strengthFor_6 : decode cX2_strengthFor 6 = .ok (.iload_n 3, 1) := by decide +kernel
theorem dX2_strengthFor_7 : decode cX2_strengthFor 7 = .ok (.iconst (-1), 1) := by decide +kernel
theorem dX2_strengthFor_8 : decode cX2_strengthFor 8 = .ok (.if_icmp .eq 12, 3) := by decide +kernel
theorem dX2_strengthFor_11 : decode cX2_strengthFor 11 = .ok (.aload_n 0, 1) := by decide +kernel
theorem dX2_strengthFor_12 : decode cX2_strengthFor 12 = .ok (.getfield 15, 3) := by decide +kernel
theorem dX2_strengthFor_15 : decode cX2_strengthFor 15 = .ok (.iload_n 3, 1) := by decide +kernel
theorem dX2_strengthFor_16 : decode cX2_strengthFor 16 = .ok (.iaload, 1) := by decide +kernel
theorem dX2_strengthFor_17 : decode cX2_strengthFor 17 = .ok (.goto 4, 3) := by decide +kernel
theorem dX2_strengthFor_20 : decode cX2_strengthFor 20 = .ok (.iconst 0, 1) := by decide +kernel
theorem dX2_strengthFor_21 : decode cX2_strengthFor 21 = .ok (.ireturn, 1) := by decide +kernel
set_option maxRecDepth 20000 in
theorem ggX2_learn_X2_spotOf : GoodIn wsX2_learn wsX2_spotOf := goodIn_r _ [6] (by decide +kernel) (by decide +kernel)
set_option maxRecDepth 20000 in
theorem gX2_learn_X2_spotOf : GoodIn wsX2_learn (va_wsS RX2 18 yX2_spotOf wsX2_spotOf) := goodIn_app (goodIn_of _ (by decide +kernel)) ggX2_learn_X2_spotOf
theorem dX2_learn_0 : decode cX2_learn 0 = .ok (.iload_n 1, 1) := by decide +kernel
theorem dX2_learn_1 : decode cX2_learn 1 = .ok (.iload_n 2, 1) := by decide +kernel
theorem dX2_learn_2 : decode cX2_learn 2 = .ok (.invokestatic 18, 3) := by decide +kernel
theorem dX2_learn_5 : decode cX2_learn 5 = .ok (.istore 4, 2) := by decide +kernel
theorem dX2_learn_7 : decode cX2_learn 7 = .ok (.iload 4, 2) := by decide +kernel
theorem dX2_learn_9 : decode cX2_learn 9 = .ok (.iconst (-1), 1) := by decide +kernel
theorem dX2_learn_10 : decode cX2_learn 10 = .ok (.if_icmp .eq 19, 3) := by decide +kernel
theorem dX2_learn_13 : decode cX2_learn 13 = .ok (.aload_n 0, 1) := by decide +kernel
theorem dX2_learn_14 : decode cX2_learn 14 = .ok (.getfield 9, 3) := by decide +kernel
theorem dX2_learn_17 : decode cX2_learn 17 = .ok (.iload 4, 2) := by decide +kernel
theorem dX2_learn_19 : decode cX2_learn 19 = .ok (.iload_n 3, 1) := by decide +kernel
theorem dX2_learn_20 : decode cX2_learn 20 = .ok (.iastore, 1) := by decide +kernel
theorem dX2_learn_21 : decode cX2_learn 21 = .ok (.aload_n 0, 1) := by decide +kernel
theorem dX2_learn_22 : decode cX2_learn 22 = .ok (.getfield 15, 3) := by decide +kernel
theorem dX2_learn_25 : decode cX2_learn 25 = .ok (.iload 4, 2) := by decide +kernel
theorem dX2_learn_27 : decode cX2_learn 27 = .ok (.iconst 3, 1) := by decide +kernel
theorem dX2_learn_28 : decode cX2_learn 28 = .ok (.iastore, 1) := by decide +kernel
theorem dX2_learn_29 : decode cX2_learn 29 = .ok (.return_, 1) := by decide +kernel
set_option maxRecDepth 20000 in
theorem ggX2_confirm_X2_spotOf : GoodIn wsX2_confirm wsX2_spotOf := goodIn_r _ [10] (by decide +kernel) (by decide +kernel)
set_option maxRecDepth 20000 in
theorem gX2_confirm_X2_spotOf : GoodIn wsX2_confirm (va_wsS RX2 18 yX2_spotOf wsX2_spotOf) := goodIn_app (goodIn_of _ (by decide +kernel)) ggX2_confirm_X2_spotOf
set_option maxRecDepth 20000 in
theorem ggX2_confirm_X2_learn : GoodIn wsX2_confirm wsX2_learn := goodIn_r _ [14, 2, 1, 7, 8, 9, 10, 15, 16] (by decide +kernel) (by decide +kernel)
set_option maxRecDepth 20000 in
theorem gX2_confirm_X2_learn : GoodIn wsX2_confirm (wsV RX2 27 RX2 yX2_learn wsX2_learn) := goodIn_app (goodIn_of _ (by decide +kernel)) ggX2_confirm_X2_learn
theorem dX2_confirm_0 : decode cX2_confirm 0 = .ok (.iload_n 1, 1) := by decide +kernel
theorem dX2_confirm_1 : decode cX2_confirm 1 = .ok (.iload_n 2, 1) := by decide +kernel
theorem dX2_confirm_2 : decode cX2_confirm 2 = .ok (.invokestatic 18, 3) := by decide +kernel
theorem dX2_confirm_5 : decode cX2_confirm 5 = .ok (.istore 4, 2) := by decide +kernel
theorem dX2_confirm_7 : decode cX2_confirm 7 = .ok (.iload 4, 2) := by decide +kernel
theorem dX2_confirm_9 : decode cX2_confirm 9 = .ok (.iconst (-1), 1) := by decide +kernel
theorem dX2_confirm_10 : decode cX2_confirm 10 = .ok (.if_icmp .eq 48, 3) := by decide +kernel
theorem dX2_confirm_13 : decode cX2_confirm 13 = .ok (.aload_n 0, 1) := by decide +kernel
theorem dX2_confirm_14 : decode cX2_confirm 14 = .ok (.getfield 15, 3) := by decide +kernel
theorem dX2_confirm_17 : decode cX2_confirm 17 = .ok (.iload 4, 2) := by decide +kernel
theorem dX2_confirm_19 : decode cX2_confirm 19 = .ok (.iaload, 1) := by decide +kernel
theorem dX2_confirm_20 : decode cX2_confirm 20 = .ok (.ifCond .le 38, 3) := by decide +kernel
theorem dX2_confirm_23 : decode cX2_confirm 23 = .ok (.aload_n 0, 1) := by decide +kernel
theorem dX2_confirm_24 : decode cX2_confirm 24 = .ok (.getfield 9, 3) := by decide +kernel
theorem dX2_confirm_27 : decode cX2_confirm 27 = .ok (.iload 4, 2) := by decide +kernel
theorem dX2_confirm_29 : decode cX2_confirm 29 = .ok (.iaload, 1) := by decide +kernel
theorem dX2_confirm_30 : decode cX2_confirm 30 = .ok (.iload_n 3, 1) := by decide +kernel
theorem dX2_confirm_31 : decode cX2_confirm 31 = .ok (.if_icmp .ne 27, 3) := by decide +kernel
theorem dX2_confirm_34 : decode cX2_confirm 34 = .ok (.aload_n 0, 1) := by decide +kernel
theorem dX2_confirm_35 : decode cX2_confirm 35 = .ok (.getfield 15, 3) := by decide +kernel
theorem dX2_confirm_38 : decode cX2_confirm 38 = .ok (.iload 4, 2) := by decide +kernel
theorem dX2_confirm_40 : decode cX2_confirm 40 = .ok (.bipush 9, 2) := by decide +kernel
theorem dX2_confirm_42 : decode cX2_confirm 42 = .ok (.aload_n 0, 1) := by decide +kernel
theorem dX2_confirm_43 : decode cX2_confirm 43 = .ok (.getfield 15, 3) := by decide +kernel
theorem dX2_confirm_46 : decode cX2_confirm 46 = .ok (.iload 4, 2) := by decide +kernel
theorem dX2_confirm_48 : decode cX2_confirm 48 = .ok (.iaload, 1) := by decide +kernel
theorem dX2_confirm_49 : decode cX2_confirm 49 = .ok (.iconst 3, 1) := by decide +kernel
theorem dX2_confirm_50 : decode cX2_confirm 50 = .ok (.iadd, 1) := by decide +kernel
theorem dX2_confirm_51 : decode cX2_confirm 51 = .ok (.invokestatic 22, 3) := by decide +kernel
theorem dX2_confirm_54 : decode cX2_confirm 54 = .ok (.iastore, 1) := by decide +kernel
theorem dX2_confirm_55 : decode cX2_confirm 55 = .ok (.goto 10, 3) := by decide +kernel
theorem dX2_confirm_58 : decode cX2_confirm 58 = .ok (.aload_n 0, 1) := by decide +kernel
theorem dX2_confirm_59 : decode cX2_confirm 59 = .ok (.iload_n 1, 1) := by decide +kernel
theorem dX2_confirm_60 : decode cX2_confirm 60 = .ok (.iload_n 2, 1) := by decide +kernel
theorem dX2_confirm_61 : decode cX2_confirm 61 = .ok (.iload_n 3, 1) := by decide +kernel
theorem dX2_confirm_62 : decode cX2_confirm 62 = .ok (.invokevirtual 27, 3) := by decide +kernel
theorem dX2_confirm_65 : decode cX2_confirm 65 = .ok (.return_, 1) := by decide +kernel
theorem dX2_fade_0 : decode cX2_fade 0 = .ok (.iconst 0, 1) := by decide +kernel
theorem dX2_fade_1 : decode cX2_fade 1 = .ok (.istore_n 2, 1) := by decide +kernel
theorem dX2_fade_2 : decode cX2_fade 2 = .ok (.iconst 0, 1) := by decide +kernel
theorem dX2_fade_3 : decode cX2_fade 3 = .ok (.istore_n 3, 1) := by decide +kernel
theorem dX2_fade_4 : decode cX2_fade 4 = .ok (.iload_n 3, 1) := by decide +kernel
theorem dX2_fade_5 : decode cX2_fade 5 = .ok (.aload_n 0, 1) := by decide +kernel
theorem dX2_fade_6 : decode cX2_fade 6 = .ok (.getfield 15, 3) := by decide +kernel
theorem dX2_fade_9 : decode cX2_fade 9 = .ok (.arraylength, 1) := by decide +kernel
theorem dX2_fade_10 : decode cX2_fade 10 = .ok (.if_icmp .ge 60, 3) := by decide +kernel
theorem dX2_fade_13 : decode cX2_fade 13 = .ok (.aload_n 0, 1) := by decide +kernel
theorem dX2_fade_14 : decode cX2_fade 14 = .ok (.getfield 15, 3) := by decide +kernel
theorem dX2_fade_17 : decode cX2_fade 17 = .ok (.iload_n 3, 1) := by decide +kernel
theorem dX2_fade_18 : decode cX2_fade 18 = .ok (.iaload, 1) := by decide +kernel
theorem dX2_fade_19 : decode cX2_fade 19 = .ok (.ifCond .le 7, 3) := by decide +kernel
theorem dX2_fade_22 : decode cX2_fade 22 = .ok (.iconst 1, 1) := by decide +kernel
theorem dX2_fade_23 : decode cX2_fade 23 = .ok (.goto 4, 3) := by decide +kernel
theorem dX2_fade_26 : decode cX2_fade 26 = .ok (.iconst 0, 1) := by decide +kernel
theorem dX2_fade_27 : decode cX2_fade 27 = .ok (.istore 4, 2) := by decide +kernel
theorem dX2_fade_29 : decode cX2_fade 29 = .ok (.aload_n 0, 1) := by decide +kernel
theorem dX2_fade_30 : decode cX2_fade 30 = .ok (.getfield 15, 3) := by decide +kernel
theorem dX2_fade_33 : decode cX2_fade 33 = .ok (.iload_n 3, 1) := by decide +kernel
theorem dX2_fade_34 : decode cX2_fade 34 = .ok (.iconst 0, 1) := by decide +kernel
theorem dX2_fade_35 : decode cX2_fade 35 = .ok (.aload_n 0, 1) := by decide +kernel
theorem dX2_fade_36 : decode cX2_fade 36 = .ok (.getfield 15, 3) := by decide +kernel
theorem dX2_fade_39 : decode cX2_fade 39 = .ok (.iload_n 3, 1) := by decide +kernel
theorem dX2_fade_40 : decode cX2_fade 40 = .ok (.iaload, 1) := by decide +kernel
theorem dX2_fade_41 : decode cX2_fade 41 = .ok (.iload_n 1, 1) := by decide +kernel
theorem dX2_fade_42 : decode cX2_fade 42 = .ok (.isub, 1) := by decide +kernel
theorem dX2_fade_43 : decode cX2_fade 43 = .ok (.invokestatic 31, 3) := by decide +kernel
theorem dX2_fade_46 : decode cX2_fade 46 = .ok (.iastore, 1) := by decide +kernel
theorem dX2_fade_47 : decode cX2_fade 47 = .ok (.iload 4, 2) := by decide +kernel
theorem dX2_fade_49 : decode cX2_fade 49 = .ok (.ifCond .eq 15, 3) := by decide +kernel
theorem dX2_fade_52 : decode cX2_fade 52 = .ok (.aload_n 0, 1) := by decide +kernel
theorem dX2_fade_53 : decode cX2_fade 53 = .ok (.getfield 15, 3) := by decide +kernel
theorem dX2_fade_56 : decode cX2_fade 56 = .ok (.iload_n 3, 1) := by decide +kernel
theorem dX2_fade_57 : decode cX2_fade 57 = .ok (.iaload, 1) := by decide +kernel
theorem dX2_fade_58 : decode cX2_fade 58 = .ok (.ifCond .ne 6, 3) := by decide +kernel
theorem dX2_fade_61 : decode cX2_fade 61 = .ok (.iinc 2 1, 3) := by decide +kernel
theorem dX2_fade_64 : decode cX2_fade 64 = .ok (.iinc 3 1, 3) := by decide +kernel
theorem dX2_fade_67 : decode cX2_fade 67 = .ok (.goto (-63), 3) := by decide +kernel
theorem dX2_fade_70 : decode cX2_fade 70 = .ok (.iload_n 2, 1) := by decide +kernel
theorem dX2_fade_71 : decode cX2_fade 71 = .ok (.ireturn, 1) := by decide +kernel
theorem dX2_copyFrom_0 : decode cX2_copyFrom 0 = .ok (.aload_n 1, 1) := by decide +kernel
theorem dX2_copyFrom_1 : decode cX2_copyFrom 1 = .ok (.getfield 9, 3) := by decide +kernel
theorem dX2_copyFrom_4 : decode cX2_copyFrom 4 = .ok (.iconst 0, 1) := by decide +kernel
theorem dX2_copyFrom_5 : decode cX2_copyFrom 5 = .ok (.aload_n 0, 1) := by decide +kernel
theorem dX2_copyFrom_6 : decode cX2_copyFrom 6 = .ok (.getfield 9, 3) := by decide +kernel
theorem dX2_copyFrom_9 : decode cX2_copyFrom 9 = .ok (.iconst 0, 1) := by decide +kernel
theorem dX2_copyFrom_10 : decode cX2_copyFrom 10 = .ok (.aload_n 0, 1) := by decide +kernel
theorem dX2_copyFrom_11 : decode cX2_copyFrom 11 = .ok (.getfield 9, 3) := by decide +kernel
theorem dX2_copyFrom_14 : decode cX2_copyFrom 14 = .ok (.arraylength, 1) := by decide +kernel
theorem dX2_copyFrom_15 : decode cX2_copyFrom 15 = .ok (.invokestatic 34, 3) := by decide +kernel
theorem dX2_copyFrom_18 : decode cX2_copyFrom 18 = .ok (.aload_n 1, 1) := by decide +kernel
theorem dX2_copyFrom_19 : decode cX2_copyFrom 19 = .ok (.getfield 15, 3) := by decide +kernel
theorem dX2_copyFrom_22 : decode cX2_copyFrom 22 = .ok (.iconst 0, 1) := by decide +kernel
theorem dX2_copyFrom_23 : decode cX2_copyFrom 23 = .ok (.aload_n 0, 1) := by decide +kernel
theorem dX2_copyFrom_24 : decode cX2_copyFrom 24 = .ok (.getfield 15, 3) := by decide +kernel
theorem dX2_copyFrom_27 : decode cX2_copyFrom 27 = .ok (.iconst 0, 1) := by decide +kernel
theorem dX2_copyFrom_28 : decode cX2_copyFrom 28 = .ok (.aload_n 0, 1) := by decide +kernel
theorem dX2_copyFrom_29 : decode cX2_copyFrom 29 = .ok (.getfield 15, 3) := by decide +kernel
theorem dX2_copyFrom_32 : decode cX2_copyFrom 32 = .ok (.arraylength, 1) := by decide +kernel
theorem dX2_copyFrom_33 : decode cX2_copyFrom 33 = .ok (.invokestatic 34, 3) := by decide +kernel
theorem dX2_copyFrom_36 : decode cX2_copyFrom 36 = .ok (.return_, 1) := by decide +kernel
theorem dX2_spotOf_0 : decode cX2_spotOf 0 = .ok (.iload_n 0, 1) := by decide +kernel
theorem dX2_spotOf_1 : decode cX2_spotOf 1 = .ok (.ifCond .lt 23, 3) := by decide +kernel
theorem dX2_spotOf_4 : decode cX2_spotOf 4 = .ok (.iload_n 0, 1) := by decide +kernel
theorem dX2_spotOf_5 : decode cX2_spotOf 5 = .ok (.bipush 10, 2) := by decide +kernel
theorem dX2_spotOf_7 : decode cX2_spotOf 7 = .ok (.if_icmp .ge 17, 3) := by decide +kernel
theorem dX2_spotOf_10 : decode cX2_spotOf 10 = .ok (.iload_n 1, 1) := by decide +kernel
theorem dX2_spotOf_11 : decode cX2_spotOf 11 = .ok (.ifCond .lt 13, 3) := by decide +kernel
theorem dX2_spotOf_14 : decode cX2_spotOf 14 = .ok (.iload_n 1, 1) := by decide +kernel
theorem dX2_spotOf_15 : decode cX2_spotOf 15 = .ok (.bipush 10, 2) := by decide +kernel
theorem dX2_spotOf_17 : decode cX2_spotOf 17 = .ok (.if_icmp .ge 7, 3) := by decide +kernel
theorem dX2_spotOf_20 : decode cX2_spotOf 20 = .ok (.iconst 1, 1) := by decide +kernel
theorem dX2_spotOf_21 : decode cX2_spotOf 21 = .ok (.goto 4, 3) := by decide +kernel
theorem dX2_spotOf_24 : decode cX2_spotOf 24 = .ok (.iconst 0, 1) := by decide +kernel
theorem dX2_spotOf_25 : decode cX2_spotOf 25 = .ok (.istore_n 2, 1) := by decide +kernel
theorem dX2_spotOf_26 : decode cX2_spotOf 26 = .ok (.iload_n 2, 1) := by decide +kernel
theorem dX2_spotOf_27 : decode cX2_spotOf 27 = .ok (.ifCond .eq 12, 3) := by decide +kernel
theorem dX2_spotOf_30 : decode cX2_spotOf 30 = .ok (.iload_n 0, 1) := by decide +kernel
theorem dX2_spotOf_31 : decode cX2_spotOf 31 = .ok (.bipush 10, 2) := by decide +kernel
theorem dX2_spotOf_33 : decode cX2_spotOf 33 = .ok (.imul, 1) := by decide +kernel
theorem dX2_spotOf_34 : decode cX2_spotOf 34 = .ok (.iload_n 1, 1) := by decide +kernel
theorem dX2_spotOf_35 : decode cX2_spotOf 35 = .ok (.iadd, 1) := by decide +kernel
theorem dX2_spotOf_36 : decode cX2_spotOf 36 = .ok (.goto 4, 3) := by decide +kernel
theorem dX2_spotOf_39 : decode cX2_spotOf 39 = .ok (.iconst (-1), 1) := by decide +kernel
theorem dX2_spotOf_40 : decode cX2_spotOf 40 = .ok (.ireturn, 1) := by decide +kernel
set_option maxRecDepth 20000 in
theorem ggX3_init_X1_init : GoodIn wsX3_init wsX1_init := goodIn_r _ [14, 15, 2, 3, 16, 17, 18, 19, 20, 21, 22, 23, 24, 44, 45, 46, 47, 48, 49, 50, 51] (by decide +kernel) (by decide +kernel)
set_option maxRecDepth 20000 in
theorem gX3_init_X1_init_n11 : GoodIn wsX3_init (wsX1_init) := ggX3_init_X1_init
set_option maxRecDepth 20000 in
theorem ggX3_init_X0_init : GoodIn wsX3_init wsX0_init := goodIn_r _ [27, 28, 2, 3, 29, 30, 31, 32, 33, 16, 34, 18, 35, 36, 37, 38, 39, 40, 41, 42, 43, 70, 71, 55, 56, 57, 58, 59, 60, 61, 62, 63, 64, 65, 66, 67, 68, 69] (by decide +kernel) (by decide +kernel)
set_option maxRecDepth 20000 in
theorem gX3_init_X0_init : GoodIn wsX3_init (wsX0_init) := ggX3_init_X0_init
theorem dX3_init_0 : decode cX3_init 0 = .ok (.aload_n 0, 1) := by decide +kernel
theorem dX3_init_1 : decode cX3_init 1 = .ok (.invokespecial 3, 3) := by decide +kernel
theorem dX3_init_4 : decode cX3_init 4 = .ok (.aload_n 0, 1) := by decide +kernel
theorem dX3_init_5 : decode cX3_init 5 = .ok (.new 9, 3) := by decide +kernel
theorem dX3_init_8 : decode cX3_init 8 = .ok (.dup, 1) := by decide +kernel
theorem dX3_init_9 : decode cX3_init 9 = .ok (.invokespecial 11, 3) := by decide +kernel
theorem dX3_init_12 : decode cX3_init 12 = .ok (.putfield 12, 3) := by decide +kernel
theorem dX3_init_15 : decode cX3_init 15 = .ok (.aload_n 0, 1) := by decide +kernel
theorem dX3_init_16 : decode cX3_init 16 = .ok (.new 16, 3) := by decide +kernel
theorem dX3_init_19 : decode cX3_init 19 = .ok (.dup, 1) := by decide +kernel
theorem dX3_init_20 : decode cX3_init 20 = .ok (.aload_n 0, 1) := by decide +kernel
theorem dX3_init_21 : decode cX3_init 21 = .ok (.getfield 12, 3) := by decide +kernel
theorem dX3_init_24 : decode cX3_init 24 = .ok (.invokespecial 18, 3) := by decide +kernel
theorem dX3_init_27 : decode cX3_init 27 = .ok (.putfield 21, 3) := by decide +kernel
theorem dX3_init_30 : decode cX3_init 30 = .ok (.aload_n 0, 1) := by decide +kernel
theorem dX3_init_31 : decode cX3_init 31 = .ok (.new 16, 3) := by decide +kernel
theorem dX3_init_34 : decode cX3_init 34 = .ok (.dup, 1) := by decide +kernel
theorem dX3_init_35 : decode cX3_init 35 = .ok (.aload_n 0, 1) := by decide +kernel
theorem dX3_init_36 : decode cX3_init 36 = .ok (.getfield 12, 3) := by decide +kernel
theorem dX3_init_39 : decode cX3_init 39 = .ok (.invokespecial 18, 3) := by decide +kernel
theorem dX3_init_42 : decode cX3_init 42 = .ok (.putfield 25, 3) := by decide +kernel
theorem dX3_init_45 : decode cX3_init 45 = .ok (.return_, 1) := by decide +kernel
theorem dX3_addPlace_0 : decode cX3_addPlace 0 = .ok (.aload_n 0, 1) := by decide +kernel
theorem dX3_addPlace_1 : decode cX3_addPlace 1 = .ok (.getfield 12, 3) := by decide +kernel
theorem dX3_addPlace_4 : decode cX3_addPlace 4 = .ok (.getfield 28, 3) := by decide +kernel
theorem dX3_addPlace_7 : decode cX3_addPlace 7 = .ok (.bipush 10, 2) := by decide +kernel
theorem dX3_addPlace_9 : decode cX3_addPlace 9 = .ok (.if_icmp .lt 13, 3) := by decide +kernel
theorem dX3_addPlace_12 : decode cX3_addPlace 12 = .ok (.new 32, 3) := by decide +kernel
theorem dX3_addPlace_15 : decode cX3_addPlace 15 = .ok (.dup, 1) := by decide +kernel
theorem dX3_addPlace_16 : decode cX3_addPlace 16 = .ok (.ldc 34, 2) := by decide +kernel
theorem dX3_addPlace_18 : decode cX3_addPlace 18 = .ok (.invokespecial 36, 3) := by decide +kernel
theorem dX3_addPlace_21 : decode cX3_addPlace 21 = .ok (.athrow, 1) := by decide +kernel
theorem dX3_addPlace_22 : decode cX3_addPlace 22 = .ok (.aload_n 0, 1) := by decide +kernel
theorem dX3_addPlace_23 : decode cX3_addPlace 23 = .ok (.getfield 12, 3) := by decide +kernel
theorem dX3_addPlace_26 : decode cX3_addPlace 26 = .ok (.dup, 1) := by decide +kernel
theorem dX3_addPlace_27 : decode cX3_addPlace 27 = .ok (.getfield 28, 3) := by decide +kernel
theorem dX3_addPlace_30 : decode cX3_addPlace 30 = .ok (.iconst 1, 1) := by decide +kernel
theorem dX3_addPlace_31 : decode cX3_addPlace 31 = .ok (.iadd, 1) := by decide +kernel
theorem dX3_addPlace_32 : decode cX3_addPlace 32 = .ok (.putfield 28, 3) := by decide +kernel
theorem dX3_addPlace_35 : decode cX3_addPlace 35 = .ok (.aload_n 0, 1) := by decide +kernel
theorem dX3_addPlace_36 : decode cX3_addPlace 36 = .ok (.getfield 12, 3) := by decide +kernel
theorem dX3_addPlace_39 : decode cX3_addPlace 39 = .ok (.getfield 28, 3) := by decide +kernel
theorem dX3_addPlace_42 : decode cX3_addPlace 42 = .ok (.iconst 1, 1) := by decide +kernel
theorem dX3_addPlace_43 : decode cX3_addPlace 43 = .ok (.isub, 1) := by decide +kernel
theorem dX3_addPlace_44 : decode cX3_addPlace 44 = .ok (.ireturn, 1) := by decide +kernel
set_option maxRecDepth 20000 in
theorem ggX3_addRoad_X3_checkPlace : GoodIn wsX3_addRoad wsX3_checkPlace := goodIn_ca (goodIn_r _ [10, 11, 12, 5, 13, 14, 15, 16, 17, 18, 44, 45, 46, 47, 48, 49, 50, 51, 52, 53, 54] (by decide +kernel) (by decide +kernel)) (goodIn_sub (fun _ h => List.mem_cons_of_mem _ (List.mem_append_right _ h)) (by decide +kernel))
set_option maxRecDepth 20000 in
theorem gX3_addRoad_X3_checkPlace : GoodIn wsX3_addRoad (wsV RX3 39 RX3 yX3_checkPlace wsX3_checkPlace) := goodIn_app (goodIn_of _ (by decide +kernel)) ggX3_addRoad_X3_checkPlace
set_option maxRecDepth 20000 in
theorem ggX3_addRoad_X3_checkRange : GoodIn wsX3_addRoad wsX3_checkRange := goodIn_ca (goodIn_r _ [22, 1, 2] (by decide +kernel) (by decide +kernel)) (goodIn_sub (fun _ h => List.mem_cons_of_mem _ (List.mem_append_left _ (List.mem_append_left _ (List.mem_append_right _ h)))) (by decide +kernel))
set_option maxRecDepth 20000 in
theorem gX3_addRoad_X3_checkRange : GoodIn wsX3_addRoad (wsV RX3 48 RX3 yX3_checkRange wsX3_checkRange) := goodIn_app (goodIn_of _ (by decide +kernel)) ggX3_addRoad_X3_checkRange
set_option maxRecDepth 20000 in
theorem ggX3_addRoad_X1_hasRoom : GoodIn wsX3_addRoad wsX1_hasRoom := goodIn_r _ [26, 27, 28, 14, 15, 16, 17, 18, 47, 48, 49, 50, 51, 52, 53, 54] (by decide +kernel) (by decide +kernel)
set_option maxRecDepth 20000 in
theorem gX3_addRoad_X1_hasRoom : GoodIn wsX3_addRoad (wsV RX3 52 RX1 yX1_hasRoom wsX1_hasRoom) := goodIn_app (goodIn_of _ (by decide +kernel)) ggX3_addRoad_X1_hasRoom
set_option maxRecDepth 20000 in
theorem ggX3_addRoad_X1_join : GoodIn wsX3_addRoad wsX1_join := goodIn_r _ [32, 27, 33, 24, 25, 16, 26, 28, 14, 15, 17, 18, 34, 35, 36, 37, 38, 39, 40, 41, 42, 9, 43, 47, 48, 49, 50, 51, 52, 53, 54] (by decide +kernel) (by decide +kernel)
set_option maxRecDepth 20000 in
theorem gX3_addRoad_X1_join : GoodIn wsX3_addRoad (wsV RX3 58 RX1 yX1_join wsX1_join) := goodIn_app (goodIn_of _ (by decide +kernel)) ggX3_addRoad_X1_join
theorem dX3_addRoad_0 : decode cX3_addRoad 0 = .ok (.aload_n 0, 1) := by decide +kernel
theorem dX3_addRoad_1 : decode cX3_addRoad 1 = .ok (.iload_n 1, 1) := by decide +kernel
theorem dX3_addRoad_2 : decode cX3_addRoad 2 = .ok (.invokevirtual 39, 3) := by decide +kernel
theorem dX3_addRoad_5 : decode cX3_addRoad 5 = .ok (.aload_n 0, 1) := by decide +kernel
theorem dX3_addRoad_6 : decode cX3_addRoad 6 = .ok (.iload_n 2, 1) := by decide +kernel
theorem dX3_addRoad_7 : decode cX3_addRoad 7 = .ok (.invokevirtual 39, 3) := by decide +kernel
theorem dX3_addRoad_10 : decode cX3_addRoad 10 = .ok (.iload_n 1, 1) := by decide +kernel
theorem dX3_addRoad_11 : decode cX3_addRoad 11 = .ok (.iload_n 2, 1) := by decide +kernel
theorem dX3_addRoad_12 : decode cX3_addRoad 12 = .ok (.if_icmp .ne 13, 3) := by decide +kernel
theorem dX3_addRoad_15 : decode cX3_addRoad 15 = .ok (.new 43, 3) := by decide +kernel
theorem dX3_addRoad_18 : decode cX3_addRoad 18 = .ok (.dup, 1) := by decide +kernel
theorem dX3_addRoad_19 : decode cX3_addRoad 19 = .ok (.ldc 45, 2) := by decide +kernel
theorem dX3_addRoad_21 : decode cX3_addRoad 21 = .ok (.invokespecial 47, 3) := by decide +kernel
theorem dX3_addRoad_24 : decode cX3_addRoad 24 = .ok (.athrow, 1) := by decide +kernel
theorem dX3_addRoad_25 : decode cX3_addRoad 25 = .ok (.aload_n 0, 1) := by decide +kernel
theorem dX3_addRoad_26 : decode cX3_addRoad 26 = .ok (.iload_n 3, 1) := by decide +kernel
theorem dX3_addRoad_27 : decode cX3_addRoad 27 = .ok (.bipush 9, 2) := by decide +kernel
theorem dX3_addRoad_29 : decode cX3_addRoad 29 = .ok (.invokevirtual 48, 3) := by decide +kernel
theorem dX3_addRoad_32 : decode cX3_addRoad 32 = .ok (.aload_n 0, 1) := by decide +kernel
theorem dX3_addRoad_33 : decode cX3_addRoad 33 = .ok (.getfield 12, 3) := by decide +kernel
theorem dX3_addRoad_36 : decode cX3_addRoad 36 = .ok (.iload_n 1, 1) := by decide +kernel
theorem dX3_addRoad_37 : decode cX3_addRoad 37 = .ok (.invokevirtual 52, 3) := by decide +kernel
theorem dX3_addRoad_40 : decode cX3_addRoad 40 = .ok (.ifCond .eq 14, 3) := by decide +kernel
theorem dX3_addRoad_43 : decode cX3_addRoad 43 = .ok (.aload_n 0, 1) := by decide +kernel
theorem dX3_addRoad_44 : decode cX3_addRoad 44 = .ok (.getfield 12, 3) := by decide +kernel
theorem dX3_addRoad_47 : decode cX3_addRoad 47 = .ok (.iload_n 2, 1) := by decide +kernel
theorem dX3_addRoad_48 : decode cX3_addRoad 48 = .ok (.invokevirtual 52, 3) := by decide +kernel
theorem dX3_addRoad_51 : decode cX3_addRoad 51 = .ok (.ifCond .ne 13, 3) := by decide +kernel
theorem dX3_addRoad_54 : decode cX3_addRoad 54 = .ok (.new 32, 3) := by decide +kernel
theorem dX3_addRoad_57 : decode cX3_addRoad 57 = .ok (.dup, 1) := by decide +kernel
theorem dX3_addRoad_58 : decode cX3_addRoad 58 = .ok (.ldc 56, 2) := by decide +kernel
theorem dX3_addRoad_60 : decode cX3_addRoad 60 = .ok (.invokespecial 36, 3) := by decide +kernel
theorem dX3_addRoad_63 : decode cX3_addRoad 63 = .ok (.athrow, 1) := by decide +kernel
theorem dX3_addRoad_64 : decode cX3_addRoad 64 = .ok (.aload_n 0, 1) := by decide +kernel
theorem dX3_addRoad_65 : decode cX3_addRoad 65 = .ok (.getfield 12, 3) := by decide +kernel
theorem dX3_addRoad_68 : decode cX3_addRoad 68 = .ok (.iload_n 1, 1) := by decide +kernel
theorem dX3_addRoad_69 : decode cX3_addRoad 69 = .ok (.iload_n 2, 1) := by decide +kernel
theorem dX3_addRoad_70 : decode cX3_addRoad 70 = .ok (.iload_n 3, 1) := by decide +kernel
theorem dX3_addRoad_71 : decode cX3_addRoad 71 = .ok (.invokevirtual 58, 3) := by decide +kernel
theorem dX3_addRoad_74 : decode cX3_addRoad 74 = .ok (.ireturn, 1) := by decide +kernel
set_option maxRecDepth 20000 in
theorem ggX3_turnRoad_X3_checkedEnd : GoodIn wsX3_turnRoad wsX3_checkedEnd := goodIn_ca (goodIn_r _ [6, 7, 8, 1, 9, 10, 11, 12, 13, 14, 15, 16, 17, 18, 19, 32, 33, 34, 35, 36, 37, 38, 39, 40, 41, 42] (by decide +kernel) (by decide +kernel)) (goodIn_sub (fun _ h => List.mem_cons_of_mem _ (List.mem_append_right _ h)) (by decide +kernel))
set_option maxRecDepth 20000 in
theorem gX3_turnRoad_X3_checkedEnd : GoodIn wsX3_turnRoad (wsV RX3 62 RX3 yX3_checkedEnd wsX3_checkedEnd) := goodIn_app (goodIn_of _ (by decide +kernel)) ggX3_turnRoad_X3_checkedEnd
set_option maxRecDepth 20000 in
theorem ggX3_turnRoad_X1_turnEnd : GoodIn wsX3_turnRoad wsX1_turnEnd := goodIn_r _ [23, 24, 25, 26, 27, 12, 28, 29, 30, 5, 31, 35, 36, 37, 38, 39, 40, 41, 42] (by decide +kernel) (by decide +kernel)
set_option maxRecDepth 20000 in
theorem gX3_turnRoad_X1_turnEnd : GoodIn wsX3_turnRoad (wsV RX3 66 RX1 yX1_turnEnd wsX1_turnEnd) := goodIn_app (goodIn_of _ (by decide +kernel)) ggX3_turnRoad_X1_turnEnd
theorem dX3_turnRoad_0 : decode cX3_turnRoad 0 = .ok (.aload_n 0, 1) := by decide +kernel
theorem dX3_turnRoad_1 : decode cX3_turnRoad 1 = .ok (.getfield 12, 3) := by decide +kernel
theorem dX3_turnRoad_4 : decode cX3_turnRoad 4 = .ok (.aload_n 0, 1) := by decide +kernel
theorem dX3_turnRoad_5 : decode cX3_turnRoad 5 = .ok (.iload_n 1, 1) := by decide +kernel
theorem dX3_turnRoad_6 : decode cX3_turnRoad 6 = .ok (.iload_n 2, 1) := by decide +kernel
theorem dX3_turnRoad_7 : decode cX3_turnRoad 7 = .ok (.invokevirtual 62, 3) := by decide +kernel
theorem dX3_turnRoad_10 : decode cX3_turnRoad 10 = .ok (.invokevirtual 66, 3) := by decide +kernel
theorem dX3_turnRoad_13 : decode cX3_turnRoad 13 = .ok (.ireturn, 1) := by decide +kernel
set_option maxRecDepth 20000 in
theorem ggX3_turnShepherd_X3_checkPlace : GoodIn wsX3_turnShepherd wsX3_checkPlace := goodIn_ca (goodIn_r _ [6, 7, 8, 1, 9, 10, 11, 12, 13, 14, 15, 16, 17, 18, 19, 20, 21, 22, 23, 24, 25] (by decide +kernel) (by decide +kernel)) (goodIn_sub (fun _ h => List.mem_cons_of_mem _ (List.mem_append_right _ h)) (by decide +kernel))
set_option maxRecDepth 20000 in
theorem gX3_turnShepherd_X3_checkPlace : GoodIn wsX3_turnShepherd (wsV RX3 39 RX3 yX3_checkPlace wsX3_checkPlace) := goodIn_app (goodIn_of _ (by decide +kernel)) ggX3_turnShepherd_X3_checkPlace
theorem dX3_turnShepherd_0 : decode cX3_turnShepherd 0 = .ok (.aload_n 0, 1) := by decide +kernel
theorem dX3_turnShepherd_1 : decode cX3_turnShepherd 1 = .ok (.iload_n 1, 1) := by decide +kernel
theorem dX3_turnShepherd_2 : decode cX3_turnShepherd 2 = .ok (.invokevirtual 39, 3) := by decide +kernel
theorem dX3_turnShepherd_5 : decode cX3_turnShepherd 5 = .ok (.aload_n 0, 1) := by decide +kernel
theorem dX3_turnShepherd_6 : decode cX3_turnShepherd 6 = .ok (.getfield 12, 3) := by decide +kernel
theorem dX3_turnShepherd_9 : decode cX3_turnShepherd 9 = .ok (.getfield 69, 3) := by decide +kernel
theorem dX3_turnShepherd_12 : decode cX3_turnShepherd 12 = .ok (.iload_n 1, 1) := by decide +kernel
theorem dX3_turnShepherd_13 : decode cX3_turnShepherd 13 = .ok (.aload_n 0, 1) := by decide +kernel
theorem dX3_turnShepherd_14 : decode cX3_turnShepherd 14 = .ok (.getfield 12, 3) := by decide +kernel
theorem dX3_turnShepherd_17 : decode cX3_turnShepherd 17 = .ok (.getfield 69, 3) := by decide +kernel
theorem dX3_turnShepherd_20 : decode cX3_turnShepherd 20 = .ok (.iload_n 1, 1) := by decide +kernel
theorem dX3_turnShepherd_21 : decode cX3_turnShepherd 21 = .ok (.baload, 1) := by decide +kernel
theorem dX3_turnShepherd_22 : decode cX3_turnShepherd 22 = .ok (.ifCond .ne 7, 3) := by decide +kernel
theorem dX3_turnShepherd_25 : decode cX3_turnShepherd 25 = .ok (.iconst 1, 1) := by decide +kernel
theorem dX3_turnShepherd_26 : decode cX3_turnShepherd 26 = .ok (.goto 4, 3) := by decide +kernel
theorem dX3_turnShepherd_29 : decode cX3_turnShepherd 29 = .ok (.iconst 0, 1) := by decide +kernel
theorem dX3_turnShepherd_30 : decode cX3_turnShepherd 30 = .ok (.bastore, 1) := by decide +kernel
theorem dX3_turnShepherd_31 : decode cX3_turnShepherd 31 = .ok (.aload_n 0, 1) := by decide +kernel
theorem dX3_turnShepherd_32 : decode cX3_turnShepherd 32 = .ok (.getfield 12, 3) := by decide +kernel
theorem dX3_turnShepherd_35 : decode cX3_turnShepherd 35 = .ok (.getfield 69, 3) := by decide +kernel
theorem dX3_turnShepherd_38 : decode cX3_turnShepherd 38 = .ok (.iload_n 1, 1) := by decide +kernel
theorem dX3_turnShepherd_39 : decode cX3_turnShepherd 39 = .ok (.baload, 1) := by decide +kernel
theorem dX3_turnShepherd_40 : decode cX3_turnShepherd 40 = .ok (.ireturn, 1) := by decide +kernel
set_option maxRecDepth 20000 in
theorem ggX3_pay_X3_checkRange : GoodIn wsX3_pay wsX3_checkRange := goodIn_ca (goodIn_r _ [10, 11, 12] (by decide +kernel) (by decide +kernel)) (goodIn_sub (fun _ h => List.mem_cons_of_mem _ (List.mem_append_right _ h)) (by decide +kernel))
set_option maxRecDepth 20000 in
theorem gX3_pay_X3_checkRange : GoodIn wsX3_pay (wsV RX3 48 RX3 yX3_checkRange wsX3_checkRange) := goodIn_app (goodIn_of _ (by decide +kernel)) ggX3_pay_X3_checkRange
theorem dX3_pay_0 : decode cX3_pay 0 = .ok (.aload_n 0, 1) := by decide +kernel
theorem dX3_pay_1 : decode cX3_pay 1 = .ok (.iload_n 1, 1) := by decide +kernel
theorem dX3_pay_2 : decode cX3_pay 2 = .ok (.bipush 99, 2) := by decide +kernel
theorem dX3_pay_4 : decode cX3_pay 4 = .ok (.invokevirtual 48, 3) := by decide +kernel
theorem dX3_pay_7 : decode cX3_pay 7 = .ok (.aload_n 0, 1) := by decide +kernel
theorem dX3_pay_8 : decode cX3_pay 8 = .ok (.getfield 21, 3) := by decide +kernel
theorem dX3_pay_11 : decode cX3_pay 11 = .ok (.bipush 99, 2) := by decide +kernel
theorem dX3_pay_13 : decode cX3_pay 13 = .ok (.aload_n 0, 1) := by decide +kernel
theorem dX3_pay_14 : decode cX3_pay 14 = .ok (.getfield 21, 3) := by decide +kernel
theorem dX3_pay_17 : decode cX3_pay 17 = .ok (.getfield 73, 3) := by decide +kernel
theorem dX3_pay_20 : decode cX3_pay 20 = .ok (.iload_n 1, 1) := by decide +kernel
theorem dX3_pay_21 : decode cX3_pay 21 = .ok (.iadd, 1) := by decide +kernel
theorem dX3_pay_22 : decode cX3_pay 22 = .ok (.invokestatic 76, 3) := by decide +kernel
theorem dX3_pay_25 : decode cX3_pay 25 = .ok (.putfield 73, 3) := by decide +kernel
theorem dX3_pay_28 : decode cX3_pay 28 = .ok (.aload_n 0, 1) := by decide +kernel
theorem dX3_pay_29 : decode cX3_pay 29 = .ok (.getfield 21, 3) := by decide +kernel
theorem dX3_pay_32 : decode cX3_pay 32 = .ok (.getfield 73, 3) := by decide +kernel
theorem dX3_pay_35 : decode cX3_pay 35 = .ok (.ireturn, 1) := by decide +kernel
set_option maxRecDepth 20000 in
theorem ggX3_beginErrand_X3_checkPlace : GoodIn wsX3_beginErrand wsX3_checkPlace := goodIn_ca (goodIn_r _ [7, 8, 9, 1, 10, 11, 12, 13, 14, 15, 68, 69, 70, 86, 87, 88, 89, 90, 91, 92, 93] (by decide +kernel) (by decide +kernel)) (goodIn_sub (fun _ h => List.mem_cons_of_mem _ (List.mem_append_left _ (List.mem_append_right _ h))) (by decide +kernel))
set_option maxRecDepth 20000 in
theorem gX3_beginErrand_X3_checkPlace : GoodIn wsX3_beginErrand (wsV RX3 39 RX3 yX3_checkPlace wsX3_checkPlace) := goodIn_app (goodIn_of _ (by decide +kernel)) ggX3_beginErrand_X3_checkPlace
set_option maxRecDepth 20000 in
theorem ggX3_beginErrand_X3_checkIdle : GoodIn wsX3_beginErrand wsX3_checkIdle := goodIn_ca (goodIn_r _ [19, 20, 21, 2, 22, 23, 24, 25, 26, 27, 68, 69, 70, 71, 72, 73, 74, 75, 76, 77, 78, 79, 80, 81, 82, 83, 84, 85] (by decide +kernel) (by decide +kernel)) (goodIn_sub (fun _ h => List.mem_cons_of_mem _ (List.mem_append_right _ h)) (by decide +kernel))
set_option maxRecDepth 20000 in
theorem gX3_beginErrand_X3_checkIdle : GoodIn wsX3_beginErrand (wsV RX3 81 RX3 yX3_checkIdle wsX3_checkIdle) := goodIn_app (goodIn_of _ (by decide +kernel)) ggX3_beginErrand_X3_checkIdle
set_option maxRecDepth 20000 in
theorem ggX3_beginErrand_X1_shortest : GoodIn wsX3_beginErrand wsX1_shortest := goodIn_r _ [31, 32, 33, 34, 35, 36, 13, 37, 38, 39, 40, 41, 42, 11, 12, 14, 15, 43, 44, 45, 46, 47, 48, 49, 50, 6, 51, 86, 87, 88, 89, 90, 91, 92, 93] (by decide +kernel) (by decide +kernel)
set_option maxRecDepth 20000 in
theorem gX3_beginErrand_X1_shortest : GoodIn wsX3_beginErrand (wsV RX3 87 RX1 yX1_shortest wsX1_shortest) := goodIn_app (goodIn_of _ (by decide +kernel)) ggX3_beginErrand_X1_shortest
set_option maxRecDepth 20000 in
theorem ggX3_beginErrand_X0_begin : GoodIn wsX3_beginErrand wsX0_begin := goodIn_r _ [55, 56, 57, 58, 27, 59, 60, 61, 62, 25, 63, 64, 65, 66, 67, 71, 72, 73, 74, 75, 76, 77, 78, 79, 80, 81, 82, 83, 84, 85] (by decide +kernel) (by decide +kernel)
set_option maxRecDepth 20000 in
theorem gX3_beginErrand_X0_begin : GoodIn wsX3_beginErrand (wsV RX3 90 RX0 yX0_begin wsX0_begin) := goodIn_app (goodIn_of _ (by decide +kernel)) ggX3_beginErrand_X0_begin
theorem dX3_beginErrand_0 : decode cX3_beginErrand 0 = .ok (.aload_n 0, 1) := by decide +kernel
theorem dX3_beginErrand_1 : decode cX3_beginErrand 1 = .ok (.iload_n 1, 1) := by decide +kernel
theorem dX3_beginErrand_2 : decode cX3_beginErrand 2 = .ok (.invokevirtual 39, 3) := by decide +kernel
theorem dX3_beginErrand_5 : decode cX3_beginErrand 5 = .ok (.aload_n 0, 1) := by decide +kernel
theorem dX3_beginErrand_6 : decode cX3_beginErrand 6 = .ok (.invokevirtual 81, 3) := by decide +kernel
theorem dX3_beginErrand_9 : decode cX3_beginErrand 9 = .ok (.aload_n 0, 1) := by decide +kernel
theorem dX3_beginErrand_10 : decode cX3_beginErrand 10 = .ok (.getfield 12, 3) := by decide +kernel
theorem dX3_beginErrand_13 : decode cX3_beginErrand 13 = .ok (.aload_n 0, 1) := by decide +kernel
theorem dX3_beginErrand_14 : decode cX3_beginErrand 14 = .ok (.getfield 21, 3) := by decide +kernel
theorem dX3_beginErrand_17 : decode cX3_beginErrand 17 = .ok (.getfield 84, 3) := by decide +kernel
theorem dX3_beginErrand_20 : decode cX3_beginErrand 20 = .ok (.iload_n 1, 1) := by decide +kernel
theorem dX3_beginErrand_21 : decode cX3_beginErrand 21 = .ok (.invokevirtual 87, 3) := by decide +kernel
theorem dX3_beginErrand_24 : decode cX3_beginErrand 24 = .ok (.istore_n 2, 1) := by decide +kernel
theorem dX3_beginErrand_25 : decode cX3_beginErrand 25 = .ok (.aload_n 0, 1) := by decide +kernel
theorem dX3_beginErrand_26 : decode cX3_beginErrand 26 = .ok (.getfield 21, 3) := by decide +kernel
theorem dX3_beginErrand_29 : decode cX3_beginErrand 29 = .ok (.iload_n 1, 1) := by decide +kernel
theorem dX3_beginErrand_30 : decode cX3_beginErrand 30 = .ok (.invokevirtual 90, 3) := by decide +kernel
theorem dX3_beginErrand_33 : decode cX3_beginErrand 33 = .ok (.iload_n 2, 1) := by decide +kernel
theorem dX3_beginErrand_34 : decode cX3_beginErrand 34 = .ok (.ireturn, 1) := by decide +kernel
set_option maxRecDepth 20000 in
theorem ggX3_goOn_X3_checkRange : GoodIn wsX3_goOn wsX3_checkRange := goodIn_ca (goodIn_r _ [6, 7, 8] (by decide +kernel) (by decide +kernel)) (goodIn_sub (fun _ h => List.mem_cons_of_mem _ (List.mem_append_left _ (List.mem_append_right _ h))) (by decide +kernel))
set_option maxRecDepth 20000 in
theorem gX3_goOn_X3_checkRange : GoodIn wsX3_goOn (wsV RX3 48 RX3 yX3_checkRange wsX3_checkRange) := goodIn_app (goodIn_of _ (by decide +kernel)) ggX3_goOn_X3_checkRange
set_option maxRecDepth 20000 in
theorem ggX3_goOn_X3_checkUnderway : GoodIn wsX3_goOn wsX3_checkUnderway := goodIn_ca (goodIn_r _ [12, 13, 14, 1, 15, 16, 17, 18, 19, 20, 142, 143, 144, 145, 146, 147, 148, 149, 150, 151, 152, 153, 154, 155, 156, 157, 158, 159] (by decide +kernel) (by decide +kernel)) (goodIn_sub (fun _ h => List.mem_cons_of_mem _ (List.mem_append_right _ h)) (by decide +kernel))
set_option maxRecDepth 20000 in
theorem gX3_goOn_X3_checkUnderway : GoodIn wsX3_goOn (wsV RX3 93 RX3 yX3_checkUnderway wsX3_checkUnderway) := goodIn_app (goodIn_of _ (by decide +kernel)) ggX3_goOn_X3_checkUnderway
set_option maxRecDepth 20000 in
theorem ggX3_goOn_X0_isUnderway : GoodIn wsX3_goOn wsX0_isUnderway := goodIn_r _ [19, 20, 145, 146, 147, 148, 149, 150, 151, 152, 153, 154, 155, 156, 157, 158, 159] (by decide +kernel) (by decide +kernel)
set_option maxRecDepth 20000 in
theorem gX3_goOn_X0_isUnderway : GoodIn wsX3_goOn (wsV RX3 96 RX0 yX0_isUnderway wsX0_isUnderway) := goodIn_app (goodIn_of _ (by decide +kernel)) ggX3_goOn_X0_isUnderway
set_option maxRecDepth 20000 in
theorem ggX3_goOn_X0_step : GoodIn wsX3_goOn wsX0_step := goodIn_r _ [24, 25, 26, 27, 20, 28, 29, 30, 31, 18, 32, 33, 34, 35, 36, 37, 38, 39, 40, 41, 42, 43, 44, 45, 46, 47, 48, 49, 50, 51, 52, 53, 54, 55, 56, 57, 58, 59, 60, 61, 5, 62, 63, 64, 65, 66, 67, 68, 69, 70, 71, 72, 73, 74, 75, 76, 77, 78, 79, 80, 81, 82, 83, 84, 85, 86, 87, 88, 89, 90, 91, 92, 93, 94, 95, 96, 97, 98, 99, 100, 101, 102, 103, 104, 105, 106, 107, 108, 109, 110, 111, 112, 113, 114, 115, 116, 117, 118, 119, 120, 121, 122, 123, 124, 125, 126, 127, 128, 129, 130, 131, 132, 133, 134, 135, 136, 137, 138, 139, 140, 141, 145, 146, 147, 148, 149, 150, 151, 152, 153, 154, 155, 156, 157, 158, 159, 160, 161, 162, 163, 164, 165, 166, 167, 168, 169] (by decide +kernel) (by decide +kernel)
set_option maxRecDepth 20000 in
theorem gX3_goOn_X0_step : GoodIn wsX3_goOn (wsV RX3 100 RX0 yX0_step wsX0_step) := goodIn_app (goodIn_of _ (by decide +kernel)) ggX3_goOn_X0_step
theorem dX3_goOn_0 : decode cX3_goOn 0 = .ok (.aload_n 0, 1) := by decide +kernel
theorem dX3_goOn_1 : decode cX3_goOn 1 = .ok (.iload_n 1, 1) := by decide +kernel
theorem dX3_goOn_2 : decode cX3_goOn 2 = .ok (.bipush 100, 2) := by decide +kernel
theorem dX3_goOn_4 : decode cX3_goOn 4 = .ok (.invokevirtual 48, 3) := by decide +kernel
theorem dX3_goOn_7 : decode cX3_goOn 7 = .ok (.aload_n 0, 1) := by decide +kernel
theorem dX3_goOn_8 : decode cX3_goOn 8 = .ok (.invokevirtual 93, 3) := by decide +kernel
theorem dX3_goOn_11 : decode cX3_goOn 11 = .ok (.iconst 0, 1) := by decide +kernel
theorem dX3_goOn_12 : decode cX3_goOn 12 = .ok (.istore_n 2, 1) := by decide +kernel
theorem dX3_goOn_13 : decode cX3_goOn 13 = .ok (.iload_n 2, 1) := by decide +kernel
theorem dX3_goOn_14 : decode cX3_goOn 14 = .ok (.iload_n 1, 1) := by decide +kernel
theorem dX3_goOn_15 : decode cX3_goOn 15 = .ok (.if_icmp .ge 29, 3) := by decide +kernel
theorem dX3_goOn_18 : decode cX3_goOn 18 = .ok (.aload_n 0, 1) := by decide +kernel
theorem dX3_goOn_19 : decode cX3_goOn 19 = .ok (.getfield 21, 3) := by decide +kernel
theorem dX3_goOn_22 : decode cX3_goOn 22 = .ok (.invokevirtual 96, 3) := by decide +kernel
theorem dX3_goOn_25 : decode cX3_goOn 25 = .ok (.ifCond .eq 19, 3) := by decide +kernel
theorem dX3_goOn_28 : decode cX3_goOn 28 = .ok (.aload_n 0, 1) := by decide +kernel
theorem dX3_goOn_29 : decode cX3_goOn 29 = .ok (.getfield 21, 3) := by decide +kernel
theorem dX3_goOn_32 : decode cX3_goOn 32 = .ok (.invokevirtual 100, 3) := by decide +kernel
theorem dX3_goOn_35 : decode cX3_goOn 35 = .ok (.ifCond .eq 9, 3) := by decide +kernel
theorem dX3_goOn_38 : decode cX3_goOn 38 = .ok (.iinc 2 1, 3) := by decide +kernel
theorem dX3_goOn_41 : decode cX3_goOn 41 = .ok (.goto (-28), 3) := by decide +kernel
theorem dX3_goOn_44 : decode cX3_goOn 44 = .ok (.iload_n 2, 1) := by decide +kernel
theorem dX3_goOn_45 : decode cX3_goOn 45 = .ok (.ireturn, 1) := by decide +kernel
set_option maxRecDepth 20000 in
theorem ggX3_giveUp_X3_checkUnderway : GoodIn wsX3_giveUp wsX3_checkUnderway := goodIn_ca (goodIn_r _ [6, 7, 8, 1, 9, 10, 11, 12, 13, 14, 20, 21, 22, 23, 24, 25, 26, 27, 28, 29, 30, 31, 32, 33, 34, 35, 36, 37] (by decide +kernel) (by decide +kernel)) (goodIn_sub (fun _ h => List.mem_cons_of_mem _ (List.mem_append_right _ h)) (by decide +kernel))
set_option maxRecDepth 20000 in
theorem gX3_giveUp_X3_checkUnderway : GoodIn wsX3_giveUp (wsV RX3 93 RX3 yX3_checkUnderway wsX3_checkUnderway) := goodIn_app (goodIn_of _ (by decide +kernel)) ggX3_giveUp_X3_checkUnderway
set_option maxRecDepth 20000 in
theorem ggX3_giveUp_X0_endErrand : GoodIn wsX3_giveUp wsX0_endErrand := goodIn_r _ [18, 14, 19, 23, 24, 25, 26, 27, 28, 29, 30, 31, 32, 33, 34, 35, 36, 37] (by decide +kernel) (by decide +kernel)
set_option maxRecDepth 20000 in
theorem gX3_giveUp_X0_endErrand : GoodIn wsX3_giveUp (wsV RX3 106 RX0 yX0_endErrand wsX0_endErrand) := goodIn_app (goodIn_of _ (by decide +kernel)) ggX3_giveUp_X0_endErrand
theorem dX3_giveUp_0 : decode cX3_giveUp 0 = .ok (.aload_n 0, 1) := by decide +kernel
theorem dX3_giveUp_1 : decode cX3_giveUp 1 = .ok (.invokevirtual 93, 3) := by decide +kernel
theorem dX3_giveUp_4 : decode cX3_giveUp 4 = .ok (.aload_n 0, 1) := by decide +kernel
theorem dX3_giveUp_5 : decode cX3_giveUp 5 = .ok (.getfield 21, 3) := by decide +kernel
theorem dX3_giveUp_8 : decode cX3_giveUp 8 = .ok (.getfield 103, 3) := by decide +kernel
theorem dX3_giveUp_11 : decode cX3_giveUp 11 = .ok (.istore_n 1, 1) := by decide +kernel
theorem dX3_giveUp_12 : decode cX3_giveUp 12 = .ok (.aload_n 0, 1) := by decide +kernel
theorem dX3_giveUp_13 : decode cX3_giveUp 13 = .ok (.getfield 21, 3) := by decide +kernel
theorem dX3_giveUp_16 : decode cX3_giveUp 16 = .ok (.invokevirtual 106, 3) := by decide +kernel
theorem dX3_giveUp_19 : decode cX3_giveUp 19 = .ok (.iload_n 1, 1) := by decide +kernel
theorem dX3_giveUp_20 : decode cX3_giveUp 20 = .ok (.ireturn, 1) := by decide +kernel
set_option maxRecDepth 20000 in
theorem ggX3_sleep_X3_checkRange : GoodIn wsX3_sleep wsX3_checkRange := goodIn_ca (goodIn_r _ [6, 7, 8] (by decide +kernel) (by decide +kernel)) (goodIn_sub (fun _ h => List.mem_cons_of_mem _ (List.mem_append_right _ h)) (by decide +kernel))
set_option maxRecDepth 20000 in
theorem gX3_sleep_X3_checkRange : GoodIn wsX3_sleep (wsV RX3 48 RX3 yX3_checkRange wsX3_checkRange) := goodIn_app (goodIn_of _ (by decide +kernel)) ggX3_sleep_X3_checkRange
set_option maxRecDepth 20000 in
theorem ggX3_sleep_X2_fade : GoodIn wsX3_sleep wsX2_fade := goodIn_r _ [13, 14, 15, 16, 17, 18, 37, 38] (by decide +kernel) (by decide +kernel)
set_option maxRecDepth 20000 in
theorem gX3_sleep_X2_fade : GoodIn wsX3_sleep (wsV RX3 113 RX2 yX2_fade wsX2_fade) := goodIn_app (goodIn_of _ (by decide +kernel)) ggX3_sleep_X2_fade
theorem dX3_sleep_0 : decode cX3_sleep 0 = .ok (.aload_n 0, 1) := by decide +kernel
theorem dX3_sleep_1 : decode cX3_sleep 1 = .ok (.iload_n 1, 1) := by decide +kernel
theorem dX3_sleep_2 : decode cX3_sleep 2 = .ok (.bipush 9, 2) := by decide +kernel
theorem dX3_sleep_4 : decode cX3_sleep 4 = .ok (.invokevirtual 48, 3) := by decide +kernel
theorem dX3_sleep_7 : decode cX3_sleep 7 = .ok (.aload_n 0, 1) := by decide +kernel
theorem dX3_sleep_8 : decode cX3_sleep 8 = .ok (.getfield 21, 3) := by decide +kernel
theorem dX3_sleep_11 : decode cX3_sleep 11 = .ok (.getfield 109, 3) := by decide +kernel
theorem dX3_sleep_14 : decode cX3_sleep 14 = .ok (.iload_n 1, 1) := by decide +kernel
theorem dX3_sleep_15 : decode cX3_sleep 15 = .ok (.invokevirtual 113, 3) := by decide +kernel
theorem dX3_sleep_18 : decode cX3_sleep 18 = .ok (.ireturn, 1) := by decide +kernel
theorem dX3_places_0 : decode cX3_places 0 = .ok (.aload_n 0, 1) := by decide +kernel
theorem dX3_places_1 : decode cX3_places 1 = .ok (.getfield 12, 3) := by decide +kernel
theorem dX3_places_4 : decode cX3_places 4 = .ok (.getfield 28, 3) := by decide +kernel
theorem dX3_places_7 : decode cX3_places 7 = .ok (.ireturn, 1) := by decide +kernel
set_option maxRecDepth 20000 in
theorem ggX3_exitsOf_X3_checkPlace : GoodIn wsX3_exitsOf wsX3_checkPlace := goodIn_ca (goodIn_r _ [6, 7, 8, 1, 9, 10, 11, 12, 13, 14, 15, 16, 17, 18, 19, 20, 21, 22, 23, 24, 25] (by decide +kernel) (by decide +kernel)) (goodIn_sub (fun _ h => List.mem_cons_of_mem _ (List.mem_append_right _ h)) (by decide +kernel))
set_option maxRecDepth 20000 in
theorem gX3_exitsOf_X3_checkPlace : GoodIn wsX3_exitsOf (wsV RX3 39 RX3 yX3_checkPlace wsX3_checkPlace) := goodIn_app (goodIn_of _ (by decide +kernel)) ggX3_exitsOf_X3_checkPlace
theorem dX3_exitsOf_0 : decode cX3_exitsOf 0 = .ok (.aload_n 0, 1) := by decide +kernel
theorem dX3_exitsOf_1 : decode cX3_exitsOf 1 = .ok (.iload_n 1, 1) := by decide +kernel
theorem dX3_exitsOf_2 : decode cX3_exitsOf 2 = .ok (.invokevirtual 39, 3) := by decide +kernel
theorem dX3_exitsOf_5 : decode cX3_exitsOf 5 = .ok (.aload_n 0, 1) := by decide +kernel
theorem dX3_exitsOf_6 : decode cX3_exitsOf 6 = .ok (.getfield 12, 3) := by decide +kernel
theorem dX3_exitsOf_9 : decode cX3_exitsOf 9 = .ok (.getfield 119, 3) := by decide +kernel
theorem dX3_exitsOf_12 : decode cX3_exitsOf 12 = .ok (.iload_n 1, 1) := by decide +kernel
theorem dX3_exitsOf_13 : decode cX3_exitsOf 13 = .ok (.iaload, 1) := by decide +kernel
theorem dX3_exitsOf_14 : decode cX3_exitsOf 14 = .ok (.ireturn, 1) := by decide +kernel
set_option maxRecDepth 20000 in
theorem ggX3_leadsTo_X3_checkedEnd : GoodIn wsX3_leadsTo wsX3_checkedEnd := goodIn_ca (goodIn_r _ [6, 7, 8, 1, 9, 10, 11, 12, 13, 14, 15, 16, 17, 18, 19, 27, 28, 29, 30, 31, 32, 33, 34, 35, 36, 37] (by decide +kernel) (by decide +kernel)) (goodIn_sub (fun _ h => List.mem_cons_of_mem _ (List.mem_append_right _ h)) (by decide +kernel))
set_option maxRecDepth 20000 in
theorem gX3_leadsTo_X3_checkedEnd : GoodIn wsX3_leadsTo (wsV RX3 62 RX3 yX3_checkedEnd wsX3_checkedEnd) := goodIn_app (goodIn_of _ (by decide +kernel)) ggX3_leadsTo_X3_checkedEnd
set_option maxRecDepth 20000 in
theorem ggX3_leadsTo_X1_beyond : GoodIn wsX3_leadsTo wsX1_beyond := goodIn_r _ [23, 24, 25, 5, 26, 30, 31, 32, 33, 34, 35, 36, 37] (by decide +kernel) (by decide +kernel)
set_option maxRecDepth 20000 in
theorem gX3_leadsTo_X1_beyond : GoodIn wsX3_leadsTo (wsV RX3 123 RX1 yX1_beyond wsX1_beyond) := goodIn_app (goodIn_of _ (by decide +kernel)) ggX3_leadsTo_X1_beyond
theorem dX3_leadsTo_0 : decode cX3_leadsTo 0 = .ok (.aload_n 0, 1) := by decide +kernel
theorem dX3_leadsTo_1 : decode cX3_leadsTo 1 = .ok (.getfield 12, 3) := by decide +kernel
theorem dX3_leadsTo_4 : decode cX3_leadsTo 4 = .ok (.aload_n 0, 1) := by decide +kernel
theorem dX3_leadsTo_5 : decode cX3_leadsTo 5 = .ok (.iload_n 1, 1) := by decide +kernel
theorem dX3_leadsTo_6 : decode cX3_leadsTo 6 = .ok (.iload_n 2, 1) := by decide +kernel
theorem dX3_leadsTo_7 : decode cX3_leadsTo 7 = .ok (.invokevirtual 62, 3) := by decide +kernel
theorem dX3_leadsTo_10 : decode cX3_leadsTo 10 = .ok (.invokevirtual 123, 3) := by decide +kernel
theorem dX3_leadsTo_13 : decode cX3_leadsTo 13 = .ok (.ireturn, 1) := by decide +kernel
set_option maxRecDepth 20000 in
theorem ggX3_milesOf_X3_checkedEnd : GoodIn wsX3_milesOf wsX3_checkedEnd := goodIn_ca (goodIn_r _ [6, 7, 8, 1, 9, 10, 11, 12, 13, 14, 15, 16, 17, 18, 19, 27, 28, 29, 30, 31, 32, 33, 34, 35, 36, 37] (by decide +kernel) (by decide +kernel)) (goodIn_sub (fun _ h => List.mem_cons_of_mem _ (List.mem_append_right _ h)) (by decide +kernel))
set_option maxRecDepth 20000 in
theorem gX3_milesOf_X3_checkedEnd : GoodIn wsX3_milesOf (wsV RX3 62 RX3 yX3_checkedEnd wsX3_checkedEnd) := goodIn_app (goodIn_of _ (by decide +kernel)) ggX3_milesOf_X3_checkedEnd
set_option maxRecDepth 20000 in
theorem ggX3_milesOf_X1_milesAt : GoodIn wsX3_milesOf wsX1_milesAt := goodIn_r _ [23, 24, 25, 5, 26, 30, 31, 32, 33, 34, 35, 36, 37] (by decide +kernel) (by decide +kernel)
set_option maxRecDepth 20000 in
theorem gX3_milesOf_X1_milesAt : GoodIn wsX3_milesOf (wsV RX3 126 RX1 yX1_milesAt wsX1_milesAt) := goodIn_app (goodIn_of _ (by decide +kernel)) ggX3_milesOf_X1_milesAt
theorem dX3_milesOf_0 : decode cX3_milesOf 0 = .ok (.aload_n 0, 1) := by decide +kernel
theorem dX3_milesOf_1 : decode cX3_milesOf 1 = .ok (.getfield 12, 3) := by decide +kernel
theorem dX3_milesOf_4 : decode cX3_milesOf 4 = .ok (.aload_n 0, 1) := by decide +kernel
theorem dX3_milesOf_5 : decode cX3_milesOf 5 = .ok (.iload_n 1, 1) := by decide +kernel
theorem dX3_milesOf_6 : decode cX3_milesOf 6 = .ok (.iload_n 2, 1) := by decide +kernel
theorem dX3_milesOf_7 : decode cX3_milesOf 7 = .ok (.invokevirtual 62, 3) := by decide +kernel
theorem dX3_milesOf_10 : decode cX3_milesOf 10 = .ok (.invokevirtual 126, 3) := by decide +kernel
theorem dX3_milesOf_13 : decode cX3_milesOf 13 = .ok (.ireturn, 1) := by decide +kernel
set_option maxRecDepth 20000 in
theorem ggX3_isOpen_X3_checkedEnd : GoodIn wsX3_isOpen wsX3_checkedEnd := goodIn_ca (goodIn_r _ [6, 7, 8, 1, 9, 10, 11, 12, 13, 14, 15, 16, 17, 18, 19, 27, 28, 29, 30, 31, 32, 33, 34, 35, 36, 37] (by decide +kernel) (by decide +kernel)) (goodIn_sub (fun _ h => List.mem_cons_of_mem _ (List.mem_append_right _ h)) (by decide +kernel))
set_option maxRecDepth 20000 in
theorem gX3_isOpen_X3_checkedEnd : GoodIn wsX3_isOpen (wsV RX3 62 RX3 yX3_checkedEnd wsX3_checkedEnd) := goodIn_app (goodIn_of _ (by decide +kernel)) ggX3_isOpen_X3_checkedEnd
set_option maxRecDepth 20000 in
theorem ggX3_isOpen_X1_opensAt : GoodIn wsX3_isOpen wsX1_opensAt := goodIn_r _ [23, 24, 25, 5, 26, 30, 31, 32, 33, 34, 35, 36, 37] (by decide +kernel) (by decide +kernel)
set_option maxRecDepth 20000 in
theorem gX3_isOpen_X1_opensAt : GoodIn wsX3_isOpen (wsV RX3 129 RX1 yX1_opensAt wsX1_opensAt) := goodIn_app (goodIn_of _ (by decide +kernel)) ggX3_isOpen_X1_opensAt
theorem dX3_isOpen_0 : decode cX3_isOpen 0 = .ok (.aload_n 0, 1) := by decide +kernel
theorem dX3_isOpen_1 : decode cX3_isOpen 1 = .ok (.getfield 12, 3) := by decide +kernel
theorem dX3_isOpen_4 : decode cX3_isOpen 4 = .ok (.aload_n 0, 1) := by decide +kernel
theorem dX3_isOpen_5 : decode cX3_isOpen 5 = .ok (.iload_n 1, 1) := by decide +kernel
theorem dX3_isOpen_6 : decode cX3_isOpen 6 = .ok (.iload_n 2, 1) := by decide +kernel
theorem dX3_isOpen_7 : decode cX3_isOpen 7 = .ok (.invokevirtual 62, 3) := by decide +kernel
theorem dX3_isOpen_10 : decode cX3_isOpen 10 = .ok (.invokevirtual 129, 3) := by decide +kernel
theorem dX3_isOpen_13 : decode cX3_isOpen 13 = .ok (.ireturn, 1) := by decide +kernel
set_option maxRecDepth 20000 in
theorem ggX3_hasShepherd_X3_checkPlace : GoodIn wsX3_hasShepherd wsX3_checkPlace := goodIn_ca (goodIn_r _ [6, 7, 8, 1, 9, 10, 11, 12, 13, 14, 15, 16, 17, 18, 19, 20, 21, 22, 23, 24, 25] (by decide +kernel) (by decide +kernel)) (goodIn_sub (fun _ h => List.mem_cons_of_mem _ (List.mem_append_right _ h)) (by decide +kernel))
set_option maxRecDepth 20000 in
theorem gX3_hasShepherd_X3_checkPlace : GoodIn wsX3_hasShepherd (wsV RX3 39 RX3 yX3_checkPlace wsX3_checkPlace) := goodIn_app (goodIn_of _ (by decide +kernel)) ggX3_hasShepherd_X3_checkPlace
theorem dX3_hasShepherd_0 : decode cX3_hasShepherd 0 = .ok (.aload_n 0, 1) := by decide +kernel
theorem dX3_hasShepherd_1 : decode cX3_hasShepherd 1 = .ok (.iload_n 1, 1) := by decide +kernel
theorem dX3_hasShepherd_2 : decode cX3_hasShepherd 2 = .ok (.invokevirtual 39, 3) := by decide +kernel
theorem dX3_hasShepherd_5 : decode cX3_hasShepherd 5 = .ok (.aload_n 0, 1) := by decide +kernel
theorem dX3_hasShepherd_6 : decode cX3_hasShepherd 6 = .ok (.getfield 12, 3) := by decide +kernel
theorem dX3_hasShepherd_9 : decode cX3_hasShepherd 9 = .ok (.getfield 69, 3) := by decide +kernel
theorem dX3_hasShepherd_12 : decode cX3_hasShepherd 12 = .ok (.iload_n 1, 1) := by decide +kernel
theorem dX3_hasShepherd_13 : decode cX3_hasShepherd 13 = .ok (.baload, 1) := by decide +kernel
theorem dX3_hasShepherd_14 : decode cX3_hasShepherd 14 = .ok (.ireturn, 1) := by decide +kernel
set_option maxRecDepth 20000 in
theorem ggX3_distance_X3_checkPlace : GoodIn wsX3_distance wsX3_checkPlace := goodIn_ca (goodIn_r _ [6, 7, 8, 1, 9, 10, 11, 12, 13, 14, 39, 40, 41, 42, 43, 44, 45, 46, 47, 48, 49] (by decide +kernel) (by decide +kernel)) (goodIn_sub (fun _ h => List.mem_cons_of_mem _ (List.mem_append_right _ h)) (by decide +kernel))
set_option maxRecDepth 20000 in
theorem gX3_distance_X3_checkPlace : GoodIn wsX3_distance (wsV RX3 39 RX3 yX3_checkPlace wsX3_checkPlace) := goodIn_app (goodIn_of _ (by decide +kernel)) ggX3_distance_X3_checkPlace
set_option maxRecDepth 20000 in
theorem ggX3_distance_X1_shortest : GoodIn wsX3_distance wsX1_shortest := goodIn_r _ [18, 19, 20, 21, 22, 23, 12, 24, 25, 26, 27, 28, 29, 10, 11, 13, 14, 30, 31, 32, 33, 34, 35, 36, 37, 5, 38, 42, 43, 44, 45, 46, 47, 48, 49] (by decide +kernel) (by decide +kernel)
set_option maxRecDepth 20000 in
theorem gX3_distance_X1_shortest : GoodIn wsX3_distance (wsV RX3 87 RX1 yX1_shortest wsX1_shortest) := goodIn_app (goodIn_of _ (by decide +kernel)) ggX3_distance_X1_shortest
theorem dX3_distance_0 : decode cX3_distance 0 = .ok (.aload_n 0, 1) := by decide +kernel
theorem dX3_distance_1 : decode cX3_distance 1 = .ok (.iload_n 1, 1) := by decide +kernel
theorem dX3_distance_2 : decode cX3_distance 2 = .ok (.invokevirtual 39, 3) := by decide +kernel
theorem dX3_distance_5 : decode cX3_distance 5 = .ok (.aload_n 0, 1) := by decide +kernel
theorem dX3_distance_6 : decode cX3_distance 6 = .ok (.iload_n 2, 1) := by decide +kernel
theorem dX3_distance_7 : decode cX3_distance 7 = .ok (.invokevirtual 39, 3) := by decide +kernel
theorem dX3_distance_10 : decode cX3_distance 10 = .ok (.aload_n 0, 1) := by decide +kernel
theorem dX3_distance_11 : decode cX3_distance 11 = .ok (.getfield 12, 3) := by decide +kernel
theorem dX3_distance_14 : decode cX3_distance 14 = .ok (.iload_n 1, 1) := by decide +kernel
theorem dX3_distance_15 : decode cX3_distance 15 = .ok (.iload_n 2, 1) := by decide +kernel
theorem dX3_distance_16 : decode cX3_distance 16 = .ok (.invokevirtual 87, 3) := by decide +kernel
theorem dX3_distance_19 : decode cX3_distance 19 = .ok (.ireturn, 1) := by decide +kernel
theorem dX3_whereIs_0 : decode cX3_whereIs 0 = .ok (.aload_n 0, 1) := by decide +kernel
theorem dX3_whereIs_1 : decode cX3_whereIs 1 = .ok (.getfield 12, 3) := by decide +kernel
theorem dX3_whereIs_4 : decode cX3_whereIs 4 = .ok (.getfield 28, 3) := by decide +kernel
theorem dX3_whereIs_7 : decode cX3_whereIs 7 = .ok (.ifCond .ne 7, 3) := by decide +kernel
theorem dX3_whereIs_10 : decode cX3_whereIs 10 = .ok (.iconst (-1), 1) := by decide +kernel
theorem dX3_whereIs_11 : decode cX3_whereIs 11 = .ok (.goto 10, 3) := by decide +kernel
theorem dX3_whereIs_14 : decode cX3_whereIs 14 = .ok (.aload_n 0, 1) := by decide +kernel
theorem dX3_whereIs_15 : decode cX3_whereIs 15 = .ok (.getfield 21, 3) := by decide +kernel
theorem dX3_whereIs_18 : decode cX3_whereIs 18 = .ok (.getfield 84, 3) := by decide +kernel
theorem dX3_whereIs_21 : decode cX3_whereIs 21 = .ok (.ireturn, 1) := by decide +kernel
theorem dX3_coins_0 : decode cX3_coins 0 = .ok (.aload_n 0, 1) := by decide +kernel
theorem dX3_coins_1 : decode cX3_coins 1 = .ok (.getfield 21, 3) := by decide +kernel
