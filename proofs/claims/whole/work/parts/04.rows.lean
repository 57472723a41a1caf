set_option maxRecDepth 20000 in
theorem ggX0_init_X2_init : GoodIn wsX0_init wsX2_init := goodIn_r _ [17, 18, 2, 3, 9, 19, 20, 21, 22] (by decide +kernel) (by decide +kernel)
set_option maxRecDepth 20000 in
theorem gX0_init_X2_init_n11 : GoodIn wsX0_init (wsX2_init) := ggX0_init_X2_init
theorem dX0_init_0 : decode cX0_init 0 = .ok (.aload_n 0, 1) := by decide +kernel
theorem dX0_init_1 : decode cX0_init 1 = .ok (.invokespecial 3, 3) := by decide +kernel
theorem dX0_init_4 : decode cX0_init 4 = .ok (.aload_n 0, 1) := by decide +kernel
theorem dX0_init_5 : decode cX0_init 5 = .ok (.new 9, 3) := by decide +kernel
theorem dX0_init_8 : decode cX0_init 8 = .ok (.dup, 1) := by decide +kernel
theorem dX0_init_9 : decode cX0_init 9 = .ok (.invokespecial 11, 3) := by decide +kernel
theorem dX0_init_12 : decode cX0_init 12 = .ok (.putfield 12, 3) := by decide +kernel
theorem dX0_init_15 : decode cX0_init 15 = .ok (.aload_n 0, 1) := by decide +kernel
theorem dX0_init_16 : decode cX0_init 16 = .ok (.iconst (-1), 1) := by decide +kernel
theorem dX0_init_17 : decode cX0_init 17 = .ok (.putfield 18, 3) := by decide +kernel
theorem dX0_init_20 : decode cX0_init 20 = .ok (.aload_n 0, 1) := by decide +kernel
theorem dX0_init_21 : decode cX0_init 21 = .ok (.bipush 20, 2) := by decide +kernel
theorem dX0_init_23 : decode cX0_init 23 = .ok (.newarray .int, 2) := by decide +kernel
theorem dX0_init_25 : decode cX0_init 25 = .ok (.putfield 22, 3) := by decide +kernel
theorem dX0_init_28 : decode cX0_init 28 = .ok (.aload_n 0, 1) := by decide +kernel
theorem dX0_init_29 : decode cX0_init 29 = .ok (.bipush 40, 2) := by decide +kernel
theorem dX0_init_31 : decode cX0_init 31 = .ok (.newarray .boolean, 2) := by decide +kernel
theorem dX0_init_33 : decode cX0_init 33 = .ok (.putfield 26, 3) := by decide +kernel
theorem dX0_init_36 : decode cX0_init 36 = .ok (.aload_n 0, 1) := by decide +kernel
theorem dX0_init_37 : decode cX0_init 37 = .ok (.bipush 10, 2) := by decide +kernel
theorem dX0_init_39 : decode cX0_init 39 = .ok (.newarray .boolean, 2) := by decide +kernel
theorem dX0_init_41 : decode cX0_init 41 = .ok (.putfield 30, 3) := by decide +kernel
theorem dX0_init_44 : decode cX0_init 44 = .ok (.aload_n 0, 1) := by decide +kernel
theorem dX0_init_45 : decode cX0_init 45 = .ok (.iconst (-1), 1) := by decide +kernel
theorem dX0_init_46 : decode cX0_init 46 = .ok (.putfield 33, 3) := by decide +kernel
theorem dX0_init_49 : decode cX0_init 49 = .ok (.aload_n 0, 1) := by decide +kernel
theorem dX0_init_50 : decode cX0_init 50 = .ok (.aload_n 1, 1) := by decide +kernel
theorem dX0_init_51 : decode cX0_init 51 = .ok (.putfield 36, 3) := by decide +kernel
theorem dX0_init_54 : decode cX0_init 54 = .ok (.return_, 1) := by decide +kernel
set_option maxRecDepth 20000 in
theorem ggX0_startLike_X2_copyFrom : GoodIn wsX0_startLike wsX2_copyFrom := goodIn_r _ [11, 12, 13, 14, 15, 16, 17, 33, 34] (by decide +kernel) (by decide +kernel)
set_option maxRecDepth 20000 in
theorem gX0_startLike_X2_copyFrom : GoodIn wsX0_startLike (wsV RX0 46 RX2 yX2_copyFrom wsX2_copyFrom) := goodIn_app (goodIn_of _ (by decide +kernel)) ggX0_startLike_X2_copyFrom
theorem dX0_startLike_0 : decode cX0_startLike 0 = .ok (.aload_n 0, 1) := by decide +kernel
theorem dX0_startLike_1 : decode cX0_startLike 1 = .ok (.aload_n 1, 1) := by decide +kernel
theorem dX0_startLike_2 : decode cX0_startLike 2 = .ok (.getfield 40, 3) := by decide +kernel
theorem dX0_startLike_5 : decode cX0_startLike 5 = .ok (.putfield 40, 3) := by decide +kernel
theorem dX0_startLike_8 : decode cX0_startLike 8 = .ok (.aload_n 0, 1) := by decide +kernel
theorem dX0_startLike_9 : decode cX0_startLike 9 = .ok (.aload_n 1, 1) := by decide +kernel
theorem dX0_startLike_10 : decode cX0_startLike 10 = .ok (.getfield 43, 3) := by decide +kernel
theorem dX0_startLike_13 : decode cX0_startLike 13 = .ok (.putfield 43, 3) := by decide +kernel
theorem dX0_startLike_16 : decode cX0_startLike 16 = .ok (.aload_n 0, 1) := by decide +kernel
theorem dX0_startLike_17 : decode cX0_startLike 17 = .ok (.getfield 12, 3) := by decide +kernel
theorem dX0_startLike_20 : decode cX0_startLike 20 = .ok (.aload_n 1, 1) := by decide +kernel
theorem dX0_startLike_21 : decode cX0_startLike 21 = .ok (.getfield 12, 3) := by decide +kernel
theorem dX0_startLike_24 : decode cX0_startLike 24 = .ok (.invokevirtual 46, 3) := by decide +kernel
theorem dX0_startLike_27 : decode cX0_startLike 27 = .ok (.aload_n 0, 1) := by decide +kernel
theorem dX0_startLike_28 : decode cX0_startLike 28 = .ok (.iload_n 2, 1) := by decide +kernel
theorem dX0_startLike_29 : decode cX0_startLike 29 = .ok (.putfield 33, 3) := by decide +kernel
theorem dX0_startLike_32 : decode cX0_startLike 32 = .ok (.aload_n 0, 1) := by decide +kernel
theorem dX0_startLike_33 : decode cX0_startLike 33 = .ok (.iconst 0, 1) := by decide +kernel
theorem dX0_startLike_34 : decode cX0_startLike 34 = .ok (.putfield 50, 3) := by decide +kernel
theorem dX0_startLike_37 : decode cX0_startLike 37 = .ok (.aload_n 0, 1) := by decide +kernel
theorem dX0_startLike_38 : decode cX0_startLike 38 = .ok (.iconst 0, 1) := by decide +kernel
theorem dX0_startLike_39 : decode cX0_startLike 39 = .ok (.putfield 53, 3) := by decide +kernel
theorem dX0_startLike_42 : decode cX0_startLike 42 = .ok (.return_, 1) := by decide +kernel
theorem dX0_isUnderway_0 : decode cX0_isUnderway 0 = .ok (.aload_n 0, 1) := by decide +kernel
theorem dX0_isUnderway_1 : decode cX0_isUnderway 1 = .ok (.getfield 18, 3) := by decide +kernel
theorem dX0_isUnderway_4 : decode cX0_isUnderway 4 = .ok (.iconst (-1), 1) := by decide +kernel
theorem dX0_isUnderway_5 : decode cX0_isUnderway 5 = .ok (.if_icmp .eq 7, 3) := by decide +kernel
theorem dX0_isUnderway_8 : decode cX0_isUnderway 8 = .ok (.iconst 1, 1) := by decide +kernel
theorem dX0_isUnderway_9 : decode cX0_isUnderway 9 = .ok (.goto 4, 3) := by decide +kernel
theorem dX0_isUnderway_12 : decode cX0_isUnderway 12 = .ok (.iconst 0, 1) := by decide +kernel
theorem dX0_isUnderway_13 : decode cX0_isUnderway 13 = .ok (.ireturn, 1) := by decide +kernel
set_option maxRecDepth 20000 in
theorem ggX0_hasTried_X3_isEnd : GoodIn wsX0_hasTried wsX3_isEnd := goodIn_r _ [4] (by decide +kernel) (by decide +kernel)
set_option maxRecDepth 20000 in
theorem gX0_hasTried_X3_isEnd_n56 : GoodIn wsX0_hasTried (wsX3_isEnd) := ggX0_hasTried_X3_isEnd
theorem dX0_hasTried_0 : decode cX0_hasTried 0 = .ok (.iload_n 1, 1) := by decide +kernel
theorem dX0_hasTried_1 : decode cX0_hasTried 1 = .ok (.invokestatic 56, 3) := by decide +kernel
theorem dX0_hasTried_4 : decode cX0_hasTried 4 = .ok (.ifCond .eq 16, 3) := by decide +kernel
theorem dX0_hasTried_7 : decode cX0_hasTried 7 = .ok (.aload_n 0, 1) := by decide +kernel
theorem dX0_hasTried_8 : decode cX0_hasTried 8 = .ok (.getfield 26, 3) := by decide +kernel
theorem dX0_hasTried_11 : decode cX0_hasTried 11 = .ok (.iload_n 1, 1) := by decide +kernel
theorem dX0_hasTried_12 : decode cX0_hasTried 12 = .ok (.baload, 1) := by decide +kernel
theorem dX0_hasTried_13 : decode cX0_hasTried 13 = .ok (.ifCond .eq 7, 3) := by decide +kernel
theorem dX0_hasTried_16 : decode cX0_hasTried 16 = .ok (.iconst 1, 1) := by decide +kernel
theorem dX0_hasTried_17 : decode cX0_hasTried 17 = .ok (.goto 4, 3) := by decide +kernel
theorem dX0_hasTried_20 : decode cX0_hasTried 20 = .ok (.iconst 0, 1) := by decide +kernel
theorem dX0_hasTried_21 : decode cX0_hasTried 21 = .ok (.ireturn, 1) := by decide +kernel
set_option maxRecDepth 20000 in
theorem ggX0_begin_X0_forget : GoodIn wsX0_begin wsX0_forget := goodIn_r _ [10] (by decide +kernel) (by decide +kernel)
set_option maxRecDepth 20000 in
theorem gX0_begin_X0_forget : GoodIn wsX0_begin (va_wsS RX0 60 yX0_forget wsX0_forget) := goodIn_app (goodIn_of _ (by decide +kernel)) ggX0_begin_X0_forget
set_option maxRecDepth 20000 in
theorem ggX0_begin_X0_endErrand : GoodIn wsX0_begin wsX0_endErrand := goodIn_r _ [14, 4, 3, 15, 16, 17, 18, 19, 20, 21, 22, 23, 24, 25, 26, 27, 28, 29] (by decide +kernel) (by decide +kernel)
set_option maxRecDepth 20000 in
theorem gX0_begin_X0_endErrand : GoodIn wsX0_begin (wsV RX0 70 RX0 yX0_endErrand wsX0_endErrand) := goodIn_app (goodIn_of _ (by decide +kernel)) ggX0_begin_X0_endErrand
theorem dX0_begin_0 : decode cX0_begin 0 = .ok (.aload_n 0, 1) := by decide +kernel
theorem dX0_begin_1 : decode cX0_begin 1 = .ok (.getfield 26, 3) := by decide +kernel
theorem dX0_begin_4 : decode cX0_begin 4 = .ok (.invokestatic 60, 3) := by decide +kernel
theorem dX0_begin_7 : decode cX0_begin 7 = .ok (.aload_n 0, 1) := by decide +kernel
theorem dX0_begin_8 : decode cX0_begin 8 = .ok (.getfield 30, 3) := by decide +kernel
theorem dX0_begin_11 : decode cX0_begin 11 = .ok (.invokestatic 60, 3) := by decide +kernel
theorem dX0_begin_14 : decode cX0_begin 14 = .ok (.aload_n 0, 1) := by decide +kernel
theorem dX0_begin_15 : decode cX0_begin 15 = .ok (.iconst 0, 1) := by decide +kernel
theorem dX0_begin_16 : decode cX0_begin 16 = .ok (.putfield 64, 3) := by decide +kernel
theorem dX0_begin_19 : decode cX0_begin 19 = .ok (.aload_n 0, 1) := by decide +kernel
theorem dX0_begin_20 : decode cX0_begin 20 = .ok (.iload_n 1, 1) := by decide +kernel
theorem dX0_begin_21 : decode cX0_begin 21 = .ok (.putfield 18, 3) := by decide +kernel
theorem dX0_begin_24 : decode cX0_begin 24 = .ok (.aload_n 0, 1) := by decide +kernel
theorem dX0_begin_25 : decode cX0_begin 25 = .ok (.getfield 40, 3) := by decide +kernel
theorem dX0_begin_28 : decode cX0_begin 28 = .ok (.aload_n 0, 1) := by decide +kernel
theorem dX0_begin_29 : decode cX0_begin 29 = .ok (.getfield 18, 3) := by decide +kernel
theorem dX0_begin_32 : decode cX0_begin 32 = .ok (.if_icmp .ne 17, 3) := by decide +kernel
theorem dX0_begin_35 : decode cX0_begin 35 = .ok (.aload_n 0, 1) := by decide +kernel
theorem dX0_begin_36 : decode cX0_begin 36 = .ok (.dup, 1) := by decide +kernel
theorem dX0_begin_37 : decode cX0_begin 37 = .ok (.getfield 67, 3) := by decide +kernel
theorem dX0_begin_40 : decode cX0_begin 40 = .ok (.iconst 1, 1) := by decide +kernel
theorem dX0_begin_41 : decode cX0_begin 41 = .ok (.iadd, 1) := by decide +kernel
theorem dX0_begin_42 : decode cX0_begin 42 = .ok (.putfield 67, 3) := by decide +kernel
theorem dX0_begin_45 : decode cX0_begin 45 = .ok (.aload_n 0, 1) := by decide +kernel
theorem dX0_begin_46 : decode cX0_begin 46 = .ok (.invokevirtual 70, 3) := by decide +kernel
theorem dX0_begin_49 : decode cX0_begin 49 = .ok (.return_, 1) := by decide +kernel
theorem dX0_endErrand_0 : decode cX0_endErrand 0 = .ok (.aload_n 0, 1) := by decide +kernel
theorem dX0_endErrand_1 : decode cX0_endErrand 1 = .ok (.iconst (-1), 1) := by decide +kernel
theorem dX0_endErrand_2 : decode cX0_endErrand 2 = .ok (.putfield 18, 3) := by decide +kernel
theorem dX0_endErrand_5 : decode cX0_endErrand 5 = .ok (.aload_n 0, 1) := by decide +kernel
theorem dX0_endErrand_6 : decode cX0_endErrand 6 = .ok (.iconst 0, 1) := by decide +kernel
theorem dX0_endErrand_7 : decode cX0_endErrand 7 = .ok (.putfield 64, 3) := by decide +kernel
theorem dX0_endErrand_10 : decode cX0_endErrand 10 = .ok (.return_, 1) := by decide +kernel
set_option maxRecDepth 20000 in
theorem ggX0_step_X0_rememberedEnd : GoodIn wsX0_step wsX0_rememberedEnd := goodIn_r _ [10, 11, 3, 12, 4, 13, 14, 15, 16, 17, 18, 19, 20, 21, 22, 23, 24, 25, 26, 27, 28, 29, 30, 31, 32, 33, 34, 35, 36, 9, 37, 38, 39, 40, 41, 121, 122, 123, 124, 125, 126, 127, 128, 129, 130, 131, 132, 133, 134, 135, 136, 137, 138, 139, 140, 141, 142, 143, 144, 145] (by decide +kernel) (by decide +kernel)
set_option maxRecDepth 20000 in
theorem gX0_step_X0_rememberedEnd : GoodIn wsX0_step (wsV RX0 73 RX0 yX0_rememberedEnd wsX0_rememberedEnd) := goodIn_app (goodIn_of _ (by decide +kernel)) ggX0_step_X0_rememberedEnd
set_option maxRecDepth 20000 in
theorem ggX0_step_X0_askedEnd : GoodIn wsX0_step wsX0_askedEnd := goodIn_r _ [45, 11, 3, 46, 47, 48, 49, 4, 12, 50, 30, 31, 26, 32, 33, 51, 52, 53, 54, 55, 56, 28, 57, 58, 59, 60, 61, 62, 63, 64, 29, 65, 66, 67, 68, 69, 70, 71, 72, 40, 73, 74, 75, 76, 77, 78, 16, 79, 19, 18, 20, 21, 22, 34, 35, 36, 9, 37, 38, 39, 41, 121, 122, 123, 124, 125, 126, 127, 128, 129, 130, 131, 132, 133, 134, 135, 138, 139, 140, 141, 142, 143, 144, 145, 136, 137] (by decide +kernel) (by decide +kernel)
set_option maxRecDepth 20000 in
theorem gX0_step_X0_askedEnd : GoodIn wsX0_step (wsV RX0 77 RX0 yX0_askedEnd wsX0_askedEnd) := goodIn_app (goodIn_of _ (by decide +kernel)) ggX0_step_X0_askedEnd
set_option maxRecDepth 20000 in
theorem ggX0_step_X0_firstUntried : GoodIn wsX0_step wsX0_firstUntried := goodIn_r _ [83, 3, 34, 35, 36, 9, 37, 11, 38, 39, 40, 41, 121, 122, 123, 124, 125, 126, 127, 128, 129, 130, 131, 132, 133, 134, 135, 138, 139, 140, 141, 142, 143, 144, 145] (by decide +kernel) (by decide +kernel)
set_option maxRecDepth 20000 in
theorem gX0_step_X0_firstUntried : GoodIn wsX0_step (wsV RX0 80 RX0 yX0_firstUntried wsX0_firstUntried) := goodIn_app (goodIn_of _ (by decide +kernel)) ggX0_step_X0_firstUntried
set_option maxRecDepth 20000 in
theorem ggX0_step_X0_take : GoodIn wsX0_step wsX0_take := goodIn_r _ [87, 11, 1, 38, 88, 89, 3, 90, 91, 92, 26, 93, 94, 39, 40, 41, 95, 96, 97, 98, 71, 72, 73, 121, 122, 123, 124, 125, 126, 127, 128, 129, 130, 131, 132, 133, 134, 135, 138, 139, 140, 141, 142, 143, 144, 145] (by decide +kernel) (by decide +kernel)
set_option maxRecDepth 20000 in
theorem gX0_step_X0_take : GoodIn wsX0_step (wsV RX0 83 RX0 yX0_take wsX0_take) := goodIn_app (goodIn_of _ (by decide +kernel)) ggX0_step_X0_take
set_option maxRecDepth 20000 in
theorem ggX0_step_X0_doubleBack : GoodIn wsX0_step wsX0_doubleBack := goodIn_r _ [102, 1, 88, 11, 89, 103, 3, 95, 96, 97, 26, 98, 71, 39, 40, 41, 72, 73, 121, 122, 123, 124, 125, 126, 127, 128, 129, 130, 131, 132, 133, 134, 135, 138, 139, 140, 141, 142, 143, 144, 145] (by decide +kernel) (by decide +kernel)
set_option maxRecDepth 20000 in
theorem gX0_step_X0_doubleBack : GoodIn wsX0_step (wsV RX0 87 RX0 yX0_doubleBack wsX0_doubleBack) := goodIn_app (goodIn_of _ (by decide +kernel)) ggX0_step_X0_doubleBack
set_option maxRecDepth 20000 in
theorem ggX0_step_X0_endErrand : GoodIn wsX0_step wsX0_endErrand := goodIn_r _ [107, 4, 1, 121, 122, 123, 124, 125, 126, 127, 128, 129, 130, 131, 132, 133, 134, 135] (by decide +kernel) (by decide +kernel)
set_option maxRecDepth 20000 in
theorem gX0_step_X0_endErrand : GoodIn wsX0_step (wsV RX0 70 RX0 yX0_endErrand wsX0_endErrand) := goodIn_app (goodIn_of _ (by decide +kernel)) ggX0_step_X0_endErrand
set_option maxRecDepth 20000 in
theorem ggX0_step_X0_rememberWay : GoodIn wsX0_step wsX0_rememberWay := goodIn_r _ [111, 1, 12, 4, 88, 72, 40, 73, 74, 75, 112, 113, 114, 16, 115, 18, 19, 116, 117, 118, 119, 20, 21, 22, 120, 77, 78, 79, 121, 122, 123, 124, 125, 126, 127, 128, 129, 130, 131, 132, 133, 134, 135, 136, 137] (by decide +kernel) (by decide +kernel)
set_option maxRecDepth 20000 in
theorem gX0_step_X0_rememberWay : GoodIn wsX0_step (wsV RX0 90 RX0 yX0_rememberWay wsX0_rememberWay) := goodIn_app (goodIn_of _ (by decide +kernel)) ggX0_step_X0_rememberWay
theorem dX0_step_0 : decode cX0_step 0 = .ok (.aload_n 0, 1) := by decide +kernel
theorem dX0_step_1 : decode cX0_step 1 = .ok (.invokevirtual 73, 3) := by decide +kernel
theorem dX0_step_4 : decode cX0_step 4 = .ok (.istore_n 1, 1) := by decide +kernel
theorem dX0_step_5 : decode cX0_step 5 = .ok (.iload_n 1, 1) := by decide +kernel
theorem dX0_step_6 : decode cX0_step 6 = .ok (.iconst (-1), 1) := by decide +kernel
theorem dX0_step_7 : decode cX0_step 7 = .ok (.if_icmp .ne 8, 3) := by decide +kernel
theorem dX0_step_10 : decode cX0_step 10 = .ok (.aload_n 0, 1) := by decide +kernel
theorem dX0_step_11 : decode cX0_step 11 = .ok (.invokevirtual 77, 3) := by decide +kernel
theorem dX0_step_14 : decode cX0_step 14 = .ok (.istore_n 1, 1) := by decide +kernel
theorem dX0_step_15 : decode cX0_step 15 = .ok (.iload_n 1, 1) := by decide +kernel
theorem dX0_step_16 : decode cX0_step 16 = .ok (.iconst (-1), 1) := by decide +kernel
theorem dX0_step_17 : decode cX0_step 17 = .ok (.if_icmp .ne 8, 3) := by decide +kernel
theorem dX0_step_20 : decode cX0_step 20 = .ok (.aload_n 0, 1) := by decide +kernel
theorem dX0_step_21 : decode cX0_step 21 = .ok (.invokevirtual 80, 3) := by decide +kernel
theorem dX0_step_24 : decode cX0_step 24 = .ok (.istore_n 1, 1) := by decide +kernel
theorem dX0_step_25 : decode cX0_step 25 = .ok (.iload_n 1, 1) := by decide +kernel
theorem dX0_step_26 : decode cX0_step 26 = .ok (.iconst (-1), 1) := by decide +kernel
theorem dX0_step_27 : decode cX0_step 27 = .ok (.if_icmp .eq 11, 3) := by decide +kernel
theorem dX0_step_30 : decode cX0_step 30 = .ok (.aload_n 0, 1) := by decide +kernel
theorem dX0_step_31 : decode cX0_step 31 = .ok (.iload_n 1, 1) := by decide +kernel
theorem dX0_step_32 : decode cX0_step 32 = .ok (.invokevirtual 83, 3) := by decide +kernel
theorem dX0_step_35 : decode cX0_step 35 = .ok (.goto 33, 3) := by decide +kernel
theorem dX0_step_38 : decode cX0_step 38 = .ok (.aload_n 0, 1) := by decide +kernel
theorem dX0_step_39 : decode cX0_step 39 = .ok (.getfield 64, 3) := by decide +kernel
theorem dX0_step_42 : decode cX0_step 42 = .ok (.ifCond .le 10, 3) := by decide +kernel
theorem dX0_step_45 : decode cX0_step 45 = .ok (.aload_n 0, 1) := by decide +kernel
theorem dX0_step_46 : decode cX0_step 46 = .ok (.invokevirtual 87, 3) := by decide +kernel
theorem dX0_step_49 : decode cX0_step 49 = .ok (.goto 19, 3) := by decide +kernel
theorem dX0_step_52 : decode cX0_step 52 = .ok (.aload_n 0, 1) := by decide +kernel
theorem dX0_step_53 : decode cX0_step 53 = .ok (.dup, 1) := by decide +kernel
theorem dX0_step_54 : decode cX0_step 54 = .ok (.getfield 53, 3) := by decide +kernel
theorem dX0_step_57 : decode cX0_step 57 = .ok (.iconst 1, 1) := by decide +kernel
theorem dX0_step_58 : decode cX0_step 58 = .ok (.iadd, 1) := by decide +kernel
theorem dX0_step_59 : decode cX0_step 59 = .ok (.putfield 53, 3) := by decide +kernel
theorem dX0_step_62 : decode cX0_step 62 = .ok (.aload_n 0, 1) := by decide +kernel
theorem dX0_step_63 : decode cX0_step 63 = .ok (.invokevirtual 70, 3) := by decide +kernel
theorem dX0_step_66 : decode cX0_step 66 = .ok (.iconst 0, 1) := by decide +kernel
theorem dX0_step_67 : decode cX0_step 67 = .ok (.ireturn, 1) := by decide +kernel
theorem dX0_step_68 : decode cX0_step 68 = .ok (.aload_n 0, 1) := by decide +kernel
theorem dX0_step_69 : decode cX0_step 69 = .ok (.getfield 40, 3) := by decide +kernel
theorem dX0_step_72 : decode cX0_step 72 = .ok (.aload_n 0, 1) := by decide +kernel
theorem dX0_step_73 : decode cX0_step 73 = .ok (.getfield 18, 3) := by decide +kernel
theorem dX0_step_76 : decode cX0_step 76 = .ok (.if_icmp .ne 21, 3) := by decide +kernel
theorem dX0_step_79 : decode cX0_step 79 = .ok (.aload_n 0, 1) := by decide +kernel
theorem dX0_step_80 : decode cX0_step 80 = .ok (.invokevirtual 90, 3) := by decide +kernel
theorem dX0_step_83 : decode cX0_step 83 = .ok (.aload_n 0, 1) := by decide +kernel
theorem dX0_step_84 : decode cX0_step 84 = .ok (.dup, 1) := by decide +kernel
theorem dX0_step_85 : decode cX0_step 85 = .ok (.getfield 67, 3) := by decide +kernel
theorem dX0_step_88 : decode cX0_step 88 = .ok (.iconst 1, 1) := by decide +kernel
theorem dX0_step_89 : decode cX0_step 89 = .ok (.iadd, 1) := by decide +kernel
theorem dX0_step_90 : decode cX0_step 90 = .ok (.putfield 67, 3) := by decide +kernel
theorem dX0_step_93 : decode cX0_step 93 = .ok (.aload_n 0, 1) := by decide +kernel
theorem dX0_step_94 : decode cX0_step 94 = .ok (.invokevirtual 70, 3) := by decide +kernel
theorem dX0_step_97 : decode cX0_step 97 = .ok (.iconst 1, 1) := by decide +kernel
theorem dX0_step_98 : decode cX0_step 98 = .ok (.ireturn, 1) := by decide +kernel
set_option maxRecDepth 20000 in
theorem ggX0_canTake_X3_isEnd : GoodIn wsX0_canTake wsX3_isEnd := goodIn_r _ [5] (by decide +kernel) (by decide +kernel)
set_option maxRecDepth 20000 in
theorem gX0_canTake_X3_isEnd_n56 : GoodIn wsX0_canTake (wsX3_isEnd) := ggX0_canTake_X3_isEnd
theorem dX0_canTake_0 : decode cX0_canTake 0 = .ok (.iload_n 1, 1) := by decide +kernel
theorem dX0_canTake_1 : decode cX0_canTake 1 = .ok (.invokestatic 56, 3) := by decide +kernel
theorem dX0_canTake_4 : decode cX0_canTake 4 = .ok (.ifCond .eq 28, 3) := by decide +kernel
theorem dX0_canTake_7 : decode cX0_canTake 7 = .ok (.aload_n 0, 1) := by decide +kernel
theorem dX0_canTake_8 : decode cX0_canTake 8 = .ok (.getfield 36, 3) := by decide +kernel
theorem dX0_canTake_11 : decode cX0_canTake 11 = .ok (.getfield 93, 3) := by decide +kernel
theorem dX0_canTake_14 : decode cX0_canTake 14 = .ok (.iload_n 1, 1) := by decide +kernel
theorem dX0_canTake_15 : decode cX0_canTake 15 = .ok (.baload, 1) := by decide +kernel
theorem dX0_canTake_16 : decode cX0_canTake 16 = .ok (.ifCond .eq 16, 3) := by decide +kernel
theorem dX0_canTake_19 : decode cX0_canTake 19 = .ok (.aload_n 0, 1) := by decide +kernel
theorem dX0_canTake_20 : decode cX0_canTake 20 = .ok (.getfield 26, 3) := by decide +kernel
theorem dX0_canTake_23 : decode cX0_canTake 23 = .ok (.iload_n 1, 1) := by decide +kernel
theorem dX0_canTake_24 : decode cX0_canTake 24 = .ok (.baload, 1) := by decide +kernel
theorem dX0_canTake_25 : decode cX0_canTake 25 = .ok (.ifCond .ne 7, 3) := by decide +kernel
theorem dX0_canTake_28 : decode cX0_canTake 28 = .ok (.iconst 1, 1) := by decide +kernel
theorem dX0_canTake_29 : decode cX0_canTake 29 = .ok (.goto 4, 3) := by decide +kernel
theorem dX0_canTake_32 : decode cX0_canTake 32 = .ok (.iconst 0, 1) := by decide +kernel
theorem dX0_canTake_33 : decode cX0_canTake 33 = .ok (.ireturn, 1) := by decide +kernel
set_option maxRecDepth 20000 in
theorem ggX0_rememberedEnd_X2_exitFor : GoodIn wsX0_rememberedEnd wsX2_exitFor := goodIn_r _ [9, 10, 11, 12, 13, 8, 14, 50, 51] (by decide +kernel) (by decide +kernel)
set_option maxRecDepth 20000 in
theorem gX0_rememberedEnd_X2_exitFor : GoodIn wsX0_rememberedEnd (wsV RX0 98 RX2 yX2_exitFor wsX2_exitFor) := goodIn_app (goodIn_of _ (by decide +kernel)) ggX0_rememberedEnd_X2_exitFor
set_option maxRecDepth 20000 in
theorem ggX0_rememberedEnd_X1_endAt : GoodIn wsX0_rememberedEnd wsX1_endAt := goodIn_r _ [19, 20, 21, 22, 23, 18, 24, 25, 52, 53, 54, 55, 56, 57, 58, 59] (by decide +kernel) (by decide +kernel)
set_option maxRecDepth 20000 in
theorem gX0_rememberedEnd_X1_endAt : GoodIn wsX0_rememberedEnd (wsV RX0 102 RX1 yX1_endAt wsX1_endAt) := goodIn_app (goodIn_of _ (by decide +kernel)) ggX0_rememberedEnd_X1_endAt
set_option maxRecDepth 20000 in
theorem ggX0_rememberedEnd_X0_canTake : GoodIn wsX0_rememberedEnd wsX0_canTake := goodIn_r _ [30, 1, 31, 32, 33, 34, 35, 36, 37, 38, 39, 40, 41, 42, 43, 44, 45, 46, 47, 48, 49, 52, 53, 54, 55, 56, 57, 58, 59] (by decide +kernel) (by decide +kernel)
set_option maxRecDepth 20000 in
theorem gX0_rememberedEnd_X0_canTake : GoodIn wsX0_rememberedEnd (wsV RX0 105 RX0 yX0_canTake wsX0_canTake) := goodIn_app (goodIn_of _ (by decide +kernel)) ggX0_rememberedEnd_X0_canTake
theorem dX0_rememberedEnd_0 : decode cX0_rememberedEnd 0 = .ok (.aload_n 0, 1) := by decide +kernel
theorem dX0_rememberedEnd_1 : decode cX0_rememberedEnd 1 = .ok (.getfield 36, 3) := by decide +kernel
theorem dX0_rememberedEnd_4 : decode cX0_rememberedEnd 4 = .ok (.aload_n 0, 1) := by decide +kernel
theorem dX0_rememberedEnd_5 : decode cX0_rememberedEnd 5 = .ok (.getfield 40, 3) := by decide +kernel
theorem dX0_rememberedEnd_8 : decode cX0_rememberedEnd 8 = .ok (.aload_n 0, 1) := by decide +kernel
theorem dX0_rememberedEnd_9 : decode cX0_rememberedEnd 9 = .ok (.getfield 12, 3) := by decide +kernel
theorem dX0_rememberedEnd_12 : decode cX0_rememberedEnd 12 = .ok (.aload_n 0, 1) := by decide +kernel
theorem dX0_rememberedEnd_13 : decode cX0_rememberedEnd 13 = .ok (.getfield 18, 3) := by decide +kernel
theorem dX0_rememberedEnd_16 : decode cX0_rememberedEnd 16 = .ok (.aload_n 0, 1) := by decide +kernel
theorem dX0_rememberedEnd_17 : decode cX0_rememberedEnd 17 = .ok (.getfield 40, 3) := by decide +kernel
theorem dX0_rememberedEnd_20 : decode cX0_rememberedEnd 20 = .ok (.invokevirtual 98, 3) := by decide +kernel
theorem dX0_rememberedEnd_23 : decode cX0_rememberedEnd 23 = .ok (.invokevirtual 102, 3) := by decide +kernel
theorem dX0_rememberedEnd_26 : decode cX0_rememberedEnd 26 = .ok (.istore_n 1, 1) := by decide +kernel
theorem dX0_rememberedEnd_27 : decode cX0_rememberedEnd 27 = .ok (.aload_n 0, 1) := by decide +kernel
theorem dX0_rememberedEnd_28 : decode cX0_rememberedEnd 28 = .ok (.iload_n 1, 1) := by decide +kernel
theorem dX0_rememberedEnd_29 : decode cX0_rememberedEnd 29 = .ok (.invokevirtual 105, 3) := by decide +kernel
theorem dX0_rememberedEnd_32 : decode cX0_rememberedEnd 32 = .ok (.ifCond .eq 7, 3) := by decide +kernel
theorem dX0_rememberedEnd_35 : decode cX0_rememberedEnd 35 = .ok (.iload_n 1, 1) := by decide +kernel
theorem dX0_rememberedEnd_36 : decode cX0_rememberedEnd 36 = .ok (.goto 4, 3) := by decide +kernel
theorem dX0_rememberedEnd_39 : decode cX0_rememberedEnd 39 = .ok (.iconst (-1), 1) := by decide +kernel
theorem dX0_rememberedEnd_40 : decode cX0_rememberedEnd 40 = .ok (.ireturn, 1) := by decide +kernel
set_option maxRecDepth 20000 in
theorem ggX0_askedEnd_X1_isPlace : GoodIn wsX0_askedEnd wsX1_isPlace := goodIn_r _ [13, 14, 76, 77, 78, 79, 80, 81, 82, 83] (by decide +kernel) (by decide +kernel)
set_option maxRecDepth 20000 in
theorem gX0_askedEnd_X1_isPlace : GoodIn wsX0_askedEnd (wsV RX0 108 RX1 yX1_isPlace wsX1_isPlace) := goodIn_app (goodIn_of _ (by decide +kernel)) ggX0_askedEnd_X1_isPlace
set_option maxRecDepth 20000 in
theorem ggX0_askedEnd_X1_endTowards : GoodIn wsX0_askedEnd wsX1_endTowards := goodIn_r _ [18, 19, 20, 21, 22, 23, 24, 12, 25, 26, 27, 28, 29, 30, 10, 11, 13, 14, 31, 32, 33, 34, 35, 36, 37, 38, 39, 40, 76, 77, 78, 79, 80, 81, 82, 83] (by decide +kernel) (by decide +kernel)
set_option maxRecDepth 20000 in
theorem gX0_askedEnd_X1_endTowards : GoodIn wsX0_askedEnd (wsV RX0 117 RX1 yX1_endTowards wsX1_endTowards) := goodIn_app (goodIn_of _ (by decide +kernel)) ggX0_askedEnd_X1_endTowards
set_option maxRecDepth 20000 in
theorem ggX0_askedEnd_X3_exitOfEnd : GoodIn wsX0_askedEnd wsX3_exitOfEnd := goodIn_r _ [42] (by decide +kernel) (by decide +kernel)
set_option maxRecDepth 20000 in
theorem gX0_askedEnd_X3_exitOfEnd_n120 : GoodIn wsX0_askedEnd (wsX3_exitOfEnd) := ggX0_askedEnd_X3_exitOfEnd
set_option maxRecDepth 20000 in
theorem ggX0_askedEnd_X2_learn : GoodIn wsX0_askedEnd wsX2_learn := goodIn_r _ [47, 48, 49, 50, 51, 46, 52, 84, 85] (by decide +kernel) (by decide +kernel)
set_option maxRecDepth 20000 in
theorem gX0_askedEnd_X2_learn : GoodIn wsX0_askedEnd (wsV RX0 124 RX2 yX2_learn wsX2_learn) := goodIn_app (goodIn_of _ (by decide +kernel)) ggX0_askedEnd_X2_learn
set_option maxRecDepth 20000 in
theorem ggX0_askedEnd_X0_canTake : GoodIn wsX0_askedEnd wsX0_canTake := goodIn_r _ [57, 1, 58, 59, 39, 60, 61, 62, 63, 64, 65, 66, 67, 68, 69, 70, 71, 72, 73, 74, 75, 76, 77, 78, 79, 80, 81, 82, 83] (by decide +kernel) (by decide +kernel)
set_option maxRecDepth 20000 in
theorem gX0_askedEnd_X0_canTake : GoodIn wsX0_askedEnd (wsV RX0 105 RX0 yX0_canTake wsX0_canTake) := goodIn_app (goodIn_of _ (by decide +kernel)) ggX0_askedEnd_X0_canTake
theorem dX0_askedEnd_0 : decode cX0_askedEnd 0 = .ok (.aload_n 0, 1) := by decide +kernel
theorem dX0_askedEnd_1 : decode cX0_askedEnd 1 = .ok (.getfield 36, 3) := by decide +kernel
theorem dX0_askedEnd_4 : decode cX0_askedEnd 4 = .ok (.aload_n 0, 1) := by decide +kernel
theorem dX0_askedEnd_5 : decode cX0_askedEnd 5 = .ok (.getfield 40, 3) := by decide +kernel
theorem dX0_askedEnd_8 : decode cX0_askedEnd 8 = .ok (.invokevirtual 108, 3) := by decide +kernel
theorem dX0_askedEnd_11 : decode cX0_askedEnd 11 = .ok (.ifCond .eq 33, 3) := by decide +kernel
theorem dX0_askedEnd_14 : decode cX0_askedEnd 14 = .ok (.aload_n 0, 1) := by decide +kernel
theorem dX0_askedEnd_15 : decode cX0_askedEnd 15 = .ok (.getfield 36, 3) := by decide +kernel
theorem dX0_askedEnd_18 : decode cX0_askedEnd 18 = .ok (.getfield 111, 3) := by decide +kernel
theorem dX0_askedEnd_21 : decode cX0_askedEnd 21 = .ok (.aload_n 0, 1) := by decide +kernel
theorem dX0_askedEnd_22 : decode cX0_askedEnd 22 = .ok (.getfield 40, 3) := by decide +kernel
theorem dX0_askedEnd_25 : decode cX0_askedEnd 25 = .ok (.baload, 1) := by decide +kernel
theorem dX0_askedEnd_26 : decode cX0_askedEnd 26 = .ok (.ifCond .ne 14, 3) := by decide +kernel
theorem dX0_askedEnd_29 : decode cX0_askedEnd 29 = .ok (.aload_n 0, 1) := by decide +kernel
theorem dX0_askedEnd_30 : decode cX0_askedEnd 30 = .ok (.getfield 40, 3) := by decide +kernel
theorem dX0_askedEnd_33 : decode cX0_askedEnd 33 = .ok (.aload_n 0, 1) := by decide +kernel
theorem dX0_askedEnd_34 : decode cX0_askedEnd 34 = .ok (.getfield 33, 3) := by decide +kernel
theorem dX0_askedEnd_37 : decode cX0_askedEnd 37 = .ok (.if_icmp .ne 7, 3) := by decide +kernel
theorem dX0_askedEnd_40 : decode cX0_askedEnd 40 = .ok (.iconst 1, 1) := by decide +kernel
theorem dX0_askedEnd_41 : decode cX0_askedEnd 41 = .ok (.goto 4, 3) := by decide +kernel
theorem dX0_askedEnd_44 : decode cX0_askedEnd 44 = .ok (.iconst 0, 1) := by decide +kernel
theorem dX0_askedEnd_45 : decode cX0_askedEnd 45 = .ok (.istore_n 1, 1) := by decide +kernel
theorem dX0_askedEnd_46 : decode cX0_askedEnd 46 = .ok (.iload_n 1, 1) := by decide +kernel
theorem dX0_askedEnd_47 : decode cX0_askedEnd 47 = .ok (.ifCond .eq 22, 3) := by decide +kernel
theorem dX0_askedEnd_50 : decode cX0_askedEnd 50 = .ok (.aload_n 0, 1) := by decide +kernel
theorem dX0_askedEnd_51 : decode cX0_askedEnd 51 = .ok (.getfield 30, 3) := by decide +kernel
theorem dX0_askedEnd_54 : decode cX0_askedEnd 54 = .ok (.aload_n 0, 1) := by decide +kernel
theorem dX0_askedEnd_55 : decode cX0_askedEnd 55 = .ok (.getfield 40, 3) := by decide +kernel
theorem dX0_askedEnd_58 : decode cX0_askedEnd 58 = .ok (.baload, 1) := by decide +kernel
theorem dX0_askedEnd_59 : decode cX0_askedEnd 59 = .ok (.ifCond .ne 10, 3) := by decide +kernel
theorem dX0_askedEnd_62 : decode cX0_askedEnd 62 = .ok (.aload_n 0, 1) := by decide +kernel
theorem dX0_askedEnd_63 : decode cX0_askedEnd 63 = .ok (.getfield 43, 3) := by decide +kernel
theorem dX0_askedEnd_66 : decode cX0_askedEnd 66 = .ok (.ifCond .ne 5, 3) := by decide +kernel
theorem dX0_askedEnd_69 : decode cX0_askedEnd 69 = .ok (.iconst (-1), 1) := by decide +kernel
theorem dX0_askedEnd_70 : decode cX0_askedEnd 70 = .ok (.ireturn, 1) := by decide +kernel
theorem dX0_askedEnd_71 : decode cX0_askedEnd 71 = .ok (.aload_n 0, 1) := by decide +kernel
theorem dX0_askedEnd_72 : decode cX0_askedEnd 72 = .ok (.dup, 1) := by decide +kernel
theorem dX0_askedEnd_73 : decode cX0_askedEnd 73 = .ok (.getfield 43, 3) := by decide +kernel
theorem dX0_askedEnd_76 : decode cX0_askedEnd 76 = .ok (.iconst 1, 1) := by decide +kernel
theorem dX0_askedEnd_77 : decode cX0_askedEnd 77 = .ok (.isub, 1) := by decide +kernel
theorem dX0_askedEnd_78 : decode cX0_askedEnd 78 = .ok (.putfield 43, 3) := by decide +kernel
theorem dX0_askedEnd_81 : decode cX0_askedEnd 81 = .ok (.aload_n 0, 1) := by decide +kernel
theorem dX0_askedEnd_82 : decode cX0_askedEnd 82 = .ok (.dup, 1) := by decide +kernel
theorem dX0_askedEnd_83 : decode cX0_askedEnd 83 = .ok (.getfield 114, 3) := by decide +kernel
theorem dX0_askedEnd_86 : decode cX0_askedEnd 86 = .ok (.iconst 1, 1) := by decide +kernel
theorem dX0_askedEnd_87 : decode cX0_askedEnd 87 = .ok (.iadd, 1) := by decide +kernel
theorem dX0_askedEnd_88 : decode cX0_askedEnd 88 = .ok (.putfield 114, 3) := by decide +kernel
theorem dX0_askedEnd_91 : decode cX0_askedEnd 91 = .ok (.aload_n 0, 1) := by decide +kernel
theorem dX0_askedEnd_92 : decode cX0_askedEnd 92 = .ok (.getfield 30, 3) := by decide +kernel
theorem dX0_askedEnd_95 : decode cX0_askedEnd 95 = .ok (.aload_n 0, 1) := by decide +kernel
theorem dX0_askedEnd_96 : decode cX0_askedEnd 96 = .ok (.getfield 40, 3) := by decide +kernel
theorem dX0_askedEnd_99 : decode cX0_askedEnd 99 = .ok (.iconst 1, 1) := by decide +kernel
theorem dX0_askedEnd_100 : decode cX0_askedEnd 100 = .ok (.bastore, 1) := by decide +kernel
theorem dX0_askedEnd_101 : decode cX0_askedEnd 101 = .ok (.aload_n 0, 1) := by decide +kernel
theorem dX0_askedEnd_102 : decode cX0_askedEnd 102 = .ok (.getfield 36, 3) := by decide +kernel
theorem dX0_askedEnd_105 : decode cX0_askedEnd 105 = .ok (.aload_n 0, 1) := by decide +kernel
theorem dX0_askedEnd_106 : decode cX0_askedEnd 106 = .ok (.getfield 40, 3) := by decide +kernel
theorem dX0_askedEnd_109 : decode cX0_askedEnd 109 = .ok (.aload_n 0, 1) := by decide +kernel
theorem dX0_askedEnd_110 : decode cX0_askedEnd 110 = .ok (.getfield 18, 3) := by decide +kernel
theorem dX0_askedEnd_113 : decode cX0_askedEnd 113 = .ok (.invokevirtual 117, 3) := by decide +kernel
theorem dX0_askedEnd_116 : decode cX0_askedEnd 116 = .ok (.istore_n 2, 1) := by decide +kernel
theorem dX0_askedEnd_117 : decode cX0_askedEnd 117 = .ok (.iload_n 2, 1) := by decide +kernel
theorem dX0_askedEnd_118 : decode cX0_askedEnd 118 = .ok (.iconst (-1), 1) := by decide +kernel
theorem dX0_askedEnd_119 : decode cX0_askedEnd 119 = .ok (.if_icmp .eq 22, 3) := by decide +kernel
theorem dX0_askedEnd_122 : decode cX0_askedEnd 122 = .ok (.aload_n 0, 1) := by decide +kernel
theorem dX0_askedEnd_123 : decode cX0_askedEnd 123 = .ok (.getfield 12, 3) := by decide +kernel
theorem dX0_askedEnd_126 : decode cX0_askedEnd 126 = .ok (.aload_n 0, 1) := by decide +kernel
theorem dX0_askedEnd_127 : decode cX0_askedEnd 127 = .ok (.getfield 18, 3) := by decide +kernel
theorem dX0_askedEnd_130 : decode cX0_askedEnd 130 = .ok (.aload_n 0, 1) := by decide +kernel
theorem dX0_askedEnd_131 : decode cX0_askedEnd 131 = .ok (.getfield 40, 3) := by decide +kernel
theorem dX0_askedEnd_134 : decode cX0_askedEnd 134 = .ok (.iload_n 2, 1) := by decide +kernel
theorem dX0_askedEnd_135 : decode cX0_askedEnd 135 = .ok (.invokestatic 120, 3) := by decide +kernel
theorem dX0_askedEnd_138 : decode cX0_askedEnd 138 = .ok (.invokevirtual 124, 3) := by decide +kernel
theorem dX0_askedEnd_141 : decode cX0_askedEnd 141 = .ok (.aload_n 0, 1) := by decide +kernel
theorem dX0_askedEnd_142 : decode cX0_askedEnd 142 = .ok (.iload_n 2, 1) := by decide +kernel
theorem dX0_askedEnd_143 : decode cX0_askedEnd 143 = .ok (.invokevirtual 105, 3) := by decide +kernel
theorem dX0_askedEnd_146 : decode cX0_askedEnd 146 = .ok (.ifCond .eq 7, 3) := by decide +kernel
theorem dX0_askedEnd_149 : decode cX0_askedEnd 149 = .ok (.iload_n 2, 1) := by decide +kernel
theorem dX0_askedEnd_150 : decode cX0_askedEnd 150 = .ok (.goto 4, 3) := by decide +kernel
theorem dX0_askedEnd_153 : decode cX0_askedEnd 153 = .ok (.iconst (-1), 1) := by decide +kernel
theorem dX0_askedEnd_154 : decode cX0_askedEnd 154 = .ok (.ireturn, 1) := by decide +kernel
set_option maxRecDepth 20000 in
theorem ggX0_firstUntried_X0_canTake : GoodIn wsX0_firstUntried wsX0_canTake := goodIn_r _ [6, 7, 8, 9, 10, 11, 12, 13, 14, 15, 16, 17, 18, 19, 20, 21, 22, 23, 24, 25, 26, 27, 28, 29, 30, 31, 32, 33, 34] (by decide +kernel) (by decide +kernel)
set_option maxRecDepth 20000 in
theorem gX0_firstUntried_X0_canTake : GoodIn wsX0_firstUntried (wsV RX0 105 RX0 yX0_canTake wsX0_canTake) := goodIn_app (goodIn_of _ (by decide +kernel)) ggX0_firstUntried_X0_canTake
theorem dX0_firstUntried_0 : decode cX0_firstUntried 0 = .ok (.iconst 0, 1) := by decide +kernel
theorem dX0_firstUntried_1 : decode cX0_firstUntried 1 = .ok (.istore_n 1, 1) := by decide +kernel
theorem dX0_firstUntried_2 : decode cX0_firstUntried 2 = .ok (.iload_n 1, 1) := by decide +kernel
theorem dX0_firstUntried_3 : decode cX0_firstUntried 3 = .ok (.iconst 4, 1) := by decide +kernel
theorem dX0_firstUntried_4 : decode cX0_firstUntried 4 = .ok (.if_icmp .ge 28, 3) := by decide +kernel
theorem dX0_firstUntried_7 : decode cX0_firstUntried 7 = .ok (.aload_n 0, 1) := by decide +kernel
theorem dX0_firstUntried_8 : decode cX0_firstUntried 8 = .ok (.getfield 40, 3) := by decide +kernel
theorem dX0_firstUntried_11 : decode cX0_firstUntried 11 = .ok (.iconst 4, 1) := by decide +kernel
theorem dX0_firstUntried_12 : decode cX0_firstUntried 12 = .ok (.imul, 1) := by decide +kernel
theorem dX0_firstUntried_13 : decode cX0_firstUntried 13 = .ok (.iload_n 1, 1) := by decide +kernel
theorem dX0_firstUntried_14 : decode cX0_firstUntried 14 = .ok (.iadd, 1) := by decide +kernel
theorem dX0_firstUntried_15 : decode cX0_firstUntried 15 = .ok (.istore_n 2, 1) := by decide +kernel
theorem dX0_firstUntried_16 : decode cX0_firstUntried 16 = .ok (.aload_n 0, 1) := by decide +kernel
theorem dX0_firstUntried_17 : decode cX0_firstUntried 17 = .ok (.iload_n 2, 1) := by decide +kernel
theorem dX0_firstUntried_18 : decode cX0_firstUntried 18 = .ok (.invokevirtual 105, 3) := by decide +kernel
theorem dX0_firstUntried_21 : decode cX0_firstUntried 21 = .ok (.ifCond .eq 5, 3) := by decide +kernel
theorem dX0_firstUntried_24 : decode cX0_firstUntried 24 = .ok (.iload_n 2, 1) := by decide +kernel
theorem dX0_firstUntried_25 : decode cX0_firstUntried 25 = .ok (.ireturn, 1) := by decide +kernel
theorem dX0_firstUntried_26 : decode cX0_firstUntried 26 = .ok (.iinc 1 1, 3) := by decide +kernel
theorem dX0_firstUntried_29 : decode cX0_firstUntried 29 = .ok (.goto (-27), 3) := by decide +kernel
theorem dX0_firstUntried_32 : decode cX0_firstUntried 32 = .ok (.iconst (-1), 1) := by decide +kernel
theorem dX0_firstUntried_33 : decode cX0_firstUntried 33 = .ok (.ireturn, 1) := by decide +kernel
set_option maxRecDepth 20000 in
theorem ggX0_take_X1_twinOf : GoodIn wsX0_take wsX1_twinOf := goodIn_r _ [11, 12, 13, 14, 15, 38, 39, 40, 41, 42, 43, 44, 45] (by decide +kernel) (by decide +kernel)
set_option maxRecDepth 20000 in
theorem gX0_take_X1_twinOf : GoodIn wsX0_take (wsV RX0 128 RX1 yX1_twinOf wsX1_twinOf) := goodIn_app (goodIn_of _ (by decide +kernel)) ggX0_take_X1_twinOf
set_option maxRecDepth 20000 in
theorem ggX0_take_X3_isEnd : GoodIn wsX0_take wsX3_isEnd := goodIn_r _ [15] (by decide +kernel) (by decide +kernel)
set_option maxRecDepth 20000 in
theorem gX0_take_X3_isEnd_n56 : GoodIn wsX0_take (wsX3_isEnd) := ggX0_take_X3_isEnd
set_option maxRecDepth 20000 in
theorem ggX0_take_X1_milesAt : GoodIn wsX0_take wsX1_milesAt := goodIn_r _ [19, 20, 13, 14, 15, 38, 39, 40, 41, 42, 43, 44, 45] (by decide +kernel) (by decide +kernel)
set_option maxRecDepth 20000 in
theorem gX0_take_X1_milesAt : GoodIn wsX0_take (wsV RX0 131 RX1 yX1_milesAt wsX1_milesAt) := goodIn_app (goodIn_of _ (by decide +kernel)) ggX0_take_X1_milesAt
set_option maxRecDepth 20000 in
theorem ggX0_take_X3_placeOfEnd : GoodIn wsX0_take wsX3_placeOfEnd := goodIn_r _ [22] (by decide +kernel) (by decide +kernel)
set_option maxRecDepth 20000 in
theorem gX0_take_X3_placeOfEnd_n134 : GoodIn wsX0_take (wsX3_placeOfEnd) := ggX0_take_X3_placeOfEnd
theorem dX0_take_0 : decode cX0_take 0 = .ok (.aload_n 0, 1) := by decide +kernel
theorem dX0_take_1 : decode cX0_take 1 = .ok (.getfield 36, 3) := by decide +kernel
theorem dX0_take_4 : decode cX0_take 4 = .ok (.iload_n 1, 1) := by decide +kernel
theorem dX0_take_5 : decode cX0_take 5 = .ok (.invokevirtual 128, 3) := by decide +kernel
theorem dX0_take_8 : decode cX0_take 8 = .ok (.istore_n 2, 1) := by decide +kernel
theorem dX0_take_9 : decode cX0_take 9 = .ok (.iload_n 1, 1) := by decide +kernel
theorem dX0_take_10 : decode cX0_take 10 = .ok (.invokestatic 56, 3) := by decide +kernel
theorem dX0_take_13 : decode cX0_take 13 = .ok (.ifCond .eq 19, 3) := by decide +kernel
theorem dX0_take_16 : decode cX0_take 16 = .ok (.iload_n 2, 1) := by decide +kernel
theorem dX0_take_17 : decode cX0_take 17 = .ok (.invokestatic 56, 3) := by decide +kernel
theorem dX0_take_20 : decode cX0_take 20 = .ok (.ifCond .eq 12, 3) := by decide +kernel
theorem dX0_take_23 : decode cX0_take 23 = .ok (.aload_n 0, 1) := by decide +kernel
theorem dX0_take_24 : decode cX0_take 24 = .ok (.getfield 64, 3) := by decide +kernel
theorem dX0_take_27 : decode cX0_take 27 = .ok (.bipush 20, 2) := by decide +kernel
theorem dX0_take_29 : decode cX0_take 29 = .ok (.if_icmp .lt 4, 3) := by decide +kernel
theorem dX0_take_32 : decode cX0_take 32 = .ok (.return_, 1) := by decide +kernel
theorem dX0_take_33 : decode cX0_take 33 = .ok (.aload_n 0, 1) := by decide +kernel
theorem dX0_take_34 : decode cX0_take 34 = .ok (.getfield 26, 3) := by decide +kernel
theorem dX0_take_37 : decode cX0_take 37 = .ok (.iload_n 1, 1) := by decide +kernel
theorem dX0_take_38 : decode cX0_take 38 = .ok (.iconst 1, 1) := by decide +kernel
theorem dX0_take_39 : decode cX0_take 39 = .ok (.bastore, 1) := by decide +kernel
theorem dX0_take_40 : decode cX0_take 40 = .ok (.aload_n 0, 1) := by decide +kernel
theorem dX0_take_41 : decode cX0_take 41 = .ok (.getfield 26, 3) := by decide +kernel
theorem dX0_take_44 : decode cX0_take 44 = .ok (.iload_n 2, 1) := by decide +kernel
theorem dX0_take_45 : decode cX0_take 45 = .ok (.iconst 1, 1) := by decide +kernel
theorem dX0_take_46 : decode cX0_take 46 = .ok (.bastore, 1) := by decide +kernel
theorem dX0_take_47 : decode cX0_take 47 = .ok (.aload_n 0, 1) := by decide +kernel
theorem dX0_take_48 : decode cX0_take 48 = .ok (.getfield 22, 3) := by decide +kernel
theorem dX0_take_51 : decode cX0_take 51 = .ok (.aload_n 0, 1) := by decide +kernel
theorem dX0_take_52 : decode cX0_take 52 = .ok (.getfield 64, 3) := by decide +kernel
theorem dX0_take_55 : decode cX0_take 55 = .ok (.iload_n 1, 1) := by decide +kernel
theorem dX0_take_56 : decode cX0_take 56 = .ok (.iastore, 1) := by decide +kernel
theorem dX0_take_57 : decode cX0_take 57 = .ok (.aload_n 0, 1) := by decide +kernel
theorem dX0_take_58 : decode cX0_take 58 = .ok (.dup, 1) := by decide +kernel
theorem dX0_take_59 : decode cX0_take 59 = .ok (.getfield 64, 3) := by decide +kernel
theorem dX0_take_62 : decode cX0_take 62 = .ok (.iconst 1, 1) := by decide +kernel
theorem dX0_take_63 : decode cX0_take 63 = .ok (.iadd, 1) := by decide +kernel
theorem dX0_take_64 : decode cX0_take 64 = .ok (.putfield 64, 3) := by decide +kernel
theorem dX0_take_67 : decode cX0_take 67 = .ok (.aload_n 0, 1) := by decide +kernel
theorem dX0_take_68 : decode cX0_take 68 = .ok (.dup, 1) := by decide +kernel
theorem dX0_take_69 : decode cX0_take 69 = .ok (.getfield 50, 3) := by decide +kernel
theorem dX0_take_72 : decode cX0_take 72 = .ok (.aload_n 0, 1) := by decide +kernel
theorem dX0_take_73 : decode cX0_take 73 = .ok (.getfield 36, 3) := by decide +kernel
theorem dX0_take_76 : decode cX0_take 76 = .ok (.iload_n 1, 1) := by decide +kernel
theorem dX0_take_77 : decode cX0_take 77 = .ok (.invokevirtual 131, 3) := by decide +kernel
theorem dX0_take_80 : decode cX0_take 80 = .ok (.iadd, 1) := by decide +kernel
theorem dX0_take_81 : decode cX0_take 81 = .ok (.putfield 50, 3) := by decide +kernel
theorem dX0_take_84 : decode cX0_take 84 = .ok (.aload_n 0, 1) := by decide +kernel
theorem dX0_take_85 : decode cX0_take 85 = .ok (.iload_n 2, 1) := by decide +kernel
theorem dX0_take_86 : decode cX0_take 86 = .ok (.invokestatic 134, 3) := by decide +kernel
theorem dX0_take_89 : decode cX0_take 89 = .ok (.putfield 40, 3) := by decide +kernel
theorem dX0_take_92 : decode cX0_take 92 = .ok (.return_, 1) := by decide +kernel
set_option maxRecDepth 20000 in
theorem ggX0_doubleBack_X1_milesAt : GoodIn wsX0_doubleBack wsX1_milesAt := goodIn_r _ [11, 12, 13, 14, 15, 33, 34, 35, 36, 37, 38, 39, 40] (by decide +kernel) (by decide +kernel)
set_option maxRecDepth 20000 in
theorem gX0_doubleBack_X1_milesAt : GoodIn wsX0_doubleBack (wsV RX0 131 RX1 yX1_milesAt wsX1_milesAt) := goodIn_app (goodIn_of _ (by decide +kernel)) ggX0_doubleBack_X1_milesAt
set_option maxRecDepth 20000 in
theorem ggX0_doubleBack_X3_placeOfEnd : GoodIn wsX0_doubleBack wsX3_placeOfEnd := goodIn_r _ [17] (by decide +kernel) (by decide +kernel)
set_option maxRecDepth 20000 in
theorem gX0_doubleBack_X3_placeOfEnd_n134 : GoodIn wsX0_doubleBack (wsX3_placeOfEnd) := ggX0_doubleBack_X3_placeOfEnd
theorem dX0_doubleBack_0 : decode cX0_doubleBack 0 = .ok (.aload_n 0, 1) := by decide +kernel
theorem dX0_doubleBack_1 : decode cX0_doubleBack 1 = .ok (.getfield 64, 3) := by decide +kernel
theorem dX0_doubleBack_4 : decode cX0_doubleBack 4 = .ok (.iconst 1, 1) := by decide +kernel
theorem dX0_doubleBack_5 : decode cX0_doubleBack 5 = .ok (.isub, 1) := by decide +kernel
theorem dX0_doubleBack_6 : decode cX0_doubleBack 6 = .ok (.istore_n 1, 1) := by decide +kernel
theorem dX0_doubleBack_7 : decode cX0_doubleBack 7 = .ok (.iload_n 1, 1) := by decide +kernel
theorem dX0_doubleBack_8 : decode cX0_doubleBack 8 = .ok (.ifCond .lt 9, 3) := by decide +kernel
theorem dX0_doubleBack_11 : decode cX0_doubleBack 11 = .ok (.iload_n 1, 1) := by decide +kernel
theorem dX0_doubleBack_12 : decode cX0_doubleBack 12 = .ok (.bipush 20, 2) := by decide +kernel
theorem dX0_doubleBack_14 : decode cX0_doubleBack 14 = .ok (.if_icmp .lt 4, 3) := by decide +kernel
theorem dX0_doubleBack_17 : decode cX0_doubleBack 17 = .ok (.return_, 1) := by decide +kernel
theorem dX0_doubleBack_18 : decode cX0_doubleBack 18 = .ok (.aload_n 0, 1) := by decide +kernel
theorem dX0_doubleBack_19 : decode cX0_doubleBack 19 = .ok (.iload_n 1, 1) := by decide +kernel
theorem dX0_doubleBack_20 : decode cX0_doubleBack 20 = .ok (.putfield 64, 3) := by decide +kernel
theorem dX0_doubleBack_23 : decode cX0_doubleBack 23 = .ok (.aload_n 0, 1) := by decide +kernel
theorem dX0_doubleBack_24 : decode cX0_doubleBack 24 = .ok (.getfield 22, 3) := by decide +kernel
theorem dX0_doubleBack_27 : decode cX0_doubleBack 27 = .ok (.iload_n 1, 1) := by decide +kernel
theorem dX0_doubleBack_28 : decode cX0_doubleBack 28 = .ok (.iaload, 1) := by decide +kernel
theorem dX0_doubleBack_29 : decode cX0_doubleBack 29 = .ok (.istore_n 2, 1) := by decide +kernel
theorem dX0_doubleBack_30 : decode cX0_doubleBack 30 = .ok (.aload_n 0, 1) := by decide +kernel
theorem dX0_doubleBack_31 : decode cX0_doubleBack 31 = .ok (.getfield 36, 3) := by decide +kernel
theorem dX0_doubleBack_34 : decode cX0_doubleBack 34 = .ok (.iload_n 2, 1) := by decide +kernel
theorem dX0_doubleBack_35 : decode cX0_doubleBack 35 = .ok (.invokevirtual 131, 3) := by decide +kernel
theorem dX0_doubleBack_38 : decode cX0_doubleBack 38 = .ok (.istore_n 3, 1) := by decide +kernel
theorem dX0_doubleBack_39 : decode cX0_doubleBack 39 = .ok (.aload_n 0, 1) := by decide +kernel
theorem dX0_doubleBack_40 : decode cX0_doubleBack 40 = .ok (.dup, 1) := by decide +kernel
theorem dX0_doubleBack_41 : decode cX0_doubleBack 41 = .ok (.getfield 50, 3) := by decide +kernel
theorem dX0_doubleBack_44 : decode cX0_doubleBack 44 = .ok (.iload_n 3, 1) := by decide +kernel
theorem dX0_doubleBack_45 : decode cX0_doubleBack 45 = .ok (.iadd, 1) := by decide +kernel
theorem dX0_doubleBack_46 : decode cX0_doubleBack 46 = .ok (.putfield 50, 3) := by decide +kernel
theorem dX0_doubleBack_49 : decode cX0_doubleBack 49 = .ok (.aload_n 0, 1) := by decide +kernel
theorem dX0_doubleBack_50 : decode cX0_doubleBack 50 = .ok (.dup, 1) := by decide +kernel
theorem dX0_doubleBack_51 : decode cX0_doubleBack 51 = .ok (.getfield 137, 3) := by decide +kernel
theorem dX0_doubleBack_54 : decode cX0_doubleBack 54 = .ok (.iload_n 3, 1) := by decide +kernel
theorem dX0_doubleBack_55 : decode cX0_doubleBack 55 = .ok (.iadd, 1) := by decide +kernel
theorem dX0_doubleBack_56 : decode cX0_doubleBack 56 = .ok (.putfield 137, 3) := by decide +kernel
theorem dX0_doubleBack_59 : decode cX0_doubleBack 59 = .ok (.aload_n 0, 1) := by decide +kernel
theorem dX0_doubleBack_60 : decode cX0_doubleBack 60 = .ok (.iload_n 2, 1) := by decide +kernel
theorem dX0_doubleBack_61 : decode cX0_doubleBack 61 = .ok (.invokestatic 134, 3) := by decide +kernel
theorem dX0_doubleBack_64 : decode cX0_doubleBack 64 = .ok (.putfield 40, 3) := by decide +kernel
theorem dX0_doubleBack_67 : decode cX0_doubleBack 67 = .ok (.return_, 1) := by decide +kernel
set_option maxRecDepth 20000 in
theorem ggX0_rememberWay_X3_placeOfEnd : GoodIn wsX0_rememberWay wsX3_placeOfEnd := goodIn_r _ [7] (by decide +kernel) (by decide +kernel)
set_option maxRecDepth 20000 in
theorem gX0_rememberWay_X3_placeOfEnd_n134 : GoodIn wsX0_rememberWay (wsX3_placeOfEnd) := ggX0_rememberWay_X3_placeOfEnd
set_option maxRecDepth 20000 in
theorem ggX0_rememberWay_X3_exitOfEnd : GoodIn wsX0_rememberWay wsX3_exitOfEnd := goodIn_r _ [9] (by decide +kernel) (by decide +kernel)
set_option maxRecDepth 20000 in
theorem gX0_rememberWay_X3_exitOfEnd_n120 : GoodIn wsX0_rememberWay (wsX3_exitOfEnd) := ggX0_rememberWay_X3_exitOfEnd
set_option maxRecDepth 20000 in
theorem ggX0_rememberWay_X2_confirm : GoodIn wsX0_rememberWay wsX2_confirm := goodIn_r _ [14, 15, 16, 17, 18, 19, 20, 21, 22, 13, 23, 24, 25, 26, 27, 43, 44] (by decide +kernel) (by decide +kernel)
set_option maxRecDepth 20000 in
theorem gX0_rememberWay_X2_confirm : GoodIn wsX0_rememberWay (wsV RX0 140 RX2 yX2_confirm wsX2_confirm) := goodIn_app (goodIn_of _ (by decide +kernel)) ggX0_rememberWay_X2_confirm
theorem dX0_rememberWay_0 : decode cX0_rememberWay 0 = .ok (.iconst 0, 1) := by decide +kernel
theorem dX0_rememberWay_1 : decode cX0_rememberWay 1 = .ok (.istore_n 1, 1) := by decide +kernel
theorem dX0_rememberWay_2 : decode cX0_rememberWay 2 = .ok (.iload_n 1, 1) := by decide +kernel
theorem dX0_rememberWay_3 : decode cX0_rememberWay 3 = .ok (.aload_n 0, 1) := by decide +kernel
theorem dX0_rememberWay_4 : decode cX0_rememberWay 4 = .ok (.getfield 64, 3) := by decide +kernel
theorem dX0_rememberWay_7 : decode cX0_rememberWay 7 = .ok (.if_icmp .ge 44, 3) := by decide +kernel
theorem dX0_rememberWay_10 : decode cX0_rememberWay 10 = .ok (.iload_n 1, 1) := by decide +kernel
theorem dX0_rememberWay_11 : decode cX0_rememberWay 11 = .ok (.bipush 20, 2) := by decide +kernel
theorem dX0_rememberWay_13 : decode cX0_rememberWay 13 = .ok (.if_icmp .ge 38, 3) := by decide +kernel
theorem dX0_rememberWay_16 : decode cX0_rememberWay 16 = .ok (.aload_n 0, 1) := by decide +kernel
theorem dX0_rememberWay_17 : decode cX0_rememberWay 17 = .ok (.getfield 12, 3) := by decide +kernel
theorem dX0_rememberWay_20 : decode cX0_rememberWay 20 = .ok (.aload_n 0, 1) := by decide +kernel
theorem dX0_rememberWay_21 : decode cX0_rememberWay 21 = .ok (.getfield 18, 3) := by decide +kernel
theorem dX0_rememberWay_24 : decode cX0_rememberWay 24 = .ok (.aload_n 0, 1) := by decide +kernel
theorem dX0_rememberWay_25 : decode cX0_rememberWay 25 = .ok (.getfield 22, 3) := by decide +kernel
theorem dX0_rememberWay_28 : decode cX0_rememberWay 28 = .ok (.iload_n 1, 1) := by decide +kernel
theorem dX0_rememberWay_29 : decode cX0_rememberWay 29 = .ok (.iaload, 1) := by decide +kernel
theorem dX0_rememberWay_30 : decode cX0_rememberWay 30 = .ok (.invokestatic 134, 3) := by decide +kernel
theorem dX0_rememberWay_33 : decode cX0_rememberWay 33 = .ok (.aload_n 0, 1) := by decide +kernel
theorem dX0_rememberWay_34 : decode cX0_rememberWay 34 = .ok (.getfield 22, 3) := by decide +kernel
theorem dX0_rememberWay_37 : decode cX0_rememberWay 37 = .ok (.iload_n 1, 1) := by decide +kernel
theorem dX0_rememberWay_38 : decode cX0_rememberWay 38 = .ok (.iaload, 1) := by decide +kernel
theorem dX0_rememberWay_39 : decode cX0_rememberWay 39 = .ok (.invokestatic 120, 3) := by decide +kernel
theorem dX0_rememberWay_42 : decode cX0_rememberWay 42 = .ok (.invokevirtual 140, 3) := by decide +kernel
theorem dX0_rememberWay_45 : decode cX0_rememberWay 45 = .ok (.iinc 1 1, 3) := by decide +kernel
theorem dX0_rememberWay_48 : decode cX0_rememberWay 48 = .ok (.goto (-46), 3) := by decide +kernel
theorem dX0_rememberWay_51 : decode cX0_rememberWay 51 = .ok (.return_, 1) := by decide +kernel
set_option maxRecDepth 20000 in
theorem ggX0_findsByMemory_X2_exitFor : GoodIn wsX0_findsByMemory wsX2_exitFor := goodIn_r _ [8, 9, 10, 11, 12, 7, 13, 53, 54] (by decide +kernel) (by decide +kernel)
set_option maxRecDepth 20000 in
theorem gX0_findsByMemory_X2_exitFor : GoodIn wsX0_findsByMemory (wsV RX0 98 RX2 yX2_exitFor wsX2_exitFor) := goodIn_app (goodIn_of _ (by decide +kernel)) ggX0_findsByMemory_X2_exitFor
set_option maxRecDepth 20000 in
theorem ggX0_findsByMemory_X1_endAt : GoodIn wsX0_findsByMemory wsX1_endAt := goodIn_r _ [18, 19, 20, 21, 22, 17, 23, 24, 55, 56, 57, 58, 59, 60, 61, 62] (by decide +kernel) (by decide +kernel)
set_option maxRecDepth 20000 in
theorem gX0_findsByMemory_X1_endAt : GoodIn wsX0_findsByMemory (wsV RX0 102 RX1 yX1_endAt wsX1_endAt) := goodIn_app (goodIn_of _ (by decide +kernel)) ggX0_findsByMemory_X1_endAt
set_option maxRecDepth 20000 in
theorem ggX0_findsByMemory_X1_opensAt : GoodIn wsX0_findsByMemory wsX1_opensAt := goodIn_r _ [28, 29, 30, 31, 32, 55, 56, 57, 58, 59, 60, 61, 62] (by decide +kernel) (by decide +kernel)
set_option maxRecDepth 20000 in
theorem gX0_findsByMemory_X1_opensAt : GoodIn wsX0_findsByMemory (wsV RX0 143 RX1 yX1_opensAt wsX1_opensAt) := goodIn_app (goodIn_of _ (by decide +kernel)) ggX0_findsByMemory_X1_opensAt
set_option maxRecDepth 20000 in
theorem ggX0_findsByMemory_X1_beyond : GoodIn wsX0_findsByMemory wsX1_beyond := goodIn_r _ [36, 37, 30, 31, 32, 55, 56, 57, 58, 59, 60, 61, 62] (by decide +kernel) (by decide +kernel)
set_option maxRecDepth 20000 in
theorem gX0_findsByMemory_X1_beyond : GoodIn wsX0_findsByMemory (wsV RX0 146 RX1 yX1_beyond wsX1_beyond) := goodIn_app (goodIn_of _ (by decide +kernel)) ggX0_findsByMemory_X1_beyond
theorem dX0_findsByMemory_0 : decode cX0_findsByMemory 0 = .ok (.aload_n 0, 1) := by decide +kernel
theorem dX0_findsByMemory_1 : decode cX0_findsByMemory 1 = .ok (.getfield 40, 3) := by decide +kernel
theorem dX0_findsByMemory_4 : decode cX0_findsByMemory 4 = .ok (.istore_n 2, 1) := by decide +kernel
theorem dX0_findsByMemory_5 : decode cX0_findsByMemory 5 = .ok (.iconst 0, 1) := by decide +kernel
theorem dX0_findsByMemory_6 : decode cX0_findsByMemory 6 = .ok (.istore_n 3, 1) := by decide +kernel
theorem dX0_findsByMemory_7 : decode cX0_findsByMemory 7 = .ok (.iload_n 3, 1) := by decide +kernel
theorem dX0_findsByMemory_8 : decode cX0_findsByMemory 8 = .ok (.bipush 10, 2) := by decide +kernel
theorem dX0_findsByMemory_10 : decode cX0_findsByMemory 10 = .ok (.if_icmp .ge 57, 3) := by decide +kernel
theorem dX0_findsByMemory_13 : decode cX0_findsByMemory 13 = .ok (.iload_n 2, 1) := by decide +kernel
theorem dX0_findsByMemory_14 : decode cX0_findsByMemory 14 = .ok (.iload_n 1, 1) := by decide +kernel
theorem dX0_findsByMemory_15 : decode cX0_findsByMemory 15 = .ok (.if_icmp .eq 52, 3) := by decide +kernel
theorem dX0_findsByMemory_18 : decode cX0_findsByMemory 18 = .ok (.aload_n 0, 1) := by decide +kernel
theorem dX0_findsByMemory_19 : decode cX0_findsByMemory 19 = .ok (.getfield 36, 3) := by decide +kernel
theorem dX0_findsByMemory_22 : decode cX0_findsByMemory 22 = .ok (.iload_n 2, 1) := by decide +kernel
theorem dX0_findsByMemory_23 : decode cX0_findsByMemory 23 = .ok (.aload_n 0, 1) := by decide +kernel
theorem dX0_findsByMemory_24 : decode cX0_findsByMemory 24 = .ok (.getfield 12, 3) := by decide +kernel
theorem dX0_findsByMemory_27 : decode cX0_findsByMemory 27 = .ok (.iload_n 1, 1) := by decide +kernel
theorem dX0_findsByMemory_28 : decode cX0_findsByMemory 28 = .ok (.iload_n 2, 1) := by decide +kernel
theorem dX0_findsByMemory_29 : decode cX0_findsByMemory 29 = .ok (.invokevirtual 98, 3) := by decide +kernel
theorem dX0_findsByMemory_32 : decode cX0_findsByMemory 32 = .ok (.invokevirtual 102, 3) := by decide +kernel
theorem dX0_findsByMemory_35 : decode cX0_findsByMemory 35 = .ok (.istore 4, 2) := by decide +kernel
theorem dX0_findsByMemory_37 : decode cX0_findsByMemory 37 = .ok (.aload_n 0, 1) := by decide +kernel
theorem dX0_findsByMemory_38 : decode cX0_findsByMemory 38 = .ok (.getfield 36, 3) := by decide +kernel
theorem dX0_findsByMemory_41 : decode cX0_findsByMemory 41 = .ok (.iload 4, 2) := by decide +kernel
theorem dX0_findsByMemory_43 : decode cX0_findsByMemory 43 = .ok (.invokevirtual 143, 3) := by decide +kernel
theorem dX0_findsByMemory_46 : decode cX0_findsByMemory 46 = .ok (.ifCond .ne 5, 3) := by decide +kernel
theorem dX0_findsByMemory_49 : decode cX0_findsByMemory 49 = .ok (.iconst 0, 1) := by decide +kernel
theorem dX0_findsByMemory_50 : decode cX0_findsByMemory 50 = .ok (.ireturn, 1) := by decide +kernel
theorem dX0_findsByMemory_51 : decode cX0_findsByMemory 51 = .ok (.aload_n 0, 1) := by decide +kernel
theorem dX0_findsByMemory_52 : decode cX0_findsByMemory 52 = .ok (.getfield 36, 3) := by decide +kernel
theorem dX0_findsByMemory_55 : decode cX0_findsByMemory 55 = .ok (.iload 4, 2) := by decide +kernel
theorem dX0_findsByMemory_57 : decode cX0_findsByMemory 57 = .ok (.invokevirtual 146, 3) := by decide +kernel
theorem dX0_findsByMemory_60 : decode cX0_findsByMemory 60 = .ok (.istore_n 2, 1) := by decide +kernel
theorem dX0_findsByMemory_61 : decode cX0_findsByMemory 61 = .ok (.iinc 3 1, 3) := by decide +kernel
theorem dX0_findsByMemory_64 : decode cX0_findsByMemory 64 = .ok (.goto (-57), 3) := by decide +kernel
theorem dX0_findsByMemory_67 : decode cX0_findsByMemory 67 = .ok (.iload_n 2, 1) := by decide +kernel
theorem dX0_findsByMemory_68 : decode cX0_findsByMemory 68 = .ok (.iload_n 1, 1) := by decide +kernel
theorem dX0_findsByMemory_69 : decode cX0_findsByMemory 69 = .ok (.if_icmp .ne 7, 3) := by decide +kernel
theorem dX0_findsByMemory_72 : decode cX0_findsByMemory 72 = .ok (.iconst 1, 1) := by decide +kernel
theorem dX0_findsByMemory_73 : decode cX0_findsByMemory 73 = .ok (.goto 4, 3) := by decide +kernel
theorem dX0_findsByMemory_76 : decode cX0_findsByMemory 76 = .ok (.iconst 0, 1) := by decide +kernel
theorem dX0_findsByMemory_77 : decode cX0_findsByMemory 77 = .ok (.ireturn, 1) := by decide +kernel
theorem dX0_forget_0 : decode cX0_forget 0 = .ok (.iconst 0, 1) := by decide +kernel
theorem dX0_forget_1 : decode cX0_forget 1 = .ok (.istore_n 1, 1) := by decide +kernel
theorem dX0_forget_2 : decode cX0_forget 2 = .ok (.iload_n 1, 1) := by decide +kernel
theorem dX0_forget_3 : decode cX0_forget 3 = .ok (.aload_n 0, 1) := by decide +kernel
theorem dX0_forget_4 : decode cX0_forget 4 = .ok (.arraylength, 1) := by decide +kernel
theorem dX0_forget_5 : decode cX0_forget 5 = .ok (.if_icmp .ge 13, 3) := by decide +kernel
theorem dX0_forget_8 : decode cX0_forget 8 = .ok (.aload_n 0, 1) := by decide +kernel
theorem dX0_forget_9 : decode cX0_forget 9 = .ok (.iload_n 1, 1) := by decide +kernel
theorem dX0_forget_10 : decode cX0_forget 10 = .ok (.iconst 0, 1) := by decide +kernel
theorem dX0_forget_11 : decode cX0_forget 11 = .ok (.bastore, 1) := by decide +kernel
theorem dX0_forget_12 : decode cX0_forget 12 = .ok (.iinc 1 1, 3) := by decide +kernel
theorem dX0_forget_15 : decode cX0_forget 15 = .ok (.goto (-13), 3) := by decide +kernel
theorem dX0_forget_18 : decode cX0_forget 18 = .ok (.return_, 1) := by decide +kernel
theorem dX1_init_0 : decode cX1_init 0 = .ok (.aload_n 0, 1) := by decide +kernel
theorem dX1_init_1 : decode cX1_init 1 = .ok (.invokespecial 3, 3) := by decide +kernel
theorem dX1_init_4 : decode cX1_init 4 = .ok (.aload_n 0, 1) := by decide +kernel
theorem dX1_init_5 : decode cX1_init 5 = .ok (.bipush 10, 2) := by decide +kernel
theorem dX1_init_7 : decode cX1_init 7 = .ok (.newarray .int, 2) := by decide +kernel
theorem dX1_init_9 : decode cX1_init 9 = .ok (.putfield 9, 3) := by decide +kernel
theorem dX1_init_12 : decode cX1_init 12 = .ok (.aload_n 0, 1) := by decide +kernel
theorem dX1_init_13 : decode cX1_init 13 = .ok (.bipush 10, 2) := by decide +kernel
theorem dX1_init_15 : decode cX1_init 15 = .ok (.newarray .boolean, 2) := by decide +kernel
theorem dX1_init_17 : decode cX1_init 17 = .ok (.putfield 15, 3) := by decide +kernel
theorem dX1_init_20 : decode cX1_init 20 = .ok (.aload_n 0, 1) := by decide +kernel
theorem dX1_init_21 : decode cX1_init 21 = .ok (.bipush 40, 2) := by decide +kernel
theorem dX1_init_23 : decode cX1_init 23 = .ok (.newarray .int, 2) := by decide +kernel
theorem dX1_init_25 : decode cX1_init 25 = .ok (.putfield 19, 3) := by decide +kernel
theorem dX1_init_28 : decode cX1_init 28 = .ok (.aload_n 0, 1) := by decide +kernel
theorem dX1_init_29 : decode cX1_init 29 = .ok (.bipush 40, 2) := by decide +kernel
theorem dX1_init_31 : decode cX1_init 31 = .ok (.newarray .int, 2) := by decide +kernel
theorem dX1_init_33 : decode cX1_init 33 = .ok (.putfield 22, 3) := by decide +kernel
theorem dX1_init_36 : decode cX1_init 36 = .ok (.aload_n 0, 1) := by decide +kernel
theorem dX1_init_37 : decode cX1_init 37 = .ok (.bipush 40, 2) := by decide +kernel
theorem dX1_init_39 : decode cX1_init 39 = .ok (.newarray .int, 2) := by decide +kernel
theorem dX1_init_41 : decode cX1_init 41 = .ok (.putfield 25, 3) := by decide +kernel
theorem dX1_init_44 : decode cX1_init 44 = .ok (.aload_n 0, 1) := by decide +kernel
theorem dX1_init_45 : decode cX1_init 45 = .ok (.bipush 40, 2) := by decide +kernel
theorem dX1_init_47 : decode cX1_init 47 = .ok (.newarray .boolean, 2) := by decide +kernel
theorem dX1_init_49 : decode cX1_init 49 = .ok (.putfield 28, 3) := by decide +kernel
theorem dX1_init_52 : decode cX1_init 52 = .ok (.aload_n 0, 1) := by decide +kernel
theorem dX1_init_53 : decode cX1_init 53 = .ok (.bipush 10, 2) := by decide +kernel
theorem dX1_init_55 : decode cX1_init 55 = .ok (.newarray .int, 2) := by decide +kernel
theorem dX1_init_57 : decode cX1_init 57 = .ok (.putfield 31, 3) := by decide +kernel
theorem dX1_init_60 : decode cX1_init 60 = .ok (.return_, 1) := by decide +kernel
theorem dX1_isPlace_0 : decode cX1_isPlace 0 = .ok (.iload_n 1, 1) := by decide +kernel
theorem dX1_isPlace_1 : decode cX1_isPlace 1 = .ok (.ifCond .lt 15, 3) := by decide +kernel
theorem dX1_isPlace_4 : decode cX1_isPlace 4 = .ok (.iload_n 1, 1) := by decide +kernel
theorem dX1_isPlace_5 : decode cX1_isPlace 5 = .ok (.aload_n 0, 1) := by decide +kernel
theorem dX1_isPlace_6 : decode cX1_isPlace 6 = .ok (.getfield 34, 3) := by decide +kernel
theorem dX1_isPlace_9 : decode cX1_isPlace 9 = .ok (.if_icmp .ge 7, 3) := by decide +kernel
theorem dX1_isPlace_12 : decode cX1_isPlace 12 = .ok (.iconst 1, 1) := by decide +kernel
theorem dX1_isPlace_13 : decode cX1_isPlace 13 = .ok (.goto 4, 3) := by decide +kernel
theorem dX1_isPlace_16 : decode cX1_isPlace 16 = .ok (.iconst 0, 1) := by decide +kernel
theorem dX1_isPlace_17 : decode cX1_isPlace 17 = .ok (.ireturn, 1) := by decide +kernel
set_option maxRecDepth 20000 in
theorem ggX1_hasRoom_X1_isPlace : GoodIn wsX1_hasRoom wsX1_isPlace := goodIn_r _ [6, 7, 8, 9, 10, 11, 12, 13, 14, 15] (by decide +kernel) (by decide +kernel)
set_option maxRecDepth 20000 in
theorem gX1_hasRoom_X1_isPlace : GoodIn wsX1_hasRoom (wsV RX1 38 RX1 yX1_isPlace wsX1_isPlace) := goodIn_app (goodIn_of _ (by decide +kernel)) ggX1_hasRoom_X1_isPlace
theorem dX1_hasRoom_0 : decode cX1_hasRoom 0 = .ok (.aload_n 0, 1) := by decide +kernel
theorem dX1_hasRoom_1 : decode cX1_hasRoom 1 = .ok (.iload_n 1, 1) := by decide +kernel
theorem dX1_hasRoom_2 : decode cX1_hasRoom 2 = .ok (.invokevirtual 38, 3) := by decide +kernel
theorem dX1_hasRoom_5 : decode cX1_hasRoom 5 = .ok (.ifCond .eq 17, 3) := by decide +kernel
theorem dX1_hasRoom_8 : decode cX1_hasRoom 8 = .ok (.aload_n 0, 1) := by decide +kernel
theorem dX1_hasRoom_9 : decode cX1_hasRoom 9 = .ok (.getfield 9, 3) := by decide +kernel
theorem dX1_hasRoom_12 : decode cX1_hasRoom 12 = .ok (.iload_n 1, 1) := by decide +kernel
theorem dX1_hasRoom_13 : decode cX1_hasRoom 13 = .ok (.iaload, 1) := by decide +kernel
theorem dX1_hasRoom_14 : decode cX1_hasRoom 14 = .ok (.iconst 4, 1) := by decide +kernel
theorem dX1_hasRoom_15 : decode cX1_hasRoom 15 = .ok (.if_icmp .ge 7, 3) := by decide +kernel
theorem dX1_hasRoom_18 : decode cX1_hasRoom 18 = .ok (.iconst 1, 1) := by decide +kernel
theorem dX1_hasRoom_19 : decode cX1_hasRoom 19 = .ok (.goto 4, 3) := by decide +kernel
theorem dX1_hasRoom_22 : decode cX1_hasRoom 22 = .ok (.iconst 0, 1) := by decide +kernel
theorem dX1_hasRoom_23 : decode cX1_hasRoom 23 = .ok (.ireturn, 1) := by decide +kernel
set_option maxRecDepth 20000 in
theorem ggX1_endAt_X1_isPlace : GoodIn wsX1_endAt wsX1_isPlace := goodIn_r _ [6, 7, 8, 9, 10, 11, 12, 13, 14, 15] (by decide +kernel) (by decide +kernel)
set_option maxRecDepth 20000 in
theorem gX1_endAt_X1_isPlace : GoodIn wsX1_endAt (wsV RX1 38 RX1 yX1_isPlace wsX1_isPlace) := goodIn_app (goodIn_of _ (by decide +kernel)) ggX1_endAt_X1_isPlace
theorem dX1_endAt_0 : decode cX1_endAt 0 = .ok (.aload_n 0, 1) := by decide +kernel
theorem dX1_endAt_1 : decode cX1_endAt 1 = .ok (.iload_n 1, 1) := by decide +kernel
theorem dX1_endAt_2 : decode cX1_endAt 2 = .ok (.invokevirtual 38, 3) := by decide +kernel
theorem dX1_endAt_5 : decode cX1_endAt 5 = .ok (.ifCond .eq 21, 3) := by decide +kernel
theorem dX1_endAt_8 : decode cX1_endAt 8 = .ok (.iload_n 2, 1) := by decide +kernel
theorem dX1_endAt_9 : decode cX1_endAt 9 = .ok (.ifCond .lt 17, 3) := by decide +kernel
theorem dX1_endAt_12 : decode cX1_endAt 12 = .ok (.iload_n 2, 1) := by decide +kernel
theorem dX1_endAt_13 : decode cX1_endAt 13 = .ok (.aload_n 0, 1) := by decide +kernel
theorem dX1_endAt_14 : decode cX1_endAt 14 = .ok (.getfield 9, 3) := by decide +kernel
theorem dX1_endAt_17 : decode cX1_endAt 17 = .ok (.iload_n 1, 1) := by decide +kernel
theorem dX1_endAt_18 : decode cX1_endAt 18 = .ok (.iaload, 1) := by decide +kernel
theorem dX1_endAt_19 : decode cX1_endAt 19 = .ok (.if_icmp .ge 7, 3) := by decide +kernel
theorem dX1_endAt_22 : decode cX1_endAt 22 = .ok (.iconst 1, 1) := by decide +kernel
theorem dX1_endAt_23 : decode cX1_endAt 23 = .ok (.goto 4, 3) := by decide +kernel
theorem dX1_endAt_26 : decode cX1_endAt 26 = .ok (.iconst 0, 1) := by decide +kernel
theorem dX1_endAt_27 : decode cX1_endAt 27 = .ok (.istore_n 3, 1) := by decide +kernel
theorem dX1_endAt_28 : decode cX1_endAt 28 = .ok (.iload_n 3, 1) := by decide +kernel
theorem dX1_endAt_29 : decode cX1_endAt 29 = .ok (.ifCond .eq 11, 3) := by decide +kernel
theorem dX1_endAt_32 : decode cX1_endAt 32 = .ok (.iload_n 1, 1) := by decide +kernel
theorem dX1_endAt_33 : decode cX1_endAt 33 = .ok (.iconst 4, 1) := by decide +kernel
theorem dX1_endAt_34 : decode cX1_endAt 34 = .ok (.imul, 1) := by decide +kernel
theorem dX1_endAt_35 : decode cX1_endAt 35 = .ok (.iload_n 2, 1) := by decide +kernel
theorem dX1_endAt_36 : decode cX1_endAt 36 = .ok (.iadd, 1) := by decide +kernel
theorem dX1_endAt_37 : decode cX1_endAt 37 = .ok (.goto 4, 3) := by decide +kernel
theorem dX1_endAt_40 : decode cX1_endAt 40 = .ok (.iconst (-1), 1) := by decide +kernel
theorem dX1_endAt_41 : decode cX1_endAt 41 = .ok (.ireturn, 1) := by decide +kernel
set_option maxRecDepth 20000 in
theorem ggX1_join_X1_hasRoom : GoodIn wsX1_join wsX1_hasRoom := goodIn_r _ [6, 1, 7, 8, 9, 5, 10, 11, 23, 24, 25, 26, 27, 28, 29, 30] (by decide +kernel) (by decide +kernel)
set_option maxRecDepth 20000 in
theorem gX1_join_X1_hasRoom : GoodIn wsX1_join (wsV RX1 42 RX1 yX1_hasRoom wsX1_hasRoom) := goodIn_app (goodIn_of _ (by decide +kernel)) ggX1_join_X1_hasRoom
set_option maxRecDepth 20000 in
theorem ggX1_join_X1_layEnd : GoodIn wsX1_join wsX1_layEnd := goodIn_r _ [15, 16, 17, 18, 19, 20, 21, 22, 23, 24, 25, 26, 27, 28, 29, 30] (by decide +kernel) (by decide +kernel)
set_option maxRecDepth 20000 in
theorem gX1_join_X1_layEnd : GoodIn wsX1_join (wsV RX1 45 RX1 yX1_layEnd wsX1_layEnd) := goodIn_app (goodIn_of _ (by decide +kernel)) ggX1_join_X1_layEnd
theorem dX1_join_0 : decode cX1_join 0 = .ok (.aload_n 0, 1) := by decide +kernel
theorem dX1_join_1 : decode cX1_join 1 = .ok (.iload_n 1, 1) := by decide +kernel
theorem dX1_join_2 : decode cX1_join 2 = .ok (.invokevirtual 42, 3) := by decide +kernel
theorem dX1_join_5 : decode cX1_join 5 = .ok (.ifCond .eq 11, 3) := by decide +kernel
theorem dX1_join_8 : decode cX1_join 8 = .ok (.aload_n 0, 1) := by decide +kernel
theorem dX1_join_9 : decode cX1_join 9 = .ok (.iload_n 2, 1) := by decide +kernel
theorem dX1_join_10 : decode cX1_join 10 = .ok (.invokevirtual 42, 3) := by decide +kernel
theorem dX1_join_13 : decode cX1_join 13 = .ok (.ifCond .ne 5, 3) := by decide +kernel
theorem dX1_join_16 : decode cX1_join 16 = .ok (.iconst (-1), 1) := by decide +kernel
theorem dX1_join_17 : decode cX1_join 17 = .ok (.ireturn, 1) := by decide +kernel
theorem dX1_join_18 : decode cX1_join 18 = .ok (.aload_n 0, 1) := by decide +kernel
theorem dX1_join_19 : decode cX1_join 19 = .ok (.getfield 9, 3) := by decide +kernel
theorem dX1_join_22 : decode cX1_join 22 = .ok (.iload_n 1, 1) := by decide +kernel
theorem dX1_join_23 : decode cX1_join 23 = .ok (.iaload, 1) := by decide +kernel
theorem dX1_join_24 : decode cX1_join 24 = .ok (.istore 4, 2) := by decide +kernel
theorem dX1_join_26 : decode cX1_join 26 = .ok (.iload_n 1, 1) := by decide +kernel
theorem dX1_join_27 : decode cX1_join 27 = .ok (.iconst 4, 1) := by decide +kernel
theorem dX1_join_28 : decode cX1_join 28 = .ok (.imul, 1) := by decide +kernel
theorem dX1_join_29 : decode cX1_join 29 = .ok (.iload 4, 2) := by decide +kernel
theorem dX1_join_31 : decode cX1_join 31 = .ok (.iadd, 1) := by decide +kernel
theorem dX1_join_32 : decode cX1_join 32 = .ok (.istore 5, 2) := by decide +kernel
theorem dX1_join_34 : decode cX1_join 34 = .ok (.iload_n 2, 1) := by decide +kernel
theorem dX1_join_35 : decode cX1_join 35 = .ok (.iconst 4, 1) := by decide +kernel
theorem dX1_join_36 : decode cX1_join 36 = .ok (.imul, 1) := by decide +kernel
theorem dX1_join_37 : decode cX1_join 37 = .ok (.aload_n 0, 1) := by decide +kernel
theorem dX1_join_38 : decode cX1_join 38 = .ok (.getfield 9, 3) := by decide +kernel
theorem dX1_join_41 : decode cX1_join 41 = .ok (.iload_n 2, 1) := by decide +kernel
theorem dX1_join_42 : decode cX1_join 42 = .ok (.iaload, 1) := by decide +kernel
theorem dX1_join_43 : decode cX1_join 43 = .ok (.iadd, 1) := by decide +kernel
theorem dX1_join_44 : decode cX1_join 44 = .ok (.istore 6, 2) := by decide +kernel
theorem dX1_join_46 : decode cX1_join 46 = .ok (.aload_n 0, 1) := by decide +kernel
theorem dX1_join_47 : decode cX1_join 47 = .ok (.getfield 9, 3) := by decide +kernel
theorem dX1_join_50 : decode cX1_join 50 = .ok (.iload_n 1, 1) := by decide +kernel
theorem dX1_join_51 : decode cX1_join 51 = .ok (.dup2, 1) := by decide +kernel
theorem dX1_join_52 : decode cX1_join 52 = .ok (.iaload, 1) := by decide +kernel
theorem dX1_join_53 : decode cX1_join 53 = .ok (.iconst 1, 1) := by decide +kernel
theorem dX1_join_54 : decode cX1_join 54 = .ok (.iadd, 1) := by decide +kernel
theorem dX1_join_55 : decode cX1_join 55 = .ok (.iastore, 1) := by decide +kernel
theorem dX1_join_56 : decode cX1_join 56 = .ok (.aload_n 0, 1) := by decide +kernel
theorem dX1_join_57 : decode cX1_join 57 = .ok (.getfield 9, 3) := by decide +kernel
theorem dX1_join_60 : decode cX1_join 60 = .ok (.iload_n 2, 1) := by decide +kernel
theorem dX1_join_61 : decode cX1_join 61 = .ok (.dup2, 1) := by decide +kernel
theorem dX1_join_62 : decode cX1_join 62 = .ok (.iaload, 1) := by decide +kernel
theorem dX1_join_63 : decode cX1_join 63 = .ok (.iconst 1, 1) := by decide +kernel
theorem dX1_join_64 : decode cX1_join 64 = .ok (.iadd, 1) := by decide +kernel
theorem dX1_join_65 : decode cX1_join 65 = .ok (.iastore, 1) := by decide +kernel
theorem dX1_join_66 : decode cX1_join 66 = .ok (.aload_n 0, 1) := by decide +kernel
theorem dX1_join_67 : decode cX1_join 67 = .ok (.iload 5, 2) := by decide +kernel
theorem dX1_join_69 : decode cX1_join 69 = .ok (.iload 6, 2) := by decide +kernel
theorem dX1_join_71 : decode cX1_join 71 = .ok (.iload_n 3, 1) := by decide +kernel
theorem dX1_join_72 : decode cX1_join 72 = .ok (.invokevirtual 45, 3) := by decide +kernel
theorem dX1_join_75 : decode cX1_join 75 = .ok (.aload_n 0, 1) := by decide +kernel
theorem dX1_join_76 : decode cX1_join 76 = .ok (.iload 6, 2) := by decide +kernel
theorem dX1_join_78 : decode cX1_join 78 = .ok (.iload 5, 2) := by decide +kernel
theorem dX1_join_80 : decode cX1_join 80 = .ok (.iload_n 3, 1) := by decide +kernel
theorem dX1_join_81 : decode cX1_join 81 = .ok (.invokevirtual 45, 3) := by decide +kernel
theorem dX1_join_84 : decode cX1_join 84 = .ok (.iload 4, 2) := by decide +kernel
theorem dX1_join_86 : decode cX1_join 86 = .ok (.ireturn, 1) := by decide +kernel
set_option maxRecDepth 20000 in
theorem ggX1_layEnd_X3_placeOfEnd : GoodIn wsX1_layEnd wsX3_placeOfEnd := goodIn_r _ [7] (by decide +kernel) (by decide +kernel)
set_option maxRecDepth 20000 in
theorem gX1_layEnd_X3_placeOfEnd_n49 : GoodIn wsX1_layEnd (wsX3_placeOfEnd) := ggX1_layEnd_X3_placeOfEnd
theorem dX1_layEnd_0 : decode cX1_layEnd 0 = .ok (.aload_n 0, 1) := by decide +kernel
theorem dX1_layEnd_1 : decode cX1_layEnd 1 = .ok (.getfield 19, 3) := by decide +kernel
theorem dX1_layEnd_4 : decode cX1_layEnd 4 = .ok (.iload_n 1, 1) := by decide +kernel
theorem dX1_layEnd_5 : decode cX1_layEnd 5 = .ok (.iload_n 2, 1) := by decide +kernel
theorem dX1_layEnd_6 : decode cX1_layEnd 6 = .ok (.invokestatic 49, 3) := by decide +kernel
theorem dX1_layEnd_9 : decode cX1_layEnd 9 = .ok (.iastore, 1) := by decide +kernel
theorem dX1_layEnd_10 : decode cX1_layEnd 10 = .ok (.aload_n 0, 1) := by decide +kernel
theorem dX1_layEnd_11 : decode cX1_layEnd 11 = .ok (.getfield 22, 3) := by decide +kernel
theorem dX1_layEnd_14 : decode cX1_layEnd 14 = .ok (.iload_n 1, 1) := by decide +kernel
theorem dX1_layEnd_15 : decode cX1_layEnd 15 = .ok (.iload_n 2, 1) := by decide +kernel
theorem dX1_layEnd_16 : decode cX1_layEnd 16 = .ok (.iastore, 1) := by decide +kernel
theorem dX1_layEnd_17 : decode cX1_layEnd 17 = .ok (.aload_n 0, 1) := by decide +kernel
theorem dX1_layEnd_18 : decode cX1_layEnd 18 = .ok (.getfield 25, 3) := by decide +kernel
theorem dX1_layEnd_21 : decode cX1_layEnd 21 = .ok (.iload_n 1, 1) := by decide +kernel
theorem dX1_layEnd_22 : decode cX1_layEnd 22 = .ok (.iload_n 3, 1) := by decide +kernel
theorem dX1_layEnd_23 : decode cX1_layEnd 23 = .ok (.iastore, 1) := by decide +kernel
theorem dX1_layEnd_24 : decode cX1_layEnd 24 = .ok (.aload_n 0, 1) := by decide +kernel
theorem dX1_layEnd_25 : decode cX1_layEnd 25 = .ok (.getfield 28, 3) := by decide +kernel
theorem dX1_layEnd_28 : decode cX1_layEnd 28 = .ok (.iload_n 1, 1) := by decide +kernel
theorem dX1_layEnd_29 : decode cX1_layEnd 29 = .ok (.iconst 1, 1) := by decide +kernel
theorem dX1_layEnd_30 : decode cX1_layEnd 30 = .ok (.bastore, 1) := by decide +kernel
theorem dX1_layEnd_31 : decode cX1_layEnd 31 = .ok (.return_, 1) := by decide +kernel
set_option maxRecDepth 20000 in
theorem ggX1_turnEnd_X1_twinOf : GoodIn wsX1_turnEnd wsX1_twinOf := goodIn_r _ [6, 7, 8, 9, 10, 11, 12, 13, 14, 15, 16, 17, 18] (by decide +kernel) (by decide +kernel)
set_option maxRecDepth 20000 in
theorem gX1_turnEnd_X1_twinOf : GoodIn wsX1_turnEnd (wsV RX1 53 RX1 yX1_twinOf wsX1_twinOf) := goodIn_app (goodIn_of _ (by decide +kernel)) ggX1_turnEnd_X1_twinOf
set_option maxRecDepth 20000 in
theorem ggX1_turnEnd_X3_isEnd : GoodIn wsX1_turnEnd wsX3_isEnd := goodIn_r _ [10] (by decide +kernel) (by decide +kernel)
set_option maxRecDepth 20000 in
theorem gX1_turnEnd_X3_isEnd_n56 : GoodIn wsX1_turnEnd (wsX3_isEnd) := ggX1_turnEnd_X3_isEnd
theorem dX1_turnEnd_0 : decode cX1_turnEnd 0 = .ok (.aload_n 0, 1) := by decide +kernel
theorem dX1_turnEnd_1 : decode cX1_turnEnd 1 = .ok (.iload_n 1, 1) := by decide +kernel
theorem dX1_turnEnd_2 : decode cX1_turnEnd 2 = .ok (.invokevirtual 53, 3) := by decide +kernel
theorem dX1_turnEnd_5 : decode cX1_turnEnd 5 = .ok (.istore_n 2, 1) := by decide +kernel
theorem dX1_turnEnd_6 : decode cX1_turnEnd 6 = .ok (.iload_n 1, 1) := by decide +kernel
theorem dX1_turnEnd_7 : decode cX1_turnEnd 7 = .ok (.invokestatic 56, 3) := by decide +kernel
theorem dX1_turnEnd_10 : decode cX1_turnEnd 10 = .ok (.ifCond .eq 10, 3) := by decide +kernel
theorem dX1_turnEnd_13 : decode cX1_turnEnd 13 = .ok (.iload_n 2, 1) := by decide +kernel
theorem dX1_turnEnd_14 : decode cX1_turnEnd 14 = .ok (.invokestatic 56, 3) := by decide +kernel
theorem dX1_turnEnd_17 : decode cX1_turnEnd 17 = .ok (.ifCond .ne 5, 3) := by decide +kernel
theorem dX1_turnEnd_20 : decode cX1_turnEnd 20 = .ok (.iconst 0, 1) := by decide +kernel
theorem dX1_turnEnd_21 : decode cX1_turnEnd 21 = .ok (.ireturn, 1) := by decide +kernel
theorem dX1_turnEnd_22 : decode cX1_turnEnd 22 = .ok (.aload_n 0, 1) := by decide +kernel
theorem dX1_turnEnd_23 : decode cX1_turnEnd 23 = .ok (.getfield 28, 3) := by decide +kernel
theorem dX1_turnEnd_26 : decode cX1_turnEnd 26 = .ok (.iload_n 1, 1) := by decide +kernel
theorem dX1_turnEnd_27 : decode cX1_turnEnd 27 = .ok (.baload, 1) := by decide +kernel
theorem dX1_turnEnd_28 : decode cX1_turnEnd 28 = .ok (.ifCond .ne 7, 3) := by decide +kernel
theorem dX1_turnEnd_31 : decode cX1_turnEnd 31 = .ok (.iconst 1, 1) := by decide +kernel
theorem dX1_turnEnd_32 : decode cX1_turnEnd 32 = .ok (.goto 4, 3) := by decide +kernel
theorem dX1_turnEnd_35 : decode cX1_turnEnd 35 = .ok (.iconst 0, 1) := by decide +kernel
theorem dX1_turnEnd_36 : decode cX1_turnEnd 36 = .ok (.istore_n 3, 1) := by decide +kernel
theorem dX1_turnEnd_37 : decode cX1_turnEnd 37 = .ok (.aload_n 0, 1) := by decide +kernel
theorem dX1_turnEnd_38 : decode cX1_turnEnd 38 = .ok (.getfield 28, 3) := by decide +kernel
theorem dX1_turnEnd_41 : decode cX1_turnEnd 41 = .ok (.iload_n 1, 1) := by decide +kernel
theorem dX1_turnEnd_42 : decode cX1_turnEnd 42 = .ok (.iload_n 3, 1) := by decide +kernel
theorem dX1_turnEnd_43 : decode cX1_turnEnd 43 = .ok (.bastore, 1) := by decide +kernel
theorem dX1_turnEnd_44 : decode cX1_turnEnd 44 = .ok (.aload_n 0, 1) := by decide +kernel
theorem dX1_turnEnd_45 : decode cX1_turnEnd 45 = .ok (.getfield 28, 3) := by decide +kernel
theorem dX1_turnEnd_48 : decode cX1_turnEnd 48 = .ok (.iload_n 2, 1) := by decide +kernel
theorem dX1_turnEnd_49 : decode cX1_turnEnd 49 = .ok (.iload_n 3, 1) := by decide +kernel
theorem dX1_turnEnd_50 : decode cX1_turnEnd 50 = .ok (.bastore, 1) := by decide +kernel
theorem dX1_turnEnd_51 : decode cX1_turnEnd 51 = .ok (.iload_n 3, 1) := by decide +kernel
theorem dX1_turnEnd_52 : decode cX1_turnEnd 52 = .ok (.ireturn, 1) := by decide +kernel
set_option maxRecDepth 20000 in
theorem ggX1_opensAt_X3_isEnd : GoodIn wsX1_opensAt wsX3_isEnd := goodIn_r _ [4] (by decide +kernel) (by decide +kernel)
set_option maxRecDepth 20000 in
theorem gX1_opensAt_X3_isEnd_n56 : GoodIn wsX1_opensAt (wsX3_isEnd) := ggX1_opensAt_X3_isEnd
theorem dX1_opensAt_0 : decode cX1_opensAt 0 = .ok (.iload_n 1, 1) := by decide +kernel
theorem dX1_opensAt_1 : decode cX1_opensAt 1 = .ok (.invokestatic 56, 3) := by decide +kernel
theorem dX1_opensAt_4 : decode cX1_opensAt 4 = .ok (.ifCond .eq 16, 3) := by decide +kernel
theorem dX1_opensAt_7 : decode cX1_opensAt 7 = .ok (.aload_n 0, 1) := by decide +kernel
theorem dX1_opensAt_8 : decode cX1_opensAt 8 = .ok (.getfield 28, 3) := by decide +kernel
theorem dX1_opensAt_11 : decode cX1_opensAt 11 = .ok (.iload_n 1, 1) := by decide +kernel
theorem dX1_opensAt_12 : decode cX1_opensAt 12 = .ok (.baload, 1) := by decide +kernel
theorem dX1_opensAt_13 : decode cX1_opensAt 13 = .ok (.ifCond .eq 7, 3) := by decide +kernel
theorem dX1_opensAt_16 : decode cX1_opensAt 16 = .ok (.iconst 1, 1) := by decide +kernel
theorem dX1_opensAt_17 : decode cX1_opensAt 17 = .ok (.goto 4, 3) := by decide +kernel
theorem dX1_opensAt_20 : decode cX1_opensAt 20 = .ok (.iconst 0, 1) := by decide +kernel
theorem dX1_opensAt_21 : decode cX1_opensAt 21 = .ok (.ireturn, 1) := by decide +kernel
set_option maxRecDepth 20000 in
theorem ggX1_milesAt_X3_isEnd : GoodIn wsX1_milesAt wsX3_isEnd := goodIn_r _ [4] (by decide +kernel) (by decide +kernel)
set_option maxRecDepth 20000 in
theorem gX1_milesAt_X3_isEnd_n56 : GoodIn wsX1_milesAt (wsX3_isEnd) := ggX1_milesAt_X3_isEnd
theorem dX1_milesAt_0 : decode cX1_milesAt 0 = .ok (.iload_n 1, 1) := by decide +kernel
theorem dX1_milesAt_1 : decode cX1_milesAt 1 = .ok (.invokestatic 56, 3) := by decide +kernel
theorem dX1_milesAt_4 : decode cX1_milesAt 4 = .ok (.ifCond .eq 12, 3) := by decide +kernel
theorem dX1_milesAt_7 : decode cX1_milesAt 7 = .ok (.aload_n 0, 1) := by decide +kernel
theorem dX1_milesAt_8 : decode cX1_milesAt 8 = .ok (.getfield 25, 3) := by decide +kernel
theorem dX1_milesAt_11 : decode cX1_milesAt 11 = .ok (.iload_n 1, 1) := by decide +kernel
theorem dX1_milesAt_12 : decode cX1_milesAt 12 = .ok (.iaload, 1) := by decide +kernel
theorem dX1_milesAt_13 : decode cX1_milesAt 13 = .ok (.goto 4, 3) := by decide +kernel
theorem dX1_milesAt_16 : decode cX1_milesAt 16 = .ok (.iconst 0, 1) := by decide +kernel
theorem dX1_milesAt_17 : decode cX1_milesAt 17 = .ok (.ireturn, 1) := by decide +kernel
set_option maxRecDepth 20000 in
theorem ggX1_twinOf_X3_isEnd : GoodIn wsX1_twinOf wsX3_isEnd := goodIn_r _ [4] (by decide +kernel) (by decide +kernel)
set_option maxRecDepth 20000 in
theorem gX1_twinOf_X3_isEnd_n56 : GoodIn wsX1_twinOf (wsX3_isEnd) := ggX1_twinOf_X3_isEnd
theorem dX1_twinOf_0 : decode cX1_twinOf 0 = .ok (.iload_n 1, 1) := by decide +kernel
theorem dX1_twinOf_1 : decode cX1_twinOf 1 = .ok (.invokestatic 56, 3) := by decide +kernel
theorem dX1_twinOf_4 : decode cX1_twinOf 4 = .ok (.ifCond .eq 12, 3) := by decide +kernel
theorem dX1_twinOf_7 : decode cX1_twinOf 7 = .ok (.aload_n 0, 1) := by decide +kernel
theorem dX1_twinOf_8 : decode cX1_twinOf 8 = .ok (.getfield 22, 3) := by decide +kernel
theorem dX1_twinOf_11 : decode cX1_twinOf 11 = .ok (.iload_n 1, 1) := by decide +kernel
theorem dX1_twinOf_12 : decode cX1_twinOf 12 = .ok (.iaload, 1) := by decide +kernel
theorem dX1_twinOf_13 : decode cX1_twinOf 13 = .ok (.goto 4, 3) := by decide +kernel
theorem dX1_twinOf_16 : decode cX1_twinOf 16 = .ok (.iconst (-1), 1) := by decide +kernel
theorem dX1_twinOf_17 : decode cX1_twinOf 17 = .ok (.ireturn, 1) := by decide +kernel
set_option maxRecDepth 20000 in
theorem ggX1_beyond_X3_isEnd : GoodIn wsX1_beyond wsX3_isEnd := goodIn_r _ [4] (by decide +kernel) (by decide +kernel)
set_option maxRecDepth 20000 in
theorem gX1_beyond_X3_isEnd_n56 : GoodIn wsX1_beyond (wsX3_isEnd) := ggX1_beyond_X3_isEnd
theorem dX1_beyond_0 : decode cX1_beyond 0 = .ok (.iload_n 1, 1) := by decide +kernel
theorem dX1_beyond_1 : decode cX1_beyond 1 = .ok (.invokestatic 56, 3) := by decide +kernel
theorem dX1_beyond_4 : decode cX1_beyond 4 = .ok (.ifCond .eq 12, 3) := by decide +kernel
theorem dX1_beyond_7 : decode cX1_beyond 7 = .ok (.aload_n 0, 1) := by decide +kernel
theorem dX1_beyond_8 : decode cX1_beyond 8 = .ok (.getfield 19, 3) := by decide +kernel
theorem dX1_beyond_11 : decode cX1_beyond 11 = .ok (.iload_n 1, 1) := by decide +kernel
theorem dX1_beyond_12 : decode cX1_beyond 12 = .ok (.iaload, 1) := by decide +kernel
theorem dX1_beyond_13 : decode cX1_beyond 13 = .ok (.goto 4, 3) := by decide +kernel
theorem dX1_beyond_16 : decode cX1_beyond 16 = .ok (.iconst (-1), 1) := by decide +kernel
theorem dX1_beyond_17 : decode cX1_beyond 17 = .ok (.ireturn, 1) := by decide +kernel
set_option maxRecDepth 20000 in
theorem ggX1_shortest_X1_measure : GoodIn wsX1_shortest wsX1_measure := goodIn_r _ [7, 1, 2, 8, 9, 10, 11, 12, 13, 14, 6, 15, 16, 17, 18, 19, 20, 21, 22, 23, 24, 25, 26, 27, 28, 29, 30, 31, 32, 33, 34] (by decide +kernel) (by decide +kernel)
set_option maxRecDepth 20000 in
theorem gX1_shortest_X1_measure : GoodIn wsX1_shortest (wsV RX1 59 RX1 yX1_measure wsX1_measure) := goodIn_app (goodIn_of _ (by decide +kernel)) ggX1_shortest_X1_measure
set_option maxRecDepth 20000 in
theorem ggX1_shortest_X1_isPlace : GoodIn wsX1_shortest wsX1_isPlace := goodIn_r _ [15, 16, 27, 28, 29, 30, 31, 32, 33, 34] (by decide +kernel) (by decide +kernel)
set_option maxRecDepth 20000 in
theorem gX1_shortest_X1_isPlace : GoodIn wsX1_shortest (wsV RX1 38 RX1 yX1_isPlace wsX1_isPlace) := goodIn_app (goodIn_of _ (by decide +kernel)) ggX1_shortest_X1_isPlace
theorem dX1_shortest_0 : decode cX1_shortest 0 = .ok (.aload_n 0, 1) := by decide +kernel
theorem dX1_shortest_1 : decode cX1_shortest 1 = .ok (.iload_n 2, 1) := by decide +kernel
theorem dX1_shortest_2 : decode cX1_shortest 2 = .ok (.invokevirtual 59, 3) := by decide +kernel
theorem dX1_shortest_5 : decode cX1_shortest 5 = .ok (.aload_n 0, 1) := by decide +kernel
theorem dX1_shortest_6 : decode cX1_shortest 6 = .ok (.iload_n 1, 1) := by decide +kernel
theorem dX1_shortest_7 : decode cX1_shortest 7 = .ok (.invokevirtual 38, 3) := by decide +kernel
theorem dX1_shortest_10 : decode cX1_shortest 10 = .ok (.ifCond .eq 23, 3) := by decide +kernel
theorem dX1_shortest_13 : decode cX1_shortest 13 = .ok (.aload_n 0, 1) := by decide +kernel
theorem dX1_shortest_14 : decode cX1_shortest 14 = .ok (.getfield 31, 3) := by decide +kernel
theorem dX1_shortest_17 : decode cX1_shortest 17 = .ok (.iload_n 1, 1) := by decide +kernel
theorem dX1_shortest_18 : decode cX1_shortest 18 = .ok (.iaload, 1) := by decide +kernel
theorem dX1_shortest_19 : decode cX1_shortest 19 = .ok (.ldc 63, 2) := by decide +kernel
theorem dX1_shortest_21 : decode cX1_shortest 21 = .ok (.if_icmp .ge 12, 3) := by decide +kernel
theorem dX1_shortest_24 : decode cX1_shortest 24 = .ok (.aload_n 0, 1) := by decide +kernel
theorem dX1_shortest_25 : decode cX1_shortest 25 = .ok (.getfield 31, 3) := by decide +kernel
theorem dX1_shortest_28 : decode cX1_shortest 28 = .ok (.iload_n 1, 1) := by decide +kernel
theorem dX1_shortest_29 : decode cX1_shortest 29 = .ok (.iaload, 1) := by decide +kernel
theorem dX1_shortest_30 : decode cX1_shortest 30 = .ok (.goto 4, 3) := by decide +kernel
theorem dX1_shortest_33 : decode cX1_shortest 33 = .ok (.iconst (-1), 1) := by decide +kernel
theorem dX1_shortest_34 : decode cX1_shortest 34 = .ok (.ireturn, 1) := by decide +kernel
set_option maxRecDepth 20000 in
theorem ggX1_endTowards_X1_measure : GoodIn wsX1_endTowards wsX1_measure := goodIn_r _ [8, 1, 2, 9, 10, 11, 12, 13, 14, 15, 7, 16, 17, 18, 19, 20, 21, 22, 23, 24, 25, 26, 27, 28, 29, 30, 31, 32, 33, 34, 35] (by decide +kernel) (by decide +kernel)
set_option maxRecDepth 20000 in
theorem gX1_endTowards_X1_measure : GoodIn wsX1_endTowards (wsV RX1 59 RX1 yX1_measure wsX1_measure) := goodIn_app (goodIn_of _ (by decide +kernel)) ggX1_endTowards_X1_measure
set_option maxRecDepth 20000 in
theorem ggX1_endTowards_X1_isPlace : GoodIn wsX1_endTowards wsX1_isPlace := goodIn_r _ [16, 17, 28, 29, 30, 31, 32, 33, 34, 35] (by decide +kernel) (by decide +kernel)
set_option maxRecDepth 20000 in
theorem gX1_endTowards_X1_isPlace : GoodIn wsX1_endTowards (wsV RX1 38 RX1 yX1_isPlace wsX1_isPlace) := goodIn_app (goodIn_of _ (by decide +kernel)) ggX1_endTowards_X1_isPlace
set_option maxRecDepth 20000 in
theorem ggX1_endTowards_X1_milesBy : GoodIn wsX1_endTowards wsX1_milesBy := goodIn_r _ [21, 22, 2, 23, 24, 1, 28, 29, 30, 31, 32, 33, 34, 35] (by decide +kernel) (by decide +kernel)
set_option maxRecDepth 20000 in
theorem gX1_endTowards_X1_milesBy : GoodIn wsX1_endTowards (wsV RX1 64 RX1 yX1_milesBy wsX1_milesBy) := goodIn_app (goodIn_of _ (by decide +kernel)) ggX1_endTowards_X1_milesBy
theorem dX1_endTowards_0 : decode cX1_endTowards 0 = .ok (.aload_n 0, 1) := by decide +kernel
theorem dX1_endTowards_1 : decode cX1_endTowards 1 = .ok (.iload_n 2, 1) := by decide +kernel
theorem dX1_endTowards_2 : decode cX1_endTowards 2 = .ok (.invokevirtual 59, 3) := by decide +kernel
theorem dX1_endTowards_5 : decode cX1_endTowards 5 = .ok (.aload_n 0, 1) := by decide +kernel
theorem dX1_endTowards_6 : decode cX1_endTowards 6 = .ok (.iload_n 1, 1) := by decide +kernel
theorem dX1_endTowards_7 : decode cX1_endTowards 7 = .ok (.invokevirtual 38, 3) := by decide +kernel
theorem dX1_endTowards_10 : decode cX1_endTowards 10 = .ok (.ifCond .eq 14, 3) := by decide +kernel
theorem dX1_endTowards_13 : decode cX1_endTowards 13 = .ok (.aload_n 0, 1) := by decide +kernel
theorem dX1_endTowards_14 : decode cX1_endTowards 14 = .ok (.getfield 31, 3) := by decide +kernel
theorem dX1_endTowards_17 : decode cX1_endTowards 17 = .ok (.iload_n 1, 1) := by decide +kernel
theorem dX1_endTowards_18 : decode cX1_endTowards 18 = .ok (.iaload, 1) := by decide +kernel
theorem dX1_endTowards_19 : decode cX1_endTowards 19 = .ok (.ldc 63, 2) := by decide +kernel
theorem dX1_endTowards_21 : decode cX1_endTowards 21 = .ok (.if_icmp .lt 5, 3) := by decide +kernel
theorem dX1_endTowards_24 : decode cX1_endTowards 24 = .ok (.iconst (-1), 1) := by decide +kernel
theorem dX1_endTowards_25 : decode cX1_endTowards 25 = .ok (.ireturn, 1) := by decide +kernel
theorem dX1_endTowards_26 : decode cX1_endTowards 26 = .ok (.iconst 0, 1) := by decide +kernel
theorem dX1_endTowards_27 : decode cX1_endTowards 27 = .ok (.istore_n 3, 1) := by decide +kernel
theorem dX1_endTowards_28 : decode cX1_endTowards 28 = .ok (.iload_n 3, 1) := by decide +kernel
theorem dX1_endTowards_29 : decode cX1_endTowards 29 = .ok (.aload_n 0, 1) := by decide +kernel
theorem dX1_endTowards_30 : decode cX1_endTowards 30 = .ok (.getfield 9, 3) := by decide +kernel
theorem dX1_endTowards_33 : decode cX1_endTowards 33 = .ok (.iload_n 1, 1) := by decide +kernel
theorem dX1_endTowards_34 : decode cX1_endTowards 34 = .ok (.iaload, 1) := by decide +kernel
theorem dX1_endTowards_35 : decode cX1_endTowards 35 = .ok (.if_icmp .ge 34, 3) := by decide +kernel
theorem dX1_endTowards_38 : decode cX1_endTowards 38 = .ok (.iload_n 1, 1) := by decide +kernel
theorem dX1_endTowards_39 : decode cX1_endTowards 39 = .ok (.iconst 4, 1) := by decide +kernel
theorem dX1_endTowards_40 : decode cX1_endTowards 40 = .ok (.imul, 1) := by decide +kernel
theorem dX1_endTowards_41 : decode cX1_endTowards 41 = .ok (.iload_n 3, 1) := by decide +kernel
theorem dX1_endTowards_42 : decode cX1_endTowards 42 = .ok (.iadd, 1) := by decide +kernel
theorem dX1_endTowards_43 : decode cX1_endTowards 43 = .ok (.istore 4, 2) := by decide +kernel
theorem dX1_endTowards_45 : decode cX1_endTowards 45 = .ok (.aload_n 0, 1) := by decide +kernel
theorem dX1_endTowards_46 : decode cX1_endTowards 46 = .ok (.iload 4, 2) := by decide +kernel
theorem dX1_endTowards_48 : decode cX1_endTowards 48 = .ok (.invokevirtual 64, 3) := by decide +kernel
theorem dX1_endTowards_51 : decode cX1_endTowards 51 = .ok (.aload_n 0, 1) := by decide +kernel
theorem dX1_endTowards_52 : decode cX1_endTowards 52 = .ok (.getfield 31, 3) := by decide +kernel
theorem dX1_endTowards_55 : decode cX1_endTowards 55 = .ok (.iload_n 1, 1) := by decide +kernel
theorem dX1_endTowards_56 : decode cX1_endTowards 56 = .ok (.iaload, 1) := by decide +kernel
theorem dX1_endTowards_57 : decode cX1_endTowards 57 = .ok (.if_icmp .ne 6, 3) := by decide +kernel
theorem dX1_endTowards_60 : decode cX1_endTowards 60 = .ok (.iload 4, 2) := by decide +kernel
theorem dX1_endTowards_62 : decode cX1_endTowards 62 = .ok (.ireturn, 1) := by decide +kernel
theorem dX1_endTowards_63 : decode cX1_endTowards 63 = .ok (.iinc 3 1, 3) := by decide +kernel
theorem dX1_endTowards_66 : decode cX1_endTowards 66 = .ok (.goto (-38), 3) := by decide +kernel
theorem dX1_endTowards_69 : decode cX1_endTowards 69 = .ok (.iconst (-1), 1) := by decide +kernel
theorem dX1_endTowards_70 : decode cX1_endTowards 70 = .ok (.ireturn, 1) := by decide +kernel
set_option maxRecDepth 20000 in
theorem ggX1_measure_J7_fill_53178 : GoodIn wsX1_measure wsJ7_fill_53178 := goodIn_r _ [6] (by decide +kernel) (by decide +kernel)
set_option maxRecDepth 20000 in
theorem gX1_measure_J7_fill_53178 : GoodIn wsX1_measure (va_wsS RX1 67 yJ7_fill_53178 wsJ7_fill_53178) := goodIn_app (goodIn_of _ (by decide +kernel)) ggX1_measure_J7_fill_53178
set_option maxRecDepth 20000 in
theorem ggX1_measure_X1_isPlace : GoodIn wsX1_measure wsX1_isPlace := goodIn_r _ [11, 12, 23, 24, 25, 26, 27, 28, 29, 30] (by decide +kernel) (by decide +kernel)
set_option maxRecDepth 20000 in
theorem gX1_measure_X1_isPlace : GoodIn wsX1_measure (wsV RX1 38 RX1 yX1_isPlace wsX1_isPlace) := goodIn_app (goodIn_of _ (by decide +kernel)) ggX1_measure_X1_isPlace
set_option maxRecDepth 20000 in
theorem ggX1_measure_X1_milesBy : GoodIn wsX1_measure wsX1_milesBy := goodIn_r _ [16, 17, 2, 18, 19, 1, 23, 24, 25, 26, 27, 28, 29, 30] (by decide +kernel) (by decide +kernel)
set_option maxRecDepth 20000 in
theorem gX1_measure_X1_milesBy : GoodIn wsX1_measure (wsV RX1 64 RX1 yX1_milesBy wsX1_milesBy) := goodIn_app (goodIn_of _ (by decide +kernel)) ggX1_measure_X1_milesBy
set_option maxRecDepth 20000 in
theorem ggX1_measure_X3_placeOfEnd : GoodIn wsX1_measure wsX3_placeOfEnd := goodIn_r _ [22] (by decide +kernel) (by decide +kernel)
set_option maxRecDepth 20000 in
theorem gX1_measure_X3_placeOfEnd_n49 : GoodIn wsX1_measure (wsX3_placeOfEnd) := ggX1_measure_X3_placeOfEnd
theorem dX1_measure_0 : decode cX1_measure 0 = .ok (.aload_n 0, 1) := by decide +kernel
theorem dX1_measure_1 : decode cX1_measure 1 = .ok (.getfield 31, 3) := by decide +kernel
theorem dX1_measure_4 : decode cX1_measure 4 = .ok (.ldc 63, 2) := by decide +kernel
theorem dX1_measure_6 : decode cX1_measure 6 = .ok (.invokestatic 67, 3) := by decide +kernel
theorem dX1_measure_9 : decode cX1_measure 9 = .ok (.aload_n 0, 1) := by decide +kernel
theorem dX1_measure_10 : decode cX1_measure 10 = .ok (.iload_n 1, 1) := by decide +kernel
theorem dX1_measure_11 : decode cX1_measure 11 = .ok (.invokevirtual 38, 3) := by decide +kernel
theorem dX1_measure_14 : decode cX1_measure 14 = .ok (.ifCond .eq 10, 3) := by decide +kernel
theorem dX1_measure_17 : decode cX1_measure 17 = .ok (.aload_n 0, 1) := by decide +kernel
theorem dX1_measure_18 : decode cX1_measure 18 = .ok (.getfield 31, 3) := by decide +kernel
theorem dX1_measure_21 : decode cX1_measure 21 = .ok (.iload_n 1, 1) := by decide +kernel
theorem dX1_measure_22 : decode cX1_measure 22 = .ok (.iconst 0, 1) := by decide +kernel
theorem dX1_measure_23 : decode cX1_measure 23 = .ok (.iastore, 1) := by decide +kernel
theorem dX1_measure_24 : decode cX1_measure 24 = .ok (.iconst 1, 1) := by decide +kernel
theorem dX1_measure_25 : decode cX1_measure 25 = .ok (.istore_n 2, 1) := by decide +kernel
theorem dX1_measure_26 : decode cX1_measure 26 = .ok (.iconst 0, 1) := by decide +kernel
theorem dX1_measure_27 : decode cX1_measure 27 = .ok (.istore_n 3, 1) := by decide +kernel
theorem dX1_measure_28 : decode cX1_measure 28 = .ok (.iload_n 3, 1) := by decide +kernel
theorem dX1_measure_29 : decode cX1_measure 29 = .ok (.bipush 10, 2) := by decide +kernel
theorem dX1_measure_31 : decode cX1_measure 31 = .ok (.if_icmp .ge 68, 3) := by decide +kernel
theorem dX1_measure_34 : decode cX1_measure 34 = .ok (.iload_n 2, 1) := by decide +kernel
theorem dX1_measure_35 : decode cX1_measure 35 = .ok (.ifCond .eq 64, 3) := by decide +kernel
theorem dX1_measure_38 : decode cX1_measure 38 = .ok (.iconst 0, 1) := by decide +kernel
theorem dX1_measure_39 : decode cX1_measure 39 = .ok (.istore_n 2, 1) := by decide +kernel
theorem dX1_measure_40 : decode cX1_measure 40 = .ok (.iconst 0, 1) := by decide +kernel
theorem dX1_measure_41 : decode cX1_measure 41 = .ok (.istore 4, 2) := by decide +kernel
theorem dX1_measure_43 : decode cX1_measure 43 = .ok (.iload 4, 2) := by decide +kernel
theorem dX1_measure_45 : decode cX1_measure 45 = .ok (.bipush 40, 2) := by decide +kernel
theorem dX1_measure_47 : decode cX1_measure 47 = .ok (.if_icmp .ge 46, 3) := by decide +kernel
theorem dX1_measure_50 : decode cX1_measure 50 = .ok (.aload_n 0, 1) := by decide +kernel
theorem dX1_measure_51 : decode cX1_measure 51 = .ok (.iload 4, 2) := by decide +kernel
theorem dX1_measure_53 : decode cX1_measure 53 = .ok (.invokevirtual 64, 3) := by decide +kernel
theorem dX1_measure_56 : decode cX1_measure 56 = .ok (.istore 5, 2) := by decide +kernel
theorem dX1_measure_58 : decode cX1_measure 58 = .ok (.iload 5, 2) := by decide +kernel
theorem dX1_measure_60 : decode cX1_measure 60 = .ok (.aload_n 0, 1) := by decide +kernel
theorem dX1_measure_61 : decode cX1_measure 61 = .ok (.getfield 31, 3) := by decide +kernel
theorem dX1_measure_64 : decode cX1_measure 64 = .ok (.iload 4, 2) := by decide +kernel
theorem dX1_measure_66 : decode cX1_measure 66 = .ok (.invokestatic 49, 3) := by decide +kernel
theorem dX1_measure_69 : decode cX1_measure 69 = .ok (.iaload, 1) := by decide +kernel
theorem dX1_measure_70 : decode cX1_measure 70 = .ok (.if_icmp .ge 17, 3) := by decide +kernel
theorem dX1_measure_73 : decode cX1_measure 73 = .ok (.aload_n 0, 1) := by decide +kernel
theorem dX1_measure_74 : decode cX1_measure 74 = .ok (.getfield 31, 3) := by decide +kernel
theorem dX1_measure_77 : decode cX1_measure 77 = .ok (.iload 4, 2) := by decide +kernel
theorem dX1_measure_79 : decode cX1_measure 79 = .ok (.invokestatic 49, 3) := by decide +kernel
theorem dX1_measure_82 : decode cX1_measure 82 = .ok (.iload 5, 2) := by decide +kernel
theorem dX1_measure_84 : decode cX1_measure 84 = .ok (.iastore, 1) := by decide +kernel
theorem dX1_measure_85 : decode cX1_measure 85 = .ok (.iconst 1, 1) := by decide +kernel
theorem dX1_measure_86 : decode cX1_measure 86 = .ok (.istore_n 2, 1) := by decide +kernel
theorem dX1_measure_87 : decode cX1_measure 87 = .ok (.iinc 4 1, 3) := by decide +kernel
theorem dX1_measure_90 : decode cX1_measure 90 = .ok (.goto (-47), 3) := by decide +kernel
theorem dX1_measure_93 : decode cX1_measure 93 = .ok (.iinc 3 1, 3) := by decide +kernel
theorem dX1_measure_96 : decode cX1_measure 96 = .ok (.goto (-68), 3) := by decide +kernel
theorem dX1_measure_99 : decode cX1_measure 99 = .ok (.return_, 1) := by decide +kernel
theorem dX1_milesBy_0 : decode cX1_milesBy 0 = .ok (.iload_n 1, 1) := by decide +kernel
theorem dX1_milesBy_1 : decode cX1_milesBy 1 = .ok (.ifCond .lt 18, 3) := by decide +kernel
theorem dX1_milesBy_4 : decode cX1_milesBy 4 = .ok (.iload_n 1, 1) := by decide +kernel
theorem dX1_milesBy_5 : decode cX1_milesBy 5 = .ok (.bipush 40, 2) := by decide +kernel
theorem dX1_milesBy_7 : decode cX1_milesBy 7 = .ok (.if_icmp .ge 12, 3) := by decide +kernel
theorem dX1_milesBy_10 : decode cX1_milesBy 10 = .ok (.aload_n 0, 1) := by decide +kernel
theorem dX1_milesBy_11 : decode cX1_milesBy 11 = .ok (.getfield 28, 3) := by decide +kernel
theorem dX1_milesBy_14 : decode cX1_milesBy 14 = .ok (.iload_n 1, 1) := by decide +kernel
theorem dX1_milesBy_15 : decode cX1_milesBy 15 = .ok (.baload, 1) := by decide +kernel
theorem dX1_milesBy_16 : decode cX1_milesBy 16 = .ok (.ifCond .ne 6, 3) := by decide +kernel
theorem dX1_milesBy_19 : decode cX1_milesBy 19 = .ok (.ldc 63, 2) := by decide +kernel
theorem dX1_milesBy_21 : decode cX1_milesBy 21 = .ok (.ireturn, 1) := by decide +kernel
theorem dX1_milesBy_22 : decode cX1_milesBy 22 = .ok (.aload_n 0, 1) := by decide +kernel
theorem dX1_milesBy_23 : decode cX1_milesBy 23 = .ok (.getfield 19, 3) := by decide +kernel
theorem dX1_milesBy_26 : decode cX1_milesBy 26 = .ok (.iload_n 1, 1) := by decide +kernel
theorem dX1_milesBy_27 : decode cX1_milesBy 27 = .ok (.iaload, 1) := by decide +kernel
theorem dX1_milesBy_28 : decode cX1_milesBy 28 = .ok (.istore_n 2, 1) := by decide +kernel
theorem dX1_milesBy_29 : decode cX1_milesBy 29 = .ok (.iload_n 2, 1) := by decide +kernel
theorem dX1_milesBy_30 : decode cX1_milesBy 30 = .ok (.ifCond .lt 25, 3) := by decide +kernel
theorem dX1_milesBy_33 : decode cX1_milesBy 33 = .ok (.iload_n 2, 1) := by decide +kernel
theorem dX1_milesBy_34 : decode cX1_milesBy 34 = .ok (.bipush 10, 2) := by decide +kernel
theorem dX1_milesBy_36 : decode cX1_milesBy 36 = .ok (.if_icmp .ge 19, 3) := by decide +kernel
theorem dX1_milesBy_39 : decode cX1_milesBy 39 = .ok (.aload_n 0, 1) := by decide +kernel
theorem dX1_milesBy_40 : decode cX1_milesBy 40 = .ok (.getfield 25, 3) := by decide +kernel
theorem dX1_milesBy_43 : decode cX1_milesBy 43 = .ok (.iload_n 1, 1) := by decide +kernel
theorem dX1_milesBy_44 : decode cX1_milesBy 44 = .ok (.iaload, 1) := by decide +kernel
theorem dX1_milesBy_45 : decode cX1_milesBy 45 = .ok (.aload_n 0, 1) := by decide +kernel
theorem dX1_milesBy_46 : decode cX1_milesBy 46 = .ok (.getfield 31, 3) := by decide +kernel
theorem dX1_milesBy_49 : decode cX1_milesBy 49 = .ok (.iload_n 2, 1) := by decide +kernel
theorem dX1_milesBy_50 : decode cX1_milesBy 50 = .ok (.iaload, 1) := by decide +kernel
theorem dX1_milesBy_51 : decode cX1_milesBy 51 = .ok (.iadd, 1) := by decide +kernel
theorem dX1_milesBy_52 : decode cX1_milesBy 52 = .ok (.goto 5, 3) := by decide +kernel
theorem dX1_milesBy_55 : decode cX1_milesBy 55 = .ok (.ldc 63, 2) := by decide +kernel
theorem dX1_milesBy_57 : decode cX1_milesBy 57 = .ok (.ireturn, 1) := by decide +kernel
theorem dX2_init_0 : decode cX2_init 0 = .ok (.aload_n 0, 1) := by decide +kernel
theorem dX2_init_1 : decode cX2_init 1 = .ok (.invokespecial 3, 3) := by decide +kernel
theorem dX2_init_4 : decode cX2_init 4 = .ok (.aload_n 0, 1) := by decide +kernel
theorem dX2_init_5 : decode cX2_init 5 = .ok (.bipush 100, 2) := by decide +kernel
theorem dX2_init_7 : decode cX2_init 7 = .ok (.newarray .int, 2) := by decide +kernel
theorem dX2_init_9 : decode cX2_init 9 = .ok (.putfield 9, 3) := by decide +kernel
theorem dX2_init_12 : decode cX2_init 12 = .ok (.aload_n 0, 1) := by decide +kernel
theorem dX2_init_13 : decode cX2_init 13 = .ok (.bipush 100, 2) := by decide +kernel
theorem dX2_init_15 : decode cX2_init 15 = .ok (.newarray .int, 2) := by decide +kernel
theorem dX2_init_17 : decode cX2_init 17 = .ok (.putfield 15, 3) := by decide +kernel
theorem dX2_init_20 : decode cX2_init 20 = .ok (.return_, 1) := by decide +kernel
set_option maxRecDepth 20000 in
theorem ggX2_exitFor_X2_spotOf : GoodIn wsX2_exitFor wsX2_spotOf := goodIn_r _ [6] (by decide +kernel) (by decide +kernel)
set_option maxRecDepth 20000 in
theorem gX2_exitFor_X2_spotOf : GoodIn wsX2_exitFor (va_wsS RX2 18 yX2_spotOf wsX2_spotOf) := goodIn_app (goodIn_of _ (by decide +kernel)) ggX2_exitFor_X2_spotOf
theorem dX2_exitFor_0 : decode cX2_exitFor 0 = .ok (.iload_n 1, 1) := by decide +kernel
theorem dX2_exitFor_1 : decode cX2_exitFor 1 = .ok (.iload_n 2, 1) := by decide +kernel
theorem dX2_exitFor_2 : decode cX2_exitFor 2 = .ok (.invokestatic 18, 3) := by decide +kernel
theorem dX2_exitFor_5 : decode cX2_exitFor 5 = .ok (.istore_n 3, 1) := by decide +kernel
theorem dX2_exitFor_6 : decode cX2_exitFor 6 = .ok (.iload_n 3, 1) := by decide +kernel
theorem dX2_exitFor_7 : decode cX2_exitFor 7 = .ok (.iconst (-1), 1) := by decide +kernel
theorem dX2_exitFor_8 : decode cX2_exitFor 8 = .ok (.if_icmp .eq 21, 3) := by decide +kernel
theorem dX2_exitFor_11 : decode cX2_exitFor 11 = .ok (.aload_n 0, 1) := by decide +kernel
theorem dX2_exitFor_12 : decode cX2_exitFor 12 = .ok (.getfield 15, 3) := by decide +kernel
theorem dX2_exitFor_15 : decode cX2_exitFor 15 = .ok (.iload_n 3, 1) := by decide +kernel
theorem dX2_exitFor_16 : decode cX2_exitFor 16 = .ok (.iaload, 1) := by decide +kernel
theorem dX2_exitFor_17 : decode cX2_exitFor 17 = .ok (.ifCond .le 12, 3) := by decide +kernel
theorem dX2_exitFor_20 : decode cX2_exitFor 20 = .ok (.aload_n 0, 1) := by decide +kernel
theorem dX2_exitFor_21 : decode cX2_exitFor 21 = .ok (.getfield 9, 3) := by decide +kernel
theorem dX2_exitFor_24 : decode cX2_exitFor 24 = .ok (.iload_n 3, 1) := by decide +kernel
theorem dX2_exitFor_25 : decode cX2_exitFor 25 = .ok (.iaload, 1) := by decide +kernel
theorem dX2_exitFor_26 : decode cX2_exitFor 26 = .ok (.goto 4, 3) := by decide +kernel
theorem dX2_exitFor_29 : decode cX2_exitFor 29 = .ok (.iconst (-1), 1) := by decide +kernel
theorem dX2_exitFor_30 : decode cX2_exitFor 30 = .ok (.ireturn, 1) := by decide +kernel
set_option maxRecDepth 20000 in
theorem ggX2_strengthFor_X2_spotOf : GoodIn wsX2_strengthFor wsX2_spotOf := goodIn_r _ [5] (by decide +kernel) (by decide +kernel)
set_option maxRecDepth 20000 in
theorem gX2_strengthFor_X2_spotOf : GoodIn wsX2_strengthFor (va_wsS RX2 18 yX2_spotOf wsX2_spotOf) := goodIn_app (goodIn_of _ (by decide +kernel)) ggX2_strengthFor_X2_spotOf
theorem dX2_strengthFor_0 : decode cX2_strengthFor 0 = .ok (.iload_n 1, 1) := by decide +kernel
theorem dX2_strengthFor_1 : decode cX2_strengthFor 1 = .ok (.iload_n 2, 1) := by decide +kernel
theorem dX2_strengthFor_2 : decode cX2_strengthFor 2 = .ok (.invokestatic 18, 3) := by decide +kernel
theorem dX2_strengthFor_5 : decode cX2_strengthFor 5 = .ok (.istore_n 3, 1) := by decide +kernel
theorem dX2_strengthFor_6 : decode cX2_strengthFor 6 = .ok (.iload_n 3, 1) := by decide +kernel
theorem dX2_strengthFor_7 : decode cX2_strengthFor 7 = .ok (.iconst (-1), 1) := by decide +kernel
theorem dX2_strengthFor_8 : decode cX2_strengthFor 8 = .ok (.if_icmp .eq 12, 3) := by decide +kernel
theorem dX2_strengthFor_11 : decode cX2_strengthFor 11 = .ok (.aload_n 0, 1) := by decide +kernel
theorem dX2_strengthFor_12 : decode cX2_strengthFor 12 = .ok (.getfield 15, 3) := by decide +kernel
theorem dX2_strengthFor_15 : decode cX2_strengthFor 15 = .ok (.iload_n 3, 1) := by decide +kernel
theorem dX2_strengthFor_16 : decode cX2_strengthFor 16 = .ok (.iaload, 1) := by decide +kernel
theorem dX2_strengthFor_17 : decode cX2_strengthFor 17 = .ok (.goto 4, 3) := by decide +kernel
theorem dX2_strengthFor_20 : decode cX2_strengthFor 20 = .ok (.iconst 0, 1) := by decide +kernel
theorem dX2_strengthFor_21 : decode cX2_strengthFor 21 = .ok (.ireturn, 1) := by decide +kernel
set_option maxRecDepth 20000 in
theorem ggX2_learn_X2_spotOf : GoodIn wsX2_learn wsX2_spotOf := goodIn_r _ [6] (by decide +kernel) (by decide +kernel)
set_option maxRecDepth 20000 in
theorem gX2_learn_X2_spotOf : GoodIn wsX2_learn (va_wsS RX2 18 yX2_spotOf wsX2_spotOf) := goodIn_app (goodIn_of _ (by decide +kernel)) ggX2_learn_X2_spotOf
theorem dX2_learn_0 : decode cX2_learn 0 = .ok (.iload_n 1, 1) := by decide +kernel
theorem dX2_learn_1 : decode cX2_learn 1 = .ok (.iload_n 2, 1) := by decide +kernel
theorem dX2_learn_2 : decode cX2_learn 2 = .ok (.invokestatic 18, 3) := by decide +kernel
theorem dX2_learn_5 : decode cX2_learn 5 = .ok (.istore 4, 2) := by decide +kernel
theorem dX2_learn_7 : decode cX2_learn 7 = .ok (.iload 4, 2) := by decide +kernel
theorem dX2_learn_9 : decode cX2_learn 9 = .ok (.iconst (-1), 1) := by decide +kernel
theorem dX2_learn_10 : decode cX2_learn 10 = .ok (.if_icmp .eq 19, 3) := by decide +kernel
theorem dX2_learn_13 : decode cX2_learn 13 = .ok (.aload_n 0, 1) := by decide +kernel
theorem dX2_learn_14 : decode cX2_learn 14 = .ok (.getfield 9, 3) := by decide +kernel
theorem dX2_learn_17 : decode cX2_learn 17 = .ok (.iload 4, 2) := by decide +kernel
theorem dX2_learn_19 : decode cX2_learn 19 = .ok (.iload_n 3, 1) := by decide +kernel
theorem dX2_learn_20 : decode cX2_learn 20 = .ok (.iastore, 1) := by decide +kernel
theorem dX2_learn_21 : decode cX2_learn 21 = .ok (.aload_n 0, 1) := by decide +kernel
theorem dX2_learn_22 : decode cX2_learn 22 = .ok (.getfield 15, 3) := by decide +kernel
theorem dX2_learn_25 : decode cX2_learn 25 = .ok (.iload 4, 2) := by decide +kernel
theorem dX2_learn_27 : decode cX2_learn 27 = .ok (.iconst 3, 1) := by decide +kernel
theorem dX2_learn_28 : decode cX2_learn 28 = .ok (.iastore, 1) := by decide +kernel
theorem dX2_learn_29 : decode cX2_learn 29 = .ok (.return_, 1) := by decide +kernel
set_option maxRecDepth 20000 in
theorem ggX2_confirm_X2_spotOf : GoodIn wsX2_confirm wsX2_spotOf := goodIn_r _ [10] (by decide +kernel) (by decide +kernel)
set_option maxRecDepth 20000 in
theorem gX2_confirm_X2_spotOf : GoodIn wsX2_confirm (va_wsS RX2 18 yX2_spotOf wsX2_spotOf) := goodIn_app (goodIn_of _ (by decide +kernel)) ggX2_confirm_X2_spotOf
set_option maxRecDepth 20000 in
theorem ggX2_confirm_X2_learn : GoodIn wsX2_confirm wsX2_learn := goodIn_r _ [14, 2, 1, 7, 8, 9, 10, 15, 16] (by decide +kernel) (by decide +kernel)
set_option maxRecDepth 20000 in
theorem gX2_confirm_X2_learn : GoodIn wsX2_confirm (wsV RX2 27 RX2 yX2_learn wsX2_learn) := goodIn_app (goodIn_of _ (by decide +kernel)) ggX2_confirm_X2_learn
theorem dX2_confirm_0 : decode cX2_confirm 0 = .ok (.iload_n 1, 1) := by decide +kernel
theorem dX2_confirm_1 : decode cX2_confirm 1 = .ok (.iload_n 2, 1) := by decide +kernel
theorem dX2_confirm_2 : decode cX2_confirm 2 = .ok (.invokestatic 18, 3) := by decide +kernel
theorem dX2_confirm_5 : decode cX2_confirm 5 = .ok (.istore 4, 2) := by decide +kernel
theorem dX2_confirm_7 : decode cX2_confirm 7 = .ok (.iload 4, 2) := by decide +kernel
theorem dX2_confirm_9 : decode cX2_confirm 9 = .ok (.iconst (-1), 1) := by decide +kernel
theorem dX2_confirm_10 : decode cX2_confirm 10 = .ok (.if_icmp .eq 48, 3) := by decide +kernel
theorem dX2_confirm_13 : decode cX2_confirm 13 = .ok (.aload_n 0, 1) := by decide +kernel
theorem dX2_confirm_14 : decode cX2_confirm 14 = .ok (.getfield 15, 3) := by decide +kernel
theorem dX2_confirm_17 : decode cX2_confirm 17 = .ok (.iload 4, 2) := by decide +kernel
theorem dX2_confirm_19 : decode cX2_confirm 19 = .ok (.iaload, 1) := by decide +kernel
theorem dX2_confirm_20 : decode cX2_confirm 20 = .ok (.ifCond .le 38, 3) := by decide +kernel
theorem dX2_confirm_23 : decode cX2_confirm 23 = .ok (.aload_n 0, 1) := by decide +kernel
theorem dX2_confirm_24 : decode cX2_confirm 24 = .ok (.getfield 9, 3) := by decide +kernel
theorem dX2_confirm_27 : decode cX2_confirm 27 = .ok (.iload 4, 2) := by decide +kernel
theorem dX2_confirm_29 : decode cX2_confirm 29 = .ok (.iaload, 1) := by decide +kernel
theorem dX2_confirm_30 : decode cX2_confirm 30 = .ok (.iload_n 3, 1) := by decide +kernel
theorem dX2_confirm_31 : decode cX2_confirm 31 = .ok (.if_icmp .ne 27, 3) := by decide +kernel
theorem dX2_confirm_34 : decode cX2_confirm 34 = .ok (.aload_n 0, 1) := by decide +kernel
theorem dX2_confirm_35 : decode cX2_confirm 35 = .ok (.getfield 15, 3) := by decide +kernel
theorem dX2_confirm_38 : decode cX2_confirm 38 = .ok (.iload 4, 2) := by decide +kernel
theorem dX2_confirm_40 : decode cX2_confirm 40 = .ok (.bipush 9, 2) := by decide +kernel
theorem dX2_confirm_42 : decode cX2_confirm 42 = .ok (.aload_n 0, 1) := by decide +kernel
theorem dX2_confirm_43 : decode cX2_confirm 43 = .ok (.getfield 15, 3) := by decide +kernel
theorem dX2_confirm_46 : decode cX2_confirm 46 = .ok (.iload 4, 2) := by decide +kernel
theorem dX2_confirm_48 : decode cX2_confirm 48 = .ok (.iaload, 1) := by decide +kernel
theorem dX2_confirm_49 : decode cX2_confirm 49 = .ok (.iconst 3, 1) := by decide +kernel
theorem dX2_confirm_50 : decode cX2_confirm 50 = .ok (.iadd, 1) := by decide +kernel
theorem dX2_confirm_51 : decode cX2_confirm 51 = .ok (.invokestatic 22, 3) := by decide +kernel
theorem dX2_confirm_54 : decode cX2_confirm 54 = .ok (.iastore, 1) := by decide +kernel
theorem dX2_confirm_55 : decode cX2_confirm 55 = .ok (.goto 10, 3) := by decide +kernel
theorem dX2_confirm_58 : decode cX2_confirm 58 = .ok (.aload_n 0, 1) := by decide +kernel
theorem dX2_confirm_59 : decode cX2_confirm 59 = .ok (.iload_n 1, 1) := by decide +kernel
theorem dX2_confirm_60 : decode cX2_confirm 60 = .ok (.iload_n 2, 1) := by decide +kernel
theorem dX2_confirm_61 : decode cX2_confirm 61 = .ok (.iload_n 3, 1) := by decide +kernel
theorem dX2_confirm_62 : decode cX2_confirm 62 = .ok (.invokevirtual 27, 3) := by decide +kernel
theorem dX2_confirm_65 : decode cX2_confirm 65 = .ok (.return_, 1) := by decide +kernel
theorem dX2_fade_0 : decode cX2_fade 0 = .ok (.iconst 0, 1) := by decide +kernel
theorem dX2_fade_1 : decode cX2_fade 1 = .ok (.istore_n 2, 1) := by decide +kernel
theorem dX2_fade_2 : decode cX2_fade 2 = .ok (.iconst 0, 1) := by decide +kernel
theorem dX2_fade_3 : decode cX2_fade 3 = .ok (.istore_n 3, 1) := by decide +kernel
theorem dX2_fade_4 : decode cX2_fade 4 = .ok (.iload_n 3, 1) := by decide +kernel
theorem dX2_fade_5 : decode cX2_fade 5 = .ok (.aload_n 0, 1) := by decide +kernel
theorem dX2_fade_6 : decode cX2_fade 6 = .ok (.getfield 15, 3) := by decide +kernel
theorem dX2_fade_9 : decode cX2_fade 9 = .ok (.arraylength, 1) := by decide +kernel
theorem dX2_fade_10 : decode cX2_fade 10 = .ok (.if_icmp .ge 60, 3) := by decide +kernel
theorem dX2_fade_13 : decode cX2_fade 13 = .ok (.aload_n 0, 1) := by decide +kernel
theorem dX2_fade_14 : decode cX2_fade 14 = .ok (.getfield 15, 3) := by decide +kernel
theorem dX2_fade_17 : decode cX2_fade 17 = .ok (.iload_n 3, 1) := by decide +kernel
theorem dX2_fade_18 : decode cX2_fade 18 = .ok (.iaload, 1) := by decide +kernel
theorem dX2_fade_19 : decode cX2_fade 19 = .ok (.ifCond .le 7, 3) := by decide +kernel
theorem dX2_fade_22 : decode cX2_fade 22 = .ok (.iconst 1, 1) := by decide +kernel
theorem dX2_fade_23 : decode cX2_fade 23 = .ok (.goto 4, 3) := by decide +kernel
theorem dX2_fade_26 : decode cX2_fade 26 = .ok (.iconst 0, 1) := by decide +kernel
theorem dX2_fade_27 : decode cX2_fade 27 = .ok (.istore 4, 2) := by decide +kernel
theorem dX2_fade_29 : decode cX2_fade 29 = .ok (.aload_n 0, 1) := by decide +kernel
theorem dX2_fade_30 : decode cX2_fade 30 = .ok (.getfield 15, 3) := by decide +kernel
theorem dX2_fade_33 : decode cX2_fade 33 = .ok (.iload_n 3, 1) := by decide +kernel
theorem dX2_fade_34 : decode cX2_fade 34 = .ok (.iconst 0, 1) := by decide +kernel
theorem dX2_fade_35 : decode cX2_fade 35 = .ok (.aload_n 0, 1) := by decide +kernel
theorem dX2_fade_36 : decode cX2_fade 36 = .ok (.getfield 15, 3) := by decide +kernel
theorem dX2_fade_39 : decode cX2_fade 39 = .ok (.iload_n 3, 1) := by decide +kernel
theorem dX2_fade_40 : decode cX2_fade 40 = .ok (.iaload, 1) := by decide +kernel
theorem dX2_fade_41 : decode cX2_fade 41 = .ok (.iload_n 1, 1) := by decide +kernel
theorem dX2_fade_42 : decode cX2_fade 42 = .ok (.isub, 1) := by decide +kernel
theorem dX2_fade_43 : decode cX2_fade 43 = .ok (.invokestatic 31, 3) := by decide +kernel
theorem dX2_fade_46 : decode cX2_fade 46 = .ok (.iastore, 1) := by decide +kernel
theorem dX2_fade_47 : decode cX2_fade 47 = .ok (.iload 4, 2) := by decide +kernel
theorem dX2_fade_49 : decode cX2_fade 49 = .ok (.ifCond .eq 15, 3) := by decide +kernel
theorem dX2_fade_52 : decode cX2_fade 52 = .ok (.aload_n 0, 1) := by decide +kernel
theorem dX2_fade_53 : decode cX2_fade 53 = .ok (.getfield 15, 3) := by decide +kernel
theorem dX2_fade_56 : decode cX2_fade 56 = .ok (.iload_n 3, 1) := by decide +kernel
theorem dX2_fade_57 : decode cX2_fade 57 = .ok (.iaload, 1) := by decide +kernel
theorem dX2_fade_58 : decode cX2_fade 58 = .ok (.ifCond .ne 6, 3) := by decide +kernel
theorem dX2_fade_61 : decode cX2_fade 61 = .ok (.iinc 2 1, 3) := by decide +kernel
theorem dX2_fade_64 : decode cX2_fade 64 = .ok (.iinc 3 1, 3) := by decide +kernel
theorem dX2_fade_67 : decode cX2_fade 67 = .ok (.goto (-63), 3) := by decide +kernel
theorem dX2_fade_70 : decode cX2_fade 70 = .ok (.iload_n 2, 1) := by decide +kernel
theorem dX2_fade_71 : decode cX2_fade 71 = .ok (.ireturn, 1) := by decide +kernel
theorem dX2_copyFrom_0 : decode cX2_copyFrom 0 = .ok (.aload_n 1, 1) := by decide +kernel
theorem dX2_copyFrom_1 : decode cX2_copyFrom 1 = .ok (.getfield 9, 3) := by decide +kernel
theorem dX2_copyFrom_4 : decode cX2_copyFrom 4 = .ok (.iconst 0, 1) := by decide +kernel
theorem dX2_copyFrom_5 : decode cX2_copyFrom 5 = .ok (.aload_n 0, 1) := by decide +kernel
theorem dX2_copyFrom_6 : decode cX2_copyFrom 6 = .ok (.getfield 9, 3) := by decide +kernel
theorem dX2_copyFrom_9 : decode cX2_copyFrom 9 = .ok (.iconst 0, 1) := by decide +kernel
theorem dX2_copyFrom_10 : decode cX2_copyFrom 10 = .ok (.aload_n 0, 1) := by decide +kernel
theorem dX2_copyFrom_11 : decode cX2_copyFrom 11 = .ok (.getfield 9, 3) := by decide +kernel
theorem dX2_copyFrom_14 : decode cX2_copyFrom 14 = .ok (.arraylength, 1) := by decide +kernel
theorem dX2_copyFrom_15 : decode cX2_copyFrom 15 = .ok (.invokestatic 34, 3) := by decide +kernel
theorem dX2_copyFrom_18 : decode cX2_copyFrom 18 = .ok (.aload_n 1, 1) := by decide +kernel
theorem dX2_copyFrom_19 : decode cX2_copyFrom 19 = .ok (.getfield 15, 3) := by decide +kernel
theorem dX2_copyFrom_22 : decode cX2_copyFrom 22 = .ok (.iconst 0, 1) := by decide +kernel
theorem dX2_copyFrom_23 : decode cX2_copyFrom 23 = .ok (.aload_n 0, 1) := by decide +kernel
theorem dX2_copyFrom_24 : decode cX2_copyFrom 24 = .ok (.getfield 15, 3) := by decide +kernel
theorem dX2_copyFrom_27 : decode cX2_copyFrom 27 = .ok (.iconst 0, 1) := by decide +kernel
theorem dX2_copyFrom_28 : decode cX2_copyFrom 28 = .ok (.aload_n 0, 1) := by decide +kernel
theorem dX2_copyFrom_29 : decode cX2_copyFrom 29 = .ok (.getfield 15, 3) := by decide +kernel
theorem dX2_copyFrom_32 : decode cX2_copyFrom 32 = .ok (.arraylength, 1) := by decide +kernel
theorem dX2_copyFrom_33 : decode cX2_copyFrom 33 = .ok (.invokestatic 34, 3) := by decide +kernel
theorem dX2_copyFrom_36 : decode cX2_copyFrom 36 = .ok (.return_, 1) := by decide +kernel
theorem dX2_spotOf_0 : decode cX2_spotOf 0 = .ok (.iload_n 0, 1) := by decide +kernel
theorem dX2_spotOf_1 : decode cX2_spotOf 1 = .ok (.ifCond .lt 23, 3) := by decide +kernel
theorem dX2_spotOf_4 : decode cX2_spotOf 4 = .ok (.iload_n 0, 1) := by decide +kernel
theorem dX2_spotOf_5 : decode cX2_spotOf 5 = .ok (.bipush 10, 2) := by decide +kernel
theorem dX2_spotOf_7 : decode cX2_spotOf 7 = .ok (.if_icmp .ge 17, 3) := by decide +kernel
theorem dX2_spotOf_10 : decode cX2_spotOf 10 = .ok (.iload_n 1, 1) := by decide +kernel
theorem dX2_spotOf_11 : decode cX2_spotOf 11 = .ok (.ifCond .lt 13, 3) := by decide +kernel
theorem dX2_spotOf_14 : decode cX2_spotOf 14 = .ok (.iload_n 1, 1) := by decide +kernel
theorem dX2_spotOf_15 : decode cX2_spotOf 15 = .ok (.bipush 10, 2) := by decide +kernel
theorem dX2_spotOf_17 : decode cX2_spotOf 17 = .ok (.if_icmp .ge 7, 3) := by decide +kernel
theorem dX2_spotOf_20 : decode cX2_spotOf 20 = .ok (.iconst 1, 1) := by decide +kernel
theorem dX2_spotOf_21 : decode cX2_spotOf 21 = .ok (.goto 4, 3) := by decide +kernel
theorem dX2_spotOf_24 : decode cX2_spotOf 24 = .ok (.iconst 0, 1) := by decide +kernel
theorem dX2_spotOf_25 : decode cX2_spotOf 25 = .ok (.istore_n 2, 1) := by decide +kernel
theorem dX2_spotOf_26 : decode cX2_spotOf 26 = .ok (.iload_n 2, 1) := by decide +kernel
theorem dX2_spotOf_27 : decode cX2_spotOf 27 = .ok (.ifCond .eq 12, 3) := by decide +kernel
theorem dX2_spotOf_30 : decode cX2_spotOf 30 = .ok (.iload_n 0, 1) := by decide +kernel
theorem dX2_spotOf_31 : decode cX2_spotOf 31 = .ok (.bipush 10, 2) := by decide +kernel
theorem dX2_spotOf_33 : decode cX2_spotOf 33 = .ok (.imul, 1) := by decide +kernel
theorem dX2_spotOf_34 : decode cX2_spotOf 34 = .ok (.iload_n 1, 1) := by decide +kernel
theorem dX2_spotOf_35 : decode cX2_spotOf 35 = .ok (.iadd, 1) := by decide +kernel
theorem dX2_spotOf_36 : decode cX2_spotOf 36 = .ok (.goto 4, 3) := by decide +kernel
theorem dX2_spotOf_39 : decode cX2_spotOf 39 = .ok (.iconst (-1), 1) := by decide +kernel
theorem dX2_spotOf_40 : decode cX2_spotOf 40 = .ok (.ireturn, 1) := by decide +kernel
set_option maxRecDepth 20000 in
theorem ggX3_init_X1_init : GoodIn wsX3_init wsX1_init := goodIn_r _ [14, 15, 2, 3, 16, 17, 18, 19, 20, 21, 22, 23, 24, 44, 45, 46, 47, 48, 49, 50, 51] (by decide +kernel) (by decide +kernel)
set_option maxRecDepth 20000 in
theorem gX3_init_X1_init_n11 : GoodIn wsX3_init (wsX1_init) := ggX3_init_X1_init
set_option maxRecDepth 20000 in
theorem ggX3_init_X0_init : GoodIn wsX3_init wsX0_init := goodIn_r _ [27, 28, 2, 3, 29, 30, 31, 32, 33, 16, 34, 18, 35, 36, 37, 38, 39, 40, 41, 42, 43, 70, 71, 55, 56, 57, 58, 59, 60, 61, 62, 63, 64, 65, 66, 67, 68, 69] (by decide +kernel) (by decide +kernel)
set_option maxRecDepth 20000 in
theorem gX3_init_X0_init : GoodIn wsX3_init (wsX0_init) := ggX3_init_X0_init
theorem dX3_init_0 : decode cX3_init 0 = .ok (.aload_n 0, 1) := by decide +kernel
theorem dX3_init_1 : decode cX3_init 1 = .ok (.invokespecial 3, 3) := by decide +kernel
theorem dX3_init_4 : decode cX3_init 4 = .ok (.aload_n 0, 1) := by decide +kernel
theorem dX3_init_5 : decode cX3_init 5 = .ok (.new 9, 3) := by decide +kernel
theorem dX3_init_8 : decode cX3_init 8 = .ok (.dup, 1) := by decide +kernel
theorem dX3_init_9 : decode cX3_init 9 = .ok (.invokespecial 11, 3) := by decide +kernel
theorem dX3_init_12 : decode cX3_init 12 = .ok (.putfield 12, 3) := by decide +kernel
theorem dX3_init_15 : decode cX3_init 15 = .ok (.aload_n 0, 1) := by decide +kernel
theorem dX3_init_16 : decode cX3_init 16 = .ok (.new 16, 3) := by decide +kernel
theorem dX3_init_19 : decode cX3_init 19 = .ok (.dup, 1) := by decide +kernel
theorem dX3_init_20 : decode cX3_init 20 = .ok (.aload_n 0, 1) := by decide +kernel
theorem dX3_init_21 : decode cX3_init 21 = .ok (.getfield 12, 3) := by decide +kernel
theorem dX3_init_24 : decode cX3_init 24 = .ok (.invokespecial 18, 3) := by decide +kernel
theorem dX3_init_27 : decode cX3_init 27 = .ok (.putfield 21, 3) := by decide +kernel
theorem dX3_init_30 : decode cX3_init 30 = .ok (.aload_n 0, 1) := by decide +kernel
theorem dX3_init_31 : decode cX3_init 31 = .ok (.new 16, 3) := by decide +kernel
theorem dX3_init_34 : decode cX3_init 34 = .ok (.dup, 1) := by decide +kernel
theorem dX3_init_35 : decode cX3_init 35 = .ok (.aload_n 0, 1) := by decide +kernel
theorem dX3_init_36 : decode cX3_init 36 = .ok (.getfield 12, 3) := by decide +kernel
theorem dX3_init_39 : decode cX3_init 39 = .ok (.invokespecial 18, 3) := by decide +kernel
theorem dX3_init_42 : decode cX3_init 42 = .ok (.putfield 25, 3) := by decide +kernel
theorem dX3_init_45 : decode cX3_init 45 = .ok (.return_, 1) := by decide +kernel
theorem dX3_addPlace_0 : decode cX3_addPlace 0 = .ok (.aload_n 0, 1) := by decide +kernel
theorem dX3_addPlace_1 : decode cX3_addPlace 1 = .ok (.getfield 12, 3) := by decide +kernel
theorem dX3_addPlace_4 : decode cX3_addPlace 4 = .ok (.getfield 28, 3) := by decide +kernel
theorem dX3_addPlace_7 : decode cX3_addPlace 7 = .ok (.bipush 10, 2) := by decide +kernel
theorem dX3_addPlace_9 : decode cX3_addPlace 9 = .ok (.if_icmp .lt 13, 3) := by decide +kernel
theorem dX3_addPlace_12 : decode cX3_addPlace 12 = .ok (.new 32, 3) := by decide +kernel
theorem dX3_addPlace_15 : decode cX3_addPlace 15 = .ok (.dup, 1) := by decide +kernel
theorem dX3_addPlace_16 : decode cX3_addPlace 16 = .ok (.ldc 34, 2) := by decide +kernel
theorem dX3_addPlace_18 : decode cX3_addPlace 18 = .ok (.invokespecial 36, 3) := by decide +kernel
theorem dX3_addPlace_21 : decode cX3_addPlace 21 = .ok (.athrow, 1) := by decide +kernel
theorem dX3_addPlace_22 : decode cX3_addPlace 22 = .ok (.aload_n 0, 1) := by decide +kernel
theorem dX3_addPlace_23 : decode cX3_addPlace 23 = .ok (.getfield 12, 3) := by decide +kernel
theorem dX3_addPlace_26 : decode cX3_addPlace 26 = .ok (.dup, 1) := by decide +kernel
theorem dX3_addPlace_27 : decode cX3_addPlace 27 = .ok (.getfield 28, 3) := by decide +kernel
theorem dX3_addPlace_30 : decode cX3_addPlace 30 = .ok (.iconst 1, 1) := by decide +kernel
theorem dX3_addPlace_31 : decode cX3_addPlace 31 = .ok (.iadd, 1) := by decide +kernel
theorem dX3_addPlace_32 : decode cX3_addPlace 32 = .ok (.putfield 28, 3) := by decide +kernel
theorem dX3_addPlace_35 : decode cX3_addPlace 35 = .ok (.aload_n 0, 1) := by decide +kernel
theorem dX3_addPlace_36 : decode cX3_addPlace 36 = .ok (.getfield 12, 3) := by decide +kernel
theorem dX3_addPlace_39 : decode cX3_addPlace 39 = .ok (.getfield 28, 3) := by decide +kernel
theorem dX3_addPlace_42 : decode cX3_addPlace 42 = .ok (.iconst 1, 1) := by decide +kernel
theorem dX3_addPlace_43 : decode cX3_addPlace 43 = .ok (.isub, 1) := by decide +kernel
theorem dX3_addPlace_44 : decode cX3_addPlace 44 = .ok (.ireturn, 1) := by decide +kernel
set_option maxRecDepth 20000 in
theorem ggX3_addRoad_X3_checkPlace : GoodIn wsX3_addRoad wsX3_checkPlace := goodIn_ca (goodIn_r _ [10, 11, 12, 5, 13, 14, 15, 16, 17, 18, 44, 45, 46, 47, 48, 49, 50, 51, 52, 53, 54] (by decide +kernel) (by decide +kernel)) (goodIn_sub (fun _ h => List.mem_cons_of_mem _ (List.mem_append_right _ h)) (by decide +kernel))
set_option maxRecDepth 20000 in
theorem gX3_addRoad_X3_checkPlace : GoodIn wsX3_addRoad (wsV RX3 39 RX3 yX3_checkPlace wsX3_checkPlace) := goodIn_app (goodIn_of _ (by decide +kernel)) ggX3_addRoad_X3_checkPlace
set_option maxRecDepth 20000 in
theorem ggX3_addRoad_X3_checkRange : GoodIn wsX3_addRoad wsX3_checkRange := goodIn_ca (goodIn_r _ [22, 1, 2] (by decide +kernel) (by decide +kernel)) (goodIn_sub (fun _ h => List.mem_cons_of_mem _ (List.mem_append_left _ (List.mem_append_left _ (List.mem_append_right _ h)))) (by decide +kernel))
set_option maxRecDepth 20000 in
theorem gX3_addRoad_X3_checkRange : GoodIn wsX3_addRoad (wsV RX3 48 RX3 yX3_checkRange wsX3_checkRange) := goodIn_app (goodIn_of _ (by decide +kernel)) ggX3_addRoad_X3_checkRange
set_option maxRecDepth 20000 in
theorem ggX3_addRoad_X1_hasRoom : GoodIn wsX3_addRoad wsX1_hasRoom := goodIn_r _ [26, 27, 28, 14, 15, 16, 17, 18, 47, 48, 49, 50, 51, 52, 53, 54] (by decide +kernel) (by decide +kernel)
set_option maxRecDepth 20000 in
theorem gX3_addRoad_X1_hasRoom : GoodIn wsX3_addRoad (wsV RX3 52 RX1 yX1_hasRoom wsX1_hasRoom) := goodIn_app (goodIn_of _ (by decide +kernel)) ggX3_addRoad_X1_hasRoom
set_option maxRecDepth 20000 in
theorem ggX3_addRoad_X1_join : GoodIn wsX3_addRoad wsX1_join := goodIn_r _ [32, 27, 33, 24, 25, 16, 26, 28, 14, 15, 17, 18, 34, 35, 36, 37, 38, 39, 40, 41, 42, 9, 43, 47, 48, 49, 50, 51, 52, 53, 54] (by decide +kernel) (by decide +kernel)
set_option maxRecDepth 20000 in
theorem gX3_addRoad_X1_join : GoodIn wsX3_addRoad (wsV RX3 58 RX1 yX1_join wsX1_join) := goodIn_app (goodIn_of _ (by decide +kernel)) ggX3_addRoad_X1_join
theorem dX3_addRoad_0 : decode cX3_addRoad 0 = .ok (.aload_n 0, 1) := by decide +kernel
theorem dX3_addRoad_1 : decode cX3_addRoad 1 = .ok (.iload_n 1, 1) := by decide +kernel
theorem dX3_addRoad_2 : decode cX3_addRoad 2 = .ok (.invokevirtual 39, 3) := by decide +kernel
theorem dX3_addRoad_5 : decode cX3_addRoad 5 = .ok (.aload_n 0, 1) := by decide +kernel
theorem dX3_addRoad_6 : decode cX3_addRoad 6 = .ok (.iload_n 2, 1) := by decide +kernel
theorem dX3_addRoad_7 : decode cX3_addRoad 7 = .ok (.invokevirtual 39, 3) := by decide +kernel
theorem dX3_addRoad_10 : decode cX3_addRoad 10 = .ok (.iload_n 1, 1) := by decide +kernel
theorem dX3_addRoad_11 : decode cX3_addRoad 11 = .ok (.iload_n 2, 1) := by decide +kernel
theorem dX3_addRoad_12 : decode cX3_addRoad 12 = .ok (.if_icmp .ne 13, 3) := by decide +kernel
theorem dX3_addRoad_15 : decode cX3_addRoad 15 = .ok (.new 43, 3) := by decide +kernel
theorem dX3_addRoad_18 : decode cX3_addRoad 18 = .ok (.dup, 1) := by decide +kernel
theorem dX3_addRoad_19 : decode cX3_addRoad 19 = .ok (.ldc 45, 2) := by decide +kernel
theorem dX3_addRoad_21 : decode cX3_addRoad 21 = .ok (.invokespecial 47, 3) := by decide +kernel
theorem dX3_addRoad_24 : decode cX3_addRoad 24 = .ok (.athrow, 1) := by decide +kernel
theorem dX3_addRoad_25 : decode cX3_addRoad 25 = .ok (.aload_n 0, 1) := by decide +kernel
theorem dX3_addRoad_26 : decode cX3_addRoad 26 = .ok (.iload_n 3, 1) := by decide +kernel
theorem dX3_addRoad_27 : decode cX3_addRoad 27 = .ok (.bipush 9, 2) := by decide +kernel
theorem dX3_addRoad_29 : decode cX3_addRoad 29 = .ok (.invokevirtual 48, 3) := by decide +kernel
theorem dX3_addRoad_32 : decode cX3_addRoad 32 = .ok (.aload_n 0, 1) := by decide +kernel
theorem dX3_addRoad_33 : decode cX3_addRoad 33 = .ok (.getfield 12, 3) := by decide +kernel
theorem dX3_addRoad_36 : decode cX3_addRoad 36 = .ok (.iload_n 1, 1) := by decide +kernel
theorem dX3_addRoad_37 : decode cX3_addRoad 37 = .ok (.invokevirtual 52, 3) := by decide +kernel
theorem dX3_addRoad_40 : decode cX3_addRoad 40 = .ok (.ifCond .eq 14, 3) := by decide +kernel
theorem dX3_addRoad_43 : decode cX3_addRoad 43 = .ok (.aload_n 0, 1) := by decide +kernel
theorem dX3_addRoad_44 : decode cX3_addRoad 44 = .ok (.getfield 12, 3) := by decide +kernel
theorem dX3_addRoad_47 : decode cX3_addRoad 47 = .ok (.iload_n 2, 1) := by decide +kernel
theorem dX3_addRoad_48 : decode cX3_addRoad 48 = .ok (.invokevirtual 52, 3) := by decide +kernel
theorem dX3_addRoad_51 : decode cX3_addRoad 51 = .ok (.ifCond .ne 13, 3) := by decide +kernel
theorem dX3_addRoad_54 : decode cX3_addRoad 54 = .ok (.new 32, 3) := by decide +kernel
theorem dX3_addRoad_57 : decode cX3_addRoad 57 = .ok (.dup, 1) := by decide +kernel
theorem dX3_addRoad_58 : decode cX3_addRoad 58 = .ok (.ldc 56, 2) := by decide +kernel
theorem dX3_addRoad_60 : decode cX3_addRoad 60 = .ok (.invokespecial 36, 3) := by decide +kernel
theorem dX3_addRoad_63 : decode cX3_addRoad 63 = .ok (.athrow, 1) := by decide +kernel
theorem dX3_addRoad_64 : decode cX3_addRoad 64 = .ok (.aload_n 0, 1) := by decide +kernel
theorem dX3_addRoad_65 : decode cX3_addRoad 65 = .ok (.getfield 12, 3) := by decide +kernel
theorem dX3_addRoad_68 : decode cX3_addRoad 68 = .ok (.iload_n 1, 1) := by decide +kernel
theorem dX3_addRoad_69 : decode cX3_addRoad 69 = .ok (.iload_n 2, 1) := by decide +kernel
theorem dX3_addRoad_70 : decode cX3_addRoad 70 = .ok (.iload_n 3, 1) := by decide +kernel
theorem dX3_addRoad_71 : decode cX3_addRoad 71 = .ok (.invokevirtual 58, 3) := by decide +kernel
theorem dX3_addRoad_74 : decode cX3_addRoad 74 = .ok (.ireturn, 1) := by decide +kernel
set_option maxRecDepth 20000 in
theorem ggX3_turnRoad_X3_checkedEnd : GoodIn wsX3_turnRoad wsX3_checkedEnd := goodIn_ca (goodIn_r _ [6, 7, 8, 1, 9, 10, 11, 12, 13, 14, 15, 16, 17, 18, 19, 32, 33, 34, 35, 36, 37, 38, 39, 40, 41, 42] (by decide +kernel) (by decide +kernel)) (goodIn_sub (fun _ h => List.mem_cons_of_mem _ (List.mem_append_right _ h)) (by decide +kernel))
set_option maxRecDepth 20000 in
theorem gX3_turnRoad_X3_checkedEnd : GoodIn wsX3_turnRoad (wsV RX3 62 RX3 yX3_checkedEnd wsX3_checkedEnd) := goodIn_app (goodIn_of _ (by decide +kernel)) ggX3_turnRoad_X3_checkedEnd
set_option maxRecDepth 20000 in
theorem ggX3_turnRoad_X1_turnEnd : GoodIn wsX3_turnRoad wsX1_turnEnd := goodIn_r _ [23, 24, 25, 26, 27, 12, 28, 29, 30, 5, 31, 35, 36, 37, 38, 39, 40, 41, 42] (by decide +kernel) (by decide +kernel)
set_option maxRecDepth 20000 in
theorem gX3_turnRoad_X1_turnEnd : GoodIn wsX3_turnRoad (wsV RX3 66 RX1 yX1_turnEnd wsX1_turnEnd) := goodIn_app (goodIn_of _ (by decide +kernel)) ggX3_turnRoad_X1_turnEnd
theorem dX3_turnRoad_0 : decode cX3_turnRoad 0 = .ok (.aload_n 0, 1) := by decide +kernel
theorem dX3_turnRoad_1 : decode cX3_turnRoad 1 = .ok (.getfield 12, 3) := by decide +kernel
theorem dX3_turnRoad_4 : decode cX3_turnRoad 4 = .ok (.aload_n 0, 1) := by decide +kernel
theorem dX3_turnRoad_5 : decode cX3_turnRoad 5 = .ok (.iload_n 1, 1) := by decide +kernel
theorem dX3_turnRoad_6 : decode cX3_turnRoad 6 = .ok (.iload_n 2, 1) := by decide +kernel
theorem dX3_turnRoad_7 : decode cX3_turnRoad 7 = .ok (.invokevirtual 62, 3) := by decide +kernel
theorem dX3_turnRoad_10 : decode cX3_turnRoad 10 = .ok (.invokevirtual 66, 3) := by decide +kernel
theorem dX3_turnRoad_13 : decode cX3_turnRoad 13 = .ok (.ireturn, 1) := by decide +kernel
set_option maxRecDepth 20000 in
theorem ggX3_turnShepherd_X3_checkPlace : GoodIn wsX3_turnShepherd wsX3_checkPlace := goodIn_ca (goodIn_r _ [6, 7, 8, 1, 9, 10, 11, 12, 13, 14, 15, 16, 17, 18, 19, 20, 21, 22, 23, 24, 25] (by decide +kernel) (by decide +kernel)) (goodIn_sub (fun _ h => List.mem_cons_of_mem _ (List.mem_append_right _ h)) (by decide +kernel))
set_option maxRecDepth 20000 in
theorem gX3_turnShepherd_X3_checkPlace : GoodIn wsX3_turnShepherd (wsV RX3 39 RX3 yX3_checkPlace wsX3_checkPlace) := goodIn_app (goodIn_of _ (by decide +kernel)) ggX3_turnShepherd_X3_checkPlace
theorem dX3_turnShepherd_0 : decode cX3_turnShepherd 0 = .ok (.aload_n 0, 1) := by decide +kernel
theorem dX3_turnShepherd_1 : decode cX3_turnShepherd 1 = .ok (.iload_n 1, 1) := by decide +kernel
theorem dX3_turnShepherd_2 : decode cX3_turnShepherd 2 = .ok (.invokevirtual 39, 3) := by decide +kernel
theorem dX3_turnShepherd_5 : decode cX3_turnShepherd 5 = .ok (.aload_n 0, 1) := by decide +kernel
theorem dX3_turnShepherd_6 : decode cX3_turnShepherd 6 = .ok (.getfield 12, 3) := by decide +kernel
theorem dX3_turnShepherd_9 : decode cX3_turnShepherd 9 = .ok (.getfield 69, 3) := by decide +kernel
theorem dX3_turnShepherd_12 : decode cX3_turnShepherd 12 = .ok (.iload_n 1, 1) := by decide +kernel
theorem dX3_turnShepherd_13 : decode cX3_turnShepherd 13 = .ok (.aload_n 0, 1) := by decide +kernel
theorem dX3_turnShepherd_14 : decode cX3_turnShepherd 14 = .ok (.getfield 12, 3) := by decide +kernel
theorem dX3_turnShepherd_17 : decode cX3_turnShepherd 17 = .ok (.getfield 69, 3) := by decide +kernel
theorem dX3_turnShepherd_20 : decode cX3_turnShepherd 20 = .ok (.iload_n 1, 1) := by decide +kernel
theorem dX3_turnShepherd_21 : decode cX3_turnShepherd 21 = .ok (.baload, 1) := by decide +kernel
theorem dX3_turnShepherd_22 : decode cX3_turnShepherd 22 = .ok (.ifCond .ne 7, 3) := by decide +kernel
theorem dX3_turnShepherd_25 : decode cX3_turnShepherd 25 = .ok (.iconst 1, 1) := by decide +kernel
theorem dX3_turnShepherd_26 : decode cX3_turnShepherd 26 = .ok (.goto 4, 3) := by decide +kernel
theorem dX3_turnShepherd_29 : decode cX3_turnShepherd 29 = .ok (.iconst 0, 1) := by decide +kernel
theorem dX3_turnShepherd_30 : decode cX3_turnShepherd 30 = .ok (.bastore, 1) := by decide +kernel
theorem dX3_turnShepherd_31 : decode cX3_turnShepherd 31 = .ok (.aload_n 0, 1) := by decide +kernel
theorem dX3_turnShepherd_32 : decode cX3_turnShepherd 32 = .ok (.getfield 12, 3) := by decide +kernel
theorem dX3_turnShepherd_35 : decode cX3_turnShepherd 35 = .ok (.getfield 69, 3) := by decide +kernel
theorem dX3_turnShepherd_38 : decode cX3_turnShepherd 38 = .ok (.iload_n 1, 1) := by decide +kernel
theorem dX3_turnShepherd_39 : decode cX3_turnShepherd 39 = .ok (.baload, 1) := by decide +kernel
theorem dX3_turnShepherd_40 : decode cX3_turnShepherd 40 = .ok (.ireturn, 1) := by decide +kernel
set_option maxRecDepth 20000 in
theorem ggX3_pay_X3_checkRange : GoodIn wsX3_pay wsX3_checkRange := goodIn_ca (goodIn_r _ [10, 11, 12] (by decide +kernel) (by decide +kernel)) (goodIn_sub (fun _ h => List.mem_cons_of_mem _ (List.mem_append_right _ h)) (by decide +kernel))
set_option maxRecDepth 20000 in
theorem gX3_pay_X3_checkRange : GoodIn wsX3_pay (wsV RX3 48 RX3 yX3_checkRange wsX3_checkRange) := goodIn_app (goodIn_of _ (by decide +kernel)) ggX3_pay_X3_checkRange
theorem dX3_pay_0 : decode cX3_pay 0 = .ok (.aload_n 0, 1) := by decide +kernel
theorem dX3_pay_1 : decode cX3_pay 1 = .ok (.iload_n 1, 1) := by decide +kernel
theorem dX3_pay_2 : decode cX3_pay 2 = .ok (.bipush 99, 2) := by decide +kernel
theorem dX3_pay_4 : decode cX3_pay 4 = .ok (.invokevirtual 48, 3) := by decide +kernel
theorem dX3_pay_7 : decode cX3_pay 7 = .ok (.aload_n 0, 1) := by decide +kernel
theorem dX3_pay_8 : decode cX3_pay 8 = .ok (.getfield 21, 3) := by decide +kernel
theorem dX3_pay_11 : decode cX3_pay 11 = .ok (.bipush 99, 2) := by decide +kernel
theorem dX3_pay_13 : decode cX3_pay 13 = .ok (.aload_n 0, 1) := by decide +kernel
theorem dX3_pay_14 : decode cX3_pay 14 = .ok (.getfield 21, 3) := by decide +kernel
theorem dX3_pay_17 : decode cX3_pay 17 = .ok (.getfield 73, 3) := by decide +kernel
theorem dX3_pay_20 : decode cX3_pay 20 = .ok (.iload_n 1, 1) := by decide +kernel
theorem dX3_pay_21 : decode cX3_pay 21 = .ok (.iadd, 1) := by decide +kernel
theorem dX3_pay_22 : decode cX3_pay 22 = .ok (.invokestatic 76, 3) := by decide +kernel
theorem dX3_pay_25 : decode cX3_pay 25 = .ok (.putfield 73, 3) := by decide +kernel
theorem dX3_pay_28 : decode cX3_pay 28 = .ok (.aload_n 0, 1) := by decide +kernel
theorem dX3_pay_29 : decode cX3_pay 29 = .ok (.getfield 21, 3) := by decide +kernel
theorem dX3_pay_32 : decode cX3_pay 32 = .ok (.getfield 73, 3) := by decide +kernel
theorem dX3_pay_35 : decode cX3_pay 35 = .ok (.ireturn, 1) := by decide +kernel
set_option maxRecDepth 20000 in
theorem ggX3_beginErrand_X3_checkPlace : GoodIn wsX3_beginErrand wsX3_checkPlace := goodIn_ca (goodIn_r _ [7, 8, 9, 1, 10, 11, 12, 13, 14, 15, 68, 69, 70, 86, 87, 88, 89, 90, 91, 92, 93] (by decide +kernel) (by decide +kernel)) (goodIn_sub (fun _ h => List.mem_cons_of_mem _ (List.mem_append_left _ (List.mem_append_right _ h))) (by decide +kernel))
set_option maxRecDepth 20000 in
theorem gX3_beginErrand_X3_checkPlace : GoodIn wsX3_beginErrand (wsV RX3 39 RX3 yX3_checkPlace wsX3_checkPlace) := goodIn_app (goodIn_of _ (by decide +kernel)) ggX3_beginErrand_X3_checkPlace
set_option maxRecDepth 20000 in
theorem ggX3_beginErrand_X3_checkIdle : GoodIn wsX3_beginErrand wsX3_checkIdle := goodIn_ca (goodIn_r _ [19, 20, 21, 2, 22, 23, 24, 25, 26, 27, 68, 69, 70, 71, 72, 73, 74, 75, 76, 77, 78, 79, 80, 81, 82, 83, 84, 85] (by decide +kernel) (by decide +kernel)) (goodIn_sub (fun _ h => List.mem_cons_of_mem _ (List.mem_append_right _ h)) (by decide +kernel))
set_option maxRecDepth 20000 in
theorem gX3_beginErrand_X3_checkIdle : GoodIn wsX3_beginErrand (wsV RX3 81 RX3 yX3_checkIdle wsX3_checkIdle) := goodIn_app (goodIn_of _ (by decide +kernel)) ggX3_beginErrand_X3_checkIdle
set_option maxRecDepth 20000 in
theorem ggX3_beginErrand_X1_shortest : GoodIn wsX3_beginErrand wsX1_shortest := goodIn_r _ [31, 32, 33, 34, 35, 36, 13, 37, 38, 39, 40, 41, 42, 11, 12, 14, 15, 43, 44, 45, 46, 47, 48, 49, 50, 6, 51, 86, 87, 88, 89, 90, 91, 92, 93] (by decide +kernel) (by decide +kernel)
set_option maxRecDepth 20000 in
theorem gX3_beginErrand_X1_shortest : GoodIn wsX3_beginErrand (wsV RX3 87 RX1 yX1_shortest wsX1_shortest) := goodIn_app (goodIn_of _ (by decide +kernel)) ggX3_beginErrand_X1_shortest
set_option maxRecDepth 20000 in
theorem ggX3_beginErrand_X0_begin : GoodIn wsX3_beginErrand wsX0_begin := goodIn_r _ [55, 56, 57, 58, 27, 59, 60, 61, 62, 25, 63, 64, 65, 66, 67, 71, 72, 73, 74, 75, 76, 77, 78, 79, 80, 81, 82, 83, 84, 85] (by decide +kernel) (by decide +kernel)
set_option maxRecDepth 20000 in
theorem gX3_beginErrand_X0_begin : GoodIn wsX3_beginErrand (wsV RX3 90 RX0 yX0_begin wsX0_begin) := goodIn_app (goodIn_of _ (by decide +kernel)) ggX3_beginErrand_X0_begin
theorem dX3_beginErrand_0 : decode cX3_beginErrand 0 = .ok (.aload_n 0, 1) := by decide +kernel
theorem dX3_beginErrand_1 : decode cX3_beginErrand 1 = .ok (.iload_n 1, 1) := by decide +kernel
theorem dX3_beginErrand_2 : decode cX3_beginErrand 2 = .ok (.invokevirtual 39, 3) := by decide +kernel
theorem dX3_beginErrand_5 : decode cX3_beginErrand 5 = .ok (.aload_n 0, 1) := by decide +kernel
theorem dX3_beginErrand_6 : decode cX3_beginErrand 6 = .ok (.invokevirtual 81, 3) := by decide +kernel
theorem dX3_beginErrand_9 : decode cX3_beginErrand 9 = .ok (.aload_n 0, 1) := by decide +kernel
theorem dX3_beginErrand_10 : decode cX3_beginErrand 10 = .ok (.getfield 12, 3) := by decide +kernel
theorem dX3_beginErrand_13 : decode cX3_beginErrand 13 = .ok (.aload_n 0, 1) := by decide +kernel
theorem dX3_beginErrand_14 : decode cX3_beginErrand 14 = .ok (.getfield 21, 3) := by decide +kernel
theorem dX3_beginErrand_17 : decode cX3_beginErrand 17 = .ok (.getfield 84, 3) := by decide +kernel
theorem dX3_beginErrand_20 : decode cX3_beginErrand 20 = .ok (.iload_n 1, 1) := by decide +kernel
theorem dX3_beginErrand_21 : decode cX3_beginErrand 21 = .ok (.invokevirtual 87, 3) := by decide +kernel
theorem dX3_beginErrand_24 : decode cX3_beginErrand 24 = .ok (.istore_n 2, 1) := by decide +kernel
theorem dX3_beginErrand_25 : decode cX3_beginErrand 25 = .ok (.aload_n 0, 1) := by decide +kernel
theorem dX3_beginErrand_26 : decode cX3_beginErrand 26 = .ok (.getfield 21, 3) := by decide +kernel
theorem dX3_beginErrand_29 : decode cX3_beginErrand 29 = .ok (.iload_n 1, 1) := by decide +kernel
theorem dX3_beginErrand_30 : decode cX3_beginErrand 30 = .ok (.invokevirtual 90, 3) := by decide +kernel
theorem dX3_beginErrand_33 : decode cX3_beginErrand 33 = .ok (.iload_n 2, 1) := by decide +kernel
theorem dX3_beginErrand_34 : decode cX3_beginErrand 34 = .ok (.ireturn, 1) := by decide +kernel
set_option maxRecDepth 20000 in
theorem ggX3_goOn_X3_checkRange : GoodIn wsX3_goOn wsX3_checkRange := goodIn_ca (goodIn_r _ [6, 7, 8] (by decide +kernel) (by decide +kernel)) (goodIn_sub (fun _ h => List.mem_cons_of_mem _ (List.mem_append_left _ (List.mem_append_right _ h))) (by decide +kernel))
set_option maxRecDepth 20000 in
theorem gX3_goOn_X3_checkRange : GoodIn wsX3_goOn (wsV RX3 48 RX3 yX3_checkRange wsX3_checkRange) := goodIn_app (goodIn_of _ (by decide +kernel)) ggX3_goOn_X3_checkRange
set_option maxRecDepth 20000 in
theorem ggX3_goOn_X3_checkUnderway : GoodIn wsX3_goOn wsX3_checkUnderway := goodIn_ca (goodIn_r _ [12, 13, 14, 1, 15, 16, 17, 18, 19, 20, 142, 143, 144, 145, 146, 147, 148, 149, 150, 151, 152, 153, 154, 155, 156, 157, 158, 159] (by decide +kernel) (by decide +kernel)) (goodIn_sub (fun _ h => List.mem_cons_of_mem _ (List.mem_append_right _ h)) (by decide +kernel))
set_option maxRecDepth 20000 in
theorem gX3_goOn_X3_checkUnderway : GoodIn wsX3_goOn (wsV RX3 93 RX3 yX3_checkUnderway wsX3_checkUnderway) := goodIn_app (goodIn_of _ (by decide +kernel)) ggX3_goOn_X3_checkUnderway
set_option maxRecDepth 20000 in
theorem ggX3_goOn_X0_isUnderway : GoodIn wsX3_goOn wsX0_isUnderway := goodIn_r _ [19, 20, 145, 146, 147, 148, 149, 150, 151, 152, 153, 154, 155, 156, 157, 158, 159] (by decide +kernel) (by decide +kernel)
set_option maxRecDepth 20000 in
theorem gX3_goOn_X0_isUnderway : GoodIn wsX3_goOn (wsV RX3 96 RX0 yX0_isUnderway wsX0_isUnderway) := goodIn_app (goodIn_of _ (by decide +kernel)) ggX3_goOn_X0_isUnderway
set_option maxRecDepth 20000 in
theorem ggX3_goOn_X0_step : GoodIn wsX3_goOn wsX0_step := goodIn_r _ [24, 25, 26, 27, 20, 28, 29, 30, 31, 18, 32, 33, 34, 35, 36, 37, 38, 39, 40, 41, 42, 43, 44, 45, 46, 47, 48, 49, 50, 51, 52, 53, 54, 55, 56, 57, 58, 59, 60, 61, 5, 62, 63, 64, 65, 66, 67, 68, 69, 70, 71, 72, 73, 74, 75, 76, 77, 78, 79, 80, 81, 82, 83, 84, 85, 86, 87, 88, 89, 90, 91, 92, 93, 94, 95, 96, 97, 98, 99, 100, 101, 102, 103, 104, 105, 106, 107, 108, 109, 110, 111, 112, 113, 114, 115, 116, 117, 118, 119, 120, 121, 122, 123, 124, 125, 126, 127, 128, 129, 130, 131, 132, 133, 134, 135, 136, 137, 138, 139, 140, 141, 145, 146, 147, 148, 149, 150, 151, 152, 153, 154, 155, 156, 157, 158, 159, 160, 161, 162, 163, 164, 165, 166, 167, 168, 169] (by decide +kernel) (by decide +kernel)
set_option maxRecDepth 20000 in
theorem gX3_goOn_X0_step : GoodIn wsX3_goOn (wsV RX3 100 RX0 yX0_step wsX0_step) := goodIn_app (goodIn_of _ (by decide +kernel)) ggX3_goOn_X0_step
theorem dX3_goOn_0 : decode cX3_goOn 0 = .ok (.aload_n 0, 1) := by decide +kernel
theorem dX3_goOn_1 : decode cX3_goOn 1 = .ok (.iload_n 1, 1) := by decide +kernel
theorem dX3_goOn_2 : decode cX3_goOn 2 = .ok (.bipush 100, 2) := by decide +kernel
theorem dX3_goOn_4 : decode cX3_goOn 4 = .ok (.invokevirtual 48, 3) := by decide +kernel
theorem dX3_goOn_7 : decode cX3_goOn 7 = .ok (.aload_n 0, 1) := by decide +kernel
theorem dX3_goOn_8 : decode cX3_goOn 8 = .ok (.invokevirtual 93, 3) := by decide +kernel
theorem dX3_goOn_11 : decode cX3_goOn 11 = .ok (.iconst 0, 1) := by decide +kernel
theorem dX3_goOn_12 : decode cX3_goOn 12 = .ok (.istore_n 2, 1) := by decide +kernel
theorem dX3_goOn_13 : decode cX3_goOn 13 = .ok (.iload_n 2, 1) := by decide +kernel
theorem dX3_goOn_14 : decode cX3_goOn 14 = .ok (.iload_n 1, 1) := by decide +kernel
theorem dX3_goOn_15 : decode cX3_goOn 15 = .ok (.if_icmp .ge 29, 3) := by decide +kernel
theorem dX3_goOn_18 : decode cX3_goOn 18 = .ok (.aload_n 0, 1) := by decide +kernel
theorem dX3_goOn_19 : decode cX3_goOn 19 = .ok (.getfield 21, 3) := by decide +kernel
theorem dX3_goOn_22 : decode cX3_goOn 22 = .ok (.invokevirtual 96, 3) := by decide +kernel
theorem dX3_goOn_25 : decode cX3_goOn 25 = .ok (.ifCond .eq 19, 3) := by decide +kernel
theorem dX3_goOn_28 : decode cX3_goOn 28 = .ok (.aload_n 0, 1) := by decide +kernel
theorem dX3_goOn_29 : decode cX3_goOn 29 = .ok (.getfield 21, 3) := by decide +kernel
theorem dX3_goOn_32 : decode cX3_goOn 32 = .ok (.invokevirtual 100, 3) := by decide +kernel
theorem dX3_goOn_35 : decode cX3_goOn 35 = .ok (.ifCond .eq 9, 3) := by decide +kernel
theorem dX3_goOn_38 : decode cX3_goOn 38 = .ok (.iinc 2 1, 3) := by decide +kernel
theorem dX3_goOn_41 : decode cX3_goOn 41 = .ok (.goto (-28), 3) := by decide +kernel
theorem dX3_goOn_44 : decode cX3_goOn 44 = .ok (.iload_n 2, 1) := by decide +kernel
theorem dX3_goOn_45 : decode cX3_goOn 45 = .ok (.ireturn, 1) := by decide +kernel
set_option maxRecDepth 20000 in
theorem ggX3_giveUp_X3_checkUnderway : GoodIn wsX3_giveUp wsX3_checkUnderway := goodIn_ca (goodIn_r _ [6, 7, 8, 1, 9, 10, 11, 12, 13, 14, 20, 21, 22, 23, 24, 25, 26, 27, 28, 29, 30, 31, 32, 33, 34, 35, 36, 37] (by decide +kernel) (by decide +kernel)) (goodIn_sub (fun _ h => List.mem_cons_of_mem _ (List.mem_append_right _ h)) (by decide +kernel))
set_option maxRecDepth 20000 in
theorem gX3_giveUp_X3_checkUnderway : GoodIn wsX3_giveUp (wsV RX3 93 RX3 yX3_checkUnderway wsX3_checkUnderway) := goodIn_app (goodIn_of _ (by decide +kernel)) ggX3_giveUp_X3_checkUnderway
set_option maxRecDepth 20000 in
theorem ggX3_giveUp_X0_endErrand : GoodIn wsX3_giveUp wsX0_endErrand := goodIn_r _ [18, 14, 19, 23, 24, 25, 26, 27, 28, 29, 30, 31, 32, 33, 34, 35, 36, 37] (by decide +kernel) (by decide +kernel)
set_option maxRecDepth 20000 in
theorem gX3_giveUp_X0_endErrand : GoodIn wsX3_giveUp (wsV RX3 106 RX0 yX0_endErrand wsX0_endErrand) := goodIn_app (goodIn_of _ (by decide +kernel)) ggX3_giveUp_X0_endErrand
theorem dX3_giveUp_0 : decode cX3_giveUp 0 = .ok (.aload_n 0, 1) := by decide +kernel
theorem dX3_giveUp_1 : decode cX3_giveUp 1 = .ok (.invokevirtual 93, 3) := by decide +kernel
theorem dX3_giveUp_4 : decode cX3_giveUp 4 = .ok (.aload_n 0, 1) := by decide +kernel
theorem dX3_giveUp_5 : decode cX3_giveUp 5 = .ok (.getfield 21, 3) := by decide +kernel
theorem dX3_giveUp_8 : decode cX3_giveUp 8 = .ok (.getfield 103, 3) := by decide +kernel
theorem dX3_giveUp_11 : decode cX3_giveUp 11 = .ok (.istore_n 1, 1) := by decide +kernel
theorem dX3_giveUp_12 : decode cX3_giveUp 12 = .ok (.aload_n 0, 1) := by decide +kernel
theorem dX3_giveUp_13 : decode cX3_giveUp 13 = .ok (.getfield 21, 3) := by decide +kernel
theorem dX3_giveUp_16 : decode cX3_giveUp 16 = .ok (.invokevirtual 106, 3) := by decide +kernel
theorem dX3_giveUp_19 : decode cX3_giveUp 19 = .ok (.iload_n 1, 1) := by decide +kernel
theorem dX3_giveUp_20 : decode cX3_giveUp 20 = .ok (.ireturn, 1) := by decide +kernel
set_option maxRecDepth 20000 in
theorem ggX3_sleep_X3_checkRange : GoodIn wsX3_sleep wsX3_checkRange := goodIn_ca (goodIn_r _ [6, 7, 8] (by decide +kernel) (by decide +kernel)) (goodIn_sub (fun _ h => List.mem_cons_of_mem _ (List.mem_append_right _ h)) (by decide +kernel))
set_option maxRecDepth 20000 in
theorem gX3_sleep_X3_checkRange : GoodIn wsX3_sleep (wsV RX3 48 RX3 yX3_checkRange wsX3_checkRange) := goodIn_app (goodIn_of _ (by decide +kernel)) ggX3_sleep_X3_checkRange
set_option maxRecDepth 20000 in
theorem ggX3_sleep_X2_fade : GoodIn wsX3_sleep wsX2_fade := goodIn_r _ [13, 14, 15, 16, 17, 18, 37, 38] (by decide +kernel) (by decide +kernel)
set_option maxRecDepth 20000 in
theorem gX3_sleep_X2_fade : GoodIn wsX3_sleep (wsV RX3 113 RX2 yX2_fade wsX2_fade) := goodIn_app (goodIn_of _ (by decide +kernel)) ggX3_sleep_X2_fade
theorem dX3_sleep_0 : decode cX3_sleep 0 = .ok (.aload_n 0, 1) := by decide +kernel
theorem dX3_sleep_1 : decode cX3_sleep 1 = .ok (.iload_n 1, 1) := by decide +kernel
theorem dX3_sleep_2 : decode cX3_sleep 2 = .ok (.bipush 9, 2) := by decide +kernel
theorem dX3_sleep_4 : decode cX3_sleep 4 = .ok (.invokevirtual 48, 3) := by decide +kernel
theorem dX3_sleep_7 : decode cX3_sleep 7 = .ok (.aload_n 0, 1) := by decide +kernel
theorem dX3_sleep_8 : decode cX3_sleep 8 = .ok (.getfield 21, 3) := by decide +kernel
theorem dX3_sleep_11 : decode cX3_sleep 11 = .ok (.getfield 109, 3) := by decide +kernel
theorem dX3_sleep_14 : decode cX3_sleep 14 = .ok (.iload_n 1, 1) := by decide +kernel
theorem dX3_sleep_15 : decode cX3_sleep 15 = .ok (.invokevirtual 113, 3) := by decide +kernel
theorem dX3_sleep_18 : decode cX3_sleep 18 = .ok (.ireturn, 1) := by decide +kernel
theorem dX3_places_0 : decode cX3_places 0 = .ok (.aload_n 0, 1) := by decide +kernel
theorem dX3_places_1 : decode cX3_places 1 = .ok (.getfield 12, 3) := by decide +kernel
theorem dX3_places_4 : decode cX3_places 4 = .ok (.getfield 28, 3) := by decide +kernel
theorem dX3_places_7 : decode cX3_places 7 = .ok (.ireturn, 1) := by decide +kernel
set_option maxRecDepth 20000 in
theorem ggX3_exitsOf_X3_checkPlace : GoodIn wsX3_exitsOf wsX3_checkPlace := goodIn_ca (goodIn_r _ [6, 7, 8, 1, 9, 10, 11, 12, 13, 14, 15, 16, 17, 18, 19, 20, 21, 22, 23, 24, 25] (by decide +kernel) (by decide +kernel)) (goodIn_sub (fun _ h => List.mem_cons_of_mem _ (List.mem_append_right _ h)) (by decide +kernel))
set_option maxRecDepth 20000 in
theorem gX3_exitsOf_X3_checkPlace : GoodIn wsX3_exitsOf (wsV RX3 39 RX3 yX3_checkPlace wsX3_checkPlace) := goodIn_app (goodIn_of _ (by decide +kernel)) ggX3_exitsOf_X3_checkPlace
theorem dX3_exitsOf_0 : decode cX3_exitsOf 0 = .ok (.aload_n 0, 1) := by decide +kernel
theorem dX3_exitsOf_1 : decode cX3_exitsOf 1 = .ok (.iload_n 1, 1) := by decide +kernel
theorem dX3_exitsOf_2 : decode cX3_exitsOf 2 = .ok (.invokevirtual 39, 3) := by decide +kernel
theorem dX3_exitsOf_5 : decode cX3_exitsOf 5 = .ok (.aload_n 0, 1) := by decide +kernel
theorem dX3_exitsOf_6 : decode cX3_exitsOf 6 = .ok (.getfield 12, 3) := by decide +kernel
theorem dX3_exitsOf_9 : decode cX3_exitsOf 9 = .ok (.getfield 119, 3) := by decide +kernel
theorem dX3_exitsOf_12 : decode cX3_exitsOf 12 = .ok (.iload_n 1, 1) := by decide +kernel
theorem dX3_exitsOf_13 : decode cX3_exitsOf 13 = .ok (.iaload, 1) := by decide +kernel
theorem dX3_exitsOf_14 : decode cX3_exitsOf 14 = .ok (.ireturn, 1) := by decide +kernel
set_option maxRecDepth 20000 in
theorem ggX3_leadsTo_X3_checkedEnd : GoodIn wsX3_leadsTo wsX3_checkedEnd := goodIn_ca (goodIn_r _ [6, 7, 8, 1, 9, 10, 11, 12, 13, 14, 15, 16, 17, 18, 19, 27, 28, 29, 30, 31, 32, 33, 34, 35, 36, 37] (by decide +kernel) (by decide +kernel)) (goodIn_sub (fun _ h => List.mem_cons_of_mem _ (List.mem_append_right _ h)) (by decide +kernel))
set_option maxRecDepth 20000 in
theorem gX3_leadsTo_X3_checkedEnd : GoodIn wsX3_leadsTo (wsV RX3 62 RX3 yX3_checkedEnd wsX3_checkedEnd) := goodIn_app (goodIn_of _ (by decide +kernel)) ggX3_leadsTo_X3_checkedEnd
set_option maxRecDepth 20000 in
theorem ggX3_leadsTo_X1_beyond : GoodIn wsX3_leadsTo wsX1_beyond := goodIn_r _ [23, 24, 25, 5, 26, 30, 31, 32, 33, 34, 35, 36, 37] (by decide +kernel) (by decide +kernel)
set_option maxRecDepth 20000 in
theorem gX3_leadsTo_X1_beyond : GoodIn wsX3_leadsTo (wsV RX3 123 RX1 yX1_beyond wsX1_beyond) := goodIn_app (goodIn_of _ (by decide +kernel)) ggX3_leadsTo_X1_beyond
theorem dX3_leadsTo_0 : decode cX3_leadsTo 0 = .ok (.aload_n 0, 1) := by decide +kernel
theorem dX3_leadsTo_1 : decode cX3_leadsTo 1 = .ok (.getfield 12, 3) := by decide +kernel
theorem dX3_leadsTo_4 : decode cX3_leadsTo 4 = .ok (.aload_n 0, 1) := by decide +kernel
theorem dX3_leadsTo_5 : decode cX3_leadsTo 5 = .ok (.iload_n 1, 1) := by decide +kernel
theorem dX3_leadsTo_6 : decode cX3_leadsTo 6 = .ok (.iload_n 2, 1) := by decide +kernel
theorem dX3_leadsTo_7 : decode cX3_leadsTo 7 = .ok (.invokevirtual 62, 3) := by decide +kernel
theorem dX3_leadsTo_10 : decode cX3_leadsTo 10 = .ok (.invokevirtual 123, 3) := by decide +kernel
theorem dX3_leadsTo_13 : decode cX3_leadsTo 13 = .ok (.ireturn, 1) := by decide +kernel
set_option maxRecDepth 20000 in
theorem ggX3_milesOf_X3_checkedEnd : GoodIn wsX3_milesOf wsX3_checkedEnd := goodIn_ca (goodIn_r _ [6, 7, 8, 1, 9, 10, 11, 12, 13, 14, 15, 16, 17, 18, 19, 27, 28, 29, 30, 31, 32, 33, 34, 35, 36, 37] (by decide +kernel) (by decide +kernel)) (goodIn_sub (fun _ h => List.mem_cons_of_mem _ (List.mem_append_right _ h)) (by decide +kernel))
set_option maxRecDepth 20000 in
theorem gX3_milesOf_X3_checkedEnd : GoodIn wsX3_milesOf (wsV RX3 62 RX3 yX3_checkedEnd wsX3_checkedEnd) := goodIn_app (goodIn_of _ (by decide +kernel)) ggX3_milesOf_X3_checkedEnd
set_option maxRecDepth 20000 in
theorem ggX3_milesOf_X1_milesAt : GoodIn wsX3_milesOf wsX1_milesAt := goodIn_r _ [23, 24, 25, 5, 26, 30, 31, 32, 33, 34, 35, 36, 37] (by decide +kernel) (by decide +kernel)
set_option maxRecDepth 20000 in
theorem gX3_milesOf_X1_milesAt : GoodIn wsX3_milesOf (wsV RX3 126 RX1 yX1_milesAt wsX1_milesAt) := goodIn_app (goodIn_of _ (by decide +kernel)) ggX3_milesOf_X1_milesAt
theorem dX3_milesOf_0 : decode cX3_milesOf 0 = .ok (.aload_n 0, 1) := by decide +kernel
theorem dX3_milesOf_1 : decode cX3_milesOf 1 = .ok (.getfield 12, 3) := by decide +kernel
theorem dX3_milesOf_4 : decode cX3_milesOf 4 = .ok (.aload_n 0, 1) := by decide +kernel
theorem dX3_milesOf_5 : decode cX3_milesOf 5 = .ok (.iload_n 1, 1) := by decide +kernel
theorem dX3_milesOf_6 : decode cX3_milesOf 6 = .ok (.iload_n 2, 1) := by decide +kernel
theorem dX3_milesOf_7 : decode cX3_milesOf 7 = .ok (.invokevirtual 62, 3) := by decide +kernel
theorem dX3_milesOf_10 : decode cX3_milesOf 10 = .ok (.invokevirtual 126, 3) := by decide +kernel
theorem dX3_milesOf_13 : decode cX3_milesOf 13 = .ok (.ireturn, 1) := by decide +kernel
set_option maxRecDepth 20000 in
theorem ggX3_isOpen_X3_checkedEnd : GoodIn wsX3_isOpen wsX3_checkedEnd := goodIn_ca (goodIn_r _ [6, 7, 8, 1, 9, 10, 11, 12, 13, 14, 15, 16, 17, 18, 19, 27, 28, 29, 30, 31, 32, 33, 34, 35, 36, 37] (by decide +kernel) (by decide +kernel)) (goodIn_sub (fun _ h => List.mem_cons_of_mem _ (List.mem_append_right _ h)) (by decide +kernel))
set_option maxRecDepth 20000 in
theorem gX3_isOpen_X3_checkedEnd : GoodIn wsX3_isOpen (wsV RX3 62 RX3 yX3_checkedEnd wsX3_checkedEnd) := goodIn_app (goodIn_of _ (by decide +kernel)) ggX3_isOpen_X3_checkedEnd
set_option maxRecDepth 20000 in
theorem ggX3_isOpen_X1_opensAt : GoodIn wsX3_isOpen wsX1_opensAt := goodIn_r _ [23, 24, 25, 5, 26, 30, 31, 32, 33, 34, 35, 36, 37] (by decide +kernel) (by decide +kernel)
set_option maxRecDepth 20000 in
theorem gX3_isOpen_X1_opensAt : GoodIn wsX3_isOpen (wsV RX3 129 RX1 yX1_opensAt wsX1_opensAt) := goodIn_app (goodIn_of _ (by decide +kernel)) ggX3_isOpen_X1_opensAt
theorem dX3_isOpen_0 : decode cX3_isOpen 0 = .ok (.aload_n 0, 1) := by decide +kernel
theorem dX3_isOpen_1 : decode cX3_isOpen 1 = .ok (.getfield 12, 3) := by decide +kernel
theorem dX3_isOpen_4 : decode cX3_isOpen 4 = .ok (.aload_n 0, 1) := by decide +kernel
theorem dX3_isOpen_5 : decode cX3_isOpen 5 = .ok (.iload_n 1, 1) := by decide +kernel
theorem dX3_isOpen_6 : decode cX3_isOpen 6 = .ok (.iload_n 2, 1) := by decide +kernel
theorem dX3_isOpen_7 : decode cX3_isOpen 7 = .ok (.invokevirtual 62, 3) := by decide +kernel
theorem dX3_isOpen_10 : decode cX3_isOpen 10 = .ok (.invokevirtual 129, 3) := by decide +kernel
theorem dX3_isOpen_13 : decode cX3_isOpen 13 = .ok (.ireturn, 1) := by decide +kernel
set_option maxRecDepth 20000 in
theorem ggX3_hasShepherd_X3_checkPlace : GoodIn wsX3_hasShepherd wsX3_checkPlace := goodIn_ca (goodIn_r _ [6, 7, 8, 1, 9, 10, 11, 12, 13, 14, 15, 16, 17, 18, 19, 20, 21, 22, 23, 24, 25] (by decide +kernel) (by decide +kernel)) (goodIn_sub (fun _ h => List.mem_cons_of_mem _ (List.mem_append_right _ h)) (by decide +kernel))
set_option maxRecDepth 20000 in
theorem gX3_hasShepherd_X3_checkPlace : GoodIn wsX3_hasShepherd (wsV RX3 39 RX3 yX3_checkPlace wsX3_checkPlace) := goodIn_app (goodIn_of _ (by decide +kernel)) ggX3_hasShepherd_X3_checkPlace
theorem dX3_hasShepherd_0 : decode cX3_hasShepherd 0 = .ok (.aload_n 0, 1) := by decide +kernel
theorem dX3_hasShepherd_1 : decode cX3_hasShepherd 1 = .ok (.iload_n 1, 1) := by decide +kernel
theorem dX3_hasShepherd_2 : decode cX3_hasShepherd 2 = .ok (.invokevirtual 39, 3) := by decide +kernel
theorem dX3_hasShepherd_5 : decode cX3_hasShepherd 5 = .ok (.aload_n 0, 1) := by decide +kernel
theorem dX3_hasShepherd_6 : decode cX3_hasShepherd 6 = .ok (.getfield 12, 3) := by decide +kernel
theorem dX3_hasShepherd_9 : decode cX3_hasShepherd 9 = .ok (.getfield 69, 3) := by decide +kernel
theorem dX3_hasShepherd_12 : decode cX3_hasShepherd 12 = .ok (.iload_n 1, 1) := by decide +kernel
theorem dX3_hasShepherd_13 : decode cX3_hasShepherd 13 = .ok (.baload, 1) := by decide +kernel
theorem dX3_hasShepherd_14 : decode cX3_hasShepherd 14 = .ok (.ireturn, 1) := by decide +kernel
set_option maxRecDepth 20000 in
theorem ggX3_distance_X3_checkPlace : GoodIn wsX3_distance wsX3_checkPlace := goodIn_ca (goodIn_r _ [6, 7, 8, 1, 9, 10, 11, 12, 13, 14, 39, 40, 41, 42, 43, 44, 45, 46, 47, 48, 49] (by decide +kernel) (by decide +kernel)) (goodIn_sub (fun _ h => List.mem_cons_of_mem _ (List.mem_append_right _ h)) (by decide +kernel))
set_option maxRecDepth 20000 in
theorem gX3_distance_X3_checkPlace : GoodIn wsX3_distance (wsV RX3 39 RX3 yX3_checkPlace wsX3_checkPlace) := goodIn_app (goodIn_of _ (by decide +kernel)) ggX3_distance_X3_checkPlace
set_option maxRecDepth 20000 in
theorem ggX3_distance_X1_shortest : GoodIn wsX3_distance wsX1_shortest := goodIn_r _ [18, 19, 20, 21, 22, 23, 12, 24, 25, 26, 27, 28, 29, 10, 11, 13, 14, 30, 31, 32, 33, 34, 35, 36, 37, 5, 38, 42, 43, 44, 45, 46, 47, 48, 49] (by decide +kernel) (by decide +kernel)
set_option maxRecDepth 20000 in
theorem gX3_distance_X1_shortest : GoodIn wsX3_distance (wsV RX3 87 RX1 yX1_shortest wsX1_shortest) := goodIn_app (goodIn_of _ (by decide +kernel)) ggX3_distance_X1_shortest
theorem dX3_distance_0 : decode cX3_distance 0 = .ok (.aload_n 0, 1) := by decide +kernel
theorem dX3_distance_1 : decode cX3_distance 1 = .ok (.iload_n 1, 1) := by decide +kernel
theorem dX3_distance_2 : decode cX3_distance 2 = .ok (.invokevirtual 39, 3) := by decide +kernel
theorem dX3_distance_5 : decode cX3_distance 5 = .ok (.aload_n 0, 1) := by decide +kernel
theorem dX3_distance_6 : decode cX3_distance 6 = .ok (.iload_n 2, 1) := by decide +kernel
theorem dX3_distance_7 : decode cX3_distance 7 = .ok (.invokevirtual 39, 3) := by decide +kernel
theorem dX3_distance_10 : decode cX3_distance 10 = .ok (.aload_n 0, 1) := by decide +kernel
theorem dX3_distance_11 : decode cX3_distance 11 = .ok (.getfield 12, 3) := by decide +kernel
theorem dX3_distance_14 : decode cX3_distance 14 = .ok (.iload_n 1, 1) := by decide +kernel
theorem dX3_distance_15 : decode cX3_distance 15 = .ok (.iload_n 2, 1) := by decide +kernel
theorem dX3_distance_16 : decode cX3_distance 16 = .ok (.invokevirtual 87, 3) := by decide +kernel
theorem dX3_distance_19 : decode cX3_distance 19 = .ok (.ireturn, 1) := by decide +kernel
theorem dX3_whereIs_0 : decode cX3_whereIs 0 = .ok (.aload_n 0, 1) := by decide +kernel
theorem dX3_whereIs_1 : decode cX3_whereIs 1 = .ok (.getfield 12, 3) := by decide +kernel
theorem dX3_whereIs_4 : decode cX3_whereIs 4 = .ok (.getfield 28, 3) := by decide +kernel
theorem dX3_whereIs_7 : decode cX3_whereIs 7 = .ok (.ifCond .ne 7, 3) := by decide +kernel
theorem dX3_whereIs_10 : decode cX3_whereIs 10 = .ok (.iconst (-1), 1) := by decide +kernel
theorem dX3_whereIs_11 : decode cX3_whereIs 11 = .ok (.goto 10, 3) := by decide +kernel
theorem dX3_whereIs_14 : decode cX3_whereIs 14 = .ok (.aload_n 0, 1) := by decide +kernel
theorem dX3_whereIs_15 : decode cX3_whereIs 15 = .ok (.getfield 21, 3) := by decide +kernel
theorem dX3_whereIs_18 : decode cX3_whereIs 18 = .ok (.getfield 84, 3) := by decide +kernel
theorem dX3_whereIs_21 : decode cX3_whereIs 21 = .ok (.ireturn, 1) := by decide +kernel
theorem dX3_coins_0 : decode cX3_coins 0 = .ok (.aload_n 0, 1) := by decide +kernel
theorem dX3_coins_1 : decode cX3_coins 1 = .ok (.getfield 21, 3) := by decide +kernel
theorem dX3_coins_4 : decode cX3_coins 4 = .ok (.getfield 73, 3) := by decide +kernel
theorem dX3_coins_7 : decode cX3_coins 7 = .ok (.ireturn, 1) := by decide +kernel
theorem dX3_goal_0 : decode cX3_goal 0 = .ok (.aload_n 0, 1) := by decide +kernel
theorem dX3_goal_1 : decode cX3_goal 1 = .ok (.getfield 21, 3) := by decide +kernel
theorem dX3_goal_4 : decode cX3_goal 4 = .ok (.getfield 132, 3) := by decide +kernel
theorem dX3_goal_7 : decode cX3_goal 7 = .ok (.ireturn, 1) := by decide +kernel
theorem dX3_wayLength_0 : decode cX3_wayLength 0 = .ok (.aload_n 0, 1) := by decide +kernel
theorem dX3_wayLength_1 : decode cX3_wayLength 1 = .ok (.getfield 21, 3) := by decide +kernel
theorem dX3_wayLength_4 : decode cX3_wayLength 4 = .ok (.getfield 103, 3) := by decide +kernel
theorem dX3_wayLength_7 : decode cX3_wayLength 7 = .ok (.ireturn, 1) := by decide +kernel
set_option maxRecDepth 20000 in
theorem ggX3_isTried_X3_checkedEnd : GoodIn wsX3_isTried wsX3_checkedEnd := goodIn_ca (goodIn_r _ [6, 7, 8, 9, 10, 11, 12, 13, 14, 15, 16, 17, 18, 19, 20, 34, 35, 36, 37, 38, 39, 40, 41, 42, 43, 44] (by decide +kernel) (by decide +kernel)) (goodIn_sub (fun _ h => List.mem_cons_of_mem _ (List.mem_append_right _ h)) (by decide +kernel))
set_option maxRecDepth 20000 in
theorem gX3_isTried_X3_checkedEnd : GoodIn wsX3_isTried (wsV RX3 62 RX3 yX3_checkedEnd wsX3_checkedEnd) := goodIn_app (goodIn_of _ (by decide +kernel)) ggX3_isTried_X3_checkedEnd
set_option maxRecDepth 20000 in
theorem ggX3_isTried_X0_isUnderway : GoodIn wsX3_isTried wsX0_isUnderway := goodIn_r _ [25, 26, 45, 46, 47, 48, 49, 50, 51, 52, 53, 54, 55, 56, 57, 58, 59] (by decide +kernel) (by decide +kernel)
set_option maxRecDepth 20000 in
theorem gX3_isTried_X0_isUnderway : GoodIn wsX3_isTried (wsV RX3 96 RX0 yX0_isUnderway wsX0_isUnderway) := goodIn_app (goodIn_of _ (by decide +kernel)) ggX3_isTried_X0_isUnderway
set_option maxRecDepth 20000 in
theorem ggX3_isTried_X0_hasTried : GoodIn wsX3_isTried wsX0_hasTried := goodIn_r _ [30, 31, 32, 5, 33, 45, 46, 47, 48, 49, 50, 51, 52, 53, 54, 55, 56, 57, 58, 59] (by decide +kernel) (by decide +kernel)
set_option maxRecDepth 20000 in
theorem gX3_isTried_X0_hasTried : GoodIn wsX3_isTried (wsV RX3 135 RX0 yX0_hasTried wsX0_hasTried) := goodIn_app (goodIn_of _ (by decide +kernel)) ggX3_isTried_X0_hasTried
theorem dX3_isTried_0 : decode cX3_isTried 0 = .ok (.aload_n 0, 1) := by decide +kernel
theorem dX3_isTried_1 : decode cX3_isTried 1 = .ok (.iload_n 1, 1) := by decide +kernel
theorem dX3_isTried_2 : decode cX3_isTried 2 = .ok (.iload_n 2, 1) := by decide +kernel
theorem dX3_isTried_3 : decode cX3_isTried 3 = .ok (.invokevirtual 62, 3) := by decide +kernel
theorem dX3_isTried_6 : decode cX3_isTried 6 = .ok (.istore_n 3, 1) := by decide +kernel
theorem dX3_isTried_7 : decode cX3_isTried 7 = .ok (.aload_n 0, 1) := by decide +kernel
theorem dX3_isTried_8 : decode cX3_isTried 8 = .ok (.getfield 21, 3) := by decide +kernel
theorem dX3_isTried_11 : decode cX3_isTried 11 = .ok (.invokevirtual 96, 3) := by decide +kernel
theorem dX3_isTried_14 : decode cX3_isTried 14 = .ok (.ifCond .eq 18, 3) := by decide +kernel
theorem dX3_isTried_17 : decode cX3_isTried 17 = .ok (.aload_n 0, 1) := by decide +kernel
theorem dX3_isTried_18 : decode cX3_isTried 18 = .ok (.getfield 21, 3) := by decide +kernel
theorem dX3_isTried_21 : decode cX3_isTried 21 = .ok (.iload_n 3, 1) := by decide +kernel
theorem dX3_isTried_22 : decode cX3_isTried 22 = .ok (.invokevirtual 135, 3) := by decide +kernel
theorem dX3_isTried_25 : decode cX3_isTried 25 = .ok (.ifCond .eq 7, 3) := by decide +kernel
theorem dX3_isTried_28 : decode cX3_isTried 28 = .ok (.iconst 1, 1) := by decide +kernel
theorem dX3_isTried_29 : decode cX3_isTried 29 = .ok (.goto 4, 3) := by decide +kernel
theorem dX3_isTried_32 : decode cX3_isTried 32 = .ok (.iconst 0, 1) := by decide +kernel
theorem dX3_isTried_33 : decode cX3_isTried 33 = .ok (.ireturn, 1) := by decide +kernel
set_option maxRecDepth 20000 in
theorem ggX3_remembered_X3_checkPlace : GoodIn wsX3_remembered wsX3_checkPlace := goodIn_ca (goodIn_r _ [6, 7, 8, 9, 10, 11, 12, 13, 14, 15, 26, 27, 28, 44, 45, 46, 47, 48, 49, 50, 51] (by decide +kernel) (by decide +kernel)) (goodIn_sub (fun _ h => List.mem_cons_of_mem _ (List.mem_append_right _ h)) (by decide +kernel))
set_option maxRecDepth 20000 in
theorem gX3_remembered_X3_checkPlace : GoodIn wsX3_remembered (wsV RX3 39 RX3 yX3_checkPlace wsX3_checkPlace) := goodIn_app (goodIn_of _ (by decide +kernel)) ggX3_remembered_X3_checkPlace
set_option maxRecDepth 20000 in
theorem ggX3_remembered_X2_exitFor : GoodIn wsX3_remembered wsX2_exitFor := goodIn_r _ [20, 21, 22, 23, 24, 19, 25, 52, 53] (by decide +kernel) (by decide +kernel)
set_option maxRecDepth 20000 in
theorem gX3_remembered_X2_exitFor : GoodIn wsX3_remembered (wsV RX3 138 RX2 yX2_exitFor wsX2_exitFor) := goodIn_app (goodIn_of _ (by decide +kernel)) ggX3_remembered_X2_exitFor
theorem dX3_remembered_0 : decode cX3_remembered 0 = .ok (.aload_n 0, 1) := by decide +kernel
theorem dX3_remembered_1 : decode cX3_remembered 1 = .ok (.iload_n 1, 1) := by decide +kernel
theorem dX3_remembered_2 : decode cX3_remembered 2 = .ok (.invokevirtual 39, 3) := by decide +kernel
theorem dX3_remembered_5 : decode cX3_remembered 5 = .ok (.aload_n 0, 1) := by decide +kernel
theorem dX3_remembered_6 : decode cX3_remembered 6 = .ok (.iload_n 2, 1) := by decide +kernel
theorem dX3_remembered_7 : decode cX3_remembered 7 = .ok (.invokevirtual 39, 3) := by decide +kernel
theorem dX3_remembered_10 : decode cX3_remembered 10 = .ok (.aload_n 0, 1) := by decide +kernel
theorem dX3_remembered_11 : decode cX3_remembered 11 = .ok (.getfield 21, 3) := by decide +kernel
theorem dX3_remembered_14 : decode cX3_remembered 14 = .ok (.getfield 109, 3) := by decide +kernel
theorem dX3_remembered_17 : decode cX3_remembered 17 = .ok (.iload_n 1, 1) := by decide +kernel
theorem dX3_remembered_18 : decode cX3_remembered 18 = .ok (.iload_n 2, 1) := by decide +kernel
theorem dX3_remembered_19 : decode cX3_remembered 19 = .ok (.invokevirtual 138, 3) := by decide +kernel
theorem dX3_remembered_22 : decode cX3_remembered 22 = .ok (.ireturn, 1) := by decide +kernel
set_option maxRecDepth 20000 in
theorem ggX3_strength_X3_checkPlace : GoodIn wsX3_strength wsX3_checkPlace := goodIn_ca (goodIn_r _ [6, 7, 8, 9, 10, 11, 12, 13, 14, 15, 25, 26, 27, 43, 44, 45, 46, 47, 48, 49, 50] (by decide +kernel) (by decide +kernel)) (goodIn_sub (fun _ h => List.mem_cons_of_mem _ (List.mem_append_right _ h)) (by decide +kernel))
set_option maxRecDepth 20000 in
theorem gX3_strength_X3_checkPlace : GoodIn wsX3_strength (wsV RX3 39 RX3 yX3_checkPlace wsX3_checkPlace) := goodIn_app (goodIn_of _ (by decide +kernel)) ggX3_strength_X3_checkPlace
set_option maxRecDepth 20000 in
theorem ggX3_strength_X2_strengthFor : GoodIn wsX3_strength wsX2_strengthFor := goodIn_r _ [20, 21, 22, 23, 19, 24, 51, 52] (by decide +kernel) (by decide +kernel)
set_option maxRecDepth 20000 in
theorem gX3_strength_X2_strengthFor : GoodIn wsX3_strength (wsV RX3 141 RX2 yX2_strengthFor wsX2_strengthFor) := goodIn_app (goodIn_of _ (by decide +kernel)) ggX3_strength_X2_strengthFor
theorem dX3_strength_0 : decode cX3_strength 0 = .ok (.aload_n 0, 1) := by decide +kernel
theorem dX3_strength_1 : decode cX3_strength 1 = .ok (.iload_n 1, 1) := by decide +kernel
theorem dX3_strength_2 : decode cX3_strength 2 = .ok (.invokevirtual 39, 3) := by decide +kernel
theorem dX3_strength_5 : decode cX3_strength 5 = .ok (.aload_n 0, 1) := by decide +kernel
theorem dX3_strength_6 : decode cX3_strength 6 = .ok (.iload_n 2, 1) := by decide +kernel
theorem dX3_strength_7 : decode cX3_strength 7 = .ok (.invokevirtual 39, 3) := by decide +kernel
theorem dX3_strength_10 : decode cX3_strength 10 = .ok (.aload_n 0, 1) := by decide +kernel
theorem dX3_strength_11 : decode cX3_strength 11 = .ok (.getfield 21, 3) := by decide +kernel
theorem dX3_strength_14 : decode cX3_strength 14 = .ok (.getfield 109, 3) := by decide +kernel
theorem dX3_strength_17 : decode cX3_strength 17 = .ok (.iload_n 1, 1) := by decide +kernel
theorem dX3_strength_18 : decode cX3_strength 18 = .ok (.iload_n 2, 1) := by decide +kernel
theorem dX3_strength_19 : decode cX3_strength 19 = .ok (.invokevirtual 141, 3) := by decide +kernel
theorem dX3_strength_22 : decode cX3_strength 22 = .ok (.ireturn, 1) := by decide +kernel
set_option maxRecDepth 20000 in
theorem ggX3_knowsWay_X3_checkPlace : GoodIn wsX3_knowsWay wsX3_checkPlace := goodIn_ca (goodIn_r _ [6, 7, 8, 9, 10, 11, 12, 13, 14, 15, 52, 53, 54, 55, 56, 57, 58, 59, 60, 61, 62] (by decide +kernel) (by decide +kernel)) (goodIn_sub (fun _ h => List.mem_cons_of_mem _ (List.mem_append_right _ h)) (by decide +kernel))
set_option maxRecDepth 20000 in
theorem gX3_knowsWay_X3_checkPlace : GoodIn wsX3_knowsWay (wsV RX3 39 RX3 yX3_checkPlace wsX3_checkPlace) := goodIn_app (goodIn_of _ (by decide +kernel)) ggX3_knowsWay_X3_checkPlace
set_option maxRecDepth 20000 in
theorem ggX3_knowsWay_X0_findsByMemory : GoodIn wsX3_knowsWay wsX0_findsByMemory := goodIn_r _ [20, 21, 22, 23, 24, 25, 26, 27, 28, 29, 30, 31, 32, 33, 34, 35, 36, 13, 37, 38, 39, 11, 12, 14, 15, 40, 41, 42, 43, 44, 45, 5, 46, 47, 48, 49, 50, 51, 63, 64, 65, 66, 67, 68, 69, 70, 71, 72, 73, 74, 75, 76, 77, 78, 79, 55, 56, 57, 58, 59, 60, 61, 62] (by decide +kernel) (by decide +kernel)
set_option maxRecDepth 20000 in
theorem gX3_knowsWay_X0_findsByMemory : GoodIn wsX3_knowsWay (wsV RX3 144 RX0 yX0_findsByMemory wsX0_findsByMemory) := goodIn_app (goodIn_of _ (by decide +kernel)) ggX3_knowsWay_X0_findsByMemory
theorem dX3_knowsWay_0 : decode cX3_knowsWay 0 = .ok (.aload_n 0, 1) := by decide +kernel
theorem dX3_knowsWay_1 : decode cX3_knowsWay 1 = .ok (.iload_n 1, 1) := by decide +kernel
theorem dX3_knowsWay_2 : decode cX3_knowsWay 2 = .ok (.invokevirtual 39, 3) := by decide +kernel
theorem dX3_knowsWay_5 : decode cX3_knowsWay 5 = .ok (.aload_n 0, 1) := by decide +kernel
theorem dX3_knowsWay_6 : decode cX3_knowsWay 6 = .ok (.getfield 21, 3) := by decide +kernel
theorem dX3_knowsWay_9 : decode cX3_knowsWay 9 = .ok (.iload_n 1, 1) := by decide +kernel
theorem dX3_knowsWay_10 : decode cX3_knowsWay 10 = .ok (.invokevirtual 144, 3) := by decide +kernel
theorem dX3_knowsWay_13 : decode cX3_knowsWay 13 = .ok (.ireturn, 1) := by decide +kernel
theorem dX3_milesWalked_0 : decode cX3_milesWalked 0 = .ok (.aload_n 0, 1) := by decide +kernel
theorem dX3_milesWalked_1 : decode cX3_milesWalked 1 = .ok (.getfield 21, 3) := by decide +kernel
theorem dX3_milesWalked_4 : decode cX3_milesWalked 4 = .ok (.getfield 147, 3) := by decide +kernel
theorem dX3_milesWalked_7 : decode cX3_milesWalked 7 = .ok (.ireturn, 1) := by decide +kernel
theorem dX3_milesDoubled_0 : decode cX3_milesDoubled 0 = .ok (.aload_n 0, 1) := by decide +kernel
theorem dX3_milesDoubled_1 : decode cX3_milesDoubled 1 = .ok (.getfield 21, 3) := by decide +kernel
theorem dX3_milesDoubled_4 : decode cX3_milesDoubled 4 = .ok (.getfield 150, 3) := by decide +kernel
theorem dX3_milesDoubled_7 : decode cX3_milesDoubled 7 = .ok (.ireturn, 1) := by decide +kernel
theorem dX3_errandsDone_0 : decode cX3_errandsDone 0 = .ok (.aload_n 0, 1) := by decide +kernel
theorem dX3_errandsDone_1 : decode cX3_errandsDone 1 = .ok (.getfield 21, 3) := by decide +kernel
theorem dX3_errandsDone_4 : decode cX3_errandsDone 4 = .ok (.getfield 153, 3) := by decide +kernel
theorem dX3_errandsDone_7 : decode cX3_errandsDone 7 = .ok (.ireturn, 1) := by decide +kernel
theorem dX3_errandsInVain_0 : decode cX3_errandsInVain 0 = .ok (.aload_n 0, 1) := by decide +kernel
theorem dX3_errandsInVain_1 : decode cX3_errandsInVain 1 = .ok (.getfield 21, 3) := by decide +kernel
theorem dX3_errandsInVain_4 : decode cX3_errandsInVain 4 = .ok (.getfield 156, 3) := by decide +kernel
theorem dX3_errandsInVain_7 : decode cX3_errandsInVain 7 = .ok (.ireturn, 1) := by decide +kernel
theorem dX3_asked_0 : decode cX3_asked 0 = .ok (.aload_n 0, 1) := by decide +kernel
theorem dX3_asked_1 : decode cX3_asked 1 = .ok (.getfield 21, 3) := by decide +kernel
theorem dX3_asked_4 : decode cX3_asked 4 = .ok (.getfield 159, 3) := by decide +kernel
theorem dX3_asked_7 : decode cX3_asked 7 = .ok (.ireturn, 1) := by decide +kernel
set_option maxRecDepth 20000 in
theorem ggX3_wouldWalk_X3_checkPlace : GoodIn wsX3_wouldWalk wsX3_checkPlace := goodIn_ca (goodIn_r _ [5, 6, 7, 8, 9, 10, 11, 12, 13, 14, 168, 169, 170, 171, 172, 173, 174, 175, 176, 177, 178] (by decide +kernel) (by decide +kernel)) (goodIn_sub (fun _ h => List.mem_cons_of_mem _ (List.mem_append_left _ (List.mem_append_right _ h))) (by decide +kernel))
set_option maxRecDepth 20000 in
theorem gX3_wouldWalk_X3_checkPlace : GoodIn wsX3_wouldWalk (wsV RX3 39 RX3 yX3_checkPlace wsX3_checkPlace) := goodIn_app (goodIn_of _ (by decide +kernel)) ggX3_wouldWalk_X3_checkPlace
set_option maxRecDepth 20000 in
theorem ggX3_wouldWalk_X3_checkIdle : GoodIn wsX3_wouldWalk wsX3_checkIdle := goodIn_ca (goodIn_r _ [18, 19, 20, 21, 22, 23, 24, 25, 26, 27, 168, 169, 170, 179, 180, 181, 182, 183, 184, 185, 186, 187, 188, 189, 190, 191, 192, 193] (by decide +kernel) (by decide +kernel)) (goodIn_sub (fun _ h => List.mem_cons_of_mem _ (List.mem_append_right _ h)) (by decide +kernel))
set_option maxRecDepth 20000 in
theorem gX3_wouldWalk_X3_checkIdle : GoodIn wsX3_wouldWalk (wsV RX3 81 RX3 yX3_checkIdle wsX3_checkIdle) := goodIn_app (goodIn_of _ (by decide +kernel)) ggX3_wouldWalk_X3_checkIdle
set_option maxRecDepth 20000 in
theorem ggX3_wouldWalk_X3_trialMiles : GoodIn wsX3_wouldWalk wsX3_trialMiles := goodIn_r _ [31, 32, 21, 33, 34, 35, 25, 36, 37, 38, 39, 40, 41, 42, 43, 44, 45, 46, 47, 48, 49, 50, 51, 52, 53, 54, 55, 56, 57, 58, 59, 60, 27, 61, 62, 63, 64, 65, 66, 67, 68, 22, 23, 24, 26, 69, 70, 71, 72, 73, 74, 75, 76, 77, 78, 79, 80, 81, 82, 83, 84, 85, 86, 87, 12, 88, 89, 90, 10, 11, 13, 14, 91, 92, 93, 94, 95, 4, 96, 97, 98, 99, 100, 101, 102, 103, 104, 105, 106, 107, 108, 109, 110, 111, 112, 113, 114, 115, 116, 117, 118, 119, 120, 121, 122, 123, 124, 125, 126, 127, 128, 129, 130, 131, 132, 133, 134, 135, 136, 137, 138, 139, 140, 141, 142, 143, 144, 145, 146, 147, 148, 149, 150, 151, 152, 153, 154, 155, 156, 157, 158, 159, 160, 161, 162, 163, 164, 165, 166, 167, 168, 169, 170, 179, 180, 181, 182, 183, 184, 185, 186, 187, 188, 189, 190, 191, 192, 193, 194, 195, 171, 172, 173, 174, 175, 176, 177, 178] (by decide +kernel) (by decide +kernel)
set_option maxRecDepth 20000 in
theorem gX3_wouldWalk_X3_trialMiles : GoodIn wsX3_wouldWalk (wsV RX3 162 RX3 yX3_trialMiles wsX3_trialMiles) := goodIn_app (goodIn_of _ (by decide +kernel)) ggX3_wouldWalk_X3_trialMiles
theorem dX3_wouldWalk_0 : decode cX3_wouldWalk 0 = .ok (.aload_n 0, 1) := by decide +kernel
theorem dX3_wouldWalk_1 : decode cX3_wouldWalk 1 = .ok (.iload_n 1, 1) := by decide +kernel
theorem dX3_wouldWalk_2 : decode cX3_wouldWalk 2 = .ok (.invokevirtual 39, 3) := by decide +kernel
theorem dX3_wouldWalk_5 : decode cX3_wouldWalk 5 = .ok (.aload_n 0, 1) := by decide +kernel
theorem dX3_wouldWalk_6 : decode cX3_wouldWalk 6 = .ok (.invokevirtual 81, 3) := by decide +kernel
theorem dX3_wouldWalk_9 : decode cX3_wouldWalk 9 = .ok (.aload_n 0, 1) := by decide +kernel
theorem dX3_wouldWalk_10 : decode cX3_wouldWalk 10 = .ok (.iload_n 1, 1) := by decide +kernel
theorem dX3_wouldWalk_11 : decode cX3_wouldWalk 11 = .ok (.iconst (-1), 1) := by decide +kernel
theorem dX3_wouldWalk_12 : decode cX3_wouldWalk 12 = .ok (.invokevirtual 162, 3) := by decide +kernel
theorem dX3_wouldWalk_15 : decode cX3_wouldWalk 15 = .ok (.ireturn, 1) := by decide +kernel
set_option maxRecDepth 20000 in
theorem ggX3_bestShepherd_X3_checkPlace : GoodIn wsX3_bestShepherd wsX3_checkPlace := goodIn_ca (goodIn_r _ [6, 7, 8, 1, 9, 10, 11, 12, 13, 14, 168, 169, 170, 171, 172, 173, 174, 175, 176, 177, 178] (by decide +kernel) (by decide +kernel)) (goodIn_sub (fun _ h => List.mem_cons_of_mem _ (List.mem_append_left _ (List.mem_append_right _ h))) (by decide +kernel))
set_option maxRecDepth 20000 in
theorem gX3_bestShepherd_X3_checkPlace : GoodIn wsX3_bestShepherd (wsV RX3 39 RX3 yX3_checkPlace wsX3_checkPlace) := goodIn_app (goodIn_of _ (by decide +kernel)) ggX3_bestShepherd_X3_checkPlace
set_option maxRecDepth 20000 in
theorem ggX3_bestShepherd_X3_checkIdle : GoodIn wsX3_bestShepherd wsX3_checkIdle := goodIn_ca (goodIn_r _ [18, 19, 20, 21, 22, 23, 24, 25, 26, 27, 168, 169, 170, 179, 180, 181, 182, 183, 184, 185, 186, 187, 188, 189, 190, 191, 192, 193] (by decide +kernel) (by decide +kernel)) (goodIn_sub (fun _ h => List.mem_cons_of_mem _ (List.mem_append_right _ h)) (by decide +kernel))
set_option maxRecDepth 20000 in
theorem gX3_bestShepherd_X3_checkIdle : GoodIn wsX3_bestShepherd (wsV RX3 81 RX3 yX3_checkIdle wsX3_checkIdle) := goodIn_app (goodIn_of _ (by decide +kernel)) ggX3_bestShepherd_X3_checkIdle
set_option maxRecDepth 20000 in
theorem ggX3_bestShepherd_X3_trialMiles : GoodIn wsX3_bestShepherd wsX3_trialMiles := goodIn_r _ [31, 32, 21, 33, 34, 35, 25, 36, 37, 38, 39, 40, 41, 42, 43, 44, 45, 46, 47, 48, 49, 50, 51, 52, 53, 54, 55, 56, 57, 58, 59, 60, 27, 61, 62, 63, 64, 65, 66, 67, 68, 22, 23, 24, 26, 69, 70, 71, 72, 73, 74, 75, 76, 77, 78, 79, 80, 81, 82, 83, 84, 85, 86, 87, 12, 88, 89, 90, 10, 11, 13, 14, 91, 92, 93, 94, 95, 5, 96, 97, 98, 99, 100, 101, 102, 103, 104, 105, 106, 107, 108, 109, 110, 111, 112, 113, 114, 115, 116, 117, 118, 119, 120, 121, 122, 123, 124, 125, 126, 127, 128, 129, 130, 131, 132, 133, 134, 135, 136, 137, 138, 139, 140, 141, 142, 143, 144, 145, 146, 147, 148, 149, 150, 151, 152, 153, 154, 155, 156, 157, 158, 159, 160, 161, 162, 163, 164, 165, 166, 167, 168, 169, 170, 179, 180, 181, 182, 183, 184, 185, 186, 187, 188, 189, 190, 191, 192, 193, 194, 195, 171, 172, 173, 174, 175, 176, 177, 178] (by decide +kernel) (by decide +kernel)
set_option maxRecDepth 20000 in
theorem gX3_bestShepherd_X3_trialMiles : GoodIn wsX3_bestShepherd (wsV RX3 162 RX3 yX3_trialMiles wsX3_trialMiles) := goodIn_app (goodIn_of _ (by decide +kernel)) ggX3_bestShepherd_X3_trialMiles
theorem dX3_bestShepherd_0 : decode cX3_bestShepherd 0 = .ok (.aload_n 0, 1) := by decide +kernel
theorem dX3_bestShepherd_1 : decode cX3_bestShepherd 1 = .ok (.iload_n 1, 1) := by decide +kernel
theorem dX3_bestShepherd_2 : decode cX3_bestShepherd 2 = .ok (.invokevirtual 39, 3) := by decide +kernel
theorem dX3_bestShepherd_5 : decode cX3_bestShepherd 5 = .ok (.aload_n 0, 1) := by decide +kernel
theorem dX3_bestShepherd_6 : decode cX3_bestShepherd 6 = .ok (.invokevirtual 81, 3) := by decide +kernel
theorem dX3_bestShepherd_9 : decode cX3_bestShepherd 9 = .ok (.aload_n 0, 1) := by decide +kernel
theorem dX3_bestShepherd_10 : decode cX3_bestShepherd 10 = .ok (.iload_n 1, 1) := by decide +kernel
theorem dX3_bestShepherd_11 : decode cX3_bestShepherd 11 = .ok (.iconst (-1), 1) := by decide +kernel
theorem dX3_bestShepherd_12 : decode cX3_bestShepherd 12 = .ok (.invokevirtual 162, 3) := by decide +kernel
theorem dX3_bestShepherd_15 : decode cX3_bestShepherd 15 = .ok (.istore_n 2, 1) := by decide +kernel
theorem dX3_bestShepherd_16 : decode cX3_bestShepherd 16 = .ok (.iconst (-1), 1) := by decide +kernel
theorem dX3_bestShepherd_17 : decode cX3_bestShepherd 17 = .ok (.istore_n 3, 1) := by decide +kernel
theorem dX3_bestShepherd_18 : decode cX3_bestShepherd 18 = .ok (.iconst 0, 1) := by decide +kernel
theorem dX3_bestShepherd_19 : decode cX3_bestShepherd 19 = .ok (.istore 4, 2) := by decide +kernel
theorem dX3_bestShepherd_21 : decode cX3_bestShepherd 21 = .ok (.iload 4, 2) := by decide +kernel
theorem dX3_bestShepherd_23 : decode cX3_bestShepherd 23 = .ok (.aload_n 0, 1) := by decide +kernel
theorem dX3_bestShepherd_24 : decode cX3_bestShepherd 24 = .ok (.getfield 12, 3) := by decide +kernel
theorem dX3_bestShepherd_27 : decode cX3_bestShepherd 27 = .ok (.getfield 28, 3) := by decide +kernel
theorem dX3_bestShepherd_30 : decode cX3_bestShepherd 30 = .ok (.if_icmp .ge 58, 3) := by decide +kernel
theorem dX3_bestShepherd_33 : decode cX3_bestShepherd 33 = .ok (.aload_n 0, 1) := by decide +kernel
theorem dX3_bestShepherd_34 : decode cX3_bestShepherd 34 = .ok (.getfield 12, 3) := by decide +kernel
theorem dX3_bestShepherd_37 : decode cX3_bestShepherd 37 = .ok (.getfield 69, 3) := by decide +kernel
theorem dX3_bestShepherd_40 : decode cX3_bestShepherd 40 = .ok (.iload 4, 2) := by decide +kernel
theorem dX3_bestShepherd_42 : decode cX3_bestShepherd 42 = .ok (.baload, 1) := by decide +kernel
theorem dX3_bestShepherd_43 : decode cX3_bestShepherd 43 = .ok (.ifCond .eq 7, 3) := by decide +kernel
theorem dX3_bestShepherd_46 : decode cX3_bestShepherd 46 = .ok (.iconst (-1), 1) := by decide +kernel
theorem dX3_bestShepherd_47 : decode cX3_bestShepherd 47 = .ok (.goto 10, 3) := by decide +kernel
theorem dX3_bestShepherd_50 : decode cX3_bestShepherd 50 = .ok (.aload_n 0, 1) := by decide +kernel
theorem dX3_bestShepherd_51 : decode cX3_bestShepherd 51 = .ok (.iload_n 1, 1) := by decide +kernel
theorem dX3_bestShepherd_52 : decode cX3_bestShepherd 52 = .ok (.iload 4, 2) := by decide +kernel
theorem dX3_bestShepherd_54 : decode cX3_bestShepherd 54 = .ok (.invokevirtual 162, 3) := by decide +kernel
theorem dX3_bestShepherd_57 : decode cX3_bestShepherd 57 = .ok (.istore 5, 2) := by decide +kernel
theorem dX3_bestShepherd_59 : decode cX3_bestShepherd 59 = .ok (.iload 5, 2) := by decide +kernel
theorem dX3_bestShepherd_61 : decode cX3_bestShepherd 61 = .ok (.iconst (-1), 1) := by decide +kernel
theorem dX3_bestShepherd_62 : decode cX3_bestShepherd 62 = .ok (.if_icmp .eq 20, 3) := by decide +kernel
theorem dX3_bestShepherd_65 : decode cX3_bestShepherd 65 = .ok (.iload_n 2, 1) := by decide +kernel
theorem dX3_bestShepherd_66 : decode cX3_bestShepherd 66 = .ok (.iconst (-1), 1) := by decide +kernel
theorem dX3_bestShepherd_67 : decode cX3_bestShepherd 67 = .ok (.if_icmp .eq 9, 3) := by decide +kernel
theorem dX3_bestShepherd_70 : decode cX3_bestShepherd 70 = .ok (.iload 5, 2) := by decide +kernel
theorem dX3_bestShepherd_72 : decode cX3_bestShepherd 72 = .ok (.iload_n 2, 1) := by decide +kernel
theorem dX3_bestShepherd_73 : decode cX3_bestShepherd 73 = .ok (.if_icmp .ge 9, 3) := by decide +kernel
theorem dX3_bestShepherd_76 : decode cX3_bestShepherd 76 = .ok (.iload 5, 2) := by decide +kernel
theorem dX3_bestShepherd_78 : decode cX3_bestShepherd 78 = .ok (.istore_n 2, 1) := by decide +kernel
theorem dX3_bestShepherd_79 : decode cX3_bestShepherd 79 = .ok (.iload 4, 2) := by decide +kernel
theorem dX3_bestShepherd_81 : decode cX3_bestShepherd 81 = .ok (.istore_n 3, 1) := by decide +kernel
theorem dX3_bestShepherd_82 : decode cX3_bestShepherd 82 = .ok (.iinc 4 1, 3) := by decide +kernel
theorem dX3_bestShepherd_85 : decode cX3_bestShepherd 85 = .ok (.goto (-64), 3) := by decide +kernel
theorem dX3_bestShepherd_88 : decode cX3_bestShepherd 88 = .ok (.iload_n 3, 1) := by decide +kernel
theorem dX3_bestShepherd_89 : decode cX3_bestShepherd 89 = .ok (.ireturn, 1) := by decide +kernel
theorem dX3_meanMiles_0 : decode cX3_meanMiles 0 = .ok (.aload_n 0, 1) := by decide +kernel
theorem dX3_meanMiles_1 : decode cX3_meanMiles 1 = .ok (.getfield 21, 3) := by decide +kernel
theorem dX3_meanMiles_4 : decode cX3_meanMiles 4 = .ok (.getfield 153, 3) := by decide +kernel
theorem dX3_meanMiles_7 : decode cX3_meanMiles 7 = .ok (.aload_n 0, 1) := by decide +kernel
theorem dX3_meanMiles_8 : decode cX3_meanMiles 8 = .ok (.getfield 21, 3) := by decide +kernel
theorem dX3_meanMiles_11 : decode cX3_meanMiles 11 = .ok (.getfield 156, 3) := by decide +kernel
theorem dX3_meanMiles_14 : decode cX3_meanMiles 14 = .ok (.iadd, 1) := by decide +kernel
theorem dX3_meanMiles_15 : decode cX3_meanMiles 15 = .ok (.istore_n 1, 1) := by decide +kernel
theorem dX3_meanMiles_16 : decode cX3_meanMiles 16 = .ok (.iload_n 1, 1) := by decide +kernel
theorem dX3_meanMiles_17 : decode cX3_meanMiles 17 = .ok (.ifCond .ne 7, 3) := by decide +kernel
theorem dX3_meanMiles_20 : decode cX3_meanMiles 20 = .ok (.dconst 0, 1) := by decide +kernel
theorem dX3_meanMiles_21 : decode cX3_meanMiles 21 = .ok (.goto 14, 3) := by decide +kernel
theorem dX3_meanMiles_24 : decode cX3_meanMiles 24 = .ok (.aload_n 0, 1) := by decide +kernel
theorem dX3_meanMiles_25 : decode cX3_meanMiles 25 = .ok (.getfield 21, 3) := by decide +kernel
theorem dX3_meanMiles_28 : decode cX3_meanMiles 28 = .ok (.getfield 147, 3) := by decide +kernel
theorem dX3_meanMiles_31 : decode cX3_meanMiles 31 = .ok (.i2d, 1) := by decide +kernel
theorem dX3_meanMiles_32 : decode cX3_meanMiles 32 = .ok (.iload_n 1, 1) := by decide +kernel
theorem dX3_meanMiles_33 : decode cX3_meanMiles 33 = .ok (.i2d, 1) := by decide +kernel
theorem dX3_meanMiles_34 : decode cX3_meanMiles 34 = .ok (.ddiv, 1) := by decide +kernel
theorem dX3_meanMiles_35 : decode cX3_meanMiles 35 = .ok (.dreturn, 1) := by decide +kernel
set_option maxRecDepth 20000 in
theorem ggX3_digest_X3_places : GoodIn wsX3_digest wsX3_places := goodIn_r _ [6, 7, 156, 157, 158, 159, 160, 161, 162, 163, 164, 165, 166] (by decide +kernel) (by decide +kernel)
set_option maxRecDepth 20000 in
theorem gX3_digest_X3_places : GoodIn wsX3_digest (wsV RX3 167 RX3 yX3_places wsX3_places) := goodIn_app (goodIn_of _ (by decide +kernel)) ggX3_digest_X3_places
set_option maxRecDepth 20000 in
theorem ggX3_digest_X3_mix : GoodIn wsX3_digest wsX3_mix := goodIn_r _ [10, 11] (by decide +kernel) (by decide +kernel)
set_option maxRecDepth 20000 in
theorem gX3_digest_X3_mix : GoodIn wsX3_digest (va_wsS RX3 170 yX3_mix wsX3_mix) := goodIn_app (goodIn_of _ (by decide +kernel)) ggX3_digest_X3_mix
set_option maxRecDepth 20000 in
theorem ggX3_digest_X3_whereIs : GoodIn wsX3_digest wsX3_whereIs := goodIn_r _ [15, 7, 16, 156, 157, 158, 159, 160, 161, 162, 163, 164, 165, 166, 167, 168, 169, 170, 171, 172, 173, 174, 175, 176, 177, 178, 179, 180, 181] (by decide +kernel) (by decide +kernel)
set_option maxRecDepth 20000 in
theorem gX3_digest_X3_whereIs : GoodIn wsX3_digest (wsV RX3 174 RX3 yX3_whereIs wsX3_whereIs) := goodIn_app (goodIn_of _ (by decide +kernel)) ggX3_digest_X3_whereIs
set_option maxRecDepth 20000 in
theorem ggX3_digest_X3_coins : GoodIn wsX3_digest wsX3_coins := goodIn_r _ [20, 16, 156, 157, 158, 167, 168, 169, 170, 171, 172, 173, 174, 175, 176, 177, 178, 179, 180, 181] (by decide +kernel) (by decide +kernel)
set_option maxRecDepth 20000 in
theorem gX3_digest_X3_coins : GoodIn wsX3_digest (wsV RX3 177 RX3 yX3_coins wsX3_coins) := goodIn_app (goodIn_of _ (by decide +kernel)) ggX3_digest_X3_coins
set_option maxRecDepth 20000 in
theorem ggX3_digest_X3_goal : GoodIn wsX3_digest wsX3_goal := goodIn_r _ [24, 16, 156, 157, 158, 167, 168, 169, 170, 171, 172, 173, 174, 175, 176, 177, 178, 179, 180, 181] (by decide +kernel) (by decide +kernel)
set_option maxRecDepth 20000 in
theorem gX3_digest_X3_goal : GoodIn wsX3_digest (wsV RX3 179 RX3 yX3_goal wsX3_goal) := goodIn_app (goodIn_of _ (by decide +kernel)) ggX3_digest_X3_goal
set_option maxRecDepth 20000 in
theorem ggX3_digest_X3_wayLength : GoodIn wsX3_digest wsX3_wayLength := goodIn_r _ [28, 16, 156, 157, 158, 167, 168, 169, 170, 171, 172, 173, 174, 175, 176, 177, 178, 179, 180, 181] (by decide +kernel) (by decide +kernel)
set_option maxRecDepth 20000 in
theorem gX3_digest_X3_wayLength : GoodIn wsX3_digest (wsV RX3 181 RX3 yX3_wayLength wsX3_wayLength) := goodIn_app (goodIn_of _ (by decide +kernel)) ggX3_digest_X3_wayLength
set_option maxRecDepth 20000 in
theorem ggX3_digest_X3_milesWalked : GoodIn wsX3_digest wsX3_milesWalked := goodIn_r _ [32, 16, 156, 157, 158, 167, 168, 169, 170, 171, 172, 173, 174, 175, 176, 177, 178, 179, 180, 181] (by decide +kernel) (by decide +kernel)
set_option maxRecDepth 20000 in
theorem gX3_digest_X3_milesWalked : GoodIn wsX3_digest (wsV RX3 183 RX3 yX3_milesWalked wsX3_milesWalked) := goodIn_app (goodIn_of _ (by decide +kernel)) ggX3_digest_X3_milesWalked
set_option maxRecDepth 20000 in
theorem ggX3_digest_X3_milesDoubled : GoodIn wsX3_digest wsX3_milesDoubled := goodIn_r _ [36, 16, 156, 157, 158, 167, 168, 169, 170, 171, 172, 173, 174, 175, 176, 177, 178, 179, 180, 181] (by decide +kernel) (by decide +kernel)
set_option maxRecDepth 20000 in
theorem gX3_digest_X3_milesDoubled : GoodIn wsX3_digest (wsV RX3 186 RX3 yX3_milesDoubled wsX3_milesDoubled) := goodIn_app (goodIn_of _ (by decide +kernel)) ggX3_digest_X3_milesDoubled
set_option maxRecDepth 20000 in
theorem ggX3_digest_X3_errandsDone : GoodIn wsX3_digest wsX3_errandsDone := goodIn_r _ [40, 16, 156, 157, 158, 167, 168, 169, 170, 171, 172, 173, 174, 175, 176, 177, 178, 179, 180, 181] (by decide +kernel) (by decide +kernel)
set_option maxRecDepth 20000 in
theorem gX3_digest_X3_errandsDone : GoodIn wsX3_digest (wsV RX3 189 RX3 yX3_errandsDone wsX3_errandsDone) := goodIn_app (goodIn_of _ (by decide +kernel)) ggX3_digest_X3_errandsDone
set_option maxRecDepth 20000 in
theorem ggX3_digest_X3_errandsInVain : GoodIn wsX3_digest wsX3_errandsInVain := goodIn_r _ [44, 16, 156, 157, 158, 167, 168, 169, 170, 171, 172, 173, 174, 175, 176, 177, 178, 179, 180, 181] (by decide +kernel) (by decide +kernel)
set_option maxRecDepth 20000 in
theorem gX3_digest_X3_errandsInVain : GoodIn wsX3_digest (wsV RX3 192 RX3 yX3_errandsInVain wsX3_errandsInVain) := goodIn_app (goodIn_of _ (by decide +kernel)) ggX3_digest_X3_errandsInVain
set_option maxRecDepth 20000 in
theorem ggX3_digest_X3_asked : GoodIn wsX3_digest wsX3_asked := goodIn_r _ [48, 16, 156, 157, 158, 167, 168, 169, 170, 171, 172, 173, 174, 175, 176, 177, 178, 179, 180, 181] (by decide +kernel) (by decide +kernel)
set_option maxRecDepth 20000 in
theorem gX3_digest_X3_asked : GoodIn wsX3_digest (wsV RX3 195 RX3 yX3_asked wsX3_asked) := goodIn_app (goodIn_of _ (by decide +kernel)) ggX3_digest_X3_asked
set_option maxRecDepth 20000 in
theorem ggX3_digest_X3_mixPlaces : GoodIn wsX3_digest wsX3_mixPlaces := goodIn_ca (goodIn_r _ [52, 7, 53, 54, 55, 5, 56, 57, 58, 59, 60, 61, 62, 63, 64, 65, 66, 67, 68, 69, 70, 71, 8, 9, 10, 11, 72, 73, 74, 75, 76, 77, 78, 79, 80, 81, 82, 83, 84, 85, 86, 87, 88, 89, 90, 91, 92, 93, 94, 95, 96, 97, 98, 99, 100, 101, 102, 103, 104, 105, 106, 107, 108, 109, 110, 111, 112, 113, 114, 115, 116, 117, 118, 16, 119, 120, 121, 122, 123, 124, 125, 126, 127, 128, 129, 156, 157, 158, 159, 160, 161, 162, 163, 164, 165, 166, 167, 168, 169, 170, 171, 172, 173, 174, 175, 176, 177, 178, 179, 180, 181] (by decide +kernel) (by decide +kernel)) (goodIn_sub (fun _ h => List.mem_cons_of_mem _ (List.mem_append_right _ h)) (by decide +kernel))
set_option maxRecDepth 20000 in
theorem gX3_digest_X3_mixPlaces : GoodIn wsX3_digest (wsV RX3 198 RX3 yX3_mixPlaces wsX3_mixPlaces) := goodIn_app (goodIn_of _ (by decide +kernel)) ggX3_digest_X3_mixPlaces
set_option maxRecDepth 20000 in
theorem ggX3_digest_X3_mixMemory : GoodIn wsX3_digest wsX3_mixMemory := goodIn_ca (goodIn_r _ [133, 7, 134, 135, 136, 5, 137, 16, 57, 58, 59, 60, 61, 62, 63, 64, 65, 66, 67, 68, 138, 139, 140, 141, 142, 143, 144, 145, 146, 147, 8, 9, 10, 11, 148, 149, 150, 151, 152, 153, 154, 155, 156, 157, 158, 159, 160, 161, 162, 163, 164, 165, 166, 167, 168, 169, 170, 171, 172, 173, 174, 175, 176, 177, 178, 179, 180, 181, 182, 183] (by decide +kernel) (by decide +kernel)) (goodIn_sub (fun _ h => List.mem_cons_of_mem _ (List.mem_append_right _ h)) (by decide +kernel))
set_option maxRecDepth 20000 in
theorem gX3_digest_X3_mixMemory : GoodIn wsX3_digest (wsV RX3 202 RX3 yX3_mixMemory wsX3_mixMemory) := goodIn_app (goodIn_of _ (by decide +kernel)) ggX3_digest_X3_mixMemory
theorem dX3_digest_0 : decode cX3_digest 0 = .ok (.ldc2_w 165, 3) := by decide +kernel
theorem dX3_digest_3 : decode cX3_digest 3 = .ok (.lstore_n 1, 1) := by decide +kernel
theorem dX3_digest_4 : decode cX3_digest 4 = .ok (.lload_n 1, 1) := by decide +kernel
theorem dX3_digest_5 : decode cX3_digest 5 = .ok (.aload_n 0, 1) := by decide +kernel
theorem dX3_digest_6 : decode cX3_digest 6 = .ok (.invokevirtual 167, 3) := by decide +kernel
theorem dX3_digest_9 : decode cX3_digest 9 = .ok (.i2l, 1) := by decide +kernel
theorem dX3_digest_10 : decode cX3_digest 10 = .ok (.invokestatic 170, 3) := by decide +kernel
theorem dX3_digest_13 : decode cX3_digest 13 = .ok (.lstore_n 1, 1) := by decide +kernel
theorem dX3_digest_14 : decode cX3_digest 14 = .ok (.lload_n 1, 1) := by decide +kernel
theorem dX3_digest_15 : decode cX3_digest 15 = .ok (.aload_n 0, 1) := by decide +kernel
theorem dX3_digest_16 : decode cX3_digest 16 = .ok (.invokevirtual 174, 3) := by decide +kernel
theorem dX3_digest_19 : decode cX3_digest 19 = .ok (.i2l, 1) := by decide +kernel
theorem dX3_digest_20 : decode cX3_digest 20 = .ok (.invokestatic 170, 3) := by decide +kernel
theorem dX3_digest_23 : decode cX3_digest 23 = .ok (.lstore_n 1, 1) := by decide +kernel
theorem dX3_digest_24 : decode cX3_digest 24 = .ok (.lload_n 1, 1) := by decide +kernel
theorem dX3_digest_25 : decode cX3_digest 25 = .ok (.aload_n 0, 1) := by decide +kernel
theorem dX3_digest_26 : decode cX3_digest 26 = .ok (.invokevirtual 177, 3) := by decide +kernel
theorem dX3_digest_29 : decode cX3_digest 29 = .ok (.i2l, 1) := by decide +kernel
theorem dX3_digest_30 : decode cX3_digest 30 = .ok (.invokestatic 170, 3) := by decide +kernel
theorem dX3_digest_33 : decode cX3_digest 33 = .ok (.lstore_n 1, 1) := by decide +kernel
theorem dX3_digest_34 : decode cX3_digest 34 = .ok (.lload_n 1, 1) := by decide +kernel
theorem dX3_digest_35 : decode cX3_digest 35 = .ok (.aload_n 0, 1) := by decide +kernel
theorem dX3_digest_36 : decode cX3_digest 36 = .ok (.invokevirtual 179, 3) := by decide +kernel
theorem dX3_digest_39 : decode cX3_digest 39 = .ok (.i2l, 1) := by decide +kernel
theorem dX3_digest_40 : decode cX3_digest 40 = .ok (.invokestatic 170, 3) := by decide +kernel
theorem dX3_digest_43 : decode cX3_digest 43 = .ok (.lstore_n 1, 1) := by decide +kernel
theorem dX3_digest_44 : decode cX3_digest 44 = .ok (.lload_n 1, 1) := by decide +kernel
theorem dX3_digest_45 : decode cX3_digest 45 = .ok (.aload_n 0, 1) := by decide +kernel
theorem dX3_digest_46 : decode cX3_digest 46 = .ok (.invokevirtual 181, 3) := by decide +kernel
theorem dX3_digest_49 : decode cX3_digest 49 = .ok (.i2l, 1) := by decide +kernel
theorem dX3_digest_50 : decode cX3_digest 50 = .ok (.invokestatic 170, 3) := by decide +kernel
theorem dX3_digest_53 : decode cX3_digest 53 = .ok (.lstore_n 1, 1) := by decide +kernel
theorem dX3_digest_54 : decode cX3_digest 54 = .ok (.lload_n 1, 1) := by decide +kernel
theorem dX3_digest_55 : decode cX3_digest 55 = .ok (.aload_n 0, 1) := by decide +kernel
theorem dX3_digest_56 : decode cX3_digest 56 = .ok (.invokevirtual 183, 3) := by decide +kernel
theorem dX3_digest_59 : decode cX3_digest 59 = .ok (.i2l, 1) := by decide +kernel
theorem dX3_digest_60 : decode cX3_digest 60 = .ok (.invokestatic 170, 3) := by decide +kernel
theorem dX3_digest_63 : decode cX3_digest 63 = .ok (.lstore_n 1, 1) := by decide +kernel
theorem dX3_digest_64 : decode cX3_digest 64 = .ok (.lload_n 1, 1) := by decide +kernel
theorem dX3_digest_65 : decode cX3_digest 65 = .ok (.aload_n 0, 1) := by decide +kernel
theorem dX3_digest_66 : decode cX3_digest 66 = .ok (.invokevirtual 186, 3) := by decide +kernel
theorem dX3_digest_69 : decode cX3_digest 69 = .ok (.i2l, 1) := by decide +kernel
theorem dX3_digest_70 : decode cX3_digest 70 = .ok (.invokestatic 170, 3) := by decide +kernel
theorem dX3_digest_73 : decode cX3_digest 73 = .ok (.lstore_n 1, 1) := by decide +kernel
theorem dX3_digest_74 : decode cX3_digest 74 = .ok (.lload_n 1, 1) := by decide +kernel
theorem dX3_digest_75 : decode cX3_digest 75 = .ok (.aload_n 0, 1) := by decide +kernel
theorem dX3_digest_76 : decode cX3_digest 76 = .ok (.invokevirtual 189, 3) := by decide +kernel
theorem dX3_digest_79 : decode cX3_digest 79 = .ok (.i2l, 1) := by decide +kernel
theorem dX3_digest_80 : decode cX3_digest 80 = .ok (.invokestatic 170, 3) := by decide +kernel
theorem dX3_digest_83 : decode cX3_digest 83 = .ok (.lstore_n 1, 1) := by decide +kernel
theorem dX3_digest_84 : decode cX3_digest 84 = .ok (.lload_n 1, 1) := by decide +kernel
theorem dX3_digest_85 : decode cX3_digest 85 = .ok (.aload_n 0, 1) := by decide +kernel
theorem dX3_digest_86 : decode cX3_digest 86 = .ok (.invokevirtual 192, 3) := by decide +kernel
theorem dX3_digest_89 : decode cX3_digest 89 = .ok (.i2l, 1) := by decide +kernel
theorem dX3_digest_90 : decode cX3_digest 90 = .ok (.invokestatic 170, 3) := by decide +kernel
theorem dX3_digest_93 : decode cX3_digest 93 = .ok (.lstore_n 1, 1) := by decide +kernel
theorem dX3_digest_94 : decode cX3_digest 94 = .ok (.lload_n 1, 1) := by decide +kernel
theorem dX3_digest_95 : decode cX3_digest 95 = .ok (.aload_n 0, 1) := by decide +kernel
theorem dX3_digest_96 : decode cX3_digest 96 = .ok (.invokevirtual 195, 3) := by decide +kernel
theorem dX3_digest_99 : decode cX3_digest 99 = .ok (.i2l, 1) := by decide +kernel
theorem dX3_digest_100 : decode cX3_digest 100 = .ok (.invokestatic 170, 3) := by decide +kernel
theorem dX3_digest_103 : decode cX3_digest 103 = .ok (.lstore_n 1, 1) := by decide +kernel
theorem dX3_digest_104 : decode cX3_digest 104 = .ok (.aload_n 0, 1) := by decide +kernel
theorem dX3_digest_105 : decode cX3_digest 105 = .ok (.aload_n 0, 1) := by decide +kernel
theorem dX3_digest_106 : decode cX3_digest 106 = .ok (.lload_n 1, 1) := by decide +kernel
theorem dX3_digest_107 : decode cX3_digest 107 = .ok (.invokevirtual 198, 3) := by decide +kernel
theorem dX3_digest_110 : decode cX3_digest 110 = .ok (.invokevirtual 202, 3) := by decide +kernel
theorem dX3_digest_113 : decode cX3_digest 113 = .ok (.lreturn, 1) := by decide +kernel
set_option maxRecDepth 20000 in
theorem ggX3_checkPlace_X1_isPlace : GoodIn wsX3_checkPlace wsX1_isPlace := goodIn_r _ [8, 9, 13, 14, 15, 16, 17, 18, 19, 20] (by decide +kernel) (by decide +kernel)
set_option maxRecDepth 20000 in
theorem gX3_checkPlace_X1_isPlace : GoodIn wsX3_checkPlace (wsV RX3 205 RX1 yX1_isPlace wsX1_isPlace) := goodIn_app (goodIn_of _ (by decide +kernel)) ggX3_checkPlace_X1_isPlace
theorem dX3_checkPlace_0 : decode cX3_checkPlace 0 = .ok (.aload_n 0, 1) := by decide +kernel
theorem dX3_checkPlace_1 : decode cX3_checkPlace 1 = .ok (.getfield 12, 3) := by decide +kernel
theorem dX3_checkPlace_4 : decode cX3_checkPlace 4 = .ok (.iload_n 1, 1) := by decide +kernel
theorem dX3_checkPlace_5 : decode cX3_checkPlace 5 = .ok (.invokevirtual 205, 3) := by decide +kernel
theorem dX3_checkPlace_8 : decode cX3_checkPlace 8 = .ok (.ifCond .ne 13, 3) := by decide +kernel
theorem dX3_checkPlace_11 : decode cX3_checkPlace 11 = .ok (.new 208, 3) := by decide +kernel
theorem dX3_checkPlace_14 : decode cX3_checkPlace 14 = .ok (.dup, 1) := by decide +kernel
theorem dX3_checkPlace_15 : decode cX3_checkPlace 15 = .ok (.ldc 210, 2) := by decide +kernel
theorem dX3_checkPlace_17 : decode cX3_checkPlace 17 = .ok (.invokespecial 212, 3) := by decide +kernel
theorem dX3_checkPlace_20 : decode cX3_checkPlace 20 = .ok (.athrow, 1) := by decide +kernel
theorem dX3_checkPlace_21 : decode cX3_checkPlace 21 = .ok (.return_, 1) := by decide +kernel
set_option maxRecDepth 20000 in
theorem ggX3_checkedEnd_X1_endAt : GoodIn wsX3_checkedEnd wsX1_endAt := goodIn_r _ [8, 9, 10, 11, 12, 7, 13, 14, 18, 19, 20, 21, 22, 23, 24, 25] (by decide +kernel) (by decide +kernel)
set_option maxRecDepth 20000 in
theorem gX3_checkedEnd_X1_endAt : GoodIn wsX3_checkedEnd (wsV RX3 213 RX1 yX1_endAt wsX1_endAt) := goodIn_app (goodIn_of _ (by decide +kernel)) ggX3_checkedEnd_X1_endAt
theorem dX3_checkedEnd_0 : decode cX3_checkedEnd 0 = .ok (.aload_n 0, 1) := by decide +kernel
theorem dX3_checkedEnd_1 : decode cX3_checkedEnd 1 = .ok (.getfield 12, 3) := by decide +kernel
theorem dX3_checkedEnd_4 : decode cX3_checkedEnd 4 = .ok (.iload_n 1, 1) := by decide +kernel
theorem dX3_checkedEnd_5 : decode cX3_checkedEnd 5 = .ok (.iload_n 2, 1) := by decide +kernel
theorem dX3_checkedEnd_6 : decode cX3_checkedEnd 6 = .ok (.invokevirtual 213, 3) := by decide +kernel
theorem dX3_checkedEnd_9 : decode cX3_checkedEnd 9 = .ok (.istore_n 3, 1) := by decide +kernel
theorem dX3_checkedEnd_10 : decode cX3_checkedEnd 10 = .ok (.iload_n 3, 1) := by decide +kernel
theorem dX3_checkedEnd_11 : decode cX3_checkedEnd 11 = .ok (.iconst (-1), 1) := by decide +kernel
theorem dX3_checkedEnd_12 : decode cX3_checkedEnd 12 = .ok (.if_icmp .ne 13, 3) := by decide +kernel
theorem dX3_checkedEnd_15 : decode cX3_checkedEnd 15 = .ok (.new 208, 3) := by decide +kernel
theorem dX3_checkedEnd_18 : decode cX3_checkedEnd 18 = .ok (.dup, 1) := by decide +kernel
theorem dX3_checkedEnd_19 : decode cX3_checkedEnd 19 = .ok (.ldc 216, 2) := by decide +kernel
theorem dX3_checkedEnd_21 : decode cX3_checkedEnd 21 = .ok (.invokespecial 212, 3) := by decide +kernel
theorem dX3_checkedEnd_24 : decode cX3_checkedEnd 24 = .ok (.athrow, 1) := by decide +kernel
theorem dX3_checkedEnd_25 : decode cX3_checkedEnd 25 = .ok (.iload_n 3, 1) := by decide +kernel
theorem dX3_checkedEnd_26 : decode cX3_checkedEnd 26 = .ok (.ireturn, 1) := by decide +kernel
theorem dX3_checkRange_0 : decode cX3_checkRange 0 = .ok (.iload_n 1, 1) := by decide +kernel
theorem dX3_checkRange_1 : decode cX3_checkRange 1 = .ok (.iconst 1, 1) := by decide +kernel
theorem dX3_checkRange_2 : decode cX3_checkRange 2 = .ok (.if_icmp .lt 8, 3) := by decide +kernel
theorem dX3_checkRange_5 : decode cX3_checkRange 5 = .ok (.iload_n 1, 1) := by decide +kernel
theorem dX3_checkRange_6 : decode cX3_checkRange 6 = .ok (.iload_n 2, 1) := by decide +kernel
theorem dX3_checkRange_7 : decode cX3_checkRange 7 = .ok (.if_icmp .le 13, 3) := by decide +kernel
theorem dX3_checkRange_10 : decode cX3_checkRange 10 = .ok (.new 43, 3) := by decide +kernel
theorem dX3_checkRange_13 : decode cX3_checkRange 13 = .ok (.dup, 1) := by decide +kernel
theorem dX3_checkRange_14 : decode cX3_checkRange 14 = .ok (.ldc 218, 2) := by decide +kernel
theorem dX3_checkRange_16 : decode cX3_checkRange 16 = .ok (.invokespecial 47, 3) := by decide +kernel
theorem dX3_checkRange_19 : decode cX3_checkRange 19 = .ok (.athrow, 1) := by decide +kernel
theorem dX3_checkRange_20 : decode cX3_checkRange 20 = .ok (.return_, 1) := by decide +kernel
set_option maxRecDepth 20000 in
theorem ggX3_checkIdle_X0_isUnderway : GoodIn wsX3_checkIdle wsX0_isUnderway := goodIn_r _ [8, 9, 13, 14, 15, 16, 17, 18, 19, 20, 21, 22, 23, 24, 25, 26, 27] (by decide +kernel) (by decide +kernel)
set_option maxRecDepth 20000 in
theorem gX3_checkIdle_X0_isUnderway : GoodIn wsX3_checkIdle (wsV RX3 96 RX0 yX0_isUnderway wsX0_isUnderway) := goodIn_app (goodIn_of _ (by decide +kernel)) ggX3_checkIdle_X0_isUnderway
theorem dX3_checkIdle_0 : decode cX3_checkIdle 0 = .ok (.aload_n 0, 1) := by decide +kernel
theorem dX3_checkIdle_1 : decode cX3_checkIdle 1 = .ok (.getfield 21, 3) := by decide +kernel
theorem dX3_checkIdle_4 : decode cX3_checkIdle 4 = .ok (.invokevirtual 96, 3) := by decide +kernel
theorem dX3_checkIdle_7 : decode cX3_checkIdle 7 = .ok (.ifCond .eq 13, 3) := by decide +kernel
theorem dX3_checkIdle_10 : decode cX3_checkIdle 10 = .ok (.new 32, 3) := by decide +kernel
theorem dX3_checkIdle_13 : decode cX3_checkIdle 13 = .ok (.dup, 1) := by decide +kernel
theorem dX3_checkIdle_14 : decode cX3_checkIdle 14 = .ok (.ldc 220, 2) := by decide +kernel
theorem dX3_checkIdle_16 : decode cX3_checkIdle 16 = .ok (.invokespecial 36, 3) := by decide +kernel
theorem dX3_checkIdle_19 : decode cX3_checkIdle 19 = .ok (.athrow, 1) := by decide +kernel
theorem dX3_checkIdle_20 : decode cX3_checkIdle 20 = .ok (.return_, 1) := by decide +kernel
set_option maxRecDepth 20000 in
theorem ggX3_checkUnderway_X0_isUnderway : GoodIn wsX3_checkUnderway wsX0_isUnderway := goodIn_r _ [8, 9, 13, 14, 15, 16, 17, 18, 19, 20, 21, 22, 23, 24, 25, 26, 27] (by decide +kernel) (by decide +kernel)
set_option maxRecDepth 20000 in
theorem gX3_checkUnderway_X0_isUnderway : GoodIn wsX3_checkUnderway (wsV RX3 96 RX0 yX0_isUnderway wsX0_isUnderway) := goodIn_app (goodIn_of _ (by decide +kernel)) ggX3_checkUnderway_X0_isUnderway
theorem dX3_checkUnderway_0 : decode cX3_checkUnderway 0 = .ok (.aload_n 0, 1) := by decide +kernel
theorem dX3_checkUnderway_1 : decode cX3_checkUnderway 1 = .ok (.getfield 21, 3) := by decide +kernel
theorem dX3_checkUnderway_4 : decode cX3_checkUnderway 4 = .ok (.invokevirtual 96, 3) := by decide +kernel
theorem dX3_checkUnderway_7 : decode cX3_checkUnderway 7 = .ok (.ifCond .ne 13, 3) := by decide +kernel
theorem dX3_checkUnderway_10 : decode cX3_checkUnderway 10 = .ok (.new 32, 3) := by decide +kernel
theorem dX3_checkUnderway_13 : decode cX3_checkUnderway 13 = .ok (.dup, 1) := by decide +kernel
theorem dX3_checkUnderway_14 : decode cX3_checkUnderway 14 = .ok (.ldc 222, 2) := by decide +kernel
theorem dX3_checkUnderway_16 : decode cX3_checkUnderway 16 = .ok (.invokespecial 36, 3) := by decide +kernel
theorem dX3_checkUnderway_19 : decode cX3_checkUnderway 19 = .ok (.athrow, 1) := by decide +kernel
theorem dX3_checkUnderway_20 : decode cX3_checkUnderway 20 = .ok (.return_, 1) := by decide +kernel
set_option maxRecDepth 20000 in
theorem ggX3_trialMiles_X0_startLike : GoodIn wsX3_trialMiles wsX0_startLike := goodIn_r _ [7, 8, 9, 10, 11, 12, 13, 14, 15, 16, 17, 18, 19, 20, 21, 22, 23, 24, 153, 154, 155, 156, 157, 158, 159, 160, 161, 162, 163, 164, 165, 166, 167, 168, 169] (by decide +kernel) (by decide +kernel)
set_option maxRecDepth 20000 in
theorem gX3_trialMiles_X0_startLike : GoodIn wsX3_trialMiles (wsV RX3 224 RX0 yX0_startLike wsX0_startLike) := goodIn_app (goodIn_of _ (by decide +kernel)) ggX3_trialMiles_X0_startLike
set_option maxRecDepth 20000 in
theorem ggX3_trialMiles_X0_begin : GoodIn wsX3_trialMiles wsX0_begin := goodIn_r _ [28, 29, 30, 31, 32, 8, 33, 34, 35, 6, 36, 37, 38, 39, 40, 153, 154, 155, 156, 157, 158, 159, 160, 161, 162, 163, 164, 165, 166, 167] (by decide +kernel) (by decide +kernel)
set_option maxRecDepth 20000 in
theorem gX3_trialMiles_X0_begin : GoodIn wsX3_trialMiles (wsV RX3 90 RX0 yX0_begin wsX0_begin) := goodIn_app (goodIn_of _ (by decide +kernel)) ggX3_trialMiles_X0_begin
set_option maxRecDepth 20000 in
theorem ggX3_trialMiles_X0_isUnderway : GoodIn wsX3_trialMiles wsX0_isUnderway := goodIn_r _ [44, 32, 153, 154, 155, 156, 157, 158, 159, 160, 161, 162, 163, 164, 165, 166, 167] (by decide +kernel) (by decide +kernel)
set_option maxRecDepth 20000 in
theorem gX3_trialMiles_X0_isUnderway : GoodIn wsX3_trialMiles (wsV RX3 96 RX0 yX0_isUnderway wsX0_isUnderway) := goodIn_app (goodIn_of _ (by decide +kernel)) ggX3_trialMiles_X0_isUnderway
set_option maxRecDepth 20000 in
theorem ggX3_trialMiles_X0_step : GoodIn wsX3_trialMiles wsX0_step := goodIn_r _ [48, 31, 13, 8, 32, 33, 49, 50, 51, 6, 52, 53, 10, 54, 55, 56, 17, 57, 24, 19, 58, 59, 60, 61, 62, 63, 64, 65, 66, 67, 68, 69, 70, 71, 72, 73, 74, 75, 29, 76, 77, 78, 79, 80, 81, 82, 11, 30, 9, 83, 84, 85, 86, 87, 88, 89, 90, 91, 92, 93, 94, 95, 96, 97, 98, 99, 100, 101, 102, 103, 104, 105, 106, 107, 108, 109, 110, 111, 112, 113, 114, 115, 116, 117, 118, 119, 120, 121, 122, 12, 123, 124, 125, 126, 127, 128, 129, 130, 131, 132, 133, 134, 135, 136, 37, 38, 39, 40, 137, 138, 139, 140, 141, 142, 143, 144, 145, 146, 147, 148, 149, 153, 154, 155, 156, 157, 158, 159, 160, 161, 162, 163, 164, 165, 166, 167, 168, 169, 170, 171, 172, 173, 174, 175, 176, 177] (by decide +kernel) (by decide +kernel)
set_option maxRecDepth 20000 in
theorem gX3_trialMiles_X0_step : GoodIn wsX3_trialMiles (wsV RX3 100 RX0 yX0_step wsX0_step) := goodIn_app (goodIn_of _ (by decide +kernel)) ggX3_trialMiles_X0_step
theorem dX3_trialMiles_0 : decode cX3_trialMiles 0 = .ok (.aload_n 0, 1) := by decide +kernel
theorem dX3_trialMiles_1 : decode cX3_trialMiles 1 = .ok (.getfield 25, 3) := by decide +kernel
theorem dX3_trialMiles_4 : decode cX3_trialMiles 4 = .ok (.aload_n 0, 1) := by decide +kernel
theorem dX3_trialMiles_5 : decode cX3_trialMiles 5 = .ok (.getfield 21, 3) := by decide +kernel
theorem dX3_trialMiles_8 : decode cX3_trialMiles 8 = .ok (.iload_n 2, 1) := by decide +kernel
theorem dX3_trialMiles_9 : decode cX3_trialMiles 9 = .ok (.invokevirtual 224, 3) := by decide +kernel
theorem dX3_trialMiles_12 : decode cX3_trialMiles 12 = .ok (.aload_n 0, 1) := by decide +kernel
theorem dX3_trialMiles_13 : decode cX3_trialMiles 13 = .ok (.getfield 25, 3) := by decide +kernel
theorem dX3_trialMiles_16 : decode cX3_trialMiles 16 = .ok (.iload_n 1, 1) := by decide +kernel
theorem dX3_trialMiles_17 : decode cX3_trialMiles 17 = .ok (.invokevirtual 90, 3) := by decide +kernel
theorem dX3_trialMiles_20 : decode cX3_trialMiles 20 = .ok (.iconst 0, 1) := by decide +kernel
theorem dX3_trialMiles_21 : decode cX3_trialMiles 21 = .ok (.istore_n 3, 1) := by decide +kernel
theorem dX3_trialMiles_22 : decode cX3_trialMiles 22 = .ok (.iload_n 3, 1) := by decide +kernel
theorem dX3_trialMiles_23 : decode cX3_trialMiles 23 = .ok (.sipush 1000, 3) := by decide +kernel
theorem dX3_trialMiles_26 : decode cX3_trialMiles 26 = .ok (.if_icmp .ge 27, 3) := by decide +kernel
theorem dX3_trialMiles_29 : decode cX3_trialMiles 29 = .ok (.aload_n 0, 1) := by decide +kernel
theorem dX3_trialMiles_30 : decode cX3_trialMiles 30 = .ok (.getfield 25, 3) := by decide +kernel
theorem dX3_trialMiles_33 : decode cX3_trialMiles 33 = .ok (.invokevirtual 96, 3) := by decide +kernel
theorem dX3_trialMiles_36 : decode cX3_trialMiles 36 = .ok (.ifCond .eq 17, 3) := by decide +kernel
theorem dX3_trialMiles_39 : decode cX3_trialMiles 39 = .ok (.aload_n 0, 1) := by decide +kernel
theorem dX3_trialMiles_40 : decode cX3_trialMiles 40 = .ok (.getfield 25, 3) := by decide +kernel
theorem dX3_trialMiles_43 : decode cX3_trialMiles 43 = .ok (.invokevirtual 100, 3) := by decide +kernel
theorem dX3_trialMiles_46 : decode cX3_trialMiles 46 = .ok (.pop, 1) := by decide +kernel
theorem dX3_trialMiles_47 : decode cX3_trialMiles 47 = .ok (.iinc 3 1, 3) := by decide +kernel
theorem dX3_trialMiles_50 : decode cX3_trialMiles 50 = .ok (.goto (-28), 3) := by decide +kernel
theorem dX3_trialMiles_53 : decode cX3_trialMiles 53 = .ok (.aload_n 0, 1) := by decide +kernel
theorem dX3_trialMiles_54 : decode cX3_trialMiles 54 = .ok (.getfield 25, 3) := by decide +kernel
theorem dX3_trialMiles_57 : decode cX3_trialMiles 57 = .ok (.getfield 156, 3) := by decide +kernel
theorem dX3_trialMiles_60 : decode cX3_trialMiles 60 = .ok (.ifCond .le 7, 3) := by decide +kernel
theorem dX3_trialMiles_63 : decode cX3_trialMiles 63 = .ok (.iconst (-1), 1) := by decide +kernel
theorem dX3_trialMiles_64 : decode cX3_trialMiles 64 = .ok (.goto 10, 3) := by decide +kernel
theorem dX3_trialMiles_67 : decode cX3_trialMiles 67 = .ok (.aload_n 0, 1) := by decide +kernel
theorem dX3_trialMiles_68 : decode cX3_trialMiles 68 = .ok (.getfield 25, 3) := by decide +kernel
theorem dX3_trialMiles_71 : decode cX3_trialMiles 71 = .ok (.getfield 147, 3) := by decide +kernel
theorem dX3_trialMiles_74 : decode cX3_trialMiles 74 = .ok (.ireturn, 1) := by decide +kernel
theorem dX3_mix_0 : decode cX3_mix 0 = .ok (.lload_n 0, 1) := by decide +kernel
theorem dX3_mix_1 : decode cX3_mix 1 = .ok (.ldc2_w 228, 3) := by decide +kernel
theorem dX3_mix_4 : decode cX3_mix 4 = .ok (.lmul, 1) := by decide +kernel
theorem dX3_mix_5 : decode cX3_mix 5 = .ok (.lload_n 2, 1) := by decide +kernel
theorem dX3_mix_6 : decode cX3_mix 6 = .ok (.ladd, 1) := by decide +kernel
theorem dX3_mix_7 : decode cX3_mix 7 = .ok (.lreturn, 1) := by decide +kernel
set_option maxRecDepth 20000 in
theorem ggX3_mixFlag_X3_mix : GoodIn wsX3_mixFlag wsX3_mix := goodIn_r _ [4, 5] (by decide +kernel) (by decide +kernel)
set_option maxRecDepth 20000 in
theorem gX3_mixFlag_X3_mix : GoodIn wsX3_mixFlag (va_wsS RX3 170 yX3_mix wsX3_mix) := goodIn_app (goodIn_of _ (by decide +kernel)) ggX3_mixFlag_X3_mix
theorem dX3_mixFlag_0 : decode cX3_mixFlag 0 = .ok (.lload_n 0, 1) := by decide +kernel
theorem dX3_mixFlag_1 : decode cX3_mixFlag 1 = .ok (.iload_n 2, 1) := by decide +kernel
theorem dX3_mixFlag_2 : decode cX3_mixFlag 2 = .ok (.ifCond .eq 7, 3) := by decide +kernel
theorem dX3_mixFlag_5 : decode cX3_mixFlag 5 = .ok (.lconst 1, 1) := by decide +kernel
theorem dX3_mixFlag_6 : decode cX3_mixFlag 6 = .ok (.goto 4, 3) := by decide +kernel
theorem dX3_mixFlag_9 : decode cX3_mixFlag 9 = .ok (.lconst 0, 1) := by decide +kernel
theorem dX3_mixFlag_10 : decode cX3_mixFlag 10 = .ok (.invokestatic 170, 3) := by decide +kernel
theorem dX3_mixFlag_13 : decode cX3_mixFlag 13 = .ok (.lreturn, 1) := by decide +kernel
set_option maxRecDepth 20000 in
theorem ggX3_mixPlaces_X3_hasShepherd : GoodIn wsX3_mixPlaces wsX3_hasShepherd := goodIn_ca (goodIn_r _ [6, 1, 7, 8, 9, 5, 10, 11, 12, 13, 14, 15, 16, 17, 18, 85, 86, 87, 88, 89, 90, 91, 92, 93, 94, 95] (by decide +kernel) (by decide +kernel)) (goodIn_sub (fun _ h => List.mem_cons_of_mem _ (List.mem_append_right _ h)) (by decide +kernel))
set_option maxRecDepth 20000 in
theorem gX3_mixPlaces_X3_hasShepherd : GoodIn wsX3_mixPlaces (wsV RX3 230 RX3 yX3_hasShepherd wsX3_hasShepherd) := goodIn_app (goodIn_of _ (by decide +kernel)) ggX3_mixPlaces_X3_hasShepherd
set_option maxRecDepth 20000 in
theorem ggX3_mixPlaces_X3_mixFlag : GoodIn wsX3_mixPlaces wsX3_mixFlag := goodIn_r _ [21, 22, 23, 5, 24, 25] (by decide +kernel) (by decide +kernel)
set_option maxRecDepth 20000 in
theorem gX3_mixPlaces_X3_mixFlag : GoodIn wsX3_mixPlaces (va_wsS RX3 233 yX3_mixFlag wsX3_mixFlag) := goodIn_app (goodIn_of _ (by decide +kernel)) ggX3_mixPlaces_X3_mixFlag
set_option maxRecDepth 20000 in
theorem ggX3_mixPlaces_X3_exitsOf : GoodIn wsX3_mixPlaces wsX3_exitsOf := goodIn_ca (goodIn_r _ [29, 1, 7, 8, 9, 5, 10, 11, 12, 13, 14, 15, 16, 17, 18, 85, 86, 87, 88, 89, 90, 91, 92, 93, 94, 95] (by decide +kernel) (by decide +kernel)) (goodIn_sub (fun _ h => List.mem_cons_of_mem _ (List.mem_append_right _ h)) (by decide +kernel))
set_option maxRecDepth 20000 in
theorem gX3_mixPlaces_X3_exitsOf : GoodIn wsX3_mixPlaces (wsV RX3 237 RX3 yX3_exitsOf wsX3_exitsOf) := goodIn_app (goodIn_of _ (by decide +kernel)) ggX3_mixPlaces_X3_exitsOf
set_option maxRecDepth 20000 in
theorem ggX3_mixPlaces_X3_mix : GoodIn wsX3_mixPlaces wsX3_mix := goodIn_r _ [24, 25] (by decide +kernel) (by decide +kernel)
set_option maxRecDepth 20000 in
theorem gX3_mixPlaces_X3_mix : GoodIn wsX3_mixPlaces (va_wsS RX3 170 yX3_mix wsX3_mix) := goodIn_app (goodIn_of _ (by decide +kernel)) ggX3_mixPlaces_X3_mix
set_option maxRecDepth 20000 in
theorem ggX3_mixPlaces_X3_leadsTo : GoodIn wsX3_mixPlaces wsX3_leadsTo := goodIn_ca (goodIn_r _ [33, 1, 34, 35, 36, 5, 37, 11, 12, 38, 39, 40, 16, 41, 42, 43, 14, 15, 17, 18, 44, 45, 46, 47, 48, 49, 50, 85, 86, 87, 88, 89, 90, 91, 92, 93, 94, 95] (by decide +kernel) (by decide +kernel)) (goodIn_sub (fun _ h => List.mem_cons_of_mem _ (List.mem_append_right _ h)) (by decide +kernel))
set_option maxRecDepth 20000 in
theorem gX3_mixPlaces_X3_leadsTo : GoodIn wsX3_mixPlaces (wsV RX3 240 RX3 yX3_leadsTo wsX3_leadsTo) := goodIn_app (goodIn_of _ (by decide +kernel)) ggX3_mixPlaces_X3_leadsTo
set_option maxRecDepth 20000 in
theorem ggX3_mixPlaces_X3_milesOf : GoodIn wsX3_mixPlaces wsX3_milesOf := goodIn_ca (goodIn_r _ [54, 1, 34, 35, 36, 5, 37, 11, 12, 38, 39, 40, 16, 41, 42, 43, 14, 15, 17, 18, 55, 56, 57, 58, 59, 49, 50, 85, 86, 87, 88, 89, 90, 91, 92, 93, 94, 95] (by decide +kernel) (by decide +kernel)) (goodIn_sub (fun _ h => List.mem_cons_of_mem _ (List.mem_append_right _ h)) (by decide +kernel))
set_option maxRecDepth 20000 in
theorem gX3_mixPlaces_X3_milesOf : GoodIn wsX3_mixPlaces (wsV RX3 243 RX3 yX3_milesOf wsX3_milesOf) := goodIn_app (goodIn_of _ (by decide +kernel)) ggX3_mixPlaces_X3_milesOf
set_option maxRecDepth 20000 in
theorem ggX3_mixPlaces_X3_isOpen : GoodIn wsX3_mixPlaces wsX3_isOpen := goodIn_ca (goodIn_r _ [63, 1, 34, 35, 36, 5, 37, 11, 12, 38, 39, 40, 16, 41, 42, 43, 14, 15, 17, 18, 64, 65, 66, 67, 68, 49, 50, 85, 86, 87, 88, 89, 90, 91, 92, 93, 94, 95] (by decide +kernel) (by decide +kernel)) (goodIn_sub (fun _ h => List.mem_cons_of_mem _ (List.mem_append_right _ h)) (by decide +kernel))
set_option maxRecDepth 20000 in
theorem gX3_mixPlaces_X3_isOpen : GoodIn wsX3_mixPlaces (wsV RX3 246 RX3 yX3_isOpen wsX3_isOpen) := goodIn_app (goodIn_of _ (by decide +kernel)) ggX3_mixPlaces_X3_isOpen
set_option maxRecDepth 20000 in
theorem ggX3_mixPlaces_X3_isTried : GoodIn wsX3_mixPlaces wsX3_isTried := goodIn_ca (goodIn_r _ [72, 73, 34, 35, 36, 5, 37, 11, 12, 1, 38, 39, 40, 16, 41, 42, 43, 14, 15, 17, 18, 74, 75, 76, 77, 78, 79, 80, 81, 82, 83, 84, 49, 50, 85, 86, 87, 88, 89, 90, 91, 92, 93, 94, 95, 96, 97, 98, 99, 100, 101, 102, 103, 104, 105, 106, 107, 108, 109, 110] (by decide +kernel) (by decide +kernel)) (goodIn_sub (fun _ h => List.mem_cons_of_mem _ (List.mem_append_right _ h)) (by decide +kernel))
set_option maxRecDepth 20000 in
theorem gX3_mixPlaces_X3_isTried : GoodIn wsX3_mixPlaces (wsV RX3 250 RX3 yX3_isTried wsX3_isTried) := goodIn_app (goodIn_of _ (by decide +kernel)) ggX3_mixPlaces_X3_isTried
theorem dX3_mixPlaces_0 : decode cX3_mixPlaces 0 = .ok (.lload_n 1, 1) := by decide +kernel
theorem dX3_mixPlaces_1 : decode cX3_mixPlaces 1 = .ok (.lstore_n 3, 1) := by decide +kernel
theorem dX3_mixPlaces_2 : decode cX3_mixPlaces 2 = .ok (.iconst 0, 1) := by decide +kernel
theorem dX3_mixPlaces_3 : decode cX3_mixPlaces 3 = .ok (.istore 5, 2) := by decide +kernel
theorem dX3_mixPlaces_5 : decode cX3_mixPlaces 5 = .ok (.iload 5, 2) := by decide +kernel
theorem dX3_mixPlaces_7 : decode cX3_mixPlaces 7 = .ok (.aload_n 0, 1) := by decide +kernel
theorem dX3_mixPlaces_8 : decode cX3_mixPlaces 8 = .ok (.getfield 12, 3) := by decide +kernel
theorem dX3_mixPlaces_11 : decode cX3_mixPlaces 11 = .ok (.getfield 28, 3) := by decide +kernel
theorem dX3_mixPlaces_14 : decode cX3_mixPlaces 14 = .ok (.if_icmp .ge 106, 3) := by decide +kernel
theorem dX3_mixPlaces_17 : decode cX3_mixPlaces 17 = .ok (.lload_n 3, 1) := by decide +kernel
theorem dX3_mixPlaces_18 : decode cX3_mixPlaces 18 = .ok (.aload_n 0, 1) := by decide +kernel
theorem dX3_mixPlaces_19 : decode cX3_mixPlaces 19 = .ok (.iload 5, 2) := by decide +kernel
theorem dX3_mixPlaces_21 : decode cX3_mixPlaces 21 = .ok (.invokevirtual 230, 3) := by decide +kernel
theorem dX3_mixPlaces_24 : decode cX3_mixPlaces 24 = .ok (.invokestatic 233, 3) := by decide +kernel
theorem dX3_mixPlaces_27 : decode cX3_mixPlaces 27 = .ok (.lstore_n 3, 1) := by decide +kernel
theorem dX3_mixPlaces_28 : decode cX3_mixPlaces 28 = .ok (.lload_n 3, 1) := by decide +kernel
theorem dX3_mixPlaces_29 : decode cX3_mixPlaces 29 = .ok (.aload_n 0, 1) := by decide +kernel
theorem dX3_mixPlaces_30 : decode cX3_mixPlaces 30 = .ok (.iload 5, 2) := by decide +kernel
theorem dX3_mixPlaces_32 : decode cX3_mixPlaces 32 = .ok (.invokevirtual 237, 3) := by decide +kernel
theorem dX3_mixPlaces_35 : decode cX3_mixPlaces 35 = .ok (.i2l, 1) := by decide +kernel
theorem dX3_mixPlaces_36 : decode cX3_mixPlaces 36 = .ok (.invokestatic 170, 3) := by decide +kernel
theorem dX3_mixPlaces_39 : decode cX3_mixPlaces 39 = .ok (.lstore_n 3, 1) := by decide +kernel
theorem dX3_mixPlaces_40 : decode cX3_mixPlaces 40 = .ok (.iconst 0, 1) := by decide +kernel
theorem dX3_mixPlaces_41 : decode cX3_mixPlaces 41 = .ok (.istore 6, 2) := by decide +kernel
theorem dX3_mixPlaces_43 : decode cX3_mixPlaces 43 = .ok (.iload 6, 2) := by decide +kernel
theorem dX3_mixPlaces_45 : decode cX3_mixPlaces 45 = .ok (.aload_n 0, 1) := by decide +kernel
theorem dX3_mixPlaces_46 : decode cX3_mixPlaces 46 = .ok (.iload 5, 2) := by decide +kernel
theorem dX3_mixPlaces_48 : decode cX3_mixPlaces 48 = .ok (.invokevirtual 237, 3) := by decide +kernel
theorem dX3_mixPlaces_51 : decode cX3_mixPlaces 51 = .ok (.if_icmp .ge 63, 3) := by decide +kernel
theorem dX3_mixPlaces_54 : decode cX3_mixPlaces 54 = .ok (.lload_n 3, 1) := by decide +kernel
theorem dX3_mixPlaces_55 : decode cX3_mixPlaces 55 = .ok (.aload_n 0, 1) := by decide +kernel
theorem dX3_mixPlaces_56 : decode cX3_mixPlaces 56 = .ok (.iload 5, 2) := by decide +kernel
theorem dX3_mixPlaces_58 : decode cX3_mixPlaces 58 = .ok (.iload 6, 2) := by decide +kernel
theorem dX3_mixPlaces_60 : decode cX3_mixPlaces 60 = .ok (.invokevirtual 240, 3) := by decide +kernel
theorem dX3_mixPlaces_63 : decode cX3_mixPlaces 63 = .ok (.i2l, 1) := by decide +kernel
theorem dX3_mixPlaces_64 : decode cX3_mixPlaces 64 = .ok (.invokestatic 170, 3) := by decide +kernel
theorem dX3_mixPlaces_67 : decode cX3_mixPlaces 67 = .ok (.lstore_n 3, 1) := by decide +kernel
theorem dX3_mixPlaces_68 : decode cX3_mixPlaces 68 = .ok (.lload_n 3, 1) := by decide +kernel
theorem dX3_mixPlaces_69 : decode cX3_mixPlaces 69 = .ok (.aload_n 0, 1) := by decide +kernel
theorem dX3_mixPlaces_70 : decode cX3_mixPlaces 70 = .ok (.iload 5, 2) := by decide +kernel
theorem dX3_mixPlaces_72 : decode cX3_mixPlaces 72 = .ok (.iload 6, 2) := by decide +kernel
theorem dX3_mixPlaces_74 : decode cX3_mixPlaces 74 = .ok (.invokevirtual 243, 3) := by decide +kernel
theorem dX3_mixPlaces_77 : decode cX3_mixPlaces 77 = .ok (.i2l, 1) := by decide +kernel
theorem dX3_mixPlaces_78 : decode cX3_mixPlaces 78 = .ok (.invokestatic 170, 3) := by decide +kernel
theorem dX3_mixPlaces_81 : decode cX3_mixPlaces 81 = .ok (.lstore_n 3, 1) := by decide +kernel
theorem dX3_mixPlaces_82 : decode cX3_mixPlaces 82 = .ok (.lload_n 3, 1) := by decide +kernel
theorem dX3_mixPlaces_83 : decode cX3_mixPlaces 83 = .ok (.aload_n 0, 1) := by decide +kernel
theorem dX3_mixPlaces_84 : decode cX3_mixPlaces 84 = .ok (.iload 5, 2) := by decide +kernel
theorem dX3_mixPlaces_86 : decode cX3_mixPlaces 86 = .ok (.iload 6, 2) := by decide +kernel
theorem dX3_mixPlaces_88 : decode cX3_mixPlaces 88 = .ok (.invokevirtual 246, 3) := by decide +kernel
theorem dX3_mixPlaces_91 : decode cX3_mixPlaces 91 = .ok (.invokestatic 233, 3) := by decide +kernel
theorem dX3_mixPlaces_94 : decode cX3_mixPlaces 94 = .ok (.lstore_n 3, 1) := by decide +kernel
theorem dX3_mixPlaces_95 : decode cX3_mixPlaces 95 = .ok (.lload_n 3, 1) := by decide +kernel
theorem dX3_mixPlaces_96 : decode cX3_mixPlaces 96 = .ok (.aload_n 0, 1) := by decide +kernel
theorem dX3_mixPlaces_97 : decode cX3_mixPlaces 97 = .ok (.iload 5, 2) := by decide +kernel
theorem dX3_mixPlaces_99 : decode cX3_mixPlaces 99 = .ok (.iload 6, 2) := by decide +kernel
theorem dX3_mixPlaces_101 : decode cX3_mixPlaces 101 = .ok (.invokevirtual 250, 3) := by decide +kernel
theorem dX3_mixPlaces_104 : decode cX3_mixPlaces 104 = .ok (.invokestatic 233, 3) := by decide +kernel
theorem dX3_mixPlaces_107 : decode cX3_mixPlaces 107 = .ok (.lstore_n 3, 1) := by decide +kernel
theorem dX3_mixPlaces_108 : decode cX3_mixPlaces 108 = .ok (.iinc 6 1, 3) := by decide +kernel
theorem dX3_mixPlaces_111 : decode cX3_mixPlaces 111 = .ok (.goto (-68), 3) := by decide +kernel
theorem dX3_mixPlaces_114 : decode cX3_mixPlaces 114 = .ok (.iinc 5 1, 3) := by decide +kernel
theorem dX3_mixPlaces_117 : decode cX3_mixPlaces 117 = .ok (.goto (-112), 3) := by decide +kernel
theorem dX3_mixPlaces_120 : decode cX3_mixPlaces 120 = .ok (.lload_n 3, 1) := by decide +kernel
theorem dX3_mixPlaces_121 : decode cX3_mixPlaces 121 = .ok (.lreturn, 1) := by decide +kernel
set_option maxRecDepth 20000 in
theorem ggX3_mixMemory_X3_remembered : GoodIn wsX3_mixMemory wsX3_remembered := goodIn_ca (goodIn_r _ [6, 7, 8, 9, 10, 5, 11, 12, 13, 1, 14, 15, 16, 17, 18, 19, 20, 21, 22, 23, 24, 25, 26, 27, 28, 29, 42, 43, 44, 53, 54, 55, 56, 57, 58, 59, 60, 61, 62, 63, 64, 65, 66, 67, 45, 46, 47, 48, 49, 50, 51, 52, 68, 69] (by decide +kernel) (by decide +kernel)) (goodIn_sub (fun _ h => List.mem_cons_of_mem _ (List.mem_append_right _ h)) (by decide +kernel))
set_option maxRecDepth 20000 in
theorem gX3_mixMemory_X3_remembered : GoodIn wsX3_mixMemory (wsV RX3 253 RX3 yX3_remembered wsX3_remembered) := goodIn_app (goodIn_of _ (by decide +kernel)) ggX3_mixMemory_X3_remembered
set_option maxRecDepth 20000 in
theorem ggX3_mixMemory_X3_mix : GoodIn wsX3_mixMemory wsX3_mix := goodIn_r _ [32, 33] (by decide +kernel) (by decide +kernel)
set_option maxRecDepth 20000 in
theorem gX3_mixMemory_X3_mix : GoodIn wsX3_mixMemory (va_wsS RX3 170 yX3_mix wsX3_mix) := goodIn_app (goodIn_of _ (by decide +kernel)) ggX3_mixMemory_X3_mix
set_option maxRecDepth 20000 in
theorem ggX3_mixMemory_X3_strength : GoodIn wsX3_mixMemory wsX3_strength := goodIn_ca (goodIn_r _ [37, 7, 8, 9, 10, 5, 11, 12, 13, 1, 14, 15, 16, 17, 18, 19, 38, 39, 40, 23, 41, 25, 27, 28, 29, 42, 43, 44, 53, 54, 55, 56, 57, 58, 59, 60, 61, 62, 63, 64, 65, 66, 67, 45, 46, 47, 48, 49, 50, 51, 52, 68, 69] (by decide +kernel) (by decide +kernel)) (goodIn_sub (fun _ h => List.mem_cons_of_mem _ (List.mem_append_right _ h)) (by decide +kernel))
set_option maxRecDepth 20000 in
theorem gX3_mixMemory_X3_strength : GoodIn wsX3_mixMemory (wsV RX3 256 RX3 yX3_strength wsX3_strength) := goodIn_app (goodIn_of _ (by decide +kernel)) ggX3_mixMemory_X3_strength
theorem dX3_mixMemory_0 : decode cX3_mixMemory 0 = .ok (.lload_n 1, 1) := by decide +kernel
theorem dX3_mixMemory_1 : decode cX3_mixMemory 1 = .ok (.lstore_n 3, 1) := by decide +kernel
theorem dX3_mixMemory_2 : decode cX3_mixMemory 2 = .ok (.iconst 0, 1) := by decide +kernel
theorem dX3_mixMemory_3 : decode cX3_mixMemory 3 = .ok (.istore 5, 2) := by decide +kernel
theorem dX3_mixMemory_5 : decode cX3_mixMemory 5 = .ok (.iload 5, 2) := by decide +kernel
theorem dX3_mixMemory_7 : decode cX3_mixMemory 7 = .ok (.aload_n 0, 1) := by decide +kernel
theorem dX3_mixMemory_8 : decode cX3_mixMemory 8 = .ok (.getfield 12, 3) := by decide +kernel
theorem dX3_mixMemory_11 : decode cX3_mixMemory 11 = .ok (.getfield 28, 3) := by decide +kernel
theorem dX3_mixMemory_14 : decode cX3_mixMemory 14 = .ok (.if_icmp .ge 58, 3) := by decide +kernel
theorem dX3_mixMemory_17 : decode cX3_mixMemory 17 = .ok (.iconst 0, 1) := by decide +kernel
theorem dX3_mixMemory_18 : decode cX3_mixMemory 18 = .ok (.istore 6, 2) := by decide +kernel
theorem dX3_mixMemory_20 : decode cX3_mixMemory 20 = .ok (.iload 6, 2) := by decide +kernel
theorem dX3_mixMemory_22 : decode cX3_mixMemory 22 = .ok (.aload_n 0, 1) := by decide +kernel
theorem dX3_mixMemory_23 : decode cX3_mixMemory 23 = .ok (.getfield 12, 3) := by decide +kernel
theorem dX3_mixMemory_26 : decode cX3_mixMemory 26 = .ok (.getfield 28, 3) := by decide +kernel
theorem dX3_mixMemory_29 : decode cX3_mixMemory 29 = .ok (.if_icmp .ge 37, 3) := by decide +kernel
theorem dX3_mixMemory_32 : decode cX3_mixMemory 32 = .ok (.lload_n 3, 1) := by decide +kernel
theorem dX3_mixMemory_33 : decode cX3_mixMemory 33 = .ok (.aload_n 0, 1) := by decide +kernel
theorem dX3_mixMemory_34 : decode cX3_mixMemory 34 = .ok (.iload 5, 2) := by decide +kernel
theorem dX3_mixMemory_36 : decode cX3_mixMemory 36 = .ok (.iload 6, 2) := by decide +kernel
theorem dX3_mixMemory_38 : decode cX3_mixMemory 38 = .ok (.invokevirtual 253, 3) := by decide +kernel
theorem dX3_mixMemory_41 : decode cX3_mixMemory 41 = .ok (.i2l, 1) := by decide +kernel
theorem dX3_mixMemory_42 : decode cX3_mixMemory 42 = .ok (.invokestatic 170, 3) := by decide +kernel
theorem dX3_mixMemory_45 : decode cX3_mixMemory 45 = .ok (.lstore_n 3, 1) := by decide +kernel
theorem dX3_mixMemory_46 : decode cX3_mixMemory 46 = .ok (.lload_n 3, 1) := by decide +kernel
theorem dX3_mixMemory_47 : decode cX3_mixMemory 47 = .ok (.aload_n 0, 1) := by decide +kernel
theorem dX3_mixMemory_48 : decode cX3_mixMemory 48 = .ok (.iload 5, 2) := by decide +kernel
theorem dX3_mixMemory_50 : decode cX3_mixMemory 50 = .ok (.iload 6, 2) := by decide +kernel
theorem dX3_mixMemory_52 : decode cX3_mixMemory 52 = .ok (.invokevirtual 256, 3) := by decide +kernel
theorem dX3_mixMemory_55 : decode cX3_mixMemory 55 = .ok (.i2l, 1) := by decide +kernel
theorem dX3_mixMemory_56 : decode cX3_mixMemory 56 = .ok (.invokestatic 170, 3) := by decide +kernel
theorem dX3_mixMemory_59 : decode cX3_mixMemory 59 = .ok (.lstore_n 3, 1) := by decide +kernel
theorem dX3_mixMemory_60 : decode cX3_mixMemory 60 = .ok (.iinc 6 1, 3) := by decide +kernel
theorem dX3_mixMemory_63 : decode cX3_mixMemory 63 = .ok (.goto (-43), 3) := by decide +kernel
theorem dX3_mixMemory_66 : decode cX3_mixMemory 66 = .ok (.iinc 5 1, 3) := by decide +kernel
theorem dX3_mixMemory_69 : decode cX3_mixMemory 69 = .ok (.goto (-64), 3) := by decide +kernel
theorem dX3_mixMemory_72 : decode cX3_mixMemory 72 = .ok (.lload_n 3, 1) := by decide +kernel
theorem dX3_mixMemory_73 : decode cX3_mixMemory 73 = .ok (.lreturn, 1) := by decide +kernel
theorem dX3_isEnd_0 : decode cX3_isEnd 0 = .ok (.iload_n 0, 1) := by decide +kernel
theorem dX3_isEnd_1 : decode cX3_isEnd 1 = .ok (.ifCond .lt 13, 3) := by decide +kernel
theorem dX3_isEnd_4 : decode cX3_isEnd 4 = .ok (.iload_n 0, 1) := by decide +kernel
theorem dX3_isEnd_5 : decode cX3_isEnd 5 = .ok (.bipush 40, 2) := by decide +kernel
theorem dX3_isEnd_7 : decode cX3_isEnd 7 = .ok (.if_icmp .ge 7, 3) := by decide +kernel
theorem dX3_isEnd_10 : decode cX3_isEnd 10 = .ok (.iconst 1, 1) := by decide +kernel
theorem dX3_isEnd_11 : decode cX3_isEnd 11 = .ok (.goto 4, 3) := by decide +kernel
theorem dX3_isEnd_14 : decode cX3_isEnd 14 = .ok (.iconst 0, 1) := by decide +kernel
theorem dX3_isEnd_15 : decode cX3_isEnd 15 = .ok (.ireturn, 1) := by decide +kernel
theorem dX3_placeOfEnd_0 : decode cX3_placeOfEnd 0 = .ok (.iload_n 0, 1) := by decide +kernel
theorem dX3_placeOfEnd_1 : decode cX3_placeOfEnd 1 = .ok (.iconst 4, 1) := by decide +kernel
theorem dX3_placeOfEnd_2 : decode cX3_placeOfEnd 2 = .ok (.idiv, 1) := by decide +kernel
theorem dX3_placeOfEnd_3 : decode cX3_placeOfEnd 3 = .ok (.ireturn, 1) := by decide +kernel
theorem dX3_exitOfEnd_0 : decode cX3_exitOfEnd 0 = .ok (.iload_n 0, 1) := by decide +kernel
theorem dX3_exitOfEnd_1 : decode cX3_exitOfEnd 1 = .ok (.iconst 4, 1) := by decide +kernel
theorem dX3_exitOfEnd_2 : decode cX3_exitOfEnd 2 = .ok (.irem, 1) := by decide +kernel
theorem dX3_exitOfEnd_3 : decode cX3_exitOfEnd 3 = .ok (.ireturn, 1) := by decide +kernel
theorem dX4_init_0 : decode cX4_init 0 = .ok (.aload_n 0, 1) := by decide +kernel
theorem dX4_init_1 : decode cX4_init 1 = .ok (.invokespecial 3, 3) := by decide +kernel
theorem dX4_init_4 : decode cX4_init 4 = .ok (.aload_n 0, 1) := by decide +kernel
theorem dX4_init_5 : decode cX4_init 5 = .ok (.iconst (-1), 1) := by decide +kernel
theorem dX4_init_6 : decode cX4_init 6 = .ok (.putfield 9, 3) := by decide +kernel
theorem dX4_init_9 : decode cX4_init 9 = .ok (.aload_n 0, 1) := by decide +kernel
theorem dX4_init_10 : decode cX4_init 10 = .ok (.iconst (-1), 1) := by decide +kernel
theorem dX4_init_11 : decode cX4_init 11 = .ok (.putfield 15, 3) := by decide +kernel
theorem dX4_init_14 : decode cX4_init 14 = .ok (.aload_n 0, 1) := by decide +kernel
theorem dX4_init_15 : decode cX4_init 15 = .ok (.bipush 20, 2) := by decide +kernel
theorem dX4_init_17 : decode cX4_init 17 = .ok (.newarray .boolean, 2) := by decide +kernel
theorem dX4_init_19 : decode cX4_init 19 = .ok (.putfield 18, 3) := by decide +kernel
theorem dX4_init_22 : decode cX4_init 22 = .ok (.aload_n 0, 1) := by decide +kernel
theorem dX4_init_23 : decode cX4_init 23 = .ok (.bipush 10, 2) := by decide +kernel
theorem dX4_init_25 : decode cX4_init 25 = .ok (.newarray .boolean, 2) := by decide +kernel
theorem dX4_init_27 : decode cX4_init 27 = .ok (.putfield 22, 3) := by decide +kernel
theorem dX4_init_30 : decode cX4_init 30 = .ok (.aload_n 0, 1) := by decide +kernel
theorem dX4_init_31 : decode cX4_init 31 = .ok (.bipush 40, 2) := by decide +kernel
theorem dX4_init_33 : decode cX4_init 33 = .ok (.newarray .int, 2) := by decide +kernel
theorem dX4_init_35 : decode cX4_init 35 = .ok (.putfield 25, 3) := by decide +kernel
theorem dX4_init_38 : decode cX4_init 38 = .ok (.aload_n 0, 1) := by decide +kernel
theorem dX4_init_39 : decode cX4_init 39 = .ok (.bipush 100, 2) := by decide +kernel
theorem dX4_init_41 : decode cX4_init 41 = .ok (.newarray .int, 2) := by decide +kernel
theorem dX4_init_43 : decode cX4_init 43 = .ok (.putfield 29, 3) := by decide +kernel
theorem dX4_init_46 : decode cX4_init 46 = .ok (.aload_n 0, 1) := by decide +kernel
theorem dX4_init_47 : decode cX4_init 47 = .ok (.bipush 100, 2) := by decide +kernel
theorem dX4_init_49 : decode cX4_init 49 = .ok (.newarray .int, 2) := by decide +kernel
theorem dX4_init_51 : decode cX4_init 51 = .ok (.putfield 32, 3) := by decide +kernel
theorem dX4_init_54 : decode cX4_init 54 = .ok (.iconst 0, 1) := by decide +kernel
theorem dX4_init_55 : decode cX4_init 55 = .ok (.istore_n 1, 1) := by decide +kernel
theorem dX4_init_56 : decode cX4_init 56 = .ok (.iload_n 1, 1) := by decide +kernel
theorem dX4_init_57 : decode cX4_init 57 = .ok (.bipush 100, 2) := by decide +kernel
theorem dX4_init_59 : decode cX4_init 59 = .ok (.if_icmp .ge 16, 3) := by decide +kernel
theorem dX4_init_62 : decode cX4_init 62 = .ok (.aload_n 0, 1) := by decide +kernel
theorem dX4_init_63 : decode cX4_init 63 = .ok (.getfield 29, 3) := by decide +kernel
theorem dX4_init_66 : decode cX4_init 66 = .ok (.iload_n 1, 1) := by decide +kernel
theorem dX4_init_67 : decode cX4_init 67 = .ok (.iconst (-1), 1) := by decide +kernel
theorem dX4_init_68 : decode cX4_init 68 = .ok (.iastore, 1) := by decide +kernel
theorem dX4_init_69 : decode cX4_init 69 = .ok (.iinc 1 1, 3) := by decide +kernel
theorem dX4_init_72 : decode cX4_init 72 = .ok (.goto (-16), 3) := by decide +kernel
theorem dX4_init_75 : decode cX4_init 75 = .ok (.return_, 1) := by decide +kernel
theorem dX4_become_0 : decode cX4_become 0 = .ok (.aload_n 0, 1) := by decide +kernel
theorem dX4_become_1 : decode cX4_become 1 = .ok (.aload_n 1, 1) := by decide +kernel
theorem dX4_become_2 : decode cX4_become 2 = .ok (.getfield 9, 3) := by decide +kernel
theorem dX4_become_5 : decode cX4_become 5 = .ok (.putfield 9, 3) := by decide +kernel
theorem dX4_become_8 : decode cX4_become 8 = .ok (.aload_n 0, 1) := by decide +kernel
theorem dX4_become_9 : decode cX4_become 9 = .ok (.aload_n 1, 1) := by decide +kernel
theorem dX4_become_10 : decode cX4_become 10 = .ok (.getfield 35, 3) := by decide +kernel
theorem dX4_become_13 : decode cX4_become 13 = .ok (.putfield 35, 3) := by decide +kernel
theorem dX4_become_16 : decode cX4_become 16 = .ok (.aload_n 0, 1) := by decide +kernel
theorem dX4_become_17 : decode cX4_become 17 = .ok (.aload_n 1, 1) := by decide +kernel
theorem dX4_become_18 : decode cX4_become 18 = .ok (.getfield 15, 3) := by decide +kernel
theorem dX4_become_21 : decode cX4_become 21 = .ok (.putfield 15, 3) := by decide +kernel
theorem dX4_become_24 : decode cX4_become 24 = .ok (.aload_n 0, 1) := by decide +kernel
theorem dX4_become_25 : decode cX4_become 25 = .ok (.aload_n 1, 1) := by decide +kernel
theorem dX4_become_26 : decode cX4_become 26 = .ok (.getfield 38, 3) := by decide +kernel
theorem dX4_become_29 : decode cX4_become 29 = .ok (.putfield 38, 3) := by decide +kernel
theorem dX4_become_32 : decode cX4_become 32 = .ok (.aload_n 0, 1) := by decide +kernel
theorem dX4_become_33 : decode cX4_become 33 = .ok (.aload_n 1, 1) := by decide +kernel
theorem dX4_become_34 : decode cX4_become 34 = .ok (.getfield 41, 3) := by decide +kernel
theorem dX4_become_37 : decode cX4_become 37 = .ok (.putfield 41, 3) := by decide +kernel
theorem dX4_become_40 : decode cX4_become 40 = .ok (.aload_n 0, 1) := by decide +kernel
theorem dX4_become_41 : decode cX4_become 41 = .ok (.aload_n 1, 1) := by decide +kernel
theorem dX4_become_42 : decode cX4_become 42 = .ok (.getfield 44, 3) := by decide +kernel
theorem dX4_become_45 : decode cX4_become 45 = .ok (.putfield 44, 3) := by decide +kernel
theorem dX4_become_48 : decode cX4_become 48 = .ok (.aload_n 0, 1) := by decide +kernel
theorem dX4_become_49 : decode cX4_become 49 = .ok (.aload_n 1, 1) := by decide +kernel
theorem dX4_become_50 : decode cX4_become 50 = .ok (.getfield 47, 3) := by decide +kernel
theorem dX4_become_53 : decode cX4_become 53 = .ok (.putfield 47, 3) := by decide +kernel
theorem dX4_become_56 : decode cX4_become 56 = .ok (.aload_n 0, 1) := by decide +kernel
theorem dX4_become_57 : decode cX4_become 57 = .ok (.aload_n 1, 1) := by decide +kernel
theorem dX4_become_58 : decode cX4_become 58 = .ok (.getfield 50, 3) := by decide +kernel
theorem dX4_become_61 : decode cX4_become 61 = .ok (.putfield 50, 3) := by decide +kernel
theorem dX4_become_64 : decode cX4_become 64 = .ok (.aload_n 0, 1) := by decide +kernel
theorem dX4_become_65 : decode cX4_become 65 = .ok (.aload_n 1, 1) := by decide +kernel
theorem dX4_become_66 : decode cX4_become 66 = .ok (.getfield 53, 3) := by decide +kernel
theorem dX4_become_69 : decode cX4_become 69 = .ok (.putfield 53, 3) := by decide +kernel
theorem dX4_become_72 : decode cX4_become 72 = .ok (.aload_n 1, 1) := by decide +kernel
theorem dX4_become_73 : decode cX4_become 73 = .ok (.getfield 18, 3) := by decide +kernel
theorem dX4_become_76 : decode cX4_become 76 = .ok (.iconst 0, 1) := by decide +kernel
theorem dX4_become_77 : decode cX4_become 77 = .ok (.aload_n 0, 1) := by decide +kernel
theorem dX4_become_78 : decode cX4_become 78 = .ok (.getfield 18, 3) := by decide +kernel
theorem dX4_become_81 : decode cX4_become 81 = .ok (.iconst 0, 1) := by decide +kernel
theorem dX4_become_82 : decode cX4_become 82 = .ok (.bipush 20, 2) := by decide +kernel
theorem dX4_become_84 : decode cX4_become 84 = .ok (.invokestatic 56, 3) := by decide +kernel
theorem dX4_become_87 : decode cX4_become 87 = .ok (.aload_n 1, 1) := by decide +kernel
theorem dX4_become_88 : decode cX4_become 88 = .ok (.getfield 22, 3) := by decide +kernel
theorem dX4_become_91 : decode cX4_become 91 = .ok (.iconst 0, 1) := by decide +kernel
theorem dX4_become_92 : decode cX4_become 92 = .ok (.aload_n 0, 1) := by decide +kernel
theorem dX4_become_93 : decode cX4_become 93 = .ok (.getfield 22, 3) := by decide +kernel
theorem dX4_become_96 : decode cX4_become 96 = .ok (.iconst 0, 1) := by decide +kernel
theorem dX4_become_97 : decode cX4_become 97 = .ok (.bipush 10, 2) := by decide +kernel
theorem dX4_become_99 : decode cX4_become 99 = .ok (.invokestatic 56, 3) := by decide +kernel
theorem dX4_become_102 : decode cX4_become 102 = .ok (.aload_n 1, 1) := by decide +kernel
theorem dX4_become_103 : decode cX4_become 103 = .ok (.getfield 25, 3) := by decide +kernel
theorem dX4_become_106 : decode cX4_become 106 = .ok (.iconst 0, 1) := by decide +kernel
theorem dX4_become_107 : decode cX4_become 107 = .ok (.aload_n 0, 1) := by decide +kernel
theorem dX4_become_108 : decode cX4_become 108 = .ok (.getfield 25, 3) := by decide +kernel
theorem dX4_become_111 : decode cX4_become 111 = .ok (.iconst 0, 1) := by decide +kernel
theorem dX4_become_112 : decode cX4_become 112 = .ok (.bipush 40, 2) := by decide +kernel
theorem dX4_become_114 : decode cX4_become 114 = .ok (.invokestatic 56, 3) := by decide +kernel
theorem dX4_become_117 : decode cX4_become 117 = .ok (.aload_n 1, 1) := by decide +kernel
theorem dX4_become_118 : decode cX4_become 118 = .ok (.getfield 29, 3) := by decide +kernel
theorem dX4_become_121 : decode cX4_become 121 = .ok (.iconst 0, 1) := by decide +kernel
theorem dX4_become_122 : decode cX4_become 122 = .ok (.aload_n 0, 1) := by decide +kernel
theorem dX4_become_123 : decode cX4_become 123 = .ok (.getfield 29, 3) := by decide +kernel
theorem dX4_become_126 : decode cX4_become 126 = .ok (.iconst 0, 1) := by decide +kernel
theorem dX4_become_127 : decode cX4_become 127 = .ok (.bipush 100, 2) := by decide +kernel
theorem dX4_become_129 : decode cX4_become 129 = .ok (.invokestatic 56, 3) := by decide +kernel
theorem dX4_become_132 : decode cX4_become 132 = .ok (.aload_n 1, 1) := by decide +kernel
theorem dX4_become_133 : decode cX4_become 133 = .ok (.getfield 32, 3) := by decide +kernel
theorem dX4_become_136 : decode cX4_become 136 = .ok (.iconst 0, 1) := by decide +kernel
theorem dX4_become_137 : decode cX4_become 137 = .ok (.aload_n 0, 1) := by decide +kernel
theorem dX4_become_138 : decode cX4_become 138 = .ok (.getfield 32, 3) := by decide +kernel
theorem dX4_become_141 : decode cX4_become 141 = .ok (.iconst 0, 1) := by decide +kernel
theorem dX4_become_142 : decode cX4_become 142 = .ok (.bipush 100, 2) := by decide +kernel
theorem dX4_become_144 : decode cX4_become 144 = .ok (.invokestatic 56, 3) := by decide +kernel
theorem dX4_become_147 : decode cX4_become 147 = .ok (.return_, 1) := by decide +kernel
theorem dX4_begin_0 : decode cX4_begin 0 = .ok (.aload_n 0, 1) := by decide +kernel
theorem dX4_begin_1 : decode cX4_begin 1 = .ok (.iload_n 1, 1) := by decide +kernel
theorem dX4_begin_2 : decode cX4_begin 2 = .ok (.putfield 15, 3) := by decide +kernel
theorem dX4_begin_5 : decode cX4_begin 5 = .ok (.aload_n 0, 1) := by decide +kernel
theorem dX4_begin_6 : decode cX4_begin 6 = .ok (.iconst 0, 1) := by decide +kernel
theorem dX4_begin_7 : decode cX4_begin 7 = .ok (.putfield 38, 3) := by decide +kernel
theorem dX4_begin_10 : decode cX4_begin 10 = .ok (.iconst 0, 1) := by decide +kernel
theorem dX4_begin_11 : decode cX4_begin 11 = .ok (.istore_n 2, 1) := by decide +kernel
theorem dX4_begin_12 : decode cX4_begin 12 = .ok (.iload_n 2, 1) := by decide +kernel
theorem dX4_begin_13 : decode cX4_begin 13 = .ok (.bipush 20, 2) := by decide +kernel
theorem dX4_begin_15 : decode cX4_begin 15 = .ok (.if_icmp .ge 16, 3) := by decide +kernel
theorem dX4_begin_18 : decode cX4_begin 18 = .ok (.aload_n 0, 1) := by decide +kernel
theorem dX4_begin_19 : decode cX4_begin 19 = .ok (.getfield 18, 3) := by decide +kernel
theorem dX4_begin_22 : decode cX4_begin 22 = .ok (.iload_n 2, 1) := by decide +kernel
theorem dX4_begin_23 : decode cX4_begin 23 = .ok (.iconst 0, 1) := by decide +kernel
theorem dX4_begin_24 : decode cX4_begin 24 = .ok (.bastore, 1) := by decide +kernel
theorem dX4_begin_25 : decode cX4_begin 25 = .ok (.iinc 2 1, 3) := by decide +kernel
theorem dX4_begin_28 : decode cX4_begin 28 = .ok (.goto (-16), 3) := by decide +kernel
theorem dX4_begin_31 : decode cX4_begin 31 = .ok (.iconst 0, 1) := by decide +kernel
theorem dX4_begin_32 : decode cX4_begin 32 = .ok (.istore_n 2, 1) := by decide +kernel
theorem dX4_begin_33 : decode cX4_begin 33 = .ok (.iload_n 2, 1) := by decide +kernel
theorem dX4_begin_34 : decode cX4_begin 34 = .ok (.bipush 10, 2) := by decide +kernel
theorem dX4_begin_36 : decode cX4_begin 36 = .ok (.if_icmp .ge 16, 3) := by decide +kernel
theorem dX4_begin_39 : decode cX4_begin 39 = .ok (.aload_n 0, 1) := by decide +kernel
theorem dX4_begin_40 : decode cX4_begin 40 = .ok (.getfield 22, 3) := by decide +kernel
theorem dX4_begin_43 : decode cX4_begin 43 = .ok (.iload_n 2, 1) := by decide +kernel
theorem dX4_begin_44 : decode cX4_begin 44 = .ok (.iconst 0, 1) := by decide +kernel
theorem dX4_begin_45 : decode cX4_begin 45 = .ok (.bastore, 1) := by decide +kernel
theorem dX4_begin_46 : decode cX4_begin 46 = .ok (.iinc 2 1, 3) := by decide +kernel
theorem dX4_begin_49 : decode cX4_begin 49 = .ok (.goto (-16), 3) := by decide +kernel
theorem dX4_begin_52 : decode cX4_begin 52 = .ok (.return_, 1) := by decide +kernel
set_option maxRecDepth 20000 in
theorem ggX4_end_X4_begin : GoodIn wsX4_end wsX4_begin := goodIn_r _ [5, 6, 7, 8, 9, 10, 11, 12, 13, 14, 15, 16, 17, 18, 19, 20, 21, 22, 23] (by decide +kernel) (by decide +kernel)
set_option maxRecDepth 20000 in
theorem gX4_end_X4_begin : GoodIn wsX4_end (wsV RX4 62 RX4 yX4_begin wsX4_begin) := goodIn_app (goodIn_of _ (by decide +kernel)) ggX4_end_X4_begin
theorem dX4_end_0 : decode cX4_end 0 = .ok (.aload_n 0, 1) := by decide +kernel
theorem dX4_end_1 : decode cX4_end 1 = .ok (.iconst (-1), 1) := by decide +kernel
theorem dX4_end_2 : decode cX4_end 2 = .ok (.invokevirtual 62, 3) := by decide +kernel
theorem dX4_end_5 : decode cX4_end 5 = .ok (.return_, 1) := by decide +kernel
theorem dX4_remembered_0 : decode cX4_remembered 0 = .ok (.aload_n 0, 1) := by decide +kernel
theorem dX4_remembered_1 : decode cX4_remembered 1 = .ok (.getfield 29, 3) := by decide +kernel
theorem dX4_remembered_4 : decode cX4_remembered 4 = .ok (.bipush 10, 2) := by decide +kernel
theorem dX4_remembered_6 : decode cX4_remembered 6 = .ok (.aload_n 0, 1) := by decide +kernel
theorem dX4_remembered_7 : decode cX4_remembered 7 = .ok (.getfield 15, 3) := by decide +kernel
theorem dX4_remembered_10 : decode cX4_remembered 10 = .ok (.imul, 1) := by decide +kernel
theorem dX4_remembered_11 : decode cX4_remembered 11 = .ok (.iload_n 1, 1) := by decide +kernel
theorem dX4_remembered_12 : decode cX4_remembered 12 = .ok (.iadd, 1) := by decide +kernel
theorem dX4_remembered_13 : decode cX4_remembered 13 = .ok (.iaload, 1) := by decide +kernel
theorem dX4_remembered_14 : decode cX4_remembered 14 = .ok (.ireturn, 1) := by decide +kernel
theorem dX4_remember_0 : decode cX4_remember 0 = .ok (.aload_n 0, 1) := by decide +kernel
theorem dX4_remember_1 : decode cX4_remember 1 = .ok (.getfield 29, 3) := by decide +kernel
theorem dX4_remember_4 : decode cX4_remember 4 = .ok (.bipush 10, 2) := by decide +kernel
theorem dX4_remember_6 : decode cX4_remember 6 = .ok (.aload_n 0, 1) := by decide +kernel
theorem dX4_remember_7 : decode cX4_remember 7 = .ok (.getfield 15, 3) := by decide +kernel
theorem dX4_remember_10 : decode cX4_remember 10 = .ok (.imul, 1) := by decide +kernel
theorem dX4_remember_11 : decode cX4_remember 11 = .ok (.iload_n 1, 1) := by decide +kernel
theorem dX4_remember_12 : decode cX4_remember 12 = .ok (.iadd, 1) := by decide +kernel
theorem dX4_remember_13 : decode cX4_remember 13 = .ok (.iload_n 2, 1) := by decide +kernel
theorem dX4_remember_14 : decode cX4_remember 14 = .ok (.iastore, 1) := by decide +kernel
theorem dX4_remember_15 : decode cX4_remember 15 = .ok (.aload_n 0, 1) := by decide +kernel
theorem dX4_remember_16 : decode cX4_remember 16 = .ok (.getfield 32, 3) := by decide +kernel
theorem dX4_remember_19 : decode cX4_remember 19 = .ok (.bipush 10, 2) := by decide +kernel
theorem dX4_remember_21 : decode cX4_remember 21 = .ok (.aload_n 0, 1) := by decide +kernel
theorem dX4_remember_22 : decode cX4_remember 22 = .ok (.getfield 15, 3) := by decide +kernel
theorem dX4_remember_25 : decode cX4_remember 25 = .ok (.imul, 1) := by decide +kernel
theorem dX4_remember_26 : decode cX4_remember 26 = .ok (.iload_n 1, 1) := by decide +kernel
theorem dX4_remember_27 : decode cX4_remember 27 = .ok (.iadd, 1) := by decide +kernel
theorem dX4_remember_28 : decode cX4_remember 28 = .ok (.iload_n 3, 1) := by decide +kernel
theorem dX4_remember_29 : decode cX4_remember 29 = .ok (.iastore, 1) := by decide +kernel
theorem dX4_remember_30 : decode cX4_remember 30 = .ok (.return_, 1) := by decide +kernel
set_option maxRecDepth 20000 in
theorem ggX5_init_X4_init : GoodIn wsX5_init wsX4_init := goodIn_r _ [20, 21, 2, 3, 22, 23, 9, 24, 25, 4, 26, 27, 28, 41, 42, 43, 44, 45, 46, 47, 48, 49, 50, 51, 52, 53, 54] (by decide +kernel) (by decide +kernel)
set_option maxRecDepth 20000 in
theorem gX5_init_X4_init : GoodIn wsX5_init (wsX4_init) := ggX5_init_X4_init
theorem dX5_init_0 : decode cX5_init 0 = .ok (.aload_n 0, 1) := by decide +kernel
theorem dX5_init_1 : decode cX5_init 1 = .ok (.invokespecial 1, 3) := by decide +kernel
theorem dX5_init_4 : decode cX5_init 4 = .ok (.aload_n 0, 1) := by decide +kernel
theorem dX5_init_5 : decode cX5_init 5 = .ok (.bipush 10, 2) := by decide +kernel
theorem dX5_init_7 : decode cX5_init 7 = .ok (.newarray .int, 2) := by decide +kernel
theorem dX5_init_9 : decode cX5_init 9 = .ok (.putfield 9, 3) := by decide +kernel
theorem dX5_init_12 : decode cX5_init 12 = .ok (.aload_n 0, 1) := by decide +kernel
theorem dX5_init_13 : decode cX5_init 13 = .ok (.bipush 40, 2) := by decide +kernel
theorem dX5_init_15 : decode cX5_init 15 = .ok (.newarray .int, 2) := by decide +kernel
theorem dX5_init_17 : decode cX5_init 17 = .ok (.putfield 13, 3) := by decide +kernel
theorem dX5_init_20 : decode cX5_init 20 = .ok (.aload_n 0, 1) := by decide +kernel
theorem dX5_init_21 : decode cX5_init 21 = .ok (.bipush 40, 2) := by decide +kernel
theorem dX5_init_23 : decode cX5_init 23 = .ok (.newarray .int, 2) := by decide +kernel
theorem dX5_init_25 : decode cX5_init 25 = .ok (.putfield 16, 3) := by decide +kernel
theorem dX5_init_28 : decode cX5_init 28 = .ok (.aload_n 0, 1) := by decide +kernel
theorem dX5_init_29 : decode cX5_init 29 = .ok (.bipush 20, 2) := by decide +kernel
theorem dX5_init_31 : decode cX5_init 31 = .ok (.newarray .int, 2) := by decide +kernel
theorem dX5_init_33 : decode cX5_init 33 = .ok (.putfield 19, 3) := by decide +kernel
theorem dX5_init_36 : decode cX5_init 36 = .ok (.aload_n 0, 1) := by decide +kernel
theorem dX5_init_37 : decode cX5_init 37 = .ok (.bipush 20, 2) := by decide +kernel
theorem dX5_init_39 : decode cX5_init 39 = .ok (.newarray .boolean, 2) := by decide +kernel
theorem dX5_init_41 : decode cX5_init 41 = .ok (.putfield 22, 3) := by decide +kernel
theorem dX5_init_44 : decode cX5_init 44 = .ok (.aload_n 0, 1) := by decide +kernel
theorem dX5_init_45 : decode cX5_init 45 = .ok (.bipush 10, 2) := by decide +kernel
theorem dX5_init_47 : decode cX5_init 47 = .ok (.newarray .boolean, 2) := by decide +kernel
theorem dX5_init_49 : decode cX5_init 49 = .ok (.putfield 26, 3) := by decide +kernel
theorem dX5_init_52 : decode cX5_init 52 = .ok (.aload_n 0, 1) := by decide +kernel
theorem dX5_init_53 : decode cX5_init 53 = .ok (.bipush 10, 2) := by decide +kernel
theorem dX5_init_55 : decode cX5_init 55 = .ok (.newarray .int, 2) := by decide +kernel
theorem dX5_init_57 : decode cX5_init 57 = .ok (.putfield 29, 3) := by decide +kernel
theorem dX5_init_60 : decode cX5_init 60 = .ok (.aload_n 0, 1) := by decide +kernel
theorem dX5_init_61 : decode cX5_init 61 = .ok (.new 32, 3) := by decide +kernel
theorem dX5_init_64 : decode cX5_init 64 = .ok (.dup, 1) := by decide +kernel
theorem dX5_init_65 : decode cX5_init 65 = .ok (.invokespecial 34, 3) := by decide +kernel
theorem dX5_init_68 : decode cX5_init 68 = .ok (.putfield 35, 3) := by decide +kernel
theorem dX5_init_71 : decode cX5_init 71 = .ok (.aload_n 0, 1) := by decide +kernel
theorem dX5_init_72 : decode cX5_init 72 = .ok (.new 32, 3) := by decide +kernel
theorem dX5_init_75 : decode cX5_init 75 = .ok (.dup, 1) := by decide +kernel
theorem dX5_init_76 : decode cX5_init 76 = .ok (.invokespecial 34, 3) := by decide +kernel
theorem dX5_init_79 : decode cX5_init 79 = .ok (.putfield 39, 3) := by decide +kernel
theorem dX5_init_82 : decode cX5_init 82 = .ok (.return_, 1) := by decide +kernel
theorem dX5_thrown_0 : decode cX5_thrown 0 = .ok (.aload_n 0, 1) := by decide +kernel
theorem dX5_thrown_1 : decode cX5_thrown 1 = .ok (.getfield 42, 3) := by decide +kernel
theorem dX5_thrown_4 : decode cX5_thrown 4 = .ok (.ireturn, 1) := by decide +kernel
theorem dX5_no_0 : decode cX5_no 0 = .ok (.aload_n 0, 1) := by decide +kernel
theorem dX5_no_1 : decode cX5_no 1 = .ok (.iload_n 1, 1) := by decide +kernel
theorem dX5_no_2 : decode cX5_no 2 = .ok (.putfield 42, 3) := by decide +kernel
theorem dX5_no_5 : decode cX5_no 5 = .ok (.iconst 0, 1) := by decide +kernel
theorem dX5_no_6 : decode cX5_no 6 = .ok (.ireturn, 1) := by decide +kernel
theorem dX5_isNot_0 : decode cX5_isNot 0 = .ok (.aload_n 0, 1) := by decide +kernel
theorem dX5_isNot_1 : decode cX5_isNot 1 = .ok (.iload_n 1, 1) := by decide +kernel
theorem dX5_isNot_2 : decode cX5_isNot 2 = .ok (.putfield 42, 3) := by decide +kernel
theorem dX5_isNot_5 : decode cX5_isNot 5 = .ok (.iconst 0, 1) := by decide +kernel
theorem dX5_isNot_6 : decode cX5_isNot 6 = .ok (.ireturn, 1) := by decide +kernel
theorem dX5_isIn_0 : decode cX5_isIn 0 = .ok (.iload_n 0, 1) := by decide +kernel
theorem dX5_isIn_1 : decode cX5_isIn 1 = .ok (.iload_n 1, 1) := by decide +kernel
theorem dX5_isIn_2 : decode cX5_isIn 2 = .ok (.if_icmp .lt 12, 3) := by decide +kernel
theorem dX5_isIn_5 : decode cX5_isIn 5 = .ok (.iload_n 0, 1) := by decide +kernel
theorem dX5_isIn_6 : decode cX5_isIn 6 = .ok (.iload_n 2, 1) := by decide +kernel
theorem dX5_isIn_7 : decode cX5_isIn 7 = .ok (.if_icmp .gt 7, 3) := by decide +kernel
theorem dX5_isIn_10 : decode cX5_isIn 10 = .ok (.iconst 1, 1) := by decide +kernel
theorem dX5_isIn_11 : decode cX5_isIn 11 = .ok (.goto 4, 3) := by decide +kernel
theorem dX5_isIn_14 : decode cX5_isIn 14 = .ok (.iconst 0, 1) := by decide +kernel
theorem dX5_isIn_15 : decode cX5_isIn 15 = .ok (.ireturn, 1) := by decide +kernel
set_option maxRecDepth 20000 in
theorem ggX5_isPlace_X5_isIn : GoodIn wsX5_isPlace wsX5_isIn := goodIn_r _ [5] (by decide +kernel) (by decide +kernel)
set_option maxRecDepth 20000 in
theorem gX5_isPlace_X5_isIn : GoodIn wsX5_isPlace (va_wsS RX5 49 yX5_isIn wsX5_isIn) := goodIn_app (goodIn_of _ (by decide +kernel)) ggX5_isPlace_X5_isIn
theorem dX5_isPlace_0 : decode cX5_isPlace 0 = .ok (.iload_n 1, 1) := by decide +kernel
theorem dX5_isPlace_1 : decode cX5_isPlace 1 = .ok (.iconst 0, 1) := by decide +kernel
theorem dX5_isPlace_2 : decode cX5_isPlace 2 = .ok (.aload_n 0, 1) := by decide +kernel
theorem dX5_isPlace_3 : decode cX5_isPlace 3 = .ok (.getfield 46, 3) := by decide +kernel
theorem dX5_isPlace_6 : decode cX5_isPlace 6 = .ok (.iconst 1, 1) := by decide +kernel
theorem dX5_isPlace_7 : decode cX5_isPlace 7 = .ok (.isub, 1) := by decide +kernel
theorem dX5_isPlace_8 : decode cX5_isPlace 8 = .ok (.invokestatic 49, 3) := by decide +kernel
theorem dX5_isPlace_11 : decode cX5_isPlace 11 = .ok (.ireturn, 1) := by decide +kernel
set_option maxRecDepth 20000 in
theorem ggX5_isExit_X5_isPlace : GoodIn wsX5_isExit wsX5_isPlace := goodIn_r _ [6, 7, 8, 9, 5, 10, 11, 12, 13, 14, 15, 16, 17, 18, 19, 20, 21, 22] (by decide +kernel) (by decide +kernel)
set_option maxRecDepth 20000 in
theorem gX5_isExit_X5_isPlace : GoodIn wsX5_isExit (wsV RX5 53 RX5 yX5_isPlace wsX5_isPlace) := goodIn_app (goodIn_of _ (by decide +kernel)) ggX5_isExit_X5_isPlace
set_option maxRecDepth 20000 in
theorem ggX5_isExit_X5_isIn : GoodIn wsX5_isExit wsX5_isIn := goodIn_r _ [10] (by decide +kernel) (by decide +kernel)
set_option maxRecDepth 20000 in
theorem gX5_isExit_X5_isIn : GoodIn wsX5_isExit (va_wsS RX5 49 yX5_isIn wsX5_isIn) := goodIn_app (goodIn_of _ (by decide +kernel)) ggX5_isExit_X5_isIn
theorem dX5_isExit_0 : decode cX5_isExit 0 = .ok (.aload_n 0, 1) := by decide +kernel
theorem dX5_isExit_1 : decode cX5_isExit 1 = .ok (.iload_n 1, 1) := by decide +kernel
theorem dX5_isExit_2 : decode cX5_isExit 2 = .ok (.invokevirtual 53, 3) := by decide +kernel
theorem dX5_isExit_5 : decode cX5_isExit 5 = .ok (.ifCond .eq 23, 3) := by decide +kernel
theorem dX5_isExit_8 : decode cX5_isExit 8 = .ok (.iload_n 2, 1) := by decide +kernel
theorem dX5_isExit_9 : decode cX5_isExit 9 = .ok (.iconst 0, 1) := by decide +kernel
theorem dX5_isExit_10 : decode cX5_isExit 10 = .ok (.aload_n 0, 1) := by decide +kernel
theorem dX5_isExit_11 : decode cX5_isExit 11 = .ok (.getfield 9, 3) := by decide +kernel
theorem dX5_isExit_14 : decode cX5_isExit 14 = .ok (.iload_n 1, 1) := by decide +kernel
theorem dX5_isExit_15 : decode cX5_isExit 15 = .ok (.iaload, 1) := by decide +kernel
theorem dX5_isExit_16 : decode cX5_isExit 16 = .ok (.iconst 1, 1) := by decide +kernel
theorem dX5_isExit_17 : decode cX5_isExit 17 = .ok (.isub, 1) := by decide +kernel
theorem dX5_isExit_18 : decode cX5_isExit 18 = .ok (.invokestatic 49, 3) := by decide +kernel
theorem dX5_isExit_21 : decode cX5_isExit 21 = .ok (.ifCond .eq 7, 3) := by decide +kernel
theorem dX5_isExit_24 : decode cX5_isExit 24 = .ok (.iconst 1, 1) := by decide +kernel
theorem dX5_isExit_25 : decode cX5_isExit 25 = .ok (.goto 4, 3) := by decide +kernel
theorem dX5_isExit_28 : decode cX5_isExit 28 = .ok (.iconst 0, 1) := by decide +kernel
theorem dX5_isExit_29 : decode cX5_isExit 29 = .ok (.ireturn, 1) := by decide +kernel
set_option maxRecDepth 20000 in
theorem ggX5_addPlace_X5_no : GoodIn wsX5_addPlace wsX5_no := goodIn_r _ [8, 1, 9, 10, 11, 12, 13, 14, 15, 16, 17, 18, 19, 20] (by decide +kernel) (by decide +kernel)
set_option maxRecDepth 20000 in
theorem gX5_addPlace_X5_no : GoodIn wsX5_addPlace (wsV RX5 57 RX5 yX5_no wsX5_no) := goodIn_app (goodIn_of _ (by decide +kernel)) ggX5_addPlace_X5_no
theorem dX5_addPlace_0 : decode cX5_addPlace 0 = .ok (.aload_n 0, 1) := by decide +kernel
theorem dX5_addPlace_1 : decode cX5_addPlace 1 = .ok (.iconst 0, 1) := by decide +kernel
theorem dX5_addPlace_2 : decode cX5_addPlace 2 = .ok (.putfield 42, 3) := by decide +kernel
theorem dX5_addPlace_5 : decode cX5_addPlace 5 = .ok (.aload_n 0, 1) := by decide +kernel
theorem dX5_addPlace_6 : decode cX5_addPlace 6 = .ok (.getfield 46, 3) := by decide +kernel
theorem dX5_addPlace_9 : decode cX5_addPlace 9 = .ok (.bipush 10, 2) := by decide +kernel
theorem dX5_addPlace_11 : decode cX5_addPlace 11 = .ok (.if_icmp .ne 9, 3) := by decide +kernel
theorem dX5_addPlace_14 : decode cX5_addPlace 14 = .ok (.aload_n 0, 1) := by decide +kernel
theorem dX5_addPlace_15 : decode cX5_addPlace 15 = .ok (.iconst 1, 1) := by decide +kernel
theorem dX5_addPlace_16 : decode cX5_addPlace 16 = .ok (.invokevirtual 57, 3) := by decide +kernel
theorem dX5_addPlace_19 : decode cX5_addPlace 19 = .ok (.ireturn, 1) := by decide +kernel
theorem dX5_addPlace_20 : decode cX5_addPlace 20 = .ok (.aload_n 0, 1) := by decide +kernel
theorem dX5_addPlace_21 : decode cX5_addPlace 21 = .ok (.getfield 46, 3) := by decide +kernel
theorem dX5_addPlace_24 : decode cX5_addPlace 24 = .ok (.ifCond .ne 11, 3) := by decide +kernel
theorem dX5_addPlace_27 : decode cX5_addPlace 27 = .ok (.aload_n 0, 1) := by decide +kernel
theorem dX5_addPlace_28 : decode cX5_addPlace 28 = .ok (.getfield 35, 3) := by decide +kernel
theorem dX5_addPlace_31 : decode cX5_addPlace 31 = .ok (.iconst 0, 1) := by decide +kernel
theorem dX5_addPlace_32 : decode cX5_addPlace 32 = .ok (.putfield 61, 3) := by decide +kernel
theorem dX5_addPlace_35 : decode cX5_addPlace 35 = .ok (.aload_n 0, 1) := by decide +kernel
theorem dX5_addPlace_36 : decode cX5_addPlace 36 = .ok (.dup, 1) := by decide +kernel
theorem dX5_addPlace_37 : decode cX5_addPlace 37 = .ok (.getfield 46, 3) := by decide +kernel
theorem dX5_addPlace_40 : decode cX5_addPlace 40 = .ok (.iconst 1, 1) := by decide +kernel
theorem dX5_addPlace_41 : decode cX5_addPlace 41 = .ok (.iadd, 1) := by decide +kernel
theorem dX5_addPlace_42 : decode cX5_addPlace 42 = .ok (.putfield 46, 3) := by decide +kernel
theorem dX5_addPlace_45 : decode cX5_addPlace 45 = .ok (.aload_n 0, 1) := by decide +kernel
theorem dX5_addPlace_46 : decode cX5_addPlace 46 = .ok (.getfield 46, 3) := by decide +kernel
theorem dX5_addPlace_49 : decode cX5_addPlace 49 = .ok (.iconst 1, 1) := by decide +kernel
theorem dX5_addPlace_50 : decode cX5_addPlace 50 = .ok (.isub, 1) := by decide +kernel
theorem dX5_addPlace_51 : decode cX5_addPlace 51 = .ok (.ireturn, 1) := by decide +kernel
theorem dX5_addExit_0 : decode cX5_addExit 0 = .ok (.aload_n 0, 1) := by decide +kernel
theorem dX5_addExit_1 : decode cX5_addExit 1 = .ok (.getfield 13, 3) := by decide +kernel
theorem dX5_addExit_4 : decode cX5_addExit 4 = .ok (.iconst 4, 1) := by decide +kernel
theorem dX5_addExit_5 : decode cX5_addExit 5 = .ok (.iload_n 1, 1) := by decide +kernel
theorem dX5_addExit_6 : decode cX5_addExit 6 = .ok (.imul, 1) := by decide +kernel
theorem dX5_addExit_7 : decode cX5_addExit 7 = .ok (.aload_n 0, 1) := by decide +kernel
theorem dX5_addExit_8 : decode cX5_addExit 8 = .ok (.getfield 9, 3) := by decide +kernel
theorem dX5_addExit_11 : decode cX5_addExit 11 = .ok (.iload_n 1, 1) := by decide +kernel
theorem dX5_addExit_12 : decode cX5_addExit 12 = .ok (.iaload, 1) := by decide +kernel
theorem dX5_addExit_13 : decode cX5_addExit 13 = .ok (.iadd, 1) := by decide +kernel
theorem dX5_addExit_14 : decode cX5_addExit 14 = .ok (.aload_n 0, 1) := by decide +kernel
theorem dX5_addExit_15 : decode cX5_addExit 15 = .ok (.getfield 64, 3) := by decide +kernel
theorem dX5_addExit_18 : decode cX5_addExit 18 = .ok (.iastore, 1) := by decide +kernel
theorem dX5_addExit_19 : decode cX5_addExit 19 = .ok (.aload_n 0, 1) := by decide +kernel
theorem dX5_addExit_20 : decode cX5_addExit 20 = .ok (.getfield 16, 3) := by decide +kernel
theorem dX5_addExit_23 : decode cX5_addExit 23 = .ok (.iconst 4, 1) := by decide +kernel
theorem dX5_addExit_24 : decode cX5_addExit 24 = .ok (.iload_n 1, 1) := by decide +kernel
theorem dX5_addExit_25 : decode cX5_addExit 25 = .ok (.imul, 1) := by decide +kernel
theorem dX5_addExit_26 : decode cX5_addExit 26 = .ok (.aload_n 0, 1) := by decide +kernel
theorem dX5_addExit_27 : decode cX5_addExit 27 = .ok (.getfield 9, 3) := by decide +kernel
theorem dX5_addExit_30 : decode cX5_addExit 30 = .ok (.iload_n 1, 1) := by decide +kernel
theorem dX5_addExit_31 : decode cX5_addExit 31 = .ok (.iaload, 1) := by decide +kernel
theorem dX5_addExit_32 : decode cX5_addExit 32 = .ok (.iadd, 1) := by decide +kernel
theorem dX5_addExit_33 : decode cX5_addExit 33 = .ok (.iload_n 2, 1) := by decide +kernel
theorem dX5_addExit_34 : decode cX5_addExit 34 = .ok (.iastore, 1) := by decide +kernel
theorem dX5_addExit_35 : decode cX5_addExit 35 = .ok (.aload_n 0, 1) := by decide +kernel
theorem dX5_addExit_36 : decode cX5_addExit 36 = .ok (.getfield 9, 3) := by decide +kernel
theorem dX5_addExit_39 : decode cX5_addExit 39 = .ok (.iload_n 1, 1) := by decide +kernel
theorem dX5_addExit_40 : decode cX5_addExit 40 = .ok (.dup2, 1) := by decide +kernel
theorem dX5_addExit_41 : decode cX5_addExit 41 = .ok (.iaload, 1) := by decide +kernel
theorem dX5_addExit_42 : decode cX5_addExit 42 = .ok (.iconst 1, 1) := by decide +kernel
theorem dX5_addExit_43 : decode cX5_addExit 43 = .ok (.iadd, 1) := by decide +kernel
theorem dX5_addExit_44 : decode cX5_addExit 44 = .ok (.iastore, 1) := by decide +kernel
theorem dX5_addExit_45 : decode cX5_addExit 45 = .ok (.return_, 1) := by decide +kernel
set_option maxRecDepth 20000 in
theorem ggX5_addRoad_X5_isPlace : GoodIn wsX5_addRoad wsX5_isPlace := goodIn_r _ [11, 12, 13, 14, 10, 15, 26, 27, 28, 29, 30, 31, 32, 33, 34, 35, 36, 37] (by decide +kernel) (by decide +kernel)
set_option maxRecDepth 20000 in
theorem gX5_addRoad_X5_isPlace : GoodIn wsX5_addRoad (wsV RX5 53 RX5 yX5_isPlace wsX5_isPlace) := goodIn_app (goodIn_of _ (by decide +kernel)) ggX5_addRoad_X5_isPlace
set_option maxRecDepth 20000 in
theorem ggX5_addRoad_X5_no : GoodIn wsX5_addRoad wsX5_no := goodIn_r _ [19, 1, 26, 27, 28, 29, 30, 31, 32, 33, 34, 35, 36, 37] (by decide +kernel) (by decide +kernel)
set_option maxRecDepth 20000 in
theorem gX5_addRoad_X5_no : GoodIn wsX5_addRoad (wsV RX5 57 RX5 yX5_no wsX5_no) := goodIn_app (goodIn_of _ (by decide +kernel)) ggX5_addRoad_X5_no
set_option maxRecDepth 20000 in
theorem ggX5_addRoad_X5_isIn : GoodIn wsX5_addRoad wsX5_isIn := goodIn_r _ [15] (by decide +kernel) (by decide +kernel)
set_option maxRecDepth 20000 in
theorem gX5_addRoad_X5_isIn : GoodIn wsX5_addRoad (va_wsS RX5 49 yX5_isIn wsX5_isIn) := goodIn_app (goodIn_of _ (by decide +kernel)) ggX5_addRoad_X5_isIn
set_option maxRecDepth 20000 in
theorem ggX5_addRoad_X5_addExit : GoodIn wsX5_addRoad wsX5_addExit := goodIn_r _ [23, 24, 2, 4, 25, 26, 27, 28, 29, 30, 31, 32, 33, 34, 35, 36, 37] (by decide +kernel) (by decide +kernel)
set_option maxRecDepth 20000 in
theorem gX5_addRoad_X5_addExit : GoodIn wsX5_addRoad (wsV RX5 70 RX5 yX5_addExit wsX5_addExit) := goodIn_app (goodIn_of _ (by decide +kernel)) ggX5_addRoad_X5_addExit
theorem dX5_addRoad_0 : decode cX5_addRoad 0 = .ok (.aload_n 0, 1) := by decide +kernel
theorem dX5_addRoad_1 : decode cX5_addRoad 1 = .ok (.iconst 0, 1) := by decide +kernel
theorem dX5_addRoad_2 : decode cX5_addRoad 2 = .ok (.putfield 42, 3) := by decide +kernel
theorem dX5_addRoad_5 : decode cX5_addRoad 5 = .ok (.aload_n 0, 1) := by decide +kernel
theorem dX5_addRoad_6 : decode cX5_addRoad 6 = .ok (.iload_n 1, 1) := by decide +kernel
theorem dX5_addRoad_7 : decode cX5_addRoad 7 = .ok (.invokevirtual 53, 3) := by decide +kernel
theorem dX5_addRoad_10 : decode cX5_addRoad 10 = .ok (.ifCond .eq 11, 3) := by decide +kernel
theorem dX5_addRoad_13 : decode cX5_addRoad 13 = .ok (.aload_n 0, 1) := by decide +kernel
theorem dX5_addRoad_14 : decode cX5_addRoad 14 = .ok (.iload_n 2, 1) := by decide +kernel
theorem dX5_addRoad_15 : decode cX5_addRoad 15 = .ok (.invokevirtual 53, 3) := by decide +kernel
theorem dX5_addRoad_18 : decode cX5_addRoad 18 = .ok (.ifCond .ne 9, 3) := by decide +kernel
theorem dX5_addRoad_21 : decode cX5_addRoad 21 = .ok (.aload_n 0, 1) := by decide +kernel
theorem dX5_addRoad_22 : decode cX5_addRoad 22 = .ok (.iconst 1, 1) := by decide +kernel
theorem dX5_addRoad_23 : decode cX5_addRoad 23 = .ok (.invokevirtual 57, 3) := by decide +kernel
theorem dX5_addRoad_26 : decode cX5_addRoad 26 = .ok (.ireturn, 1) := by decide +kernel
theorem dX5_addRoad_27 : decode cX5_addRoad 27 = .ok (.iload_n 1, 1) := by decide +kernel
theorem dX5_addRoad_28 : decode cX5_addRoad 28 = .ok (.iload_n 2, 1) := by decide +kernel
theorem dX5_addRoad_29 : decode cX5_addRoad 29 = .ok (.if_icmp .eq 13, 3) := by decide +kernel
theorem dX5_addRoad_32 : decode cX5_addRoad 32 = .ok (.iload_n 3, 1) := by decide +kernel
theorem dX5_addRoad_33 : decode cX5_addRoad 33 = .ok (.iconst 1, 1) := by decide +kernel
theorem dX5_addRoad_34 : decode cX5_addRoad 34 = .ok (.bipush 9, 2) := by decide +kernel
theorem dX5_addRoad_36 : decode cX5_addRoad 36 = .ok (.invokestatic 49, 3) := by decide +kernel
theorem dX5_addRoad_39 : decode cX5_addRoad 39 = .ok (.ifCond .ne 9, 3) := by decide +kernel
theorem dX5_addRoad_42 : decode cX5_addRoad 42 = .ok (.aload_n 0, 1) := by decide +kernel
theorem dX5_addRoad_43 : decode cX5_addRoad 43 = .ok (.iconst 2, 1) := by decide +kernel
theorem dX5_addRoad_44 : decode cX5_addRoad 44 = .ok (.invokevirtual 57, 3) := by decide +kernel
theorem dX5_addRoad_47 : decode cX5_addRoad 47 = .ok (.ireturn, 1) := by decide +kernel
theorem dX5_addRoad_48 : decode cX5_addRoad 48 = .ok (.aload_n 0, 1) := by decide +kernel
theorem dX5_addRoad_49 : decode cX5_addRoad 49 = .ok (.getfield 9, 3) := by decide +kernel
theorem dX5_addRoad_52 : decode cX5_addRoad 52 = .ok (.iload_n 1, 1) := by decide +kernel
theorem dX5_addRoad_53 : decode cX5_addRoad 53 = .ok (.iaload, 1) := by decide +kernel
theorem dX5_addRoad_54 : decode cX5_addRoad 54 = .ok (.iconst 4, 1) := by decide +kernel
theorem dX5_addRoad_55 : decode cX5_addRoad 55 = .ok (.if_icmp .eq 13, 3) := by decide +kernel
theorem dX5_addRoad_58 : decode cX5_addRoad 58 = .ok (.aload_n 0, 1) := by decide +kernel
theorem dX5_addRoad_59 : decode cX5_addRoad 59 = .ok (.getfield 9, 3) := by decide +kernel
theorem dX5_addRoad_62 : decode cX5_addRoad 62 = .ok (.iload_n 2, 1) := by decide +kernel
theorem dX5_addRoad_63 : decode cX5_addRoad 63 = .ok (.iaload, 1) := by decide +kernel
theorem dX5_addRoad_64 : decode cX5_addRoad 64 = .ok (.iconst 4, 1) := by decide +kernel
theorem dX5_addRoad_65 : decode cX5_addRoad 65 = .ok (.if_icmp .ne 9, 3) := by decide +kernel
theorem dX5_addRoad_68 : decode cX5_addRoad 68 = .ok (.aload_n 0, 1) := by decide +kernel
theorem dX5_addRoad_69 : decode cX5_addRoad 69 = .ok (.iconst 3, 1) := by decide +kernel
theorem dX5_addRoad_70 : decode cX5_addRoad 70 = .ok (.invokevirtual 57, 3) := by decide +kernel
theorem dX5_addRoad_73 : decode cX5_addRoad 73 = .ok (.ireturn, 1) := by decide +kernel
theorem dX5_addRoad_74 : decode cX5_addRoad 74 = .ok (.aload_n 0, 1) := by decide +kernel
theorem dX5_addRoad_75 : decode cX5_addRoad 75 = .ok (.getfield 19, 3) := by decide +kernel
theorem dX5_addRoad_78 : decode cX5_addRoad 78 = .ok (.aload_n 0, 1) := by decide +kernel
theorem dX5_addRoad_79 : decode cX5_addRoad 79 = .ok (.getfield 64, 3) := by decide +kernel
theorem dX5_addRoad_82 : decode cX5_addRoad 82 = .ok (.iload_n 3, 1) := by decide +kernel
theorem dX5_addRoad_83 : decode cX5_addRoad 83 = .ok (.iastore, 1) := by decide +kernel
theorem dX5_addRoad_84 : decode cX5_addRoad 84 = .ok (.aload_n 0, 1) := by decide +kernel
theorem dX5_addRoad_85 : decode cX5_addRoad 85 = .ok (.getfield 22, 3) := by decide +kernel
theorem dX5_addRoad_88 : decode cX5_addRoad 88 = .ok (.aload_n 0, 1) := by decide +kernel
theorem dX5_addRoad_89 : decode cX5_addRoad 89 = .ok (.getfield 64, 3) := by decide +kernel
theorem dX5_addRoad_92 : decode cX5_addRoad 92 = .ok (.iconst 0, 1) := by decide +kernel
theorem dX5_addRoad_93 : decode cX5_addRoad 93 = .ok (.bastore, 1) := by decide +kernel
theorem dX5_addRoad_94 : decode cX5_addRoad 94 = .ok (.aload_n 0, 1) := by decide +kernel
theorem dX5_addRoad_95 : decode cX5_addRoad 95 = .ok (.getfield 35, 3) := by decide +kernel
theorem dX5_addRoad_98 : decode cX5_addRoad 98 = .ok (.getfield 67, 3) := by decide +kernel
theorem dX5_addRoad_101 : decode cX5_addRoad 101 = .ok (.aload_n 0, 1) := by decide +kernel
theorem dX5_addRoad_102 : decode cX5_addRoad 102 = .ok (.getfield 64, 3) := by decide +kernel
theorem dX5_addRoad_105 : decode cX5_addRoad 105 = .ok (.iconst 0, 1) := by decide +kernel
theorem dX5_addRoad_106 : decode cX5_addRoad 106 = .ok (.bastore, 1) := by decide +kernel
theorem dX5_addRoad_107 : decode cX5_addRoad 107 = .ok (.aload_n 0, 1) := by decide +kernel
theorem dX5_addRoad_108 : decode cX5_addRoad 108 = .ok (.iload_n 1, 1) := by decide +kernel
theorem dX5_addRoad_109 : decode cX5_addRoad 109 = .ok (.iload_n 2, 1) := by decide +kernel
theorem dX5_addRoad_110 : decode cX5_addRoad 110 = .ok (.invokevirtual 70, 3) := by decide +kernel
theorem dX5_addRoad_113 : decode cX5_addRoad 113 = .ok (.aload_n 0, 1) := by decide +kernel
theorem dX5_addRoad_114 : decode cX5_addRoad 114 = .ok (.iload_n 2, 1) := by decide +kernel
theorem dX5_addRoad_115 : decode cX5_addRoad 115 = .ok (.iload_n 1, 1) := by decide +kernel
theorem dX5_addRoad_116 : decode cX5_addRoad 116 = .ok (.invokevirtual 70, 3) := by decide +kernel
theorem dX5_addRoad_119 : decode cX5_addRoad 119 = .ok (.aload_n 0, 1) := by decide +kernel
theorem dX5_addRoad_120 : decode cX5_addRoad 120 = .ok (.dup, 1) := by decide +kernel
theorem dX5_addRoad_121 : decode cX5_addRoad 121 = .ok (.getfield 64, 3) := by decide +kernel
theorem dX5_addRoad_124 : decode cX5_addRoad 124 = .ok (.iconst 1, 1) := by decide +kernel
theorem dX5_addRoad_125 : decode cX5_addRoad 125 = .ok (.iadd, 1) := by decide +kernel
theorem dX5_addRoad_126 : decode cX5_addRoad 126 = .ok (.putfield 64, 3) := by decide +kernel
theorem dX5_addRoad_129 : decode cX5_addRoad 129 = .ok (.aload_n 0, 1) := by decide +kernel
theorem dX5_addRoad_130 : decode cX5_addRoad 130 = .ok (.getfield 9, 3) := by decide +kernel
theorem dX5_addRoad_133 : decode cX5_addRoad 133 = .ok (.iload_n 1, 1) := by decide +kernel
theorem dX5_addRoad_134 : decode cX5_addRoad 134 = .ok (.iaload, 1) := by decide +kernel
theorem dX5_addRoad_135 : decode cX5_addRoad 135 = .ok (.iconst 1, 1) := by decide +kernel
theorem dX5_addRoad_136 : decode cX5_addRoad 136 = .ok (.isub, 1) := by decide +kernel
theorem dX5_addRoad_137 : decode cX5_addRoad 137 = .ok (.ireturn, 1) := by decide +kernel
set_option maxRecDepth 20000 in
theorem ggX5_turnRoad_X5_isExit : GoodIn wsX5_turnRoad wsX5_isExit := goodIn_r _ [8, 9, 10, 11, 12, 7, 13, 14, 15, 16, 17, 22, 23, 24, 25, 26, 27, 28, 29, 30, 31, 32, 33] (by decide +kernel) (by decide +kernel)
set_option maxRecDepth 20000 in
theorem gX5_turnRoad_X5_isExit : GoodIn wsX5_turnRoad (wsV RX5 74 RX5 yX5_isExit wsX5_isExit) := goodIn_app (goodIn_of _ (by decide +kernel)) ggX5_turnRoad_X5_isExit
set_option maxRecDepth 20000 in
theorem ggX5_turnRoad_X5_isNot : GoodIn wsX5_turnRoad wsX5_isNot := goodIn_r _ [21, 1, 22, 23, 24, 25, 26, 27, 28, 29, 30, 31, 32, 33] (by decide +kernel) (by decide +kernel)
set_option maxRecDepth 20000 in
theorem gX5_turnRoad_X5_isNot : GoodIn wsX5_turnRoad (wsV RX5 78 RX5 yX5_isNot wsX5_isNot) := goodIn_app (goodIn_of _ (by decide +kernel)) ggX5_turnRoad_X5_isNot
theorem dX5_turnRoad_0 : decode cX5_turnRoad 0 = .ok (.aload_n 0, 1) := by decide +kernel
theorem dX5_turnRoad_1 : decode cX5_turnRoad 1 = .ok (.iconst 0, 1) := by decide +kernel
theorem dX5_turnRoad_2 : decode cX5_turnRoad 2 = .ok (.putfield 42, 3) := by decide +kernel
theorem dX5_turnRoad_5 : decode cX5_turnRoad 5 = .ok (.aload_n 0, 1) := by decide +kernel
theorem dX5_turnRoad_6 : decode cX5_turnRoad 6 = .ok (.iload_n 1, 1) := by decide +kernel
theorem dX5_turnRoad_7 : decode cX5_turnRoad 7 = .ok (.iload_n 2, 1) := by decide +kernel
theorem dX5_turnRoad_8 : decode cX5_turnRoad 8 = .ok (.invokevirtual 74, 3) := by decide +kernel
theorem dX5_turnRoad_11 : decode cX5_turnRoad 11 = .ok (.ifCond .ne 9, 3) := by decide +kernel
theorem dX5_turnRoad_14 : decode cX5_turnRoad 14 = .ok (.aload_n 0, 1) := by decide +kernel
theorem dX5_turnRoad_15 : decode cX5_turnRoad 15 = .ok (.iconst 1, 1) := by decide +kernel
theorem dX5_turnRoad_16 : decode cX5_turnRoad 16 = .ok (.invokevirtual 78, 3) := by decide +kernel
theorem dX5_turnRoad_19 : decode cX5_turnRoad 19 = .ok (.ireturn, 1) := by decide +kernel
theorem dX5_turnRoad_20 : decode cX5_turnRoad 20 = .ok (.aload_n 0, 1) := by decide +kernel
theorem dX5_turnRoad_21 : decode cX5_turnRoad 21 = .ok (.getfield 13, 3) := by decide +kernel
theorem dX5_turnRoad_24 : decode cX5_turnRoad 24 = .ok (.iconst 4, 1) := by decide +kernel
theorem dX5_turnRoad_25 : decode cX5_turnRoad 25 = .ok (.iload_n 1, 1) := by decide +kernel
theorem dX5_turnRoad_26 : decode cX5_turnRoad 26 = .ok (.imul, 1) := by decide +kernel
theorem dX5_turnRoad_27 : decode cX5_turnRoad 27 = .ok (.iload_n 2, 1) := by decide +kernel
theorem dX5_turnRoad_28 : decode cX5_turnRoad 28 = .ok (.iadd, 1) := by decide +kernel
theorem dX5_turnRoad_29 : decode cX5_turnRoad 29 = .ok (.iaload, 1) := by decide +kernel
theorem dX5_turnRoad_30 : decode cX5_turnRoad 30 = .ok (.istore_n 3, 1) := by decide +kernel
theorem dX5_turnRoad_31 : decode cX5_turnRoad 31 = .ok (.aload_n 0, 1) := by decide +kernel
theorem dX5_turnRoad_32 : decode cX5_turnRoad 32 = .ok (.getfield 22, 3) := by decide +kernel
theorem dX5_turnRoad_35 : decode cX5_turnRoad 35 = .ok (.iload_n 3, 1) := by decide +kernel
theorem dX5_turnRoad_36 : decode cX5_turnRoad 36 = .ok (.aload_n 0, 1) := by decide +kernel
theorem dX5_turnRoad_37 : decode cX5_turnRoad 37 = .ok (.getfield 22, 3) := by decide +kernel
theorem dX5_turnRoad_40 : decode cX5_turnRoad 40 = .ok (.iload_n 3, 1) := by decide +kernel
theorem dX5_turnRoad_41 : decode cX5_turnRoad 41 = .ok (.baload, 1) := by decide +kernel
theorem dX5_turnRoad_42 : decode cX5_turnRoad 42 = .ok (.ifCond .ne 7, 3) := by decide +kernel
theorem dX5_turnRoad_45 : decode cX5_turnRoad 45 = .ok (.iconst 1, 1) := by decide +kernel
theorem dX5_turnRoad_46 : decode cX5_turnRoad 46 = .ok (.goto 4, 3) := by decide +kernel
theorem dX5_turnRoad_49 : decode cX5_turnRoad 49 = .ok (.iconst 0, 1) := by decide +kernel
theorem dX5_turnRoad_50 : decode cX5_turnRoad 50 = .ok (.bastore, 1) := by decide +kernel
theorem dX5_turnRoad_51 : decode cX5_turnRoad 51 = .ok (.aload_n 0, 1) := by decide +kernel
theorem dX5_turnRoad_52 : decode cX5_turnRoad 52 = .ok (.getfield 22, 3) := by decide +kernel
theorem dX5_turnRoad_55 : decode cX5_turnRoad 55 = .ok (.iload_n 3, 1) := by decide +kernel
theorem dX5_turnRoad_56 : decode cX5_turnRoad 56 = .ok (.baload, 1) := by decide +kernel
theorem dX5_turnRoad_57 : decode cX5_turnRoad 57 = .ok (.ifCond .ne 7, 3) := by decide +kernel
theorem dX5_turnRoad_60 : decode cX5_turnRoad 60 = .ok (.iconst 1, 1) := by decide +kernel
theorem dX5_turnRoad_61 : decode cX5_turnRoad 61 = .ok (.goto 4, 3) := by decide +kernel
theorem dX5_turnRoad_64 : decode cX5_turnRoad 64 = .ok (.iconst 0, 1) := by decide +kernel
theorem dX5_turnRoad_65 : decode cX5_turnRoad 65 = .ok (.ireturn, 1) := by decide +kernel
set_option maxRecDepth 20000 in
theorem ggX5_turnShepherd_X5_isPlace : GoodIn wsX5_turnShepherd wsX5_isPlace := goodIn_r _ [7, 8, 9, 10, 6, 11, 16, 17, 18, 19, 20, 21, 22, 23, 24, 25, 26, 27] (by decide +kernel) (by decide +kernel)
set_option maxRecDepth 20000 in
theorem gX5_turnShepherd_X5_isPlace : GoodIn wsX5_turnShepherd (wsV RX5 53 RX5 yX5_isPlace wsX5_isPlace) := goodIn_app (goodIn_of _ (by decide +kernel)) ggX5_turnShepherd_X5_isPlace
set_option maxRecDepth 20000 in
theorem ggX5_turnShepherd_X5_isNot : GoodIn wsX5_turnShepherd wsX5_isNot := goodIn_r _ [15, 1, 16, 17, 18, 19, 20, 21, 22, 23, 24, 25, 26, 27] (by decide +kernel) (by decide +kernel)
set_option maxRecDepth 20000 in
theorem gX5_turnShepherd_X5_isNot : GoodIn wsX5_turnShepherd (wsV RX5 78 RX5 yX5_isNot wsX5_isNot) := goodIn_app (goodIn_of _ (by decide +kernel)) ggX5_turnShepherd_X5_isNot
theorem dX5_turnShepherd_0 : decode cX5_turnShepherd 0 = .ok (.aload_n 0, 1) := by decide +kernel
theorem dX5_turnShepherd_1 : decode cX5_turnShepherd 1 = .ok (.iconst 0, 1) := by decide +kernel
theorem dX5_turnShepherd_2 : decode cX5_turnShepherd 2 = .ok (.putfield 42, 3) := by decide +kernel
theorem dX5_turnShepherd_5 : decode cX5_turnShepherd 5 = .ok (.aload_n 0, 1) := by decide +kernel
theorem dX5_turnShepherd_6 : decode cX5_turnShepherd 6 = .ok (.iload_n 1, 1) := by decide +kernel
theorem dX5_turnShepherd_7 : decode cX5_turnShepherd 7 = .ok (.invokevirtual 53, 3) := by decide +kernel
theorem dX5_turnShepherd_10 : decode cX5_turnShepherd 10 = .ok (.ifCond .ne 9, 3) := by decide +kernel
theorem dX5_turnShepherd_13 : decode cX5_turnShepherd 13 = .ok (.aload_n 0, 1) := by decide +kernel
theorem dX5_turnShepherd_14 : decode cX5_turnShepherd 14 = .ok (.iconst 1, 1) := by decide +kernel
theorem dX5_turnShepherd_15 : decode cX5_turnShepherd 15 = .ok (.invokevirtual 78, 3) := by decide +kernel
theorem dX5_turnShepherd_18 : decode cX5_turnShepherd 18 = .ok (.ireturn, 1) := by decide +kernel
theorem dX5_turnShepherd_19 : decode cX5_turnShepherd 19 = .ok (.aload_n 0, 1) := by decide +kernel
theorem dX5_turnShepherd_20 : decode cX5_turnShepherd 20 = .ok (.getfield 26, 3) := by decide +kernel
theorem dX5_turnShepherd_23 : decode cX5_turnShepherd 23 = .ok (.iload_n 1, 1) := by decide +kernel
theorem dX5_turnShepherd_24 : decode cX5_turnShepherd 24 = .ok (.aload_n 0, 1) := by decide +kernel
theorem dX5_turnShepherd_25 : decode cX5_turnShepherd 25 = .ok (.getfield 26, 3) := by decide +kernel
theorem dX5_turnShepherd_28 : decode cX5_turnShepherd 28 = .ok (.iload_n 1, 1) := by decide +kernel
theorem dX5_turnShepherd_29 : decode cX5_turnShepherd 29 = .ok (.baload, 1) := by decide +kernel
theorem dX5_turnShepherd_30 : decode cX5_turnShepherd 30 = .ok (.ifCond .ne 7, 3) := by decide +kernel
theorem dX5_turnShepherd_33 : decode cX5_turnShepherd 33 = .ok (.iconst 1, 1) := by decide +kernel
theorem dX5_turnShepherd_34 : decode cX5_turnShepherd 34 = .ok (.goto 4, 3) := by decide +kernel
theorem dX5_turnShepherd_37 : decode cX5_turnShepherd 37 = .ok (.iconst 0, 1) := by decide +kernel
theorem dX5_turnShepherd_38 : decode cX5_turnShepherd 38 = .ok (.bastore, 1) := by decide +kernel
theorem dX5_turnShepherd_39 : decode cX5_turnShepherd 39 = .ok (.aload_n 0, 1) := by decide +kernel
theorem dX5_turnShepherd_40 : decode cX5_turnShepherd 40 = .ok (.getfield 26, 3) := by decide +kernel
theorem dX5_turnShepherd_43 : decode cX5_turnShepherd 43 = .ok (.iload_n 1, 1) := by decide +kernel
theorem dX5_turnShepherd_44 : decode cX5_turnShepherd 44 = .ok (.baload, 1) := by decide +kernel
theorem dX5_turnShepherd_45 : decode cX5_turnShepherd 45 = .ok (.ireturn, 1) := by decide +kernel
theorem dX5_measure_0 : decode cX5_measure 0 = .ok (.iconst 0, 1) := by decide +kernel
theorem dX5_measure_1 : decode cX5_measure 1 = .ok (.istore_n 2, 1) := by decide +kernel
theorem dX5_measure_2 : decode cX5_measure 2 = .ok (.iload_n 2, 1) := by decide +kernel
theorem dX5_measure_3 : decode cX5_measure 3 = .ok (.aload_n 0, 1) := by decide +kernel
theorem dX5_measure_4 : decode cX5_measure 4 = .ok (.getfield 46, 3) := by decide +kernel
theorem dX5_measure_7 : decode cX5_measure 7 = .ok (.if_icmp .ge 27, 3) := by decide +kernel
theorem dX5_measure_10 : decode cX5_measure 10 = .ok (.aload_n 0, 1) := by decide +kernel
theorem dX5_measure_11 : decode cX5_measure 11 = .ok (.getfield 29, 3) := by decide +kernel
theorem dX5_measure_14 : decode cX5_measure 14 = .ok (.iload_n 2, 1) := by decide +kernel
theorem dX5_measure_15 : decode cX5_measure 15 = .ok (.iload_n 2, 1) := by decide +kernel
theorem dX5_measure_16 : decode cX5_measure 16 = .ok (.iload_n 1, 1) := by decide +kernel
theorem dX5_measure_17 : decode cX5_measure 17 = .ok (.if_icmp .ne 7, 3) := by decide +kernel
theorem dX5_measure_20 : decode cX5_measure 20 = .ok (.iconst 0, 1) := by decide +kernel
theorem dX5_measure_21 : decode cX5_measure 21 = .ok (.goto 6, 3) := by decide +kernel
theorem dX5_measure_24 : decode cX5_measure 24 = .ok (.sipush 9999, 3) := by decide +kernel
theorem dX5_measure_27 : decode cX5_measure 27 = .ok (.iastore, 1) := by decide +kernel
theorem dX5_measure_28 : decode cX5_measure 28 = .ok (.iinc 2 1, 3) := by decide +kernel
theorem dX5_measure_31 : decode cX5_measure 31 = .ok (.goto (-29), 3) := by decide +kernel
theorem dX5_measure_34 : decode cX5_measure 34 = .ok (.iconst 1, 1) := by decide +kernel
theorem dX5_measure_35 : decode cX5_measure 35 = .ok (.istore_n 2, 1) := by decide +kernel
theorem dX5_measure_36 : decode cX5_measure 36 = .ok (.iload_n 2, 1) := by decide +kernel
theorem dX5_measure_37 : decode cX5_measure 37 = .ok (.ifCond .eq 126, 3) := by decide +kernel
theorem dX5_measure_40 : decode cX5_measure 40 = .ok (.iconst 0, 1) := by decide +kernel
theorem dX5_measure_41 : decode cX5_measure 41 = .ok (.istore_n 2, 1) := by decide +kernel
theorem dX5_measure_42 : decode cX5_measure 42 = .ok (.iconst 0, 1) := by decide +kernel
theorem dX5_measure_43 : decode cX5_measure 43 = .ok (.istore_n 3, 1) := by decide +kernel
theorem dX5_measure_44 : decode cX5_measure 44 = .ok (.iload_n 3, 1) := by decide +kernel
theorem dX5_measure_45 : decode cX5_measure 45 = .ok (.iconst 4, 1) := by decide +kernel
theorem dX5_measure_46 : decode cX5_measure 46 = .ok (.aload_n 0, 1) := by decide +kernel
theorem dX5_measure_47 : decode cX5_measure 47 = .ok (.getfield 46, 3) := by decide +kernel
theorem dX5_measure_50 : decode cX5_measure 50 = .ok (.imul, 1) := by decide +kernel
theorem dX5_measure_51 : decode cX5_measure 51 = .ok (.if_icmp .ge 109, 3) := by decide +kernel
theorem dX5_measure_54 : decode cX5_measure 54 = .ok (.iload_n 3, 1) := by decide +kernel
theorem dX5_measure_55 : decode cX5_measure 55 = .ok (.iconst 4, 1) := by decide +kernel
theorem dX5_measure_56 : decode cX5_measure 56 = .ok (.idiv, 1) := by decide +kernel
theorem dX5_measure_57 : decode cX5_measure 57 = .ok (.istore 4, 2) := by decide +kernel
theorem dX5_measure_59 : decode cX5_measure 59 = .ok (.iload_n 3, 1) := by decide +kernel
theorem dX5_measure_60 : decode cX5_measure 60 = .ok (.iconst 4, 1) := by decide +kernel
theorem dX5_measure_61 : decode cX5_measure 61 = .ok (.irem, 1) := by decide +kernel
theorem dX5_measure_62 : decode cX5_measure 62 = .ok (.aload_n 0, 1) := by decide +kernel
theorem dX5_measure_63 : decode cX5_measure 63 = .ok (.getfield 9, 3) := by decide +kernel
theorem dX5_measure_66 : decode cX5_measure 66 = .ok (.iload 4, 2) := by decide +kernel
theorem dX5_measure_68 : decode cX5_measure 68 = .ok (.iaload, 1) := by decide +kernel
theorem dX5_measure_69 : decode cX5_measure 69 = .ok (.if_icmp .ge 85, 3) := by decide +kernel
theorem dX5_measure_72 : decode cX5_measure 72 = .ok (.aload_n 0, 1) := by decide +kernel
theorem dX5_measure_73 : decode cX5_measure 73 = .ok (.getfield 22, 3) := by decide +kernel
theorem dX5_measure_76 : decode cX5_measure 76 = .ok (.aload_n 0, 1) := by decide +kernel
theorem dX5_measure_77 : decode cX5_measure 77 = .ok (.getfield 13, 3) := by decide +kernel
theorem dX5_measure_80 : decode cX5_measure 80 = .ok (.iload_n 3, 1) := by decide +kernel
theorem dX5_measure_81 : decode cX5_measure 81 = .ok (.iaload, 1) := by decide +kernel
theorem dX5_measure_82 : decode cX5_measure 82 = .ok (.baload, 1) := by decide +kernel
theorem dX5_measure_83 : decode cX5_measure 83 = .ok (.ifCond .ne 71, 3) := by decide +kernel
theorem dX5_measure_86 : decode cX5_measure 86 = .ok (.aload_n 0, 1) := by decide +kernel
theorem dX5_measure_87 : decode cX5_measure 87 = .ok (.getfield 29, 3) := by decide +kernel
theorem dX5_measure_90 : decode cX5_measure 90 = .ok (.aload_n 0, 1) := by decide +kernel
theorem dX5_measure_91 : decode cX5_measure 91 = .ok (.getfield 16, 3) := by decide +kernel
theorem dX5_measure_94 : decode cX5_measure 94 = .ok (.iload_n 3, 1) := by decide +kernel
theorem dX5_measure_95 : decode cX5_measure 95 = .ok (.iaload, 1) := by decide +kernel
theorem dX5_measure_96 : decode cX5_measure 96 = .ok (.iaload, 1) := by decide +kernel
theorem dX5_measure_97 : decode cX5_measure 97 = .ok (.aload_n 0, 1) := by decide +kernel
theorem dX5_measure_98 : decode cX5_measure 98 = .ok (.getfield 19, 3) := by decide +kernel
theorem dX5_measure_101 : decode cX5_measure 101 = .ok (.aload_n 0, 1) := by decide +kernel
theorem dX5_measure_102 : decode cX5_measure 102 = .ok (.getfield 13, 3) := by decide +kernel
theorem dX5_measure_105 : decode cX5_measure 105 = .ok (.iload_n 3, 1) := by decide +kernel
theorem dX5_measure_106 : decode cX5_measure 106 = .ok (.iaload, 1) := by decide +kernel
theorem dX5_measure_107 : decode cX5_measure 107 = .ok (.iaload, 1) := by decide +kernel
theorem dX5_measure_108 : decode cX5_measure 108 = .ok (.iadd, 1) := by decide +kernel
theorem dX5_measure_109 : decode cX5_measure 109 = .ok (.aload_n 0, 1) := by decide +kernel
theorem dX5_measure_110 : decode cX5_measure 110 = .ok (.getfield 29, 3) := by decide +kernel
theorem dX5_measure_113 : decode cX5_measure 113 = .ok (.iload 4, 2) := by decide +kernel
theorem dX5_measure_115 : decode cX5_measure 115 = .ok (.iaload, 1) := by decide +kernel
theorem dX5_measure_116 : decode cX5_measure 116 = .ok (.if_icmp .lt 6, 3) := by decide +kernel
theorem dX5_measure_119 : decode cX5_measure 119 = .ok (.goto 35, 3) := by decide +kernel
theorem dX5_measure_122 : decode cX5_measure 122 = .ok (.aload_n 0, 1) := by decide +kernel
theorem dX5_measure_123 : decode cX5_measure 123 = .ok (.getfield 29, 3) := by decide +kernel
theorem dX5_measure_126 : decode cX5_measure 126 = .ok (.iload 4, 2) := by decide +kernel
theorem dX5_measure_128 : decode cX5_measure 128 = .ok (.aload_n 0, 1) := by decide +kernel
theorem dX5_measure_129 : decode cX5_measure 129 = .ok (.getfield 29, 3) := by decide +kernel
theorem dX5_measure_132 : decode cX5_measure 132 = .ok (.aload_n 0, 1) := by decide +kernel
theorem dX5_measure_133 : decode cX5_measure 133 = .ok (.getfield 16, 3) := by decide +kernel
theorem dX5_measure_136 : decode cX5_measure 136 = .ok (.iload_n 3, 1) := by decide +kernel
theorem dX5_measure_137 : decode cX5_measure 137 = .ok (.iaload, 1) := by decide +kernel
theorem dX5_measure_138 : decode cX5_measure 138 = .ok (.iaload, 1) := by decide +kernel
theorem dX5_measure_139 : decode cX5_measure 139 = .ok (.aload_n 0, 1) := by decide +kernel
theorem dX5_measure_140 : decode cX5_measure 140 = .ok (.getfield 19, 3) := by decide +kernel
theorem dX5_measure_143 : decode cX5_measure 143 = .ok (.aload_n 0, 1) := by decide +kernel
theorem dX5_measure_144 : decode cX5_measure 144 = .ok (.getfield 13, 3) := by decide +kernel
theorem dX5_measure_147 : decode cX5_measure 147 = .ok (.iload_n 3, 1) := by decide +kernel
theorem dX5_measure_148 : decode cX5_measure 148 = .ok (.iaload, 1) := by decide +kernel
theorem dX5_measure_149 : decode cX5_measure 149 = .ok (.iaload, 1) := by decide +kernel
theorem dX5_measure_150 : decode cX5_measure 150 = .ok (.iadd, 1) := by decide +kernel
theorem dX5_measure_151 : decode cX5_measure 151 = .ok (.iastore, 1) := by decide +kernel
theorem dX5_measure_152 : decode cX5_measure 152 = .ok (.iconst 1, 1) := by decide +kernel
theorem dX5_measure_153 : decode cX5_measure 153 = .ok (.istore_n 2, 1) := by decide +kernel
theorem dX5_measure_154 : decode cX5_measure 154 = .ok (.iinc 3 1, 3) := by decide +kernel
theorem dX5_measure_157 : decode cX5_measure 157 = .ok (.goto (-113), 3) := by decide +kernel
theorem dX5_measure_160 : decode cX5_measure 160 = .ok (.goto (-124), 3) := by decide +kernel
theorem dX5_measure_163 : decode cX5_measure 163 = .ok (.return_, 1) := by decide +kernel
theorem dX5_canTake_0 : decode cX5_canTake 0 = .ok (.aload_n 0, 1) := by decide +kernel
theorem dX5_canTake_1 : decode cX5_canTake 1 = .ok (.getfield 22, 3) := by decide +kernel
theorem dX5_canTake_4 : decode cX5_canTake 4 = .ok (.aload_n 0, 1) := by decide +kernel
theorem dX5_canTake_5 : decode cX5_canTake 5 = .ok (.getfield 13, 3) := by decide +kernel
theorem dX5_canTake_8 : decode cX5_canTake 8 = .ok (.iload_n 2, 1) := by decide +kernel
theorem dX5_canTake_9 : decode cX5_canTake 9 = .ok (.iaload, 1) := by decide +kernel
theorem dX5_canTake_10 : decode cX5_canTake 10 = .ok (.baload, 1) := by decide +kernel
theorem dX5_canTake_11 : decode cX5_canTake 11 = .ok (.ifCond .ne 21, 3) := by decide +kernel
theorem dX5_canTake_14 : decode cX5_canTake 14 = .ok (.aload_n 1, 1) := by decide +kernel
theorem dX5_canTake_15 : decode cX5_canTake 15 = .ok (.getfield 67, 3) := by decide +kernel
theorem dX5_canTake_18 : decode cX5_canTake 18 = .ok (.aload_n 0, 1) := by decide +kernel
theorem dX5_canTake_19 : decode cX5_canTake 19 = .ok (.getfield 13, 3) := by decide +kernel
theorem dX5_canTake_22 : decode cX5_canTake 22 = .ok (.iload_n 2, 1) := by decide +kernel
theorem dX5_canTake_23 : decode cX5_canTake 23 = .ok (.iaload, 1) := by decide +kernel
theorem dX5_canTake_24 : decode cX5_canTake 24 = .ok (.baload, 1) := by decide +kernel
theorem dX5_canTake_25 : decode cX5_canTake 25 = .ok (.ifCond .ne 7, 3) := by decide +kernel
theorem dX5_canTake_28 : decode cX5_canTake 28 = .ok (.iconst 1, 1) := by decide +kernel
theorem dX5_canTake_29 : decode cX5_canTake 29 = .ok (.goto 4, 3) := by decide +kernel
theorem dX5_canTake_32 : decode cX5_canTake 32 = .ok (.iconst 0, 1) := by decide +kernel
theorem dX5_canTake_33 : decode cX5_canTake 33 = .ok (.ireturn, 1) := by decide +kernel
theorem dX5_take_0 : decode cX5_take 0 = .ok (.aload_n 1, 1) := by decide +kernel
theorem dX5_take_1 : decode cX5_take 1 = .ok (.getfield 67, 3) := by decide +kernel
theorem dX5_take_4 : decode cX5_take 4 = .ok (.aload_n 0, 1) := by decide +kernel
theorem dX5_take_5 : decode cX5_take 5 = .ok (.getfield 13, 3) := by decide +kernel
theorem dX5_take_8 : decode cX5_take 8 = .ok (.iload_n 2, 1) := by decide +kernel
theorem dX5_take_9 : decode cX5_take 9 = .ok (.iaload, 1) := by decide +kernel
theorem dX5_take_10 : decode cX5_take 10 = .ok (.iconst 1, 1) := by decide +kernel
theorem dX5_take_11 : decode cX5_take 11 = .ok (.bastore, 1) := by decide +kernel
theorem dX5_take_12 : decode cX5_take 12 = .ok (.aload_n 1, 1) := by decide +kernel
theorem dX5_take_13 : decode cX5_take 13 = .ok (.getfield 81, 3) := by decide +kernel
theorem dX5_take_16 : decode cX5_take 16 = .ok (.aload_n 1, 1) := by decide +kernel
theorem dX5_take_17 : decode cX5_take 17 = .ok (.getfield 84, 3) := by decide +kernel
theorem dX5_take_20 : decode cX5_take 20 = .ok (.iload_n 2, 1) := by decide +kernel
theorem dX5_take_21 : decode cX5_take 21 = .ok (.iastore, 1) := by decide +kernel
theorem dX5_take_22 : decode cX5_take 22 = .ok (.aload_n 1, 1) := by decide +kernel
theorem dX5_take_23 : decode cX5_take 23 = .ok (.dup, 1) := by decide +kernel
theorem dX5_take_24 : decode cX5_take 24 = .ok (.getfield 84, 3) := by decide +kernel
theorem dX5_take_27 : decode cX5_take 27 = .ok (.iconst 1, 1) := by decide +kernel
theorem dX5_take_28 : decode cX5_take 28 = .ok (.iadd, 1) := by decide +kernel
theorem dX5_take_29 : decode cX5_take 29 = .ok (.putfield 84, 3) := by decide +kernel
theorem dX5_take_32 : decode cX5_take 32 = .ok (.aload_n 1, 1) := by decide +kernel
theorem dX5_take_33 : decode cX5_take 33 = .ok (.aload_n 0, 1) := by decide +kernel
theorem dX5_take_34 : decode cX5_take 34 = .ok (.getfield 16, 3) := by decide +kernel
theorem dX5_take_37 : decode cX5_take 37 = .ok (.iload_n 2, 1) := by decide +kernel
theorem dX5_take_38 : decode cX5_take 38 = .ok (.iaload, 1) := by decide +kernel
theorem dX5_take_39 : decode cX5_take 39 = .ok (.putfield 61, 3) := by decide +kernel
theorem dX5_take_42 : decode cX5_take 42 = .ok (.aload_n 1, 1) := by decide +kernel
theorem dX5_take_43 : decode cX5_take 43 = .ok (.dup, 1) := by decide +kernel
theorem dX5_take_44 : decode cX5_take 44 = .ok (.getfield 87, 3) := by decide +kernel
theorem dX5_take_47 : decode cX5_take 47 = .ok (.aload_n 0, 1) := by decide +kernel
theorem dX5_take_48 : decode cX5_take 48 = .ok (.getfield 19, 3) := by decide +kernel
theorem dX5_take_51 : decode cX5_take 51 = .ok (.aload_n 0, 1) := by decide +kernel
theorem dX5_take_52 : decode cX5_take 52 = .ok (.getfield 13, 3) := by decide +kernel
theorem dX5_take_55 : decode cX5_take 55 = .ok (.iload_n 2, 1) := by decide +kernel
theorem dX5_take_56 : decode cX5_take 56 = .ok (.iaload, 1) := by decide +kernel
theorem dX5_take_57 : decode cX5_take 57 = .ok (.iaload, 1) := by decide +kernel
theorem dX5_take_58 : decode cX5_take 58 = .ok (.iadd, 1) := by decide +kernel
theorem dX5_take_59 : decode cX5_take 59 = .ok (.putfield 87, 3) := by decide +kernel
theorem dX5_take_62 : decode cX5_take 62 = .ok (.return_, 1) := by decide +kernel
set_option maxRecDepth 20000 in
theorem ggX5_toldExit_X5_measure : GoodIn wsX5_toldExit wsX5_measure := goodIn_r _ [11, 12, 4, 1, 2, 3, 5, 6, 13, 14, 15, 16, 17, 18, 19, 20, 21, 22, 23, 24] (by decide +kernel) (by decide +kernel)
set_option maxRecDepth 20000 in
theorem gX5_toldExit_X5_measure : GoodIn wsX5_toldExit (wsV RX5 90 RX5 yX5_measure wsX5_measure) := goodIn_app (goodIn_of _ (by decide +kernel)) ggX5_toldExit_X5_measure
theorem dX5_toldExit_0 : decode cX5_toldExit 0 = .ok (.aload_n 0, 1) := by decide +kernel
theorem dX5_toldExit_1 : decode cX5_toldExit 1 = .ok (.iload_n 2, 1) := by decide +kernel
theorem dX5_toldExit_2 : decode cX5_toldExit 2 = .ok (.invokevirtual 90, 3) := by decide +kernel
theorem dX5_toldExit_5 : decode cX5_toldExit 5 = .ok (.iconst (-1), 1) := by decide +kernel
theorem dX5_toldExit_6 : decode cX5_toldExit 6 = .ok (.istore_n 3, 1) := by decide +kernel
theorem dX5_toldExit_7 : decode cX5_toldExit 7 = .ok (.sipush 9999, 3) := by decide +kernel
theorem dX5_toldExit_10 : decode cX5_toldExit 10 = .ok (.istore 4, 2) := by decide +kernel
theorem dX5_toldExit_12 : decode cX5_toldExit 12 = .ok (.iconst 0, 1) := by decide +kernel
theorem dX5_toldExit_13 : decode cX5_toldExit 13 = .ok (.istore 5, 2) := by decide +kernel
theorem dX5_toldExit_15 : decode cX5_toldExit 15 = .ok (.iload 5, 2) := by decide +kernel
theorem dX5_toldExit_17 : decode cX5_toldExit 17 = .ok (.aload_n 0, 1) := by decide +kernel
theorem dX5_toldExit_18 : decode cX5_toldExit 18 = .ok (.getfield 9, 3) := by decide +kernel
theorem dX5_toldExit_21 : decode cX5_toldExit 21 = .ok (.iload_n 1, 1) := by decide +kernel
theorem dX5_toldExit_22 : decode cX5_toldExit 22 = .ok (.iaload, 1) := by decide +kernel
theorem dX5_toldExit_23 : decode cX5_toldExit 23 = .ok (.if_icmp .ge 95, 3) := by decide +kernel
theorem dX5_toldExit_26 : decode cX5_toldExit 26 = .ok (.iconst 4, 1) := by decide +kernel
theorem dX5_toldExit_27 : decode cX5_toldExit 27 = .ok (.iload_n 1, 1) := by decide +kernel
theorem dX5_toldExit_28 : decode cX5_toldExit 28 = .ok (.imul, 1) := by decide +kernel
theorem dX5_toldExit_29 : decode cX5_toldExit 29 = .ok (.iload 5, 2) := by decide +kernel
theorem dX5_toldExit_31 : decode cX5_toldExit 31 = .ok (.iadd, 1) := by decide +kernel
theorem dX5_toldExit_32 : decode cX5_toldExit 32 = .ok (.istore 6, 2) := by decide +kernel
theorem dX5_toldExit_34 : decode cX5_toldExit 34 = .ok (.aload_n 0, 1) := by decide +kernel
theorem dX5_toldExit_35 : decode cX5_toldExit 35 = .ok (.getfield 22, 3) := by decide +kernel
theorem dX5_toldExit_38 : decode cX5_toldExit 38 = .ok (.aload_n 0, 1) := by decide +kernel
theorem dX5_toldExit_39 : decode cX5_toldExit 39 = .ok (.getfield 13, 3) := by decide +kernel
theorem dX5_toldExit_42 : decode cX5_toldExit 42 = .ok (.iload 6, 2) := by decide +kernel
theorem dX5_toldExit_44 : decode cX5_toldExit 44 = .ok (.iaload, 1) := by decide +kernel
theorem dX5_toldExit_45 : decode cX5_toldExit 45 = .ok (.baload, 1) := by decide +kernel
theorem dX5_toldExit_46 : decode cX5_toldExit 46 = .ok (.ifCond .ne 66, 3) := by decide +kernel
theorem dX5_toldExit_49 : decode cX5_toldExit 49 = .ok (.aload_n 0, 1) := by decide +kernel
theorem dX5_toldExit_50 : decode cX5_toldExit 50 = .ok (.getfield 29, 3) := by decide +kernel
theorem dX5_toldExit_53 : decode cX5_toldExit 53 = .ok (.aload_n 0, 1) := by decide +kernel
theorem dX5_toldExit_54 : decode cX5_toldExit 54 = .ok (.getfield 16, 3) := by decide +kernel
theorem dX5_toldExit_57 : decode cX5_toldExit 57 = .ok (.iload 6, 2) := by decide +kernel
theorem dX5_toldExit_59 : decode cX5_toldExit 59 = .ok (.iaload, 1) := by decide +kernel
theorem dX5_toldExit_60 : decode cX5_toldExit 60 = .ok (.iaload, 1) := by decide +kernel
theorem dX5_toldExit_61 : decode cX5_toldExit 61 = .ok (.aload_n 0, 1) := by decide +kernel
theorem dX5_toldExit_62 : decode cX5_toldExit 62 = .ok (.getfield 19, 3) := by decide +kernel
theorem dX5_toldExit_65 : decode cX5_toldExit 65 = .ok (.aload_n 0, 1) := by decide +kernel
theorem dX5_toldExit_66 : decode cX5_toldExit 66 = .ok (.getfield 13, 3) := by decide +kernel
theorem dX5_toldExit_69 : decode cX5_toldExit 69 = .ok (.iload 6, 2) := by decide +kernel
theorem dX5_toldExit_71 : decode cX5_toldExit 71 = .ok (.iaload, 1) := by decide +kernel
theorem dX5_toldExit_72 : decode cX5_toldExit 72 = .ok (.iaload, 1) := by decide +kernel
theorem dX5_toldExit_73 : decode cX5_toldExit 73 = .ok (.iadd, 1) := by decide +kernel
theorem dX5_toldExit_74 : decode cX5_toldExit 74 = .ok (.iload 4, 2) := by decide +kernel
theorem dX5_toldExit_76 : decode cX5_toldExit 76 = .ok (.if_icmp .lt 6, 3) := by decide +kernel
theorem dX5_toldExit_79 : decode cX5_toldExit 79 = .ok (.goto 33, 3) := by decide +kernel
theorem dX5_toldExit_82 : decode cX5_toldExit 82 = .ok (.iload 5, 2) := by decide +kernel
theorem dX5_toldExit_84 : decode cX5_toldExit 84 = .ok (.istore_n 3, 1) := by decide +kernel
theorem dX5_toldExit_85 : decode cX5_toldExit 85 = .ok (.aload_n 0, 1) := by decide +kernel
theorem dX5_toldExit_86 : decode cX5_toldExit 86 = .ok (.getfield 29, 3) := by decide +kernel
theorem dX5_toldExit_89 : decode cX5_toldExit 89 = .ok (.aload_n 0, 1) := by decide +kernel
theorem dX5_toldExit_90 : decode cX5_toldExit 90 = .ok (.getfield 16, 3) := by decide +kernel
theorem dX5_toldExit_93 : decode cX5_toldExit 93 = .ok (.iload 6, 2) := by decide +kernel
theorem dX5_toldExit_95 : decode cX5_toldExit 95 = .ok (.iaload, 1) := by decide +kernel
theorem dX5_toldExit_96 : decode cX5_toldExit 96 = .ok (.iaload, 1) := by decide +kernel
theorem dX5_toldExit_97 : decode cX5_toldExit 97 = .ok (.aload_n 0, 1) := by decide +kernel
theorem dX5_toldExit_98 : decode cX5_toldExit 98 = .ok (.getfield 19, 3) := by decide +kernel
theorem dX5_toldExit_101 : decode cX5_toldExit 101 = .ok (.aload_n 0, 1) := by decide +kernel
theorem dX5_toldExit_102 : decode cX5_toldExit 102 = .ok (.getfield 13, 3) := by decide +kernel
theorem dX5_toldExit_105 : decode cX5_toldExit 105 = .ok (.iload 6, 2) := by decide +kernel
theorem dX5_toldExit_107 : decode cX5_toldExit 107 = .ok (.iaload, 1) := by decide +kernel
theorem dX5_toldExit_108 : decode cX5_toldExit 108 = .ok (.iaload, 1) := by decide +kernel
theorem dX5_toldExit_109 : decode cX5_toldExit 109 = .ok (.iadd, 1) := by decide +kernel
theorem dX5_toldExit_110 : decode cX5_toldExit 110 = .ok (.istore 4, 2) := by decide +kernel
theorem dX5_toldExit_112 : decode cX5_toldExit 112 = .ok (.iinc 5 1, 3) := by decide +kernel
theorem dX5_toldExit_115 : decode cX5_toldExit 115 = .ok (.goto (-100), 3) := by decide +kernel
theorem dX5_toldExit_118 : decode cX5_toldExit 118 = .ok (.iload_n 3, 1) := by decide +kernel
theorem dX5_toldExit_119 : decode cX5_toldExit 119 = .ok (.ireturn, 1) := by decide +kernel
set_option maxRecDepth 20000 in
theorem ggX5_asks_X5_toldExit : GoodIn wsX5_asks wsX5_toldExit := goodIn_r _ [7, 8, 9, 2, 10, 11, 12, 13, 14, 15, 6, 16, 17, 44, 45, 46, 47, 48, 49, 50, 51, 52, 53, 54, 55] (by decide +kernel) (by decide +kernel)
set_option maxRecDepth 20000 in
theorem gX5_asks_X5_toldExit : GoodIn wsX5_asks (wsV RX5 106 RX5 yX5_toldExit wsX5_toldExit) := goodIn_app (goodIn_of _ (by decide +kernel)) ggX5_asks_X5_toldExit
set_option maxRecDepth 20000 in
theorem ggX5_asks_X4_remember : GoodIn wsX5_asks wsX4_remember := goodIn_r _ [22, 23, 24, 25, 30, 31, 32, 33, 34, 35, 36, 37, 38, 39, 40, 41, 42, 43] (by decide +kernel) (by decide +kernel)
set_option maxRecDepth 20000 in
theorem gX5_asks_X4_remember : GoodIn wsX5_asks (wsV RX5 110 RX4 yX4_remember wsX4_remember) := goodIn_app (goodIn_of _ (by decide +kernel)) ggX5_asks_X4_remember
set_option maxRecDepth 20000 in
theorem ggX5_asks_X5_take : GoodIn wsX5_asks wsX5_take := goodIn_r _ [29, 2, 11, 12, 30, 31, 32, 33, 34, 35, 36, 37, 38, 39, 40, 41, 42, 43, 44, 45, 46, 47, 48, 49, 50, 51, 52, 53, 54, 55] (by decide +kernel) (by decide +kernel)
set_option maxRecDepth 20000 in
theorem gX5_asks_X5_take : GoodIn wsX5_asks (wsV RX5 114 RX5 yX5_take wsX5_take) := goodIn_app (goodIn_of _ (by decide +kernel)) ggX5_asks_X5_take
theorem dX5_asks_0 : decode cX5_asks 0 = .ok (.aload_n 1, 1) := by decide +kernel
theorem dX5_asks_1 : decode cX5_asks 1 = .ok (.getfield 61, 3) := by decide +kernel
theorem dX5_asks_4 : decode cX5_asks 4 = .ok (.istore_n 2, 1) := by decide +kernel
theorem dX5_asks_5 : decode cX5_asks 5 = .ok (.aload_n 0, 1) := by decide +kernel
theorem dX5_asks_6 : decode cX5_asks 6 = .ok (.getfield 26, 3) := by decide +kernel
theorem dX5_asks_9 : decode cX5_asks 9 = .ok (.iload_n 2, 1) := by decide +kernel
theorem dX5_asks_10 : decode cX5_asks 10 = .ok (.baload, 1) := by decide +kernel
theorem dX5_asks_11 : decode cX5_asks 11 = .ok (.ifCond .eq 19, 3) := by decide +kernel
theorem dX5_asks_14 : decode cX5_asks 14 = .ok (.aload_n 1, 1) := by decide +kernel
theorem dX5_asks_15 : decode cX5_asks 15 = .ok (.getfield 94, 3) := by decide +kernel
theorem dX5_asks_18 : decode cX5_asks 18 = .ok (.iload_n 2, 1) := by decide +kernel
theorem dX5_asks_19 : decode cX5_asks 19 = .ok (.baload, 1) := by decide +kernel
theorem dX5_asks_20 : decode cX5_asks 20 = .ok (.ifCond .ne 10, 3) := by decide +kernel
theorem dX5_asks_23 : decode cX5_asks 23 = .ok (.aload_n 1, 1) := by decide +kernel
theorem dX5_asks_24 : decode cX5_asks 24 = .ok (.getfield 97, 3) := by decide +kernel
theorem dX5_asks_27 : decode cX5_asks 27 = .ok (.ifCond .ne 5, 3) := by decide +kernel
theorem dX5_asks_30 : decode cX5_asks 30 = .ok (.iconst 0, 1) := by decide +kernel
theorem dX5_asks_31 : decode cX5_asks 31 = .ok (.ireturn, 1) := by decide +kernel
theorem dX5_asks_32 : decode cX5_asks 32 = .ok (.aload_n 1, 1) := by decide +kernel
theorem dX5_asks_33 : decode cX5_asks 33 = .ok (.dup, 1) := by decide +kernel
theorem dX5_asks_34 : decode cX5_asks 34 = .ok (.getfield 97, 3) := by decide +kernel
theorem dX5_asks_37 : decode cX5_asks 37 = .ok (.iconst 1, 1) := by decide +kernel
theorem dX5_asks_38 : decode cX5_asks 38 = .ok (.isub, 1) := by decide +kernel
theorem dX5_asks_39 : decode cX5_asks 39 = .ok (.putfield 97, 3) := by decide +kernel
theorem dX5_asks_42 : decode cX5_asks 42 = .ok (.aload_n 1, 1) := by decide +kernel
theorem dX5_asks_43 : decode cX5_asks 43 = .ok (.getfield 94, 3) := by decide +kernel
theorem dX5_asks_46 : decode cX5_asks 46 = .ok (.iload_n 2, 1) := by decide +kernel
theorem dX5_asks_47 : decode cX5_asks 47 = .ok (.iconst 1, 1) := by decide +kernel
theorem dX5_asks_48 : decode cX5_asks 48 = .ok (.bastore, 1) := by decide +kernel
theorem dX5_asks_49 : decode cX5_asks 49 = .ok (.aload_n 1, 1) := by decide +kernel
theorem dX5_asks_50 : decode cX5_asks 50 = .ok (.dup, 1) := by decide +kernel
theorem dX5_asks_51 : decode cX5_asks 51 = .ok (.getfield 100, 3) := by decide +kernel
theorem dX5_asks_54 : decode cX5_asks 54 = .ok (.iconst 1, 1) := by decide +kernel
theorem dX5_asks_55 : decode cX5_asks 55 = .ok (.iadd, 1) := by decide +kernel
theorem dX5_asks_56 : decode cX5_asks 56 = .ok (.putfield 100, 3) := by decide +kernel
theorem dX5_asks_59 : decode cX5_asks 59 = .ok (.aload_n 0, 1) := by decide +kernel
theorem dX5_asks_60 : decode cX5_asks 60 = .ok (.iload_n 2, 1) := by decide +kernel
theorem dX5_asks_61 : decode cX5_asks 61 = .ok (.aload_n 1, 1) := by decide +kernel
theorem dX5_asks_62 : decode cX5_asks 62 = .ok (.getfield 103, 3) := by decide +kernel
theorem dX5_asks_65 : decode cX5_asks 65 = .ok (.invokevirtual 106, 3) := by decide +kernel
theorem dX5_asks_68 : decode cX5_asks 68 = .ok (.istore_n 3, 1) := by decide +kernel
theorem dX5_asks_69 : decode cX5_asks 69 = .ok (.iload_n 3, 1) := by decide +kernel
theorem dX5_asks_70 : decode cX5_asks 70 = .ok (.iconst (-1), 1) := by decide +kernel
theorem dX5_asks_71 : decode cX5_asks 71 = .ok (.if_icmp .ne 5, 3) := by decide +kernel
theorem dX5_asks_74 : decode cX5_asks 74 = .ok (.iconst 0, 1) := by decide +kernel
theorem dX5_asks_75 : decode cX5_asks 75 = .ok (.ireturn, 1) := by decide +kernel
theorem dX5_asks_76 : decode cX5_asks 76 = .ok (.aload_n 1, 1) := by decide +kernel
theorem dX5_asks_77 : decode cX5_asks 77 = .ok (.iload_n 2, 1) := by decide +kernel
theorem dX5_asks_78 : decode cX5_asks 78 = .ok (.iload_n 3, 1) := by decide +kernel
theorem dX5_asks_79 : decode cX5_asks 79 = .ok (.iconst 3, 1) := by decide +kernel
theorem dX5_asks_80 : decode cX5_asks 80 = .ok (.invokevirtual 110, 3) := by decide +kernel
theorem dX5_asks_83 : decode cX5_asks 83 = .ok (.aload_n 1, 1) := by decide +kernel
theorem dX5_asks_84 : decode cX5_asks 84 = .ok (.getfield 67, 3) := by decide +kernel
theorem dX5_asks_87 : decode cX5_asks 87 = .ok (.aload_n 0, 1) := by decide +kernel
theorem dX5_asks_88 : decode cX5_asks 88 = .ok (.getfield 13, 3) := by decide +kernel
theorem dX5_asks_91 : decode cX5_asks 91 = .ok (.iconst 4, 1) := by decide +kernel
theorem dX5_asks_92 : decode cX5_asks 92 = .ok (.iload_n 2, 1) := by decide +kernel
theorem dX5_asks_93 : decode cX5_asks 93 = .ok (.imul, 1) := by decide +kernel
theorem dX5_asks_94 : decode cX5_asks 94 = .ok (.iload_n 3, 1) := by decide +kernel
theorem dX5_asks_95 : decode cX5_asks 95 = .ok (.iadd, 1) := by decide +kernel
theorem dX5_asks_96 : decode cX5_asks 96 = .ok (.iaload, 1) := by decide +kernel
theorem dX5_asks_97 : decode cX5_asks 97 = .ok (.baload, 1) := by decide +kernel
theorem dX5_asks_98 : decode cX5_asks 98 = .ok (.ifCond .eq 5, 3) := by decide +kernel
theorem dX5_asks_101 : decode cX5_asks 101 = .ok (.iconst 0, 1) := by decide +kernel
theorem dX5_asks_102 : decode cX5_asks 102 = .ok (.ireturn, 1) := by decide +kernel
theorem dX5_asks_103 : decode cX5_asks 103 = .ok (.aload_n 0, 1) := by decide +kernel
theorem dX5_asks_104 : decode cX5_asks 104 = .ok (.aload_n 1, 1) := by decide +kernel
theorem dX5_asks_105 : decode cX5_asks 105 = .ok (.iconst 4, 1) := by decide +kernel
theorem dX5_asks_106 : decode cX5_asks 106 = .ok (.iload_n 2, 1) := by decide +kernel
theorem dX5_asks_107 : decode cX5_asks 107 = .ok (.imul, 1) := by decide +kernel
theorem dX5_asks_108 : decode cX5_asks 108 = .ok (.iload_n 3, 1) := by decide +kernel
theorem dX5_asks_109 : decode cX5_asks 109 = .ok (.iadd, 1) := by decide +kernel
theorem dX5_asks_110 : decode cX5_asks 110 = .ok (.invokevirtual 114, 3) := by decide +kernel
theorem dX5_asks_113 : decode cX5_asks 113 = .ok (.iconst 1, 1) := by decide +kernel
theorem dX5_asks_114 : decode cX5_asks 114 = .ok (.ireturn, 1) := by decide +kernel
set_option maxRecDepth 20000 in
theorem ggX5_triesNext_X5_canTake : GoodIn wsX5_triesNext wsX5_canTake := goodIn_r _ [6, 7, 8, 29, 30, 31, 32, 33, 34, 35, 36, 37, 38, 39, 40, 15, 16, 17, 18, 19, 20, 21, 22, 23, 24, 25, 26, 27, 28] (by decide +kernel) (by decide +kernel)
set_option maxRecDepth 20000 in
theorem gX5_triesNext_X5_canTake : GoodIn wsX5_triesNext (wsV RX5 118 RX5 yX5_canTake wsX5_canTake) := goodIn_app (goodIn_of _ (by decide +kernel)) ggX5_triesNext_X5_canTake
set_option maxRecDepth 20000 in
theorem ggX5_triesNext_X5_take : GoodIn wsX5_triesNext wsX5_take := goodIn_r _ [12, 8, 13, 14, 15, 16, 17, 18, 19, 20, 21, 22, 23, 24, 25, 26, 27, 28, 29, 30, 31, 32, 33, 34, 35, 36, 37, 38, 39, 40] (by decide +kernel) (by decide +kernel)
set_option maxRecDepth 20000 in
theorem gX5_triesNext_X5_take : GoodIn wsX5_triesNext (wsV RX5 114 RX5 yX5_take wsX5_take) := goodIn_app (goodIn_of _ (by decide +kernel)) ggX5_triesNext_X5_take
theorem dX5_triesNext_0 : decode cX5_triesNext 0 = .ok (.aload_n 1, 1) := by decide +kernel
theorem dX5_triesNext_1 : decode cX5_triesNext 1 = .ok (.getfield 61, 3) := by decide +kernel
theorem dX5_triesNext_4 : decode cX5_triesNext 4 = .ok (.istore_n 2, 1) := by decide +kernel
theorem dX5_triesNext_5 : decode cX5_triesNext 5 = .ok (.iconst 0, 1) := by decide +kernel
theorem dX5_triesNext_6 : decode cX5_triesNext 6 = .ok (.istore_n 3, 1) := by decide +kernel
theorem dX5_triesNext_7 : decode cX5_triesNext 7 = .ok (.iload_n 3, 1) := by decide +kernel
theorem dX5_triesNext_8 : decode cX5_triesNext 8 = .ok (.aload_n 0, 1) := by decide +kernel
theorem dX5_triesNext_9 : decode cX5_triesNext 9 = .ok (.getfield 9, 3) := by decide +kernel
theorem dX5_triesNext_12 : decode cX5_triesNext 12 = .ok (.iload_n 2, 1) := by decide +kernel
theorem dX5_triesNext_13 : decode cX5_triesNext 13 = .ok (.iaload, 1) := by decide +kernel
theorem dX5_triesNext_14 : decode cX5_triesNext 14 = .ok (.if_icmp .ge 37, 3) := by decide +kernel
theorem dX5_triesNext_17 : decode cX5_triesNext 17 = .ok (.aload_n 0, 1) := by decide +kernel
theorem dX5_triesNext_18 : decode cX5_triesNext 18 = .ok (.aload_n 1, 1) := by decide +kernel
theorem dX5_triesNext_19 : decode cX5_triesNext 19 = .ok (.iconst 4, 1) := by decide +kernel
theorem dX5_triesNext_20 : decode cX5_triesNext 20 = .ok (.iload_n 2, 1) := by decide +kernel
theorem dX5_triesNext_21 : decode cX5_triesNext 21 = .ok (.imul, 1) := by decide +kernel
theorem dX5_triesNext_22 : decode cX5_triesNext 22 = .ok (.iload_n 3, 1) := by decide +kernel
theorem dX5_triesNext_23 : decode cX5_triesNext 23 = .ok (.iadd, 1) := by decide +kernel
theorem dX5_triesNext_24 : decode cX5_triesNext 24 = .ok (.invokevirtual 118, 3) := by decide +kernel
theorem dX5_triesNext_27 : decode cX5_triesNext 27 = .ok (.ifCond .ne 6, 3) := by decide +kernel
theorem dX5_triesNext_30 : decode cX5_triesNext 30 = .ok (.goto 15, 3) := by decide +kernel
theorem dX5_triesNext_33 : decode cX5_triesNext 33 = .ok (.aload_n 0, 1) := by decide +kernel
theorem dX5_triesNext_34 : decode cX5_triesNext 34 = .ok (.aload_n 1, 1) := by decide +kernel
theorem dX5_triesNext_35 : decode cX5_triesNext 35 = .ok (.iconst 4, 1) := by decide +kernel
theorem dX5_triesNext_36 : decode cX5_triesNext 36 = .ok (.iload_n 2, 1) := by decide +kernel
theorem dX5_triesNext_37 : decode cX5_triesNext 37 = .ok (.imul, 1) := by decide +kernel
theorem dX5_triesNext_38 : decode cX5_triesNext 38 = .ok (.iload_n 3, 1) := by decide +kernel
theorem dX5_triesNext_39 : decode cX5_triesNext 39 = .ok (.iadd, 1) := by decide +kernel
theorem dX5_triesNext_40 : decode cX5_triesNext 40 = .ok (.invokevirtual 114, 3) := by decide +kernel
theorem dX5_triesNext_43 : decode cX5_triesNext 43 = .ok (.iconst 1, 1) := by decide +kernel
theorem dX5_triesNext_44 : decode cX5_triesNext 44 = .ok (.ireturn, 1) := by decide +kernel
theorem dX5_triesNext_45 : decode cX5_triesNext 45 = .ok (.iinc 3 1, 3) := by decide +kernel
theorem dX5_triesNext_48 : decode cX5_triesNext 48 = .ok (.goto (-41), 3) := by decide +kernel
theorem dX5_triesNext_51 : decode cX5_triesNext 51 = .ok (.iconst 0, 1) := by decide +kernel
theorem dX5_triesNext_52 : decode cX5_triesNext 52 = .ok (.ireturn, 1) := by decide +kernel
theorem dX5_doublesBack_0 : decode cX5_doublesBack 0 = .ok (.aload_n 1, 1) := by decide +kernel
theorem dX5_doublesBack_1 : decode cX5_doublesBack 1 = .ok (.getfield 84, 3) := by decide +kernel
theorem dX5_doublesBack_4 : decode cX5_doublesBack 4 = .ok (.ifCond .ne 5, 3) := by decide +kernel
theorem dX5_doublesBack_7 : decode cX5_doublesBack 7 = .ok (.iconst 0, 1) := by decide +kernel
theorem dX5_doublesBack_8 : decode cX5_doublesBack 8 = .ok (.ireturn, 1) := by decide +kernel
theorem dX5_doublesBack_9 : decode cX5_doublesBack 9 = .ok (.aload_n 1, 1) := by decide +kernel
theorem dX5_doublesBack_10 : decode cX5_doublesBack 10 = .ok (.dup, 1) := by decide +kernel
theorem dX5_doublesBack_11 : decode cX5_doublesBack 11 = .ok (.getfield 84, 3) := by decide +kernel
theorem dX5_doublesBack_14 : decode cX5_doublesBack 14 = .ok (.iconst 1, 1) := by decide +kernel
theorem dX5_doublesBack_15 : decode cX5_doublesBack 15 = .ok (.isub, 1) := by decide +kernel
theorem dX5_doublesBack_16 : decode cX5_doublesBack 16 = .ok (.putfield 84, 3) := by decide +kernel
theorem dX5_doublesBack_19 : decode cX5_doublesBack 19 = .ok (.aload_n 1, 1) := by decide +kernel
theorem dX5_doublesBack_20 : decode cX5_doublesBack 20 = .ok (.getfield 81, 3) := by decide +kernel
theorem dX5_doublesBack_23 : decode cX5_doublesBack 23 = .ok (.aload_n 1, 1) := by decide +kernel
theorem dX5_doublesBack_24 : decode cX5_doublesBack 24 = .ok (.getfield 84, 3) := by decide +kernel
theorem dX5_doublesBack_27 : decode cX5_doublesBack 27 = .ok (.iaload, 1) := by decide +kernel
theorem dX5_doublesBack_28 : decode cX5_doublesBack 28 = .ok (.istore_n 2, 1) := by decide +kernel
theorem dX5_doublesBack_29 : decode cX5_doublesBack 29 = .ok (.aload_n 1, 1) := by decide +kernel
theorem dX5_doublesBack_30 : decode cX5_doublesBack 30 = .ok (.iload_n 2, 1) := by decide +kernel
theorem dX5_doublesBack_31 : decode cX5_doublesBack 31 = .ok (.iconst 4, 1) := by decide +kernel
theorem dX5_doublesBack_32 : decode cX5_doublesBack 32 = .ok (.idiv, 1) := by decide +kernel
theorem dX5_doublesBack_33 : decode cX5_doublesBack 33 = .ok (.putfield 61, 3) := by decide +kernel
theorem dX5_doublesBack_36 : decode cX5_doublesBack 36 = .ok (.aload_n 1, 1) := by decide +kernel
theorem dX5_doublesBack_37 : decode cX5_doublesBack 37 = .ok (.dup, 1) := by decide +kernel
theorem dX5_doublesBack_38 : decode cX5_doublesBack 38 = .ok (.getfield 87, 3) := by decide +kernel
theorem dX5_doublesBack_41 : decode cX5_doublesBack 41 = .ok (.aload_n 0, 1) := by decide +kernel
theorem dX5_doublesBack_42 : decode cX5_doublesBack 42 = .ok (.getfield 19, 3) := by decide +kernel
theorem dX5_doublesBack_45 : decode cX5_doublesBack 45 = .ok (.aload_n 0, 1) := by decide +kernel
theorem dX5_doublesBack_46 : decode cX5_doublesBack 46 = .ok (.getfield 13, 3) := by decide +kernel
theorem dX5_doublesBack_49 : decode cX5_doublesBack 49 = .ok (.iload_n 2, 1) := by decide +kernel
theorem dX5_doublesBack_50 : decode cX5_doublesBack 50 = .ok (.iaload, 1) := by decide +kernel
theorem dX5_doublesBack_51 : decode cX5_doublesBack 51 = .ok (.iaload, 1) := by decide +kernel
theorem dX5_doublesBack_52 : decode cX5_doublesBack 52 = .ok (.iadd, 1) := by decide +kernel
theorem dX5_doublesBack_53 : decode cX5_doublesBack 53 = .ok (.putfield 87, 3) := by decide +kernel
theorem dX5_doublesBack_56 : decode cX5_doublesBack 56 = .ok (.aload_n 1, 1) := by decide +kernel
theorem dX5_doublesBack_57 : decode cX5_doublesBack 57 = .ok (.dup, 1) := by decide +kernel
theorem dX5_doublesBack_58 : decode cX5_doublesBack 58 = .ok (.getfield 122, 3) := by decide +kernel
theorem dX5_doublesBack_61 : decode cX5_doublesBack 61 = .ok (.aload_n 0, 1) := by decide +kernel
theorem dX5_doublesBack_62 : decode cX5_doublesBack 62 = .ok (.getfield 19, 3) := by decide +kernel
theorem dX5_doublesBack_65 : decode cX5_doublesBack 65 = .ok (.aload_n 0, 1) := by decide +kernel
theorem dX5_doublesBack_66 : decode cX5_doublesBack 66 = .ok (.getfield 13, 3) := by decide +kernel
theorem dX5_doublesBack_69 : decode cX5_doublesBack 69 = .ok (.iload_n 2, 1) := by decide +kernel
theorem dX5_doublesBack_70 : decode cX5_doublesBack 70 = .ok (.iaload, 1) := by decide +kernel
theorem dX5_doublesBack_71 : decode cX5_doublesBack 71 = .ok (.iaload, 1) := by decide +kernel
theorem dX5_doublesBack_72 : decode cX5_doublesBack 72 = .ok (.iadd, 1) := by decide +kernel
theorem dX5_doublesBack_73 : decode cX5_doublesBack 73 = .ok (.putfield 122, 3) := by decide +kernel
theorem dX5_doublesBack_76 : decode cX5_doublesBack 76 = .ok (.iconst 1, 1) := by decide +kernel
theorem dX5_doublesBack_77 : decode cX5_doublesBack 77 = .ok (.ireturn, 1) := by decide +kernel
set_option maxRecDepth 20000 in
theorem ggX5_learn_X4_remembered : GoodIn wsX5_learn wsX4_remembered := goodIn_r _ [9, 10, 11, 17, 18, 19, 20, 21, 22, 23, 24, 25, 26, 27, 28, 29, 30] (by decide +kernel) (by decide +kernel)
set_option maxRecDepth 20000 in
theorem gX5_learn_X4_remembered : GoodIn wsX5_learn (wsV RX5 125 RX4 yX4_remembered wsX4_remembered) := goodIn_app (goodIn_of _ (by decide +kernel)) ggX5_learn_X4_remembered
set_option maxRecDepth 20000 in
theorem ggX5_learn_X4_remember : GoodIn wsX5_learn wsX4_remember := goodIn_r _ [15, 10, 11, 16, 17, 18, 19, 20, 21, 22, 23, 24, 25, 26, 27, 28, 29, 30] (by decide +kernel) (by decide +kernel)
set_option maxRecDepth 20000 in
theorem gX5_learn_X4_remember : GoodIn wsX5_learn (wsV RX5 110 RX4 yX4_remember wsX4_remember) := goodIn_app (goodIn_of _ (by decide +kernel)) ggX5_learn_X4_remember
theorem dX5_learn_0 : decode cX5_learn 0 = .ok (.iconst 0, 1) := by decide +kernel
theorem dX5_learn_1 : decode cX5_learn 1 = .ok (.istore_n 2, 1) := by decide +kernel
theorem dX5_learn_2 : decode cX5_learn 2 = .ok (.iload_n 2, 1) := by decide +kernel
theorem dX5_learn_3 : decode cX5_learn 3 = .ok (.aload_n 1, 1) := by decide +kernel
theorem dX5_learn_4 : decode cX5_learn 4 = .ok (.getfield 84, 3) := by decide +kernel
theorem dX5_learn_7 : decode cX5_learn 7 = .ok (.if_icmp .ge 82, 3) := by decide +kernel
theorem dX5_learn_10 : decode cX5_learn 10 = .ok (.aload_n 1, 1) := by decide +kernel
theorem dX5_learn_11 : decode cX5_learn 11 = .ok (.getfield 81, 3) := by decide +kernel
theorem dX5_learn_14 : decode cX5_learn 14 = .ok (.iload_n 2, 1) := by decide +kernel
theorem dX5_learn_15 : decode cX5_learn 15 = .ok (.iaload, 1) := by decide +kernel
theorem dX5_learn_16 : decode cX5_learn 16 = .ok (.iconst 4, 1) := by decide +kernel
theorem dX5_learn_17 : decode cX5_learn 17 = .ok (.idiv, 1) := by decide +kernel
theorem dX5_learn_18 : decode cX5_learn 18 = .ok (.istore_n 3, 1) := by decide +kernel
theorem dX5_learn_19 : decode cX5_learn 19 = .ok (.aload_n 1, 1) := by decide +kernel
theorem dX5_learn_20 : decode cX5_learn 20 = .ok (.getfield 81, 3) := by decide +kernel
theorem dX5_learn_23 : decode cX5_learn 23 = .ok (.iload_n 2, 1) := by decide +kernel
theorem dX5_learn_24 : decode cX5_learn 24 = .ok (.iaload, 1) := by decide +kernel
theorem dX5_learn_25 : decode cX5_learn 25 = .ok (.iconst 4, 1) := by decide +kernel
theorem dX5_learn_26 : decode cX5_learn 26 = .ok (.irem, 1) := by decide +kernel
theorem dX5_learn_27 : decode cX5_learn 27 = .ok (.istore 4, 2) := by decide +kernel
theorem dX5_learn_29 : decode cX5_learn 29 = .ok (.aload_n 1, 1) := by decide +kernel
theorem dX5_learn_30 : decode cX5_learn 30 = .ok (.iload_n 3, 1) := by decide +kernel
theorem dX5_learn_31 : decode cX5_learn 31 = .ok (.invokevirtual 125, 3) := by decide +kernel
theorem dX5_learn_34 : decode cX5_learn 34 = .ok (.iload 4, 2) := by decide +kernel
theorem dX5_learn_36 : decode cX5_learn 36 = .ok (.if_icmp .ne 7, 3) := by decide +kernel
theorem dX5_learn_39 : decode cX5_learn 39 = .ok (.iconst 1, 1) := by decide +kernel
theorem dX5_learn_40 : decode cX5_learn 40 = .ok (.goto 4, 3) := by decide +kernel
theorem dX5_learn_43 : decode cX5_learn 43 = .ok (.iconst 0, 1) := by decide +kernel
theorem dX5_learn_44 : decode cX5_learn 44 = .ok (.istore 5, 2) := by decide +kernel
theorem dX5_learn_46 : decode cX5_learn 46 = .ok (.aload_n 1, 1) := by decide +kernel
theorem dX5_learn_47 : decode cX5_learn 47 = .ok (.iload_n 3, 1) := by decide +kernel
theorem dX5_learn_48 : decode cX5_learn 48 = .ok (.iload 4, 2) := by decide +kernel
theorem dX5_learn_50 : decode cX5_learn 50 = .ok (.iload 5, 2) := by decide +kernel
theorem dX5_learn_52 : decode cX5_learn 52 = .ok (.ifCond .eq 27, 3) := by decide +kernel
theorem dX5_learn_55 : decode cX5_learn 55 = .ok (.bipush 9, 2) := by decide +kernel
theorem dX5_learn_57 : decode cX5_learn 57 = .ok (.aload_n 1, 1) := by decide +kernel
theorem dX5_learn_58 : decode cX5_learn 58 = .ok (.getfield 128, 3) := by decide +kernel
theorem dX5_learn_61 : decode cX5_learn 61 = .ok (.bipush 10, 2) := by decide +kernel
theorem dX5_learn_63 : decode cX5_learn 63 = .ok (.aload_n 1, 1) := by decide +kernel
theorem dX5_learn_64 : decode cX5_learn 64 = .ok (.getfield 103, 3) := by decide +kernel
theorem dX5_learn_67 : decode cX5_learn 67 = .ok (.imul, 1) := by decide +kernel
theorem dX5_learn_68 : decode cX5_learn 68 = .ok (.iload_n 3, 1) := by decide +kernel
theorem dX5_learn_69 : decode cX5_learn 69 = .ok (.iadd, 1) := by decide +kernel
theorem dX5_learn_70 : decode cX5_learn 70 = .ok (.iaload, 1) := by decide +kernel
theorem dX5_learn_71 : decode cX5_learn 71 = .ok (.iconst 3, 1) := by decide +kernel
theorem dX5_learn_72 : decode cX5_learn 72 = .ok (.iadd, 1) := by decide +kernel
theorem dX5_learn_73 : decode cX5_learn 73 = .ok (.invokestatic 131, 3) := by decide +kernel
theorem dX5_learn_76 : decode cX5_learn 76 = .ok (.goto 4, 3) := by decide +kernel
theorem dX5_learn_79 : decode cX5_learn 79 = .ok (.iconst 3, 1) := by decide +kernel
theorem dX5_learn_80 : decode cX5_learn 80 = .ok (.invokevirtual 110, 3) := by decide +kernel
theorem dX5_learn_83 : decode cX5_learn 83 = .ok (.iinc 2 1, 3) := by decide +kernel
theorem dX5_learn_86 : decode cX5_learn 86 = .ok (.goto (-84), 3) := by decide +kernel
theorem dX5_learn_89 : decode cX5_learn 89 = .ok (.return_, 1) := by decide +kernel
set_option maxRecDepth 20000 in
theorem ggX5_stepOn_X4_remembered : GoodIn wsX5_stepOn wsX4_remembered := goodIn_r _ [5, 6, 7, 69, 70, 71, 72, 73, 74, 75, 76, 77, 78, 79, 80, 81, 82] (by decide +kernel) (by decide +kernel)
set_option maxRecDepth 20000 in
theorem gX5_stepOn_X4_remembered : GoodIn wsX5_stepOn (wsV RX5 125 RX4 yX4_remembered wsX4_remembered) := goodIn_app (goodIn_of _ (by decide +kernel)) ggX5_stepOn_X4_remembered
set_option maxRecDepth 20000 in
theorem ggX5_stepOn_X5_canTake : GoodIn wsX5_stepOn wsX5_canTake := goodIn_r _ [12, 13, 14, 83, 84, 85, 86, 87, 88, 89, 90, 91, 92, 93, 94, 69, 70, 71, 72, 73, 74, 75, 76, 77, 78, 79, 80, 81, 82] (by decide +kernel) (by decide +kernel)
set_option maxRecDepth 20000 in
theorem gX5_stepOn_X5_canTake : GoodIn wsX5_stepOn (wsV RX5 118 RX5 yX5_canTake wsX5_canTake) := goodIn_app (goodIn_of _ (by decide +kernel)) ggX5_stepOn_X5_canTake
set_option maxRecDepth 20000 in
theorem ggX5_stepOn_X5_take : GoodIn wsX5_stepOn wsX5_take := goodIn_r _ [18, 14, 19, 20, 69, 70, 71, 72, 73, 74, 75, 76, 77, 78, 79, 80, 81, 82, 83, 84, 85, 86, 87, 88, 89, 90, 91, 92, 93, 94] (by decide +kernel) (by decide +kernel)
set_option maxRecDepth 20000 in
theorem gX5_stepOn_X5_take : GoodIn wsX5_stepOn (wsV RX5 114 RX5 yX5_take wsX5_take) := goodIn_app (goodIn_of _ (by decide +kernel)) ggX5_stepOn_X5_take
set_option maxRecDepth 20000 in
theorem ggX5_stepOn_X5_asks : GoodIn wsX5_stepOn wsX5_asks := goodIn_r _ [24, 25, 14, 26, 27, 28, 11, 29, 30, 13, 31, 19, 20, 32, 33, 34, 35, 36, 37, 38, 39, 4, 40, 6, 7, 41, 15, 16, 17, 18, 69, 70, 71, 72, 73, 74, 75, 76, 77, 78, 79, 80, 81, 82, 83, 84, 85, 86, 87, 88, 89, 90, 91, 92, 93, 94] (by decide +kernel) (by decide +kernel)
set_option maxRecDepth 20000 in
theorem gX5_stepOn_X5_asks : GoodIn wsX5_stepOn (wsV RX5 136 RX5 yX5_asks wsX5_asks) := goodIn_app (goodIn_of _ (by decide +kernel)) ggX5_stepOn_X5_asks
set_option maxRecDepth 20000 in
theorem ggX5_stepOn_X5_triesNext : GoodIn wsX5_stepOn wsX5_triesNext := goodIn_r _ [45, 30, 8, 9, 10, 11, 12, 13, 14, 15, 16, 17, 18, 19, 20, 69, 70, 71, 72, 73, 74, 75, 76, 77, 78, 79, 80, 81, 82, 83, 84, 85, 86, 87, 88, 89, 90, 91, 92, 93, 94] (by decide +kernel) (by decide +kernel)
set_option maxRecDepth 20000 in
theorem gX5_stepOn_X5_triesNext : GoodIn wsX5_stepOn (wsV RX5 140 RX5 yX5_triesNext wsX5_triesNext) := goodIn_app (goodIn_of _ (by decide +kernel)) ggX5_stepOn_X5_triesNext
set_option maxRecDepth 20000 in
theorem ggX5_stepOn_X5_doublesBack : GoodIn wsX5_stepOn wsX5_doublesBack := goodIn_r _ [49, 20, 14, 69, 70, 71, 72, 73, 74, 75, 76, 77, 78, 79, 80, 81, 82, 83, 84, 85, 86, 87, 88, 89, 90, 91, 92, 93, 94] (by decide +kernel) (by decide +kernel)
set_option maxRecDepth 20000 in
theorem gX5_stepOn_X5_doublesBack : GoodIn wsX5_stepOn (wsV RX5 143 RX5 yX5_doublesBack wsX5_doublesBack) := goodIn_app (goodIn_of _ (by decide +kernel)) ggX5_stepOn_X5_doublesBack
set_option maxRecDepth 20000 in
theorem ggX5_stepOn_X4_end : GoodIn wsX5_stepOn wsX4_end := goodIn_r _ [53, 54, 55, 56, 4, 57, 7, 58, 59, 60, 69, 70, 71, 72, 73, 74, 75, 76, 77, 78, 79, 80, 81, 82] (by decide +kernel) (by decide +kernel)
set_option maxRecDepth 20000 in
theorem gX5_stepOn_X4_end : GoodIn wsX5_stepOn (wsV RX5 149 RX4 yX4_end wsX4_end) := goodIn_app (goodIn_of _ (by decide +kernel)) ggX5_stepOn_X4_end
set_option maxRecDepth 20000 in
theorem ggX5_stepOn_X5_learn : GoodIn wsX5_stepOn wsX5_learn := goodIn_r _ [64, 65, 66, 67, 68, 1, 2, 3, 4, 5, 6, 7, 37, 38, 39, 40, 41, 69, 70, 71, 72, 73, 74, 75, 76, 77, 78, 79, 80, 81, 82] (by decide +kernel) (by decide +kernel)
set_option maxRecDepth 20000 in
theorem gX5_stepOn_X5_learn : GoodIn wsX5_stepOn (wsV RX5 152 RX5 yX5_learn wsX5_learn) := goodIn_app (goodIn_of _ (by decide +kernel)) ggX5_stepOn_X5_learn
theorem dX5_stepOn_0 : decode cX5_stepOn 0 = .ok (.aload_n 1, 1) := by decide +kernel
theorem dX5_stepOn_1 : decode cX5_stepOn 1 = .ok (.aload_n 1, 1) := by decide +kernel
theorem dX5_stepOn_2 : decode cX5_stepOn 2 = .ok (.getfield 61, 3) := by decide +kernel
theorem dX5_stepOn_5 : decode cX5_stepOn 5 = .ok (.invokevirtual 125, 3) := by decide +kernel
theorem dX5_stepOn_8 : decode cX5_stepOn 8 = .ok (.istore_n 2, 1) := by decide +kernel
theorem dX5_stepOn_9 : decode cX5_stepOn 9 = .ok (.iload_n 2, 1) := by decide +kernel
theorem dX5_stepOn_10 : decode cX5_stepOn 10 = .ok (.iconst (-1), 1) := by decide +kernel
theorem dX5_stepOn_11 : decode cX5_stepOn 11 = .ok (.if_icmp .eq 23, 3) := by decide +kernel
theorem dX5_stepOn_14 : decode cX5_stepOn 14 = .ok (.aload_n 0, 1) := by decide +kernel
theorem dX5_stepOn_15 : decode cX5_stepOn 15 = .ok (.aload_n 1, 1) := by decide +kernel
theorem dX5_stepOn_16 : decode cX5_stepOn 16 = .ok (.iconst 4, 1) := by decide +kernel
theorem dX5_stepOn_17 : decode cX5_stepOn 17 = .ok (.aload_n 1, 1) := by decide +kernel
theorem dX5_stepOn_18 : decode cX5_stepOn 18 = .ok (.getfield 61, 3) := by decide +kernel
theorem dX5_stepOn_21 : decode cX5_stepOn 21 = .ok (.imul, 1) := by decide +kernel
theorem dX5_stepOn_22 : decode cX5_stepOn 22 = .ok (.iload_n 2, 1) := by decide +kernel
theorem dX5_stepOn_23 : decode cX5_stepOn 23 = .ok (.iadd, 1) := by decide +kernel
theorem dX5_stepOn_24 : decode cX5_stepOn 24 = .ok (.invokevirtual 118, 3) := by decide +kernel
theorem dX5_stepOn_27 : decode cX5_stepOn 27 = .ok (.ifCond .eq 7, 3) := by decide +kernel
theorem dX5_stepOn_30 : decode cX5_stepOn 30 = .ok (.iconst 1, 1) := by decide +kernel
theorem dX5_stepOn_31 : decode cX5_stepOn 31 = .ok (.goto 4, 3) := by decide +kernel
theorem dX5_stepOn_34 : decode cX5_stepOn 34 = .ok (.iconst 0, 1) := by decide +kernel
theorem dX5_stepOn_35 : decode cX5_stepOn 35 = .ok (.istore_n 3, 1) := by decide +kernel
theorem dX5_stepOn_36 : decode cX5_stepOn 36 = .ok (.iload_n 3, 1) := by decide +kernel
theorem dX5_stepOn_37 : decode cX5_stepOn 37 = .ok (.ifCond .eq 19, 3) := by decide +kernel
theorem dX5_stepOn_40 : decode cX5_stepOn 40 = .ok (.aload_n 0, 1) := by decide +kernel
theorem dX5_stepOn_41 : decode cX5_stepOn 41 = .ok (.aload_n 1, 1) := by decide +kernel
theorem dX5_stepOn_42 : decode cX5_stepOn 42 = .ok (.iconst 4, 1) := by decide +kernel
theorem dX5_stepOn_43 : decode cX5_stepOn 43 = .ok (.aload_n 1, 1) := by decide +kernel
theorem dX5_stepOn_44 : decode cX5_stepOn 44 = .ok (.getfield 61, 3) := by decide +kernel
theorem dX5_stepOn_47 : decode cX5_stepOn 47 = .ok (.imul, 1) := by decide +kernel
theorem dX5_stepOn_48 : decode cX5_stepOn 48 = .ok (.iload_n 2, 1) := by decide +kernel
theorem dX5_stepOn_49 : decode cX5_stepOn 49 = .ok (.iadd, 1) := by decide +kernel
theorem dX5_stepOn_50 : decode cX5_stepOn 50 = .ok (.invokevirtual 114, 3) := by decide +kernel
theorem dX5_stepOn_53 : decode cX5_stepOn 53 = .ok (.goto 43, 3) := by decide +kernel
theorem dX5_stepOn_56 : decode cX5_stepOn 56 = .ok (.aload_n 0, 1) := by decide +kernel
theorem dX5_stepOn_57 : decode cX5_stepOn 57 = .ok (.aload_n 1, 1) := by decide +kernel
theorem dX5_stepOn_58 : decode cX5_stepOn 58 = .ok (.invokevirtual 136, 3) := by decide +kernel
theorem dX5_stepOn_61 : decode cX5_stepOn 61 = .ok (.ifCond .ne 35, 3) := by decide +kernel
theorem dX5_stepOn_64 : decode cX5_stepOn 64 = .ok (.aload_n 0, 1) := by decide +kernel
theorem dX5_stepOn_65 : decode cX5_stepOn 65 = .ok (.aload_n 1, 1) := by decide +kernel
theorem dX5_stepOn_66 : decode cX5_stepOn 66 = .ok (.invokevirtual 140, 3) := by decide +kernel
theorem dX5_stepOn_69 : decode cX5_stepOn 69 = .ok (.ifCond .ne 27, 3) := by decide +kernel
theorem dX5_stepOn_72 : decode cX5_stepOn 72 = .ok (.aload_n 0, 1) := by decide +kernel
theorem dX5_stepOn_73 : decode cX5_stepOn 73 = .ok (.aload_n 1, 1) := by decide +kernel
theorem dX5_stepOn_74 : decode cX5_stepOn 74 = .ok (.invokevirtual 143, 3) := by decide +kernel
theorem dX5_stepOn_77 : decode cX5_stepOn 77 = .ok (.ifCond .ne 19, 3) := by decide +kernel
theorem dX5_stepOn_80 : decode cX5_stepOn 80 = .ok (.aload_n 1, 1) := by decide +kernel
theorem dX5_stepOn_81 : decode cX5_stepOn 81 = .ok (.dup, 1) := by decide +kernel
theorem dX5_stepOn_82 : decode cX5_stepOn 82 = .ok (.getfield 146, 3) := by decide +kernel
theorem dX5_stepOn_85 : decode cX5_stepOn 85 = .ok (.iconst 1, 1) := by decide +kernel
theorem dX5_stepOn_86 : decode cX5_stepOn 86 = .ok (.iadd, 1) := by decide +kernel
theorem dX5_stepOn_87 : decode cX5_stepOn 87 = .ok (.putfield 146, 3) := by decide +kernel
theorem dX5_stepOn_90 : decode cX5_stepOn 90 = .ok (.aload_n 1, 1) := by decide +kernel
theorem dX5_stepOn_91 : decode cX5_stepOn 91 = .ok (.invokevirtual 149, 3) := by decide +kernel
theorem dX5_stepOn_94 : decode cX5_stepOn 94 = .ok (.iconst 0, 1) := by decide +kernel
theorem dX5_stepOn_95 : decode cX5_stepOn 95 = .ok (.ireturn, 1) := by decide +kernel
theorem dX5_stepOn_96 : decode cX5_stepOn 96 = .ok (.aload_n 1, 1) := by decide +kernel
theorem dX5_stepOn_97 : decode cX5_stepOn 97 = .ok (.getfield 61, 3) := by decide +kernel
theorem dX5_stepOn_100 : decode cX5_stepOn 100 = .ok (.aload_n 1, 1) := by decide +kernel
theorem dX5_stepOn_101 : decode cX5_stepOn 101 = .ok (.getfield 103, 3) := by decide +kernel
theorem dX5_stepOn_104 : decode cX5_stepOn 104 = .ok (.if_icmp .ne 22, 3) := by decide +kernel
theorem dX5_stepOn_107 : decode cX5_stepOn 107 = .ok (.aload_n 0, 1) := by decide +kernel
theorem dX5_stepOn_108 : decode cX5_stepOn 108 = .ok (.aload_n 1, 1) := by decide +kernel
theorem dX5_stepOn_109 : decode cX5_stepOn 109 = .ok (.invokevirtual 152, 3) := by decide +kernel
theorem dX5_stepOn_112 : decode cX5_stepOn 112 = .ok (.aload_n 1, 1) := by decide +kernel
theorem dX5_stepOn_113 : decode cX5_stepOn 113 = .ok (.dup, 1) := by decide +kernel
theorem dX5_stepOn_114 : decode cX5_stepOn 114 = .ok (.getfield 156, 3) := by decide +kernel
theorem dX5_stepOn_117 : decode cX5_stepOn 117 = .ok (.iconst 1, 1) := by decide +kernel
theorem dX5_stepOn_118 : decode cX5_stepOn 118 = .ok (.iadd, 1) := by decide +kernel
theorem dX5_stepOn_119 : decode cX5_stepOn 119 = .ok (.putfield 156, 3) := by decide +kernel
theorem dX5_stepOn_122 : decode cX5_stepOn 122 = .ok (.aload_n 1, 1) := by decide +kernel
theorem dX5_stepOn_123 : decode cX5_stepOn 123 = .ok (.invokevirtual 149, 3) := by decide +kernel
theorem dX5_stepOn_126 : decode cX5_stepOn 126 = .ok (.iconst 1, 1) := by decide +kernel
theorem dX5_stepOn_127 : decode cX5_stepOn 127 = .ok (.ireturn, 1) := by decide +kernel
set_option maxRecDepth 20000 in
theorem ggX5_stepsOn_X5_stepOn : GoodIn wsX5_stepsOn wsX5_stepOn := goodIn_r _ [5, 6, 7, 8, 9, 10, 11, 12, 13, 14, 15, 4, 16, 17, 18, 19, 20, 21, 22, 23, 24, 25, 26, 27, 28, 29, 30, 31, 32, 33, 34, 35, 36, 37, 38, 39, 40, 41, 42, 43, 44, 45, 46, 47, 48, 49, 50, 51, 52, 53, 54, 55, 56, 57, 58, 59, 60, 61, 62, 63, 64, 65, 66, 67, 68, 69, 70, 71, 72, 73, 74, 75, 76, 77, 78, 79, 80, 81, 82, 83, 84, 85, 86, 87, 88, 89, 90, 91, 92, 93, 94, 95, 96, 97, 98] (by decide +kernel) (by decide +kernel)
set_option maxRecDepth 20000 in
theorem gX5_stepsOn_X5_stepOn : GoodIn wsX5_stepsOn (wsV RX5 159 RX5 yX5_stepOn wsX5_stepOn) := goodIn_app (goodIn_of _ (by decide +kernel)) ggX5_stepsOn_X5_stepOn
theorem dX5_stepsOn_0 : decode cX5_stepsOn 0 = .ok (.iconst 0, 1) := by decide +kernel
theorem dX5_stepsOn_1 : decode cX5_stepsOn 1 = .ok (.istore_n 3, 1) := by decide +kernel
theorem dX5_stepsOn_2 : decode cX5_stepsOn 2 = .ok (.iload_n 3, 1) := by decide +kernel
theorem dX5_stepsOn_3 : decode cX5_stepsOn 3 = .ok (.iload_n 2, 1) := by decide +kernel
theorem dX5_stepsOn_4 : decode cX5_stepsOn 4 = .ok (.if_icmp .ge 25, 3) := by decide +kernel
theorem dX5_stepsOn_7 : decode cX5_stepsOn 7 = .ok (.aload_n 1, 1) := by decide +kernel
theorem dX5_stepsOn_8 : decode cX5_stepsOn 8 = .ok (.getfield 103, 3) := by decide +kernel
theorem dX5_stepsOn_11 : decode cX5_stepsOn 11 = .ok (.iconst (-1), 1) := by decide +kernel
theorem dX5_stepsOn_12 : decode cX5_stepsOn 12 = .ok (.if_icmp .eq 17, 3) := by decide +kernel
theorem dX5_stepsOn_15 : decode cX5_stepsOn 15 = .ok (.aload_n 0, 1) := by decide +kernel
theorem dX5_stepsOn_16 : decode cX5_stepsOn 16 = .ok (.aload_n 1, 1) := by decide +kernel
theorem dX5_stepsOn_17 : decode cX5_stepsOn 17 = .ok (.invokevirtual 159, 3) := by decide +kernel
theorem dX5_stepsOn_20 : decode cX5_stepsOn 20 = .ok (.ifCond .eq 9, 3) := by decide +kernel
theorem dX5_stepsOn_23 : decode cX5_stepsOn 23 = .ok (.iinc 3 1, 3) := by decide +kernel
theorem dX5_stepsOn_26 : decode cX5_stepsOn 26 = .ok (.goto (-24), 3) := by decide +kernel
theorem dX5_stepsOn_29 : decode cX5_stepsOn 29 = .ok (.iload_n 3, 1) := by decide +kernel
theorem dX5_stepsOn_30 : decode cX5_stepsOn 30 = .ok (.ireturn, 1) := by decide +kernel
set_option maxRecDepth 20000 in
theorem ggX5_pay_X5_isIn : GoodIn wsX5_pay wsX5_isIn := goodIn_r _ [10] (by decide +kernel) (by decide +kernel)
set_option maxRecDepth 20000 in
theorem gX5_pay_X5_isIn : GoodIn wsX5_pay (va_wsS RX5 49 yX5_isIn wsX5_isIn) := goodIn_app (goodIn_of _ (by decide +kernel)) ggX5_pay_X5_isIn
set_option maxRecDepth 20000 in
theorem ggX5_pay_X5_no : GoodIn wsX5_pay wsX5_no := goodIn_r _ [14, 1, 15, 16, 17, 18, 19, 20, 21, 22, 23, 24, 25, 26] (by decide +kernel) (by decide +kernel)
set_option maxRecDepth 20000 in
theorem gX5_pay_X5_no : GoodIn wsX5_pay (wsV RX5 57 RX5 yX5_no wsX5_no) := goodIn_app (goodIn_of _ (by decide +kernel)) ggX5_pay_X5_no
theorem dX5_pay_0 : decode cX5_pay 0 = .ok (.aload_n 0, 1) := by decide +kernel
theorem dX5_pay_1 : decode cX5_pay 1 = .ok (.iconst 0, 1) := by decide +kernel
theorem dX5_pay_2 : decode cX5_pay 2 = .ok (.putfield 42, 3) := by decide +kernel
theorem dX5_pay_5 : decode cX5_pay 5 = .ok (.iload_n 1, 1) := by decide +kernel
theorem dX5_pay_6 : decode cX5_pay 6 = .ok (.iconst 1, 1) := by decide +kernel
theorem dX5_pay_7 : decode cX5_pay 7 = .ok (.bipush 99, 2) := by decide +kernel
theorem dX5_pay_9 : decode cX5_pay 9 = .ok (.invokestatic 49, 3) := by decide +kernel
theorem dX5_pay_12 : decode cX5_pay 12 = .ok (.ifCond .ne 9, 3) := by decide +kernel
theorem dX5_pay_15 : decode cX5_pay 15 = .ok (.aload_n 0, 1) := by decide +kernel
theorem dX5_pay_16 : decode cX5_pay 16 = .ok (.iconst 1, 1) := by decide +kernel
theorem dX5_pay_17 : decode cX5_pay 17 = .ok (.invokevirtual 57, 3) := by decide +kernel
theorem dX5_pay_20 : decode cX5_pay 20 = .ok (.ireturn, 1) := by decide +kernel
theorem dX5_pay_21 : decode cX5_pay 21 = .ok (.aload_n 0, 1) := by decide +kernel
theorem dX5_pay_22 : decode cX5_pay 22 = .ok (.getfield 35, 3) := by decide +kernel
theorem dX5_pay_25 : decode cX5_pay 25 = .ok (.bipush 99, 2) := by decide +kernel
theorem dX5_pay_27 : decode cX5_pay 27 = .ok (.aload_n 0, 1) := by decide +kernel
theorem dX5_pay_28 : decode cX5_pay 28 = .ok (.getfield 35, 3) := by decide +kernel
theorem dX5_pay_31 : decode cX5_pay 31 = .ok (.getfield 97, 3) := by decide +kernel
theorem dX5_pay_34 : decode cX5_pay 34 = .ok (.iload_n 1, 1) := by decide +kernel
theorem dX5_pay_35 : decode cX5_pay 35 = .ok (.iadd, 1) := by decide +kernel
theorem dX5_pay_36 : decode cX5_pay 36 = .ok (.invokestatic 131, 3) := by decide +kernel
theorem dX5_pay_39 : decode cX5_pay 39 = .ok (.putfield 97, 3) := by decide +kernel
theorem dX5_pay_42 : decode cX5_pay 42 = .ok (.aload_n 0, 1) := by decide +kernel
theorem dX5_pay_43 : decode cX5_pay 43 = .ok (.getfield 35, 3) := by decide +kernel
theorem dX5_pay_46 : decode cX5_pay 46 = .ok (.getfield 97, 3) := by decide +kernel
theorem dX5_pay_49 : decode cX5_pay 49 = .ok (.ireturn, 1) := by decide +kernel
set_option maxRecDepth 20000 in
theorem ggX5_milesBetween_X5_measure : GoodIn wsX5_milesBetween wsX5_measure := goodIn_r _ [6, 7, 1, 8, 9, 10, 11, 12, 13, 14, 15, 16, 17, 18, 19, 20, 21, 22, 23, 24] (by decide +kernel) (by decide +kernel)
set_option maxRecDepth 20000 in
theorem gX5_milesBetween_X5_measure : GoodIn wsX5_milesBetween (wsV RX5 90 RX5 yX5_measure wsX5_measure) := goodIn_app (goodIn_of _ (by decide +kernel)) ggX5_milesBetween_X5_measure
theorem dX5_milesBetween_0 : decode cX5_milesBetween 0 = .ok (.aload_n 0, 1) := by decide +kernel
theorem dX5_milesBetween_1 : decode cX5_milesBetween 1 = .ok (.iload_n 2, 1) := by decide +kernel
theorem dX5_milesBetween_2 : decode cX5_milesBetween 2 = .ok (.invokevirtual 90, 3) := by decide +kernel
theorem dX5_milesBetween_5 : decode cX5_milesBetween 5 = .ok (.aload_n 0, 1) := by decide +kernel
theorem dX5_milesBetween_6 : decode cX5_milesBetween 6 = .ok (.getfield 29, 3) := by decide +kernel
theorem dX5_milesBetween_9 : decode cX5_milesBetween 9 = .ok (.iload_n 1, 1) := by decide +kernel
theorem dX5_milesBetween_10 : decode cX5_milesBetween 10 = .ok (.iaload, 1) := by decide +kernel
theorem dX5_milesBetween_11 : decode cX5_milesBetween 11 = .ok (.sipush 9999, 3) := by decide +kernel
theorem dX5_milesBetween_14 : decode cX5_milesBetween 14 = .ok (.if_icmp .ne 7, 3) := by decide +kernel
theorem dX5_milesBetween_17 : decode cX5_milesBetween 17 = .ok (.iconst (-1), 1) := by decide +kernel
theorem dX5_milesBetween_18 : decode cX5_milesBetween 18 = .ok (.goto 9, 3) := by decide +kernel
theorem dX5_milesBetween_21 : decode cX5_milesBetween 21 = .ok (.aload_n 0, 1) := by decide +kernel
theorem dX5_milesBetween_22 : decode cX5_milesBetween 22 = .ok (.getfield 29, 3) := by decide +kernel
theorem dX5_milesBetween_25 : decode cX5_milesBetween 25 = .ok (.iload_n 1, 1) := by decide +kernel
theorem dX5_milesBetween_26 : decode cX5_milesBetween 26 = .ok (.iaload, 1) := by decide +kernel
theorem dX5_milesBetween_27 : decode cX5_milesBetween 27 = .ok (.ireturn, 1) := by decide +kernel
set_option maxRecDepth 20000 in
theorem ggX5_start_X4_begin : GoodIn wsX5_start wsX4_begin := goodIn_r _ [5, 6, 7, 8, 9, 10, 11, 12, 13, 14, 15, 16, 17, 18, 19, 20, 21, 22, 23] (by decide +kernel) (by decide +kernel)
set_option maxRecDepth 20000 in
theorem gX5_start_X4_begin : GoodIn wsX5_start (wsV RX5 162 RX4 yX4_begin wsX4_begin) := goodIn_app (goodIn_of _ (by decide +kernel)) ggX5_start_X4_begin
theorem dX5_start_0 : decode cX5_start 0 = .ok (.iload_n 1, 1) := by decide +kernel
theorem dX5_start_1 : decode cX5_start 1 = .ok (.aload_n 0, 1) := by decide +kernel
theorem dX5_start_2 : decode cX5_start 2 = .ok (.getfield 61, 3) := by decide +kernel
theorem dX5_start_5 : decode cX5_start 5 = .ok (.if_icmp .ne 16, 3) := by decide +kernel
theorem dX5_start_8 : decode cX5_start 8 = .ok (.aload_n 0, 1) := by decide +kernel
theorem dX5_start_9 : decode cX5_start 9 = .ok (.dup, 1) := by decide +kernel
theorem dX5_start_10 : decode cX5_start 10 = .ok (.getfield 156, 3) := by decide +kernel
theorem dX5_start_13 : decode cX5_start 13 = .ok (.iconst 1, 1) := by decide +kernel
theorem dX5_start_14 : decode cX5_start 14 = .ok (.iadd, 1) := by decide +kernel
theorem dX5_start_15 : decode cX5_start 15 = .ok (.putfield 156, 3) := by decide +kernel
theorem dX5_start_18 : decode cX5_start 18 = .ok (.goto 8, 3) := by decide +kernel
theorem dX5_start_21 : decode cX5_start 21 = .ok (.aload_n 0, 1) := by decide +kernel
theorem dX5_start_22 : decode cX5_start 22 = .ok (.iload_n 1, 1) := by decide +kernel
theorem dX5_start_23 : decode cX5_start 23 = .ok (.invokevirtual 162, 3) := by decide +kernel
theorem dX5_start_26 : decode cX5_start 26 = .ok (.return_, 1) := by decide +kernel
set_option maxRecDepth 20000 in
theorem ggX5_beginErrand_X5_isPlace : GoodIn wsX5_beginErrand wsX5_isPlace := goodIn_r _ [7, 8, 9, 10, 6, 11, 42, 43, 44, 45, 46, 47, 48, 49, 50, 51, 52, 53] (by decide +kernel) (by decide +kernel)
set_option maxRecDepth 20000 in
theorem gX5_beginErrand_X5_isPlace : GoodIn wsX5_beginErrand (wsV RX5 53 RX5 yX5_isPlace wsX5_isPlace) := goodIn_app (goodIn_of _ (by decide +kernel)) ggX5_beginErrand_X5_isPlace
set_option maxRecDepth 20000 in
theorem ggX5_beginErrand_X5_no : GoodIn wsX5_beginErrand wsX5_no := goodIn_r _ [15, 1, 42, 43, 44, 45, 46, 47, 48, 49, 50, 51, 52, 53] (by decide +kernel) (by decide +kernel)
set_option maxRecDepth 20000 in
theorem gX5_beginErrand_X5_no : GoodIn wsX5_beginErrand (wsV RX5 57 RX5 yX5_no wsX5_no) := goodIn_app (goodIn_of _ (by decide +kernel)) ggX5_beginErrand_X5_no
set_option maxRecDepth 20000 in
theorem ggX5_beginErrand_X5_start : GoodIn wsX5_beginErrand wsX5_start := goodIn_r _ [18, 19, 20, 21, 22, 23, 24, 25, 26, 27, 54, 55, 56, 57, 58, 59, 60, 61, 62, 63, 64, 65, 66, 67] (by decide +kernel) (by decide +kernel)
set_option maxRecDepth 20000 in
theorem gX5_beginErrand_X5_start : GoodIn wsX5_beginErrand (va_wsS RX5 165 yX5_start wsX5_start) := goodIn_app (goodIn_of _ (by decide +kernel)) ggX5_beginErrand_X5_start
set_option maxRecDepth 20000 in
theorem ggX5_beginErrand_X5_milesBetween : GoodIn wsX5_beginErrand wsX5_milesBetween := goodIn_r _ [31, 32, 33, 34, 35, 6, 36, 8, 37, 38, 39, 40, 41, 42, 43, 44, 45, 46, 47, 48, 49, 50, 51, 52, 53] (by decide +kernel) (by decide +kernel)
set_option maxRecDepth 20000 in
theorem gX5_beginErrand_X5_milesBetween : GoodIn wsX5_beginErrand (wsV RX5 168 RX5 yX5_milesBetween wsX5_milesBetween) := goodIn_app (goodIn_of _ (by decide +kernel)) ggX5_beginErrand_X5_milesBetween
theorem dX5_beginErrand_0 : decode cX5_beginErrand 0 = .ok (.aload_n 0, 1) := by decide +kernel
theorem dX5_beginErrand_1 : decode cX5_beginErrand 1 = .ok (.iconst 0, 1) := by decide +kernel
theorem dX5_beginErrand_2 : decode cX5_beginErrand 2 = .ok (.putfield 42, 3) := by decide +kernel
theorem dX5_beginErrand_5 : decode cX5_beginErrand 5 = .ok (.aload_n 0, 1) := by decide +kernel
theorem dX5_beginErrand_6 : decode cX5_beginErrand 6 = .ok (.iload_n 1, 1) := by decide +kernel
theorem dX5_beginErrand_7 : decode cX5_beginErrand 7 = .ok (.invokevirtual 53, 3) := by decide +kernel
theorem dX5_beginErrand_10 : decode cX5_beginErrand 10 = .ok (.ifCond .ne 9, 3) := by decide +kernel
theorem dX5_beginErrand_13 : decode cX5_beginErrand 13 = .ok (.aload_n 0, 1) := by decide +kernel
theorem dX5_beginErrand_14 : decode cX5_beginErrand 14 = .ok (.iconst 1, 1) := by decide +kernel
theorem dX5_beginErrand_15 : decode cX5_beginErrand 15 = .ok (.invokevirtual 57, 3) := by decide +kernel
theorem dX5_beginErrand_18 : decode cX5_beginErrand 18 = .ok (.ireturn, 1) := by decide +kernel
theorem dX5_beginErrand_19 : decode cX5_beginErrand 19 = .ok (.aload_n 0, 1) := by decide +kernel
theorem dX5_beginErrand_20 : decode cX5_beginErrand 20 = .ok (.getfield 35, 3) := by decide +kernel
theorem dX5_beginErrand_23 : decode cX5_beginErrand 23 = .ok (.getfield 103, 3) := by decide +kernel
theorem dX5_beginErrand_26 : decode cX5_beginErrand 26 = .ok (.iconst (-1), 1) := by decide +kernel
theorem dX5_beginErrand_27 : decode cX5_beginErrand 27 = .ok (.if_icmp .eq 9, 3) := by decide +kernel
theorem dX5_beginErrand_30 : decode cX5_beginErrand 30 = .ok (.aload_n 0, 1) := by decide +kernel
theorem dX5_beginErrand_31 : decode cX5_beginErrand 31 = .ok (.iconst 2, 1) := by decide +kernel
theorem dX5_beginErrand_32 : decode cX5_beginErrand 32 = .ok (.invokevirtual 57, 3) := by decide +kernel
theorem dX5_beginErrand_35 : decode cX5_beginErrand 35 = .ok (.ireturn, 1) := by decide +kernel
theorem dX5_beginErrand_36 : decode cX5_beginErrand 36 = .ok (.aload_n 0, 1) := by decide +kernel
theorem dX5_beginErrand_37 : decode cX5_beginErrand 37 = .ok (.getfield 35, 3) := by decide +kernel
theorem dX5_beginErrand_40 : decode cX5_beginErrand 40 = .ok (.iload_n 1, 1) := by decide +kernel
theorem dX5_beginErrand_41 : decode cX5_beginErrand 41 = .ok (.invokestatic 165, 3) := by decide +kernel
theorem dX5_beginErrand_44 : decode cX5_beginErrand 44 = .ok (.aload_n 0, 1) := by decide +kernel
theorem dX5_beginErrand_45 : decode cX5_beginErrand 45 = .ok (.aload_n 0, 1) := by decide +kernel
theorem dX5_beginErrand_46 : decode cX5_beginErrand 46 = .ok (.getfield 35, 3) := by decide +kernel
theorem dX5_beginErrand_49 : decode cX5_beginErrand 49 = .ok (.getfield 61, 3) := by decide +kernel
theorem dX5_beginErrand_52 : decode cX5_beginErrand 52 = .ok (.iload_n 1, 1) := by decide +kernel
theorem dX5_beginErrand_53 : decode cX5_beginErrand 53 = .ok (.invokevirtual 168, 3) := by decide +kernel
theorem dX5_beginErrand_56 : decode cX5_beginErrand 56 = .ok (.ireturn, 1) := by decide +kernel
set_option maxRecDepth 20000 in
theorem ggX5_goOn_X5_isIn : GoodIn wsX5_goOn wsX5_isIn := goodIn_r _ [6] (by decide +kernel) (by decide +kernel)
set_option maxRecDepth 20000 in
theorem gX5_goOn_X5_isIn : GoodIn wsX5_goOn (va_wsS RX5 49 yX5_isIn wsX5_isIn) := goodIn_app (goodIn_of _ (by decide +kernel)) ggX5_goOn_X5_isIn
set_option maxRecDepth 20000 in
theorem ggX5_goOn_X5_no : GoodIn wsX5_goOn wsX5_no := goodIn_r _ [10, 1, 86, 87, 88, 89, 90, 91, 92, 93, 94, 95, 96, 97] (by decide +kernel) (by decide +kernel)
set_option maxRecDepth 20000 in
theorem gX5_goOn_X5_no : GoodIn wsX5_goOn (wsV RX5 57 RX5 yX5_no wsX5_no) := goodIn_app (goodIn_of _ (by decide +kernel)) ggX5_goOn_X5_no
set_option maxRecDepth 20000 in
theorem ggX5_goOn_X5_stepsOn : GoodIn wsX5_goOn wsX5_stepsOn := goodIn_r _ [14, 15, 16, 17, 5, 18, 19, 20, 21, 22, 23, 24, 25, 26, 27, 28, 29, 30, 31, 32, 33, 34, 35, 36, 37, 38, 39, 40, 41, 42, 43, 44, 45, 46, 47, 48, 49, 50, 51, 52, 53, 54, 55, 56, 57, 58, 59, 60, 61, 62, 63, 64, 65, 66, 67, 68, 69, 70, 71, 72, 73, 74, 75, 76, 77, 78, 79, 80, 81, 82, 83, 84, 85, 98, 99, 100, 101, 102, 103, 104, 105, 106, 107, 108, 109, 110, 111, 86, 87, 88, 89, 90, 91, 92, 93, 94, 95, 96, 97] (by decide +kernel) (by decide +kernel)
set_option maxRecDepth 20000 in
theorem gX5_goOn_X5_stepsOn : GoodIn wsX5_goOn (wsV RX5 171 RX5 yX5_stepsOn wsX5_stepsOn) := goodIn_app (goodIn_of _ (by decide +kernel)) ggX5_goOn_X5_stepsOn
theorem dX5_goOn_0 : decode cX5_goOn 0 = .ok (.aload_n 0, 1) := by decide +kernel
theorem dX5_goOn_1 : decode cX5_goOn 1 = .ok (.iconst 0, 1) := by decide +kernel
theorem dX5_goOn_2 : decode cX5_goOn 2 = .ok (.putfield 42, 3) := by decide +kernel
theorem dX5_goOn_5 : decode cX5_goOn 5 = .ok (.iload_n 1, 1) := by decide +kernel
theorem dX5_goOn_6 : decode cX5_goOn 6 = .ok (.iconst 1, 1) := by decide +kernel
theorem dX5_goOn_7 : decode cX5_goOn 7 = .ok (.bipush 100, 2) := by decide +kernel
theorem dX5_goOn_9 : decode cX5_goOn 9 = .ok (.invokestatic 49, 3) := by decide +kernel
theorem dX5_goOn_12 : decode cX5_goOn 12 = .ok (.ifCond .ne 9, 3) := by decide +kernel
theorem dX5_goOn_15 : decode cX5_goOn 15 = .ok (.aload_n 0, 1) := by decide +kernel
theorem dX5_goOn_16 : decode cX5_goOn 16 = .ok (.iconst 1, 1) := by decide +kernel
theorem dX5_goOn_17 : decode cX5_goOn 17 = .ok (.invokevirtual 57, 3) := by decide +kernel
theorem dX5_goOn_20 : decode cX5_goOn 20 = .ok (.ireturn, 1) := by decide +kernel
theorem dX5_goOn_21 : decode cX5_goOn 21 = .ok (.aload_n 0, 1) := by decide +kernel
theorem dX5_goOn_22 : decode cX5_goOn 22 = .ok (.getfield 35, 3) := by decide +kernel
theorem dX5_goOn_25 : decode cX5_goOn 25 = .ok (.getfield 103, 3) := by decide +kernel
theorem dX5_goOn_28 : decode cX5_goOn 28 = .ok (.iconst (-1), 1) := by decide +kernel
theorem dX5_goOn_29 : decode cX5_goOn 29 = .ok (.if_icmp .ne 11, 3) := by decide +kernel
theorem dX5_goOn_32 : decode cX5_goOn 32 = .ok (.aload_n 0, 1) := by decide +kernel
theorem dX5_goOn_33 : decode cX5_goOn 33 = .ok (.iconst 2, 1) := by decide +kernel
theorem dX5_goOn_34 : decode cX5_goOn 34 = .ok (.invokevirtual 57, 3) := by decide +kernel
theorem dX5_goOn_37 : decode cX5_goOn 37 = .ok (.goto 12, 3) := by decide +kernel
theorem dX5_goOn_40 : decode cX5_goOn 40 = .ok (.aload_n 0, 1) := by decide +kernel
theorem dX5_goOn_41 : decode cX5_goOn 41 = .ok (.aload_n 0, 1) := by decide +kernel
theorem dX5_goOn_42 : decode cX5_goOn 42 = .ok (.getfield 35, 3) := by decide +kernel
theorem dX5_goOn_45 : decode cX5_goOn 45 = .ok (.iload_n 1, 1) := by decide +kernel
theorem dX5_goOn_46 : decode cX5_goOn 46 = .ok (.invokevirtual 171, 3) := by decide +kernel
theorem dX5_goOn_49 : decode cX5_goOn 49 = .ok (.ireturn, 1) := by decide +kernel
set_option maxRecDepth 20000 in
theorem ggX5_giveUp_X5_no : GoodIn wsX5_giveUp wsX5_no := goodIn_r _ [7, 1, 21, 22, 23, 24, 25, 26, 27, 28, 29, 30, 31, 32] (by decide +kernel) (by decide +kernel)
set_option maxRecDepth 20000 in
theorem gX5_giveUp_X5_no : GoodIn wsX5_giveUp (wsV RX5 57 RX5 yX5_no wsX5_no) := goodIn_app (goodIn_of _ (by decide +kernel)) ggX5_giveUp_X5_no
set_option maxRecDepth 20000 in
theorem ggX5_giveUp_X4_end : GoodIn wsX5_giveUp wsX4_end := goodIn_r _ [12, 13, 14, 15, 11, 16, 17, 18, 19, 20, 33, 34, 35, 36, 37, 38, 39, 40, 41, 42, 43, 44, 45, 46] (by decide +kernel) (by decide +kernel)
set_option maxRecDepth 20000 in
theorem gX5_giveUp_X4_end : GoodIn wsX5_giveUp (wsV RX5 149 RX4 yX4_end wsX4_end) := goodIn_app (goodIn_of _ (by decide +kernel)) ggX5_giveUp_X4_end
theorem dX5_giveUp_0 : decode cX5_giveUp 0 = .ok (.aload_n 0, 1) := by decide +kernel
theorem dX5_giveUp_1 : decode cX5_giveUp 1 = .ok (.iconst 0, 1) := by decide +kernel
theorem dX5_giveUp_2 : decode cX5_giveUp 2 = .ok (.putfield 42, 3) := by decide +kernel
theorem dX5_giveUp_5 : decode cX5_giveUp 5 = .ok (.aload_n 0, 1) := by decide +kernel
theorem dX5_giveUp_6 : decode cX5_giveUp 6 = .ok (.getfield 35, 3) := by decide +kernel
theorem dX5_giveUp_9 : decode cX5_giveUp 9 = .ok (.getfield 103, 3) := by decide +kernel
theorem dX5_giveUp_12 : decode cX5_giveUp 12 = .ok (.iconst (-1), 1) := by decide +kernel
theorem dX5_giveUp_13 : decode cX5_giveUp 13 = .ok (.if_icmp .ne 9, 3) := by decide +kernel
theorem dX5_giveUp_16 : decode cX5_giveUp 16 = .ok (.aload_n 0, 1) := by decide +kernel
theorem dX5_giveUp_17 : decode cX5_giveUp 17 = .ok (.iconst 1, 1) := by decide +kernel
theorem dX5_giveUp_18 : decode cX5_giveUp 18 = .ok (.invokevirtual 57, 3) := by decide +kernel
theorem dX5_giveUp_21 : decode cX5_giveUp 21 = .ok (.ireturn, 1) := by decide +kernel
theorem dX5_giveUp_22 : decode cX5_giveUp 22 = .ok (.aload_n 0, 1) := by decide +kernel
theorem dX5_giveUp_23 : decode cX5_giveUp 23 = .ok (.getfield 35, 3) := by decide +kernel
theorem dX5_giveUp_26 : decode cX5_giveUp 26 = .ok (.getfield 84, 3) := by decide +kernel
theorem dX5_giveUp_29 : decode cX5_giveUp 29 = .ok (.istore_n 1, 1) := by decide +kernel
theorem dX5_giveUp_30 : decode cX5_giveUp 30 = .ok (.aload_n 0, 1) := by decide +kernel
theorem dX5_giveUp_31 : decode cX5_giveUp 31 = .ok (.getfield 35, 3) := by decide +kernel
theorem dX5_giveUp_34 : decode cX5_giveUp 34 = .ok (.invokevirtual 149, 3) := by decide +kernel
theorem dX5_giveUp_37 : decode cX5_giveUp 37 = .ok (.iload_n 1, 1) := by decide +kernel
theorem dX5_giveUp_38 : decode cX5_giveUp 38 = .ok (.ireturn, 1) := by decide +kernel
theorem dX5_night_0 : decode cX5_night 0 = .ok (.iconst 0, 1) := by decide +kernel
theorem dX5_night_1 : decode cX5_night 1 = .ok (.istore_n 1, 1) := by decide +kernel
theorem dX5_night_2 : decode cX5_night 2 = .ok (.iconst 0, 1) := by decide +kernel
theorem dX5_night_3 : decode cX5_night 3 = .ok (.istore_n 2, 1) := by decide +kernel
theorem dX5_night_4 : decode cX5_night 4 = .ok (.iload_n 2, 1) := by decide +kernel
theorem dX5_night_5 : decode cX5_night 5 = .ok (.bipush 100, 2) := by decide +kernel
theorem dX5_night_7 : decode cX5_night 7 = .ok (.if_icmp .ge 66, 3) := by decide +kernel
theorem dX5_night_10 : decode cX5_night 10 = .ok (.aload_n 0, 1) := by decide +kernel
theorem dX5_night_11 : decode cX5_night 11 = .ok (.getfield 35, 3) := by decide +kernel
theorem dX5_night_14 : decode cX5_night 14 = .ok (.getfield 175, 3) := by decide +kernel
theorem dX5_night_17 : decode cX5_night 17 = .ok (.iload_n 2, 1) := by decide +kernel
theorem dX5_night_18 : decode cX5_night 18 = .ok (.iaload, 1) := by decide +kernel
theorem dX5_night_19 : decode cX5_night 19 = .ok (.iconst (-1), 1) := by decide +kernel
theorem dX5_night_20 : decode cX5_night 20 = .ok (.if_icmp .ne 6, 3) := by decide +kernel
theorem dX5_night_23 : decode cX5_night 23 = .ok (.goto 44, 3) := by decide +kernel
theorem dX5_night_26 : decode cX5_night 26 = .ok (.aload_n 0, 1) := by decide +kernel
theorem dX5_night_27 : decode cX5_night 27 = .ok (.getfield 35, 3) := by decide +kernel
theorem dX5_night_30 : decode cX5_night 30 = .ok (.getfield 128, 3) := by decide +kernel
theorem dX5_night_33 : decode cX5_night 33 = .ok (.iload_n 2, 1) := by decide +kernel
theorem dX5_night_34 : decode cX5_night 34 = .ok (.dup2, 1) := by decide +kernel
theorem dX5_night_35 : decode cX5_night 35 = .ok (.iaload, 1) := by decide +kernel
theorem dX5_night_36 : decode cX5_night 36 = .ok (.iconst 1, 1) := by decide +kernel
theorem dX5_night_37 : decode cX5_night 37 = .ok (.isub, 1) := by decide +kernel
theorem dX5_night_38 : decode cX5_night 38 = .ok (.iastore, 1) := by decide +kernel
theorem dX5_night_39 : decode cX5_night 39 = .ok (.aload_n 0, 1) := by decide +kernel
theorem dX5_night_40 : decode cX5_night 40 = .ok (.getfield 35, 3) := by decide +kernel
theorem dX5_night_43 : decode cX5_night 43 = .ok (.getfield 128, 3) := by decide +kernel
theorem dX5_night_46 : decode cX5_night 46 = .ok (.iload_n 2, 1) := by decide +kernel
theorem dX5_night_47 : decode cX5_night 47 = .ok (.iaload, 1) := by decide +kernel
theorem dX5_night_48 : decode cX5_night 48 = .ok (.ifCond .le 6, 3) := by decide +kernel
theorem dX5_night_51 : decode cX5_night 51 = .ok (.goto 16, 3) := by decide +kernel
theorem dX5_night_54 : decode cX5_night 54 = .ok (.aload_n 0, 1) := by decide +kernel
theorem dX5_night_55 : decode cX5_night 55 = .ok (.getfield 35, 3) := by decide +kernel
theorem dX5_night_58 : decode cX5_night 58 = .ok (.getfield 175, 3) := by decide +kernel
theorem dX5_night_61 : decode cX5_night 61 = .ok (.iload_n 2, 1) := by decide +kernel
theorem dX5_night_62 : decode cX5_night 62 = .ok (.iconst (-1), 1) := by decide +kernel
theorem dX5_night_63 : decode cX5_night 63 = .ok (.iastore, 1) := by decide +kernel
theorem dX5_night_64 : decode cX5_night 64 = .ok (.iinc 1 1, 3) := by decide +kernel
theorem dX5_night_67 : decode cX5_night 67 = .ok (.iinc 2 1, 3) := by decide +kernel
theorem dX5_night_70 : decode cX5_night 70 = .ok (.goto (-66), 3) := by decide +kernel
theorem dX5_night_73 : decode cX5_night 73 = .ok (.iload_n 1, 1) := by decide +kernel
theorem dX5_night_74 : decode cX5_night 74 = .ok (.ireturn, 1) := by decide +kernel
set_option maxRecDepth 20000 in
theorem ggX5_sleep_X5_isIn : GoodIn wsX5_sleep wsX5_isIn := goodIn_r _ [5] (by decide +kernel) (by decide +kernel)
set_option maxRecDepth 20000 in
theorem gX5_sleep_X5_isIn : GoodIn wsX5_sleep (va_wsS RX5 49 yX5_isIn wsX5_isIn) := goodIn_app (goodIn_of _ (by decide +kernel)) ggX5_sleep_X5_isIn
set_option maxRecDepth 20000 in
theorem ggX5_sleep_X5_no : GoodIn wsX5_sleep wsX5_no := goodIn_r _ [9, 1, 15, 16, 17, 18, 19, 20, 21, 22, 23, 24, 25, 26] (by decide +kernel) (by decide +kernel)
set_option maxRecDepth 20000 in
theorem gX5_sleep_X5_no : GoodIn wsX5_sleep (wsV RX5 57 RX5 yX5_no wsX5_no) := goodIn_app (goodIn_of _ (by decide +kernel)) ggX5_sleep_X5_no
set_option maxRecDepth 20000 in
theorem ggX5_sleep_X5_night : GoodIn wsX5_sleep wsX5_night := goodIn_r _ [13, 14, 15, 16, 17, 18, 19, 20, 21, 22, 23, 24, 25, 26, 27, 28, 29, 30, 31, 32, 33, 34, 35, 36, 37, 38, 39, 40] (by decide +kernel) (by decide +kernel)
set_option maxRecDepth 20000 in
theorem gX5_sleep_X5_night : GoodIn wsX5_sleep (wsV RX5 178 RX5 yX5_night wsX5_night) := goodIn_app (goodIn_of _ (by decide +kernel)) ggX5_sleep_X5_night
theorem dX5_sleep_0 : decode cX5_sleep 0 = .ok (.aload_n 0, 1) := by decide +kernel
theorem dX5_sleep_1 : decode cX5_sleep 1 = .ok (.iconst 0, 1) := by decide +kernel
theorem dX5_sleep_2 : decode cX5_sleep 2 = .ok (.putfield 42, 3) := by decide +kernel
theorem dX5_sleep_5 : decode cX5_sleep 5 = .ok (.iload_n 1, 1) := by decide +kernel
theorem dX5_sleep_6 : decode cX5_sleep 6 = .ok (.iconst 1, 1) := by decide +kernel
theorem dX5_sleep_7 : decode cX5_sleep 7 = .ok (.bipush 9, 2) := by decide +kernel
theorem dX5_sleep_9 : decode cX5_sleep 9 = .ok (.invokestatic 49, 3) := by decide +kernel
theorem dX5_sleep_12 : decode cX5_sleep 12 = .ok (.ifCond .ne 9, 3) := by decide +kernel
theorem dX5_sleep_15 : decode cX5_sleep 15 = .ok (.aload_n 0, 1) := by decide +kernel
theorem dX5_sleep_16 : decode cX5_sleep 16 = .ok (.iconst 1, 1) := by decide +kernel
theorem dX5_sleep_17 : decode cX5_sleep 17 = .ok (.invokevirtual 57, 3) := by decide +kernel
theorem dX5_sleep_20 : decode cX5_sleep 20 = .ok (.ireturn, 1) := by decide +kernel
theorem dX5_sleep_21 : decode cX5_sleep 21 = .ok (.iconst 0, 1) := by decide +kernel
theorem dX5_sleep_22 : decode cX5_sleep 22 = .ok (.istore_n 2, 1) := by decide +kernel
theorem dX5_sleep_23 : decode cX5_sleep 23 = .ok (.iconst 0, 1) := by decide +kernel
theorem dX5_sleep_24 : decode cX5_sleep 24 = .ok (.istore_n 3, 1) := by decide +kernel
theorem dX5_sleep_25 : decode cX5_sleep 25 = .ok (.iload_n 3, 1) := by decide +kernel
theorem dX5_sleep_26 : decode cX5_sleep 26 = .ok (.iload_n 1, 1) := by decide +kernel
theorem dX5_sleep_27 : decode cX5_sleep 27 = .ok (.if_icmp .ge 16, 3) := by decide +kernel
theorem dX5_sleep_30 : decode cX5_sleep 30 = .ok (.iload_n 2, 1) := by decide +kernel
theorem dX5_sleep_31 : decode cX5_sleep 31 = .ok (.aload_n 0, 1) := by decide +kernel
theorem dX5_sleep_32 : decode cX5_sleep 32 = .ok (.invokevirtual 178, 3) := by decide +kernel
theorem dX5_sleep_35 : decode cX5_sleep 35 = .ok (.iadd, 1) := by decide +kernel
theorem dX5_sleep_36 : decode cX5_sleep 36 = .ok (.istore_n 2, 1) := by decide +kernel
theorem dX5_sleep_37 : decode cX5_sleep 37 = .ok (.iinc 3 1, 3) := by decide +kernel
theorem dX5_sleep_40 : decode cX5_sleep 40 = .ok (.goto (-15), 3) := by decide +kernel
theorem dX5_sleep_43 : decode cX5_sleep 43 = .ok (.iload_n 2, 1) := by decide +kernel
theorem dX5_sleep_44 : decode cX5_sleep 44 = .ok (.ireturn, 1) := by decide +kernel
theorem dX5_ok_0 : decode cX5_ok 0 = .ok (.aload_n 0, 1) := by decide +kernel
theorem dX5_ok_1 : decode cX5_ok 1 = .ok (.iconst 0, 1) := by decide +kernel
theorem dX5_ok_2 : decode cX5_ok 2 = .ok (.putfield 42, 3) := by decide +kernel
theorem dX5_ok_5 : decode cX5_ok 5 = .ok (.iload_n 1, 1) := by decide +kernel
theorem dX5_ok_6 : decode cX5_ok 6 = .ok (.ireturn, 1) := by decide +kernel
set_option maxRecDepth 20000 in
theorem ggX5_places_X5_ok : GoodIn wsX5_places wsX5_ok := goodIn_r _ [6, 7, 8, 9, 10, 11, 12, 13, 14, 15, 16, 17, 18, 19] (by decide +kernel) (by decide +kernel)
set_option maxRecDepth 20000 in
theorem gX5_places_X5_ok : GoodIn wsX5_places (wsV RX5 182 RX5 yX5_ok wsX5_ok) := goodIn_app (goodIn_of _ (by decide +kernel)) ggX5_places_X5_ok
theorem dX5_places_0 : decode cX5_places 0 = .ok (.aload_n 0, 1) := by decide +kernel
theorem dX5_places_1 : decode cX5_places 1 = .ok (.aload_n 0, 1) := by decide +kernel
theorem dX5_places_2 : decode cX5_places 2 = .ok (.getfield 46, 3) := by decide +kernel
theorem dX5_places_5 : decode cX5_places 5 = .ok (.invokevirtual 182, 3) := by decide +kernel
theorem dX5_places_8 : decode cX5_places 8 = .ok (.ireturn, 1) := by decide +kernel
set_option maxRecDepth 20000 in
theorem ggX5_exitsOf_X5_isPlace : GoodIn wsX5_exitsOf wsX5_isPlace := goodIn_r _ [7, 8, 9, 10, 6, 11, 16, 17, 18, 19, 20, 21, 22, 23, 24, 25, 26, 27] (by decide +kernel) (by decide +kernel)
set_option maxRecDepth 20000 in
theorem gX5_exitsOf_X5_isPlace : GoodIn wsX5_exitsOf (wsV RX5 53 RX5 yX5_isPlace wsX5_isPlace) := goodIn_app (goodIn_of _ (by decide +kernel)) ggX5_exitsOf_X5_isPlace
set_option maxRecDepth 20000 in
theorem ggX5_exitsOf_X5_no : GoodIn wsX5_exitsOf wsX5_no := goodIn_r _ [15, 1, 16, 17, 18, 19, 20, 21, 22, 23, 24, 25, 26, 27] (by decide +kernel) (by decide +kernel)
set_option maxRecDepth 20000 in
theorem gX5_exitsOf_X5_no : GoodIn wsX5_exitsOf (wsV RX5 57 RX5 yX5_no wsX5_no) := goodIn_app (goodIn_of _ (by decide +kernel)) ggX5_exitsOf_X5_no
theorem dX5_exitsOf_0 : decode cX5_exitsOf 0 = .ok (.aload_n 0, 1) := by decide +kernel
theorem dX5_exitsOf_1 : decode cX5_exitsOf 1 = .ok (.iconst 0, 1) := by decide +kernel
theorem dX5_exitsOf_2 : decode cX5_exitsOf 2 = .ok (.putfield 42, 3) := by decide +kernel
theorem dX5_exitsOf_5 : decode cX5_exitsOf 5 = .ok (.aload_n 0, 1) := by decide +kernel
theorem dX5_exitsOf_6 : decode cX5_exitsOf 6 = .ok (.iload_n 1, 1) := by decide +kernel
theorem dX5_exitsOf_7 : decode cX5_exitsOf 7 = .ok (.invokevirtual 53, 3) := by decide +kernel
theorem dX5_exitsOf_10 : decode cX5_exitsOf 10 = .ok (.ifCond .eq 12, 3) := by decide +kernel
theorem dX5_exitsOf_13 : decode cX5_exitsOf 13 = .ok (.aload_n 0, 1) := by decide +kernel
theorem dX5_exitsOf_14 : decode cX5_exitsOf 14 = .ok (.getfield 9, 3) := by decide +kernel
theorem dX5_exitsOf_17 : decode cX5_exitsOf 17 = .ok (.iload_n 1, 1) := by decide +kernel
theorem dX5_exitsOf_18 : decode cX5_exitsOf 18 = .ok (.iaload, 1) := by decide +kernel
theorem dX5_exitsOf_19 : decode cX5_exitsOf 19 = .ok (.goto 8, 3) := by decide +kernel
theorem dX5_exitsOf_22 : decode cX5_exitsOf 22 = .ok (.aload_n 0, 1) := by decide +kernel
theorem dX5_exitsOf_23 : decode cX5_exitsOf 23 = .ok (.iconst 1, 1) := by decide +kernel
theorem dX5_exitsOf_24 : decode cX5_exitsOf 24 = .ok (.invokevirtual 57, 3) := by decide +kernel
theorem dX5_exitsOf_27 : decode cX5_exitsOf 27 = .ok (.ireturn, 1) := by decide +kernel
set_option maxRecDepth 20000 in
theorem ggX5_leadsTo_X5_isExit : GoodIn wsX5_leadsTo wsX5_isExit := goodIn_r _ [7, 8, 9, 10, 11, 6, 12, 13, 14, 15, 16, 21, 22, 23, 24, 25, 26, 27, 28, 29, 30, 31, 32] (by decide +kernel) (by decide +kernel)
set_option maxRecDepth 20000 in
theorem gX5_leadsTo_X5_isExit : GoodIn wsX5_leadsTo (wsV RX5 74 RX5 yX5_isExit wsX5_isExit) := goodIn_app (goodIn_of _ (by decide +kernel)) ggX5_leadsTo_X5_isExit
set_option maxRecDepth 20000 in
theorem ggX5_leadsTo_X5_no : GoodIn wsX5_leadsTo wsX5_no := goodIn_r _ [20, 1, 21, 22, 23, 24, 25, 26, 27, 28, 29, 30, 31, 32] (by decide +kernel) (by decide +kernel)
set_option maxRecDepth 20000 in
theorem gX5_leadsTo_X5_no : GoodIn wsX5_leadsTo (wsV RX5 57 RX5 yX5_no wsX5_no) := goodIn_app (goodIn_of _ (by decide +kernel)) ggX5_leadsTo_X5_no
theorem dX5_leadsTo_0 : decode cX5_leadsTo 0 = .ok (.aload_n 0, 1) := by decide +kernel
theorem dX5_leadsTo_1 : decode cX5_leadsTo 1 = .ok (.iconst 0, 1) := by decide +kernel
theorem dX5_leadsTo_2 : decode cX5_leadsTo 2 = .ok (.putfield 42, 3) := by decide +kernel
theorem dX5_leadsTo_5 : decode cX5_leadsTo 5 = .ok (.aload_n 0, 1) := by decide +kernel
theorem dX5_leadsTo_6 : decode cX5_leadsTo 6 = .ok (.iload_n 1, 1) := by decide +kernel
theorem dX5_leadsTo_7 : decode cX5_leadsTo 7 = .ok (.iload_n 2, 1) := by decide +kernel
theorem dX5_leadsTo_8 : decode cX5_leadsTo 8 = .ok (.invokevirtual 74, 3) := by decide +kernel
theorem dX5_leadsTo_11 : decode cX5_leadsTo 11 = .ok (.ifCond .eq 16, 3) := by decide +kernel
theorem dX5_leadsTo_14 : decode cX5_leadsTo 14 = .ok (.aload_n 0, 1) := by decide +kernel
theorem dX5_leadsTo_15 : decode cX5_leadsTo 15 = .ok (.getfield 16, 3) := by decide +kernel
theorem dX5_leadsTo_18 : decode cX5_leadsTo 18 = .ok (.iconst 4, 1) := by decide +kernel
theorem dX5_leadsTo_19 : decode cX5_leadsTo 19 = .ok (.iload_n 1, 1) := by decide +kernel
theorem dX5_leadsTo_20 : decode cX5_leadsTo 20 = .ok (.imul, 1) := by decide +kernel
theorem dX5_leadsTo_21 : decode cX5_leadsTo 21 = .ok (.iload_n 2, 1) := by decide +kernel
theorem dX5_leadsTo_22 : decode cX5_leadsTo 22 = .ok (.iadd, 1) := by decide +kernel
theorem dX5_leadsTo_23 : decode cX5_leadsTo 23 = .ok (.iaload, 1) := by decide +kernel
theorem dX5_leadsTo_24 : decode cX5_leadsTo 24 = .ok (.goto 8, 3) := by decide +kernel
theorem dX5_leadsTo_27 : decode cX5_leadsTo 27 = .ok (.aload_n 0, 1) := by decide +kernel
theorem dX5_leadsTo_28 : decode cX5_leadsTo 28 = .ok (.iconst 1, 1) := by decide +kernel
theorem dX5_leadsTo_29 : decode cX5_leadsTo 29 = .ok (.invokevirtual 57, 3) := by decide +kernel
theorem dX5_leadsTo_32 : decode cX5_leadsTo 32 = .ok (.ireturn, 1) := by decide +kernel
set_option maxRecDepth 20000 in
theorem ggX5_milesOf_X5_isExit : GoodIn wsX5_milesOf wsX5_isExit := goodIn_r _ [8, 9, 10, 11, 12, 7, 13, 14, 15, 16, 17, 22, 23, 24, 25, 26, 27, 28, 29, 30, 31, 32, 33] (by decide +kernel) (by decide +kernel)
set_option maxRecDepth 20000 in
theorem gX5_milesOf_X5_isExit : GoodIn wsX5_milesOf (wsV RX5 74 RX5 yX5_isExit wsX5_isExit) := goodIn_app (goodIn_of _ (by decide +kernel)) ggX5_milesOf_X5_isExit
set_option maxRecDepth 20000 in
theorem ggX5_milesOf_X5_no : GoodIn wsX5_milesOf wsX5_no := goodIn_r _ [21, 1, 22, 23, 24, 25, 26, 27, 28, 29, 30, 31, 32, 33] (by decide +kernel) (by decide +kernel)
set_option maxRecDepth 20000 in
theorem gX5_milesOf_X5_no : GoodIn wsX5_milesOf (wsV RX5 57 RX5 yX5_no wsX5_no) := goodIn_app (goodIn_of _ (by decide +kernel)) ggX5_milesOf_X5_no
theorem dX5_milesOf_0 : decode cX5_milesOf 0 = .ok (.aload_n 0, 1) := by decide +kernel
theorem dX5_milesOf_1 : decode cX5_milesOf 1 = .ok (.iconst 0, 1) := by decide +kernel
theorem dX5_milesOf_2 : decode cX5_milesOf 2 = .ok (.putfield 42, 3) := by decide +kernel
theorem dX5_milesOf_5 : decode cX5_milesOf 5 = .ok (.aload_n 0, 1) := by decide +kernel
theorem dX5_milesOf_6 : decode cX5_milesOf 6 = .ok (.iload_n 1, 1) := by decide +kernel
theorem dX5_milesOf_7 : decode cX5_milesOf 7 = .ok (.iload_n 2, 1) := by decide +kernel
theorem dX5_milesOf_8 : decode cX5_milesOf 8 = .ok (.invokevirtual 74, 3) := by decide +kernel
theorem dX5_milesOf_11 : decode cX5_milesOf 11 = .ok (.ifCond .eq 21, 3) := by decide +kernel
theorem dX5_milesOf_14 : decode cX5_milesOf 14 = .ok (.aload_n 0, 1) := by decide +kernel
theorem dX5_milesOf_15 : decode cX5_milesOf 15 = .ok (.getfield 19, 3) := by decide +kernel
theorem dX5_milesOf_18 : decode cX5_milesOf 18 = .ok (.aload_n 0, 1) := by decide +kernel
theorem dX5_milesOf_19 : decode cX5_milesOf 19 = .ok (.getfield 13, 3) := by decide +kernel
theorem dX5_milesOf_22 : decode cX5_milesOf 22 = .ok (.iconst 4, 1) := by decide +kernel
theorem dX5_milesOf_23 : decode cX5_milesOf 23 = .ok (.iload_n 1, 1) := by decide +kernel
theorem dX5_milesOf_24 : decode cX5_milesOf 24 = .ok (.imul, 1) := by decide +kernel
theorem dX5_milesOf_25 : decode cX5_milesOf 25 = .ok (.iload_n 2, 1) := by decide +kernel
theorem dX5_milesOf_26 : decode cX5_milesOf 26 = .ok (.iadd, 1) := by decide +kernel
theorem dX5_milesOf_27 : decode cX5_milesOf 27 = .ok (.iaload, 1) := by decide +kernel
theorem dX5_milesOf_28 : decode cX5_milesOf 28 = .ok (.iaload, 1) := by decide +kernel
theorem dX5_milesOf_29 : decode cX5_milesOf 29 = .ok (.goto 8, 3) := by decide +kernel
theorem dX5_milesOf_32 : decode cX5_milesOf 32 = .ok (.aload_n 0, 1) := by decide +kernel
theorem dX5_milesOf_33 : decode cX5_milesOf 33 = .ok (.iconst 1, 1) := by decide +kernel
theorem dX5_milesOf_34 : decode cX5_milesOf 34 = .ok (.invokevirtual 57, 3) := by decide +kernel
theorem dX5_milesOf_37 : decode cX5_milesOf 37 = .ok (.ireturn, 1) := by decide +kernel
set_option maxRecDepth 20000 in
theorem ggX5_isOpen_X5_isExit : GoodIn wsX5_isOpen wsX5_isExit := goodIn_r _ [8, 9, 10, 11, 12, 7, 13, 14, 15, 16, 17, 22, 23, 24, 25, 26, 27, 28, 29, 30, 31, 32, 33] (by decide +kernel) (by decide +kernel)
set_option maxRecDepth 20000 in
theorem gX5_isOpen_X5_isExit : GoodIn wsX5_isOpen (wsV RX5 74 RX5 yX5_isExit wsX5_isExit) := goodIn_app (goodIn_of _ (by decide +kernel)) ggX5_isOpen_X5_isExit
set_option maxRecDepth 20000 in
theorem ggX5_isOpen_X5_isNot : GoodIn wsX5_isOpen wsX5_isNot := goodIn_r _ [21, 1, 22, 23, 24, 25, 26, 27, 28, 29, 30, 31, 32, 33] (by decide +kernel) (by decide +kernel)
set_option maxRecDepth 20000 in
theorem gX5_isOpen_X5_isNot : GoodIn wsX5_isOpen (wsV RX5 78 RX5 yX5_isNot wsX5_isNot) := goodIn_app (goodIn_of _ (by decide +kernel)) ggX5_isOpen_X5_isNot
theorem dX5_isOpen_0 : decode cX5_isOpen 0 = .ok (.aload_n 0, 1) := by decide +kernel
theorem dX5_isOpen_1 : decode cX5_isOpen 1 = .ok (.iconst 0, 1) := by decide +kernel
theorem dX5_isOpen_2 : decode cX5_isOpen 2 = .ok (.putfield 42, 3) := by decide +kernel
theorem dX5_isOpen_5 : decode cX5_isOpen 5 = .ok (.aload_n 0, 1) := by decide +kernel
theorem dX5_isOpen_6 : decode cX5_isOpen 6 = .ok (.iload_n 1, 1) := by decide +kernel
theorem dX5_isOpen_7 : decode cX5_isOpen 7 = .ok (.iload_n 2, 1) := by decide +kernel
theorem dX5_isOpen_8 : decode cX5_isOpen 8 = .ok (.invokevirtual 74, 3) := by decide +kernel
theorem dX5_isOpen_11 : decode cX5_isOpen 11 = .ok (.ifCond .eq 29, 3) := by decide +kernel
theorem dX5_isOpen_14 : decode cX5_isOpen 14 = .ok (.aload_n 0, 1) := by decide +kernel
theorem dX5_isOpen_15 : decode cX5_isOpen 15 = .ok (.getfield 22, 3) := by decide +kernel
theorem dX5_isOpen_18 : decode cX5_isOpen 18 = .ok (.aload_n 0, 1) := by decide +kernel
theorem dX5_isOpen_19 : decode cX5_isOpen 19 = .ok (.getfield 13, 3) := by decide +kernel
theorem dX5_isOpen_22 : decode cX5_isOpen 22 = .ok (.iconst 4, 1) := by decide +kernel
theorem dX5_isOpen_23 : decode cX5_isOpen 23 = .ok (.iload_n 1, 1) := by decide +kernel
theorem dX5_isOpen_24 : decode cX5_isOpen 24 = .ok (.imul, 1) := by decide +kernel
theorem dX5_isOpen_25 : decode cX5_isOpen 25 = .ok (.iload_n 2, 1) := by decide +kernel
theorem dX5_isOpen_26 : decode cX5_isOpen 26 = .ok (.iadd, 1) := by decide +kernel
theorem dX5_isOpen_27 : decode cX5_isOpen 27 = .ok (.iaload, 1) := by decide +kernel
theorem dX5_isOpen_28 : decode cX5_isOpen 28 = .ok (.baload, 1) := by decide +kernel
theorem dX5_isOpen_29 : decode cX5_isOpen 29 = .ok (.ifCond .ne 7, 3) := by decide +kernel
theorem dX5_isOpen_32 : decode cX5_isOpen 32 = .ok (.iconst 1, 1) := by decide +kernel
theorem dX5_isOpen_33 : decode cX5_isOpen 33 = .ok (.goto 12, 3) := by decide +kernel
theorem dX5_isOpen_36 : decode cX5_isOpen 36 = .ok (.iconst 0, 1) := by decide +kernel
theorem dX5_isOpen_37 : decode cX5_isOpen 37 = .ok (.goto 8, 3) := by decide +kernel
theorem dX5_isOpen_40 : decode cX5_isOpen 40 = .ok (.aload_n 0, 1) := by decide +kernel
theorem dX5_isOpen_41 : decode cX5_isOpen 41 = .ok (.iconst 1, 1) := by decide +kernel
theorem dX5_isOpen_42 : decode cX5_isOpen 42 = .ok (.invokevirtual 78, 3) := by decide +kernel
theorem dX5_isOpen_45 : decode cX5_isOpen 45 = .ok (.ireturn, 1) := by decide +kernel
set_option maxRecDepth 20000 in
theorem ggX5_hasShepherd_X5_isPlace : GoodIn wsX5_hasShepherd wsX5_isPlace := goodIn_r _ [7, 8, 9, 10, 6, 11, 16, 17, 18, 19, 20, 21, 22, 23, 24, 25, 26, 27] (by decide +kernel) (by decide +kernel)
set_option maxRecDepth 20000 in
theorem gX5_hasShepherd_X5_isPlace : GoodIn wsX5_hasShepherd (wsV RX5 53 RX5 yX5_isPlace wsX5_isPlace) := goodIn_app (goodIn_of _ (by decide +kernel)) ggX5_hasShepherd_X5_isPlace
set_option maxRecDepth 20000 in
theorem ggX5_hasShepherd_X5_isNot : GoodIn wsX5_hasShepherd wsX5_isNot := goodIn_r _ [15, 1, 16, 17, 18, 19, 20, 21, 22, 23, 24, 25, 26, 27] (by decide +kernel) (by decide +kernel)
set_option maxRecDepth 20000 in
theorem gX5_hasShepherd_X5_isNot : GoodIn wsX5_hasShepherd (wsV RX5 78 RX5 yX5_isNot wsX5_isNot) := goodIn_app (goodIn_of _ (by decide +kernel)) ggX5_hasShepherd_X5_isNot
theorem dX5_hasShepherd_0 : decode cX5_hasShepherd 0 = .ok (.aload_n 0, 1) := by decide +kernel
theorem dX5_hasShepherd_1 : decode cX5_hasShepherd 1 = .ok (.iconst 0, 1) := by decide +kernel
theorem dX5_hasShepherd_2 : decode cX5_hasShepherd 2 = .ok (.putfield 42, 3) := by decide +kernel
theorem dX5_hasShepherd_5 : decode cX5_hasShepherd 5 = .ok (.aload_n 0, 1) := by decide +kernel
theorem dX5_hasShepherd_6 : decode cX5_hasShepherd 6 = .ok (.iload_n 1, 1) := by decide +kernel
theorem dX5_hasShepherd_7 : decode cX5_hasShepherd 7 = .ok (.invokevirtual 53, 3) := by decide +kernel
theorem dX5_hasShepherd_10 : decode cX5_hasShepherd 10 = .ok (.ifCond .eq 12, 3) := by decide +kernel
theorem dX5_hasShepherd_13 : decode cX5_hasShepherd 13 = .ok (.aload_n 0, 1) := by decide +kernel
theorem dX5_hasShepherd_14 : decode cX5_hasShepherd 14 = .ok (.getfield 26, 3) := by decide +kernel
theorem dX5_hasShepherd_17 : decode cX5_hasShepherd 17 = .ok (.iload_n 1, 1) := by decide +kernel
theorem dX5_hasShepherd_18 : decode cX5_hasShepherd 18 = .ok (.baload, 1) := by decide +kernel
theorem dX5_hasShepherd_19 : decode cX5_hasShepherd 19 = .ok (.goto 8, 3) := by decide +kernel
theorem dX5_hasShepherd_22 : decode cX5_hasShepherd 22 = .ok (.aload_n 0, 1) := by decide +kernel
theorem dX5_hasShepherd_23 : decode cX5_hasShepherd 23 = .ok (.iconst 1, 1) := by decide +kernel
theorem dX5_hasShepherd_24 : decode cX5_hasShepherd 24 = .ok (.invokevirtual 78, 3) := by decide +kernel
theorem dX5_hasShepherd_27 : decode cX5_hasShepherd 27 = .ok (.ireturn, 1) := by decide +kernel
set_option maxRecDepth 20000 in
theorem ggX5_distance_X5_isPlace : GoodIn wsX5_distance wsX5_isPlace := goodIn_r _ [6, 7, 8, 9, 5, 10, 29, 30, 31, 32, 33, 34, 35, 36, 37, 38, 39, 40] (by decide +kernel) (by decide +kernel)
set_option maxRecDepth 20000 in
theorem gX5_distance_X5_isPlace : GoodIn wsX5_distance (wsV RX5 53 RX5 yX5_isPlace wsX5_isPlace) := goodIn_app (goodIn_of _ (by decide +kernel)) ggX5_distance_X5_isPlace
set_option maxRecDepth 20000 in
theorem ggX5_distance_X5_milesBetween : GoodIn wsX5_distance wsX5_milesBetween := goodIn_r _ [14, 15, 16, 17, 18, 5, 19, 7, 20, 21, 22, 23, 24, 29, 30, 31, 32, 33, 34, 35, 36, 37, 38, 39, 40] (by decide +kernel) (by decide +kernel)
set_option maxRecDepth 20000 in
theorem gX5_distance_X5_milesBetween : GoodIn wsX5_distance (wsV RX5 168 RX5 yX5_milesBetween wsX5_milesBetween) := goodIn_app (goodIn_of _ (by decide +kernel)) ggX5_distance_X5_milesBetween
set_option maxRecDepth 20000 in
theorem ggX5_distance_X5_no : GoodIn wsX5_distance wsX5_no := goodIn_r _ [28, 1, 29, 30, 31, 32, 33, 34, 35, 36, 37, 38, 39, 40] (by decide +kernel) (by decide +kernel)
set_option maxRecDepth 20000 in
theorem gX5_distance_X5_no : GoodIn wsX5_distance (wsV RX5 57 RX5 yX5_no wsX5_no) := goodIn_app (goodIn_of _ (by decide +kernel)) ggX5_distance_X5_no
theorem dX5_distance_0 : decode cX5_distance 0 = .ok (.aload_n 0, 1) := by decide +kernel
theorem dX5_distance_1 : decode cX5_distance 1 = .ok (.iconst 0, 1) := by decide +kernel
theorem dX5_distance_2 : decode cX5_distance 2 = .ok (.putfield 42, 3) := by decide +kernel
theorem dX5_distance_5 : decode cX5_distance 5 = .ok (.aload_n 0, 1) := by decide +kernel
theorem dX5_distance_6 : decode cX5_distance 6 = .ok (.iload_n 1, 1) := by decide +kernel
theorem dX5_distance_7 : decode cX5_distance 7 = .ok (.invokevirtual 53, 3) := by decide +kernel
theorem dX5_distance_10 : decode cX5_distance 10 = .ok (.ifCond .eq 20, 3) := by decide +kernel
theorem dX5_distance_13 : decode cX5_distance 13 = .ok (.aload_n 0, 1) := by decide +kernel
theorem dX5_distance_14 : decode cX5_distance 14 = .ok (.iload_n 2, 1) := by decide +kernel
theorem dX5_distance_15 : decode cX5_distance 15 = .ok (.invokevirtual 53, 3) := by decide +kernel
theorem dX5_distance_18 : decode cX5_distance 18 = .ok (.ifCond .eq 12, 3) := by decide +kernel
theorem dX5_distance_21 : decode cX5_distance 21 = .ok (.aload_n 0, 1) := by decide +kernel
theorem dX5_distance_22 : decode cX5_distance 22 = .ok (.iload_n 1, 1) := by decide +kernel
theorem dX5_distance_23 : decode cX5_distance 23 = .ok (.iload_n 2, 1) := by decide +kernel
theorem dX5_distance_24 : decode cX5_distance 24 = .ok (.invokevirtual 168, 3) := by decide +kernel
theorem dX5_distance_27 : decode cX5_distance 27 = .ok (.goto 8, 3) := by decide +kernel
theorem dX5_distance_30 : decode cX5_distance 30 = .ok (.aload_n 0, 1) := by decide +kernel
theorem dX5_distance_31 : decode cX5_distance 31 = .ok (.iconst 1, 1) := by decide +kernel
theorem dX5_distance_32 : decode cX5_distance 32 = .ok (.invokevirtual 57, 3) := by decide +kernel
theorem dX5_distance_35 : decode cX5_distance 35 = .ok (.ireturn, 1) := by decide +kernel
set_option maxRecDepth 20000 in
theorem ggX5_whereIs_X5_ok : GoodIn wsX5_whereIs wsX5_ok := goodIn_r _ [6, 7, 8, 9, 10, 11, 12, 13, 14, 15, 16, 17, 18, 19] (by decide +kernel) (by decide +kernel)
set_option maxRecDepth 20000 in
theorem gX5_whereIs_X5_ok : GoodIn wsX5_whereIs (wsV RX5 182 RX5 yX5_ok wsX5_ok) := goodIn_app (goodIn_of _ (by decide +kernel)) ggX5_whereIs_X5_ok
theorem dX5_whereIs_0 : decode cX5_whereIs 0 = .ok (.aload_n 0, 1) := by decide +kernel
theorem dX5_whereIs_1 : decode cX5_whereIs 1 = .ok (.aload_n 0, 1) := by decide +kernel
theorem dX5_whereIs_2 : decode cX5_whereIs 2 = .ok (.getfield 35, 3) := by decide +kernel
theorem dX5_whereIs_5 : decode cX5_whereIs 5 = .ok (.getfield 61, 3) := by decide +kernel
theorem dX5_whereIs_8 : decode cX5_whereIs 8 = .ok (.invokevirtual 182, 3) := by decide +kernel
theorem dX5_whereIs_11 : decode cX5_whereIs 11 = .ok (.ireturn, 1) := by decide +kernel
set_option maxRecDepth 20000 in
theorem ggX5_coins_X5_ok : GoodIn wsX5_coins wsX5_ok := goodIn_r _ [6, 7, 8, 9, 10, 11, 12, 13, 14, 15, 16, 17, 18, 19] (by decide +kernel) (by decide +kernel)
set_option maxRecDepth 20000 in
theorem gX5_coins_X5_ok : GoodIn wsX5_coins (wsV RX5 182 RX5 yX5_ok wsX5_ok) := goodIn_app (goodIn_of _ (by decide +kernel)) ggX5_coins_X5_ok
theorem dX5_coins_0 : decode cX5_coins 0 = .ok (.aload_n 0, 1) := by decide +kernel
theorem dX5_coins_1 : decode cX5_coins 1 = .ok (.aload_n 0, 1) := by decide +kernel
theorem dX5_coins_2 : decode cX5_coins 2 = .ok (.getfield 35, 3) := by decide +kernel
theorem dX5_coins_5 : decode cX5_coins 5 = .ok (.getfield 97, 3) := by decide +kernel
theorem dX5_coins_8 : decode cX5_coins 8 = .ok (.invokevirtual 182, 3) := by decide +kernel
theorem dX5_coins_11 : decode cX5_coins 11 = .ok (.ireturn, 1) := by decide +kernel
set_option maxRecDepth 20000 in
theorem ggX5_goal_X5_ok : GoodIn wsX5_goal wsX5_ok := goodIn_r _ [6, 7, 8, 9, 10, 11, 12, 13, 14, 15, 16, 17, 18, 19] (by decide +kernel) (by decide +kernel)
set_option maxRecDepth 20000 in
theorem gX5_goal_X5_ok : GoodIn wsX5_goal (wsV RX5 182 RX5 yX5_ok wsX5_ok) := goodIn_app (goodIn_of _ (by decide +kernel)) ggX5_goal_X5_ok
theorem dX5_goal_0 : decode cX5_goal 0 = .ok (.aload_n 0, 1) := by decide +kernel
theorem dX5_goal_1 : decode cX5_goal 1 = .ok (.aload_n 0, 1) := by decide +kernel
theorem dX5_goal_2 : decode cX5_goal 2 = .ok (.getfield 35, 3) := by decide +kernel
theorem dX5_goal_5 : decode cX5_goal 5 = .ok (.getfield 103, 3) := by decide +kernel
theorem dX5_goal_8 : decode cX5_goal 8 = .ok (.invokevirtual 182, 3) := by decide +kernel
theorem dX5_goal_11 : decode cX5_goal 11 = .ok (.ireturn, 1) := by decide +kernel
set_option maxRecDepth 20000 in
theorem ggX5_wayLength_X5_ok : GoodIn wsX5_wayLength wsX5_ok := goodIn_r _ [6, 7, 8, 9, 10, 11, 12, 13, 14, 15, 16, 17, 18, 19] (by decide +kernel) (by decide +kernel)
set_option maxRecDepth 20000 in
theorem gX5_wayLength_X5_ok : GoodIn wsX5_wayLength (wsV RX5 182 RX5 yX5_ok wsX5_ok) := goodIn_app (goodIn_of _ (by decide +kernel)) ggX5_wayLength_X5_ok
theorem dX5_wayLength_0 : decode cX5_wayLength 0 = .ok (.aload_n 0, 1) := by decide +kernel
theorem dX5_wayLength_1 : decode cX5_wayLength 1 = .ok (.aload_n 0, 1) := by decide +kernel
theorem dX5_wayLength_2 : decode cX5_wayLength 2 = .ok (.getfield 35, 3) := by decide +kernel
theorem dX5_wayLength_5 : decode cX5_wayLength 5 = .ok (.getfield 84, 3) := by decide +kernel
theorem dX5_wayLength_8 : decode cX5_wayLength 8 = .ok (.invokevirtual 182, 3) := by decide +kernel
theorem dX5_wayLength_11 : decode cX5_wayLength 11 = .ok (.ireturn, 1) := by decide +kernel
set_option maxRecDepth 20000 in
theorem ggX5_isTried_X5_isExit : GoodIn wsX5_isTried wsX5_isExit := goodIn_r _ [8, 9, 10, 11, 12, 7, 13, 14, 15, 16, 17, 22, 23, 24, 25, 26, 27, 28, 29, 30, 31, 32, 33] (by decide +kernel) (by decide +kernel)
set_option maxRecDepth 20000 in
theorem gX5_isTried_X5_isExit : GoodIn wsX5_isTried (wsV RX5 74 RX5 yX5_isExit wsX5_isExit) := goodIn_app (goodIn_of _ (by decide +kernel)) ggX5_isTried_X5_isExit
set_option maxRecDepth 20000 in
theorem ggX5_isTried_X5_isNot : GoodIn wsX5_isTried wsX5_isNot := goodIn_r _ [21, 1, 22, 23, 24, 25, 26, 27, 28, 29, 30, 31, 32, 33] (by decide +kernel) (by decide +kernel)
set_option maxRecDepth 20000 in
theorem gX5_isTried_X5_isNot : GoodIn wsX5_isTried (wsV RX5 78 RX5 yX5_isNot wsX5_isNot) := goodIn_app (goodIn_of _ (by decide +kernel)) ggX5_isTried_X5_isNot
theorem dX5_isTried_0 : decode cX5_isTried 0 = .ok (.aload_n 0, 1) := by decide +kernel
theorem dX5_isTried_1 : decode cX5_isTried 1 = .ok (.iconst 0, 1) := by decide +kernel
theorem dX5_isTried_2 : decode cX5_isTried 2 = .ok (.putfield 42, 3) := by decide +kernel
theorem dX5_isTried_5 : decode cX5_isTried 5 = .ok (.aload_n 0, 1) := by decide +kernel
theorem dX5_isTried_6 : decode cX5_isTried 6 = .ok (.iload_n 1, 1) := by decide +kernel
theorem dX5_isTried_7 : decode cX5_isTried 7 = .ok (.iload_n 2, 1) := by decide +kernel
theorem dX5_isTried_8 : decode cX5_isTried 8 = .ok (.invokevirtual 74, 3) := by decide +kernel
theorem dX5_isTried_11 : decode cX5_isTried 11 = .ok (.ifCond .eq 24, 3) := by decide +kernel
theorem dX5_isTried_14 : decode cX5_isTried 14 = .ok (.aload_n 0, 1) := by decide +kernel
theorem dX5_isTried_15 : decode cX5_isTried 15 = .ok (.getfield 35, 3) := by decide +kernel
theorem dX5_isTried_18 : decode cX5_isTried 18 = .ok (.getfield 67, 3) := by decide +kernel
theorem dX5_isTried_21 : decode cX5_isTried 21 = .ok (.aload_n 0, 1) := by decide +kernel
theorem dX5_isTried_22 : decode cX5_isTried 22 = .ok (.getfield 13, 3) := by decide +kernel
theorem dX5_isTried_25 : decode cX5_isTried 25 = .ok (.iconst 4, 1) := by decide +kernel
theorem dX5_isTried_26 : decode cX5_isTried 26 = .ok (.iload_n 1, 1) := by decide +kernel
theorem dX5_isTried_27 : decode cX5_isTried 27 = .ok (.imul, 1) := by decide +kernel
theorem dX5_isTried_28 : decode cX5_isTried 28 = .ok (.iload_n 2, 1) := by decide +kernel
theorem dX5_isTried_29 : decode cX5_isTried 29 = .ok (.iadd, 1) := by decide +kernel
theorem dX5_isTried_30 : decode cX5_isTried 30 = .ok (.iaload, 1) := by decide +kernel
theorem dX5_isTried_31 : decode cX5_isTried 31 = .ok (.baload, 1) := by decide +kernel
theorem dX5_isTried_32 : decode cX5_isTried 32 = .ok (.goto 8, 3) := by decide +kernel
theorem dX5_isTried_35 : decode cX5_isTried 35 = .ok (.aload_n 0, 1) := by decide +kernel
theorem dX5_isTried_36 : decode cX5_isTried 36 = .ok (.iconst 1, 1) := by decide +kernel
theorem dX5_isTried_37 : decode cX5_isTried 37 = .ok (.invokevirtual 78, 3) := by decide +kernel
theorem dX5_isTried_40 : decode cX5_isTried 40 = .ok (.ireturn, 1) := by decide +kernel
set_option maxRecDepth 20000 in
theorem ggX5_remembered_X5_isPlace : GoodIn wsX5_remembered wsX5_isPlace := goodIn_r _ [7, 8, 9, 10, 6, 11, 16, 17, 18, 19, 20, 21, 22, 23, 24, 25, 26, 27] (by decide +kernel) (by decide +kernel)
set_option maxRecDepth 20000 in
theorem gX5_remembered_X5_isPlace : GoodIn wsX5_remembered (wsV RX5 53 RX5 yX5_isPlace wsX5_isPlace) := goodIn_app (goodIn_of _ (by decide +kernel)) ggX5_remembered_X5_isPlace
set_option maxRecDepth 20000 in
theorem ggX5_remembered_X5_no : GoodIn wsX5_remembered wsX5_no := goodIn_r _ [15, 1, 16, 17, 18, 19, 20, 21, 22, 23, 24, 25, 26, 27] (by decide +kernel) (by decide +kernel)
set_option maxRecDepth 20000 in
theorem gX5_remembered_X5_no : GoodIn wsX5_remembered (wsV RX5 57 RX5 yX5_no wsX5_no) := goodIn_app (goodIn_of _ (by decide +kernel)) ggX5_remembered_X5_no
theorem dX5_remembered_0 : decode cX5_remembered 0 = .ok (.aload_n 0, 1) := by decide +kernel
theorem dX5_remembered_1 : decode cX5_remembered 1 = .ok (.iconst 0, 1) := by decide +kernel
theorem dX5_remembered_2 : decode cX5_remembered 2 = .ok (.putfield 42, 3) := by decide +kernel
theorem dX5_remembered_5 : decode cX5_remembered 5 = .ok (.aload_n 0, 1) := by decide +kernel
theorem dX5_remembered_6 : decode cX5_remembered 6 = .ok (.iload_n 1, 1) := by decide +kernel
theorem dX5_remembered_7 : decode cX5_remembered 7 = .ok (.invokevirtual 53, 3) := by decide +kernel
theorem dX5_remembered_10 : decode cX5_remembered 10 = .ok (.ifCond .eq 28, 3) := by decide +kernel
theorem dX5_remembered_13 : decode cX5_remembered 13 = .ok (.aload_n 0, 1) := by decide +kernel
theorem dX5_remembered_14 : decode cX5_remembered 14 = .ok (.iload_n 2, 1) := by decide +kernel
theorem dX5_remembered_15 : decode cX5_remembered 15 = .ok (.invokevirtual 53, 3) := by decide +kernel
theorem dX5_remembered_18 : decode cX5_remembered 18 = .ok (.ifCond .eq 20, 3) := by decide +kernel
theorem dX5_remembered_21 : decode cX5_remembered 21 = .ok (.aload_n 0, 1) := by decide +kernel
theorem dX5_remembered_22 : decode cX5_remembered 22 = .ok (.getfield 35, 3) := by decide +kernel
theorem dX5_remembered_25 : decode cX5_remembered 25 = .ok (.getfield 175, 3) := by decide +kernel
theorem dX5_remembered_28 : decode cX5_remembered 28 = .ok (.bipush 10, 2) := by decide +kernel
theorem dX5_remembered_30 : decode cX5_remembered 30 = .ok (.iload_n 1, 1) := by decide +kernel
theorem dX5_remembered_31 : decode cX5_remembered 31 = .ok (.imul, 1) := by decide +kernel
theorem dX5_remembered_32 : decode cX5_remembered 32 = .ok (.iload_n 2, 1) := by decide +kernel
theorem dX5_remembered_33 : decode cX5_remembered 33 = .ok (.iadd, 1) := by decide +kernel
theorem dX5_remembered_34 : decode cX5_remembered 34 = .ok (.iaload, 1) := by decide +kernel
theorem dX5_remembered_35 : decode cX5_remembered 35 = .ok (.goto 8, 3) := by decide +kernel
theorem dX5_remembered_38 : decode cX5_remembered 38 = .ok (.aload_n 0, 1) := by decide +kernel
theorem dX5_remembered_39 : decode cX5_remembered 39 = .ok (.iconst 1, 1) := by decide +kernel
theorem dX5_remembered_40 : decode cX5_remembered 40 = .ok (.invokevirtual 57, 3) := by decide +kernel
theorem dX5_remembered_43 : decode cX5_remembered 43 = .ok (.ireturn, 1) := by decide +kernel
theorem dX5_strengthOf_0 : decode cX5_strengthOf 0 = .ok (.aload_n 0, 1) := by decide +kernel
theorem dX5_strengthOf_1 : decode cX5_strengthOf 1 = .ok (.getfield 35, 3) := by decide +kernel
theorem dX5_strengthOf_4 : decode cX5_strengthOf 4 = .ok (.getfield 175, 3) := by decide +kernel
theorem dX5_strengthOf_7 : decode cX5_strengthOf 7 = .ok (.iload_n 1, 1) := by decide +kernel
theorem dX5_strengthOf_8 : decode cX5_strengthOf 8 = .ok (.iaload, 1) := by decide +kernel
theorem dX5_strengthOf_9 : decode cX5_strengthOf 9 = .ok (.iconst (-1), 1) := by decide +kernel
theorem dX5_strengthOf_10 : decode cX5_strengthOf 10 = .ok (.if_icmp .ne 7, 3) := by decide +kernel
theorem dX5_strengthOf_13 : decode cX5_strengthOf 13 = .ok (.iconst 0, 1) := by decide +kernel
theorem dX5_strengthOf_14 : decode cX5_strengthOf 14 = .ok (.goto 12, 3) := by decide +kernel
theorem dX5_strengthOf_17 : decode cX5_strengthOf 17 = .ok (.aload_n 0, 1) := by decide +kernel
theorem dX5_strengthOf_18 : decode cX5_strengthOf 18 = .ok (.getfield 35, 3) := by decide +kernel
theorem dX5_strengthOf_21 : decode cX5_strengthOf 21 = .ok (.getfield 128, 3) := by decide +kernel
theorem dX5_strengthOf_24 : decode cX5_strengthOf 24 = .ok (.iload_n 1, 1) := by decide +kernel
theorem dX5_strengthOf_25 : decode cX5_strengthOf 25 = .ok (.iaload, 1) := by decide +kernel
theorem dX5_strengthOf_26 : decode cX5_strengthOf 26 = .ok (.ireturn, 1) := by decide +kernel
set_option maxRecDepth 20000 in
theorem ggX5_strength_X5_isPlace : GoodIn wsX5_strength wsX5_isPlace := goodIn_r _ [6, 7, 8, 9, 5, 10, 20, 21, 22, 23, 24, 25, 26, 27, 28, 29, 30, 31] (by decide +kernel) (by decide +kernel)
set_option maxRecDepth 20000 in
theorem gX5_strength_X5_isPlace : GoodIn wsX5_strength (wsV RX5 53 RX5 yX5_isPlace wsX5_isPlace) := goodIn_app (goodIn_of _ (by decide +kernel)) ggX5_strength_X5_isPlace
set_option maxRecDepth 20000 in
theorem ggX5_strength_X5_strengthOf : GoodIn wsX5_strength wsX5_strengthOf := goodIn_r _ [14, 15, 20, 21, 22, 23, 24, 25, 26, 27, 28, 29, 30, 31, 32, 33, 34, 35, 36, 37, 38, 39, 40, 41, 42, 43, 44, 45] (by decide +kernel) (by decide +kernel)
set_option maxRecDepth 20000 in
theorem gX5_strength_X5_strengthOf : GoodIn wsX5_strength (wsV RX5 185 RX5 yX5_strengthOf wsX5_strengthOf) := goodIn_app (goodIn_of _ (by decide +kernel)) ggX5_strength_X5_strengthOf
set_option maxRecDepth 20000 in
theorem ggX5_strength_X5_no : GoodIn wsX5_strength wsX5_no := goodIn_r _ [19, 1, 20, 21, 22, 23, 24, 25, 26, 27, 28, 29, 30, 31] (by decide +kernel) (by decide +kernel)
set_option maxRecDepth 20000 in
theorem gX5_strength_X5_no : GoodIn wsX5_strength (wsV RX5 57 RX5 yX5_no wsX5_no) := goodIn_app (goodIn_of _ (by decide +kernel)) ggX5_strength_X5_no
theorem dX5_strength_0 : decode cX5_strength 0 = .ok (.aload_n 0, 1) := by decide +kernel
theorem dX5_strength_1 : decode cX5_strength 1 = .ok (.iconst 0, 1) := by decide +kernel
theorem dX5_strength_2 : decode cX5_strength 2 = .ok (.putfield 42, 3) := by decide +kernel
theorem dX5_strength_5 : decode cX5_strength 5 = .ok (.aload_n 0, 1) := by decide +kernel
theorem dX5_strength_6 : decode cX5_strength 6 = .ok (.iload_n 1, 1) := by decide +kernel
theorem dX5_strength_7 : decode cX5_strength 7 = .ok (.invokevirtual 53, 3) := by decide +kernel
theorem dX5_strength_10 : decode cX5_strength 10 = .ok (.ifCond .eq 24, 3) := by decide +kernel
theorem dX5_strength_13 : decode cX5_strength 13 = .ok (.aload_n 0, 1) := by decide +kernel
theorem dX5_strength_14 : decode cX5_strength 14 = .ok (.iload_n 2, 1) := by decide +kernel
theorem dX5_strength_15 : decode cX5_strength 15 = .ok (.invokevirtual 53, 3) := by decide +kernel
theorem dX5_strength_18 : decode cX5_strength 18 = .ok (.ifCond .eq 16, 3) := by decide +kernel
theorem dX5_strength_21 : decode cX5_strength 21 = .ok (.aload_n 0, 1) := by decide +kernel
theorem dX5_strength_22 : decode cX5_strength 22 = .ok (.bipush 10, 2) := by decide +kernel
theorem dX5_strength_24 : decode cX5_strength 24 = .ok (.iload_n 1, 1) := by decide +kernel
theorem dX5_strength_25 : decode cX5_strength 25 = .ok (.imul, 1) := by decide +kernel
theorem dX5_strength_26 : decode cX5_strength 26 = .ok (.iload_n 2, 1) := by decide +kernel
theorem dX5_strength_27 : decode cX5_strength 27 = .ok (.iadd, 1) := by decide +kernel
theorem dX5_strength_28 : decode cX5_strength 28 = .ok (.invokevirtual 185, 3) := by decide +kernel
theorem dX5_strength_31 : decode cX5_strength 31 = .ok (.goto 8, 3) := by decide +kernel
theorem dX5_strength_34 : decode cX5_strength 34 = .ok (.aload_n 0, 1) := by decide +kernel
theorem dX5_strength_35 : decode cX5_strength 35 = .ok (.iconst 1, 1) := by decide +kernel
theorem dX5_strength_36 : decode cX5_strength 36 = .ok (.invokevirtual 57, 3) := by decide +kernel
theorem dX5_strength_39 : decode cX5_strength 39 = .ok (.ireturn, 1) := by decide +kernel
theorem dX5_knows_0 : decode cX5_knows 0 = .ok (.aload_n 0, 1) := by decide +kernel
theorem dX5_knows_1 : decode cX5_knows 1 = .ok (.getfield 35, 3) := by decide +kernel
theorem dX5_knows_4 : decode cX5_knows 4 = .ok (.getfield 61, 3) := by decide +kernel
theorem dX5_knows_7 : decode cX5_knows 7 = .ok (.istore_n 2, 1) := by decide +kernel
theorem dX5_knows_8 : decode cX5_knows 8 = .ok (.iconst 0, 1) := by decide +kernel
theorem dX5_knows_9 : decode cX5_knows 9 = .ok (.istore_n 3, 1) := by decide +kernel
theorem dX5_knows_10 : decode cX5_knows 10 = .ok (.iload_n 3, 1) := by decide +kernel
theorem dX5_knows_11 : decode cX5_knows 11 = .ok (.bipush 10, 2) := by decide +kernel
theorem dX5_knows_13 : decode cX5_knows 13 = .ok (.if_icmp .ge 69, 3) := by decide +kernel
theorem dX5_knows_16 : decode cX5_knows 16 = .ok (.iload_n 2, 1) := by decide +kernel
theorem dX5_knows_17 : decode cX5_knows 17 = .ok (.iload_n 1, 1) := by decide +kernel
theorem dX5_knows_18 : decode cX5_knows 18 = .ok (.if_icmp .eq 64, 3) := by decide +kernel
theorem dX5_knows_21 : decode cX5_knows 21 = .ok (.aload_n 0, 1) := by decide +kernel
theorem dX5_knows_22 : decode cX5_knows 22 = .ok (.getfield 35, 3) := by decide +kernel
theorem dX5_knows_25 : decode cX5_knows 25 = .ok (.getfield 175, 3) := by decide +kernel
theorem dX5_knows_28 : decode cX5_knows 28 = .ok (.bipush 10, 2) := by decide +kernel
theorem dX5_knows_30 : decode cX5_knows 30 = .ok (.iload_n 1, 1) := by decide +kernel
theorem dX5_knows_31 : decode cX5_knows 31 = .ok (.imul, 1) := by decide +kernel
theorem dX5_knows_32 : decode cX5_knows 32 = .ok (.iload_n 2, 1) := by decide +kernel
theorem dX5_knows_33 : decode cX5_knows 33 = .ok (.iadd, 1) := by decide +kernel
theorem dX5_knows_34 : decode cX5_knows 34 = .ok (.iaload, 1) := by decide +kernel
theorem dX5_knows_35 : decode cX5_knows 35 = .ok (.istore 4, 2) := by decide +kernel
theorem dX5_knows_37 : decode cX5_knows 37 = .ok (.iload 4, 2) := by decide +kernel
theorem dX5_knows_39 : decode cX5_knows 39 = .ok (.iconst (-1), 1) := by decide +kernel
theorem dX5_knows_40 : decode cX5_knows 40 = .ok (.if_icmp .eq 22, 3) := by decide +kernel
theorem dX5_knows_43 : decode cX5_knows 43 = .ok (.aload_n 0, 1) := by decide +kernel
theorem dX5_knows_44 : decode cX5_knows 44 = .ok (.getfield 22, 3) := by decide +kernel
theorem dX5_knows_47 : decode cX5_knows 47 = .ok (.aload_n 0, 1) := by decide +kernel
theorem dX5_knows_48 : decode cX5_knows 48 = .ok (.getfield 13, 3) := by decide +kernel
theorem dX5_knows_51 : decode cX5_knows 51 = .ok (.iconst 4, 1) := by decide +kernel
theorem dX5_knows_52 : decode cX5_knows 52 = .ok (.iload_n 2, 1) := by decide +kernel
theorem dX5_knows_53 : decode cX5_knows 53 = .ok (.imul, 1) := by decide +kernel
theorem dX5_knows_54 : decode cX5_knows 54 = .ok (.iload 4, 2) := by decide +kernel
theorem dX5_knows_56 : decode cX5_knows 56 = .ok (.iadd, 1) := by decide +kernel
theorem dX5_knows_57 : decode cX5_knows 57 = .ok (.iaload, 1) := by decide +kernel
theorem dX5_knows_58 : decode cX5_knows 58 = .ok (.baload, 1) := by decide +kernel
theorem dX5_knows_59 : decode cX5_knows 59 = .ok (.ifCond .eq 5, 3) := by decide +kernel
theorem dX5_knows_62 : decode cX5_knows 62 = .ok (.iconst 0, 1) := by decide +kernel
theorem dX5_knows_63 : decode cX5_knows 63 = .ok (.ireturn, 1) := by decide +kernel
theorem dX5_knows_64 : decode cX5_knows 64 = .ok (.aload_n 0, 1) := by decide +kernel
theorem dX5_knows_65 : decode cX5_knows 65 = .ok (.getfield 16, 3) := by decide +kernel
theorem dX5_knows_68 : decode cX5_knows 68 = .ok (.iconst 4, 1) := by decide +kernel
theorem dX5_knows_69 : decode cX5_knows 69 = .ok (.iload_n 2, 1) := by decide +kernel
theorem dX5_knows_70 : decode cX5_knows 70 = .ok (.imul, 1) := by decide +kernel
theorem dX5_knows_71 : decode cX5_knows 71 = .ok (.iload 4, 2) := by decide +kernel
theorem dX5_knows_73 : decode cX5_knows 73 = .ok (.iadd, 1) := by decide +kernel
theorem dX5_knows_74 : decode cX5_knows 74 = .ok (.iaload, 1) := by decide +kernel
theorem dX5_knows_75 : decode cX5_knows 75 = .ok (.istore_n 2, 1) := by decide +kernel
theorem dX5_knows_76 : decode cX5_knows 76 = .ok (.iinc 3 1, 3) := by decide +kernel
theorem dX5_knows_79 : decode cX5_knows 79 = .ok (.goto (-69), 3) := by decide +kernel
theorem dX5_knows_82 : decode cX5_knows 82 = .ok (.iload_n 2, 1) := by decide +kernel
theorem dX5_knows_83 : decode cX5_knows 83 = .ok (.iload_n 1, 1) := by decide +kernel
theorem dX5_knows_84 : decode cX5_knows 84 = .ok (.if_icmp .ne 7, 3) := by decide +kernel
theorem dX5_knows_87 : decode cX5_knows 87 = .ok (.iconst 1, 1) := by decide +kernel
theorem dX5_knows_88 : decode cX5_knows 88 = .ok (.goto 4, 3) := by decide +kernel
theorem dX5_knows_91 : decode cX5_knows 91 = .ok (.iconst 0, 1) := by decide +kernel
theorem dX5_knows_92 : decode cX5_knows 92 = .ok (.ireturn, 1) := by decide +kernel
set_option maxRecDepth 20000 in
theorem ggX5_knowsWay_X5_isPlace : GoodIn wsX5_knowsWay wsX5_isPlace := goodIn_r _ [6, 7, 8, 9, 5, 10, 23, 24, 25, 26, 27, 28, 29, 30, 31, 32, 33, 34] (by decide +kernel) (by decide +kernel)
set_option maxRecDepth 20000 in
theorem gX5_knowsWay_X5_isPlace : GoodIn wsX5_knowsWay (wsV RX5 53 RX5 yX5_isPlace wsX5_isPlace) := goodIn_app (goodIn_of _ (by decide +kernel)) ggX5_knowsWay_X5_isPlace
set_option maxRecDepth 20000 in
theorem ggX5_knowsWay_X5_knows : GoodIn wsX5_knowsWay wsX5_knows := goodIn_r _ [14, 15, 16, 17, 18, 23, 24, 25, 26, 27, 28, 29, 30, 31, 32, 33, 34, 35, 36, 37, 38, 39, 40, 41, 42, 43, 44, 45, 46, 47, 48] (by decide +kernel) (by decide +kernel)
set_option maxRecDepth 20000 in
theorem gX5_knowsWay_X5_knows : GoodIn wsX5_knowsWay (wsV RX5 188 RX5 yX5_knows wsX5_knows) := goodIn_app (goodIn_of _ (by decide +kernel)) ggX5_knowsWay_X5_knows
set_option maxRecDepth 20000 in
theorem ggX5_knowsWay_X5_isNot : GoodIn wsX5_knowsWay wsX5_isNot := goodIn_r _ [22, 1, 23, 24, 25, 26, 27, 28, 29, 30, 31, 32, 33, 34] (by decide +kernel) (by decide +kernel)
set_option maxRecDepth 20000 in
theorem gX5_knowsWay_X5_isNot : GoodIn wsX5_knowsWay (wsV RX5 78 RX5 yX5_isNot wsX5_isNot) := goodIn_app (goodIn_of _ (by decide +kernel)) ggX5_knowsWay_X5_isNot
theorem dX5_knowsWay_0 : decode cX5_knowsWay 0 = .ok (.aload_n 0, 1) := by decide +kernel
theorem dX5_knowsWay_1 : decode cX5_knowsWay 1 = .ok (.iconst 0, 1) := by decide +kernel
theorem dX5_knowsWay_2 : decode cX5_knowsWay 2 = .ok (.putfield 42, 3) := by decide +kernel
theorem dX5_knowsWay_5 : decode cX5_knowsWay 5 = .ok (.aload_n 0, 1) := by decide +kernel
theorem dX5_knowsWay_6 : decode cX5_knowsWay 6 = .ok (.iload_n 1, 1) := by decide +kernel
theorem dX5_knowsWay_7 : decode cX5_knowsWay 7 = .ok (.invokevirtual 53, 3) := by decide +kernel
theorem dX5_knowsWay_10 : decode cX5_knowsWay 10 = .ok (.ifCond .eq 11, 3) := by decide +kernel
theorem dX5_knowsWay_13 : decode cX5_knowsWay 13 = .ok (.aload_n 0, 1) := by decide +kernel
theorem dX5_knowsWay_14 : decode cX5_knowsWay 14 = .ok (.iload_n 1, 1) := by decide +kernel
theorem dX5_knowsWay_15 : decode cX5_knowsWay 15 = .ok (.invokevirtual 188, 3) := by decide +kernel
theorem dX5_knowsWay_18 : decode cX5_knowsWay 18 = .ok (.goto 8, 3) := by decide +kernel
theorem dX5_knowsWay_21 : decode cX5_knowsWay 21 = .ok (.aload_n 0, 1) := by decide +kernel
theorem dX5_knowsWay_22 : decode cX5_knowsWay 22 = .ok (.iconst 1, 1) := by decide +kernel
theorem dX5_knowsWay_23 : decode cX5_knowsWay 23 = .ok (.invokevirtual 78, 3) := by decide +kernel
theorem dX5_knowsWay_26 : decode cX5_knowsWay 26 = .ok (.ireturn, 1) := by decide +kernel
set_option maxRecDepth 20000 in
theorem ggX5_milesWalked_X5_ok : GoodIn wsX5_milesWalked wsX5_ok := goodIn_r _ [6, 7, 8, 9, 10, 11, 12, 13, 14, 15, 16, 17, 18, 19] (by decide +kernel) (by decide +kernel)
set_option maxRecDepth 20000 in
theorem gX5_milesWalked_X5_ok : GoodIn wsX5_milesWalked (wsV RX5 182 RX5 yX5_ok wsX5_ok) := goodIn_app (goodIn_of _ (by decide +kernel)) ggX5_milesWalked_X5_ok
theorem dX5_milesWalked_0 : decode cX5_milesWalked 0 = .ok (.aload_n 0, 1) := by decide +kernel
theorem dX5_milesWalked_1 : decode cX5_milesWalked 1 = .ok (.aload_n 0, 1) := by decide +kernel
theorem dX5_milesWalked_2 : decode cX5_milesWalked 2 = .ok (.getfield 35, 3) := by decide +kernel
theorem dX5_milesWalked_5 : decode cX5_milesWalked 5 = .ok (.getfield 87, 3) := by decide +kernel
theorem dX5_milesWalked_8 : decode cX5_milesWalked 8 = .ok (.invokevirtual 182, 3) := by decide +kernel
theorem dX5_milesWalked_11 : decode cX5_milesWalked 11 = .ok (.ireturn, 1) := by decide +kernel
set_option maxRecDepth 20000 in
theorem ggX5_milesDoubled_X5_ok : GoodIn wsX5_milesDoubled wsX5_ok := goodIn_r _ [6, 7, 8, 9, 10, 11, 12, 13, 14, 15, 16, 17, 18, 19] (by decide +kernel) (by decide +kernel)
set_option maxRecDepth 20000 in
theorem gX5_milesDoubled_X5_ok : GoodIn wsX5_milesDoubled (wsV RX5 182 RX5 yX5_ok wsX5_ok) := goodIn_app (goodIn_of _ (by decide +kernel)) ggX5_milesDoubled_X5_ok
theorem dX5_milesDoubled_0 : decode cX5_milesDoubled 0 = .ok (.aload_n 0, 1) := by decide +kernel
theorem dX5_milesDoubled_1 : decode cX5_milesDoubled 1 = .ok (.aload_n 0, 1) := by decide +kernel
theorem dX5_milesDoubled_2 : decode cX5_milesDoubled 2 = .ok (.getfield 35, 3) := by decide +kernel
theorem dX5_milesDoubled_5 : decode cX5_milesDoubled 5 = .ok (.getfield 122, 3) := by decide +kernel
theorem dX5_milesDoubled_8 : decode cX5_milesDoubled 8 = .ok (.invokevirtual 182, 3) := by decide +kernel
theorem dX5_milesDoubled_11 : decode cX5_milesDoubled 11 = .ok (.ireturn, 1) := by decide +kernel
set_option maxRecDepth 20000 in
theorem ggX5_errandsDone_X5_ok : GoodIn wsX5_errandsDone wsX5_ok := goodIn_r _ [6, 7, 8, 9, 10, 11, 12, 13, 14, 15, 16, 17, 18, 19] (by decide +kernel) (by decide +kernel)
set_option maxRecDepth 20000 in
theorem gX5_errandsDone_X5_ok : GoodIn wsX5_errandsDone (wsV RX5 182 RX5 yX5_ok wsX5_ok) := goodIn_app (goodIn_of _ (by decide +kernel)) ggX5_errandsDone_X5_ok
theorem dX5_errandsDone_0 : decode cX5_errandsDone 0 = .ok (.aload_n 0, 1) := by decide +kernel
theorem dX5_errandsDone_1 : decode cX5_errandsDone 1 = .ok (.aload_n 0, 1) := by decide +kernel
theorem dX5_errandsDone_2 : decode cX5_errandsDone 2 = .ok (.getfield 35, 3) := by decide +kernel
theorem dX5_errandsDone_5 : decode cX5_errandsDone 5 = .ok (.getfield 156, 3) := by decide +kernel
theorem dX5_errandsDone_8 : decode cX5_errandsDone 8 = .ok (.invokevirtual 182, 3) := by decide +kernel
theorem dX5_errandsDone_11 : decode cX5_errandsDone 11 = .ok (.ireturn, 1) := by decide +kernel
set_option maxRecDepth 20000 in
theorem ggX5_errandsInVain_X5_ok : GoodIn wsX5_errandsInVain wsX5_ok := goodIn_r _ [6, 7, 8, 9, 10, 11, 12, 13, 14, 15, 16, 17, 18, 19] (by decide +kernel) (by decide +kernel)
set_option maxRecDepth 20000 in
theorem gX5_errandsInVain_X5_ok : GoodIn wsX5_errandsInVain (wsV RX5 182 RX5 yX5_ok wsX5_ok) := goodIn_app (goodIn_of _ (by decide +kernel)) ggX5_errandsInVain_X5_ok
theorem dX5_errandsInVain_0 : decode cX5_errandsInVain 0 = .ok (.aload_n 0, 1) := by decide +kernel
theorem dX5_errandsInVain_1 : decode cX5_errandsInVain 1 = .ok (.aload_n 0, 1) := by decide +kernel
theorem dX5_errandsInVain_2 : decode cX5_errandsInVain 2 = .ok (.getfield 35, 3) := by decide +kernel
theorem dX5_errandsInVain_5 : decode cX5_errandsInVain 5 = .ok (.getfield 146, 3) := by decide +kernel
theorem dX5_errandsInVain_8 : decode cX5_errandsInVain 8 = .ok (.invokevirtual 182, 3) := by decide +kernel
theorem dX5_errandsInVain_11 : decode cX5_errandsInVain 11 = .ok (.ireturn, 1) := by decide +kernel
set_option maxRecDepth 20000 in
theorem ggX5_asked_X5_ok : GoodIn wsX5_asked wsX5_ok := goodIn_r _ [6, 7, 8, 9, 10, 11, 12, 13, 14, 15, 16, 17, 18, 19] (by decide +kernel) (by decide +kernel)
set_option maxRecDepth 20000 in
theorem gX5_asked_X5_ok : GoodIn wsX5_asked (wsV RX5 182 RX5 yX5_ok wsX5_ok) := goodIn_app (goodIn_of _ (by decide +kernel)) ggX5_asked_X5_ok
theorem dX5_asked_0 : decode cX5_asked 0 = .ok (.aload_n 0, 1) := by decide +kernel
theorem dX5_asked_1 : decode cX5_asked 1 = .ok (.aload_n 0, 1) := by decide +kernel
theorem dX5_asked_2 : decode cX5_asked 2 = .ok (.getfield 35, 3) := by decide +kernel
theorem dX5_asked_5 : decode cX5_asked 5 = .ok (.getfield 100, 3) := by decide +kernel
theorem dX5_asked_8 : decode cX5_asked 8 = .ok (.invokevirtual 182, 3) := by decide +kernel
theorem dX5_asked_11 : decode cX5_asked 11 = .ok (.ireturn, 1) := by decide +kernel
set_option maxRecDepth 20000 in
theorem ggX5_walkTo_X4_become : GoodIn wsX5_walkTo wsX4_become := goodIn_r _ [7, 8, 9, 10, 11, 12, 13, 14, 15, 16, 17, 18, 19, 20, 21, 22, 23, 24, 25, 111, 112, 113, 114, 115, 116, 117, 118, 119, 120, 121, 122, 123, 124] (by decide +kernel) (by decide +kernel)
set_option maxRecDepth 20000 in
theorem gX5_walkTo_X4_become : GoodIn wsX5_walkTo (wsV RX5 191 RX4 yX4_become wsX4_become) := goodIn_app (goodIn_of _ (by decide +kernel)) ggX5_walkTo_X4_become
set_option maxRecDepth 20000 in
theorem ggX5_walkTo_X5_start : GoodIn wsX5_walkTo wsX5_start := goodIn_r _ [29, 30, 31, 32, 6, 33, 10, 11, 17, 22, 111, 112, 113, 114, 115, 116, 117, 118, 119, 120, 121, 122, 123, 124] (by decide +kernel) (by decide +kernel)
set_option maxRecDepth 20000 in
theorem gX5_walkTo_X5_start : GoodIn wsX5_walkTo (va_wsS RX5 165 yX5_start wsX5_start) := goodIn_app (goodIn_of _ (by decide +kernel)) ggX5_walkTo_X5_start
set_option maxRecDepth 20000 in
theorem ggX5_walkTo_X5_stepsOn : GoodIn wsX5_walkTo wsX5_stepsOn := goodIn_r _ [37, 38, 39, 40, 28, 41, 42, 43, 44, 6, 45, 24, 10, 46, 47, 48, 49, 50, 51, 52, 53, 54, 55, 56, 57, 58, 59, 60, 61, 62, 63, 64, 65, 66, 67, 68, 69, 70, 71, 72, 73, 74, 75, 76, 77, 25, 78, 79, 80, 81, 82, 83, 84, 85, 86, 87, 88, 89, 90, 31, 32, 33, 11, 17, 22, 91, 92, 93, 94, 95, 96, 97, 98, 111, 112, 113, 114, 115, 116, 117, 118, 119, 120, 121, 122, 123, 124, 99, 100, 101, 102, 103, 104, 105, 106, 107, 108, 109, 110] (by decide +kernel) (by decide +kernel)
set_option maxRecDepth 20000 in
theorem gX5_walkTo_X5_stepsOn : GoodIn wsX5_walkTo (wsV RX5 171 RX5 yX5_stepsOn wsX5_stepsOn) := goodIn_app (goodIn_of _ (by decide +kernel)) ggX5_walkTo_X5_stepsOn
theorem dX5_walkTo_0 : decode cX5_walkTo 0 = .ok (.aload_n 0, 1) := by decide +kernel
theorem dX5_walkTo_1 : decode cX5_walkTo 1 = .ok (.getfield 39, 3) := by decide +kernel
theorem dX5_walkTo_4 : decode cX5_walkTo 4 = .ok (.aload_n 0, 1) := by decide +kernel
theorem dX5_walkTo_5 : decode cX5_walkTo 5 = .ok (.getfield 35, 3) := by decide +kernel
theorem dX5_walkTo_8 : decode cX5_walkTo 8 = .ok (.invokevirtual 191, 3) := by decide +kernel
theorem dX5_walkTo_11 : decode cX5_walkTo 11 = .ok (.aload_n 0, 1) := by decide +kernel
theorem dX5_walkTo_12 : decode cX5_walkTo 12 = .ok (.getfield 39, 3) := by decide +kernel
theorem dX5_walkTo_15 : decode cX5_walkTo 15 = .ok (.iload_n 1, 1) := by decide +kernel
theorem dX5_walkTo_16 : decode cX5_walkTo 16 = .ok (.invokestatic 165, 3) := by decide +kernel
theorem dX5_walkTo_19 : decode cX5_walkTo 19 = .ok (.aload_n 0, 1) := by decide +kernel
theorem dX5_walkTo_20 : decode cX5_walkTo 20 = .ok (.aload_n 0, 1) := by decide +kernel
theorem dX5_walkTo_21 : decode cX5_walkTo 21 = .ok (.getfield 39, 3) := by decide +kernel
theorem dX5_walkTo_24 : decode cX5_walkTo 24 = .ok (.sipush 9999, 3) := by decide +kernel
theorem dX5_walkTo_27 : decode cX5_walkTo 27 = .ok (.invokevirtual 171, 3) := by decide +kernel
theorem dX5_walkTo_30 : decode cX5_walkTo 30 = .ok (.pop, 1) := by decide +kernel
theorem dX5_walkTo_31 : decode cX5_walkTo 31 = .ok (.aload_n 0, 1) := by decide +kernel
theorem dX5_walkTo_32 : decode cX5_walkTo 32 = .ok (.getfield 39, 3) := by decide +kernel
theorem dX5_walkTo_35 : decode cX5_walkTo 35 = .ok (.getfield 146, 3) := by decide +kernel
theorem dX5_walkTo_38 : decode cX5_walkTo 38 = .ok (.aload_n 0, 1) := by decide +kernel
theorem dX5_walkTo_39 : decode cX5_walkTo 39 = .ok (.getfield 35, 3) := by decide +kernel
theorem dX5_walkTo_42 : decode cX5_walkTo 42 = .ok (.getfield 146, 3) := by decide +kernel
theorem dX5_walkTo_45 : decode cX5_walkTo 45 = .ok (.if_icmp .le 7, 3) := by decide +kernel
theorem dX5_walkTo_48 : decode cX5_walkTo 48 = .ok (.iconst (-1), 1) := by decide +kernel
theorem dX5_walkTo_49 : decode cX5_walkTo 49 = .ok (.goto 18, 3) := by decide +kernel
theorem dX5_walkTo_52 : decode cX5_walkTo 52 = .ok (.aload_n 0, 1) := by decide +kernel
theorem dX5_walkTo_53 : decode cX5_walkTo 53 = .ok (.getfield 39, 3) := by decide +kernel
theorem dX5_walkTo_56 : decode cX5_walkTo 56 = .ok (.getfield 87, 3) := by decide +kernel
theorem dX5_walkTo_59 : decode cX5_walkTo 59 = .ok (.aload_n 0, 1) := by decide +kernel
theorem dX5_walkTo_60 : decode cX5_walkTo 60 = .ok (.getfield 35, 3) := by decide +kernel
theorem dX5_walkTo_63 : decode cX5_walkTo 63 = .ok (.getfield 87, 3) := by decide +kernel
theorem dX5_walkTo_66 : decode cX5_walkTo 66 = .ok (.isub, 1) := by decide +kernel
theorem dX5_walkTo_67 : decode cX5_walkTo 67 = .ok (.ireturn, 1) := by decide +kernel
set_option maxRecDepth 20000 in
theorem ggX5_wouldWalk_X5_isPlace : GoodIn wsX5_wouldWalk wsX5_isPlace := goodIn_r _ [7, 8, 9, 10, 6, 11, 115, 116, 117, 118, 119, 120, 121, 122, 123, 124, 125, 126] (by decide +kernel) (by decide +kernel)
set_option maxRecDepth 20000 in
theorem gX5_wouldWalk_X5_isPlace : GoodIn wsX5_wouldWalk (wsV RX5 53 RX5 yX5_isPlace wsX5_isPlace) := goodIn_app (goodIn_of _ (by decide +kernel)) ggX5_wouldWalk_X5_isPlace
set_option maxRecDepth 20000 in
theorem ggX5_wouldWalk_X5_no : GoodIn wsX5_wouldWalk wsX5_no := goodIn_r _ [15, 1, 115, 116, 117, 118, 119, 120, 121, 122, 123, 124, 125, 126] (by decide +kernel) (by decide +kernel)
set_option maxRecDepth 20000 in
theorem gX5_wouldWalk_X5_no : GoodIn wsX5_wouldWalk (wsV RX5 57 RX5 yX5_no wsX5_no) := goodIn_app (goodIn_of _ (by decide +kernel)) ggX5_wouldWalk_X5_no
set_option maxRecDepth 20000 in
theorem ggX5_wouldWalk_X5_walkTo : GoodIn wsX5_wouldWalk wsX5_walkTo := goodIn_r _ [19, 20, 2, 21, 22, 23, 24, 25, 26, 27, 28, 29, 30, 31, 32, 33, 34, 35, 36, 37, 38, 39, 40, 41, 42, 43, 44, 45, 6, 46, 47, 48, 49, 50, 51, 52, 53, 54, 55, 56, 57, 58, 59, 60, 61, 62, 63, 64, 65, 66, 67, 68, 69, 70, 71, 72, 73, 74, 75, 76, 77, 78, 79, 80, 81, 82, 83, 84, 85, 86, 87, 88, 89, 8, 90, 91, 92, 93, 94, 95, 96, 97, 98, 99, 100, 101, 102, 103, 104, 105, 106, 107, 108, 109, 110, 111, 112, 113, 114, 115, 116, 117, 118, 119, 120, 121, 122, 123, 124, 125, 126, 127, 128, 129, 130, 131, 132, 133, 134, 135, 136, 137, 138, 139, 140] (by decide +kernel) (by decide +kernel)
set_option maxRecDepth 20000 in
theorem gX5_wouldWalk_X5_walkTo : GoodIn wsX5_wouldWalk (wsV RX5 194 RX5 yX5_walkTo wsX5_walkTo) := goodIn_app (goodIn_of _ (by decide +kernel)) ggX5_wouldWalk_X5_walkTo
theorem dX5_wouldWalk_0 : decode cX5_wouldWalk 0 = .ok (.aload_n 0, 1) := by decide +kernel
theorem dX5_wouldWalk_1 : decode cX5_wouldWalk 1 = .ok (.iconst 0, 1) := by decide +kernel
theorem dX5_wouldWalk_2 : decode cX5_wouldWalk 2 = .ok (.putfield 42, 3) := by decide +kernel
theorem dX5_wouldWalk_5 : decode cX5_wouldWalk 5 = .ok (.aload_n 0, 1) := by decide +kernel
theorem dX5_wouldWalk_6 : decode cX5_wouldWalk 6 = .ok (.iload_n 1, 1) := by decide +kernel
theorem dX5_wouldWalk_7 : decode cX5_wouldWalk 7 = .ok (.invokevirtual 53, 3) := by decide +kernel
theorem dX5_wouldWalk_10 : decode cX5_wouldWalk 10 = .ok (.ifCond .ne 9, 3) := by decide +kernel
theorem dX5_wouldWalk_13 : decode cX5_wouldWalk 13 = .ok (.aload_n 0, 1) := by decide +kernel
theorem dX5_wouldWalk_14 : decode cX5_wouldWalk 14 = .ok (.iconst 1, 1) := by decide +kernel
theorem dX5_wouldWalk_15 : decode cX5_wouldWalk 15 = .ok (.invokevirtual 57, 3) := by decide +kernel
theorem dX5_wouldWalk_18 : decode cX5_wouldWalk 18 = .ok (.ireturn, 1) := by decide +kernel
theorem dX5_wouldWalk_19 : decode cX5_wouldWalk 19 = .ok (.aload_n 0, 1) := by decide +kernel
theorem dX5_wouldWalk_20 : decode cX5_wouldWalk 20 = .ok (.getfield 35, 3) := by decide +kernel
theorem dX5_wouldWalk_23 : decode cX5_wouldWalk 23 = .ok (.getfield 103, 3) := by decide +kernel
theorem dX5_wouldWalk_26 : decode cX5_wouldWalk 26 = .ok (.iconst (-1), 1) := by decide +kernel
theorem dX5_wouldWalk_27 : decode cX5_wouldWalk 27 = .ok (.if_icmp .eq 11, 3) := by decide +kernel
theorem dX5_wouldWalk_30 : decode cX5_wouldWalk 30 = .ok (.aload_n 0, 1) := by decide +kernel
theorem dX5_wouldWalk_31 : decode cX5_wouldWalk 31 = .ok (.iconst 2, 1) := by decide +kernel
theorem dX5_wouldWalk_32 : decode cX5_wouldWalk 32 = .ok (.invokevirtual 57, 3) := by decide +kernel
theorem dX5_wouldWalk_35 : decode cX5_wouldWalk 35 = .ok (.goto 8, 3) := by decide +kernel
theorem dX5_wouldWalk_38 : decode cX5_wouldWalk 38 = .ok (.aload_n 0, 1) := by decide +kernel
theorem dX5_wouldWalk_39 : decode cX5_wouldWalk 39 = .ok (.iload_n 1, 1) := by decide +kernel
theorem dX5_wouldWalk_40 : decode cX5_wouldWalk 40 = .ok (.invokevirtual 194, 3) := by decide +kernel
theorem dX5_wouldWalk_43 : decode cX5_wouldWalk 43 = .ok (.ireturn, 1) := by decide +kernel
set_option maxRecDepth 20000 in
theorem ggX5_helper_X5_walkTo : GoodIn wsX5_helper wsX5_walkTo := goodIn_r _ [7, 8, 9, 10, 11, 12, 13, 14, 15, 16, 17, 18, 19, 20, 21, 22, 23, 24, 25, 26, 27, 28, 29, 30, 31, 32, 33, 34, 6, 35, 36, 37, 38, 39, 40, 41, 42, 43, 44, 45, 46, 47, 48, 49, 50, 51, 52, 53, 54, 55, 56, 57, 58, 59, 60, 61, 62, 63, 64, 65, 66, 67, 2, 68, 69, 70, 71, 72, 73, 74, 75, 76, 77, 1, 78, 79, 80, 81, 82, 83, 84, 85, 86, 87, 88, 89, 90, 91, 92, 93, 94, 95, 96, 97, 98, 99, 100, 101, 102, 103, 104, 105, 106, 107, 108, 109, 110, 111, 112, 113, 114, 115, 116, 117, 118, 119, 120, 121, 122, 123, 124, 125, 126, 127, 128] (by decide +kernel) (by decide +kernel)
set_option maxRecDepth 20000 in
theorem gX5_helper_X5_walkTo : GoodIn wsX5_helper (wsV RX5 194 RX5 yX5_walkTo wsX5_walkTo) := goodIn_app (goodIn_of _ (by decide +kernel)) ggX5_helper_X5_walkTo
theorem dX5_helper_0 : decode cX5_helper 0 = .ok (.aload_n 0, 1) := by decide +kernel
theorem dX5_helper_1 : decode cX5_helper 1 = .ok (.iload_n 1, 1) := by decide +kernel
theorem dX5_helper_2 : decode cX5_helper 2 = .ok (.invokevirtual 194, 3) := by decide +kernel
theorem dX5_helper_5 : decode cX5_helper 5 = .ok (.istore_n 2, 1) := by decide +kernel
theorem dX5_helper_6 : decode cX5_helper 6 = .ok (.iconst (-1), 1) := by decide +kernel
theorem dX5_helper_7 : decode cX5_helper 7 = .ok (.istore_n 3, 1) := by decide +kernel
theorem dX5_helper_8 : decode cX5_helper 8 = .ok (.iload_n 2, 1) := by decide +kernel
theorem dX5_helper_9 : decode cX5_helper 9 = .ok (.iconst (-1), 1) := by decide +kernel
theorem dX5_helper_10 : decode cX5_helper 10 = .ok (.if_icmp .ne 9, 3) := by decide +kernel
theorem dX5_helper_13 : decode cX5_helper 13 = .ok (.sipush 9999, 3) := by decide +kernel
theorem dX5_helper_16 : decode cX5_helper 16 = .ok (.goto 4, 3) := by decide +kernel
theorem dX5_helper_19 : decode cX5_helper 19 = .ok (.iload_n 2, 1) := by decide +kernel
theorem dX5_helper_20 : decode cX5_helper 20 = .ok (.istore 4, 2) := by decide +kernel
theorem dX5_helper_22 : decode cX5_helper 22 = .ok (.iconst 0, 1) := by decide +kernel
theorem dX5_helper_23 : decode cX5_helper 23 = .ok (.istore 5, 2) := by decide +kernel
theorem dX5_helper_25 : decode cX5_helper 25 = .ok (.iload 5, 2) := by decide +kernel
theorem dX5_helper_27 : decode cX5_helper 27 = .ok (.aload_n 0, 1) := by decide +kernel
theorem dX5_helper_28 : decode cX5_helper 28 = .ok (.getfield 46, 3) := by decide +kernel
theorem dX5_helper_31 : decode cX5_helper 31 = .ok (.if_icmp .ge 68, 3) := by decide +kernel
theorem dX5_helper_34 : decode cX5_helper 34 = .ok (.aload_n 0, 1) := by decide +kernel
theorem dX5_helper_35 : decode cX5_helper 35 = .ok (.getfield 26, 3) := by decide +kernel
theorem dX5_helper_38 : decode cX5_helper 38 = .ok (.iload 5, 2) := by decide +kernel
theorem dX5_helper_40 : decode cX5_helper 40 = .ok (.baload, 1) := by decide +kernel
theorem dX5_helper_41 : decode cX5_helper 41 = .ok (.ifCond .eq 6, 3) := by decide +kernel
theorem dX5_helper_44 : decode cX5_helper 44 = .ok (.goto 49, 3) := by decide +kernel
theorem dX5_helper_47 : decode cX5_helper 47 = .ok (.aload_n 0, 1) := by decide +kernel
theorem dX5_helper_48 : decode cX5_helper 48 = .ok (.getfield 26, 3) := by decide +kernel
theorem dX5_helper_51 : decode cX5_helper 51 = .ok (.iload 5, 2) := by decide +kernel
theorem dX5_helper_53 : decode cX5_helper 53 = .ok (.iconst 1, 1) := by decide +kernel
theorem dX5_helper_54 : decode cX5_helper 54 = .ok (.bastore, 1) := by decide +kernel
theorem dX5_helper_55 : decode cX5_helper 55 = .ok (.aload_n 0, 1) := by decide +kernel
theorem dX5_helper_56 : decode cX5_helper 56 = .ok (.iload_n 1, 1) := by decide +kernel
theorem dX5_helper_57 : decode cX5_helper 57 = .ok (.invokevirtual 194, 3) := by decide +kernel
theorem dX5_helper_60 : decode cX5_helper 60 = .ok (.istore 6, 2) := by decide +kernel
theorem dX5_helper_62 : decode cX5_helper 62 = .ok (.aload_n 0, 1) := by decide +kernel
theorem dX5_helper_63 : decode cX5_helper 63 = .ok (.getfield 26, 3) := by decide +kernel
theorem dX5_helper_66 : decode cX5_helper 66 = .ok (.iload 5, 2) := by decide +kernel
theorem dX5_helper_68 : decode cX5_helper 68 = .ok (.iconst 0, 1) := by decide +kernel
theorem dX5_helper_69 : decode cX5_helper 69 = .ok (.bastore, 1) := by decide +kernel
theorem dX5_helper_70 : decode cX5_helper 70 = .ok (.iload 6, 2) := by decide +kernel
theorem dX5_helper_72 : decode cX5_helper 72 = .ok (.iconst (-1), 1) := by decide +kernel
theorem dX5_helper_73 : decode cX5_helper 73 = .ok (.if_icmp .eq 20, 3) := by decide +kernel
theorem dX5_helper_76 : decode cX5_helper 76 = .ok (.iload 6, 2) := by decide +kernel
theorem dX5_helper_78 : decode cX5_helper 78 = .ok (.iload 4, 2) := by decide +kernel
theorem dX5_helper_80 : decode cX5_helper 80 = .ok (.if_icmp .lt 6, 3) := by decide +kernel
theorem dX5_helper_83 : decode cX5_helper 83 = .ok (.goto 10, 3) := by decide +kernel
theorem dX5_helper_86 : decode cX5_helper 86 = .ok (.iload 5, 2) := by decide +kernel
theorem dX5_helper_88 : decode cX5_helper 88 = .ok (.istore_n 3, 1) := by decide +kernel
theorem dX5_helper_89 : decode cX5_helper 89 = .ok (.iload 6, 2) := by decide +kernel
theorem dX5_helper_91 : decode cX5_helper 91 = .ok (.istore 4, 2) := by decide +kernel
theorem dX5_helper_93 : decode cX5_helper 93 = .ok (.iinc 5 1, 3) := by decide +kernel
theorem dX5_helper_96 : decode cX5_helper 96 = .ok (.goto (-71), 3) := by decide +kernel
theorem dX5_helper_99 : decode cX5_helper 99 = .ok (.iload_n 3, 1) := by decide +kernel
theorem dX5_helper_100 : decode cX5_helper 100 = .ok (.ireturn, 1) := by decide +kernel
set_option maxRecDepth 20000 in
theorem ggX5_bestShepherd_X5_isPlace : GoodIn wsX5_bestShepherd wsX5_isPlace := goodIn_r _ [7, 8, 9, 10, 6, 11, 119, 120, 121, 122, 123, 124, 125, 126, 127, 128, 129, 130] (by decide +kernel) (by decide +kernel)
set_option maxRecDepth 20000 in
theorem gX5_bestShepherd_X5_isPlace : GoodIn wsX5_bestShepherd (wsV RX5 53 RX5 yX5_isPlace wsX5_isPlace) := goodIn_app (goodIn_of _ (by decide +kernel)) ggX5_bestShepherd_X5_isPlace
set_option maxRecDepth 20000 in
theorem ggX5_bestShepherd_X5_no : GoodIn wsX5_bestShepherd wsX5_no := goodIn_r _ [15, 1, 119, 120, 121, 122, 123, 124, 125, 126, 127, 128, 129, 130] (by decide +kernel) (by decide +kernel)
set_option maxRecDepth 20000 in
theorem gX5_bestShepherd_X5_no : GoodIn wsX5_bestShepherd (wsV RX5 57 RX5 yX5_no wsX5_no) := goodIn_app (goodIn_of _ (by decide +kernel)) ggX5_bestShepherd_X5_no
set_option maxRecDepth 20000 in
theorem ggX5_bestShepherd_X5_helper : GoodIn wsX5_bestShepherd wsX5_helper := goodIn_r _ [19, 8, 20, 21, 22, 23, 6, 24, 25, 2, 26, 27, 28, 29, 30, 31, 32, 33, 34, 35, 36, 37, 38, 39, 40, 41, 42, 43, 44, 45, 46, 47, 48, 49, 50, 51, 52, 53, 54, 55, 56, 57, 58, 59, 60, 61, 62, 63, 64, 65, 66, 67, 68, 69, 70, 71, 72, 73, 74, 75, 76, 77, 78, 79, 80, 81, 82, 83, 84, 85, 86, 87, 88, 89, 90, 91, 92, 93, 94, 95, 96, 97, 98, 99, 100, 101, 102, 103, 104, 105, 106, 107, 108, 109, 110, 111, 112, 113, 114, 115, 116, 117, 118, 119, 120, 121, 122, 123, 124, 125, 126, 127, 128, 129, 130, 131, 132, 133, 134, 135, 136, 137, 138, 139, 140, 141, 142, 143, 144] (by decide +kernel) (by decide +kernel)
set_option maxRecDepth 20000 in
theorem gX5_bestShepherd_X5_helper : GoodIn wsX5_bestShepherd (wsV RX5 197 RX5 yX5_helper wsX5_helper) := goodIn_app (goodIn_of _ (by decide +kernel)) ggX5_bestShepherd_X5_helper
theorem dX5_bestShepherd_0 : decode cX5_bestShepherd 0 = .ok (.aload_n 0, 1) := by decide +kernel
theorem dX5_bestShepherd_1 : decode cX5_bestShepherd 1 = .ok (.iconst 0, 1) := by decide +kernel
theorem dX5_bestShepherd_2 : decode cX5_bestShepherd 2 = .ok (.putfield 42, 3) := by decide +kernel
theorem dX5_bestShepherd_5 : decode cX5_bestShepherd 5 = .ok (.aload_n 0, 1) := by decide +kernel
theorem dX5_bestShepherd_6 : decode cX5_bestShepherd 6 = .ok (.iload_n 1, 1) := by decide +kernel
theorem dX5_bestShepherd_7 : decode cX5_bestShepherd 7 = .ok (.invokevirtual 53, 3) := by decide +kernel
theorem dX5_bestShepherd_10 : decode cX5_bestShepherd 10 = .ok (.ifCond .ne 9, 3) := by decide +kernel
theorem dX5_bestShepherd_13 : decode cX5_bestShepherd 13 = .ok (.aload_n 0, 1) := by decide +kernel
theorem dX5_bestShepherd_14 : decode cX5_bestShepherd 14 = .ok (.iconst 1, 1) := by decide +kernel
theorem dX5_bestShepherd_15 : decode cX5_bestShepherd 15 = .ok (.invokevirtual 57, 3) := by decide +kernel
theorem dX5_bestShepherd_18 : decode cX5_bestShepherd 18 = .ok (.ireturn, 1) := by decide +kernel
theorem dX5_bestShepherd_19 : decode cX5_bestShepherd 19 = .ok (.aload_n 0, 1) := by decide +kernel
theorem dX5_bestShepherd_20 : decode cX5_bestShepherd 20 = .ok (.getfield 35, 3) := by decide +kernel
theorem dX5_bestShepherd_23 : decode cX5_bestShepherd 23 = .ok (.getfield 103, 3) := by decide +kernel
theorem dX5_bestShepherd_26 : decode cX5_bestShepherd 26 = .ok (.iconst (-1), 1) := by decide +kernel
theorem dX5_bestShepherd_27 : decode cX5_bestShepherd 27 = .ok (.if_icmp .eq 11, 3) := by decide +kernel
theorem dX5_bestShepherd_30 : decode cX5_bestShepherd 30 = .ok (.aload_n 0, 1) := by decide +kernel
theorem dX5_bestShepherd_31 : decode cX5_bestShepherd 31 = .ok (.iconst 2, 1) := by decide +kernel
theorem dX5_bestShepherd_32 : decode cX5_bestShepherd 32 = .ok (.invokevirtual 57, 3) := by decide +kernel
theorem dX5_bestShepherd_35 : decode cX5_bestShepherd 35 = .ok (.goto 8, 3) := by decide +kernel
theorem dX5_bestShepherd_38 : decode cX5_bestShepherd 38 = .ok (.aload_n 0, 1) := by decide +kernel
theorem dX5_bestShepherd_39 : decode cX5_bestShepherd 39 = .ok (.iload_n 1, 1) := by decide +kernel
theorem dX5_bestShepherd_40 : decode cX5_bestShepherd 40 = .ok (.invokevirtual 197, 3) := by decide +kernel
theorem dX5_bestShepherd_43 : decode cX5_bestShepherd 43 = .ok (.ireturn, 1) := by decide +kernel
theorem dX5_meanMiles_0 : decode cX5_meanMiles 0 = .ok (.aload_n 0, 1) := by decide +kernel
theorem dX5_meanMiles_1 : decode cX5_meanMiles 1 = .ok (.iconst 0, 1) := by decide +kernel
theorem dX5_meanMiles_2 : decode cX5_meanMiles 2 = .ok (.putfield 42, 3) := by decide +kernel
theorem dX5_meanMiles_5 : decode cX5_meanMiles 5 = .ok (.aload_n 0, 1) := by decide +kernel
theorem dX5_meanMiles_6 : decode cX5_meanMiles 6 = .ok (.getfield 35, 3) := by decide +kernel
theorem dX5_meanMiles_9 : decode cX5_meanMiles 9 = .ok (.getfield 156, 3) := by decide +kernel
theorem dX5_meanMiles_12 : decode cX5_meanMiles 12 = .ok (.aload_n 0, 1) := by decide +kernel
theorem dX5_meanMiles_13 : decode cX5_meanMiles 13 = .ok (.getfield 35, 3) := by decide +kernel
theorem dX5_meanMiles_16 : decode cX5_meanMiles 16 = .ok (.getfield 146, 3) := by decide +kernel
theorem dX5_meanMiles_19 : decode cX5_meanMiles 19 = .ok (.iadd, 1) := by decide +kernel
theorem dX5_meanMiles_20 : decode cX5_meanMiles 20 = .ok (.istore_n 1, 1) := by decide +kernel
theorem dX5_meanMiles_21 : decode cX5_meanMiles 21 = .ok (.iload_n 1, 1) := by decide +kernel
theorem dX5_meanMiles_22 : decode cX5_meanMiles 22 = .ok (.ifCond .ne 7, 3) := by decide +kernel
theorem dX5_meanMiles_25 : decode cX5_meanMiles 25 = .ok (.dconst 0, 1) := by decide +kernel
theorem dX5_meanMiles_26 : decode cX5_meanMiles 26 = .ok (.goto 14, 3) := by decide +kernel
theorem dX5_meanMiles_29 : decode cX5_meanMiles 29 = .ok (.aload_n 0, 1) := by decide +kernel
theorem dX5_meanMiles_30 : decode cX5_meanMiles 30 = .ok (.getfield 35, 3) := by decide +kernel
theorem dX5_meanMiles_33 : decode cX5_meanMiles 33 = .ok (.getfield 87, 3) := by decide +kernel
theorem dX5_meanMiles_36 : decode cX5_meanMiles 36 = .ok (.i2d, 1) := by decide +kernel
theorem dX5_meanMiles_37 : decode cX5_meanMiles 37 = .ok (.iload_n 1, 1) := by decide +kernel
theorem dX5_meanMiles_38 : decode cX5_meanMiles 38 = .ok (.i2d, 1) := by decide +kernel
theorem dX5_meanMiles_39 : decode cX5_meanMiles 39 = .ok (.ddiv, 1) := by decide +kernel
theorem dX5_meanMiles_40 : decode cX5_meanMiles 40 = .ok (.dreturn, 1) := by decide +kernel
theorem dX5_one_0 : decode cX5_one 0 = .ok (.iload_n 0, 1) := by decide +kernel
theorem dX5_one_1 : decode cX5_one 1 = .ok (.ifCond .eq 7, 3) := by decide +kernel
theorem dX5_one_4 : decode cX5_one 4 = .ok (.iconst 1, 1) := by decide +kernel
theorem dX5_one_5 : decode cX5_one 5 = .ok (.goto 4, 3) := by decide +kernel
theorem dX5_one_8 : decode cX5_one 8 = .ok (.iconst 0, 1) := by decide +kernel
theorem dX5_one_9 : decode cX5_one 9 = .ok (.ireturn, 1) := by decide +kernel
set_option maxRecDepth 20000 in
theorem ggX5_digest_X5_one : GoodIn wsX5_digest wsX5_one := goodIn_r _ [16] (by decide +kernel) (by decide +kernel)
set_option maxRecDepth 20000 in
theorem gX5_digest_X5_one : GoodIn wsX5_digest (va_wsS RX5 204 yX5_one wsX5_one) := goodIn_app (goodIn_of _ (by decide +kernel)) ggX5_digest_X5_one
set_option maxRecDepth 20000 in
theorem ggX5_digest_X5_strengthOf : GoodIn wsX5_digest wsX5_strengthOf := goodIn_r _ [20, 4, 21, 22, 23, 24, 25, 26, 27, 28, 29, 30, 31, 32, 33, 34, 35, 36, 37, 38, 39, 40, 41, 42, 43, 44, 45, 46] (by decide +kernel) (by decide +kernel)
set_option maxRecDepth 20000 in
theorem gX5_digest_X5_strengthOf : GoodIn wsX5_digest (wsV RX5 185 RX5 yX5_strengthOf wsX5_strengthOf) := goodIn_app (goodIn_of _ (by decide +kernel)) ggX5_digest_X5_strengthOf
theorem dX5_digest_0 : decode cX5_digest 0 = .ok (.aload_n 0, 1) := by decide +kernel
theorem dX5_digest_1 : decode cX5_digest 1 = .ok (.iconst 0, 1) := by decide +kernel
theorem dX5_digest_2 : decode cX5_digest 2 = .ok (.putfield 42, 3) := by decide +kernel
theorem dX5_digest_5 : decode cX5_digest 5 = .ok (.bipush 10, 2) := by decide +kernel
theorem dX5_digest_7 : decode cX5_digest 7 = .ok (.newarray .int, 2) := by decide +kernel
theorem dX5_digest_9 : decode cX5_digest 9 = .ok (.dup, 1) := by decide +kernel
theorem dX5_digest_10 : decode cX5_digest 10 = .ok (.iconst 0, 1) := by decide +kernel
theorem dX5_digest_11 : decode cX5_digest 11 = .ok (.aload_n 0, 1) := by decide +kernel
theorem dX5_digest_12 : decode cX5_digest 12 = .ok (.getfield 46, 3) := by decide +kernel
theorem dX5_digest_15 : decode cX5_digest 15 = .ok (.iastore, 1) := by decide +kernel
theorem dX5_digest_16 : decode cX5_digest 16 = .ok (.dup, 1) := by decide +kernel
theorem dX5_digest_17 : decode cX5_digest 17 = .ok (.iconst 1, 1) := by decide +kernel
theorem dX5_digest_18 : decode cX5_digest 18 = .ok (.aload_n 0, 1) := by decide +kernel
theorem dX5_digest_19 : decode cX5_digest 19 = .ok (.getfield 35, 3) := by decide +kernel
theorem dX5_digest_22 : decode cX5_digest 22 = .ok (.getfield 61, 3) := by decide +kernel
theorem dX5_digest_25 : decode cX5_digest 25 = .ok (.iastore, 1) := by decide +kernel
theorem dX5_digest_26 : decode cX5_digest 26 = .ok (.dup, 1) := by decide +kernel
theorem dX5_digest_27 : decode cX5_digest 27 = .ok (.iconst 2, 1) := by decide +kernel
theorem dX5_digest_28 : decode cX5_digest 28 = .ok (.aload_n 0, 1) := by decide +kernel
theorem dX5_digest_29 : decode cX5_digest 29 = .ok (.getfield 35, 3) := by decide +kernel
theorem dX5_digest_32 : decode cX5_digest 32 = .ok (.getfield 97, 3) := by decide +kernel
theorem dX5_digest_35 : decode cX5_digest 35 = .ok (.iastore, 1) := by decide +kernel
theorem dX5_digest_36 : decode cX5_digest 36 = .ok (.dup, 1) := by decide +kernel
theorem dX5_digest_37 : decode cX5_digest 37 = .ok (.iconst 3, 1) := by decide +kernel
theorem dX5_digest_38 : decode cX5_digest 38 = .ok (.aload_n 0, 1) := by decide +kernel
theorem dX5_digest_39 : decode cX5_digest 39 = .ok (.getfield 35, 3) := by decide +kernel
theorem dX5_digest_42 : decode cX5_digest 42 = .ok (.getfield 103, 3) := by decide +kernel
theorem dX5_digest_45 : decode cX5_digest 45 = .ok (.iastore, 1) := by decide +kernel
theorem dX5_digest_46 : decode cX5_digest 46 = .ok (.dup, 1) := by decide +kernel
theorem dX5_digest_47 : decode cX5_digest 47 = .ok (.iconst 4, 1) := by decide +kernel
theorem dX5_digest_48 : decode cX5_digest 48 = .ok (.aload_n 0, 1) := by decide +kernel
theorem dX5_digest_49 : decode cX5_digest 49 = .ok (.getfield 35, 3) := by decide +kernel
theorem dX5_digest_52 : decode cX5_digest 52 = .ok (.getfield 84, 3) := by decide +kernel
theorem dX5_digest_55 : decode cX5_digest 55 = .ok (.iastore, 1) := by decide +kernel
theorem dX5_digest_56 : decode cX5_digest 56 = .ok (.dup, 1) := by decide +kernel
theorem dX5_digest_57 : decode cX5_digest 57 = .ok (.iconst 5, 1) := by decide +kernel
theorem dX5_digest_58 : decode cX5_digest 58 = .ok (.aload_n 0, 1) := by decide +kernel
theorem dX5_digest_59 : decode cX5_digest 59 = .ok (.getfield 35, 3) := by decide +kernel
theorem dX5_digest_62 : decode cX5_digest 62 = .ok (.getfield 87, 3) := by decide +kernel
theorem dX5_digest_65 : decode cX5_digest 65 = .ok (.iastore, 1) := by decide +kernel
theorem dX5_digest_66 : decode cX5_digest 66 = .ok (.dup, 1) := by decide +kernel
theorem dX5_digest_67 : decode cX5_digest 67 = .ok (.bipush 6, 2) := by decide +kernel
theorem dX5_digest_69 : decode cX5_digest 69 = .ok (.aload_n 0, 1) := by decide +kernel
theorem dX5_digest_70 : decode cX5_digest 70 = .ok (.getfield 35, 3) := by decide +kernel
theorem dX5_digest_73 : decode cX5_digest 73 = .ok (.getfield 122, 3) := by decide +kernel
theorem dX5_digest_76 : decode cX5_digest 76 = .ok (.iastore, 1) := by decide +kernel
theorem dX5_digest_77 : decode cX5_digest 77 = .ok (.dup, 1) := by decide +kernel
theorem dX5_digest_78 : decode cX5_digest 78 = .ok (.bipush 7, 2) := by decide +kernel
theorem dX5_digest_80 : decode cX5_digest 80 = .ok (.aload_n 0, 1) := by decide +kernel
theorem dX5_digest_81 : decode cX5_digest 81 = .ok (.getfield 35, 3) := by decide +kernel
theorem dX5_digest_84 : decode cX5_digest 84 = .ok (.getfield 156, 3) := by decide +kernel
theorem dX5_digest_87 : decode cX5_digest 87 = .ok (.iastore, 1) := by decide +kernel
theorem dX5_digest_88 : decode cX5_digest 88 = .ok (.dup, 1) := by decide +kernel
theorem dX5_digest_89 : decode cX5_digest 89 = .ok (.bipush 8, 2) := by decide +kernel
theorem dX5_digest_91 : decode cX5_digest 91 = .ok (.aload_n 0, 1) := by decide +kernel
theorem dX5_digest_92 : decode cX5_digest 92 = .ok (.getfield 35, 3) := by decide +kernel
theorem dX5_digest_95 : decode cX5_digest 95 = .ok (.getfield 146, 3) := by decide +kernel
theorem dX5_digest_98 : decode cX5_digest 98 = .ok (.iastore, 1) := by decide +kernel
theorem dX5_digest_99 : decode cX5_digest 99 = .ok (.dup, 1) := by decide +kernel
theorem dX5_digest_100 : decode cX5_digest 100 = .ok (.bipush 9, 2) := by decide +kernel
theorem dX5_digest_102 : decode cX5_digest 102 = .ok (.aload_n 0, 1) := by decide +kernel
theorem dX5_digest_103 : decode cX5_digest 103 = .ok (.getfield 35, 3) := by decide +kernel
theorem dX5_digest_106 : decode cX5_digest 106 = .ok (.getfield 100, 3) := by decide +kernel
theorem dX5_digest_109 : decode cX5_digest 109 = .ok (.iastore, 1) := by decide +kernel
theorem dX5_digest_110 : decode cX5_digest 110 = .ok (.astore_n 1, 1) := by decide +kernel
theorem dX5_digest_111 : decode cX5_digest 111 = .ok (.ldc2_w 200, 3) := by decide +kernel
theorem dX5_digest_114 : decode cX5_digest 114 = .ok (.lstore_n 2, 1) := by decide +kernel
theorem dX5_digest_115 : decode cX5_digest 115 = .ok (.aload_n 1, 1) := by decide +kernel
theorem dX5_digest_116 : decode cX5_digest 116 = .ok (.astore 4, 2) := by decide +kernel
theorem dX5_digest_118 : decode cX5_digest 118 = .ok (.aload 4, 2) := by decide +kernel
theorem dX5_digest_120 : decode cX5_digest 120 = .ok (.arraylength, 1) := by decide +kernel
theorem dX5_digest_121 : decode cX5_digest 121 = .ok (.istore 5, 2) := by decide +kernel
theorem dX5_digest_123 : decode cX5_digest 123 = .ok (.iconst 0, 1) := by decide +kernel
theorem dX5_digest_124 : decode cX5_digest 124 = .ok (.istore 6, 2) := by decide +kernel
theorem dX5_digest_126 : decode cX5_digest 126 = .ok (.iload 6, 2) := by decide +kernel
theorem dX5_digest_128 : decode cX5_digest 128 = .ok (.iload 5, 2) := by decide +kernel
theorem dX5_digest_130 : decode cX5_digest 130 = .ok (.if_icmp .ge 26, 3) := by decide +kernel
theorem dX5_digest_133 : decode cX5_digest 133 = .ok (.aload 4, 2) := by decide +kernel
theorem dX5_digest_135 : decode cX5_digest 135 = .ok (.iload 6, 2) := by decide +kernel
theorem dX5_digest_137 : decode cX5_digest 137 = .ok (.iaload, 1) := by decide +kernel
theorem dX5_digest_138 : decode cX5_digest 138 = .ok (.istore 7, 2) := by decide +kernel
theorem dX5_digest_140 : decode cX5_digest 140 = .ok (.lload_n 2, 1) := by decide +kernel
theorem dX5_digest_141 : decode cX5_digest 141 = .ok (.ldc2_w 202, 3) := by decide +kernel
theorem dX5_digest_144 : decode cX5_digest 144 = .ok (.lmul, 1) := by decide +kernel
theorem dX5_digest_145 : decode cX5_digest 145 = .ok (.iload 7, 2) := by decide +kernel
theorem dX5_digest_147 : decode cX5_digest 147 = .ok (.i2l, 1) := by decide +kernel
theorem dX5_digest_148 : decode cX5_digest 148 = .ok (.ladd, 1) := by decide +kernel
theorem dX5_digest_149 : decode cX5_digest 149 = .ok (.lstore_n 2, 1) := by decide +kernel
theorem dX5_digest_150 : decode cX5_digest 150 = .ok (.iinc 6 1, 3) := by decide +kernel
theorem dX5_digest_153 : decode cX5_digest 153 = .ok (.goto (-27), 3) := by decide +kernel
theorem dX5_digest_156 : decode cX5_digest 156 = .ok (.iconst 0, 1) := by decide +kernel
theorem dX5_digest_157 : decode cX5_digest 157 = .ok (.istore 4, 2) := by decide +kernel
theorem dX5_digest_159 : decode cX5_digest 159 = .ok (.iload 4, 2) := by decide +kernel
theorem dX5_digest_161 : decode cX5_digest 161 = .ok (.aload_n 0, 1) := by decide +kernel
theorem dX5_digest_162 : decode cX5_digest 162 = .ok (.getfield 46, 3) := by decide +kernel
theorem dX5_digest_165 : decode cX5_digest 165 = .ok (.if_icmp .ge 157, 3) := by decide +kernel
theorem dX5_digest_168 : decode cX5_digest 168 = .ok (.lload_n 2, 1) := by decide +kernel
theorem dX5_digest_169 : decode cX5_digest 169 = .ok (.ldc2_w 202, 3) := by decide +kernel
theorem dX5_digest_172 : decode cX5_digest 172 = .ok (.lmul, 1) := by decide +kernel
theorem dX5_digest_173 : decode cX5_digest 173 = .ok (.aload_n 0, 1) := by decide +kernel
theorem dX5_digest_174 : decode cX5_digest 174 = .ok (.getfield 26, 3) := by decide +kernel
theorem dX5_digest_177 : decode cX5_digest 177 = .ok (.iload 4, 2) := by decide +kernel
theorem dX5_digest_179 : decode cX5_digest 179 = .ok (.baload, 1) := by decide +kernel
theorem dX5_digest_180 : decode cX5_digest 180 = .ok (.invokestatic 204, 3) := by decide +kernel
theorem dX5_digest_183 : decode cX5_digest 183 = .ok (.i2l, 1) := by decide +kernel
theorem dX5_digest_184 : decode cX5_digest 184 = .ok (.ladd, 1) := by decide +kernel
theorem dX5_digest_185 : decode cX5_digest 185 = .ok (.ldc2_w 202, 3) := by decide +kernel
theorem dX5_digest_188 : decode cX5_digest 188 = .ok (.lmul, 1) := by decide +kernel
theorem dX5_digest_189 : decode cX5_digest 189 = .ok (.aload_n 0, 1) := by decide +kernel
theorem dX5_digest_190 : decode cX5_digest 190 = .ok (.getfield 9, 3) := by decide +kernel
theorem dX5_digest_193 : decode cX5_digest 193 = .ok (.iload 4, 2) := by decide +kernel
theorem dX5_digest_195 : decode cX5_digest 195 = .ok (.iaload, 1) := by decide +kernel
theorem dX5_digest_196 : decode cX5_digest 196 = .ok (.i2l, 1) := by decide +kernel
theorem dX5_digest_197 : decode cX5_digest 197 = .ok (.ladd, 1) := by decide +kernel
theorem dX5_digest_198 : decode cX5_digest 198 = .ok (.lstore_n 2, 1) := by decide +kernel
theorem dX5_digest_199 : decode cX5_digest 199 = .ok (.iconst 4, 1) := by decide +kernel
theorem dX5_digest_200 : decode cX5_digest 200 = .ok (.iload 4, 2) := by decide +kernel
theorem dX5_digest_202 : decode cX5_digest 202 = .ok (.imul, 1) := by decide +kernel
theorem dX5_digest_203 : decode cX5_digest 203 = .ok (.istore 5, 2) := by decide +kernel
theorem dX5_digest_205 : decode cX5_digest 205 = .ok (.iload 5, 2) := by decide +kernel
theorem dX5_digest_207 : decode cX5_digest 207 = .ok (.iconst 4, 1) := by decide +kernel
theorem dX5_digest_208 : decode cX5_digest 208 = .ok (.iload 4, 2) := by decide +kernel
theorem dX5_digest_210 : decode cX5_digest 210 = .ok (.imul, 1) := by decide +kernel
theorem dX5_digest_211 : decode cX5_digest 211 = .ok (.aload_n 0, 1) := by decide +kernel
theorem dX5_digest_212 : decode cX5_digest 212 = .ok (.getfield 9, 3) := by decide +kernel
theorem dX5_digest_215 : decode cX5_digest 215 = .ok (.iload 4, 2) := by decide +kernel
theorem dX5_digest_217 : decode cX5_digest 217 = .ok (.iaload, 1) := by decide +kernel
theorem dX5_digest_218 : decode cX5_digest 218 = .ok (.iadd, 1) := by decide +kernel
theorem dX5_digest_219 : decode cX5_digest 219 = .ok (.if_icmp .ge 97, 3) := by decide +kernel
theorem dX5_digest_222 : decode cX5_digest 222 = .ok (.lload_n 2, 1) := by decide +kernel
theorem dX5_digest_223 : decode cX5_digest 223 = .ok (.ldc2_w 202, 3) := by decide +kernel
theorem dX5_digest_226 : decode cX5_digest 226 = .ok (.lmul, 1) := by decide +kernel
theorem dX5_digest_227 : decode cX5_digest 227 = .ok (.aload_n 0, 1) := by decide +kernel
theorem dX5_digest_228 : decode cX5_digest 228 = .ok (.getfield 16, 3) := by decide +kernel
theorem dX5_digest_231 : decode cX5_digest 231 = .ok (.iload 5, 2) := by decide +kernel
theorem dX5_digest_233 : decode cX5_digest 233 = .ok (.iaload, 1) := by decide +kernel
theorem dX5_digest_234 : decode cX5_digest 234 = .ok (.i2l, 1) := by decide +kernel
theorem dX5_digest_235 : decode cX5_digest 235 = .ok (.ladd, 1) := by decide +kernel
theorem dX5_digest_236 : decode cX5_digest 236 = .ok (.ldc2_w 202, 3) := by decide +kernel
theorem dX5_digest_239 : decode cX5_digest 239 = .ok (.lmul, 1) := by decide +kernel
theorem dX5_digest_240 : decode cX5_digest 240 = .ok (.aload_n 0, 1) := by decide +kernel
theorem dX5_digest_241 : decode cX5_digest 241 = .ok (.getfield 19, 3) := by decide +kernel
theorem dX5_digest_244 : decode cX5_digest 244 = .ok (.aload_n 0, 1) := by decide +kernel
theorem dX5_digest_245 : decode cX5_digest 245 = .ok (.getfield 13, 3) := by decide +kernel
theorem dX5_digest_248 : decode cX5_digest 248 = .ok (.iload 5, 2) := by decide +kernel
theorem dX5_digest_250 : decode cX5_digest 250 = .ok (.iaload, 1) := by decide +kernel
theorem dX5_digest_251 : decode cX5_digest 251 = .ok (.iaload, 1) := by decide +kernel
theorem dX5_digest_252 : decode cX5_digest 252 = .ok (.i2l, 1) := by decide +kernel
theorem dX5_digest_253 : decode cX5_digest 253 = .ok (.ladd, 1) := by decide +kernel
theorem dX5_digest_254 : decode cX5_digest 254 = .ok (.lstore_n 2, 1) := by decide +kernel
theorem dX5_digest_255 : decode cX5_digest 255 = .ok (.lload_n 2, 1) := by decide +kernel
theorem dX5_digest_256 : decode cX5_digest 256 = .ok (.ldc2_w 202, 3) := by decide +kernel
theorem dX5_digest_259 : decode cX5_digest 259 = .ok (.lmul, 1) := by decide +kernel
theorem dX5_digest_260 : decode cX5_digest 260 = .ok (.aload_n 0, 1) := by decide +kernel
theorem dX5_digest_261 : decode cX5_digest 261 = .ok (.getfield 22, 3) := by decide +kernel
theorem dX5_digest_264 : decode cX5_digest 264 = .ok (.aload_n 0, 1) := by decide +kernel
theorem dX5_digest_265 : decode cX5_digest 265 = .ok (.getfield 13, 3) := by decide +kernel
theorem dX5_digest_268 : decode cX5_digest 268 = .ok (.iload 5, 2) := by decide +kernel
theorem dX5_digest_270 : decode cX5_digest 270 = .ok (.iaload, 1) := by decide +kernel
theorem dX5_digest_271 : decode cX5_digest 271 = .ok (.baload, 1) := by decide +kernel
theorem dX5_digest_272 : decode cX5_digest 272 = .ok (.ifCond .ne 7, 3) := by decide +kernel
theorem dX5_digest_275 : decode cX5_digest 275 = .ok (.iconst 1, 1) := by decide +kernel
theorem dX5_digest_276 : decode cX5_digest 276 = .ok (.goto 4, 3) := by decide +kernel
theorem dX5_digest_279 : decode cX5_digest 279 = .ok (.iconst 0, 1) := by decide +kernel
theorem dX5_digest_280 : decode cX5_digest 280 = .ok (.invokestatic 204, 3) := by decide +kernel
theorem dX5_digest_283 : decode cX5_digest 283 = .ok (.i2l, 1) := by decide +kernel
theorem dX5_digest_284 : decode cX5_digest 284 = .ok (.ladd, 1) := by decide +kernel
theorem dX5_digest_285 : decode cX5_digest 285 = .ok (.ldc2_w 202, 3) := by decide +kernel
theorem dX5_digest_288 : decode cX5_digest 288 = .ok (.lmul, 1) := by decide +kernel
theorem dX5_digest_289 : decode cX5_digest 289 = .ok (.aload_n 0, 1) := by decide +kernel
theorem dX5_digest_290 : decode cX5_digest 290 = .ok (.getfield 35, 3) := by decide +kernel
theorem dX5_digest_293 : decode cX5_digest 293 = .ok (.getfield 67, 3) := by decide +kernel
theorem dX5_digest_296 : decode cX5_digest 296 = .ok (.aload_n 0, 1) := by decide +kernel
theorem dX5_digest_297 : decode cX5_digest 297 = .ok (.getfield 13, 3) := by decide +kernel
theorem dX5_digest_300 : decode cX5_digest 300 = .ok (.iload 5, 2) := by decide +kernel
theorem dX5_digest_302 : decode cX5_digest 302 = .ok (.iaload, 1) := by decide +kernel
theorem dX5_digest_303 : decode cX5_digest 303 = .ok (.baload, 1) := by decide +kernel
theorem dX5_digest_304 : decode cX5_digest 304 = .ok (.invokestatic 204, 3) := by decide +kernel
theorem dX5_digest_307 : decode cX5_digest 307 = .ok (.i2l, 1) := by decide +kernel
theorem dX5_digest_308 : decode cX5_digest 308 = .ok (.ladd, 1) := by decide +kernel
theorem dX5_digest_309 : decode cX5_digest 309 = .ok (.lstore_n 2, 1) := by decide +kernel
theorem dX5_digest_310 : decode cX5_digest 310 = .ok (.iinc 5 1, 3) := by decide +kernel
theorem dX5_digest_313 : decode cX5_digest 313 = .ok (.goto (-108), 3) := by decide +kernel
theorem dX5_digest_316 : decode cX5_digest 316 = .ok (.iinc 4 1, 3) := by decide +kernel
theorem dX5_digest_319 : decode cX5_digest 319 = .ok (.goto (-160), 3) := by decide +kernel
theorem dX5_digest_322 : decode cX5_digest 322 = .ok (.iconst 0, 1) := by decide +kernel
theorem dX5_digest_323 : decode cX5_digest 323 = .ok (.istore 4, 2) := by decide +kernel
theorem dX5_digest_325 : decode cX5_digest 325 = .ok (.iload 4, 2) := by decide +kernel
theorem dX5_digest_327 : decode cX5_digest 327 = .ok (.aload_n 0, 1) := by decide +kernel
theorem dX5_digest_328 : decode cX5_digest 328 = .ok (.getfield 46, 3) := by decide +kernel
theorem dX5_digest_331 : decode cX5_digest 331 = .ok (.if_icmp .ge 69, 3) := by decide +kernel
theorem dX5_digest_334 : decode cX5_digest 334 = .ok (.iconst 0, 1) := by decide +kernel
theorem dX5_digest_335 : decode cX5_digest 335 = .ok (.istore 5, 2) := by decide +kernel
theorem dX5_digest_337 : decode cX5_digest 337 = .ok (.iload 5, 2) := by decide +kernel
theorem dX5_digest_339 : decode cX5_digest 339 = .ok (.aload_n 0, 1) := by decide +kernel
theorem dX5_digest_340 : decode cX5_digest 340 = .ok (.getfield 46, 3) := by decide +kernel
theorem dX5_digest_343 : decode cX5_digest 343 = .ok (.if_icmp .ge 51, 3) := by decide +kernel
theorem dX5_digest_346 : decode cX5_digest 346 = .ok (.lload_n 2, 1) := by decide +kernel
theorem dX5_digest_347 : decode cX5_digest 347 = .ok (.ldc2_w 202, 3) := by decide +kernel
theorem dX5_digest_350 : decode cX5_digest 350 = .ok (.lmul, 1) := by decide +kernel
theorem dX5_digest_351 : decode cX5_digest 351 = .ok (.aload_n 0, 1) := by decide +kernel
theorem dX5_digest_352 : decode cX5_digest 352 = .ok (.getfield 35, 3) := by decide +kernel
theorem dX5_digest_355 : decode cX5_digest 355 = .ok (.getfield 175, 3) := by decide +kernel
theorem dX5_digest_358 : decode cX5_digest 358 = .ok (.bipush 10, 2) := by decide +kernel
theorem dX5_digest_360 : decode cX5_digest 360 = .ok (.iload 4, 2) := by decide +kernel
theorem dX5_digest_362 : decode cX5_digest 362 = .ok (.imul, 1) := by decide +kernel
theorem dX5_digest_363 : decode cX5_digest 363 = .ok (.iload 5, 2) := by decide +kernel
theorem dX5_digest_365 : decode cX5_digest 365 = .ok (.iadd, 1) := by decide +kernel
theorem dX5_digest_366 : decode cX5_digest 366 = .ok (.iaload, 1) := by decide +kernel
theorem dX5_digest_367 : decode cX5_digest 367 = .ok (.i2l, 1) := by decide +kernel
theorem dX5_digest_368 : decode cX5_digest 368 = .ok (.ladd, 1) := by decide +kernel
theorem dX5_digest_369 : decode cX5_digest 369 = .ok (.ldc2_w 202, 3) := by decide +kernel
theorem dX5_digest_372 : decode cX5_digest 372 = .ok (.lmul, 1) := by decide +kernel
theorem dX5_digest_373 : decode cX5_digest 373 = .ok (.aload_n 0, 1) := by decide +kernel
theorem dX5_digest_374 : decode cX5_digest 374 = .ok (.bipush 10, 2) := by decide +kernel
theorem dX5_digest_376 : decode cX5_digest 376 = .ok (.iload 4, 2) := by decide +kernel
theorem dX5_digest_378 : decode cX5_digest 378 = .ok (.imul, 1) := by decide +kernel
theorem dX5_digest_379 : decode cX5_digest 379 = .ok (.iload 5, 2) := by decide +kernel
theorem dX5_digest_381 : decode cX5_digest 381 = .ok (.iadd, 1) := by decide +kernel
theorem dX5_digest_382 : decode cX5_digest 382 = .ok (.invokevirtual 185, 3) := by decide +kernel
theorem dX5_digest_385 : decode cX5_digest 385 = .ok (.i2l, 1) := by decide +kernel
theorem dX5_digest_386 : decode cX5_digest 386 = .ok (.ladd, 1) := by decide +kernel
theorem dX5_digest_387 : decode cX5_digest 387 = .ok (.lstore_n 2, 1) := by decide +kernel
theorem dX5_digest_388 : decode cX5_digest 388 = .ok (.iinc 5 1, 3) := by decide +kernel
theorem dX5_digest_391 : decode cX5_digest 391 = .ok (.goto (-54), 3) := by decide +kernel
theorem dX5_digest_394 : decode cX5_digest 394 = .ok (.iinc 4 1, 3) := by decide +kernel
theorem dX5_digest_397 : decode cX5_digest 397 = .ok (.goto (-72), 3) := by decide +kernel
theorem dX5_digest_400 : decode cX5_digest 400 = .ok (.lload_n 2, 1) := by decide +kernel
theorem dX5_digest_401 : decode cX5_digest 401 = .ok (.lreturn, 1) := by decide +kernel
theorem dJ9_max_7cf53_0 : decode cJ9_max_7cf53 0 = .ok (.iload_n 0, 1) := by decide +kernel
theorem dJ9_max_7cf53_1 : decode cJ9_max_7cf53 1 = .ok (.iload_n 1, 1) := by decide +kernel
theorem dJ9_max_7cf53_2 : decode cJ9_max_7cf53 2 = .ok (.if_icmp .lt 7, 3) := by decide +kernel
theorem dJ9_max_7cf53_5 : decode cJ9_max_7cf53 5 = .ok (.iload_n 0, 1) := by decide +kernel
theorem dJ9_max_7cf53_6 : decode cJ9_max_7cf53 6 = .ok (.goto 4, 3) := by decide +kernel
theorem dJ9_max_7cf53_9 : decode cJ9_max_7cf53 9 = .ok (.iload_n 1, 1) := by decide +kernel
theorem dJ9_max_7cf53_10 : decode cJ9_max_7cf53 10 = .ok (.ireturn, 1) := by decide +kernel
theorem dJ9_min_7cf53_0 : decode cJ9_min_7cf53 0 = .ok (.iload_n 0, 1) := by decide +kernel
theorem dJ9_min_7cf53_1 : decode cJ9_min_7cf53 1 = .ok (.iload_n 1, 1) := by decide +kernel
theorem dJ9_min_7cf53_2 : decode cJ9_min_7cf53 2 = .ok (.if_icmp .gt 7, 3) := by decide +kernel
theorem dJ9_min_7cf53_5 : decode cJ9_min_7cf53 5 = .ok (.iload_n 0, 1) := by decide +kernel
theorem dJ9_min_7cf53_6 : decode cJ9_min_7cf53 6 = .ok (.goto 4, 3) := by decide +kernel
theorem dJ9_min_7cf53_9 : decode cJ9_min_7cf53 9 = .ok (.iload_n 1, 1) := by decide +kernel
theorem dJ9_min_7cf53_10 : decode cJ9_min_7cf53 10 = .ok (.ireturn, 1) := by decide +kernel
theorem dJ7_fill_53178_0 : decode cJ7_fill_53178 0 = .ok (.iconst 0, 1) := by decide +kernel
theorem dJ7_fill_53178_1 : decode cJ7_fill_53178 1 = .ok (.istore_n 2, 1) := by decide +kernel
theorem dJ7_fill_53178_2 : decode cJ7_fill_53178 2 = .ok (.aload_n 0, 1) := by decide +kernel
theorem dJ7_fill_53178_3 : decode cJ7_fill_53178 3 = .ok (.arraylength, 1) := by decide +kernel
theorem dJ7_fill_53178_4 : decode cJ7_fill_53178 4 = .ok (.istore_n 3, 1) := by decide +kernel
theorem dJ7_fill_53178_5 : decode cJ7_fill_53178 5 = .ok (.iload_n 2, 1) := by decide +kernel
theorem dJ7_fill_53178_6 : decode cJ7_fill_53178 6 = .ok (.iload_n 3, 1) := by decide +kernel
theorem dJ7_fill_53178_7 : decode cJ7_fill_53178 7 = .ok (.if_icmp .ge 13, 3) := by decide +kernel
theorem dJ7_fill_53178_10 : decode cJ7_fill_53178 10 = .ok (.aload_n 0, 1) := by decide +kernel
theorem dJ7_fill_53178_11 : decode cJ7_fill_53178 11 = .ok (.iload_n 2, 1) := by decide +kernel
theorem dJ7_fill_53178_12 : decode cJ7_fill_53178 12 = .ok (.iload_n 1, 1) := by decide +kernel
theorem dJ7_fill_53178_13 : decode cJ7_fill_53178 13 = .ok (.iastore, 1) := by decide +kernel
theorem dJ7_fill_53178_14 : decode cJ7_fill_53178 14 = .ok (.iinc 2 1, 3) := by decide +kernel
theorem dJ7_fill_53178_17 : decode cJ7_fill_53178 17 = .ok (.goto (-12), 3) := by decide +kernel
theorem dJ7_fill_53178_20 : decode cJ7_fill_53178 20 = .ok (.return_, 1) := by decide +kernel
set_option maxRecDepth 20000 in
theorem ggL_addPlace_X3_addPlace : GoodIn wsL_addPlace wsX3_addPlace := goodIn_ca (goodIn_r _ [6, 7, 8, 9, 10, 11, 12, 13, 14, 15, 16, 17, 18, 19, 20] (by decide +kernel) (by decide +kernel)) (goodIn_sub (fun _ h => List.mem_cons_of_mem _ (List.mem_append_right _ h)) (by decide +kernel))
set_option maxRecDepth 20000 in
theorem gL_addPlace_X3_addPlace : GoodIn wsL_addPlace (wsV RL 7 RX3 yX3_addPlace wsX3_addPlace) := goodIn_app (goodIn_of _ (by decide +kernel)) ggL_addPlace_X3_addPlace
