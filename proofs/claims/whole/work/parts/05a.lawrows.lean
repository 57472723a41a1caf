theorem dL_addPlace_0 : decode cL_addPlace 0 = .ok (.aload_n 1, 1) := by decide +kernel
theorem dL_addPlace_1 : decode cL_addPlace 1 = .ok (.iconst 0, 1) := by decide +kernel
theorem dL_addPlace_2 : decode cL_addPlace 2 = .ok (.aload_n 0, 1) := by decide +kernel
theorem dL_addPlace_3 : decode cL_addPlace 3 = .ok (.invokevirtual 7, 3) := by decide +kernel
theorem dL_addPlace_6 : decode cL_addPlace 6 = .ok (.i2l, 1) := by decide +kernel
theorem dL_addPlace_7 : decode cL_addPlace 7 = .ok (.lastore, 1) := by decide +kernel
theorem dL_addPlace_8 : decode cL_addPlace 8 = .ok (.goto 6, 3) := by decide +kernel
theorem dL_addPlace_11 : decode cL_addPlace 11 = .ok (.astore_n 2, 1) := by decide +kernel
theorem dL_addPlace_12 : decode cL_addPlace 12 = .ok (.iconst 1, 1) := by decide +kernel
theorem dL_addPlace_13 : decode cL_addPlace 13 = .ok (.ireturn, 1) := by decide +kernel
theorem dL_addPlace_14 : decode cL_addPlace 14 = .ok (.iconst 0, 1) := by decide +kernel
theorem dL_addPlace_15 : decode cL_addPlace 15 = .ok (.ireturn, 1) := by decide +kernel
theorem dL_addRoad_0 : decode cL_addRoad 0 = .ok (.aload 4, 2) := by decide +kernel
theorem dL_addRoad_2 : decode cL_addRoad 2 = .ok (.iconst 0, 1) := by decide +kernel
theorem dL_addRoad_3 : decode cL_addRoad 3 = .ok (.aload_n 0, 1) := by decide +kernel
theorem dL_addRoad_4 : decode cL_addRoad 4 = .ok (.iload_n 1, 1) := by decide +kernel
theorem dL_addRoad_5 : decode cL_addRoad 5 = .ok (.iload_n 2, 1) := by decide +kernel
theorem dL_addRoad_6 : decode cL_addRoad 6 = .ok (.iload_n 3, 1) := by decide +kernel
theorem dL_addRoad_7 : decode cL_addRoad 7 = .ok (.invokevirtual 15, 3) := by decide +kernel
theorem dL_addRoad_10 : decode cL_addRoad 10 = .ok (.i2l, 1) := by decide +kernel
theorem dL_addRoad_11 : decode cL_addRoad 11 = .ok (.lastore, 1) := by decide +kernel
theorem dL_addRoad_12 : decode cL_addRoad 12 = .ok (.goto 15, 3) := by decide +kernel
theorem dL_addRoad_15 : decode cL_addRoad 15 = .ok (.astore 5, 2) := by decide +kernel
theorem dL_addRoad_17 : decode cL_addRoad 17 = .ok (.iconst 1, 1) := by decide +kernel
theorem dL_addRoad_18 : decode cL_addRoad 18 = .ok (.ireturn, 1) := by decide +kernel
theorem dL_addRoad_19 : decode cL_addRoad 19 = .ok (.astore 5, 2) := by decide +kernel
theorem dL_addRoad_21 : decode cL_addRoad 21 = .ok (.iconst 2, 1) := by decide +kernel
theorem dL_addRoad_22 : decode cL_addRoad 22 = .ok (.ireturn, 1) := by decide +kernel
theorem dL_addRoad_23 : decode cL_addRoad 23 = .ok (.astore 5, 2) := by decide +kernel
theorem dL_addRoad_25 : decode cL_addRoad 25 = .ok (.iconst 3, 1) := by decide +kernel
theorem dL_addRoad_26 : decode cL_addRoad 26 = .ok (.ireturn, 1) := by decide +kernel
theorem dL_addRoad_27 : decode cL_addRoad 27 = .ok (.iconst 0, 1) := by decide +kernel
theorem dL_addRoad_28 : decode cL_addRoad 28 = .ok (.ireturn, 1) := by decide +kernel
theorem dL_turnRoad_0 : decode cL_turnRoad 0 = .ok (.aload_n 3, 1) := by decide +kernel
theorem dL_turnRoad_1 : decode cL_turnRoad 1 = .ok (.iconst 0, 1) := by decide +kernel
theorem dL_turnRoad_2 : decode cL_turnRoad 2 = .ok (.aload_n 0, 1) := by decide +kernel
theorem dL_turnRoad_3 : decode cL_turnRoad 3 = .ok (.iload_n 1, 1) := by decide +kernel
theorem dL_turnRoad_4 : decode cL_turnRoad 4 = .ok (.iload_n 2, 1) := by decide +kernel
theorem dL_turnRoad_5 : decode cL_turnRoad 5 = .ok (.invokevirtual 23, 3) := by decide +kernel
theorem dL_turnRoad_8 : decode cL_turnRoad 8 = .ok (.ifCond .eq 7, 3) := by decide +kernel
theorem dL_turnRoad_11 : decode cL_turnRoad 11 = .ok (.lconst 1, 1) := by decide +kernel
theorem dL_turnRoad_12 : decode cL_turnRoad 12 = .ok (.goto 4, 3) := by decide +kernel
theorem dL_turnRoad_15 : decode cL_turnRoad 15 = .ok (.lconst 0, 1) := by decide +kernel
theorem dL_turnRoad_16 : decode cL_turnRoad 16 = .ok (.lastore, 1) := by decide +kernel
theorem dL_turnRoad_17 : decode cL_turnRoad 17 = .ok (.goto 7, 3) := by decide +kernel
theorem dL_turnRoad_20 : decode cL_turnRoad 20 = .ok (.astore 4, 2) := by decide +kernel
theorem dL_turnRoad_22 : decode cL_turnRoad 22 = .ok (.iconst 1, 1) := by decide +kernel
theorem dL_turnRoad_23 : decode cL_turnRoad 23 = .ok (.ireturn, 1) := by decide +kernel
theorem dL_turnRoad_24 : decode cL_turnRoad 24 = .ok (.iconst 0, 1) := by decide +kernel
theorem dL_turnRoad_25 : decode cL_turnRoad 25 = .ok (.ireturn, 1) := by decide +kernel
theorem dL_turnShepherd_0 : decode cL_turnShepherd 0 = .ok (.aload_n 2, 1) := by decide +kernel
theorem dL_turnShepherd_1 : decode cL_turnShepherd 1 = .ok (.iconst 0, 1) := by decide +kernel
theorem dL_turnShepherd_2 : decode cL_turnShepherd 2 = .ok (.aload_n 0, 1) := by decide +kernel
theorem dL_turnShepherd_3 : decode cL_turnShepherd 3 = .ok (.iload_n 1, 1) := by decide +kernel
theorem dL_turnShepherd_4 : decode cL_turnShepherd 4 = .ok (.invokevirtual 27, 3) := by decide +kernel
theorem dL_turnShepherd_7 : decode cL_turnShepherd 7 = .ok (.ifCond .eq 7, 3) := by decide +kernel
theorem dL_turnShepherd_10 : decode cL_turnShepherd 10 = .ok (.lconst 1, 1) := by decide +kernel
theorem dL_turnShepherd_11 : decode cL_turnShepherd 11 = .ok (.goto 4, 3) := by decide +kernel
theorem dL_turnShepherd_14 : decode cL_turnShepherd 14 = .ok (.lconst 0, 1) := by decide +kernel
theorem dL_turnShepherd_15 : decode cL_turnShepherd 15 = .ok (.lastore, 1) := by decide +kernel
theorem dL_turnShepherd_16 : decode cL_turnShepherd 16 = .ok (.goto 6, 3) := by decide +kernel
theorem dL_turnShepherd_19 : decode cL_turnShepherd 19 = .ok (.astore_n 3, 1) := by decide +kernel
theorem dL_turnShepherd_20 : decode cL_turnShepherd 20 = .ok (.iconst 1, 1) := by decide +kernel
theorem dL_turnShepherd_21 : decode cL_turnShepherd 21 = .ok (.ireturn, 1) := by decide +kernel
theorem dL_turnShepherd_22 : decode cL_turnShepherd 22 = .ok (.iconst 0, 1) := by decide +kernel
theorem dL_turnShepherd_23 : decode cL_turnShepherd 23 = .ok (.ireturn, 1) := by decide +kernel
theorem dL_pay_0 : decode cL_pay 0 = .ok (.aload_n 2, 1) := by decide +kernel
theorem dL_pay_1 : decode cL_pay 1 = .ok (.iconst 0, 1) := by decide +kernel
theorem dL_pay_2 : decode cL_pay 2 = .ok (.aload_n 0, 1) := by decide +kernel
theorem dL_pay_3 : decode cL_pay 3 = .ok (.iload_n 1, 1) := by decide +kernel
theorem dL_pay_4 : decode cL_pay 4 = .ok (.invokevirtual 31, 3) := by decide +kernel
theorem dL_pay_7 : decode cL_pay 7 = .ok (.i2l, 1) := by decide +kernel
theorem dL_pay_8 : decode cL_pay 8 = .ok (.lastore, 1) := by decide +kernel
theorem dL_pay_9 : decode cL_pay 9 = .ok (.goto 6, 3) := by decide +kernel
theorem dL_pay_12 : decode cL_pay 12 = .ok (.astore_n 3, 1) := by decide +kernel
theorem dL_pay_13 : decode cL_pay 13 = .ok (.iconst 1, 1) := by decide +kernel
theorem dL_pay_14 : decode cL_pay 14 = .ok (.ireturn, 1) := by decide +kernel
theorem dL_pay_15 : decode cL_pay 15 = .ok (.iconst 0, 1) := by decide +kernel
theorem dL_pay_16 : decode cL_pay 16 = .ok (.ireturn, 1) := by decide +kernel
theorem dL_beginErrand_0 : decode cL_beginErrand 0 = .ok (.aload_n 2, 1) := by decide +kernel
theorem dL_beginErrand_1 : decode cL_beginErrand 1 = .ok (.iconst 0, 1) := by decide +kernel
theorem dL_beginErrand_2 : decode cL_beginErrand 2 = .ok (.aload_n 0, 1) := by decide +kernel
theorem dL_beginErrand_3 : decode cL_beginErrand 3 = .ok (.iload_n 1, 1) := by decide +kernel
theorem dL_beginErrand_4 : decode cL_beginErrand 4 = .ok (.invokevirtual 35, 3) := by decide +kernel
theorem dL_beginErrand_7 : decode cL_beginErrand 7 = .ok (.i2l, 1) := by decide +kernel
theorem dL_beginErrand_8 : decode cL_beginErrand 8 = .ok (.lastore, 1) := by decide +kernel
theorem dL_beginErrand_9 : decode cL_beginErrand 9 = .ok (.goto 9, 3) := by decide +kernel
theorem dL_beginErrand_12 : decode cL_beginErrand 12 = .ok (.astore_n 3, 1) := by decide +kernel
theorem dL_beginErrand_13 : decode cL_beginErrand 13 = .ok (.iconst 1, 1) := by decide +kernel
theorem dL_beginErrand_14 : decode cL_beginErrand 14 = .ok (.ireturn, 1) := by decide +kernel
theorem dL_beginErrand_15 : decode cL_beginErrand 15 = .ok (.astore_n 3, 1) := by decide +kernel
theorem dL_beginErrand_16 : decode cL_beginErrand 16 = .ok (.iconst 2, 1) := by decide +kernel
theorem dL_beginErrand_17 : decode cL_beginErrand 17 = .ok (.ireturn, 1) := by decide +kernel
theorem dL_beginErrand_18 : decode cL_beginErrand 18 = .ok (.iconst 0, 1) := by decide +kernel
theorem dL_beginErrand_19 : decode cL_beginErrand 19 = .ok (.ireturn, 1) := by decide +kernel
theorem dL_goOn_0 : decode cL_goOn 0 = .ok (.aload_n 2, 1) := by decide +kernel
theorem dL_goOn_1 : decode cL_goOn 1 = .ok (.iconst 0, 1) := by decide +kernel
theorem dL_goOn_2 : decode cL_goOn 2 = .ok (.aload_n 0, 1) := by decide +kernel
theorem dL_goOn_3 : decode cL_goOn 3 = .ok (.iload_n 1, 1) := by decide +kernel
theorem dL_goOn_4 : decode cL_goOn 4 = .ok (.invokevirtual 38, 3) := by decide +kernel
theorem dL_goOn_7 : decode cL_goOn 7 = .ok (.i2l, 1) := by decide +kernel
theorem dL_goOn_8 : decode cL_goOn 8 = .ok (.lastore, 1) := by decide +kernel
theorem dL_goOn_9 : decode cL_goOn 9 = .ok (.goto 9, 3) := by decide +kernel
theorem dL_goOn_12 : decode cL_goOn 12 = .ok (.astore_n 3, 1) := by decide +kernel
theorem dL_goOn_13 : decode cL_goOn 13 = .ok (.iconst 1, 1) := by decide +kernel
theorem dL_goOn_14 : decode cL_goOn 14 = .ok (.ireturn, 1) := by decide +kernel
theorem dL_goOn_15 : decode cL_goOn 15 = .ok (.astore_n 3, 1) := by decide +kernel
theorem dL_goOn_16 : decode cL_goOn 16 = .ok (.iconst 2, 1) := by decide +kernel
theorem dL_goOn_17 : decode cL_goOn 17 = .ok (.ireturn, 1) := by decide +kernel
theorem dL_goOn_18 : decode cL_goOn 18 = .ok (.iconst 0, 1) := by decide +kernel
theorem dL_goOn_19 : decode cL_goOn 19 = .ok (.ireturn, 1) := by decide +kernel
theorem dL_giveUp_0 : decode cL_giveUp 0 = .ok (.aload_n 1, 1) := by decide +kernel
theorem dL_giveUp_1 : decode cL_giveUp 1 = .ok (.iconst 0, 1) := by decide +kernel
theorem dL_giveUp_2 : decode cL_giveUp 2 = .ok (.aload_n 0, 1) := by decide +kernel
theorem dL_giveUp_3 : decode cL_giveUp 3 = .ok (.invokevirtual 41, 3) := by decide +kernel
theorem dL_giveUp_6 : decode cL_giveUp 6 = .ok (.i2l, 1) := by decide +kernel
theorem dL_giveUp_7 : decode cL_giveUp 7 = .ok (.lastore, 1) := by decide +kernel
theorem dL_giveUp_8 : decode cL_giveUp 8 = .ok (.goto 6, 3) := by decide +kernel
theorem dL_giveUp_11 : decode cL_giveUp 11 = .ok (.astore_n 2, 1) := by decide +kernel
theorem dL_giveUp_12 : decode cL_giveUp 12 = .ok (.iconst 1, 1) := by decide +kernel
theorem dL_giveUp_13 : decode cL_giveUp 13 = .ok (.ireturn, 1) := by decide +kernel
theorem dL_giveUp_14 : decode cL_giveUp 14 = .ok (.iconst 0, 1) := by decide +kernel
theorem dL_giveUp_15 : decode cL_giveUp 15 = .ok (.ireturn, 1) := by decide +kernel
theorem dL_sleep_0 : decode cL_sleep 0 = .ok (.aload_n 2, 1) := by decide +kernel
theorem dL_sleep_1 : decode cL_sleep 1 = .ok (.iconst 0, 1) := by decide +kernel
theorem dL_sleep_2 : decode cL_sleep 2 = .ok (.aload_n 0, 1) := by decide +kernel
theorem dL_sleep_3 : decode cL_sleep 3 = .ok (.iload_n 1, 1) := by decide +kernel
theorem dL_sleep_4 : decode cL_sleep 4 = .ok (.invokevirtual 44, 3) := by decide +kernel
theorem dL_sleep_7 : decode cL_sleep 7 = .ok (.i2l, 1) := by decide +kernel
theorem dL_sleep_8 : decode cL_sleep 8 = .ok (.lastore, 1) := by decide +kernel
theorem dL_sleep_9 : decode cL_sleep 9 = .ok (.goto 6, 3) := by decide +kernel
theorem dL_sleep_12 : decode cL_sleep 12 = .ok (.astore_n 3, 1) := by decide +kernel
theorem dL_sleep_13 : decode cL_sleep 13 = .ok (.iconst 1, 1) := by decide +kernel
theorem dL_sleep_14 : decode cL_sleep 14 = .ok (.ireturn, 1) := by decide +kernel
theorem dL_sleep_15 : decode cL_sleep 15 = .ok (.iconst 0, 1) := by decide +kernel
theorem dL_sleep_16 : decode cL_sleep 16 = .ok (.ireturn, 1) := by decide +kernel
theorem dL_exitsOf_0 : decode cL_exitsOf 0 = .ok (.aload_n 2, 1) := by decide +kernel
theorem dL_exitsOf_1 : decode cL_exitsOf 1 = .ok (.iconst 0, 1) := by decide +kernel
theorem dL_exitsOf_2 : decode cL_exitsOf 2 = .ok (.aload_n 0, 1) := by decide +kernel
theorem dL_exitsOf_3 : decode cL_exitsOf 3 = .ok (.iload_n 1, 1) := by decide +kernel
theorem dL_exitsOf_4 : decode cL_exitsOf 4 = .ok (.invokevirtual 47, 3) := by decide +kernel
theorem dL_exitsOf_7 : decode cL_exitsOf 7 = .ok (.i2l, 1) := by decide +kernel
theorem dL_exitsOf_8 : decode cL_exitsOf 8 = .ok (.lastore, 1) := by decide +kernel
theorem dL_exitsOf_9 : decode cL_exitsOf 9 = .ok (.goto 6, 3) := by decide +kernel
theorem dL_exitsOf_12 : decode cL_exitsOf 12 = .ok (.astore_n 3, 1) := by decide +kernel
theorem dL_exitsOf_13 : decode cL_exitsOf 13 = .ok (.iconst 1, 1) := by decide +kernel
theorem dL_exitsOf_14 : decode cL_exitsOf 14 = .ok (.ireturn, 1) := by decide +kernel
theorem dL_exitsOf_15 : decode cL_exitsOf 15 = .ok (.iconst 0, 1) := by decide +kernel
theorem dL_exitsOf_16 : decode cL_exitsOf 16 = .ok (.ireturn, 1) := by decide +kernel
theorem dL_leadsTo_0 : decode cL_leadsTo 0 = .ok (.aload_n 3, 1) := by decide +kernel
theorem dL_leadsTo_1 : decode cL_leadsTo 1 = .ok (.iconst 0, 1) := by decide +kernel
theorem dL_leadsTo_2 : decode cL_leadsTo 2 = .ok (.aload_n 0, 1) := by decide +kernel
theorem dL_leadsTo_3 : decode cL_leadsTo 3 = .ok (.iload_n 1, 1) := by decide +kernel
theorem dL_leadsTo_4 : decode cL_leadsTo 4 = .ok (.iload_n 2, 1) := by decide +kernel
theorem dL_leadsTo_5 : decode cL_leadsTo 5 = .ok (.invokevirtual 50, 3) := by decide +kernel
theorem dL_leadsTo_8 : decode cL_leadsTo 8 = .ok (.i2l, 1) := by decide +kernel
theorem dL_leadsTo_9 : decode cL_leadsTo 9 = .ok (.lastore, 1) := by decide +kernel
theorem dL_leadsTo_10 : decode cL_leadsTo 10 = .ok (.goto 7, 3) := by decide +kernel
theorem dL_leadsTo_13 : decode cL_leadsTo 13 = .ok (.astore 4, 2) := by decide +kernel
theorem dL_leadsTo_15 : decode cL_leadsTo 15 = .ok (.iconst 1, 1) := by decide +kernel
theorem dL_leadsTo_16 : decode cL_leadsTo 16 = .ok (.ireturn, 1) := by decide +kernel
theorem dL_leadsTo_17 : decode cL_leadsTo 17 = .ok (.iconst 0, 1) := by decide +kernel
theorem dL_leadsTo_18 : decode cL_leadsTo 18 = .ok (.ireturn, 1) := by decide +kernel
theorem dL_milesOf_0 : decode cL_milesOf 0 = .ok (.aload_n 3, 1) := by decide +kernel
theorem dL_milesOf_1 : decode cL_milesOf 1 = .ok (.iconst 0, 1) := by decide +kernel
theorem dL_milesOf_2 : decode cL_milesOf 2 = .ok (.aload_n 0, 1) := by decide +kernel
theorem dL_milesOf_3 : decode cL_milesOf 3 = .ok (.iload_n 1, 1) := by decide +kernel
theorem dL_milesOf_4 : decode cL_milesOf 4 = .ok (.iload_n 2, 1) := by decide +kernel
theorem dL_milesOf_5 : decode cL_milesOf 5 = .ok (.invokevirtual 54, 3) := by decide +kernel
theorem dL_milesOf_8 : decode cL_milesOf 8 = .ok (.i2l, 1) := by decide +kernel
theorem dL_milesOf_9 : decode cL_milesOf 9 = .ok (.lastore, 1) := by decide +kernel
theorem dL_milesOf_10 : decode cL_milesOf 10 = .ok (.goto 7, 3) := by decide +kernel
theorem dL_milesOf_13 : decode cL_milesOf 13 = .ok (.astore 4, 2) := by decide +kernel
theorem dL_milesOf_15 : decode cL_milesOf 15 = .ok (.iconst 1, 1) := by decide +kernel
theorem dL_milesOf_16 : decode cL_milesOf 16 = .ok (.ireturn, 1) := by decide +kernel
theorem dL_milesOf_17 : decode cL_milesOf 17 = .ok (.iconst 0, 1) := by decide +kernel
theorem dL_milesOf_18 : decode cL_milesOf 18 = .ok (.ireturn, 1) := by decide +kernel
theorem dL_isOpen_0 : decode cL_isOpen 0 = .ok (.aload_n 3, 1) := by decide +kernel
theorem dL_isOpen_1 : decode cL_isOpen 1 = .ok (.iconst 0, 1) := by decide +kernel
theorem dL_isOpen_2 : decode cL_isOpen 2 = .ok (.aload_n 0, 1) := by decide +kernel
theorem dL_isOpen_3 : decode cL_isOpen 3 = .ok (.iload_n 1, 1) := by decide +kernel
theorem dL_isOpen_4 : decode cL_isOpen 4 = .ok (.iload_n 2, 1) := by decide +kernel
theorem dL_isOpen_5 : decode cL_isOpen 5 = .ok (.invokevirtual 57, 3) := by decide +kernel
theorem dL_isOpen_8 : decode cL_isOpen 8 = .ok (.ifCond .eq 7, 3) := by decide +kernel
theorem dL_isOpen_11 : decode cL_isOpen 11 = .ok (.lconst 1, 1) := by decide +kernel
theorem dL_isOpen_12 : decode cL_isOpen 12 = .ok (.goto 4, 3) := by decide +kernel
theorem dL_isOpen_15 : decode cL_isOpen 15 = .ok (.lconst 0, 1) := by decide +kernel
theorem dL_isOpen_16 : decode cL_isOpen 16 = .ok (.lastore, 1) := by decide +kernel
theorem dL_isOpen_17 : decode cL_isOpen 17 = .ok (.goto 7, 3) := by decide +kernel
theorem dL_isOpen_20 : decode cL_isOpen 20 = .ok (.astore 4, 2) := by decide +kernel
theorem dL_isOpen_22 : decode cL_isOpen 22 = .ok (.iconst 1, 1) := by decide +kernel
theorem dL_isOpen_23 : decode cL_isOpen 23 = .ok (.ireturn, 1) := by decide +kernel
theorem dL_isOpen_24 : decode cL_isOpen 24 = .ok (.iconst 0, 1) := by decide +kernel
theorem dL_isOpen_25 : decode cL_isOpen 25 = .ok (.ireturn, 1) := by decide +kernel
theorem dL_hasShepherd_0 : decode cL_hasShepherd 0 = .ok (.aload_n 2, 1) := by decide +kernel
theorem dL_hasShepherd_1 : decode cL_hasShepherd 1 = .ok (.iconst 0, 1) := by decide +kernel
theorem dL_hasShepherd_2 : decode cL_hasShepherd 2 = .ok (.aload_n 0, 1) := by decide +kernel
theorem dL_hasShepherd_3 : decode cL_hasShepherd 3 = .ok (.iload_n 1, 1) := by decide +kernel
theorem dL_hasShepherd_4 : decode cL_hasShepherd 4 = .ok (.invokevirtual 60, 3) := by decide +kernel
theorem dL_hasShepherd_7 : decode cL_hasShepherd 7 = .ok (.ifCond .eq 7, 3) := by decide +kernel
theorem dL_hasShepherd_10 : decode cL_hasShepherd 10 = .ok (.lconst 1, 1) := by decide +kernel
theorem dL_hasShepherd_11 : decode cL_hasShepherd 11 = .ok (.goto 4, 3) := by decide +kernel
theorem dL_hasShepherd_14 : decode cL_hasShepherd 14 = .ok (.lconst 0, 1) := by decide +kernel
theorem dL_hasShepherd_15 : decode cL_hasShepherd 15 = .ok (.lastore, 1) := by decide +kernel
theorem dL_hasShepherd_16 : decode cL_hasShepherd 16 = .ok (.goto 6, 3) := by decide +kernel
theorem dL_hasShepherd_19 : decode cL_hasShepherd 19 = .ok (.astore_n 3, 1) := by decide +kernel
theorem dL_hasShepherd_20 : decode cL_hasShepherd 20 = .ok (.iconst 1, 1) := by decide +kernel
theorem dL_hasShepherd_21 : decode cL_hasShepherd 21 = .ok (.ireturn, 1) := by decide +kernel
theorem dL_hasShepherd_22 : decode cL_hasShepherd 22 = .ok (.iconst 0, 1) := by decide +kernel
theorem dL_hasShepherd_23 : decode cL_hasShepherd 23 = .ok (.ireturn, 1) := by decide +kernel
theorem dL_distance_0 : decode cL_distance 0 = .ok (.aload_n 3, 1) := by decide +kernel
theorem dL_distance_1 : decode cL_distance 1 = .ok (.iconst 0, 1) := by decide +kernel
theorem dL_distance_2 : decode cL_distance 2 = .ok (.aload_n 0, 1) := by decide +kernel
theorem dL_distance_3 : decode cL_distance 3 = .ok (.iload_n 1, 1) := by decide +kernel
theorem dL_distance_4 : decode cL_distance 4 = .ok (.iload_n 2, 1) := by decide +kernel
theorem dL_distance_5 : decode cL_distance 5 = .ok (.invokevirtual 63, 3) := by decide +kernel
theorem dL_distance_8 : decode cL_distance 8 = .ok (.i2l, 1) := by decide +kernel
theorem dL_distance_9 : decode cL_distance 9 = .ok (.lastore, 1) := by decide +kernel
theorem dL_distance_10 : decode cL_distance 10 = .ok (.goto 7, 3) := by decide +kernel
theorem dL_distance_13 : decode cL_distance 13 = .ok (.astore 4, 2) := by decide +kernel
theorem dL_distance_15 : decode cL_distance 15 = .ok (.iconst 1, 1) := by decide +kernel
theorem dL_distance_16 : decode cL_distance 16 = .ok (.ireturn, 1) := by decide +kernel
theorem dL_distance_17 : decode cL_distance 17 = .ok (.iconst 0, 1) := by decide +kernel
theorem dL_distance_18 : decode cL_distance 18 = .ok (.ireturn, 1) := by decide +kernel
theorem dL_isTried_0 : decode cL_isTried 0 = .ok (.aload_n 3, 1) := by decide +kernel
theorem dL_isTried_1 : decode cL_isTried 1 = .ok (.iconst 0, 1) := by decide +kernel
theorem dL_isTried_2 : decode cL_isTried 2 = .ok (.aload_n 0, 1) := by decide +kernel
theorem dL_isTried_3 : decode cL_isTried 3 = .ok (.iload_n 1, 1) := by decide +kernel
theorem dL_isTried_4 : decode cL_isTried 4 = .ok (.iload_n 2, 1) := by decide +kernel
theorem dL_isTried_5 : decode cL_isTried 5 = .ok (.invokevirtual 66, 3) := by decide +kernel
theorem dL_isTried_8 : decode cL_isTried 8 = .ok (.ifCond .eq 7, 3) := by decide +kernel
theorem dL_isTried_11 : decode cL_isTried 11 = .ok (.lconst 1, 1) := by decide +kernel
theorem dL_isTried_12 : decode cL_isTried 12 = .ok (.goto 4, 3) := by decide +kernel
theorem dL_isTried_15 : decode cL_isTried 15 = .ok (.lconst 0, 1) := by decide +kernel
theorem dL_isTried_16 : decode cL_isTried 16 = .ok (.lastore, 1) := by decide +kernel
theorem dL_isTried_17 : decode cL_isTried 17 = .ok (.goto 7, 3) := by decide +kernel
theorem dL_isTried_20 : decode cL_isTried 20 = .ok (.astore 4, 2) := by decide +kernel
theorem dL_isTried_22 : decode cL_isTried 22 = .ok (.iconst 1, 1) := by decide +kernel
theorem dL_isTried_23 : decode cL_isTried 23 = .ok (.ireturn, 1) := by decide +kernel
theorem dL_isTried_24 : decode cL_isTried 24 = .ok (.iconst 0, 1) := by decide +kernel
theorem dL_isTried_25 : decode cL_isTried 25 = .ok (.ireturn, 1) := by decide +kernel
theorem dL_remembered_0 : decode cL_remembered 0 = .ok (.aload_n 3, 1) := by decide +kernel
theorem dL_remembered_1 : decode cL_remembered 1 = .ok (.iconst 0, 1) := by decide +kernel
theorem dL_remembered_2 : decode cL_remembered 2 = .ok (.aload_n 0, 1) := by decide +kernel
theorem dL_remembered_3 : decode cL_remembered 3 = .ok (.iload_n 1, 1) := by decide +kernel
theorem dL_remembered_4 : decode cL_remembered 4 = .ok (.iload_n 2, 1) := by decide +kernel
theorem dL_remembered_5 : decode cL_remembered 5 = .ok (.invokevirtual 69, 3) := by decide +kernel
theorem dL_remembered_8 : decode cL_remembered 8 = .ok (.i2l, 1) := by decide +kernel
theorem dL_remembered_9 : decode cL_remembered 9 = .ok (.lastore, 1) := by decide +kernel
theorem dL_remembered_10 : decode cL_remembered 10 = .ok (.goto 7, 3) := by decide +kernel
theorem dL_remembered_13 : decode cL_remembered 13 = .ok (.astore 4, 2) := by decide +kernel
theorem dL_remembered_15 : decode cL_remembered 15 = .ok (.iconst 1, 1) := by decide +kernel
theorem dL_remembered_16 : decode cL_remembered 16 = .ok (.ireturn, 1) := by decide +kernel
theorem dL_remembered_17 : decode cL_remembered 17 = .ok (.iconst 0, 1) := by decide +kernel
theorem dL_remembered_18 : decode cL_remembered 18 = .ok (.ireturn, 1) := by decide +kernel
theorem dL_strength_0 : decode cL_strength 0 = .ok (.aload_n 3, 1) := by decide +kernel
theorem dL_strength_1 : decode cL_strength 1 = .ok (.iconst 0, 1) := by decide +kernel
theorem dL_strength_2 : decode cL_strength 2 = .ok (.aload_n 0, 1) := by decide +kernel
theorem dL_strength_3 : decode cL_strength 3 = .ok (.iload_n 1, 1) := by decide +kernel
theorem dL_strength_4 : decode cL_strength 4 = .ok (.iload_n 2, 1) := by decide +kernel
theorem dL_strength_5 : decode cL_strength 5 = .ok (.invokevirtual 72, 3) := by decide +kernel
theorem dL_strength_8 : decode cL_strength 8 = .ok (.i2l, 1) := by decide +kernel
theorem dL_strength_9 : decode cL_strength 9 = .ok (.lastore, 1) := by decide +kernel
theorem dL_strength_10 : decode cL_strength 10 = .ok (.goto 7, 3) := by decide +kernel
theorem dL_strength_13 : decode cL_strength 13 = .ok (.astore 4, 2) := by decide +kernel
theorem dL_strength_15 : decode cL_strength 15 = .ok (.iconst 1, 1) := by decide +kernel
theorem dL_strength_16 : decode cL_strength 16 = .ok (.ireturn, 1) := by decide +kernel
theorem dL_strength_17 : decode cL_strength 17 = .ok (.iconst 0, 1) := by decide +kernel
theorem dL_strength_18 : decode cL_strength 18 = .ok (.ireturn, 1) := by decide +kernel
theorem dL_knowsWay_0 : decode cL_knowsWay 0 = .ok (.aload_n 2, 1) := by decide +kernel
theorem dL_knowsWay_1 : decode cL_knowsWay 1 = .ok (.iconst 0, 1) := by decide +kernel
theorem dL_knowsWay_2 : decode cL_knowsWay 2 = .ok (.aload_n 0, 1) := by decide +kernel
theorem dL_knowsWay_3 : decode cL_knowsWay 3 = .ok (.iload_n 1, 1) := by decide +kernel
theorem dL_knowsWay_4 : decode cL_knowsWay 4 = .ok (.invokevirtual 75, 3) := by decide +kernel
theorem dL_knowsWay_7 : decode cL_knowsWay 7 = .ok (.ifCond .eq 7, 3) := by decide +kernel
theorem dL_knowsWay_10 : decode cL_knowsWay 10 = .ok (.lconst 1, 1) := by decide +kernel
theorem dL_knowsWay_11 : decode cL_knowsWay 11 = .ok (.goto 4, 3) := by decide +kernel
theorem dL_knowsWay_14 : decode cL_knowsWay 14 = .ok (.lconst 0, 1) := by decide +kernel
theorem dL_knowsWay_15 : decode cL_knowsWay 15 = .ok (.lastore, 1) := by decide +kernel
theorem dL_knowsWay_16 : decode cL_knowsWay 16 = .ok (.goto 6, 3) := by decide +kernel
theorem dL_knowsWay_19 : decode cL_knowsWay 19 = .ok (.astore_n 3, 1) := by decide +kernel
theorem dL_knowsWay_20 : decode cL_knowsWay 20 = .ok (.iconst 1, 1) := by decide +kernel
theorem dL_knowsWay_21 : decode cL_knowsWay 21 = .ok (.ireturn, 1) := by decide +kernel
theorem dL_knowsWay_22 : decode cL_knowsWay 22 = .ok (.iconst 0, 1) := by decide +kernel
theorem dL_knowsWay_23 : decode cL_knowsWay 23 = .ok (.ireturn, 1) := by decide +kernel
theorem dL_wouldWalk_0 : decode cL_wouldWalk 0 = .ok (.aload_n 2, 1) := by decide +kernel
theorem dL_wouldWalk_1 : decode cL_wouldWalk 1 = .ok (.iconst 0, 1) := by decide +kernel
theorem dL_wouldWalk_2 : decode cL_wouldWalk 2 = .ok (.aload_n 0, 1) := by decide +kernel
theorem dL_wouldWalk_3 : decode cL_wouldWalk 3 = .ok (.iload_n 1, 1) := by decide +kernel
theorem dL_wouldWalk_4 : decode cL_wouldWalk 4 = .ok (.invokevirtual 78, 3) := by decide +kernel
theorem dL_wouldWalk_7 : decode cL_wouldWalk 7 = .ok (.i2l, 1) := by decide +kernel
theorem dL_wouldWalk_8 : decode cL_wouldWalk 8 = .ok (.lastore, 1) := by decide +kernel
theorem dL_wouldWalk_9 : decode cL_wouldWalk 9 = .ok (.goto 9, 3) := by decide +kernel
theorem dL_wouldWalk_12 : decode cL_wouldWalk 12 = .ok (.astore_n 3, 1) := by decide +kernel
theorem dL_wouldWalk_13 : decode cL_wouldWalk 13 = .ok (.iconst 1, 1) := by decide +kernel
theorem dL_wouldWalk_14 : decode cL_wouldWalk 14 = .ok (.ireturn, 1) := by decide +kernel
theorem dL_wouldWalk_15 : decode cL_wouldWalk 15 = .ok (.astore_n 3, 1) := by decide +kernel
theorem dL_wouldWalk_16 : decode cL_wouldWalk 16 = .ok (.iconst 2, 1) := by decide +kernel
theorem dL_wouldWalk_17 : decode cL_wouldWalk 17 = .ok (.ireturn, 1) := by decide +kernel
theorem dL_wouldWalk_18 : decode cL_wouldWalk 18 = .ok (.iconst 0, 1) := by decide +kernel
theorem dL_wouldWalk_19 : decode cL_wouldWalk 19 = .ok (.ireturn, 1) := by decide +kernel
theorem dL_bestShepherd_0 : decode cL_bestShepherd 0 = .ok (.aload_n 2, 1) := by decide +kernel
theorem dL_bestShepherd_1 : decode cL_bestShepherd 1 = .ok (.iconst 0, 1) := by decide +kernel
theorem dL_bestShepherd_2 : decode cL_bestShepherd 2 = .ok (.aload_n 0, 1) := by decide +kernel
theorem dL_bestShepherd_3 : decode cL_bestShepherd 3 = .ok (.iload_n 1, 1) := by decide +kernel
theorem dL_bestShepherd_4 : decode cL_bestShepherd 4 = .ok (.invokevirtual 81, 3) := by decide +kernel
theorem dL_bestShepherd_7 : decode cL_bestShepherd 7 = .ok (.i2l, 1) := by decide +kernel
theorem dL_bestShepherd_8 : decode cL_bestShepherd 8 = .ok (.lastore, 1) := by decide +kernel
theorem dL_bestShepherd_9 : decode cL_bestShepherd 9 = .ok (.goto 9, 3) := by decide +kernel
theorem dL_bestShepherd_12 : decode cL_bestShepherd 12 = .ok (.astore_n 3, 1) := by decide +kernel
theorem dL_bestShepherd_13 : decode cL_bestShepherd 13 = .ok (.iconst 1, 1) := by decide +kernel
theorem dL_bestShepherd_14 : decode cL_bestShepherd 14 = .ok (.ireturn, 1) := by decide +kernel
theorem dL_bestShepherd_15 : decode cL_bestShepherd 15 = .ok (.astore_n 3, 1) := by decide +kernel
theorem dL_bestShepherd_16 : decode cL_bestShepherd 16 = .ok (.iconst 2, 1) := by decide +kernel
theorem dL_bestShepherd_17 : decode cL_bestShepherd 17 = .ok (.ireturn, 1) := by decide +kernel
theorem dL_bestShepherd_18 : decode cL_bestShepherd 18 = .ok (.iconst 0, 1) := by decide +kernel
theorem dL_bestShepherd_19 : decode cL_bestShepherd 19 = .ok (.ireturn, 1) := by decide +kernel
theorem dL_law_0 : decode cL_law 0 = .ok (.new 8, 3) := by decide +kernel
theorem dL_law_3 : decode cL_law 3 = .ok (.dup, 1) := by decide +kernel
theorem dL_law_4 : decode cL_law 4 = .ok (.invokespecial 84, 3) := by decide +kernel
theorem dL_law_7 : decode cL_law 7 = .ok (.astore_n 1, 1) := by decide +kernel
theorem dL_law_8 : decode cL_law 8 = .ok (.new 85, 3) := by decide +kernel
theorem dL_law_11 : decode cL_law 11 = .ok (.dup, 1) := by decide +kernel
theorem dL_law_12 : decode cL_law 12 = .ok (.invokespecial 87, 3) := by decide +kernel
theorem dL_law_15 : decode cL_law 15 = .ok (.astore_n 2, 1) := by decide +kernel
theorem dL_law_16 : decode cL_law 16 = .ok (.iconst 1, 1) := by decide +kernel
theorem dL_law_17 : decode cL_law 17 = .ok (.newarray .long, 2) := by decide +kernel
theorem dL_law_19 : decode cL_law 19 = .ok (.astore_n 3, 1) := by decide +kernel
theorem dL_law_20 : decode cL_law 20 = .ok (.iconst 0, 1) := by decide +kernel
theorem dL_law_21 : decode cL_law 21 = .ok (.istore 4, 2) := by decide +kernel
theorem dL_law_23 : decode cL_law 23 = .ok (.iload 4, 2) := by decide +kernel
theorem dL_law_25 : decode cL_law 25 = .ok (.aload_n 0, 1) := by decide +kernel
theorem dL_law_26 : decode cL_law 26 = .ok (.arraylength, 1) := by decide +kernel
theorem dL_law_27 : decode cL_law 27 = .ok (.iconst 4, 1) := by decide +kernel
theorem dL_law_28 : decode cL_law 28 = .ok (.isub, 1) := by decide +kernel
theorem dL_law_29 : decode cL_law 29 = .ok (.if_icmp .gt 1660, 3) := by decide +kernel
theorem dL_law_32 : decode cL_law 32 = .ok (.aload_n 0, 1) := by decide +kernel
theorem dL_law_33 : decode cL_law 33 = .ok (.iload 4, 2) := by decide +kernel
theorem dL_law_35 : decode cL_law 35 = .ok (.iaload, 1) := by decide +kernel
theorem dL_law_36 : decode cL_law 36 = .ok (.bipush 63, 2) := by decide +kernel
theorem dL_law_38 : decode cL_law 38 = .ok (.iand, 1) := by decide +kernel
theorem dL_law_39 : decode cL_law 39 = .ok (.tableswitch 1644 0 32 #[145, 189, 269, 344, 407, 463, 519, 575, 619, 675, 688, 744, 812, 880, 955, 1018, 1086, 1099, 1112, 1125, 1138, 1213, 1281, 1349, 1412, 1425, 1438, 1451, 1464, 1477, 1533, 1589, 1630], 145) := by decide +kernel
theorem dL_law_184 : decode cL_law 184 = .ok (.aload_n 1, 1) := by decide +kernel
theorem dL_law_185 : decode cL_law 185 = .ok (.aload_n 3, 1) := by decide +kernel
theorem dL_law_186 : decode cL_law 186 = .ok (.invokestatic 88, 3) := by decide +kernel
theorem dL_law_189 : decode cL_law 189 = .ok (.istore 5, 2) := by decide +kernel
theorem dL_law_191 : decode cL_law 191 = .ok (.aload_n 2, 1) := by decide +kernel
theorem dL_law_192 : decode cL_law 192 = .ok (.invokevirtual 93, 3) := by decide +kernel
theorem dL_law_195 : decode cL_law 195 = .ok (.istore 6, 2) := by decide +kernel
theorem dL_law_197 : decode cL_law 197 = .ok (.aload_n 2, 1) := by decide +kernel
theorem dL_law_198 : decode cL_law 198 = .ok (.invokevirtual 94, 3) := by decide +kernel
theorem dL_law_201 : decode cL_law 201 = .ok (.iload 5, 2) := by decide +kernel
theorem dL_law_203 : decode cL_law 203 = .ok (.if_icmp .eq 5, 3) := by decide +kernel
theorem dL_law_206 : decode cL_law 206 = .ok (.iconst 0, 1) := by decide +kernel
theorem dL_law_207 : decode cL_law 207 = .ok (.ireturn, 1) := by decide +kernel
theorem dL_law_208 : decode cL_law 208 = .ok (.iload 5, 2) := by decide +kernel
theorem dL_law_210 : decode cL_law 210 = .ok (.ifCond .ne 15, 3) := by decide +kernel
theorem dL_law_213 : decode cL_law 213 = .ok (.aload_n 3, 1) := by decide +kernel
theorem dL_law_214 : decode cL_law 214 = .ok (.iconst 0, 1) := by decide +kernel
theorem dL_law_215 : decode cL_law 215 = .ok (.laload, 1) := by decide +kernel
theorem dL_law_216 : decode cL_law 216 = .ok (.iload 6, 2) := by decide +kernel
theorem dL_law_218 : decode cL_law 218 = .ok (.i2l, 1) := by decide +kernel
theorem dL_law_219 : decode cL_law 219 = .ok (.lcmp, 1) := by decide +kernel
theorem dL_law_220 : decode cL_law 220 = .ok (.ifCond .eq 5, 3) := by decide +kernel
theorem dL_law_223 : decode cL_law 223 = .ok (.iconst 0, 1) := by decide +kernel
theorem dL_law_224 : decode cL_law 224 = .ok (.ireturn, 1) := by decide +kernel
theorem dL_law_225 : decode cL_law 225 = .ok (.goto 1458, 3) := by decide +kernel
theorem dL_law_228 : decode cL_law 228 = .ok (.aload_n 1, 1) := by decide +kernel
theorem dL_law_229 : decode cL_law 229 = .ok (.aload_n 0, 1) := by decide +kernel
theorem dL_law_230 : decode cL_law 230 = .ok (.iload 4, 2) := by decide +kernel
theorem dL_law_232 : decode cL_law 232 = .ok (.iconst 1, 1) := by decide +kernel
theorem dL_law_233 : decode cL_law 233 = .ok (.iadd, 1) := by decide +kernel
theorem dL_law_234 : decode cL_law 234 = .ok (.iaload, 1) := by decide +kernel
theorem dL_law_235 : decode cL_law 235 = .ok (.aload_n 0, 1) := by decide +kernel
theorem dL_law_236 : decode cL_law 236 = .ok (.iload 4, 2) := by decide +kernel
theorem dL_law_238 : decode cL_law 238 = .ok (.iconst 2, 1) := by decide +kernel
theorem dL_law_239 : decode cL_law 239 = .ok (.iadd, 1) := by decide +kernel
theorem dL_law_240 : decode cL_law 240 = .ok (.iaload, 1) := by decide +kernel
theorem dL_law_241 : decode cL_law 241 = .ok (.aload_n 0, 1) := by decide +kernel
theorem dL_law_242 : decode cL_law 242 = .ok (.iload 4, 2) := by decide +kernel
theorem dL_law_244 : decode cL_law 244 = .ok (.iconst 3, 1) := by decide +kernel
theorem dL_law_245 : decode cL_law 245 = .ok (.iadd, 1) := by decide +kernel
theorem dL_law_246 : decode cL_law 246 = .ok (.iaload, 1) := by decide +kernel
theorem dL_law_247 : decode cL_law 247 = .ok (.aload_n 3, 1) := by decide +kernel
theorem dL_law_248 : decode cL_law 248 = .ok (.invokestatic 97, 3) := by decide +kernel
theorem dL_law_251 : decode cL_law 251 = .ok (.istore 5, 2) := by decide +kernel
theorem dL_law_253 : decode cL_law 253 = .ok (.aload_n 2, 1) := by decide +kernel
theorem dL_law_254 : decode cL_law 254 = .ok (.aload_n 0, 1) := by decide +kernel
theorem dL_law_255 : decode cL_law 255 = .ok (.iload 4, 2) := by decide +kernel
theorem dL_law_257 : decode cL_law 257 = .ok (.iconst 1, 1) := by decide +kernel
theorem dL_law_258 : decode cL_law 258 = .ok (.iadd, 1) := by decide +kernel
theorem dL_law_259 : decode cL_law 259 = .ok (.iaload, 1) := by decide +kernel
theorem dL_law_260 : decode cL_law 260 = .ok (.aload_n 0, 1) := by decide +kernel
theorem dL_law_261 : decode cL_law 261 = .ok (.iload 4, 2) := by decide +kernel
theorem dL_law_263 : decode cL_law 263 = .ok (.iconst 2, 1) := by decide +kernel
theorem dL_law_264 : decode cL_law 264 = .ok (.iadd, 1) := by decide +kernel
theorem dL_law_265 : decode cL_law 265 = .ok (.iaload, 1) := by decide +kernel
theorem dL_law_266 : decode cL_law 266 = .ok (.aload_n 0, 1) := by decide +kernel
theorem dL_law_267 : decode cL_law 267 = .ok (.iload 4, 2) := by decide +kernel
theorem dL_law_269 : decode cL_law 269 = .ok (.iconst 3, 1) := by decide +kernel
theorem dL_law_270 : decode cL_law 270 = .ok (.iadd, 1) := by decide +kernel
theorem dL_law_271 : decode cL_law 271 = .ok (.iaload, 1) := by decide +kernel
theorem dL_law_272 : decode cL_law 272 = .ok (.invokevirtual 100, 3) := by decide +kernel
theorem dL_law_275 : decode cL_law 275 = .ok (.istore 6, 2) := by decide +kernel
theorem dL_law_277 : decode cL_law 277 = .ok (.aload_n 2, 1) := by decide +kernel
theorem dL_law_278 : decode cL_law 278 = .ok (.invokevirtual 94, 3) := by decide +kernel
theorem dL_law_281 : decode cL_law 281 = .ok (.iload 5, 2) := by decide +kernel
theorem dL_law_283 : decode cL_law 283 = .ok (.if_icmp .eq 5, 3) := by decide +kernel
theorem dL_law_286 : decode cL_law 286 = .ok (.iconst 0, 1) := by decide +kernel
theorem dL_law_287 : decode cL_law 287 = .ok (.ireturn, 1) := by decide +kernel
theorem dL_law_288 : decode cL_law 288 = .ok (.iload 5, 2) := by decide +kernel
theorem dL_law_290 : decode cL_law 290 = .ok (.ifCond .ne 15, 3) := by decide +kernel
theorem dL_law_293 : decode cL_law 293 = .ok (.aload_n 3, 1) := by decide +kernel
theorem dL_law_294 : decode cL_law 294 = .ok (.iconst 0, 1) := by decide +kernel
theorem dL_law_295 : decode cL_law 295 = .ok (.laload, 1) := by decide +kernel
theorem dL_law_296 : decode cL_law 296 = .ok (.iload 6, 2) := by decide +kernel
theorem dL_law_298 : decode cL_law 298 = .ok (.i2l, 1) := by decide +kernel
theorem dL_law_299 : decode cL_law 299 = .ok (.lcmp, 1) := by decide +kernel
theorem dL_law_300 : decode cL_law 300 = .ok (.ifCond .eq 5, 3) := by decide +kernel
theorem dL_law_303 : decode cL_law 303 = .ok (.iconst 0, 1) := by decide +kernel
theorem dL_law_304 : decode cL_law 304 = .ok (.ireturn, 1) := by decide +kernel
theorem dL_law_305 : decode cL_law 305 = .ok (.goto 1378, 3) := by decide +kernel
theorem dL_law_308 : decode cL_law 308 = .ok (.aload_n 1, 1) := by decide +kernel
theorem dL_law_309 : decode cL_law 309 = .ok (.aload_n 0, 1) := by decide +kernel
theorem dL_law_310 : decode cL_law 310 = .ok (.iload 4, 2) := by decide +kernel
theorem dL_law_312 : decode cL_law 312 = .ok (.iconst 1, 1) := by decide +kernel
theorem dL_law_313 : decode cL_law 313 = .ok (.iadd, 1) := by decide +kernel
theorem dL_law_314 : decode cL_law 314 = .ok (.iaload, 1) := by decide +kernel
theorem dL_law_315 : decode cL_law 315 = .ok (.aload_n 0, 1) := by decide +kernel
theorem dL_law_316 : decode cL_law 316 = .ok (.iload 4, 2) := by decide +kernel
theorem dL_law_318 : decode cL_law 318 = .ok (.iconst 2, 1) := by decide +kernel
theorem dL_law_319 : decode cL_law 319 = .ok (.iadd, 1) := by decide +kernel
theorem dL_law_320 : decode cL_law 320 = .ok (.iaload, 1) := by decide +kernel
theorem dL_law_321 : decode cL_law 321 = .ok (.aload_n 3, 1) := by decide +kernel
theorem dL_law_322 : decode cL_law 322 = .ok (.invokestatic 101, 3) := by decide +kernel
theorem dL_law_325 : decode cL_law 325 = .ok (.istore 5, 2) := by decide +kernel
theorem dL_law_327 : decode cL_law 327 = .ok (.aload_n 2, 1) := by decide +kernel
theorem dL_law_328 : decode cL_law 328 = .ok (.aload_n 0, 1) := by decide +kernel
theorem dL_law_329 : decode cL_law 329 = .ok (.iload 4, 2) := by decide +kernel
theorem dL_law_331 : decode cL_law 331 = .ok (.iconst 1, 1) := by decide +kernel
theorem dL_law_332 : decode cL_law 332 = .ok (.iadd, 1) := by decide +kernel
theorem dL_law_333 : decode cL_law 333 = .ok (.iaload, 1) := by decide +kernel
theorem dL_law_334 : decode cL_law 334 = .ok (.aload_n 0, 1) := by decide +kernel
theorem dL_law_335 : decode cL_law 335 = .ok (.iload 4, 2) := by decide +kernel
theorem dL_law_337 : decode cL_law 337 = .ok (.iconst 2, 1) := by decide +kernel
theorem dL_law_338 : decode cL_law 338 = .ok (.iadd, 1) := by decide +kernel
theorem dL_law_339 : decode cL_law 339 = .ok (.iaload, 1) := by decide +kernel
theorem dL_law_340 : decode cL_law 340 = .ok (.invokevirtual 104, 3) := by decide +kernel
theorem dL_law_343 : decode cL_law 343 = .ok (.istore 6, 2) := by decide +kernel
theorem dL_law_345 : decode cL_law 345 = .ok (.aload_n 2, 1) := by decide +kernel
theorem dL_law_346 : decode cL_law 346 = .ok (.invokevirtual 94, 3) := by decide +kernel
theorem dL_law_349 : decode cL_law 349 = .ok (.iload 5, 2) := by decide +kernel
theorem dL_law_351 : decode cL_law 351 = .ok (.if_icmp .eq 5, 3) := by decide +kernel
theorem dL_law_354 : decode cL_law 354 = .ok (.iconst 0, 1) := by decide +kernel
theorem dL_law_355 : decode cL_law 355 = .ok (.ireturn, 1) := by decide +kernel
theorem dL_law_356 : decode cL_law 356 = .ok (.iload 5, 2) := by decide +kernel
theorem dL_law_358 : decode cL_law 358 = .ok (.ifCond .ne 22, 3) := by decide +kernel
theorem dL_law_361 : decode cL_law 361 = .ok (.aload_n 3, 1) := by decide +kernel
theorem dL_law_362 : decode cL_law 362 = .ok (.iconst 0, 1) := by decide +kernel
theorem dL_law_363 : decode cL_law 363 = .ok (.laload, 1) := by decide +kernel
theorem dL_law_364 : decode cL_law 364 = .ok (.iload 6, 2) := by decide +kernel
theorem dL_law_366 : decode cL_law 366 = .ok (.ifCond .eq 7, 3) := by decide +kernel
theorem dL_law_369 : decode cL_law 369 = .ok (.lconst 1, 1) := by decide +kernel
theorem dL_law_370 : decode cL_law 370 = .ok (.goto 4, 3) := by decide +kernel
theorem dL_law_373 : decode cL_law 373 = .ok (.lconst 0, 1) := by decide +kernel
theorem dL_law_374 : decode cL_law 374 = .ok (.lcmp, 1) := by decide +kernel
theorem dL_law_375 : decode cL_law 375 = .ok (.ifCond .eq 5, 3) := by decide +kernel
theorem dL_law_378 : decode cL_law 378 = .ok (.iconst 0, 1) := by decide +kernel
theorem dL_law_379 : decode cL_law 379 = .ok (.ireturn, 1) := by decide +kernel
theorem dL_law_380 : decode cL_law 380 = .ok (.goto 1303, 3) := by decide +kernel
theorem dL_law_383 : decode cL_law 383 = .ok (.aload_n 1, 1) := by decide +kernel
theorem dL_law_384 : decode cL_law 384 = .ok (.aload_n 0, 1) := by decide +kernel
theorem dL_law_385 : decode cL_law 385 = .ok (.iload 4, 2) := by decide +kernel
theorem dL_law_387 : decode cL_law 387 = .ok (.iconst 1, 1) := by decide +kernel
theorem dL_law_388 : decode cL_law 388 = .ok (.iadd, 1) := by decide +kernel
theorem dL_law_389 : decode cL_law 389 = .ok (.iaload, 1) := by decide +kernel
theorem dL_law_390 : decode cL_law 390 = .ok (.aload_n 3, 1) := by decide +kernel
theorem dL_law_391 : decode cL_law 391 = .ok (.invokestatic 105, 3) := by decide +kernel
theorem dL_law_394 : decode cL_law 394 = .ok (.istore 5, 2) := by decide +kernel
theorem dL_law_396 : decode cL_law 396 = .ok (.aload_n 2, 1) := by decide +kernel
theorem dL_law_397 : decode cL_law 397 = .ok (.aload_n 0, 1) := by decide +kernel
theorem dL_law_398 : decode cL_law 398 = .ok (.iload 4, 2) := by decide +kernel
theorem dL_law_400 : decode cL_law 400 = .ok (.iconst 1, 1) := by decide +kernel
theorem dL_law_401 : decode cL_law 401 = .ok (.iadd, 1) := by decide +kernel
theorem dL_law_402 : decode cL_law 402 = .ok (.iaload, 1) := by decide +kernel
theorem dL_law_403 : decode cL_law 403 = .ok (.invokevirtual 108, 3) := by decide +kernel
theorem dL_law_406 : decode cL_law 406 = .ok (.istore 6, 2) := by decide +kernel
theorem dL_law_408 : decode cL_law 408 = .ok (.aload_n 2, 1) := by decide +kernel
theorem dL_law_409 : decode cL_law 409 = .ok (.invokevirtual 94, 3) := by decide +kernel
theorem dL_law_412 : decode cL_law 412 = .ok (.iload 5, 2) := by decide +kernel
theorem dL_law_414 : decode cL_law 414 = .ok (.if_icmp .eq 5, 3) := by decide +kernel
theorem dL_law_417 : decode cL_law 417 = .ok (.iconst 0, 1) := by decide +kernel
theorem dL_law_418 : decode cL_law 418 = .ok (.ireturn, 1) := by decide +kernel
theorem dL_law_419 : decode cL_law 419 = .ok (.iload 5, 2) := by decide +kernel
theorem dL_law_421 : decode cL_law 421 = .ok (.ifCond .ne 22, 3) := by decide +kernel
theorem dL_law_424 : decode cL_law 424 = .ok (.aload_n 3, 1) := by decide +kernel
theorem dL_law_425 : decode cL_law 425 = .ok (.iconst 0, 1) := by decide +kernel
theorem dL_law_426 : decode cL_law 426 = .ok (.laload, 1) := by decide +kernel
theorem dL_law_427 : decode cL_law 427 = .ok (.iload 6, 2) := by decide +kernel
theorem dL_law_429 : decode cL_law 429 = .ok (.ifCond .eq 7, 3) := by decide +kernel
theorem dL_law_432 : decode cL_law 432 = .ok (.lconst 1, 1) := by decide +kernel
theorem dL_law_433 : decode cL_law 433 = .ok (.goto 4, 3) := by decide +kernel
theorem dL_law_436 : decode cL_law 436 = .ok (.lconst 0, 1) := by decide +kernel
theorem dL_law_437 : decode cL_law 437 = .ok (.lcmp, 1) := by decide +kernel
theorem dL_law_438 : decode cL_law 438 = .ok (.ifCond .eq 5, 3) := by decide +kernel
theorem dL_law_441 : decode cL_law 441 = .ok (.iconst 0, 1) := by decide +kernel
theorem dL_law_442 : decode cL_law 442 = .ok (.ireturn, 1) := by decide +kernel
theorem dL_law_443 : decode cL_law 443 = .ok (.goto 1240, 3) := by decide +kernel
theorem dL_law_446 : decode cL_law 446 = .ok (.aload_n 1, 1) := by decide +kernel
theorem dL_law_447 : decode cL_law 447 = .ok (.aload_n 0, 1) := by decide +kernel
theorem dL_law_448 : decode cL_law 448 = .ok (.iload 4, 2) := by decide +kernel
theorem dL_law_450 : decode cL_law 450 = .ok (.iconst 1, 1) := by decide +kernel
theorem dL_law_451 : decode cL_law 451 = .ok (.iadd, 1) := by decide +kernel
theorem dL_law_452 : decode cL_law 452 = .ok (.iaload, 1) := by decide +kernel
theorem dL_law_453 : decode cL_law 453 = .ok (.aload_n 3, 1) := by decide +kernel
theorem dL_law_454 : decode cL_law 454 = .ok (.invokestatic 109, 3) := by decide +kernel
theorem dL_law_457 : decode cL_law 457 = .ok (.istore 5, 2) := by decide +kernel
theorem dL_law_459 : decode cL_law 459 = .ok (.aload_n 2, 1) := by decide +kernel
theorem dL_law_460 : decode cL_law 460 = .ok (.aload_n 0, 1) := by decide +kernel
theorem dL_law_461 : decode cL_law 461 = .ok (.iload 4, 2) := by decide +kernel
theorem dL_law_463 : decode cL_law 463 = .ok (.iconst 1, 1) := by decide +kernel
theorem dL_law_464 : decode cL_law 464 = .ok (.iadd, 1) := by decide +kernel
theorem dL_law_465 : decode cL_law 465 = .ok (.iaload, 1) := by decide +kernel
theorem dL_law_466 : decode cL_law 466 = .ok (.invokevirtual 111, 3) := by decide +kernel
theorem dL_law_469 : decode cL_law 469 = .ok (.istore 6, 2) := by decide +kernel
theorem dL_law_471 : decode cL_law 471 = .ok (.aload_n 2, 1) := by decide +kernel
theorem dL_law_472 : decode cL_law 472 = .ok (.invokevirtual 94, 3) := by decide +kernel
theorem dL_law_475 : decode cL_law 475 = .ok (.iload 5, 2) := by decide +kernel
theorem dL_law_477 : decode cL_law 477 = .ok (.if_icmp .eq 5, 3) := by decide +kernel
theorem dL_law_480 : decode cL_law 480 = .ok (.iconst 0, 1) := by decide +kernel
theorem dL_law_481 : decode cL_law 481 = .ok (.ireturn, 1) := by decide +kernel
theorem dL_law_482 : decode cL_law 482 = .ok (.iload 5, 2) := by decide +kernel
theorem dL_law_484 : decode cL_law 484 = .ok (.ifCond .ne 15, 3) := by decide +kernel
theorem dL_law_487 : decode cL_law 487 = .ok (.aload_n 3, 1) := by decide +kernel
theorem dL_law_488 : decode cL_law 488 = .ok (.iconst 0, 1) := by decide +kernel
theorem dL_law_489 : decode cL_law 489 = .ok (.laload, 1) := by decide +kernel
theorem dL_law_490 : decode cL_law 490 = .ok (.iload 6, 2) := by decide +kernel
theorem dL_law_492 : decode cL_law 492 = .ok (.i2l, 1) := by decide +kernel
theorem dL_law_493 : decode cL_law 493 = .ok (.lcmp, 1) := by decide +kernel
theorem dL_law_494 : decode cL_law 494 = .ok (.ifCond .eq 5, 3) := by decide +kernel
theorem dL_law_497 : decode cL_law 497 = .ok (.iconst 0, 1) := by decide +kernel
theorem dL_law_498 : decode cL_law 498 = .ok (.ireturn, 1) := by decide +kernel
theorem dL_law_499 : decode cL_law 499 = .ok (.goto 1184, 3) := by decide +kernel
theorem dL_law_502 : decode cL_law 502 = .ok (.aload_n 1, 1) := by decide +kernel
theorem dL_law_503 : decode cL_law 503 = .ok (.aload_n 0, 1) := by decide +kernel
theorem dL_law_504 : decode cL_law 504 = .ok (.iload 4, 2) := by decide +kernel
theorem dL_law_506 : decode cL_law 506 = .ok (.iconst 1, 1) := by decide +kernel
theorem dL_law_507 : decode cL_law 507 = .ok (.iadd, 1) := by decide +kernel
theorem dL_law_508 : decode cL_law 508 = .ok (.iaload, 1) := by decide +kernel
theorem dL_law_509 : decode cL_law 509 = .ok (.aload_n 3, 1) := by decide +kernel
theorem dL_law_510 : decode cL_law 510 = .ok (.invokestatic 112, 3) := by decide +kernel
theorem dL_law_513 : decode cL_law 513 = .ok (.istore 5, 2) := by decide +kernel
theorem dL_law_515 : decode cL_law 515 = .ok (.aload_n 2, 1) := by decide +kernel
theorem dL_law_516 : decode cL_law 516 = .ok (.aload_n 0, 1) := by decide +kernel
theorem dL_law_517 : decode cL_law 517 = .ok (.iload 4, 2) := by decide +kernel
theorem dL_law_519 : decode cL_law 519 = .ok (.iconst 1, 1) := by decide +kernel
theorem dL_law_520 : decode cL_law 520 = .ok (.iadd, 1) := by decide +kernel
theorem dL_law_521 : decode cL_law 521 = .ok (.iaload, 1) := by decide +kernel
theorem dL_law_522 : decode cL_law 522 = .ok (.invokevirtual 114, 3) := by decide +kernel
theorem dL_law_525 : decode cL_law 525 = .ok (.istore 6, 2) := by decide +kernel
theorem dL_law_527 : decode cL_law 527 = .ok (.aload_n 2, 1) := by decide +kernel
theorem dL_law_528 : decode cL_law 528 = .ok (.invokevirtual 94, 3) := by decide +kernel
theorem dL_law_531 : decode cL_law 531 = .ok (.iload 5, 2) := by decide +kernel
theorem dL_law_533 : decode cL_law 533 = .ok (.if_icmp .eq 5, 3) := by decide +kernel
theorem dL_law_536 : decode cL_law 536 = .ok (.iconst 0, 1) := by decide +kernel
theorem dL_law_537 : decode cL_law 537 = .ok (.ireturn, 1) := by decide +kernel
theorem dL_law_538 : decode cL_law 538 = .ok (.iload 5, 2) := by decide +kernel
theorem dL_law_540 : decode cL_law 540 = .ok (.ifCond .ne 15, 3) := by decide +kernel
theorem dL_law_543 : decode cL_law 543 = .ok (.aload_n 3, 1) := by decide +kernel
theorem dL_law_544 : decode cL_law 544 = .ok (.iconst 0, 1) := by decide +kernel
theorem dL_law_545 : decode cL_law 545 = .ok (.laload, 1) := by decide +kernel
theorem dL_law_546 : decode cL_law 546 = .ok (.iload 6, 2) := by decide +kernel
theorem dL_law_548 : decode cL_law 548 = .ok (.i2l, 1) := by decide +kernel
theorem dL_law_549 : decode cL_law 549 = .ok (.lcmp, 1) := by decide +kernel
theorem dL_law_550 : decode cL_law 550 = .ok (.ifCond .eq 5, 3) := by decide +kernel
theorem dL_law_553 : decode cL_law 553 = .ok (.iconst 0, 1) := by decide +kernel
theorem dL_law_554 : decode cL_law 554 = .ok (.ireturn, 1) := by decide +kernel
theorem dL_law_555 : decode cL_law 555 = .ok (.goto 1128, 3) := by decide +kernel
theorem dL_law_558 : decode cL_law 558 = .ok (.aload_n 1, 1) := by decide +kernel
theorem dL_law_559 : decode cL_law 559 = .ok (.aload_n 0, 1) := by decide +kernel
theorem dL_law_560 : decode cL_law 560 = .ok (.iload 4, 2) := by decide +kernel
theorem dL_law_562 : decode cL_law 562 = .ok (.iconst 1, 1) := by decide +kernel
theorem dL_law_563 : decode cL_law 563 = .ok (.iadd, 1) := by decide +kernel
theorem dL_law_564 : decode cL_law 564 = .ok (.iaload, 1) := by decide +kernel
theorem dL_law_565 : decode cL_law 565 = .ok (.aload_n 3, 1) := by decide +kernel
theorem dL_law_566 : decode cL_law 566 = .ok (.invokestatic 115, 3) := by decide +kernel
theorem dL_law_569 : decode cL_law 569 = .ok (.istore 5, 2) := by decide +kernel
theorem dL_law_571 : decode cL_law 571 = .ok (.aload_n 2, 1) := by decide +kernel
theorem dL_law_572 : decode cL_law 572 = .ok (.aload_n 0, 1) := by decide +kernel
theorem dL_law_573 : decode cL_law 573 = .ok (.iload 4, 2) := by decide +kernel
theorem dL_law_575 : decode cL_law 575 = .ok (.iconst 1, 1) := by decide +kernel
theorem dL_law_576 : decode cL_law 576 = .ok (.iadd, 1) := by decide +kernel
theorem dL_law_577 : decode cL_law 577 = .ok (.iaload, 1) := by decide +kernel
theorem dL_law_578 : decode cL_law 578 = .ok (.invokevirtual 117, 3) := by decide +kernel
theorem dL_law_581 : decode cL_law 581 = .ok (.istore 6, 2) := by decide +kernel
theorem dL_law_583 : decode cL_law 583 = .ok (.aload_n 2, 1) := by decide +kernel
theorem dL_law_584 : decode cL_law 584 = .ok (.invokevirtual 94, 3) := by decide +kernel
theorem dL_law_587 : decode cL_law 587 = .ok (.iload 5, 2) := by decide +kernel
theorem dL_law_589 : decode cL_law 589 = .ok (.if_icmp .eq 5, 3) := by decide +kernel
theorem dL_law_592 : decode cL_law 592 = .ok (.iconst 0, 1) := by decide +kernel
theorem dL_law_593 : decode cL_law 593 = .ok (.ireturn, 1) := by decide +kernel
theorem dL_law_594 : decode cL_law 594 = .ok (.iload 5, 2) := by decide +kernel
theorem dL_law_596 : decode cL_law 596 = .ok (.ifCond .ne 15, 3) := by decide +kernel
theorem dL_law_599 : decode cL_law 599 = .ok (.aload_n 3, 1) := by decide +kernel
theorem dL_law_600 : decode cL_law 600 = .ok (.iconst 0, 1) := by decide +kernel
theorem dL_law_601 : decode cL_law 601 = .ok (.laload, 1) := by decide +kernel
theorem dL_law_602 : decode cL_law 602 = .ok (.iload 6, 2) := by decide +kernel
theorem dL_law_604 : decode cL_law 604 = .ok (.i2l, 1) := by decide +kernel
theorem dL_law_605 : decode cL_law 605 = .ok (.lcmp, 1) := by decide +kernel
theorem dL_law_606 : decode cL_law 606 = .ok (.ifCond .eq 5, 3) := by decide +kernel
theorem dL_law_609 : decode cL_law 609 = .ok (.iconst 0, 1) := by decide +kernel
theorem dL_law_610 : decode cL_law 610 = .ok (.ireturn, 1) := by decide +kernel
theorem dL_law_611 : decode cL_law 611 = .ok (.goto 1072, 3) := by decide +kernel
theorem dL_law_614 : decode cL_law 614 = .ok (.aload_n 1, 1) := by decide +kernel
theorem dL_law_615 : decode cL_law 615 = .ok (.aload_n 3, 1) := by decide +kernel
theorem dL_law_616 : decode cL_law 616 = .ok (.invokestatic 118, 3) := by decide +kernel
theorem dL_law_619 : decode cL_law 619 = .ok (.istore 5, 2) := by decide +kernel
theorem dL_law_621 : decode cL_law 621 = .ok (.aload_n 2, 1) := by decide +kernel
theorem dL_law_622 : decode cL_law 622 = .ok (.invokevirtual 120, 3) := by decide +kernel
theorem dL_law_625 : decode cL_law 625 = .ok (.istore 6, 2) := by decide +kernel
theorem dL_law_627 : decode cL_law 627 = .ok (.aload_n 2, 1) := by decide +kernel
theorem dL_law_628 : decode cL_law 628 = .ok (.invokevirtual 94, 3) := by decide +kernel
theorem dL_law_631 : decode cL_law 631 = .ok (.iload 5, 2) := by decide +kernel
theorem dL_law_633 : decode cL_law 633 = .ok (.if_icmp .eq 5, 3) := by decide +kernel
theorem dL_law_636 : decode cL_law 636 = .ok (.iconst 0, 1) := by decide +kernel
theorem dL_law_637 : decode cL_law 637 = .ok (.ireturn, 1) := by decide +kernel
theorem dL_law_638 : decode cL_law 638 = .ok (.iload 5, 2) := by decide +kernel
theorem dL_law_640 : decode cL_law 640 = .ok (.ifCond .ne 15, 3) := by decide +kernel
theorem dL_law_643 : decode cL_law 643 = .ok (.aload_n 3, 1) := by decide +kernel
theorem dL_law_644 : decode cL_law 644 = .ok (.iconst 0, 1) := by decide +kernel
theorem dL_law_645 : decode cL_law 645 = .ok (.laload, 1) := by decide +kernel
theorem dL_law_646 : decode cL_law 646 = .ok (.iload 6, 2) := by decide +kernel
theorem dL_law_648 : decode cL_law 648 = .ok (.i2l, 1) := by decide +kernel
theorem dL_law_649 : decode cL_law 649 = .ok (.lcmp, 1) := by decide +kernel
theorem dL_law_650 : decode cL_law 650 = .ok (.ifCond .eq 5, 3) := by decide +kernel
theorem dL_law_653 : decode cL_law 653 = .ok (.iconst 0, 1) := by decide +kernel
theorem dL_law_654 : decode cL_law 654 = .ok (.ireturn, 1) := by decide +kernel
theorem dL_law_655 : decode cL_law 655 = .ok (.goto 1028, 3) := by decide +kernel
theorem dL_law_658 : decode cL_law 658 = .ok (.aload_n 1, 1) := by decide +kernel
theorem dL_law_659 : decode cL_law 659 = .ok (.aload_n 0, 1) := by decide +kernel
