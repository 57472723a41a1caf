set_option maxRecDepth 20000 in
theorem inX4_remembered_X4 : ∀ w ∈ u_ws RX4 TX4 14, w ∈ wsX4_remembered := fun _ h => List.mem_cons_of_mem _ (List.mem_append_right _ h)
set_option maxRecDepth 20000 in
theorem lkX4_remembered_f29 : Cond.fieldLink RX4 29 "MapCarrierModel$State" "exit" "[I" ∈ wsX4_remembered := List.mem_of_getElem? (i := 1) (by decide +kernel)
set_option maxRecDepth 20000 in
theorem lkX4_remembered_f15 : Cond.fieldLink RX4 15 "MapCarrierModel$State" "goal" "I" ∈ wsX4_remembered := List.mem_of_getElem? (i := 2) (by decide +kernel)
set_option maxRecDepth 20000 in
theorem inX4_remember_X4 : ∀ w ∈ u_ws RX4 TX4 14, w ∈ wsX4_remember := fun _ h => List.mem_cons_of_mem _ (List.mem_append_right _ h)
set_option maxRecDepth 20000 in
theorem lkX4_remember_f29 : Cond.fieldLink RX4 29 "MapCarrierModel$State" "exit" "[I" ∈ wsX4_remember := List.mem_of_getElem? (i := 1) (by decide +kernel)
set_option maxRecDepth 20000 in
theorem lkX4_remember_f15 : Cond.fieldLink RX4 15 "MapCarrierModel$State" "goal" "I" ∈ wsX4_remember := List.mem_of_getElem? (i := 2) (by decide +kernel)
set_option maxRecDepth 20000 in
theorem lkX4_remember_f32 : Cond.fieldLink RX4 32 "MapCarrierModel$State" "strength" "[I" ∈ wsX4_remember := List.mem_of_getElem? (i := 3) (by decide +kernel)
set_option maxRecDepth 20000 in
theorem inX4_begin_X4 : ∀ w ∈ u_ws RX4 TX4 14, w ∈ wsX4_begin := fun _ h => List.mem_cons_of_mem _ (List.mem_append_right _ h)
set_option maxRecDepth 20000 in
theorem lkX4_begin_f15 : Cond.fieldLink RX4 15 "MapCarrierModel$State" "goal" "I" ∈ wsX4_begin := List.mem_of_getElem? (i := 1) (by decide +kernel)
set_option maxRecDepth 20000 in
theorem lkX4_begin_f38 : Cond.fieldLink RX4 38 "MapCarrierModel$State" "length" "I" ∈ wsX4_begin := List.mem_of_getElem? (i := 2) (by decide +kernel)
set_option maxRecDepth 20000 in
theorem lkX4_begin_f18 : Cond.fieldLink RX4 18 "MapCarrierModel$State" "tried" "[Z" ∈ wsX4_begin := List.mem_of_getElem? (i := 3) (by decide +kernel)
set_option maxRecDepth 20000 in
theorem lkX4_begin_f22 : Cond.fieldLink RX4 22 "MapCarrierModel$State" "askedAt" "[Z" ∈ wsX4_begin := List.mem_of_getElem? (i := 4) (by decide +kernel)
set_option maxRecDepth 20000 in
theorem inX4_become_X4 : ∀ w ∈ u_ws RX4 TX4 14, w ∈ wsX4_become := fun _ h => List.mem_cons_of_mem _ (List.mem_append_right _ h)
set_option maxRecDepth 20000 in
theorem lkX4_become_f9 : Cond.fieldLink RX4 9 "MapCarrierModel$State" "where" "I" ∈ wsX4_become := List.mem_of_getElem? (i := 1) (by decide +kernel)
set_option maxRecDepth 20000 in
theorem lkX4_become_f35 : Cond.fieldLink RX4 35 "MapCarrierModel$State" "coins" "I" ∈ wsX4_become := List.mem_of_getElem? (i := 2) (by decide +kernel)
set_option maxRecDepth 20000 in
theorem lkX4_become_f15 : Cond.fieldLink RX4 15 "MapCarrierModel$State" "goal" "I" ∈ wsX4_become := List.mem_of_getElem? (i := 3) (by decide +kernel)
set_option maxRecDepth 20000 in
theorem lkX4_become_f38 : Cond.fieldLink RX4 38 "MapCarrierModel$State" "length" "I" ∈ wsX4_become := List.mem_of_getElem? (i := 4) (by decide +kernel)
set_option maxRecDepth 20000 in
theorem lkX4_become_f41 : Cond.fieldLink RX4 41 "MapCarrierModel$State" "walked" "I" ∈ wsX4_become := List.mem_of_getElem? (i := 5) (by decide +kernel)
set_option maxRecDepth 20000 in
theorem lkX4_become_f44 : Cond.fieldLink RX4 44 "MapCarrierModel$State" "doubled" "I" ∈ wsX4_become := List.mem_of_getElem? (i := 6) (by decide +kernel)
set_option maxRecDepth 20000 in
theorem lkX4_become_f47 : Cond.fieldLink RX4 47 "MapCarrierModel$State" "done" "I" ∈ wsX4_become := List.mem_of_getElem? (i := 7) (by decide +kernel)
set_option maxRecDepth 20000 in
theorem lkX4_become_f50 : Cond.fieldLink RX4 50 "MapCarrierModel$State" "inVain" "I" ∈ wsX4_become := List.mem_of_getElem? (i := 8) (by decide +kernel)
set_option maxRecDepth 20000 in
theorem lkX4_become_f53 : Cond.fieldLink RX4 53 "MapCarrierModel$State" "asked" "I" ∈ wsX4_become := List.mem_of_getElem? (i := 9) (by decide +kernel)
set_option maxRecDepth 20000 in
theorem lkX4_become_f18 : Cond.fieldLink RX4 18 "MapCarrierModel$State" "tried" "[Z" ∈ wsX4_become := List.mem_of_getElem? (i := 10) (by decide +kernel)
set_option maxRecDepth 20000 in
theorem lkX4_become_m56 : Cond.methodLink RX4 56 arraycopyName ∈ wsX4_become := List.mem_of_getElem? (i := 11) (by decide +kernel)
set_option maxRecDepth 20000 in
theorem lkX4_become_cn : Cond.native arraycopyName ∈ wsX4_become := List.mem_of_getElem? (i := 12) (by decide +kernel)
set_option maxRecDepth 20000 in
theorem lkX4_become_cs : Cond.static arraycopyName ∈ wsX4_become := List.mem_of_getElem? (i := 13) (by decide +kernel)
set_option maxRecDepth 20000 in
theorem lkX4_become_ci : Cond.initialized "java/lang/System" ∈ wsX4_become := List.mem_of_getElem? (i := 14) (by decide +kernel)
set_option maxRecDepth 20000 in
theorem lkX4_become_f22 : Cond.fieldLink RX4 22 "MapCarrierModel$State" "askedAt" "[Z" ∈ wsX4_become := List.mem_of_getElem? (i := 15) (by decide +kernel)
set_option maxRecDepth 20000 in
theorem lkX4_become_f25 : Cond.fieldLink RX4 25 "MapCarrierModel$State" "way" "[I" ∈ wsX4_become := List.mem_of_getElem? (i := 16) (by decide +kernel)
set_option maxRecDepth 20000 in
theorem lkX4_become_f29 : Cond.fieldLink RX4 29 "MapCarrierModel$State" "exit" "[I" ∈ wsX4_become := List.mem_of_getElem? (i := 17) (by decide +kernel)
set_option maxRecDepth 20000 in
theorem lkX4_become_f32 : Cond.fieldLink RX4 32 "MapCarrierModel$State" "strength" "[I" ∈ wsX4_become := List.mem_of_getElem? (i := 18) (by decide +kernel)
set_option maxRecDepth 20000 in
theorem inX5_isPlace_X5 : ∀ w ∈ u_ws RX5 TX5 12, w ∈ wsX5_isPlace := fun _ h => List.mem_cons_of_mem _ (List.mem_append_right _ h)
set_option maxRecDepth 20000 in
theorem lkX5_isPlace_f46 : Cond.fieldLink RX5 46 "MapCarrierModel" "places" "I" ∈ wsX5_isPlace := List.mem_of_getElem? (i := 1) (by decide +kernel)
set_option maxRecDepth 20000 in
theorem inX5_isExit_X5 : ∀ w ∈ u_ws RX5 TX5 12, w ∈ wsX5_isExit := fun _ h => List.mem_cons_of_mem _ (List.mem_append_right _ h)
set_option maxRecDepth 20000 in
theorem lkX5_isExit_f9 : Cond.fieldLink RX5 9 "MapCarrierModel" "exits" "[I" ∈ wsX5_isExit := List.mem_of_getElem? (i := 1) (by decide +kernel)
set_option maxRecDepth 20000 in
theorem inX5_no_X5 : ∀ w ∈ u_ws RX5 TX5 12, w ∈ wsX5_no := fun _ h => List.mem_cons_of_mem _ (List.mem_append_right _ h)
set_option maxRecDepth 20000 in
theorem lkX5_no_f42 : Cond.fieldLink RX5 42 "MapCarrierModel" "thrown" "I" ∈ wsX5_no := List.mem_of_getElem? (i := 1) (by decide +kernel)
set_option maxRecDepth 20000 in
theorem inX5_isNot_X5 : ∀ w ∈ u_ws RX5 TX5 12, w ∈ wsX5_isNot := fun _ h => List.mem_cons_of_mem _ (List.mem_append_right _ h)
set_option maxRecDepth 20000 in
theorem lkX5_isNot_f42 : Cond.fieldLink RX5 42 "MapCarrierModel" "thrown" "I" ∈ wsX5_isNot := List.mem_of_getElem? (i := 1) (by decide +kernel)
set_option maxRecDepth 20000 in
theorem inX5_ok_X5 : ∀ w ∈ u_ws RX5 TX5 12, w ∈ wsX5_ok := fun _ h => List.mem_cons_of_mem _ (List.mem_append_right _ h)
set_option maxRecDepth 20000 in
theorem lkX5_ok_f42 : Cond.fieldLink RX5 42 "MapCarrierModel" "thrown" "I" ∈ wsX5_ok := List.mem_of_getElem? (i := 1) (by decide +kernel)
set_option maxRecDepth 20000 in
theorem inX5_thrown_X5 : ∀ w ∈ u_ws RX5 TX5 12, w ∈ wsX5_thrown := fun _ h => List.mem_cons_of_mem _ (List.mem_append_right _ h)
set_option maxRecDepth 20000 in
theorem lkX5_thrown_f42 : Cond.fieldLink RX5 42 "MapCarrierModel" "thrown" "I" ∈ wsX5_thrown := List.mem_of_getElem? (i := 1) (by decide +kernel)
set_option maxRecDepth 20000 in
theorem inX5_turnRoad_X5 : ∀ w ∈ u_ws RX5 TX5 12, w ∈ wsX5_turnRoad := fun _ h => List.mem_cons_of_mem _ (List.mem_append_right _ h)
set_option maxRecDepth 20000 in
theorem lkX5_turnRoad_f42 : Cond.fieldLink RX5 42 "MapCarrierModel" "thrown" "I" ∈ wsX5_turnRoad := List.mem_of_getElem? (i := 1) (by decide +kernel)
set_option maxRecDepth 20000 in
theorem lkX5_turnRoad_f13 : Cond.fieldLink RX5 13 "MapCarrierModel" "road" "[I" ∈ wsX5_turnRoad := List.mem_of_getElem? (i := 2) (by decide +kernel)
set_option maxRecDepth 20000 in
theorem lkX5_turnRoad_f22 : Cond.fieldLink RX5 22 "MapCarrierModel" "isClosed" "[Z" ∈ wsX5_turnRoad := List.mem_of_getElem? (i := 3) (by decide +kernel)
set_option maxRecDepth 20000 in
theorem inX5_turnShepherd_X5 : ∀ w ∈ u_ws RX5 TX5 12, w ∈ wsX5_turnShepherd := fun _ h => List.mem_cons_of_mem _ (List.mem_append_right _ h)
set_option maxRecDepth 20000 in
theorem lkX5_turnShepherd_f42 : Cond.fieldLink RX5 42 "MapCarrierModel" "thrown" "I" ∈ wsX5_turnShepherd := List.mem_of_getElem? (i := 1) (by decide +kernel)
set_option maxRecDepth 20000 in
theorem lkX5_turnShepherd_f26 : Cond.fieldLink RX5 26 "MapCarrierModel" "shepherd" "[Z" ∈ wsX5_turnShepherd := List.mem_of_getElem? (i := 2) (by decide +kernel)
set_option maxRecDepth 20000 in
theorem inX5_canTake_X5 : ∀ w ∈ u_ws RX5 TX5 12, w ∈ wsX5_canTake := fun _ h => List.mem_cons_of_mem _ (List.mem_append_left _ (List.mem_append_right _ h))
set_option maxRecDepth 20000 in
theorem lkX5_canTake_f22 : Cond.fieldLink RX5 22 "MapCarrierModel" "isClosed" "[Z" ∈ wsX5_canTake := List.mem_of_getElem? (i := 1) (by decide +kernel)
set_option maxRecDepth 20000 in
theorem lkX5_canTake_f13 : Cond.fieldLink RX5 13 "MapCarrierModel" "road" "[I" ∈ wsX5_canTake := List.mem_of_getElem? (i := 2) (by decide +kernel)
set_option maxRecDepth 20000 in
theorem inX5_canTake_X4 : ∀ w ∈ u_ws RX4 TX4 14, w ∈ wsX5_canTake := fun _ h => List.mem_cons_of_mem _ (List.mem_append_right _ h)
set_option maxRecDepth 20000 in
theorem nkX5_67 : Cond.fieldLinkNest RX5 67 "MapCarrierModel$State" "tried" "[Z" "MapCarrierModel" ∈ xNest := by decide +kernel
set_option maxRecDepth 20000 in
theorem inX5_take_X4 : ∀ w ∈ u_ws RX4 TX4 14, w ∈ wsX5_take := fun _ h => List.mem_cons_of_mem _ (List.mem_append_left _ (List.mem_append_right _ h))
set_option maxRecDepth 20000 in
theorem inX5_take_X5 : ∀ w ∈ u_ws RX5 TX5 12, w ∈ wsX5_take := fun _ h => List.mem_cons_of_mem _ (List.mem_append_right _ h)
set_option maxRecDepth 20000 in
theorem lkX5_take_f13 : Cond.fieldLink RX5 13 "MapCarrierModel" "road" "[I" ∈ wsX5_take := List.mem_of_getElem? (i := 1) (by decide +kernel)
set_option maxRecDepth 20000 in
theorem nkX5_81 : Cond.fieldLinkNest RX5 81 "MapCarrierModel$State" "way" "[I" "MapCarrierModel" ∈ xNest := by decide +kernel
set_option maxRecDepth 20000 in
theorem nkX5_84 : Cond.fieldLinkNest RX5 84 "MapCarrierModel$State" "length" "I" "MapCarrierModel" ∈ xNest := by decide +kernel
set_option maxRecDepth 20000 in
theorem lkX5_take_f16 : Cond.fieldLink RX5 16 "MapCarrierModel" "to" "[I" ∈ wsX5_take := List.mem_of_getElem? (i := 2) (by decide +kernel)
set_option maxRecDepth 20000 in
theorem nkX5_61 : Cond.fieldLinkNest RX5 61 "MapCarrierModel$State" "where" "I" "MapCarrierModel" ∈ xNest := by decide +kernel
set_option maxRecDepth 20000 in
theorem nkX5_87 : Cond.fieldLinkNest RX5 87 "MapCarrierModel$State" "walked" "I" "MapCarrierModel" ∈ xNest := by decide +kernel
set_option maxRecDepth 20000 in
theorem lkX5_take_f19 : Cond.fieldLink RX5 19 "MapCarrierModel" "miles" "[I" ∈ wsX5_take := List.mem_of_getElem? (i := 3) (by decide +kernel)
set_option maxRecDepth 20000 in
theorem inX5_measure_X5 : ∀ w ∈ u_ws RX5 TX5 12, w ∈ wsX5_measure := fun _ h => List.mem_cons_of_mem _ (List.mem_append_right _ h)
set_option maxRecDepth 20000 in
theorem lkX5_measure_f46 : Cond.fieldLink RX5 46 "MapCarrierModel" "places" "I" ∈ wsX5_measure := List.mem_of_getElem? (i := 1) (by decide +kernel)
set_option maxRecDepth 20000 in
theorem lkX5_measure_f29 : Cond.fieldLink RX5 29 "MapCarrierModel" "far" "[I" ∈ wsX5_measure := List.mem_of_getElem? (i := 2) (by decide +kernel)
set_option maxRecDepth 20000 in
theorem lkX5_measure_f9 : Cond.fieldLink RX5 9 "MapCarrierModel" "exits" "[I" ∈ wsX5_measure := List.mem_of_getElem? (i := 3) (by decide +kernel)
set_option maxRecDepth 20000 in
theorem lkX5_measure_f22 : Cond.fieldLink RX5 22 "MapCarrierModel" "isClosed" "[Z" ∈ wsX5_measure := List.mem_of_getElem? (i := 4) (by decide +kernel)
set_option maxRecDepth 20000 in
theorem lkX5_measure_f13 : Cond.fieldLink RX5 13 "MapCarrierModel" "road" "[I" ∈ wsX5_measure := List.mem_of_getElem? (i := 5) (by decide +kernel)
set_option maxRecDepth 20000 in
theorem lkX5_measure_f16 : Cond.fieldLink RX5 16 "MapCarrierModel" "to" "[I" ∈ wsX5_measure := List.mem_of_getElem? (i := 6) (by decide +kernel)
set_option maxRecDepth 20000 in
theorem lkX5_measure_f19 : Cond.fieldLink RX5 19 "MapCarrierModel" "miles" "[I" ∈ wsX5_measure := List.mem_of_getElem? (i := 7) (by decide +kernel)
set_option maxRecDepth 20000 in
theorem inX5_toldExit_X5 : ∀ w ∈ u_ws RX5 TX5 12, w ∈ wsX5_toldExit := fun _ h => List.mem_cons_of_mem _ (List.mem_append_right _ h)
set_option maxRecDepth 20000 in
theorem lkX5_toldExit_f9 : Cond.fieldLink RX5 9 "MapCarrierModel" "exits" "[I" ∈ wsX5_toldExit := List.mem_of_getElem? (i := 1) (by decide +kernel)
set_option maxRecDepth 20000 in
theorem lkX5_toldExit_f22 : Cond.fieldLink RX5 22 "MapCarrierModel" "isClosed" "[Z" ∈ wsX5_toldExit := List.mem_of_getElem? (i := 2) (by decide +kernel)
set_option maxRecDepth 20000 in
theorem lkX5_toldExit_f13 : Cond.fieldLink RX5 13 "MapCarrierModel" "road" "[I" ∈ wsX5_toldExit := List.mem_of_getElem? (i := 3) (by decide +kernel)
set_option maxRecDepth 20000 in
theorem lkX5_toldExit_f29 : Cond.fieldLink RX5 29 "MapCarrierModel" "far" "[I" ∈ wsX5_toldExit := List.mem_of_getElem? (i := 4) (by decide +kernel)
set_option maxRecDepth 20000 in
theorem lkX5_toldExit_f16 : Cond.fieldLink RX5 16 "MapCarrierModel" "to" "[I" ∈ wsX5_toldExit := List.mem_of_getElem? (i := 5) (by decide +kernel)
set_option maxRecDepth 20000 in
theorem lkX5_toldExit_f19 : Cond.fieldLink RX5 19 "MapCarrierModel" "miles" "[I" ∈ wsX5_toldExit := List.mem_of_getElem? (i := 6) (by decide +kernel)
set_option maxRecDepth 20000 in
theorem inX5_milesBetween_X5 : ∀ w ∈ u_ws RX5 TX5 12, w ∈ wsX5_milesBetween := fun _ h => List.mem_cons_of_mem _ (List.mem_append_right _ h)
set_option maxRecDepth 20000 in
theorem lkX5_milesBetween_f29 : Cond.fieldLink RX5 29 "MapCarrierModel" "far" "[I" ∈ wsX5_milesBetween := List.mem_of_getElem? (i := 1) (by decide +kernel)
set_option maxRecDepth 20000 in
theorem inX5_triesNext_X4 : ∀ w ∈ u_ws RX4 TX4 14, w ∈ wsX5_triesNext := fun _ h => List.mem_cons_of_mem _ (List.mem_append_left _ (List.mem_append_right _ h))
set_option maxRecDepth 20000 in
theorem inX5_triesNext_X5 : ∀ w ∈ u_ws RX5 TX5 12, w ∈ wsX5_triesNext := fun _ h => List.mem_cons_of_mem _ (List.mem_append_right _ h)
set_option maxRecDepth 20000 in
theorem lkX5_triesNext_f9 : Cond.fieldLink RX5 9 "MapCarrierModel" "exits" "[I" ∈ wsX5_triesNext := List.mem_of_getElem? (i := 1) (by decide +kernel)
set_option maxRecDepth 20000 in
theorem inX5_doublesBack_X4 : ∀ w ∈ u_ws RX4 TX4 14, w ∈ wsX5_doublesBack := fun _ h => List.mem_cons_of_mem _ (List.mem_append_left _ (List.mem_append_right _ h))
set_option maxRecDepth 20000 in
theorem inX5_doublesBack_X5 : ∀ w ∈ u_ws RX5 TX5 12, w ∈ wsX5_doublesBack := fun _ h => List.mem_cons_of_mem _ (List.mem_append_right _ h)
set_option maxRecDepth 20000 in
theorem lkX5_doublesBack_f19 : Cond.fieldLink RX5 19 "MapCarrierModel" "miles" "[I" ∈ wsX5_doublesBack := List.mem_of_getElem? (i := 1) (by decide +kernel)
set_option maxRecDepth 20000 in
theorem lkX5_doublesBack_f13 : Cond.fieldLink RX5 13 "MapCarrierModel" "road" "[I" ∈ wsX5_doublesBack := List.mem_of_getElem? (i := 2) (by decide +kernel)
set_option maxRecDepth 20000 in
theorem nkX5_122 : Cond.fieldLinkNest RX5 122 "MapCarrierModel$State" "doubled" "I" "MapCarrierModel" ∈ xNest := by decide +kernel
set_option maxRecDepth 20000 in
theorem inX5_asks_X4 : ∀ w ∈ u_ws RX4 TX4 14, w ∈ wsX5_asks := fun _ h => List.mem_cons_of_mem _ (List.mem_append_left _ (List.mem_append_right _ h))
set_option maxRecDepth 20000 in
theorem inX5_asks_X5 : ∀ w ∈ u_ws RX5 TX5 12, w ∈ wsX5_asks := fun _ h => List.mem_cons_of_mem _ (List.mem_append_right _ h)
set_option maxRecDepth 20000 in
theorem lkX5_asks_f26 : Cond.fieldLink RX5 26 "MapCarrierModel" "shepherd" "[Z" ∈ wsX5_asks := List.mem_of_getElem? (i := 1) (by decide +kernel)
set_option maxRecDepth 20000 in
theorem nkX5_94 : Cond.fieldLinkNest RX5 94 "MapCarrierModel$State" "askedAt" "[Z" "MapCarrierModel" ∈ xNest := by decide +kernel
set_option maxRecDepth 20000 in
theorem nkX5_97 : Cond.fieldLinkNest RX5 97 "MapCarrierModel$State" "coins" "I" "MapCarrierModel" ∈ xNest := by decide +kernel
set_option maxRecDepth 20000 in
theorem nkX5_100 : Cond.fieldLinkNest RX5 100 "MapCarrierModel$State" "asked" "I" "MapCarrierModel" ∈ xNest := by decide +kernel
set_option maxRecDepth 20000 in
theorem nkX5_103 : Cond.fieldLinkNest RX5 103 "MapCarrierModel$State" "goal" "I" "MapCarrierModel" ∈ xNest := by decide +kernel
set_option maxRecDepth 20000 in
theorem lkX5_asks_f13 : Cond.fieldLink RX5 13 "MapCarrierModel" "road" "[I" ∈ wsX5_asks := List.mem_of_getElem? (i := 2) (by decide +kernel)
set_option maxRecDepth 20000 in
theorem inX5_learn_X4 : ∀ w ∈ u_ws RX4 TX4 14, w ∈ wsX5_learn := fun _ h => List.mem_cons_of_mem _ (List.mem_append_right _ h)
set_option maxRecDepth 20000 in
theorem nkX5_128 : Cond.fieldLinkNest RX5 128 "MapCarrierModel$State" "strength" "[I" "MapCarrierModel" ∈ xNest := by decide +kernel
set_option maxRecDepth 20000 in
theorem lkX5_learn_m131 : Cond.methodLink RX5 131 Lib.Math.min.name ∈ wsX5_learn := List.mem_of_getElem? (i := 1) (by decide +kernel)
set_option maxRecDepth 20000 in
theorem lkX5_learn_msmin : Cond.static Lib.Math.min.name ∈ wsX5_learn := List.mem_of_getElem? (i := 2) (by decide +kernel)
set_option maxRecDepth 20000 in
theorem lkX5_learn_mi : Cond.initialized "java/lang/Math" ∈ wsX5_learn := List.mem_of_getElem? (i := 3) (by decide +kernel)
set_option maxRecDepth 20000 in
theorem lkX5_learn_mcmin : Cond.code Lib.Math.min.name Lib.Math.min.code 2 (some .int) ∈ wsX5_learn := List.mem_of_getElem? (i := 4) (by decide +kernel)
set_option maxRecDepth 20000 in
theorem inX5_stepOn_X4 : ∀ w ∈ u_ws RX4 TX4 14, w ∈ wsX5_stepOn := fun _ h => List.mem_cons_of_mem _ (List.mem_append_left _ (List.mem_append_right _ h))
set_option maxRecDepth 20000 in
theorem nkX5_156 : Cond.fieldLinkNest RX5 156 "MapCarrierModel$State" "done" "I" "MapCarrierModel" ∈ xNest := by decide +kernel
set_option maxRecDepth 20000 in
theorem nkX5_146 : Cond.fieldLinkNest RX5 146 "MapCarrierModel$State" "inVain" "I" "MapCarrierModel" ∈ xNest := by decide +kernel
set_option maxRecDepth 20000 in
theorem inX5_stepsOn_X4 : ∀ w ∈ u_ws RX4 TX4 14, w ∈ wsX5_stepsOn := fun _ h => List.mem_cons_of_mem _ (List.mem_append_left _ (List.mem_append_right _ h))
