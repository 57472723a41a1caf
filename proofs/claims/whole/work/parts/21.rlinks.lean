set_option maxRecDepth 20000 in
theorem inX4_remembered_X4 : ∀ w ∈ u_ws RX4 TX4 14, w ∈ wsX4_remembered := fun _ h => List.mem_cons_of_mem _ (List.mem_append_right _ h)
set_option maxRecDepth 20000 in
theorem lkX4_remembered_f29 : Cond.fieldLink RX4 29 "MapCarrierModel$State" "exit" "[I" ∈ wsX4_remembered := List.mem_of_getElem? (i := 1) (by decide +kernel)
set_option maxRecDepth 20000 in
theorem lkX4_remembered_f15 : Cond.fieldLink RX4 15 "MapCarrierModel$State" "goal" "I" ∈ wsX4_remembered := List.mem_of_getElem? (i := 2) (by decide +kernel)
set_option maxRecDepth 20000 in
theorem inX4_remember_X4 : ∀ w ∈ u_ws RX4 TX4 14, w ∈ wsX4_remember := fun _ h => List.mem_cons_of_mem _ (List.mem_append_right _ h)
set_option maxRecDepth 20000 in
theorem lkX4_remember_f29 : Cond.fieldLink RX4 29 "MapCarrierModel$State" "exit" "[I" ∈ wsX4_remember := List.mem_of_getElem? (i := 1) (by decide +kernel)
set_option maxRecDepth 20000 in
theorem lkX4_remember_f15 : Cond.fieldLink RX4 15 "MapCarrierModel$State" "goal" "I" ∈ wsX4_remember := List.mem_of_getElem? (i := 2) (by decide +kernel)
set_option maxRecDepth 20000 in
theorem lkX4_remember_f32 : Cond.fieldLink RX4 32 "MapCarrierModel$State" "strength" "[I" ∈ wsX4_remember := List.mem_of_getElem? (i := 3) (by decide +kernel)
set_option maxRecDepth 20000 in
theorem inX4_begin_X4 : ∀ w ∈ u_ws RX4 TX4 14, w ∈ wsX4_begin := fun _ h => List.mem_cons_of_mem _ (List.mem_append_right _ h)
set_option maxRecDepth 20000 in
theorem lkX4_begin_f15 : Cond.fieldLink RX4 15 "MapCarrierModel$State" "goal" "I" ∈ wsX4_begin := List.mem_of_getElem? (i := 1) (by decide +kernel)
set_option maxRecDepth 20000 in
theorem lkX4_begin_f38 : Cond.fieldLink RX4 38 "MapCarrierModel$State" "length" "I" ∈ wsX4_begin := List.mem_of_getElem? (i := 2) (by decide +kernel)
set_option maxRecDepth 20000 in
theorem lkX4_begin_f18 : Cond.fieldLink RX4 18 "MapCarrierModel$State" "tried" "[Z" ∈ wsX4_begin := List.mem_of_getElem? (i := 3) (by decide +kernel)
set_option maxRecDepth 20000 in
theorem lkX4_begin_f22 : Cond.fieldLink RX4 22 "MapCarrierModel$State" "askedAt" "[Z" ∈ wsX4_begin := List.mem_of_getElem? (i := 4) (by decide +kernel)
set_option maxRecDepth 20000 in
theorem inX4_become_X4 : ∀ w ∈ u_ws RX4 TX4 14, w ∈ wsX4_become := fun _ h => List.mem_cons_of_mem _ (List.mem_append_right _ h)
set_option maxRecDepth 20000 in
theorem lkX4_become_f9 : Cond.fieldLink RX4 9 "MapCarrierModel$State" "where" "I" ∈ wsX4_become := List.mem_of_getElem? (i := 1) (by decide +kernel)
set_option maxRecDepth 20000 in
theorem lkX4_become_f35 : Cond.fieldLink RX4 35 "MapCarrierModel$State" "coins" "I" ∈ wsX4_become := List.mem_of_getElem? (i := 2) (by decide +kernel)
set_option maxRecDepth 20000 in
theorem lkX4_become_f15 : Cond.fieldLink RX4 15 "MapCarrierModel$State" "goal" "I" ∈ wsX4_become := List.mem_of_getElem? (i := 3) (by decide +kernel)
set_option maxRecDepth 20000 in
theorem lkX4_become_f38 : Cond.fieldLink RX4 38 "MapCarrierModel$State" "length" "I" ∈ wsX4_become := List.mem_of_getElem? (i := 4) (by decide +kernel)
set_option maxRecDepth 20000 in
theorem lkX4_become_f41 : Cond.fieldLink RX4 41 "MapCarrierModel$State" "walked" "I" ∈ wsX4_become := List.mem_of_getElem? (i := 5) (by decide +kernel)
set_option maxRecDepth 20000 in
theorem lkX4_become_f44 : Cond.fieldLink RX4 44 "MapCarrierModel$State" "doubled" "I" ∈ wsX4_become := List.mem_of_getElem? (i := 6) (by decide +kernel)
set_option maxRecDepth 20000 in
theorem lkX4_become_f47 : Cond.fieldLink RX4 47 "MapCarrierModel$State" "done" "I" ∈ wsX4_become := List.mem_of_getElem? (i := 7) (by decide +kernel)
set_option maxRecDepth 20000 in
theorem lkX4_become_f50 : Cond.fieldLink RX4 50 "MapCarrierModel$State" "inVain" "I" ∈ wsX4_become := List.mem_of_getElem? (i := 8) (by decide +kernel)
set_option maxRecDepth 20000 in
theorem lkX4_become_f53 : Cond.fieldLink RX4 53 "MapCarrierModel$State" "asked" "I" ∈ wsX4_become := List.mem_of_getElem? (i := 9) (by decide +kernel)
set_option maxRecDepth 20000 in
theorem lkX4_become_f18 : Cond.fieldLink RX4 18 "MapCarrierModel$State" "tried" "[Z" ∈ wsX4_become := List.mem_of_getElem? (i := 10) (by decide +kernel)
set_option maxRecDepth 20000 in
theorem lkX4_become_m56 : Cond.methodLink RX4 56 arraycopyName ∈ wsX4_become := List.mem_of_getElem? (i := 11) (by decide +kernel)
set_option maxRecDepth 20000 in
theorem lkX4_become_cn : Cond.native arraycopyName ∈ wsX4_become := List.mem_of_getElem? (i := 12) (by decide +kernel)
set_option maxRecDepth 20000 in
theorem lkX4_become_cs : Cond.static arraycopyName ∈ wsX4_become := List.mem_of_getElem? (i := 13) (by decide +kernel)
set_option maxRecDepth 20000 in
theorem lkX4_become_ci : Cond.initialized "java/lang/System" ∈ wsX4_become := List.mem_of_getElem? (i := 14) (by decide +kernel)
set_option maxRecDepth 20000 in
theorem lkX4_become_f22 : Cond.fieldLink RX4 22 "MapCarrierModel$State" "askedAt" "[Z" ∈ wsX4_become := List.mem_of_getElem? (i := 15) (by decide +kernel)
set_option maxRecDepth 20000 in
theorem lkX4_become_f25 : Cond.fieldLink RX4 25 "MapCarrierModel$State" "way" "[I" ∈ wsX4_become := List.mem_of_getElem? (i := 16) (by decide +kernel)
set_option maxRecDepth 20000 in
theorem lkX4_become_f29 : Cond.fieldLink RX4 29 "MapCarrierModel$State" "exit" "[I" ∈ wsX4_become := List.mem_of_getElem? (i := 17) (by decide +kernel)
set_option maxRecDepth 20000 in
theorem lkX4_become_f32 : Cond.fieldLink RX4 32 "MapCarrierModel$State" "strength" "[I" ∈ wsX4_become := List.mem_of_getElem? (i := 18) (by decide +kernel)
set_option maxRecDepth 20000 in
theorem inX5_isPlace_X5 : ∀ w ∈ u_ws RX5 TX5 12, w ∈ wsX5_isPlace := fun _ h => List.mem_cons_of_mem _ (List.mem_append_right _ h)
set_option maxRecDepth 20000 in
theorem lkX5_isPlace_f46 : Cond.fieldLink RX5 46 "MapCarrierModel" "places" "I" ∈ wsX5_isPlace := List.mem_of_getElem? (i := 1) (by decide +kernel)
set_option maxRecDepth 20000 in
theorem inX5_isExit_X5 : ∀ w ∈ u_ws RX5 TX5 12, w ∈ wsX5_isExit := fun _ h => List.mem_cons_of_mem _ (List.mem_append_right _ h)
set_option maxRecDepth 20000 in
theorem lkX5_isExit_f9 : Cond.fieldLink RX5 9 "MapCarrierModel" "exits" "[I" ∈ wsX5_isExit := List.mem_of_getElem? (i := 1) (by decide +kernel)
set_option maxRecDepth 20000 in
theorem inX5_no_X5 : ∀ w ∈ u_ws RX5 TX5 12, w ∈ wsX5_no := fun _ h => List.mem_cons_of_mem _ (List.mem_append_right _ h)
set_option maxRecDepth 20000 in
theorem lkX5_no_f42 : Cond.fieldLink RX5 42 "MapCarrierModel" "thrown" "I" ∈ wsX5_no := List.mem_of_getElem? (i := 1) (by decide +kernel)
set_option maxRecDepth 20000 in
theorem inX5_isNot_X5 : ∀ w ∈ u_ws RX5 TX5 12, w ∈ wsX5_isNot := fun _ h => List.mem_cons_of_mem _ (List.mem_append_right _ h)
set_option maxRecDepth 20000 in
theorem lkX5_isNot_f42 : Cond.fieldLink RX5 42 "MapCarrierModel" "thrown" "I" ∈ wsX5_isNot := List.mem_of_getElem? (i := 1) (by decide +kernel)
set_option maxRecDepth 20000 in
theorem inX5_ok_X5 : ∀ w ∈ u_ws RX5 TX5 12, w ∈ wsX5_ok := fun _ h => List.mem_cons_of_mem _ (List.mem_append_right _ h)
set_option maxRecDepth 20000 in
theorem lkX5_ok_f42 : Cond.fieldLink RX5 42 "MapCarrierModel" "thrown" "I" ∈ wsX5_ok := List.mem_of_getElem? (i := 1) (by decide +kernel)
set_option maxRecDepth 20000 in
theorem inX5_thrown_X5 : ∀ w ∈ u_ws RX5 TX5 12, w ∈ wsX5_thrown := fun _ h => List.mem_cons_of_mem _ (List.mem_append_right _ h)
set_option maxRecDepth 20000 in
theorem lkX5_thrown_f42 : Cond.fieldLink RX5 42 "MapCarrierModel" "thrown" "I" ∈ wsX5_thrown := List.mem_of_getElem? (i := 1) (by decide +kernel)
set_option maxRecDepth 20000 in
theorem inX5_turnRoad_X5 : ∀ w ∈ u_ws RX5 TX5 12, w ∈ wsX5_turnRoad := fun _ h => List.mem_cons_of_mem _ (List.mem_append_right _ h)
set_option maxRecDepth 20000 in
theorem lkX5_turnRoad_f42 : Cond.fieldLink RX5 42 "MapCarrierModel" "thrown" "I" ∈ wsX5_turnRoad := List.mem_of_getElem? (i := 1) (by decide +kernel)
set_option maxRecDepth 20000 in
theorem lkX5_turnRoad_f13 : Cond.fieldLink RX5 13 "MapCarrierModel" "road" "[I" ∈ wsX5_turnRoad := List.mem_of_getElem? (i := 2) (by decide +kernel)
set_option maxRecDepth 20000 in
theorem lkX5_turnRoad_f22 : Cond.fieldLink RX5 22 "MapCarrierModel" "isClosed" "[Z" ∈ wsX5_turnRoad := List.mem_of_getElem? (i := 3) (by decide +kernel)
set_option maxRecDepth 20000 in
theorem inX5_turnShepherd_X5 : ∀ w ∈ u_ws RX5 TX5 12, w ∈ wsX5_turnShepherd := fun _ h => List.mem_cons_of_mem _ (List.mem_append_right _ h)
set_option maxRecDepth 20000 in
theorem lkX5_turnShepherd_f42 : Cond.fieldLink RX5 42 "MapCarrierModel" "thrown" "I" ∈ wsX5_turnShepherd := List.mem_of_getElem? (i := 1) (by decide +kernel)
set_option maxRecDepth 20000 in
theorem lkX5_turnShepherd_f26 : Cond.fieldLink RX5 26 "MapCarrierModel" "shepherd" "[Z" ∈ wsX5_turnShepherd := List.mem_of_getElem? (i := 2) (by decide +kernel)
set_option maxRecDepth 20000 in
theorem inX5_canTake_X5 : ∀ w ∈ u_ws RX5 TX5 12, w ∈ wsX5_canTake := fun _ h => List.mem_cons_of_mem _ (List.mem_append_left _ (List.mem_append_right _ h))
set_option maxRecDepth 20000 in
theorem lkX5_canTake_f22 : Cond.fieldLink RX5 22 "MapCarrierModel" "isClosed" "[Z" ∈ wsX5_canTake := List.mem_of_getElem? (i := 1) (by decide +kernel)
set_option maxRecDepth 20000 in
theorem lkX5_canTake_f13 : Cond.fieldLink RX5 13 "MapCarrierModel" "road" "[I" ∈ wsX5_canTake := List.mem_of_getElem? (i := 2) (by decide +kernel)
set_option maxRecDepth 20000 in
theorem inX5_canTake_X4 : ∀ w ∈ u_ws RX4 TX4 14, w ∈ wsX5_canTake := fun _ h => List.mem_cons_of_mem _ (List.mem_append_right _ h)
set_option maxRecDepth 20000 in
theorem nkX5_67 : Cond.fieldLinkNest RX5 67 "MapCarrierModel$State" "tried" "[Z" "MapCarrierModel" ∈ xNest := by decide +kernel
set_option maxRecDepth 20000 in
theorem inX5_take_X4 : ∀ w ∈ u_ws RX4 TX4 14, w ∈ wsX5_take := fun _ h => List.mem_cons_of_mem _ (List.mem_append_left _ (List.mem_append_right _ h))
set_option maxRecDepth 20000 in
theorem inX5_take_X5 : ∀ w ∈ u_ws RX5 TX5 12, w ∈ wsX5_take := fun _ h => List.mem_cons_of_mem _ (List.mem_append_right _ h)
set_option maxRecDepth 20000 in
theorem lkX5_take_f13 : Cond.fieldLink RX5 13 "MapCarrierModel" "road" "[I" ∈ wsX5_take := List.mem_of_getElem? (i := 1) (by decide +kernel)
set_option maxRecDepth 20000 in
theorem nkX5_81 : Cond.fieldLinkNest RX5 81 "MapCarrierModel$State" "way" "[I" "MapCarrierModel" ∈ xNest := by decide +kernel
set_option maxRecDepth 20000 in
theorem nkX5_84 : Cond.fieldLinkNest RX5 84 "MapCarrierModel$State" "length" "I" "MapCarrierModel" ∈ xNest := by decide +kernel
set_option maxRecDepth 20000 in
theorem lkX5_take_f16 : Cond.fieldLink RX5 16 "MapCarrierModel" "to" "[I" ∈ wsX5_take := List.mem_of_getElem? (i := 2) (by decide +kernel)
set_option maxRecDepth 20000 in
theorem nkX5_61 : Cond.fieldLinkNest RX5 61 "MapCarrierModel$State" "where" "I" "MapCarrierModel" ∈ xNest := by decide +kernel
set_option maxRecDepth 20000 in
theorem nkX5_87 : Cond.fieldLinkNest RX5 87 "MapCarrierModel$State" "walked" "I" "MapCarrierModel" ∈ xNest := by decide +kernel
set_option maxRecDepth 20000 in
theorem lkX5_take_f19 : Cond.fieldLink RX5 19 "MapCarrierModel" "miles" "[I" ∈ wsX5_take := List.mem_of_getElem? (i := 3) (by decide +kernel)
set_option maxRecDepth 20000 in
theorem inX5_measure_X5 : ∀ w ∈ u_ws RX5 TX5 12, w ∈ wsX5_measure := fun _ h => List.mem_cons_of_mem _ (List.mem_append_right _ h)
set_option maxRecDepth 20000 in
theorem lkX5_measure_f46 : Cond.fieldLink RX5 46 "MapCarrierModel" "places" "I" ∈ wsX5_measure := List.mem_of_getElem? (i := 1) (by decide +kernel)
set_option maxRecDepth 20000 in
theorem lkX5_measure_f29 : Cond.fieldLink RX5 29 "MapCarrierModel" "far" "[I" ∈ wsX5_measure := List.mem_of_getElem? (i := 2) (by decide +kernel)
set_option maxRecDepth 20000 in
theorem lkX5_measure_f9 : Cond.fieldLink RX5 9 "MapCarrierModel" "exits" "[I" ∈ wsX5_measure := List.mem_of_getElem? (i := 3) (by decide +kernel)
set_option maxRecDepth 20000 in
theorem lkX5_measure_f22 : Cond.fieldLink RX5 22 "MapCarrierModel" "isClosed" "[Z" ∈ wsX5_measure := List.mem_of_getElem? (i := 4) (by decide +kernel)
set_option maxRecDepth 20000 in
theorem lkX5_measure_f13 : Cond.fieldLink RX5 13 "MapCarrierModel" "road" "[I" ∈ wsX5_measure := List.mem_of_getElem? (i := 5) (by decide +kernel)
set_option maxRecDepth 20000 in
theorem lkX5_measure_f16 : Cond.fieldLink RX5 16 "MapCarrierModel" "to" "[I" ∈ wsX5_measure := List.mem_of_getElem? (i := 6) (by decide +kernel)
set_option maxRecDepth 20000 in
theorem lkX5_measure_f19 : Cond.fieldLink RX5 19 "MapCarrierModel" "miles" "[I" ∈ wsX5_measure := List.mem_of_getElem? (i := 7) (by decide +kernel)
set_option maxRecDepth 20000 in
theorem inX5_toldExit_X5 : ∀ w ∈ u_ws RX5 TX5 12, w ∈ wsX5_toldExit := fun _ h => List.mem_cons_of_mem _ (List.mem_append_right _ h)
set_option maxRecDepth 20000 in
theorem lkX5_toldExit_f9 : Cond.fieldLink RX5 9 "MapCarrierModel" "exits" "[I" ∈ wsX5_toldExit := List.mem_of_getElem? (i := 1) (by decide +kernel)
set_option maxRecDepth 20000 in
theorem lkX5_toldExit_f22 : Cond.fieldLink RX5 22 "MapCarrierModel" "isClosed" "[Z" ∈ wsX5_toldExit := List.mem_of_getElem? (i := 2) (by decide +kernel)
set_option maxRecDepth 20000 in
theorem lkX5_toldExit_f13 : Cond.fieldLink RX5 13 "MapCarrierModel" "road" "[I" ∈ wsX5_toldExit := List.mem_of_getElem? (i := 3) (by decide +kernel)
set_option maxRecDepth 20000 in
theorem lkX5_toldExit_f29 : Cond.fieldLink RX5 29 "MapCarrierModel" "far" "[I" ∈ wsX5_toldExit := List.mem_of_getElem? (i := 4) (by decide +kernel)
set_option maxRecDepth 20000 in
theorem lkX5_toldExit_f16 : Cond.fieldLink RX5 16 "MapCarrierModel" "to" "[I" ∈ wsX5_toldExit := List.mem_of_getElem? (i := 5) (by decide +kernel)
set_option maxRecDepth 20000 in
theorem lkX5_toldExit_f19 : Cond.fieldLink RX5 19 "MapCarrierModel" "miles" "[I" ∈ wsX5_toldExit := List.mem_of_getElem? (i := 6) (by decide +kernel)
set_option maxRecDepth 20000 in
theorem inX5_milesBetween_X5 : ∀ w ∈ u_ws RX5 TX5 12, w ∈ wsX5_milesBetween := fun _ h => List.mem_cons_of_mem _ (List.mem_append_right _ h)
set_option maxRecDepth 20000 in
theorem lkX5_milesBetween_f29 : Cond.fieldLink RX5 29 "MapCarrierModel" "far" "[I" ∈ wsX5_milesBetween := List.mem_of_getElem? (i := 1) (by decide +kernel)
set_option maxRecDepth 20000 in
theorem inX5_triesNext_X4 : ∀ w ∈ u_ws RX4 TX4 14, w ∈ wsX5_triesNext := fun _ h => List.mem_cons_of_mem _ (List.mem_append_left _ (List.mem_append_right _ h))
set_option maxRecDepth 20000 in
theorem inX5_triesNext_X5 : ∀ w ∈ u_ws RX5 TX5 12, w ∈ wsX5_triesNext := fun _ h => List.mem_cons_of_mem _ (List.mem_append_right _ h)
set_option maxRecDepth 20000 in
theorem lkX5_triesNext_f9 : Cond.fieldLink RX5 9 "MapCarrierModel" "exits" "[I" ∈ wsX5_triesNext := List.mem_of_getElem? (i := 1) (by decide +kernel)
set_option maxRecDepth 20000 in
theorem inX5_doublesBack_X4 : ∀ w ∈ u_ws RX4 TX4 14, w ∈ wsX5_doublesBack := fun _ h => List.mem_cons_of_mem _ (List.mem_append_left _ (List.mem_append_right _ h))
set_option maxRecDepth 20000 in
theorem inX5_doublesBack_X5 : ∀ w ∈ u_ws RX5 TX5 12, w ∈ wsX5_doublesBack := fun _ h => List.mem_cons_of_mem _ (List.mem_append_right _ h)
set_option maxRecDepth 20000 in
theorem lkX5_doublesBack_f19 : Cond.fieldLink RX5 19 "MapCarrierModel" "miles" "[I" ∈ wsX5_doublesBack := List.mem_of_getElem? (i := 1) (by decide +kernel)
set_option maxRecDepth 20000 in
theorem lkX5_doublesBack_f13 : Cond.fieldLink RX5 13 "MapCarrierModel" "road" "[I" ∈ wsX5_doublesBack := List.mem_of_getElem? (i := 2) (by decide +kernel)
set_option maxRecDepth 20000 in
theorem nkX5_122 : Cond.fieldLinkNest RX5 122 "MapCarrierModel$State" "doubled" "I" "MapCarrierModel" ∈ xNest := by decide +kernel
set_option maxRecDepth 20000 in
theorem inX5_asks_X4 : ∀ w ∈ u_ws RX4 TX4 14, w ∈ wsX5_asks := fun _ h => List.mem_cons_of_mem _ (List.mem_append_left _ (List.mem_append_right _ h))
set_option maxRecDepth 20000 in
theorem inX5_asks_X5 : ∀ w ∈ u_ws RX5 TX5 12, w ∈ wsX5_asks := fun _ h => List.mem_cons_of_mem _ (List.mem_append_right _ h)
set_option maxRecDepth 20000 in
theorem lkX5_asks_f26 : Cond.fieldLink RX5 26 "MapCarrierModel" "shepherd" "[Z" ∈ wsX5_asks := List.mem_of_getElem? (i := 1) (by decide +kernel)
set_option maxRecDepth 20000 in
theorem nkX5_94 : Cond.fieldLinkNest RX5 94 "MapCarrierModel$State" "askedAt" "[Z" "MapCarrierModel" ∈ xNest := by decide +kernel
set_option maxRecDepth 20000 in
theorem nkX5_97 : Cond.fieldLinkNest RX5 97 "MapCarrierModel$State" "coins" "I" "MapCarrierModel" ∈ xNest := by decide +kernel
set_option maxRecDepth 20000 in
theorem nkX5_100 : Cond.fieldLinkNest RX5 100 "MapCarrierModel$State" "asked" "I" "MapCarrierModel" ∈ xNest := by decide +kernel
set_option maxRecDepth 20000 in
theorem nkX5_103 : Cond.fieldLinkNest RX5 103 "MapCarrierModel$State" "goal" "I" "MapCarrierModel" ∈ xNest := by decide +kernel
set_option maxRecDepth 20000 in
theorem lkX5_asks_f13 : Cond.fieldLink RX5 13 "MapCarrierModel" "road" "[I" ∈ wsX5_asks := List.mem_of_getElem? (i := 2) (by decide +kernel)
set_option maxRecDepth 20000 in
theorem inX5_learn_X4 : ∀ w ∈ u_ws RX4 TX4 14, w ∈ wsX5_learn := fun _ h => List.mem_cons_of_mem _ (List.mem_append_right _ h)
set_option maxRecDepth 20000 in
theorem nkX5_128 : Cond.fieldLinkNest RX5 128 "MapCarrierModel$State" "strength" "[I" "MapCarrierModel" ∈ xNest := by decide +kernel
set_option maxRecDepth 20000 in
theorem lkX5_learn_m131 : Cond.methodLink RX5 131 Lib.Math.min.name ∈ wsX5_learn := List.mem_of_getElem? (i := 1) (by decide +kernel)
set_option maxRecDepth 20000 in
theorem lkX5_learn_msmin : Cond.static Lib.Math.min.name ∈ wsX5_learn := List.mem_of_getElem? (i := 2) (by decide +kernel)
set_option maxRecDepth 20000 in
theorem lkX5_learn_mi : Cond.initialized "java/lang/Math" ∈ wsX5_learn := List.mem_of_getElem? (i := 3) (by decide +kernel)
set_option maxRecDepth 20000 in
theorem lkX5_learn_mcmin : Cond.code Lib.Math.min.name Lib.Math.min.code 2 (some .int) ∈ wsX5_learn := List.mem_of_getElem? (i := 4) (by decide +kernel)
set_option maxRecDepth 20000 in
theorem inX5_stepOn_X4 : ∀ w ∈ u_ws RX4 TX4 14, w ∈ wsX5_stepOn := fun _ h => List.mem_cons_of_mem _ (List.mem_append_left _ (List.mem_append_right _ h))
set_option maxRecDepth 20000 in
theorem nkX5_156 : Cond.fieldLinkNest RX5 156 "MapCarrierModel$State" "done" "I" "MapCarrierModel" ∈ xNest := by decide +kernel
set_option maxRecDepth 20000 in
theorem nkX5_146 : Cond.fieldLinkNest RX5 146 "MapCarrierModel$State" "inVain" "I" "MapCarrierModel" ∈ xNest := by decide +kernel
set_option maxRecDepth 20000 in
theorem inX5_stepsOn_X4 : ∀ w ∈ u_ws RX4 TX4 14, w ∈ wsX5_stepsOn := fun _ h => List.mem_cons_of_mem _ (List.mem_append_left _ (List.mem_append_right _ h))
set_option maxRecDepth 20000 in
theorem inX5_pay_X5 : ∀ w ∈ u_ws RX5 TX5 12, w ∈ wsX5_pay := fun _ h => List.mem_cons_of_mem _ (List.mem_append_left _ (List.mem_append_right _ h))
set_option maxRecDepth 20000 in
theorem lkX5_pay_f42 : Cond.fieldLink RX5 42 "MapCarrierModel" "thrown" "I" ∈ wsX5_pay := List.mem_of_getElem? (i := 1) (by decide +kernel)
set_option maxRecDepth 20000 in
theorem lkX5_pay_f35 : Cond.fieldLink RX5 35 "MapCarrierModel" "s" "LMapCarrierModel$State;" ∈ wsX5_pay := List.mem_of_getElem? (i := 2) (by decide +kernel)
set_option maxRecDepth 20000 in
theorem inX5_pay_X4 : ∀ w ∈ u_ws RX4 TX4 14, w ∈ wsX5_pay := fun _ h => List.mem_cons_of_mem _ (List.mem_append_right _ h)
set_option maxRecDepth 20000 in
theorem lkX5_pay_m131 : Cond.methodLink RX5 131 Lib.Math.min.name ∈ wsX5_pay := List.mem_of_getElem? (i := 3) (by decide +kernel)
set_option maxRecDepth 20000 in
theorem lkX5_pay_msmin : Cond.static Lib.Math.min.name ∈ wsX5_pay := List.mem_of_getElem? (i := 4) (by decide +kernel)
set_option maxRecDepth 20000 in
theorem lkX5_pay_mi : Cond.initialized "java/lang/Math" ∈ wsX5_pay := List.mem_of_getElem? (i := 5) (by decide +kernel)
set_option maxRecDepth 20000 in
theorem lkX5_pay_mcmin : Cond.code Lib.Math.min.name Lib.Math.min.code 2 (some .int) ∈ wsX5_pay := List.mem_of_getElem? (i := 6) (by decide +kernel)
set_option maxRecDepth 20000 in
theorem inX5_start_X4 : ∀ w ∈ u_ws RX4 TX4 14, w ∈ wsX5_start := fun _ h => List.mem_cons_of_mem _ (List.mem_append_right _ h)
set_option maxRecDepth 20000 in
theorem inX5_beginErrand_X5 : ∀ w ∈ u_ws RX5 TX5 12, w ∈ wsX5_beginErrand := fun _ h => List.mem_cons_of_mem _ (List.mem_append_left _ (List.mem_append_right _ h))
set_option maxRecDepth 20000 in
theorem lkX5_beginErrand_f42 : Cond.fieldLink RX5 42 "MapCarrierModel" "thrown" "I" ∈ wsX5_beginErrand := List.mem_of_getElem? (i := 1) (by decide +kernel)
set_option maxRecDepth 20000 in
theorem lkX5_beginErrand_f35 : Cond.fieldLink RX5 35 "MapCarrierModel" "s" "LMapCarrierModel$State;" ∈ wsX5_beginErrand := List.mem_of_getElem? (i := 2) (by decide +kernel)
set_option maxRecDepth 20000 in
theorem inX5_beginErrand_X4 : ∀ w ∈ u_ws RX4 TX4 14, w ∈ wsX5_beginErrand := fun _ h => List.mem_cons_of_mem _ (List.mem_append_right _ h)
set_option maxRecDepth 20000 in
theorem inX5_goOn_X5 : ∀ w ∈ u_ws RX5 TX5 12, w ∈ wsX5_goOn := fun _ h => List.mem_cons_of_mem _ (List.mem_append_left _ (List.mem_append_right _ h))
set_option maxRecDepth 20000 in
theorem lkX5_goOn_f42 : Cond.fieldLink RX5 42 "MapCarrierModel" "thrown" "I" ∈ wsX5_goOn := List.mem_of_getElem? (i := 1) (by decide +kernel)
set_option maxRecDepth 20000 in
theorem lkX5_goOn_f35 : Cond.fieldLink RX5 35 "MapCarrierModel" "s" "LMapCarrierModel$State;" ∈ wsX5_goOn := List.mem_of_getElem? (i := 2) (by decide +kernel)
set_option maxRecDepth 20000 in
theorem inX5_goOn_X4 : ∀ w ∈ u_ws RX4 TX4 14, w ∈ wsX5_goOn := fun _ h => List.mem_cons_of_mem _ (List.mem_append_right _ h)
set_option maxRecDepth 20000 in
theorem inX5_giveUp_X5 : ∀ w ∈ u_ws RX5 TX5 12, w ∈ wsX5_giveUp := fun _ h => List.mem_cons_of_mem _ (List.mem_append_left _ (List.mem_append_right _ h))
set_option maxRecDepth 20000 in
theorem lkX5_giveUp_f42 : Cond.fieldLink RX5 42 "MapCarrierModel" "thrown" "I" ∈ wsX5_giveUp := List.mem_of_getElem? (i := 1) (by decide +kernel)
set_option maxRecDepth 20000 in
theorem lkX5_giveUp_f35 : Cond.fieldLink RX5 35 "MapCarrierModel" "s" "LMapCarrierModel$State;" ∈ wsX5_giveUp := List.mem_of_getElem? (i := 2) (by decide +kernel)
set_option maxRecDepth 20000 in
theorem inX5_giveUp_X4 : ∀ w ∈ u_ws RX4 TX4 14, w ∈ wsX5_giveUp := fun _ h => List.mem_cons_of_mem _ (List.mem_append_right _ h)
set_option maxRecDepth 20000 in
theorem inX5_night_X5 : ∀ w ∈ u_ws RX5 TX5 12, w ∈ wsX5_night := fun _ h => List.mem_cons_of_mem _ (List.mem_append_left _ (List.mem_append_right _ h))
set_option maxRecDepth 20000 in
theorem lkX5_night_f35 : Cond.fieldLink RX5 35 "MapCarrierModel" "s" "LMapCarrierModel$State;" ∈ wsX5_night := List.mem_of_getElem? (i := 1) (by decide +kernel)
set_option maxRecDepth 20000 in
theorem inX5_night_X4 : ∀ w ∈ u_ws RX4 TX4 14, w ∈ wsX5_night := fun _ h => List.mem_cons_of_mem _ (List.mem_append_right _ h)
set_option maxRecDepth 20000 in
theorem nkX5_175 : Cond.fieldLinkNest RX5 175 "MapCarrierModel$State" "exit" "[I" "MapCarrierModel" ∈ xNest := by decide +kernel
set_option maxRecDepth 20000 in
theorem inX5_sleep_X5 : ∀ w ∈ u_ws RX5 TX5 12, w ∈ wsX5_sleep := fun _ h => List.mem_cons_of_mem _ (List.mem_append_left _ (List.mem_append_right _ h))
set_option maxRecDepth 20000 in
theorem lkX5_sleep_f42 : Cond.fieldLink RX5 42 "MapCarrierModel" "thrown" "I" ∈ wsX5_sleep := List.mem_of_getElem? (i := 1) (by decide +kernel)
set_option maxRecDepth 20000 in
theorem inX5_places_X5 : ∀ w ∈ u_ws RX5 TX5 12, w ∈ wsX5_places := fun _ h => List.mem_cons_of_mem _ (List.mem_append_right _ h)
set_option maxRecDepth 20000 in
theorem lkX5_places_f46 : Cond.fieldLink RX5 46 "MapCarrierModel" "places" "I" ∈ wsX5_places := List.mem_of_getElem? (i := 1) (by decide +kernel)
set_option maxRecDepth 20000 in
theorem inX5_whereIs_X5 : ∀ w ∈ u_ws RX5 TX5 12, w ∈ wsX5_whereIs := fun _ h => List.mem_cons_of_mem _ (List.mem_append_left _ (List.mem_append_right _ h))
set_option maxRecDepth 20000 in
theorem lkX5_whereIs_f35 : Cond.fieldLink RX5 35 "MapCarrierModel" "s" "LMapCarrierModel$State;" ∈ wsX5_whereIs := List.mem_of_getElem? (i := 1) (by decide +kernel)
set_option maxRecDepth 20000 in
theorem inX5_whereIs_X4 : ∀ w ∈ u_ws RX4 TX4 14, w ∈ wsX5_whereIs := fun _ h => List.mem_cons_of_mem _ (List.mem_append_right _ h)
set_option maxRecDepth 20000 in
theorem inX5_coins_X5 : ∀ w ∈ u_ws RX5 TX5 12, w ∈ wsX5_coins := fun _ h => List.mem_cons_of_mem _ (List.mem_append_left _ (List.mem_append_right _ h))
set_option maxRecDepth 20000 in
theorem lkX5_coins_f35 : Cond.fieldLink RX5 35 "MapCarrierModel" "s" "LMapCarrierModel$State;" ∈ wsX5_coins := List.mem_of_getElem? (i := 1) (by decide +kernel)
set_option maxRecDepth 20000 in
theorem inX5_coins_X4 : ∀ w ∈ u_ws RX4 TX4 14, w ∈ wsX5_coins := fun _ h => List.mem_cons_of_mem _ (List.mem_append_right _ h)
set_option maxRecDepth 20000 in
theorem inX5_goal_X5 : ∀ w ∈ u_ws RX5 TX5 12, w ∈ wsX5_goal := fun _ h => List.mem_cons_of_mem _ (List.mem_append_left _ (List.mem_append_right _ h))
set_option maxRecDepth 20000 in
theorem lkX5_goal_f35 : Cond.fieldLink RX5 35 "MapCarrierModel" "s" "LMapCarrierModel$State;" ∈ wsX5_goal := List.mem_of_getElem? (i := 1) (by decide +kernel)
set_option maxRecDepth 20000 in
theorem inX5_goal_X4 : ∀ w ∈ u_ws RX4 TX4 14, w ∈ wsX5_goal := fun _ h => List.mem_cons_of_mem _ (List.mem_append_right _ h)
set_option maxRecDepth 20000 in
theorem inX5_wayLength_X5 : ∀ w ∈ u_ws RX5 TX5 12, w ∈ wsX5_wayLength := fun _ h => List.mem_cons_of_mem _ (List.mem_append_left _ (List.mem_append_right _ h))
set_option maxRecDepth 20000 in
theorem lkX5_wayLength_f35 : Cond.fieldLink RX5 35 "MapCarrierModel" "s" "LMapCarrierModel$State;" ∈ wsX5_wayLength := List.mem_of_getElem? (i := 1) (by decide +kernel)
set_option maxRecDepth 20000 in
theorem inX5_wayLength_X4 : ∀ w ∈ u_ws RX4 TX4 14, w ∈ wsX5_wayLength := fun _ h => List.mem_cons_of_mem _ (List.mem_append_right _ h)
set_option maxRecDepth 20000 in
theorem inX5_milesWalked_X5 : ∀ w ∈ u_ws RX5 TX5 12, w ∈ wsX5_milesWalked := fun _ h => List.mem_cons_of_mem _ (List.mem_append_left _ (List.mem_append_right _ h))
set_option maxRecDepth 20000 in
theorem lkX5_milesWalked_f35 : Cond.fieldLink RX5 35 "MapCarrierModel" "s" "LMapCarrierModel$State;" ∈ wsX5_milesWalked := List.mem_of_getElem? (i := 1) (by decide +kernel)
set_option maxRecDepth 20000 in
theorem inX5_milesWalked_X4 : ∀ w ∈ u_ws RX4 TX4 14, w ∈ wsX5_milesWalked := fun _ h => List.mem_cons_of_mem _ (List.mem_append_right _ h)
set_option maxRecDepth 20000 in
theorem inX5_milesDoubled_X5 : ∀ w ∈ u_ws RX5 TX5 12, w ∈ wsX5_milesDoubled := fun _ h => List.mem_cons_of_mem _ (List.mem_append_left _ (List.mem_append_right _ h))
set_option maxRecDepth 20000 in
theorem lkX5_milesDoubled_f35 : Cond.fieldLink RX5 35 "MapCarrierModel" "s" "LMapCarrierModel$State;" ∈ wsX5_milesDoubled := List.mem_of_getElem? (i := 1) (by decide +kernel)
set_option maxRecDepth 20000 in
theorem inX5_milesDoubled_X4 : ∀ w ∈ u_ws RX4 TX4 14, w ∈ wsX5_milesDoubled := fun _ h => List.mem_cons_of_mem _ (List.mem_append_right _ h)
set_option maxRecDepth 20000 in
theorem inX5_errandsDone_X5 : ∀ w ∈ u_ws RX5 TX5 12, w ∈ wsX5_errandsDone := fun _ h => List.mem_cons_of_mem _ (List.mem_append_left _ (List.mem_append_right _ h))
set_option maxRecDepth 20000 in
theorem lkX5_errandsDone_f35 : Cond.fieldLink RX5 35 "MapCarrierModel" "s" "LMapCarrierModel$State;" ∈ wsX5_errandsDone := List.mem_of_getElem? (i := 1) (by decide +kernel)
set_option maxRecDepth 20000 in
theorem inX5_errandsDone_X4 : ∀ w ∈ u_ws RX4 TX4 14, w ∈ wsX5_errandsDone := fun _ h => List.mem_cons_of_mem _ (List.mem_append_right _ h)
set_option maxRecDepth 20000 in
theorem inX5_errandsInVain_X5 : ∀ w ∈ u_ws RX5 TX5 12, w ∈ wsX5_errandsInVain := fun _ h => List.mem_cons_of_mem _ (List.mem_append_left _ (List.mem_append_right _ h))
set_option maxRecDepth 20000 in
theorem lkX5_errandsInVain_f35 : Cond.fieldLink RX5 35 "MapCarrierModel" "s" "LMapCarrierModel$State;" ∈ wsX5_errandsInVain := List.mem_of_getElem? (i := 1) (by decide +kernel)
set_option maxRecDepth 20000 in
theorem inX5_errandsInVain_X4 : ∀ w ∈ u_ws RX4 TX4 14, w ∈ wsX5_errandsInVain := fun _ h => List.mem_cons_of_mem _ (List.mem_append_right _ h)
set_option maxRecDepth 20000 in
theorem inX5_asked_X5 : ∀ w ∈ u_ws RX5 TX5 12, w ∈ wsX5_asked := fun _ h => List.mem_cons_of_mem _ (List.mem_append_left _ (List.mem_append_right _ h))
set_option maxRecDepth 20000 in
theorem lkX5_asked_f35 : Cond.fieldLink RX5 35 "MapCarrierModel" "s" "LMapCarrierModel$State;" ∈ wsX5_asked := List.mem_of_getElem? (i := 1) (by decide +kernel)
set_option maxRecDepth 20000 in
theorem inX5_asked_X4 : ∀ w ∈ u_ws RX4 TX4 14, w ∈ wsX5_asked := fun _ h => List.mem_cons_of_mem _ (List.mem_append_right _ h)
set_option maxRecDepth 20000 in
theorem inX5_exitsOf_X5 : ∀ w ∈ u_ws RX5 TX5 12, w ∈ wsX5_exitsOf := fun _ h => List.mem_cons_of_mem _ (List.mem_append_right _ h)
set_option maxRecDepth 20000 in
theorem lkX5_exitsOf_f42 : Cond.fieldLink RX5 42 "MapCarrierModel" "thrown" "I" ∈ wsX5_exitsOf := List.mem_of_getElem? (i := 1) (by decide +kernel)
set_option maxRecDepth 20000 in
theorem lkX5_exitsOf_f9 : Cond.fieldLink RX5 9 "MapCarrierModel" "exits" "[I" ∈ wsX5_exitsOf := List.mem_of_getElem? (i := 2) (by decide +kernel)
set_option maxRecDepth 20000 in
theorem inX5_leadsTo_X5 : ∀ w ∈ u_ws RX5 TX5 12, w ∈ wsX5_leadsTo := fun _ h => List.mem_cons_of_mem _ (List.mem_append_right _ h)
set_option maxRecDepth 20000 in
theorem lkX5_leadsTo_f42 : Cond.fieldLink RX5 42 "MapCarrierModel" "thrown" "I" ∈ wsX5_leadsTo := List.mem_of_getElem? (i := 1) (by decide +kernel)
set_option maxRecDepth 20000 in
theorem lkX5_leadsTo_f16 : Cond.fieldLink RX5 16 "MapCarrierModel" "to" "[I" ∈ wsX5_leadsTo := List.mem_of_getElem? (i := 2) (by decide +kernel)
set_option maxRecDepth 20000 in
theorem inX5_milesOf_X5 : ∀ w ∈ u_ws RX5 TX5 12, w ∈ wsX5_milesOf := fun _ h => List.mem_cons_of_mem _ (List.mem_append_right _ h)
set_option maxRecDepth 20000 in
theorem lkX5_milesOf_f42 : Cond.fieldLink RX5 42 "MapCarrierModel" "thrown" "I" ∈ wsX5_milesOf := List.mem_of_getElem? (i := 1) (by decide +kernel)
set_option maxRecDepth 20000 in
theorem lkX5_milesOf_f19 : Cond.fieldLink RX5 19 "MapCarrierModel" "miles" "[I" ∈ wsX5_milesOf := List.mem_of_getElem? (i := 2) (by decide +kernel)
set_option maxRecDepth 20000 in
theorem lkX5_milesOf_f13 : Cond.fieldLink RX5 13 "MapCarrierModel" "road" "[I" ∈ wsX5_milesOf := List.mem_of_getElem? (i := 3) (by decide +kernel)
set_option maxRecDepth 20000 in
theorem inX5_isOpen_X5 : ∀ w ∈ u_ws RX5 TX5 12, w ∈ wsX5_isOpen := fun _ h => List.mem_cons_of_mem _ (List.mem_append_right _ h)
set_option maxRecDepth 20000 in
theorem lkX5_isOpen_f42 : Cond.fieldLink RX5 42 "MapCarrierModel" "thrown" "I" ∈ wsX5_isOpen := List.mem_of_getElem? (i := 1) (by decide +kernel)
set_option maxRecDepth 20000 in
theorem lkX5_isOpen_f22 : Cond.fieldLink RX5 22 "MapCarrierModel" "isClosed" "[Z" ∈ wsX5_isOpen := List.mem_of_getElem? (i := 2) (by decide +kernel)
set_option maxRecDepth 20000 in
theorem lkX5_isOpen_f13 : Cond.fieldLink RX5 13 "MapCarrierModel" "road" "[I" ∈ wsX5_isOpen := List.mem_of_getElem? (i := 3) (by decide +kernel)
set_option maxRecDepth 20000 in
theorem inX5_hasShepherd_X5 : ∀ w ∈ u_ws RX5 TX5 12, w ∈ wsX5_hasShepherd := fun _ h => List.mem_cons_of_mem _ (List.mem_append_right _ h)
set_option maxRecDepth 20000 in
theorem lkX5_hasShepherd_f42 : Cond.fieldLink RX5 42 "MapCarrierModel" "thrown" "I" ∈ wsX5_hasShepherd := List.mem_of_getElem? (i := 1) (by decide +kernel)
set_option maxRecDepth 20000 in
theorem lkX5_hasShepherd_f26 : Cond.fieldLink RX5 26 "MapCarrierModel" "shepherd" "[Z" ∈ wsX5_hasShepherd := List.mem_of_getElem? (i := 2) (by decide +kernel)
set_option maxRecDepth 20000 in
theorem inX5_distance_X5 : ∀ w ∈ u_ws RX5 TX5 12, w ∈ wsX5_distance := fun _ h => List.mem_cons_of_mem _ (List.mem_append_right _ h)
set_option maxRecDepth 20000 in
theorem lkX5_distance_f42 : Cond.fieldLink RX5 42 "MapCarrierModel" "thrown" "I" ∈ wsX5_distance := List.mem_of_getElem? (i := 1) (by decide +kernel)
set_option maxRecDepth 20000 in
theorem inX5_isTried_X5 : ∀ w ∈ u_ws RX5 TX5 12, w ∈ wsX5_isTried := fun _ h => List.mem_cons_of_mem _ (List.mem_append_left _ (List.mem_append_right _ h))
set_option maxRecDepth 20000 in
theorem lkX5_isTried_f42 : Cond.fieldLink RX5 42 "MapCarrierModel" "thrown" "I" ∈ wsX5_isTried := List.mem_of_getElem? (i := 1) (by decide +kernel)
set_option maxRecDepth 20000 in
theorem lkX5_isTried_f35 : Cond.fieldLink RX5 35 "MapCarrierModel" "s" "LMapCarrierModel$State;" ∈ wsX5_isTried := List.mem_of_getElem? (i := 2) (by decide +kernel)
set_option maxRecDepth 20000 in
theorem inX5_isTried_X4 : ∀ w ∈ u_ws RX4 TX4 14, w ∈ wsX5_isTried := fun _ h => List.mem_cons_of_mem _ (List.mem_append_right _ h)
set_option maxRecDepth 20000 in
theorem lkX5_isTried_f13 : Cond.fieldLink RX5 13 "MapCarrierModel" "road" "[I" ∈ wsX5_isTried := List.mem_of_getElem? (i := 3) (by decide +kernel)
set_option maxRecDepth 20000 in
theorem inX5_remembered_X5 : ∀ w ∈ u_ws RX5 TX5 12, w ∈ wsX5_remembered := fun _ h => List.mem_cons_of_mem _ (List.mem_append_left _ (List.mem_append_right _ h))
set_option maxRecDepth 20000 in
theorem lkX5_remembered_f42 : Cond.fieldLink RX5 42 "MapCarrierModel" "thrown" "I" ∈ wsX5_remembered := List.mem_of_getElem? (i := 1) (by decide +kernel)
set_option maxRecDepth 20000 in
theorem lkX5_remembered_f35 : Cond.fieldLink RX5 35 "MapCarrierModel" "s" "LMapCarrierModel$State;" ∈ wsX5_remembered := List.mem_of_getElem? (i := 2) (by decide +kernel)
set_option maxRecDepth 20000 in
theorem inX5_remembered_X4 : ∀ w ∈ u_ws RX4 TX4 14, w ∈ wsX5_remembered := fun _ h => List.mem_cons_of_mem _ (List.mem_append_right _ h)
set_option maxRecDepth 20000 in
theorem inX5_strengthOf_X5 : ∀ w ∈ u_ws RX5 TX5 12, w ∈ wsX5_strengthOf := fun _ h => List.mem_cons_of_mem _ (List.mem_append_left _ (List.mem_append_right _ h))
set_option maxRecDepth 20000 in
theorem lkX5_strengthOf_f35 : Cond.fieldLink RX5 35 "MapCarrierModel" "s" "LMapCarrierModel$State;" ∈ wsX5_strengthOf := List.mem_of_getElem? (i := 1) (by decide +kernel)
set_option maxRecDepth 20000 in
theorem inX5_strengthOf_X4 : ∀ w ∈ u_ws RX4 TX4 14, w ∈ wsX5_strengthOf := fun _ h => List.mem_cons_of_mem _ (List.mem_append_right _ h)
set_option maxRecDepth 20000 in
theorem inX5_strength_X5 : ∀ w ∈ u_ws RX5 TX5 12, w ∈ wsX5_strength := fun _ h => List.mem_cons_of_mem _ (List.mem_append_left _ (List.mem_append_right _ h))
set_option maxRecDepth 20000 in
theorem lkX5_strength_f42 : Cond.fieldLink RX5 42 "MapCarrierModel" "thrown" "I" ∈ wsX5_strength := List.mem_of_getElem? (i := 1) (by decide +kernel)
set_option maxRecDepth 20000 in
theorem inX5_knows_X5 : ∀ w ∈ u_ws RX5 TX5 12, w ∈ wsX5_knows := fun _ h => List.mem_cons_of_mem _ (List.mem_append_left _ (List.mem_append_right _ h))
set_option maxRecDepth 20000 in
theorem lkX5_knows_f35 : Cond.fieldLink RX5 35 "MapCarrierModel" "s" "LMapCarrierModel$State;" ∈ wsX5_knows := List.mem_of_getElem? (i := 1) (by decide +kernel)
set_option maxRecDepth 20000 in
theorem inX5_knows_X4 : ∀ w ∈ u_ws RX4 TX4 14, w ∈ wsX5_knows := fun _ h => List.mem_cons_of_mem _ (List.mem_append_right _ h)
set_option maxRecDepth 20000 in
theorem lkX5_knows_f22 : Cond.fieldLink RX5 22 "MapCarrierModel" "isClosed" "[Z" ∈ wsX5_knows := List.mem_of_getElem? (i := 2) (by decide +kernel)
set_option maxRecDepth 20000 in
theorem lkX5_knows_f13 : Cond.fieldLink RX5 13 "MapCarrierModel" "road" "[I" ∈ wsX5_knows := List.mem_of_getElem? (i := 3) (by decide +kernel)
set_option maxRecDepth 20000 in
theorem lkX5_knows_f16 : Cond.fieldLink RX5 16 "MapCarrierModel" "to" "[I" ∈ wsX5_knows := List.mem_of_getElem? (i := 4) (by decide +kernel)
set_option maxRecDepth 20000 in
theorem inX5_knowsWay_X5 : ∀ w ∈ u_ws RX5 TX5 12, w ∈ wsX5_knowsWay := fun _ h => List.mem_cons_of_mem _ (List.mem_append_left _ (List.mem_append_right _ h))
set_option maxRecDepth 20000 in
theorem lkX5_knowsWay_f42 : Cond.fieldLink RX5 42 "MapCarrierModel" "thrown" "I" ∈ wsX5_knowsWay := List.mem_of_getElem? (i := 1) (by decide +kernel)
set_option maxRecDepth 20000 in
theorem inX5_addPlace_X5 : ∀ w ∈ u_ws RX5 TX5 12, w ∈ wsX5_addPlace := fun _ h => List.mem_cons_of_mem _ (List.mem_append_left _ (List.mem_append_right _ h))
set_option maxRecDepth 20000 in
theorem lkX5_addPlace_f42 : Cond.fieldLink RX5 42 "MapCarrierModel" "thrown" "I" ∈ wsX5_addPlace := List.mem_of_getElem? (i := 1) (by decide +kernel)
set_option maxRecDepth 20000 in
theorem lkX5_addPlace_f46 : Cond.fieldLink RX5 46 "MapCarrierModel" "places" "I" ∈ wsX5_addPlace := List.mem_of_getElem? (i := 2) (by decide +kernel)
set_option maxRecDepth 20000 in
theorem lkX5_addPlace_f35 : Cond.fieldLink RX5 35 "MapCarrierModel" "s" "LMapCarrierModel$State;" ∈ wsX5_addPlace := List.mem_of_getElem? (i := 3) (by decide +kernel)
set_option maxRecDepth 20000 in
theorem inX5_addPlace_X4 : ∀ w ∈ u_ws RX4 TX4 14, w ∈ wsX5_addPlace := fun _ h => List.mem_cons_of_mem _ (List.mem_append_right _ h)
set_option maxRecDepth 20000 in
theorem inX5_addExit_X5 : ∀ w ∈ u_ws RX5 TX5 12, w ∈ wsX5_addExit := fun _ h => List.mem_cons_of_mem _ (List.mem_append_right _ h)
set_option maxRecDepth 20000 in
theorem lkX5_addExit_f13 : Cond.fieldLink RX5 13 "MapCarrierModel" "road" "[I" ∈ wsX5_addExit := List.mem_of_getElem? (i := 1) (by decide +kernel)
set_option maxRecDepth 20000 in
theorem lkX5_addExit_f9 : Cond.fieldLink RX5 9 "MapCarrierModel" "exits" "[I" ∈ wsX5_addExit := List.mem_of_getElem? (i := 2) (by decide +kernel)
set_option maxRecDepth 20000 in
theorem lkX5_addExit_f64 : Cond.fieldLink RX5 64 "MapCarrierModel" "roads" "I" ∈ wsX5_addExit := List.mem_of_getElem? (i := 3) (by decide +kernel)
set_option maxRecDepth 20000 in
theorem lkX5_addExit_f16 : Cond.fieldLink RX5 16 "MapCarrierModel" "to" "[I" ∈ wsX5_addExit := List.mem_of_getElem? (i := 4) (by decide +kernel)
set_option maxRecDepth 20000 in
theorem inX5_addRoad_X5 : ∀ w ∈ u_ws RX5 TX5 12, w ∈ wsX5_addRoad := fun _ h => List.mem_cons_of_mem _ (List.mem_append_left _ (List.mem_append_right _ h))
set_option maxRecDepth 20000 in
theorem lkX5_addRoad_f42 : Cond.fieldLink RX5 42 "MapCarrierModel" "thrown" "I" ∈ wsX5_addRoad := List.mem_of_getElem? (i := 1) (by decide +kernel)
set_option maxRecDepth 20000 in
theorem lkX5_addRoad_f9 : Cond.fieldLink RX5 9 "MapCarrierModel" "exits" "[I" ∈ wsX5_addRoad := List.mem_of_getElem? (i := 2) (by decide +kernel)
set_option maxRecDepth 20000 in
theorem lkX5_addRoad_f19 : Cond.fieldLink RX5 19 "MapCarrierModel" "miles" "[I" ∈ wsX5_addRoad := List.mem_of_getElem? (i := 3) (by decide +kernel)
set_option maxRecDepth 20000 in
theorem lkX5_addRoad_f64 : Cond.fieldLink RX5 64 "MapCarrierModel" "roads" "I" ∈ wsX5_addRoad := List.mem_of_getElem? (i := 4) (by decide +kernel)
set_option maxRecDepth 20000 in
theorem lkX5_addRoad_f22 : Cond.fieldLink RX5 22 "MapCarrierModel" "isClosed" "[Z" ∈ wsX5_addRoad := List.mem_of_getElem? (i := 5) (by decide +kernel)
set_option maxRecDepth 20000 in
theorem lkX5_addRoad_f35 : Cond.fieldLink RX5 35 "MapCarrierModel" "s" "LMapCarrierModel$State;" ∈ wsX5_addRoad := List.mem_of_getElem? (i := 6) (by decide +kernel)
set_option maxRecDepth 20000 in
theorem inX5_addRoad_X4 : ∀ w ∈ u_ws RX4 TX4 14, w ∈ wsX5_addRoad := fun _ h => List.mem_cons_of_mem _ (List.mem_append_right _ h)
set_option maxRecDepth 20000 in
theorem inX5_walkTo_X5 : ∀ w ∈ u_ws RX5 TX5 12, w ∈ wsX5_walkTo := fun _ h => List.mem_cons_of_mem _ (List.mem_append_left _ (List.mem_append_right _ h))
set_option maxRecDepth 20000 in
theorem lkX5_walkTo_f39 : Cond.fieldLink RX5 39 "MapCarrierModel" "ahead" "LMapCarrierModel$State;" ∈ wsX5_walkTo := List.mem_of_getElem? (i := 1) (by decide +kernel)
set_option maxRecDepth 20000 in
theorem lkX5_walkTo_f35 : Cond.fieldLink RX5 35 "MapCarrierModel" "s" "LMapCarrierModel$State;" ∈ wsX5_walkTo := List.mem_of_getElem? (i := 2) (by decide +kernel)
set_option maxRecDepth 20000 in
theorem inX5_walkTo_X4 : ∀ w ∈ u_ws RX4 TX4 14, w ∈ wsX5_walkTo := fun _ h => List.mem_cons_of_mem _ (List.mem_append_right _ h)
set_option maxRecDepth 20000 in
theorem inX5_wouldWalk_X5 : ∀ w ∈ u_ws RX5 TX5 12, w ∈ wsX5_wouldWalk := fun _ h => List.mem_cons_of_mem _ (List.mem_append_left _ (List.mem_append_right _ h))
set_option maxRecDepth 20000 in
theorem lkX5_wouldWalk_f42 : Cond.fieldLink RX5 42 "MapCarrierModel" "thrown" "I" ∈ wsX5_wouldWalk := List.mem_of_getElem? (i := 1) (by decide +kernel)
set_option maxRecDepth 20000 in
theorem lkX5_wouldWalk_f35 : Cond.fieldLink RX5 35 "MapCarrierModel" "s" "LMapCarrierModel$State;" ∈ wsX5_wouldWalk := List.mem_of_getElem? (i := 2) (by decide +kernel)
set_option maxRecDepth 20000 in
theorem inX5_wouldWalk_X4 : ∀ w ∈ u_ws RX4 TX4 14, w ∈ wsX5_wouldWalk := fun _ h => List.mem_cons_of_mem _ (List.mem_append_right _ h)
set_option maxRecDepth 20000 in
theorem inX5_helper_X5 : ∀ w ∈ u_ws RX5 TX5 12, w ∈ wsX5_helper := fun _ h => List.mem_cons_of_mem _ (List.mem_append_left _ (List.mem_append_right _ h))
set_option maxRecDepth 20000 in
theorem lkX5_helper_f46 : Cond.fieldLink RX5 46 "MapCarrierModel" "places" "I" ∈ wsX5_helper := List.mem_of_getElem? (i := 1) (by decide +kernel)
set_option maxRecDepth 20000 in
theorem lkX5_helper_f26 : Cond.fieldLink RX5 26 "MapCarrierModel" "shepherd" "[Z" ∈ wsX5_helper := List.mem_of_getElem? (i := 2) (by decide +kernel)
set_option maxRecDepth 20000 in
theorem inX5_bestShepherd_X5 : ∀ w ∈ u_ws RX5 TX5 12, w ∈ wsX5_bestShepherd := fun _ h => List.mem_cons_of_mem _ (List.mem_append_left _ (List.mem_append_right _ h))
set_option maxRecDepth 20000 in
theorem lkX5_bestShepherd_f42 : Cond.fieldLink RX5 42 "MapCarrierModel" "thrown" "I" ∈ wsX5_bestShepherd := List.mem_of_getElem? (i := 1) (by decide +kernel)
set_option maxRecDepth 20000 in
theorem lkX5_bestShepherd_f35 : Cond.fieldLink RX5 35 "MapCarrierModel" "s" "LMapCarrierModel$State;" ∈ wsX5_bestShepherd := List.mem_of_getElem? (i := 2) (by decide +kernel)
set_option maxRecDepth 20000 in
theorem inX5_bestShepherd_X4 : ∀ w ∈ u_ws RX4 TX4 14, w ∈ wsX5_bestShepherd := fun _ h => List.mem_cons_of_mem _ (List.mem_append_right _ h)
