set_option maxRecDepth 20000 in
theorem lkX3_mix_cL228 : Cond.constantLong RX3 228 (31) ∈ wsX3_mix := List.mem_of_getElem? (i := 1) (by decide +kernel)
set_option maxRecDepth 20000 in
theorem inX1_isPlace_X1 : ∀ w ∈ u_ws RX1 TX1 8, w ∈ wsX1_isPlace := fun _ h => List.mem_cons_of_mem _ (List.mem_append_right _ h)
set_option maxRecDepth 20000 in
theorem lkX1_isPlace_f34 : Cond.fieldLink RX1 34 "MapCarrier$Land" "places" "I" ∈ wsX1_isPlace := List.mem_of_getElem? (i := 1) (by decide +kernel)
set_option maxRecDepth 20000 in
theorem inX1_hasRoom_X1 : ∀ w ∈ u_ws RX1 TX1 8, w ∈ wsX1_hasRoom := fun _ h => List.mem_cons_of_mem _ (List.mem_append_right _ h)
set_option maxRecDepth 20000 in
theorem lkX1_hasRoom_f9 : Cond.fieldLink RX1 9 "MapCarrier$Land" "exits" "[I" ∈ wsX1_hasRoom := List.mem_of_getElem? (i := 1) (by decide +kernel)
set_option maxRecDepth 20000 in
theorem inX1_endAt_X1 : ∀ w ∈ u_ws RX1 TX1 8, w ∈ wsX1_endAt := fun _ h => List.mem_cons_of_mem _ (List.mem_append_right _ h)
set_option maxRecDepth 20000 in
theorem lkX1_endAt_f9 : Cond.fieldLink RX1 9 "MapCarrier$Land" "exits" "[I" ∈ wsX1_endAt := List.mem_of_getElem? (i := 1) (by decide +kernel)
set_option maxRecDepth 20000 in
theorem nkX1_56 : Cond.methodLinkNest RX1 56 yX3_isEnd "MapCarrier" ∈ xNest := by decide +kernel
set_option maxRecDepth 20000 in
theorem lkX1_opensAt_iiX3 : Cond.initialized RX3 ∈ wsX1_opensAt := List.mem_of_getElem? (i := 3) (by decide +kernel)
set_option maxRecDepth 20000 in
theorem lkX1_opensAt_isX3_isEnd : Cond.static yX3_isEnd ∈ wsX1_opensAt := List.mem_of_getElem? (i := 2) (by decide +kernel)
set_option maxRecDepth 20000 in
theorem inX1_opensAt_X1 : ∀ w ∈ u_ws RX1 TX1 8, w ∈ wsX1_opensAt := fun _ h => List.mem_cons_of_mem _ (List.mem_append_right _ h)
set_option maxRecDepth 20000 in
theorem lkX1_opensAt_f28 : Cond.fieldLink RX1 28 "MapCarrier$Land" "open" "[Z" ∈ wsX1_opensAt := List.mem_of_getElem? (i := 1) (by decide +kernel)
set_option maxRecDepth 20000 in
theorem lkX1_milesAt_iiX3 : Cond.initialized RX3 ∈ wsX1_milesAt := List.mem_of_getElem? (i := 3) (by decide +kernel)
set_option maxRecDepth 20000 in
theorem lkX1_milesAt_isX3_isEnd : Cond.static yX3_isEnd ∈ wsX1_milesAt := List.mem_of_getElem? (i := 2) (by decide +kernel)
set_option maxRecDepth 20000 in
theorem inX1_milesAt_X1 : ∀ w ∈ u_ws RX1 TX1 8, w ∈ wsX1_milesAt := fun _ h => List.mem_cons_of_mem _ (List.mem_append_right _ h)
set_option maxRecDepth 20000 in
theorem lkX1_milesAt_f25 : Cond.fieldLink RX1 25 "MapCarrier$Land" "lengths" "[I" ∈ wsX1_milesAt := List.mem_of_getElem? (i := 1) (by decide +kernel)
set_option maxRecDepth 20000 in
theorem lkX1_twinOf_iiX3 : Cond.initialized RX3 ∈ wsX1_twinOf := List.mem_of_getElem? (i := 3) (by decide +kernel)
set_option maxRecDepth 20000 in
theorem lkX1_twinOf_isX3_isEnd : Cond.static yX3_isEnd ∈ wsX1_twinOf := List.mem_of_getElem? (i := 2) (by decide +kernel)
set_option maxRecDepth 20000 in
theorem inX1_twinOf_X1 : ∀ w ∈ u_ws RX1 TX1 8, w ∈ wsX1_twinOf := fun _ h => List.mem_cons_of_mem _ (List.mem_append_right _ h)
set_option maxRecDepth 20000 in
theorem lkX1_twinOf_f22 : Cond.fieldLink RX1 22 "MapCarrier$Land" "twins" "[I" ∈ wsX1_twinOf := List.mem_of_getElem? (i := 1) (by decide +kernel)
set_option maxRecDepth 20000 in
theorem lkX1_beyond_iiX3 : Cond.initialized RX3 ∈ wsX1_beyond := List.mem_of_getElem? (i := 3) (by decide +kernel)
set_option maxRecDepth 20000 in
theorem lkX1_beyond_isX3_isEnd : Cond.static yX3_isEnd ∈ wsX1_beyond := List.mem_of_getElem? (i := 2) (by decide +kernel)
set_option maxRecDepth 20000 in
theorem inX1_beyond_X1 : ∀ w ∈ u_ws RX1 TX1 8, w ∈ wsX1_beyond := fun _ h => List.mem_cons_of_mem _ (List.mem_append_right _ h)
set_option maxRecDepth 20000 in
theorem lkX1_beyond_f19 : Cond.fieldLink RX1 19 "MapCarrier$Land" "leads" "[I" ∈ wsX1_beyond := List.mem_of_getElem? (i := 1) (by decide +kernel)
set_option maxRecDepth 20000 in
theorem inX1_milesBy_X1 : ∀ w ∈ u_ws RX1 TX1 8, w ∈ wsX1_milesBy := fun _ h => List.mem_cons_of_mem _ (List.mem_append_right _ h)
set_option maxRecDepth 20000 in
theorem lkX1_milesBy_f28 : Cond.fieldLink RX1 28 "MapCarrier$Land" "open" "[Z" ∈ wsX1_milesBy := List.mem_of_getElem? (i := 1) (by decide +kernel)
set_option maxRecDepth 20000 in
theorem lkX1_milesBy_f19 : Cond.fieldLink RX1 19 "MapCarrier$Land" "leads" "[I" ∈ wsX1_milesBy := List.mem_of_getElem? (i := 3) (by decide +kernel)
set_option maxRecDepth 20000 in
theorem lkX1_milesBy_f25 : Cond.fieldLink RX1 25 "MapCarrier$Land" "lengths" "[I" ∈ wsX1_milesBy := List.mem_of_getElem? (i := 4) (by decide +kernel)
set_option maxRecDepth 20000 in
theorem lkX1_milesBy_f31 : Cond.fieldLink RX1 31 "MapCarrier$Land" "far" "[I" ∈ wsX1_milesBy := List.mem_of_getElem? (i := 5) (by decide +kernel)
set_option maxRecDepth 20000 in
theorem lkX1_milesBy_c63 : Cond.constant RX1 63 (1000000) ∈ wsX1_milesBy := List.mem_of_getElem? (i := 2) (by decide +kernel)
set_option maxRecDepth 20000 in
theorem inX1_layEnd_X1 : ∀ w ∈ u_ws RX1 TX1 8, w ∈ wsX1_layEnd := fun _ h => List.mem_cons_of_mem _ (List.mem_append_right _ h)
set_option maxRecDepth 20000 in
theorem lkX1_layEnd_f19 : Cond.fieldLink RX1 19 "MapCarrier$Land" "leads" "[I" ∈ wsX1_layEnd := List.mem_of_getElem? (i := 1) (by decide +kernel)
set_option maxRecDepth 20000 in
theorem nkX1_49 : Cond.methodLinkNest RX1 49 yX3_placeOfEnd "MapCarrier" ∈ xNest := by decide +kernel
set_option maxRecDepth 20000 in
theorem lkX1_layEnd_iiX3 : Cond.initialized RX3 ∈ wsX1_layEnd := List.mem_of_getElem? (i := 6) (by decide +kernel)
set_option maxRecDepth 20000 in
theorem lkX1_layEnd_isX3_placeOfEnd : Cond.static yX3_placeOfEnd ∈ wsX1_layEnd := List.mem_of_getElem? (i := 5) (by decide +kernel)
set_option maxRecDepth 20000 in
theorem lkX1_layEnd_f22 : Cond.fieldLink RX1 22 "MapCarrier$Land" "twins" "[I" ∈ wsX1_layEnd := List.mem_of_getElem? (i := 2) (by decide +kernel)
set_option maxRecDepth 20000 in
theorem lkX1_layEnd_f25 : Cond.fieldLink RX1 25 "MapCarrier$Land" "lengths" "[I" ∈ wsX1_layEnd := List.mem_of_getElem? (i := 3) (by decide +kernel)
set_option maxRecDepth 20000 in
theorem lkX1_layEnd_f28 : Cond.fieldLink RX1 28 "MapCarrier$Land" "open" "[Z" ∈ wsX1_layEnd := List.mem_of_getElem? (i := 4) (by decide +kernel)
set_option maxRecDepth 20000 in
theorem lkX1_turnEnd_iiX3 : Cond.initialized RX3 ∈ wsX1_turnEnd := List.mem_of_getElem? (i := 9) (by decide +kernel)
set_option maxRecDepth 20000 in
theorem lkX1_turnEnd_isX3_isEnd : Cond.static yX3_isEnd ∈ wsX1_turnEnd := List.mem_of_getElem? (i := 8) (by decide +kernel)
set_option maxRecDepth 20000 in
theorem inX1_turnEnd_X1 : ∀ w ∈ u_ws RX1 TX1 8, w ∈ wsX1_turnEnd := fun _ h => List.mem_cons_of_mem _ (List.mem_append_right _ h)
set_option maxRecDepth 20000 in
theorem lkX1_turnEnd_f28 : Cond.fieldLink RX1 28 "MapCarrier$Land" "open" "[Z" ∈ wsX1_turnEnd := List.mem_of_getElem? (i := 1) (by decide +kernel)
set_option maxRecDepth 20000 in
theorem inX1_join_X1 : ∀ w ∈ u_ws RX1 TX1 8, w ∈ wsX1_join := fun _ h => List.mem_cons_of_mem _ (List.mem_append_right _ h)
set_option maxRecDepth 20000 in
theorem lkX1_join_f9 : Cond.fieldLink RX1 9 "MapCarrier$Land" "exits" "[I" ∈ wsX1_join := List.mem_of_getElem? (i := 1) (by decide +kernel)
set_option maxRecDepth 20000 in
theorem inX1_measure_X1 : ∀ w ∈ u_ws RX1 TX1 8, w ∈ wsX1_measure := fun _ h => List.mem_cons_of_mem _ (List.mem_append_right _ h)
set_option maxRecDepth 20000 in
theorem lkX1_measure_f31 : Cond.fieldLink RX1 31 "MapCarrier$Land" "far" "[I" ∈ wsX1_measure := List.mem_of_getElem? (i := 1) (by decide +kernel)
set_option maxRecDepth 20000 in
theorem lkX1_measure_c63 : Cond.constant RX1 63 (1000000) ∈ wsX1_measure := List.mem_of_getElem? (i := 2) (by decide +kernel)
set_option maxRecDepth 20000 in
theorem lkX1_measure_iiX3 : Cond.initialized RX3 ∈ wsX1_measure := List.mem_of_getElem? (i := 21) (by decide +kernel)
set_option maxRecDepth 20000 in
theorem lkX1_measure_isX3_placeOfEnd : Cond.static yX3_placeOfEnd ∈ wsX1_measure := List.mem_of_getElem? (i := 20) (by decide +kernel)
set_option maxRecDepth 20000 in
theorem inX1_shortest_X1 : ∀ w ∈ u_ws RX1 TX1 8, w ∈ wsX1_shortest := fun _ h => List.mem_cons_of_mem _ (List.mem_append_right _ h)
set_option maxRecDepth 20000 in
theorem lkX1_shortest_f31 : Cond.fieldLink RX1 31 "MapCarrier$Land" "far" "[I" ∈ wsX1_shortest := List.mem_of_getElem? (i := 1) (by decide +kernel)
set_option maxRecDepth 20000 in
theorem lkX1_shortest_c63 : Cond.constant RX1 63 (1000000) ∈ wsX1_shortest := List.mem_of_getElem? (i := 2) (by decide +kernel)
set_option maxRecDepth 20000 in
theorem inX1_endTowards_X1 : ∀ w ∈ u_ws RX1 TX1 8, w ∈ wsX1_endTowards := fun _ h => List.mem_cons_of_mem _ (List.mem_append_right _ h)
set_option maxRecDepth 20000 in
theorem lkX1_endTowards_f31 : Cond.fieldLink RX1 31 "MapCarrier$Land" "far" "[I" ∈ wsX1_endTowards := List.mem_of_getElem? (i := 1) (by decide +kernel)
set_option maxRecDepth 20000 in
theorem lkX1_endTowards_c63 : Cond.constant RX1 63 (1000000) ∈ wsX1_endTowards := List.mem_of_getElem? (i := 2) (by decide +kernel)
set_option maxRecDepth 20000 in
theorem lkX1_endTowards_f9 : Cond.fieldLink RX1 9 "MapCarrier$Land" "exits" "[I" ∈ wsX1_endTowards := List.mem_of_getElem? (i := 3) (by decide +kernel)
set_option maxRecDepth 20000 in
theorem inX2_exitFor_X2 : ∀ w ∈ u_ws RX2 TX2 2, w ∈ wsX2_exitFor := fun _ h => List.mem_cons_of_mem _ (List.mem_append_right _ h)
set_option maxRecDepth 20000 in
theorem lkX2_exitFor_f15 : Cond.fieldLink RX2 15 "MapCarrier$Memory" "strengths" "[I" ∈ wsX2_exitFor := List.mem_of_getElem? (i := 1) (by decide +kernel)
set_option maxRecDepth 20000 in
theorem lkX2_exitFor_f9 : Cond.fieldLink RX2 9 "MapCarrier$Memory" "exits" "[I" ∈ wsX2_exitFor := List.mem_of_getElem? (i := 2) (by decide +kernel)
set_option maxRecDepth 20000 in
theorem inX2_strengthFor_X2 : ∀ w ∈ u_ws RX2 TX2 2, w ∈ wsX2_strengthFor := fun _ h => List.mem_cons_of_mem _ (List.mem_append_right _ h)
set_option maxRecDepth 20000 in
theorem lkX2_strengthFor_f15 : Cond.fieldLink RX2 15 "MapCarrier$Memory" "strengths" "[I" ∈ wsX2_strengthFor := List.mem_of_getElem? (i := 1) (by decide +kernel)
set_option maxRecDepth 20000 in
theorem inX2_learn_X2 : ∀ w ∈ u_ws RX2 TX2 2, w ∈ wsX2_learn := fun _ h => List.mem_cons_of_mem _ (List.mem_append_right _ h)
set_option maxRecDepth 20000 in
theorem lkX2_learn_f9 : Cond.fieldLink RX2 9 "MapCarrier$Memory" "exits" "[I" ∈ wsX2_learn := List.mem_of_getElem? (i := 1) (by decide +kernel)
set_option maxRecDepth 20000 in
theorem lkX2_learn_f15 : Cond.fieldLink RX2 15 "MapCarrier$Memory" "strengths" "[I" ∈ wsX2_learn := List.mem_of_getElem? (i := 2) (by decide +kernel)
set_option maxRecDepth 20000 in
theorem inX2_confirm_X2 : ∀ w ∈ u_ws RX2 TX2 2, w ∈ wsX2_confirm := fun _ h => List.mem_cons_of_mem _ (List.mem_append_right _ h)
set_option maxRecDepth 20000 in
theorem lkX2_confirm_f15 : Cond.fieldLink RX2 15 "MapCarrier$Memory" "strengths" "[I" ∈ wsX2_confirm := List.mem_of_getElem? (i := 1) (by decide +kernel)
set_option maxRecDepth 20000 in
theorem lkX2_confirm_f9 : Cond.fieldLink RX2 9 "MapCarrier$Memory" "exits" "[I" ∈ wsX2_confirm := List.mem_of_getElem? (i := 2) (by decide +kernel)
set_option maxRecDepth 20000 in
theorem lkX2_confirm_m22 : Cond.methodLink RX2 22 Lib.Math.min.name ∈ wsX2_confirm := List.mem_of_getElem? (i := 3) (by decide +kernel)
set_option maxRecDepth 20000 in
theorem lkX2_confirm_msmin : Cond.static Lib.Math.min.name ∈ wsX2_confirm := List.mem_of_getElem? (i := 4) (by decide +kernel)
set_option maxRecDepth 20000 in
theorem lkX2_confirm_mi : Cond.initialized "java/lang/Math" ∈ wsX2_confirm := List.mem_of_getElem? (i := 5) (by decide +kernel)
set_option maxRecDepth 20000 in
theorem lkX2_confirm_mcmin : Cond.code Lib.Math.min.name Lib.Math.min.code 2 (some .int) ∈ wsX2_confirm := List.mem_of_getElem? (i := 6) (by decide +kernel)
set_option maxRecDepth 20000 in
theorem inX2_fade_X2 : ∀ w ∈ u_ws RX2 TX2 2, w ∈ wsX2_fade := fun _ h => List.mem_cons_of_mem _ (List.mem_append_right _ h)
set_option maxRecDepth 20000 in
theorem lkX2_fade_f15 : Cond.fieldLink RX2 15 "MapCarrier$Memory" "strengths" "[I" ∈ wsX2_fade := List.mem_of_getElem? (i := 1) (by decide +kernel)
set_option maxRecDepth 20000 in
theorem lkX2_fade_m31 : Cond.methodLink RX2 31 Lib.Math.max.name ∈ wsX2_fade := List.mem_of_getElem? (i := 2) (by decide +kernel)
set_option maxRecDepth 20000 in
theorem lkX2_fade_msmax : Cond.static Lib.Math.max.name ∈ wsX2_fade := List.mem_of_getElem? (i := 3) (by decide +kernel)
set_option maxRecDepth 20000 in
theorem lkX2_fade_mi : Cond.initialized "java/lang/Math" ∈ wsX2_fade := List.mem_of_getElem? (i := 4) (by decide +kernel)
set_option maxRecDepth 20000 in
theorem lkX2_fade_mcmax : Cond.code Lib.Math.max.name Lib.Math.max.code 2 (some .int) ∈ wsX2_fade := List.mem_of_getElem? (i := 5) (by decide +kernel)
set_option maxRecDepth 20000 in
theorem inX2_copyFrom_X2 : ∀ w ∈ u_ws RX2 TX2 2, w ∈ wsX2_copyFrom := fun _ h => List.mem_cons_of_mem _ (List.mem_append_right _ h)
set_option maxRecDepth 20000 in
theorem lkX2_copyFrom_f9 : Cond.fieldLink RX2 9 "MapCarrier$Memory" "exits" "[I" ∈ wsX2_copyFrom := List.mem_of_getElem? (i := 1) (by decide +kernel)
set_option maxRecDepth 20000 in
theorem lkX2_copyFrom_m34 : Cond.methodLink RX2 34 arraycopyName ∈ wsX2_copyFrom := List.mem_of_getElem? (i := 2) (by decide +kernel)
set_option maxRecDepth 20000 in
theorem lkX2_copyFrom_cn : Cond.native arraycopyName ∈ wsX2_copyFrom := List.mem_of_getElem? (i := 3) (by decide +kernel)
set_option maxRecDepth 20000 in
theorem lkX2_copyFrom_cs : Cond.static arraycopyName ∈ wsX2_copyFrom := List.mem_of_getElem? (i := 4) (by decide +kernel)
set_option maxRecDepth 20000 in
theorem lkX2_copyFrom_ci : Cond.initialized "java/lang/System" ∈ wsX2_copyFrom := List.mem_of_getElem? (i := 5) (by decide +kernel)
set_option maxRecDepth 20000 in
theorem lkX2_copyFrom_f15 : Cond.fieldLink RX2 15 "MapCarrier$Memory" "strengths" "[I" ∈ wsX2_copyFrom := List.mem_of_getElem? (i := 6) (by decide +kernel)
set_option maxRecDepth 20000 in
theorem inX0_isUnderway_X0 : ∀ w ∈ u_ws RX0 TX0 15, w ∈ wsX0_isUnderway := fun _ h => List.mem_cons_of_mem _ (List.mem_append_right _ h)
set_option maxRecDepth 20000 in
theorem lkX0_isUnderway_f18 : Cond.fieldLink RX0 18 "MapCarrier$Carrier" "goal" "I" ∈ wsX0_isUnderway := List.mem_of_getElem? (i := 1) (by decide +kernel)
set_option maxRecDepth 20000 in
theorem nkX0_56 : Cond.methodLinkNest RX0 56 yX3_isEnd "MapCarrier" ∈ xNest := by decide +kernel
set_option maxRecDepth 20000 in
theorem lkX0_hasTried_iiX3 : Cond.initialized RX3 ∈ wsX0_hasTried := List.mem_of_getElem? (i := 3) (by decide +kernel)
set_option maxRecDepth 20000 in
theorem lkX0_hasTried_isX3_isEnd : Cond.static yX3_isEnd ∈ wsX0_hasTried := List.mem_of_getElem? (i := 2) (by decide +kernel)
set_option maxRecDepth 20000 in
theorem inX0_hasTried_X0 : ∀ w ∈ u_ws RX0 TX0 15, w ∈ wsX0_hasTried := fun _ h => List.mem_cons_of_mem _ (List.mem_append_right _ h)
set_option maxRecDepth 20000 in
theorem lkX0_hasTried_f26 : Cond.fieldLink RX0 26 "MapCarrier$Carrier" "tried" "[Z" ∈ wsX0_hasTried := List.mem_of_getElem? (i := 1) (by decide +kernel)
set_option maxRecDepth 20000 in
theorem inX0_endErrand_X0 : ∀ w ∈ u_ws RX0 TX0 15, w ∈ wsX0_endErrand := fun _ h => List.mem_cons_of_mem _ (List.mem_append_right _ h)
set_option maxRecDepth 20000 in
theorem lkX0_endErrand_f18 : Cond.fieldLink RX0 18 "MapCarrier$Carrier" "goal" "I" ∈ wsX0_endErrand := List.mem_of_getElem? (i := 1) (by decide +kernel)
set_option maxRecDepth 20000 in
theorem lkX0_endErrand_f64 : Cond.fieldLink RX0 64 "MapCarrier$Carrier" "wayLength" "I" ∈ wsX0_endErrand := List.mem_of_getElem? (i := 2) (by decide +kernel)
set_option maxRecDepth 20000 in
theorem inX0_begin_X0 : ∀ w ∈ u_ws RX0 TX0 15, w ∈ wsX0_begin := fun _ h => List.mem_cons_of_mem _ (List.mem_append_right _ h)
set_option maxRecDepth 20000 in
theorem lkX0_begin_f26 : Cond.fieldLink RX0 26 "MapCarrier$Carrier" "tried" "[Z" ∈ wsX0_begin := List.mem_of_getElem? (i := 1) (by decide +kernel)
set_option maxRecDepth 20000 in
theorem lkX0_begin_f30 : Cond.fieldLink RX0 30 "MapCarrier$Carrier" "askedAt" "[Z" ∈ wsX0_begin := List.mem_of_getElem? (i := 2) (by decide +kernel)
set_option maxRecDepth 20000 in
theorem lkX0_begin_f64 : Cond.fieldLink RX0 64 "MapCarrier$Carrier" "wayLength" "I" ∈ wsX0_begin := List.mem_of_getElem? (i := 3) (by decide +kernel)
set_option maxRecDepth 20000 in
theorem lkX0_begin_f18 : Cond.fieldLink RX0 18 "MapCarrier$Carrier" "goal" "I" ∈ wsX0_begin := List.mem_of_getElem? (i := 4) (by decide +kernel)
set_option maxRecDepth 20000 in
theorem lkX0_begin_f40 : Cond.fieldLink RX0 40 "MapCarrier$Carrier" "at" "I" ∈ wsX0_begin := List.mem_of_getElem? (i := 5) (by decide +kernel)
set_option maxRecDepth 20000 in
theorem lkX0_begin_f67 : Cond.fieldLink RX0 67 "MapCarrier$Carrier" "done" "I" ∈ wsX0_begin := List.mem_of_getElem? (i := 6) (by decide +kernel)
set_option maxRecDepth 20000 in
theorem inX0_startLike_X0 : ∀ w ∈ u_ws RX0 TX0 15, w ∈ wsX0_startLike := fun _ h => List.mem_cons_of_mem _ (List.mem_append_left _ (List.mem_append_right _ h))
set_option maxRecDepth 20000 in
theorem lkX0_startLike_f40 : Cond.fieldLink RX0 40 "MapCarrier$Carrier" "at" "I" ∈ wsX0_startLike := List.mem_of_getElem? (i := 1) (by decide +kernel)
set_option maxRecDepth 20000 in
theorem lkX0_startLike_f43 : Cond.fieldLink RX0 43 "MapCarrier$Carrier" "coins" "I" ∈ wsX0_startLike := List.mem_of_getElem? (i := 2) (by decide +kernel)
set_option maxRecDepth 20000 in
theorem lkX0_startLike_f12 : Cond.fieldLink RX0 12 "MapCarrier$Carrier" "memory" "LMapCarrier$Memory;" ∈ wsX0_startLike := List.mem_of_getElem? (i := 3) (by decide +kernel)
set_option maxRecDepth 20000 in
theorem lkX0_startLike_f33 : Cond.fieldLink RX0 33 "MapCarrier$Carrier" "guest" "I" ∈ wsX0_startLike := List.mem_of_getElem? (i := 4) (by decide +kernel)
set_option maxRecDepth 20000 in
theorem lkX0_startLike_f50 : Cond.fieldLink RX0 50 "MapCarrier$Carrier" "walked" "I" ∈ wsX0_startLike := List.mem_of_getElem? (i := 5) (by decide +kernel)
set_option maxRecDepth 20000 in
theorem lkX0_startLike_f53 : Cond.fieldLink RX0 53 "MapCarrier$Carrier" "inVain" "I" ∈ wsX0_startLike := List.mem_of_getElem? (i := 6) (by decide +kernel)
set_option maxRecDepth 20000 in
theorem lkX0_canTake_iiX3 : Cond.initialized RX3 ∈ wsX0_canTake := List.mem_of_getElem? (i := 4) (by decide +kernel)
set_option maxRecDepth 20000 in
theorem lkX0_canTake_isX3_isEnd : Cond.static yX3_isEnd ∈ wsX0_canTake := List.mem_of_getElem? (i := 3) (by decide +kernel)
set_option maxRecDepth 20000 in
theorem inX0_canTake_X0 : ∀ w ∈ u_ws RX0 TX0 15, w ∈ wsX0_canTake := fun _ h => List.mem_cons_of_mem _ (List.mem_append_left _ (List.mem_append_right _ h))
set_option maxRecDepth 20000 in
theorem lkX0_canTake_f36 : Cond.fieldLink RX0 36 "MapCarrier$Carrier" "land" "LMapCarrier$Land;" ∈ wsX0_canTake := List.mem_of_getElem? (i := 1) (by decide +kernel)
set_option maxRecDepth 20000 in
theorem inX0_canTake_X1 : ∀ w ∈ u_ws RX1 TX1 8, w ∈ wsX0_canTake := fun _ h => List.mem_cons_of_mem _ (List.mem_append_right _ h)
set_option maxRecDepth 20000 in
theorem nkX0_93 : Cond.fieldLinkNest RX0 93 "MapCarrier$Land" "open" "[Z" "MapCarrier" ∈ xNest := by decide +kernel
set_option maxRecDepth 20000 in
theorem lkX0_canTake_f26 : Cond.fieldLink RX0 26 "MapCarrier$Carrier" "tried" "[Z" ∈ wsX0_canTake := List.mem_of_getElem? (i := 2) (by decide +kernel)
set_option maxRecDepth 20000 in
theorem inX0_rememberedEnd_X0 : ∀ w ∈ u_ws RX0 TX0 15, w ∈ wsX0_rememberedEnd := fun _ h => List.mem_cons_of_mem _ (List.mem_append_left _ (List.mem_append_left _ (List.mem_append_right _ h)))
set_option maxRecDepth 20000 in
theorem lkX0_rememberedEnd_f36 : Cond.fieldLink RX0 36 "MapCarrier$Carrier" "land" "LMapCarrier$Land;" ∈ wsX0_rememberedEnd := List.mem_of_getElem? (i := 1) (by decide +kernel)
set_option maxRecDepth 20000 in
theorem lkX0_rememberedEnd_f40 : Cond.fieldLink RX0 40 "MapCarrier$Carrier" "at" "I" ∈ wsX0_rememberedEnd := List.mem_of_getElem? (i := 2) (by decide +kernel)
set_option maxRecDepth 20000 in
theorem lkX0_rememberedEnd_f12 : Cond.fieldLink RX0 12 "MapCarrier$Carrier" "memory" "LMapCarrier$Memory;" ∈ wsX0_rememberedEnd := List.mem_of_getElem? (i := 3) (by decide +kernel)
set_option maxRecDepth 20000 in
theorem lkX0_rememberedEnd_f18 : Cond.fieldLink RX0 18 "MapCarrier$Carrier" "goal" "I" ∈ wsX0_rememberedEnd := List.mem_of_getElem? (i := 4) (by decide +kernel)
set_option maxRecDepth 20000 in
theorem inX0_askedEnd_X0 : ∀ w ∈ u_ws RX0 TX0 15, w ∈ wsX0_askedEnd := fun _ h => List.mem_cons_of_mem _ (List.mem_append_left _ (List.mem_append_left _ (List.mem_append_right _ h)))
set_option maxRecDepth 20000 in
theorem lkX0_askedEnd_f36 : Cond.fieldLink RX0 36 "MapCarrier$Carrier" "land" "LMapCarrier$Land;" ∈ wsX0_askedEnd := List.mem_of_getElem? (i := 1) (by decide +kernel)
set_option maxRecDepth 20000 in
theorem lkX0_askedEnd_f40 : Cond.fieldLink RX0 40 "MapCarrier$Carrier" "at" "I" ∈ wsX0_askedEnd := List.mem_of_getElem? (i := 2) (by decide +kernel)
set_option maxRecDepth 20000 in
theorem inX0_askedEnd_X1 : ∀ w ∈ u_ws RX1 TX1 8, w ∈ wsX0_askedEnd := fun _ h => List.mem_cons_of_mem _ (List.mem_append_left _ (List.mem_append_right _ h))
set_option maxRecDepth 20000 in
theorem nkX0_111 : Cond.fieldLinkNest RX0 111 "MapCarrier$Land" "shepherds" "[Z" "MapCarrier" ∈ xNest := by decide +kernel
set_option maxRecDepth 20000 in
theorem lkX0_askedEnd_f30 : Cond.fieldLink RX0 30 "MapCarrier$Carrier" "askedAt" "[Z" ∈ wsX0_askedEnd := List.mem_of_getElem? (i := 4) (by decide +kernel)
set_option maxRecDepth 20000 in
theorem lkX0_askedEnd_f43 : Cond.fieldLink RX0 43 "MapCarrier$Carrier" "coins" "I" ∈ wsX0_askedEnd := List.mem_of_getElem? (i := 5) (by decide +kernel)
set_option maxRecDepth 20000 in
theorem lkX0_askedEnd_f114 : Cond.fieldLink RX0 114 "MapCarrier$Carrier" "questions" "I" ∈ wsX0_askedEnd := List.mem_of_getElem? (i := 6) (by decide +kernel)
set_option maxRecDepth 20000 in
theorem lkX0_askedEnd_f18 : Cond.fieldLink RX0 18 "MapCarrier$Carrier" "goal" "I" ∈ wsX0_askedEnd := List.mem_of_getElem? (i := 7) (by decide +kernel)
set_option maxRecDepth 20000 in
theorem lkX0_askedEnd_f12 : Cond.fieldLink RX0 12 "MapCarrier$Carrier" "memory" "LMapCarrier$Memory;" ∈ wsX0_askedEnd := List.mem_of_getElem? (i := 8) (by decide +kernel)
set_option maxRecDepth 20000 in
theorem nkX0_120 : Cond.methodLinkNest RX0 120 yX3_exitOfEnd "MapCarrier" ∈ xNest := by decide +kernel
set_option maxRecDepth 20000 in
theorem lkX0_askedEnd_iiX3 : Cond.initialized RX3 ∈ wsX0_askedEnd := List.mem_of_getElem? (i := 39) (by decide +kernel)
set_option maxRecDepth 20000 in
theorem lkX0_askedEnd_isX3_exitOfEnd : Cond.static yX3_exitOfEnd ∈ wsX0_askedEnd := List.mem_of_getElem? (i := 41) (by decide +kernel)
set_option maxRecDepth 20000 in
theorem lkX0_askedEnd_f33 : Cond.fieldLink RX0 33 "MapCarrier$Carrier" "guest" "I" ∈ wsX0_askedEnd := List.mem_of_getElem? (i := 3) (by decide +kernel)
set_option maxRecDepth 20000 in
theorem inX0_firstUntried_X0 : ∀ w ∈ u_ws RX0 TX0 15, w ∈ wsX0_firstUntried := fun _ h => List.mem_cons_of_mem _ (List.mem_append_left _ (List.mem_append_right _ h))
set_option maxRecDepth 20000 in
theorem lkX0_firstUntried_f40 : Cond.fieldLink RX0 40 "MapCarrier$Carrier" "at" "I" ∈ wsX0_firstUntried := List.mem_of_getElem? (i := 1) (by decide +kernel)
set_option maxRecDepth 20000 in
theorem inX0_take_X0 : ∀ w ∈ u_ws RX0 TX0 15, w ∈ wsX0_take := fun _ h => List.mem_cons_of_mem _ (List.mem_append_left _ (List.mem_append_right _ h))
set_option maxRecDepth 20000 in
theorem lkX0_take_f36 : Cond.fieldLink RX0 36 "MapCarrier$Carrier" "land" "LMapCarrier$Land;" ∈ wsX0_take := List.mem_of_getElem? (i := 1) (by decide +kernel)
set_option maxRecDepth 20000 in
theorem lkX0_take_iiX3 : Cond.initialized RX3 ∈ wsX0_take := List.mem_of_getElem? (i := 14) (by decide +kernel)
set_option maxRecDepth 20000 in
theorem lkX0_take_isX3_isEnd : Cond.static yX3_isEnd ∈ wsX0_take := List.mem_of_getElem? (i := 13) (by decide +kernel)
set_option maxRecDepth 20000 in
theorem lkX0_take_f64 : Cond.fieldLink RX0 64 "MapCarrier$Carrier" "wayLength" "I" ∈ wsX0_take := List.mem_of_getElem? (i := 2) (by decide +kernel)
set_option maxRecDepth 20000 in
theorem lkX0_take_f26 : Cond.fieldLink RX0 26 "MapCarrier$Carrier" "tried" "[Z" ∈ wsX0_take := List.mem_of_getElem? (i := 3) (by decide +kernel)
set_option maxRecDepth 20000 in
theorem lkX0_take_f22 : Cond.fieldLink RX0 22 "MapCarrier$Carrier" "way" "[I" ∈ wsX0_take := List.mem_of_getElem? (i := 4) (by decide +kernel)
set_option maxRecDepth 20000 in
theorem lkX0_take_f50 : Cond.fieldLink RX0 50 "MapCarrier$Carrier" "walked" "I" ∈ wsX0_take := List.mem_of_getElem? (i := 5) (by decide +kernel)
set_option maxRecDepth 20000 in
theorem nkX0_134 : Cond.methodLinkNest RX0 134 yX3_placeOfEnd "MapCarrier" ∈ xNest := by decide +kernel
set_option maxRecDepth 20000 in
theorem lkX0_take_isX3_placeOfEnd : Cond.static yX3_placeOfEnd ∈ wsX0_take := List.mem_of_getElem? (i := 21) (by decide +kernel)
set_option maxRecDepth 20000 in
theorem lkX0_take_f40 : Cond.fieldLink RX0 40 "MapCarrier$Carrier" "at" "I" ∈ wsX0_take := List.mem_of_getElem? (i := 6) (by decide +kernel)
set_option maxRecDepth 20000 in
theorem inX0_doubleBack_X0 : ∀ w ∈ u_ws RX0 TX0 15, w ∈ wsX0_doubleBack := fun _ h => List.mem_cons_of_mem _ (List.mem_append_left _ (List.mem_append_right _ h))
set_option maxRecDepth 20000 in
theorem lkX0_doubleBack_f64 : Cond.fieldLink RX0 64 "MapCarrier$Carrier" "wayLength" "I" ∈ wsX0_doubleBack := List.mem_of_getElem? (i := 1) (by decide +kernel)
set_option maxRecDepth 20000 in
theorem lkX0_doubleBack_f22 : Cond.fieldLink RX0 22 "MapCarrier$Carrier" "way" "[I" ∈ wsX0_doubleBack := List.mem_of_getElem? (i := 2) (by decide +kernel)
set_option maxRecDepth 20000 in
theorem lkX0_doubleBack_f36 : Cond.fieldLink RX0 36 "MapCarrier$Carrier" "land" "LMapCarrier$Land;" ∈ wsX0_doubleBack := List.mem_of_getElem? (i := 3) (by decide +kernel)
set_option maxRecDepth 20000 in
theorem lkX0_doubleBack_f50 : Cond.fieldLink RX0 50 "MapCarrier$Carrier" "walked" "I" ∈ wsX0_doubleBack := List.mem_of_getElem? (i := 4) (by decide +kernel)
set_option maxRecDepth 20000 in
theorem lkX0_doubleBack_f137 : Cond.fieldLink RX0 137 "MapCarrier$Carrier" "doubled" "I" ∈ wsX0_doubleBack := List.mem_of_getElem? (i := 5) (by decide +kernel)
set_option maxRecDepth 20000 in
theorem lkX0_doubleBack_iiX3 : Cond.initialized RX3 ∈ wsX0_doubleBack := List.mem_of_getElem? (i := 14) (by decide +kernel)
set_option maxRecDepth 20000 in
theorem lkX0_doubleBack_isX3_placeOfEnd : Cond.static yX3_placeOfEnd ∈ wsX0_doubleBack := List.mem_of_getElem? (i := 16) (by decide +kernel)
set_option maxRecDepth 20000 in
theorem lkX0_doubleBack_f40 : Cond.fieldLink RX0 40 "MapCarrier$Carrier" "at" "I" ∈ wsX0_doubleBack := List.mem_of_getElem? (i := 6) (by decide +kernel)
set_option maxRecDepth 20000 in
theorem inX0_rememberWay_X0 : ∀ w ∈ u_ws RX0 TX0 15, w ∈ wsX0_rememberWay := fun _ h => List.mem_cons_of_mem _ (List.mem_append_left _ (List.mem_append_right _ h))
set_option maxRecDepth 20000 in
theorem lkX0_rememberWay_f64 : Cond.fieldLink RX0 64 "MapCarrier$Carrier" "wayLength" "I" ∈ wsX0_rememberWay := List.mem_of_getElem? (i := 1) (by decide +kernel)
set_option maxRecDepth 20000 in
theorem lkX0_rememberWay_f12 : Cond.fieldLink RX0 12 "MapCarrier$Carrier" "memory" "LMapCarrier$Memory;" ∈ wsX0_rememberWay := List.mem_of_getElem? (i := 2) (by decide +kernel)
set_option maxRecDepth 20000 in
theorem lkX0_rememberWay_f18 : Cond.fieldLink RX0 18 "MapCarrier$Carrier" "goal" "I" ∈ wsX0_rememberWay := List.mem_of_getElem? (i := 3) (by decide +kernel)
set_option maxRecDepth 20000 in
theorem lkX0_rememberWay_f22 : Cond.fieldLink RX0 22 "MapCarrier$Carrier" "way" "[I" ∈ wsX0_rememberWay := List.mem_of_getElem? (i := 4) (by decide +kernel)
set_option maxRecDepth 20000 in
theorem lkX0_rememberWay_iiX3 : Cond.initialized RX3 ∈ wsX0_rememberWay := List.mem_of_getElem? (i := 6) (by decide +kernel)
set_option maxRecDepth 20000 in
theorem lkX0_rememberWay_isX3_placeOfEnd : Cond.static yX3_placeOfEnd ∈ wsX0_rememberWay := List.mem_of_getElem? (i := 5) (by decide +kernel)
set_option maxRecDepth 20000 in
theorem lkX0_rememberWay_isX3_exitOfEnd : Cond.static yX3_exitOfEnd ∈ wsX0_rememberWay := List.mem_of_getElem? (i := 8) (by decide +kernel)
set_option maxRecDepth 20000 in
theorem inX0_step_X0 : ∀ w ∈ u_ws RX0 TX0 15, w ∈ wsX0_step := fun _ h => List.mem_cons_of_mem _ (List.mem_append_left _ (List.mem_append_left _ (List.mem_append_right _ h)))
set_option maxRecDepth 20000 in
theorem lkX0_step_f40 : Cond.fieldLink RX0 40 "MapCarrier$Carrier" "at" "I" ∈ wsX0_step := List.mem_of_getElem? (i := 3) (by decide +kernel)
set_option maxRecDepth 20000 in
theorem lkX0_step_f18 : Cond.fieldLink RX0 18 "MapCarrier$Carrier" "goal" "I" ∈ wsX0_step := List.mem_of_getElem? (i := 4) (by decide +kernel)
set_option maxRecDepth 20000 in
theorem lkX0_step_f67 : Cond.fieldLink RX0 67 "MapCarrier$Carrier" "done" "I" ∈ wsX0_step := List.mem_of_getElem? (i := 5) (by decide +kernel)
set_option maxRecDepth 20000 in
theorem lkX0_step_f64 : Cond.fieldLink RX0 64 "MapCarrier$Carrier" "wayLength" "I" ∈ wsX0_step := List.mem_of_getElem? (i := 1) (by decide +kernel)
set_option maxRecDepth 20000 in
theorem lkX0_step_f53 : Cond.fieldLink RX0 53 "MapCarrier$Carrier" "inVain" "I" ∈ wsX0_step := List.mem_of_getElem? (i := 2) (by decide +kernel)
set_option maxRecDepth 20000 in
theorem inX0_findsByMemory_X0 : ∀ w ∈ u_ws RX0 TX0 15, w ∈ wsX0_findsByMemory := fun _ h => List.mem_cons_of_mem _ (List.mem_append_left _ (List.mem_append_left _ (List.mem_append_right _ h)))
set_option maxRecDepth 20000 in
theorem lkX0_findsByMemory_f40 : Cond.fieldLink RX0 40 "MapCarrier$Carrier" "at" "I" ∈ wsX0_findsByMemory := List.mem_of_getElem? (i := 1) (by decide +kernel)
set_option maxRecDepth 20000 in
theorem lkX0_findsByMemory_f36 : Cond.fieldLink RX0 36 "MapCarrier$Carrier" "land" "LMapCarrier$Land;" ∈ wsX0_findsByMemory := List.mem_of_getElem? (i := 2) (by decide +kernel)
set_option maxRecDepth 20000 in
theorem lkX0_findsByMemory_f12 : Cond.fieldLink RX0 12 "MapCarrier$Carrier" "memory" "LMapCarrier$Memory;" ∈ wsX0_findsByMemory := List.mem_of_getElem? (i := 3) (by decide +kernel)
set_option maxRecDepth 20000 in
theorem inX3_checkPlace_X3 : ∀ w ∈ u_ws RX3 TX3 3, w ∈ wsX3_checkPlace := fun _ h => List.mem_cons_of_mem _ (List.mem_append_left _ (List.mem_append_left _ (List.mem_append_right _ h)))
set_option maxRecDepth 20000 in
theorem lkX3_checkPlace_f12 : Cond.fieldLink RX3 12 "MapCarrier" "land" "LMapCarrier$Land;" ∈ wsX3_checkPlace := List.mem_of_getElem? (i := 3) (by decide +kernel)
set_option maxRecDepth 20000 in
theorem lkX3_checkPlace_c208 : Cond.classLink RX3 208 "java/lang/IndexOutOfBoundsException" ∈ wsX3_checkPlace := List.mem_of_getElem? (i := 1) (by decide +kernel)
set_option maxRecDepth 20000 in
theorem lkX3_checkPlace_ie1 : Cond.initialized "java/lang/IndexOutOfBoundsException" ∈ wsX3_checkPlace := List.mem_of_getElem? (i := 2) (by decide +kernel)
set_option maxRecDepth 20000 in
theorem inX3_checkedEnd_X3 : ∀ w ∈ u_ws RX3 TX3 3, w ∈ wsX3_checkedEnd := fun _ h => List.mem_cons_of_mem _ (List.mem_append_left _ (List.mem_append_left _ (List.mem_append_right _ h)))
set_option maxRecDepth 20000 in
theorem lkX3_checkedEnd_f12 : Cond.fieldLink RX3 12 "MapCarrier" "land" "LMapCarrier$Land;" ∈ wsX3_checkedEnd := List.mem_of_getElem? (i := 3) (by decide +kernel)
set_option maxRecDepth 20000 in
theorem lkX3_checkedEnd_c208 : Cond.classLink RX3 208 "java/lang/IndexOutOfBoundsException" ∈ wsX3_checkedEnd := List.mem_of_getElem? (i := 1) (by decide +kernel)
set_option maxRecDepth 20000 in
theorem lkX3_checkedEnd_ie1 : Cond.initialized "java/lang/IndexOutOfBoundsException" ∈ wsX3_checkedEnd := List.mem_of_getElem? (i := 2) (by decide +kernel)
set_option maxRecDepth 20000 in
theorem lkX3_checkRange_c43 : Cond.classLink RX3 43 "java/lang/IllegalArgumentException" ∈ wsX3_checkRange := List.mem_of_getElem? (i := 1) (by decide +kernel)
set_option maxRecDepth 20000 in
theorem lkX3_checkRange_ie2 : Cond.initialized "java/lang/IllegalArgumentException" ∈ wsX3_checkRange := List.mem_of_getElem? (i := 2) (by decide +kernel)
set_option maxRecDepth 20000 in
theorem inX3_checkIdle_X3 : ∀ w ∈ u_ws RX3 TX3 3, w ∈ wsX3_checkIdle := fun _ h => List.mem_cons_of_mem _ (List.mem_append_left _ (List.mem_append_left _ (List.mem_append_right _ h)))
set_option maxRecDepth 20000 in
theorem lkX3_checkIdle_f21 : Cond.fieldLink RX3 21 "MapCarrier" "carrier" "LMapCarrier$Carrier;" ∈ wsX3_checkIdle := List.mem_of_getElem? (i := 3) (by decide +kernel)
set_option maxRecDepth 20000 in
theorem lkX3_checkIdle_c32 : Cond.classLink RX3 32 "java/lang/IllegalStateException" ∈ wsX3_checkIdle := List.mem_of_getElem? (i := 1) (by decide +kernel)
set_option maxRecDepth 20000 in
theorem lkX3_checkIdle_ie3 : Cond.initialized "java/lang/IllegalStateException" ∈ wsX3_checkIdle := List.mem_of_getElem? (i := 2) (by decide +kernel)
set_option maxRecDepth 20000 in
theorem inX3_checkUnderway_X3 : ∀ w ∈ u_ws RX3 TX3 3, w ∈ wsX3_checkUnderway := fun _ h => List.mem_cons_of_mem _ (List.mem_append_left _ (List.mem_append_left _ (List.mem_append_right _ h)))
set_option maxRecDepth 20000 in
theorem lkX3_checkUnderway_f21 : Cond.fieldLink RX3 21 "MapCarrier" "carrier" "LMapCarrier$Carrier;" ∈ wsX3_checkUnderway := List.mem_of_getElem? (i := 3) (by decide +kernel)
set_option maxRecDepth 20000 in
theorem lkX3_checkUnderway_c32 : Cond.classLink RX3 32 "java/lang/IllegalStateException" ∈ wsX3_checkUnderway := List.mem_of_getElem? (i := 1) (by decide +kernel)
set_option maxRecDepth 20000 in
theorem lkX3_checkUnderway_ie3 : Cond.initialized "java/lang/IllegalStateException" ∈ wsX3_checkUnderway := List.mem_of_getElem? (i := 2) (by decide +kernel)
set_option maxRecDepth 20000 in
theorem inX3_places_X3 : ∀ w ∈ u_ws RX3 TX3 3, w ∈ wsX3_places := fun _ h => List.mem_cons_of_mem _ (List.mem_append_left _ (List.mem_append_right _ h))
set_option maxRecDepth 20000 in
theorem lkX3_places_f12 : Cond.fieldLink RX3 12 "MapCarrier" "land" "LMapCarrier$Land;" ∈ wsX3_places := List.mem_of_getElem? (i := 1) (by decide +kernel)
set_option maxRecDepth 20000 in
theorem inX3_places_X1 : ∀ w ∈ u_ws RX1 TX1 8, w ∈ wsX3_places := fun _ h => List.mem_cons_of_mem _ (List.mem_append_right _ h)
set_option maxRecDepth 20000 in
theorem nkX3_28 : Cond.fieldLinkNest RX3 28 "MapCarrier$Land" "places" "I" "MapCarrier" ∈ xNest := by decide +kernel
set_option maxRecDepth 20000 in
theorem inX3_coins_X3 : ∀ w ∈ u_ws RX3 TX3 3, w ∈ wsX3_coins := fun _ h => List.mem_cons_of_mem _ (List.mem_append_left _ (List.mem_append_right _ h))
set_option maxRecDepth 20000 in
theorem lkX3_coins_f21 : Cond.fieldLink RX3 21 "MapCarrier" "carrier" "LMapCarrier$Carrier;" ∈ wsX3_coins := List.mem_of_getElem? (i := 1) (by decide +kernel)
set_option maxRecDepth 20000 in
theorem inX3_coins_X0 : ∀ w ∈ u_ws RX0 TX0 15, w ∈ wsX3_coins := fun _ h => List.mem_cons_of_mem _ (List.mem_append_right _ h)
set_option maxRecDepth 20000 in
theorem nkX3_73 : Cond.fieldLinkNest RX3 73 "MapCarrier$Carrier" "coins" "I" "MapCarrier" ∈ xNest := by decide +kernel
set_option maxRecDepth 20000 in
theorem inX3_goal_X3 : ∀ w ∈ u_ws RX3 TX3 3, w ∈ wsX3_goal := fun _ h => List.mem_cons_of_mem _ (List.mem_append_left _ (List.mem_append_right _ h))
set_option maxRecDepth 20000 in
theorem lkX3_goal_f21 : Cond.fieldLink RX3 21 "MapCarrier" "carrier" "LMapCarrier$Carrier;" ∈ wsX3_goal := List.mem_of_getElem? (i := 1) (by decide +kernel)
set_option maxRecDepth 20000 in
theorem inX3_goal_X0 : ∀ w ∈ u_ws RX0 TX0 15, w ∈ wsX3_goal := fun _ h => List.mem_cons_of_mem _ (List.mem_append_right _ h)
set_option maxRecDepth 20000 in
theorem nkX3_132 : Cond.fieldLinkNest RX3 132 "MapCarrier$Carrier" "goal" "I" "MapCarrier" ∈ xNest := by decide +kernel
set_option maxRecDepth 20000 in
theorem inX3_wayLength_X3 : ∀ w ∈ u_ws RX3 TX3 3, w ∈ wsX3_wayLength := fun _ h => List.mem_cons_of_mem _ (List.mem_append_left _ (List.mem_append_right _ h))
set_option maxRecDepth 20000 in
theorem lkX3_wayLength_f21 : Cond.fieldLink RX3 21 "MapCarrier" "carrier" "LMapCarrier$Carrier;" ∈ wsX3_wayLength := List.mem_of_getElem? (i := 1) (by decide +kernel)
set_option maxRecDepth 20000 in
theorem inX3_wayLength_X0 : ∀ w ∈ u_ws RX0 TX0 15, w ∈ wsX3_wayLength := fun _ h => List.mem_cons_of_mem _ (List.mem_append_right _ h)
set_option maxRecDepth 20000 in
theorem nkX3_103 : Cond.fieldLinkNest RX3 103 "MapCarrier$Carrier" "wayLength" "I" "MapCarrier" ∈ xNest := by decide +kernel
set_option maxRecDepth 20000 in
theorem inX3_milesWalked_X3 : ∀ w ∈ u_ws RX3 TX3 3, w ∈ wsX3_milesWalked := fun _ h => List.mem_cons_of_mem _ (List.mem_append_left _ (List.mem_append_right _ h))
set_option maxRecDepth 20000 in
theorem lkX3_milesWalked_f21 : Cond.fieldLink RX3 21 "MapCarrier" "carrier" "LMapCarrier$Carrier;" ∈ wsX3_milesWalked := List.mem_of_getElem? (i := 1) (by decide +kernel)
set_option maxRecDepth 20000 in
theorem inX3_milesWalked_X0 : ∀ w ∈ u_ws RX0 TX0 15, w ∈ wsX3_milesWalked := fun _ h => List.mem_cons_of_mem _ (List.mem_append_right _ h)
set_option maxRecDepth 20000 in
theorem nkX3_147 : Cond.fieldLinkNest RX3 147 "MapCarrier$Carrier" "walked" "I" "MapCarrier" ∈ xNest := by decide +kernel
set_option maxRecDepth 20000 in
theorem inX3_milesDoubled_X3 : ∀ w ∈ u_ws RX3 TX3 3, w ∈ wsX3_milesDoubled := fun _ h => List.mem_cons_of_mem _ (List.mem_append_left _ (List.mem_append_right _ h))
set_option maxRecDepth 20000 in
theorem lkX3_milesDoubled_f21 : Cond.fieldLink RX3 21 "MapCarrier" "carrier" "LMapCarrier$Carrier;" ∈ wsX3_milesDoubled := List.mem_of_getElem? (i := 1) (by decide +kernel)
set_option maxRecDepth 20000 in
theorem inX3_milesDoubled_X0 : ∀ w ∈ u_ws RX0 TX0 15, w ∈ wsX3_milesDoubled := fun _ h => List.mem_cons_of_mem _ (List.mem_append_right _ h)
set_option maxRecDepth 20000 in
theorem nkX3_150 : Cond.fieldLinkNest RX3 150 "MapCarrier$Carrier" "doubled" "I" "MapCarrier" ∈ xNest := by decide +kernel
set_option maxRecDepth 20000 in
theorem inX3_errandsDone_X3 : ∀ w ∈ u_ws RX3 TX3 3, w ∈ wsX3_errandsDone := fun _ h => List.mem_cons_of_mem _ (List.mem_append_left _ (List.mem_append_right _ h))
set_option maxRecDepth 20000 in
theorem lkX3_errandsDone_f21 : Cond.fieldLink RX3 21 "MapCarrier" "carrier" "LMapCarrier$Carrier;" ∈ wsX3_errandsDone := List.mem_of_getElem? (i := 1) (by decide +kernel)
set_option maxRecDepth 20000 in
theorem inX3_errandsDone_X0 : ∀ w ∈ u_ws RX0 TX0 15, w ∈ wsX3_errandsDone := fun _ h => List.mem_cons_of_mem _ (List.mem_append_right _ h)
set_option maxRecDepth 20000 in
theorem nkX3_153 : Cond.fieldLinkNest RX3 153 "MapCarrier$Carrier" "done" "I" "MapCarrier" ∈ xNest := by decide +kernel
set_option maxRecDepth 20000 in
theorem inX3_errandsInVain_X3 : ∀ w ∈ u_ws RX3 TX3 3, w ∈ wsX3_errandsInVain := fun _ h => List.mem_cons_of_mem _ (List.mem_append_left _ (List.mem_append_right _ h))
set_option maxRecDepth 20000 in
theorem lkX3_errandsInVain_f21 : Cond.fieldLink RX3 21 "MapCarrier" "carrier" "LMapCarrier$Carrier;" ∈ wsX3_errandsInVain := List.mem_of_getElem? (i := 1) (by decide +kernel)
set_option maxRecDepth 20000 in
theorem inX3_errandsInVain_X0 : ∀ w ∈ u_ws RX0 TX0 15, w ∈ wsX3_errandsInVain := fun _ h => List.mem_cons_of_mem _ (List.mem_append_right _ h)
set_option maxRecDepth 20000 in
theorem nkX3_156 : Cond.fieldLinkNest RX3 156 "MapCarrier$Carrier" "inVain" "I" "MapCarrier" ∈ xNest := by decide +kernel
set_option maxRecDepth 20000 in
theorem inX3_asked_X3 : ∀ w ∈ u_ws RX3 TX3 3, w ∈ wsX3_asked := fun _ h => List.mem_cons_of_mem _ (List.mem_append_left _ (List.mem_append_right _ h))
set_option maxRecDepth 20000 in
theorem lkX3_asked_f21 : Cond.fieldLink RX3 21 "MapCarrier" "carrier" "LMapCarrier$Carrier;" ∈ wsX3_asked := List.mem_of_getElem? (i := 1) (by decide +kernel)
set_option maxRecDepth 20000 in
theorem inX3_asked_X0 : ∀ w ∈ u_ws RX0 TX0 15, w ∈ wsX3_asked := fun _ h => List.mem_cons_of_mem _ (List.mem_append_right _ h)
set_option maxRecDepth 20000 in
theorem nkX3_159 : Cond.fieldLinkNest RX3 159 "MapCarrier$Carrier" "questions" "I" "MapCarrier" ∈ xNest := by decide +kernel
set_option maxRecDepth 20000 in
theorem inX3_whereIs_X3 : ∀ w ∈ u_ws RX3 TX3 3, w ∈ wsX3_whereIs := fun _ h => List.mem_cons_of_mem _ (List.mem_append_left _ (List.mem_append_left _ (List.mem_append_right _ h)))
set_option maxRecDepth 20000 in
theorem lkX3_whereIs_f12 : Cond.fieldLink RX3 12 "MapCarrier" "land" "LMapCarrier$Land;" ∈ wsX3_whereIs := List.mem_of_getElem? (i := 1) (by decide +kernel)
set_option maxRecDepth 20000 in
theorem inX3_whereIs_X1 : ∀ w ∈ u_ws RX1 TX1 8, w ∈ wsX3_whereIs := fun _ h => List.mem_cons_of_mem _ (List.mem_append_left _ (List.mem_append_right _ h))
set_option maxRecDepth 20000 in
theorem lkX3_whereIs_f21 : Cond.fieldLink RX3 21 "MapCarrier" "carrier" "LMapCarrier$Carrier;" ∈ wsX3_whereIs := List.mem_of_getElem? (i := 2) (by decide +kernel)
set_option maxRecDepth 20000 in
theorem inX3_whereIs_X0 : ∀ w ∈ u_ws RX0 TX0 15, w ∈ wsX3_whereIs := fun _ h => List.mem_cons_of_mem _ (List.mem_append_right _ h)
set_option maxRecDepth 20000 in
theorem nkX3_84 : Cond.fieldLinkNest RX3 84 "MapCarrier$Carrier" "at" "I" "MapCarrier" ∈ xNest := by decide +kernel
set_option maxRecDepth 20000 in
theorem inX3_exitsOf_X3 : ∀ w ∈ u_ws RX3 TX3 3, w ∈ wsX3_exitsOf := fun _ h => List.mem_cons_of_mem _ (List.mem_append_left _ (List.mem_append_left _ (List.mem_append_right _ h)))
set_option maxRecDepth 20000 in
theorem lkX3_exitsOf_f12 : Cond.fieldLink RX3 12 "MapCarrier" "land" "LMapCarrier$Land;" ∈ wsX3_exitsOf := List.mem_of_getElem? (i := 1) (by decide +kernel)
set_option maxRecDepth 20000 in
theorem inX3_exitsOf_X1 : ∀ w ∈ u_ws RX1 TX1 8, w ∈ wsX3_exitsOf := fun _ h => List.mem_cons_of_mem _ (List.mem_append_left _ (List.mem_append_right _ h))
set_option maxRecDepth 20000 in
theorem nkX3_119 : Cond.fieldLinkNest RX3 119 "MapCarrier$Land" "exits" "[I" "MapCarrier" ∈ xNest := by decide +kernel
set_option maxRecDepth 20000 in
theorem inX3_hasShepherd_X3 : ∀ w ∈ u_ws RX3 TX3 3, w ∈ wsX3_hasShepherd := fun _ h => List.mem_cons_of_mem _ (List.mem_append_left _ (List.mem_append_left _ (List.mem_append_right _ h)))
set_option maxRecDepth 20000 in
theorem lkX3_hasShepherd_f12 : Cond.fieldLink RX3 12 "MapCarrier" "land" "LMapCarrier$Land;" ∈ wsX3_hasShepherd := List.mem_of_getElem? (i := 1) (by decide +kernel)
set_option maxRecDepth 20000 in
theorem inX3_hasShepherd_X1 : ∀ w ∈ u_ws RX1 TX1 8, w ∈ wsX3_hasShepherd := fun _ h => List.mem_cons_of_mem _ (List.mem_append_left _ (List.mem_append_right _ h))
set_option maxRecDepth 20000 in
theorem nkX3_69 : Cond.fieldLinkNest RX3 69 "MapCarrier$Land" "shepherds" "[Z" "MapCarrier" ∈ xNest := by decide +kernel
set_option maxRecDepth 20000 in
theorem inX3_leadsTo_X3 : ∀ w ∈ u_ws RX3 TX3 3, w ∈ wsX3_leadsTo := fun _ h => List.mem_cons_of_mem _ (List.mem_append_left _ (List.mem_append_left _ (List.mem_append_right _ h)))
set_option maxRecDepth 20000 in
theorem lkX3_leadsTo_f12 : Cond.fieldLink RX3 12 "MapCarrier" "land" "LMapCarrier$Land;" ∈ wsX3_leadsTo := List.mem_of_getElem? (i := 1) (by decide +kernel)
set_option maxRecDepth 20000 in
theorem inX3_milesOf_X3 : ∀ w ∈ u_ws RX3 TX3 3, w ∈ wsX3_milesOf := fun _ h => List.mem_cons_of_mem _ (List.mem_append_left _ (List.mem_append_left _ (List.mem_append_right _ h)))
set_option maxRecDepth 20000 in
theorem lkX3_milesOf_f12 : Cond.fieldLink RX3 12 "MapCarrier" "land" "LMapCarrier$Land;" ∈ wsX3_milesOf := List.mem_of_getElem? (i := 1) (by decide +kernel)
set_option maxRecDepth 20000 in
theorem inX3_isOpen_X3 : ∀ w ∈ u_ws RX3 TX3 3, w ∈ wsX3_isOpen := fun _ h => List.mem_cons_of_mem _ (List.mem_append_left _ (List.mem_append_left _ (List.mem_append_right _ h)))
set_option maxRecDepth 20000 in
theorem lkX3_isOpen_f12 : Cond.fieldLink RX3 12 "MapCarrier" "land" "LMapCarrier$Land;" ∈ wsX3_isOpen := List.mem_of_getElem? (i := 1) (by decide +kernel)
set_option maxRecDepth 20000 in
theorem inX3_isTried_X3 : ∀ w ∈ u_ws RX3 TX3 3, w ∈ wsX3_isTried := fun _ h => List.mem_cons_of_mem _ (List.mem_append_left _ (List.mem_append_left _ (List.mem_append_left _ (List.mem_append_right _ h))))
set_option maxRecDepth 20000 in
theorem lkX3_isTried_f21 : Cond.fieldLink RX3 21 "MapCarrier" "carrier" "LMapCarrier$Carrier;" ∈ wsX3_isTried := List.mem_of_getElem? (i := 1) (by decide +kernel)
set_option maxRecDepth 20000 in
theorem inX3_remembered_X3 : ∀ w ∈ u_ws RX3 TX3 3, w ∈ wsX3_remembered := fun _ h => List.mem_cons_of_mem _ (List.mem_append_left _ (List.mem_append_left _ (List.mem_append_left _ (List.mem_append_left _ (List.mem_append_right _ h)))))
set_option maxRecDepth 20000 in
theorem lkX3_remembered_f21 : Cond.fieldLink RX3 21 "MapCarrier" "carrier" "LMapCarrier$Carrier;" ∈ wsX3_remembered := List.mem_of_getElem? (i := 1) (by decide +kernel)
set_option maxRecDepth 20000 in
theorem inX3_remembered_X0 : ∀ w ∈ u_ws RX0 TX0 15, w ∈ wsX3_remembered := fun _ h => List.mem_cons_of_mem _ (List.mem_append_left _ (List.mem_append_left _ (List.mem_append_left _ (List.mem_append_right _ h))))
set_option maxRecDepth 20000 in
theorem nkX3_109 : Cond.fieldLinkNest RX3 109 "MapCarrier$Carrier" "memory" "LMapCarrier$Memory;" "MapCarrier" ∈ xNest := by decide +kernel
set_option maxRecDepth 20000 in
theorem inX3_strength_X3 : ∀ w ∈ u_ws RX3 TX3 3, w ∈ wsX3_strength := fun _ h => List.mem_cons_of_mem _ (List.mem_append_left _ (List.mem_append_left _ (List.mem_append_left _ (List.mem_append_left _ (List.mem_append_right _ h)))))
set_option maxRecDepth 20000 in
theorem lkX3_strength_f21 : Cond.fieldLink RX3 21 "MapCarrier" "carrier" "LMapCarrier$Carrier;" ∈ wsX3_strength := List.mem_of_getElem? (i := 1) (by decide +kernel)
set_option maxRecDepth 20000 in
theorem inX3_strength_X0 : ∀ w ∈ u_ws RX0 TX0 15, w ∈ wsX3_strength := fun _ h => List.mem_cons_of_mem _ (List.mem_append_left _ (List.mem_append_left _ (List.mem_append_left _ (List.mem_append_right _ h))))
set_option maxRecDepth 20000 in
theorem inX3_distance_X3 : ∀ w ∈ u_ws RX3 TX3 3, w ∈ wsX3_distance := fun _ h => List.mem_cons_of_mem _ (List.mem_append_left _ (List.mem_append_left _ (List.mem_append_right _ h)))
set_option maxRecDepth 20000 in
theorem lkX3_distance_f12 : Cond.fieldLink RX3 12 "MapCarrier" "land" "LMapCarrier$Land;" ∈ wsX3_distance := List.mem_of_getElem? (i := 1) (by decide +kernel)
set_option maxRecDepth 20000 in
theorem inX3_knowsWay_X3 : ∀ w ∈ u_ws RX3 TX3 3, w ∈ wsX3_knowsWay := fun _ h => List.mem_cons_of_mem _ (List.mem_append_left _ (List.mem_append_left _ (List.mem_append_left _ (List.mem_append_left _ (List.mem_append_right _ h)))))
set_option maxRecDepth 20000 in
theorem lkX3_knowsWay_f21 : Cond.fieldLink RX3 21 "MapCarrier" "carrier" "LMapCarrier$Carrier;" ∈ wsX3_knowsWay := List.mem_of_getElem? (i := 1) (by decide +kernel)
set_option maxRecDepth 20000 in
theorem inX3_addPlace_X3 : ∀ w ∈ u_ws RX3 TX3 3, w ∈ wsX3_addPlace := fun _ h => List.mem_cons_of_mem _ (List.mem_append_left _ (List.mem_append_left _ (List.mem_append_right _ h)))
set_option maxRecDepth 20000 in
theorem lkX3_addPlace_f12 : Cond.fieldLink RX3 12 "MapCarrier" "land" "LMapCarrier$Land;" ∈ wsX3_addPlace := List.mem_of_getElem? (i := 3) (by decide +kernel)
set_option maxRecDepth 20000 in
theorem inX3_addPlace_X1 : ∀ w ∈ u_ws RX1 TX1 8, w ∈ wsX3_addPlace := fun _ h => List.mem_cons_of_mem _ (List.mem_append_left _ (List.mem_append_right _ h))
set_option maxRecDepth 20000 in
theorem lkX3_addPlace_c32 : Cond.classLink RX3 32 "java/lang/IllegalStateException" ∈ wsX3_addPlace := List.mem_of_getElem? (i := 1) (by decide +kernel)
set_option maxRecDepth 20000 in
theorem lkX3_addPlace_ie3 : Cond.initialized "java/lang/IllegalStateException" ∈ wsX3_addPlace := List.mem_of_getElem? (i := 2) (by decide +kernel)
set_option maxRecDepth 20000 in
theorem inX3_addRoad_X3 : ∀ w ∈ u_ws RX3 TX3 3, w ∈ wsX3_addRoad := fun _ h => List.mem_cons_of_mem _ (List.mem_append_left _ (List.mem_append_left _ (List.mem_append_left _ (List.mem_append_left _ (List.mem_append_right _ h)))))
set_option maxRecDepth 20000 in
theorem lkX3_addRoad_f12 : Cond.fieldLink RX3 12 "MapCarrier" "land" "LMapCarrier$Land;" ∈ wsX3_addRoad := List.mem_of_getElem? (i := 5) (by decide +kernel)
set_option maxRecDepth 20000 in
theorem lkX3_addRoad_c32 : Cond.classLink RX3 32 "java/lang/IllegalStateException" ∈ wsX3_addRoad := List.mem_of_getElem? (i := 3) (by decide +kernel)
set_option maxRecDepth 20000 in
theorem lkX3_addRoad_ie3 : Cond.initialized "java/lang/IllegalStateException" ∈ wsX3_addRoad := List.mem_of_getElem? (i := 4) (by decide +kernel)
set_option maxRecDepth 20000 in
theorem lkX3_addRoad_c43 : Cond.classLink RX3 43 "java/lang/IllegalArgumentException" ∈ wsX3_addRoad := List.mem_of_getElem? (i := 1) (by decide +kernel)
set_option maxRecDepth 20000 in
theorem lkX3_addRoad_ie2 : Cond.initialized "java/lang/IllegalArgumentException" ∈ wsX3_addRoad := List.mem_of_getElem? (i := 2) (by decide +kernel)
set_option maxRecDepth 20000 in
theorem inX3_turnRoad_X3 : ∀ w ∈ u_ws RX3 TX3 3, w ∈ wsX3_turnRoad := fun _ h => List.mem_cons_of_mem _ (List.mem_append_left _ (List.mem_append_left _ (List.mem_append_right _ h)))
set_option maxRecDepth 20000 in
theorem lkX3_turnRoad_f12 : Cond.fieldLink RX3 12 "MapCarrier" "land" "LMapCarrier$Land;" ∈ wsX3_turnRoad := List.mem_of_getElem? (i := 1) (by decide +kernel)
set_option maxRecDepth 20000 in
theorem inX3_turnShepherd_X3 : ∀ w ∈ u_ws RX3 TX3 3, w ∈ wsX3_turnShepherd := fun _ h => List.mem_cons_of_mem _ (List.mem_append_left _ (List.mem_append_left _ (List.mem_append_right _ h)))
set_option maxRecDepth 20000 in
theorem lkX3_turnShepherd_f12 : Cond.fieldLink RX3 12 "MapCarrier" "land" "LMapCarrier$Land;" ∈ wsX3_turnShepherd := List.mem_of_getElem? (i := 1) (by decide +kernel)
set_option maxRecDepth 20000 in
theorem inX3_turnShepherd_X1 : ∀ w ∈ u_ws RX1 TX1 8, w ∈ wsX3_turnShepherd := fun _ h => List.mem_cons_of_mem _ (List.mem_append_left _ (List.mem_append_right _ h))
set_option maxRecDepth 20000 in
theorem inX3_pay_X3 : ∀ w ∈ u_ws RX3 TX3 3, w ∈ wsX3_pay := fun _ h => List.mem_cons_of_mem _ (List.mem_append_left _ (List.mem_append_left _ (List.mem_append_right _ h)))
set_option maxRecDepth 20000 in
theorem lkX3_pay_f21 : Cond.fieldLink RX3 21 "MapCarrier" "carrier" "LMapCarrier$Carrier;" ∈ wsX3_pay := List.mem_of_getElem? (i := 1) (by decide +kernel)
set_option maxRecDepth 20000 in
theorem inX3_pay_X0 : ∀ w ∈ u_ws RX0 TX0 15, w ∈ wsX3_pay := fun _ h => List.mem_cons_of_mem _ (List.mem_append_left _ (List.mem_append_right _ h))
set_option maxRecDepth 20000 in
theorem lkX3_pay_m76 : Cond.methodLink RX3 76 Lib.Math.min.name ∈ wsX3_pay := List.mem_of_getElem? (i := 2) (by decide +kernel)
set_option maxRecDepth 20000 in
theorem lkX3_pay_msmin : Cond.static Lib.Math.min.name ∈ wsX3_pay := List.mem_of_getElem? (i := 3) (by decide +kernel)
set_option maxRecDepth 20000 in
theorem lkX3_pay_mi : Cond.initialized "java/lang/Math" ∈ wsX3_pay := List.mem_of_getElem? (i := 4) (by decide +kernel)
set_option maxRecDepth 20000 in
theorem lkX3_pay_mcmin : Cond.code Lib.Math.min.name Lib.Math.min.code 2 (some .int) ∈ wsX3_pay := List.mem_of_getElem? (i := 5) (by decide +kernel)
set_option maxRecDepth 20000 in
theorem inX3_beginErrand_X3 : ∀ w ∈ u_ws RX3 TX3 3, w ∈ wsX3_beginErrand := fun _ h => List.mem_cons_of_mem _ (List.mem_append_left _ (List.mem_append_left _ (List.mem_append_left _ (List.mem_append_left _ (List.mem_append_right _ h)))))
set_option maxRecDepth 20000 in
theorem lkX3_beginErrand_f12 : Cond.fieldLink RX3 12 "MapCarrier" "land" "LMapCarrier$Land;" ∈ wsX3_beginErrand := List.mem_of_getElem? (i := 1) (by decide +kernel)
set_option maxRecDepth 20000 in
theorem lkX3_beginErrand_f21 : Cond.fieldLink RX3 21 "MapCarrier" "carrier" "LMapCarrier$Carrier;" ∈ wsX3_beginErrand := List.mem_of_getElem? (i := 2) (by decide +kernel)
set_option maxRecDepth 20000 in
theorem inX3_beginErrand_X0 : ∀ w ∈ u_ws RX0 TX0 15, w ∈ wsX3_beginErrand := fun _ h => List.mem_cons_of_mem _ (List.mem_append_left _ (List.mem_append_left _ (List.mem_append_left _ (List.mem_append_right _ h))))
set_option maxRecDepth 20000 in
theorem inX3_giveUp_X3 : ∀ w ∈ u_ws RX3 TX3 3, w ∈ wsX3_giveUp := fun _ h => List.mem_cons_of_mem _ (List.mem_append_left _ (List.mem_append_left _ (List.mem_append_right _ h)))
set_option maxRecDepth 20000 in
theorem lkX3_giveUp_f21 : Cond.fieldLink RX3 21 "MapCarrier" "carrier" "LMapCarrier$Carrier;" ∈ wsX3_giveUp := List.mem_of_getElem? (i := 1) (by decide +kernel)
set_option maxRecDepth 20000 in
theorem inX3_giveUp_X0 : ∀ w ∈ u_ws RX0 TX0 15, w ∈ wsX3_giveUp := fun _ h => List.mem_cons_of_mem _ (List.mem_append_left _ (List.mem_append_right _ h))
set_option maxRecDepth 20000 in
theorem inX3_sleep_X3 : ∀ w ∈ u_ws RX3 TX3 3, w ∈ wsX3_sleep := fun _ h => List.mem_cons_of_mem _ (List.mem_append_left _ (List.mem_append_left _ (List.mem_append_left _ (List.mem_append_right _ h))))
set_option maxRecDepth 20000 in
theorem lkX3_sleep_f21 : Cond.fieldLink RX3 21 "MapCarrier" "carrier" "LMapCarrier$Carrier;" ∈ wsX3_sleep := List.mem_of_getElem? (i := 1) (by decide +kernel)
set_option maxRecDepth 20000 in
theorem inX3_sleep_X0 : ∀ w ∈ u_ws RX0 TX0 15, w ∈ wsX3_sleep := fun _ h => List.mem_cons_of_mem _ (List.mem_append_left _ (List.mem_append_left _ (List.mem_append_right _ h)))
set_option maxRecDepth 20000 in
theorem inX3_goOn_X3 : ∀ w ∈ u_ws RX3 TX3 3, w ∈ wsX3_goOn := fun _ h => List.mem_cons_of_mem _ (List.mem_append_left _ (List.mem_append_left _ (List.mem_append_left _ (List.mem_append_left _ (List.mem_append_left _ (List.mem_append_right _ h))))))
set_option maxRecDepth 20000 in
theorem lkX3_goOn_f21 : Cond.fieldLink RX3 21 "MapCarrier" "carrier" "LMapCarrier$Carrier;" ∈ wsX3_goOn := List.mem_of_getElem? (i := 1) (by decide +kernel)
set_option maxRecDepth 20000 in
theorem inX3_trialMiles_X3 : ∀ w ∈ u_ws RX3 TX3 3, w ∈ wsX3_trialMiles := fun _ h => List.mem_cons_of_mem _ (List.mem_append_left _ (List.mem_append_left _ (List.mem_append_left _ (List.mem_append_right _ h))))
set_option maxRecDepth 20000 in
theorem lkX3_trialMiles_f25 : Cond.fieldLink RX3 25 "MapCarrier" "trial" "LMapCarrier$Carrier;" ∈ wsX3_trialMiles := List.mem_of_getElem? (i := 1) (by decide +kernel)
set_option maxRecDepth 20000 in
theorem lkX3_trialMiles_f21 : Cond.fieldLink RX3 21 "MapCarrier" "carrier" "LMapCarrier$Carrier;" ∈ wsX3_trialMiles := List.mem_of_getElem? (i := 2) (by decide +kernel)
set_option maxRecDepth 20000 in
theorem inX3_trialMiles_X0 : ∀ w ∈ u_ws RX0 TX0 15, w ∈ wsX3_trialMiles := fun _ h => List.mem_cons_of_mem _ (List.mem_append_left _ (List.mem_append_left _ (List.mem_append_right _ h)))
set_option maxRecDepth 20000 in
theorem inX3_bestShepherd_X3 : ∀ w ∈ u_ws RX3 TX3 3, w ∈ wsX3_bestShepherd := fun _ h => List.mem_cons_of_mem _ (List.mem_append_left _ (List.mem_append_left _ (List.mem_append_left _ (List.mem_append_left _ (List.mem_append_left _ (List.mem_append_right _ h))))))
set_option maxRecDepth 20000 in
theorem lkX3_bestShepherd_f12 : Cond.fieldLink RX3 12 "MapCarrier" "land" "LMapCarrier$Land;" ∈ wsX3_bestShepherd := List.mem_of_getElem? (i := 1) (by decide +kernel)
set_option maxRecDepth 20000 in
theorem inX3_bestShepherd_X1 : ∀ w ∈ u_ws RX1 TX1 8, w ∈ wsX3_bestShepherd := fun _ h => List.mem_cons_of_mem _ (List.mem_append_left _ (List.mem_append_left _ (List.mem_append_left _ (List.mem_append_left _ (List.mem_append_right _ h)))))
set_option maxRecDepth 20000 in
theorem inX3_mixPlaces_X3 : ∀ w ∈ u_ws RX3 TX3 3, w ∈ wsX3_mixPlaces := fun _ h => List.mem_cons_of_mem _ (List.mem_append_left _ (List.mem_append_left _ (List.mem_append_left _ (List.mem_append_right _ h))))
set_option maxRecDepth 20000 in
theorem lkX3_mixPlaces_f12 : Cond.fieldLink RX3 12 "MapCarrier" "land" "LMapCarrier$Land;" ∈ wsX3_mixPlaces := List.mem_of_getElem? (i := 1) (by decide +kernel)
set_option maxRecDepth 20000 in
theorem inX3_mixPlaces_X1 : ∀ w ∈ u_ws RX1 TX1 8, w ∈ wsX3_mixPlaces := fun _ h => List.mem_cons_of_mem _ (List.mem_append_left _ (List.mem_append_left _ (List.mem_append_right _ h)))
set_option maxRecDepth 20000 in
theorem inX3_mixMemory_X3 : ∀ w ∈ u_ws RX3 TX3 3, w ∈ wsX3_mixMemory := fun _ h => List.mem_cons_of_mem _ (List.mem_append_left _ (List.mem_append_left _ (List.mem_append_left _ (List.mem_append_left _ (List.mem_append_right _ h)))))
set_option maxRecDepth 20000 in
theorem lkX3_mixMemory_f12 : Cond.fieldLink RX3 12 "MapCarrier" "land" "LMapCarrier$Land;" ∈ wsX3_mixMemory := List.mem_of_getElem? (i := 1) (by decide +kernel)
set_option maxRecDepth 20000 in
theorem inX3_mixMemory_X1 : ∀ w ∈ u_ws RX1 TX1 8, w ∈ wsX3_mixMemory := fun _ h => List.mem_cons_of_mem _ (List.mem_append_left _ (List.mem_append_left _ (List.mem_append_left _ (List.mem_append_right _ h))))
set_option maxRecDepth 20000 in
theorem lkX3_digest_cL165 : Cond.constantLong RX3 165 (1873) ∈ wsX3_digest := List.mem_of_getElem? (i := 1) (by decide +kernel)
