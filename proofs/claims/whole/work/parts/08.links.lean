set_option maxRecDepth 20000 in
theorem lkX3_mix_cL228 : Cond.constantLong RX3 228 (31) ∈ wsX3_mix := List.mem_of_getElem? (i := 1) (by decide +kernel)
set_option maxRecDepth 20000 in
theorem inX1_isPlace_X1 : ∀ w ∈ u_ws RX1 TX1 8, w ∈ wsX1_isPlace := fun _ h => List.mem_cons_of_mem _ (List.mem_append_right _ h)
set_option maxRecDepth 20000 in
theorem lkX1_isPlace_f34 : Cond.fieldLink RX1 34 "MapCarrier$Land" "places" "I" ∈ wsX1_isPlace := List.mem_of_getElem? (i := 1) (by decide +kernel)
set_option maxRecDepth 20000 in
theorem inX1_isFull_X1 : ∀ w ∈ u_ws RX1 TX1 8, w ∈ wsX1_isFull := fun _ h => List.mem_cons_of_mem _ (List.mem_append_right _ h)
set_option maxRecDepth 20000 in
theorem lkX1_isFull_f9 : Cond.fieldLink RX1 9 "MapCarrier$Land" "exits" "[I" ∈ wsX1_isFull := List.mem_of_getElem? (i := 1) (by decide +kernel)
set_option maxRecDepth 20000 in
theorem inX1_endAt_X1 : ∀ w ∈ u_ws RX1 TX1 8, w ∈ wsX1_endAt := fun _ h => List.mem_cons_of_mem _ (List.mem_append_right _ h)
set_option maxRecDepth 20000 in
theorem lkX1_endAt_f9 : Cond.fieldLink RX1 9 "MapCarrier$Land" "exits" "[I" ∈ wsX1_endAt := List.mem_of_getElem? (i := 1) (by decide +kernel)
set_option maxRecDepth 20000 in
theorem nkX1_50 : Cond.methodLinkNest RX1 50 yX3_isEnd "MapCarrier" ∈ xNest := by decide +kernel
set_option maxRecDepth 20000 in
theorem lkX1_opensAt_iiX3 : Cond.initialized RX3 ∈ wsX1_opensAt := List.mem_of_getElem? (i := 3) (by decide +kernel)
set_option maxRecDepth 20000 in
theorem lkX1_opensAt_isX3_isEnd : Cond.static yX3_isEnd ∈ wsX1_opensAt := List.mem_of_getElem? (i := 2) (by decide +kernel)
set_option maxRecDepth 20000 in
theorem inX1_opensAt_X1 : ∀ w ∈ u_ws RX1 TX1 8, w ∈ wsX1_opensAt := fun _ h => List.mem_cons_of_mem _ (List.mem_append_right _ h)
set_option maxRecDepth 20000 in
theorem lkX1_opensAt_f28 : Cond.fieldLink RX1 28 "MapCarrier$Land" "open" "[Z" ∈ wsX1_opensAt := List.mem_of_getElem? (i := 1) (by decide +kernel)
set_option maxRecDepth 20000 in
theorem lkX1_milesAt_iiX3 : Cond.initialized RX3 ∈ wsX1_milesAt := List.mem_of_getElem? (i := 3) (by decide +kernel)
set_option maxRecDepth 20000 in
theorem lkX1_milesAt_isX3_isEnd : Cond.static yX3_isEnd ∈ wsX1_milesAt := List.mem_of_getElem? (i := 2) (by decide +kernel)
set_option maxRecDepth 20000 in
theorem inX1_milesAt_X1 : ∀ w ∈ u_ws RX1 TX1 8, w ∈ wsX1_milesAt := fun _ h => List.mem_cons_of_mem _ (List.mem_append_right _ h)
set_option maxRecDepth 20000 in
theorem lkX1_milesAt_f25 : Cond.fieldLink RX1 25 "MapCarrier$Land" "lengths" "[I" ∈ wsX1_milesAt := List.mem_of_getElem? (i := 1) (by decide +kernel)
set_option maxRecDepth 20000 in
theorem lkX1_twinOf_iiX3 : Cond.initialized RX3 ∈ wsX1_twinOf := List.mem_of_getElem? (i := 3) (by decide +kernel)
set_option maxRecDepth 20000 in
theorem lkX1_twinOf_isX3_isEnd : Cond.static yX3_isEnd ∈ wsX1_twinOf := List.mem_of_getElem? (i := 2) (by decide +kernel)
set_option maxRecDepth 20000 in
theorem inX1_twinOf_X1 : ∀ w ∈ u_ws RX1 TX1 8, w ∈ wsX1_twinOf := fun _ h => List.mem_cons_of_mem _ (List.mem_append_right _ h)
set_option maxRecDepth 20000 in
theorem lkX1_twinOf_f22 : Cond.fieldLink RX1 22 "MapCarrier$Land" "twins" "[I" ∈ wsX1_twinOf := List.mem_of_getElem? (i := 1) (by decide +kernel)
set_option maxRecDepth 20000 in
theorem lkX1_beyond_iiX3 : Cond.initialized RX3 ∈ wsX1_beyond := List.mem_of_getElem? (i := 3) (by decide +kernel)
set_option maxRecDepth 20000 in
theorem lkX1_beyond_isX3_isEnd : Cond.static yX3_isEnd ∈ wsX1_beyond := List.mem_of_getElem? (i := 2) (by decide +kernel)
set_option maxRecDepth 20000 in
theorem inX1_beyond_X1 : ∀ w ∈ u_ws RX1 TX1 8, w ∈ wsX1_beyond := fun _ h => List.mem_cons_of_mem _ (List.mem_append_right _ h)
set_option maxRecDepth 20000 in
theorem lkX1_beyond_f19 : Cond.fieldLink RX1 19 "MapCarrier$Land" "leads" "[I" ∈ wsX1_beyond := List.mem_of_getElem? (i := 1) (by decide +kernel)
set_option maxRecDepth 20000 in
theorem inX1_milesBy_X1 : ∀ w ∈ u_ws RX1 TX1 8, w ∈ wsX1_milesBy := fun _ h => List.mem_cons_of_mem _ (List.mem_append_right _ h)
set_option maxRecDepth 20000 in
theorem lkX1_milesBy_f28 : Cond.fieldLink RX1 28 "MapCarrier$Land" "open" "[Z" ∈ wsX1_milesBy := List.mem_of_getElem? (i := 1) (by decide +kernel)
set_option maxRecDepth 20000 in
theorem lkX1_milesBy_c57 : Cond.constant RX1 57 (1000000) ∈ wsX1_milesBy := List.mem_of_getElem? (i := 5) (by decide +kernel)
set_option maxRecDepth 20000 in
theorem lkX1_milesBy_f25 : Cond.fieldLink RX1 25 "MapCarrier$Land" "lengths" "[I" ∈ wsX1_milesBy := List.mem_of_getElem? (i := 2) (by decide +kernel)
set_option maxRecDepth 20000 in
theorem lkX1_milesBy_f31 : Cond.fieldLink RX1 31 "MapCarrier$Land" "far" "[I" ∈ wsX1_milesBy := List.mem_of_getElem? (i := 3) (by decide +kernel)
set_option maxRecDepth 20000 in
theorem lkX1_milesBy_f19 : Cond.fieldLink RX1 19 "MapCarrier$Land" "leads" "[I" ∈ wsX1_milesBy := List.mem_of_getElem? (i := 4) (by decide +kernel)
