set_option maxRecDepth 20000 in
theorem inX5_digest_X5 : ∀ w ∈ u_ws RX5 TX5 12, w ∈ wsX5_digest := fun _ h => List.mem_cons_of_mem _ (List.mem_append_left _ (List.mem_append_right _ h))
set_option maxRecDepth 20000 in
theorem lkX5_digest_f42 : Cond.fieldLink RX5 42 "MapCarrierModel" "thrown" "I" ∈ wsX5_digest := List.mem_of_getElem? (i := 1) (by decide +kernel)
set_option maxRecDepth 20000 in
theorem lkX5_digest_aI : Cond.arrayClass .int ∈ wsX5_digest := List.mem_of_getElem? (i := 2) (by decide +kernel)
set_option maxRecDepth 20000 in
theorem lkX5_digest_f46 : Cond.fieldLink RX5 46 "MapCarrierModel" "places" "I" ∈ wsX5_digest := List.mem_of_getElem? (i := 3) (by decide +kernel)
set_option maxRecDepth 20000 in
theorem lkX5_digest_f35 : Cond.fieldLink RX5 35 "MapCarrierModel" "s" "LMapCarrierModel$State;" ∈ wsX5_digest := List.mem_of_getElem? (i := 4) (by decide +kernel)
set_option maxRecDepth 20000 in
theorem inX5_digest_X4 : ∀ w ∈ u_ws RX4 TX4 14, w ∈ wsX5_digest := fun _ h => List.mem_cons_of_mem _ (List.mem_append_right _ h)
set_option maxRecDepth 20000 in
theorem lkX5_digest_cL200 : Cond.constantLong RX5 200 (1873) ∈ wsX5_digest := List.mem_of_getElem? (i := 5) (by decide +kernel)
set_option maxRecDepth 20000 in
theorem lkX5_digest_cL202 : Cond.constantLong RX5 202 (31) ∈ wsX5_digest := List.mem_of_getElem? (i := 6) (by decide +kernel)
set_option maxRecDepth 20000 in
theorem lkX5_digest_f26 : Cond.fieldLink RX5 26 "MapCarrierModel" "shepherd" "[Z" ∈ wsX5_digest := List.mem_of_getElem? (i := 7) (by decide +kernel)
set_option maxRecDepth 20000 in
theorem lkX5_digest_f9 : Cond.fieldLink RX5 9 "MapCarrierModel" "exits" "[I" ∈ wsX5_digest := List.mem_of_getElem? (i := 8) (by decide +kernel)
set_option maxRecDepth 20000 in
theorem lkX5_digest_f16 : Cond.fieldLink RX5 16 "MapCarrierModel" "to" "[I" ∈ wsX5_digest := List.mem_of_getElem? (i := 9) (by decide +kernel)
set_option maxRecDepth 20000 in
theorem lkX5_digest_f19 : Cond.fieldLink RX5 19 "MapCarrierModel" "miles" "[I" ∈ wsX5_digest := List.mem_of_getElem? (i := 10) (by decide +kernel)
set_option maxRecDepth 20000 in
theorem lkX5_digest_f13 : Cond.fieldLink RX5 13 "MapCarrierModel" "road" "[I" ∈ wsX5_digest := List.mem_of_getElem? (i := 11) (by decide +kernel)
set_option maxRecDepth 20000 in
theorem lkX5_digest_f22 : Cond.fieldLink RX5 22 "MapCarrierModel" "isClosed" "[Z" ∈ wsX5_digest := List.mem_of_getElem? (i := 12) (by decide +kernel)
