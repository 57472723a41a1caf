set_option maxRecDepth 20000 in
theorem lkX4_init_m3 : Cond.methodLink RX4 3 objectInit ∈ wsX4_init := List.mem_of_getElem? (i := 1) (by decide +kernel)
set_option maxRecDepth 20000 in
theorem lkX4_init_oi : Cond.instanceMethod objectInit ∈ wsX4_init := List.mem_of_getElem? (i := 2) (by decide +kernel)
set_option maxRecDepth 20000 in
theorem lkX4_init_oc : Cond.code objectInit ⟨#[0xb1]⟩ 1 none ∈ wsX4_init := List.mem_of_getElem? (i := 3) (by decide +kernel)
set_option maxRecDepth 20000 in
theorem inX4_init_X4 : ∀ w ∈ u_ws RX4 TX4 14, w ∈ wsX4_init := fun _ h => List.mem_cons_of_mem _ (List.mem_append_right _ h)
set_option maxRecDepth 20000 in
theorem lkX4_init_f9 : Cond.fieldLink RX4 9 "MapCarrierModel$State" "where" "I" ∈ wsX4_init := List.mem_of_getElem? (i := 4) (by decide +kernel)
set_option maxRecDepth 20000 in
theorem lkX4_init_f15 : Cond.fieldLink RX4 15 "MapCarrierModel$State" "goal" "I" ∈ wsX4_init := List.mem_of_getElem? (i := 5) (by decide +kernel)
set_option maxRecDepth 20000 in
theorem lkX4_init_aZ : Cond.arrayClass .boolean ∈ wsX4_init := List.mem_of_getElem? (i := 6) (by decide +kernel)
set_option maxRecDepth 20000 in
theorem lkX4_init_f18 : Cond.fieldLink RX4 18 "MapCarrierModel$State" "tried" "[Z" ∈ wsX4_init := List.mem_of_getElem? (i := 7) (by decide +kernel)
set_option maxRecDepth 20000 in
theorem lkX4_init_f22 : Cond.fieldLink RX4 22 "MapCarrierModel$State" "askedAt" "[Z" ∈ wsX4_init := List.mem_of_getElem? (i := 8) (by decide +kernel)
set_option maxRecDepth 20000 in
theorem lkX4_init_aI : Cond.arrayClass .int ∈ wsX4_init := List.mem_of_getElem? (i := 9) (by decide +kernel)
set_option maxRecDepth 20000 in
theorem lkX4_init_f25 : Cond.fieldLink RX4 25 "MapCarrierModel$State" "way" "[I" ∈ wsX4_init := List.mem_of_getElem? (i := 10) (by decide +kernel)
set_option maxRecDepth 20000 in
theorem lkX4_init_f29 : Cond.fieldLink RX4 29 "MapCarrierModel$State" "exit" "[I" ∈ wsX4_init := List.mem_of_getElem? (i := 11) (by decide +kernel)
set_option maxRecDepth 20000 in
theorem lkX4_init_f32 : Cond.fieldLink RX4 32 "MapCarrierModel$State" "strength" "[I" ∈ wsX4_init := List.mem_of_getElem? (i := 12) (by decide +kernel)
set_option maxRecDepth 20000 in
theorem lkX5_init_m1 : Cond.methodLink RX5 1 objectInit ∈ wsX5_init := List.mem_of_getElem? (i := 1) (by decide +kernel)
set_option maxRecDepth 20000 in
theorem lkX5_init_oi : Cond.instanceMethod objectInit ∈ wsX5_init := List.mem_of_getElem? (i := 2) (by decide +kernel)
set_option maxRecDepth 20000 in
theorem lkX5_init_oc : Cond.code objectInit ⟨#[0xb1]⟩ 1 none ∈ wsX5_init := List.mem_of_getElem? (i := 3) (by decide +kernel)
set_option maxRecDepth 20000 in
theorem lkX5_init_aI : Cond.arrayClass .int ∈ wsX5_init := List.mem_of_getElem? (i := 4) (by decide +kernel)
set_option maxRecDepth 20000 in
theorem inX5_init_X5 : ∀ w ∈ u_ws RX5 TX5 12, w ∈ wsX5_init := fun _ h => List.mem_cons_of_mem _ (List.mem_append_left _ (List.mem_append_right _ h))
set_option maxRecDepth 20000 in
theorem lkX5_init_f9 : Cond.fieldLink RX5 9 "MapCarrierModel" "exits" "[I" ∈ wsX5_init := List.mem_of_getElem? (i := 5) (by decide +kernel)
set_option maxRecDepth 20000 in
theorem lkX5_init_f13 : Cond.fieldLink RX5 13 "MapCarrierModel" "road" "[I" ∈ wsX5_init := List.mem_of_getElem? (i := 6) (by decide +kernel)
set_option maxRecDepth 20000 in
theorem lkX5_init_f16 : Cond.fieldLink RX5 16 "MapCarrierModel" "to" "[I" ∈ wsX5_init := List.mem_of_getElem? (i := 7) (by decide +kernel)
set_option maxRecDepth 20000 in
theorem lkX5_init_f19 : Cond.fieldLink RX5 19 "MapCarrierModel" "miles" "[I" ∈ wsX5_init := List.mem_of_getElem? (i := 8) (by decide +kernel)
set_option maxRecDepth 20000 in
theorem lkX5_init_aZ : Cond.arrayClass .boolean ∈ wsX5_init := List.mem_of_getElem? (i := 9) (by decide +kernel)
set_option maxRecDepth 20000 in
theorem lkX5_init_f22 : Cond.fieldLink RX5 22 "MapCarrierModel" "isClosed" "[Z" ∈ wsX5_init := List.mem_of_getElem? (i := 10) (by decide +kernel)
set_option maxRecDepth 20000 in
theorem lkX5_init_f26 : Cond.fieldLink RX5 26 "MapCarrierModel" "shepherd" "[Z" ∈ wsX5_init := List.mem_of_getElem? (i := 11) (by decide +kernel)
set_option maxRecDepth 20000 in
theorem lkX5_init_f29 : Cond.fieldLink RX5 29 "MapCarrierModel" "far" "[I" ∈ wsX5_init := List.mem_of_getElem? (i := 12) (by decide +kernel)
set_option maxRecDepth 20000 in
theorem inX5_init_X4 : ∀ w ∈ u_ws RX4 TX4 14, w ∈ wsX5_init := fun _ h => List.mem_cons_of_mem _ (List.mem_append_right _ h)
set_option maxRecDepth 20000 in
theorem lkX5_init_c32 : Cond.classLink RX5 32 RX4 ∈ wsX5_init := List.mem_of_getElem? (i := 13) (by decide +kernel)
set_option maxRecDepth 20000 in
theorem lkX5_init_itX4 : Cond.instantiable RX4 14 ∈ wsX5_init := List.mem_of_getElem? (i := 14) (by decide +kernel)
set_option maxRecDepth 20000 in
theorem lkX5_init_iiX4 : Cond.initialized RX4 ∈ wsX5_init := List.mem_of_getElem? (i := 15) (by decide +kernel)
set_option maxRecDepth 20000 in
theorem lkX5_init_m34 : Cond.methodLink RX5 34 yX4_init ∈ wsX5_init := List.mem_of_getElem? (i := 18) (by decide +kernel)
set_option maxRecDepth 20000 in
theorem lkX5_init_imX4_init : Cond.instanceMethod yX4_init ∈ wsX5_init := List.mem_of_getElem? (i := 19) (by decide +kernel)
set_option maxRecDepth 20000 in
theorem lkX5_init_f35 : Cond.fieldLink RX5 35 "MapCarrierModel" "s" "LMapCarrierModel$State;" ∈ wsX5_init := List.mem_of_getElem? (i := 16) (by decide +kernel)
set_option maxRecDepth 20000 in
theorem lkX5_init_f39 : Cond.fieldLink RX5 39 "MapCarrierModel" "ahead" "LMapCarrierModel$State;" ∈ wsX5_init := List.mem_of_getElem? (i := 17) (by decide +kernel)
