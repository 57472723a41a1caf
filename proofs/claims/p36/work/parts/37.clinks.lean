set_option maxRecDepth 20000 in
theorem lkX2_init_m3 : Cond.methodLink RX2 3 objectInit ∈ wsX2_init := List.mem_of_getElem? (i := 1) (by decide +kernel)
set_option maxRecDepth 20000 in
theorem lkX2_init_oi : Cond.instanceMethod objectInit ∈ wsX2_init := List.mem_of_getElem? (i := 2) (by decide +kernel)
set_option maxRecDepth 20000 in
theorem lkX2_init_oc : Cond.code objectInit ⟨#[0xb1]⟩ 1 none ∈ wsX2_init := List.mem_of_getElem? (i := 3) (by decide +kernel)
set_option maxRecDepth 20000 in
theorem lkX2_init_aI : Cond.arrayClass .int ∈ wsX2_init := List.mem_of_getElem? (i := 4) (by decide +kernel)
set_option maxRecDepth 20000 in
theorem inX2_init_X2 : ∀ w ∈ u_ws RX2 TX2 2, w ∈ wsX2_init := fun _ h => List.mem_cons_of_mem _ (List.mem_append_right _ h)
set_option maxRecDepth 20000 in
theorem lkX2_init_f9 : Cond.fieldLink RX2 9 "MapCarrier$Memory" "exits" "[I" ∈ wsX2_init := List.mem_of_getElem? (i := 5) (by decide +kernel)
set_option maxRecDepth 20000 in
theorem lkX2_init_f15 : Cond.fieldLink RX2 15 "MapCarrier$Memory" "strengths" "[I" ∈ wsX2_init := List.mem_of_getElem? (i := 6) (by decide +kernel)
set_option maxRecDepth 20000 in
theorem lkX1_init_m3 : Cond.methodLink RX1 3 objectInit ∈ wsX1_init := List.mem_of_getElem? (i := 1) (by decide +kernel)
set_option maxRecDepth 20000 in
theorem lkX1_init_oi : Cond.instanceMethod objectInit ∈ wsX1_init := List.mem_of_getElem? (i := 2) (by decide +kernel)
set_option maxRecDepth 20000 in
theorem lkX1_init_oc : Cond.code objectInit ⟨#[0xb1]⟩ 1 none ∈ wsX1_init := List.mem_of_getElem? (i := 3) (by decide +kernel)
set_option maxRecDepth 20000 in
theorem lkX1_init_aI : Cond.arrayClass .int ∈ wsX1_init := List.mem_of_getElem? (i := 4) (by decide +kernel)
set_option maxRecDepth 20000 in
theorem inX1_init_X1 : ∀ w ∈ u_ws RX1 TX1 8, w ∈ wsX1_init := fun _ h => List.mem_cons_of_mem _ (List.mem_append_right _ h)
set_option maxRecDepth 20000 in
theorem lkX1_init_f9 : Cond.fieldLink RX1 9 "MapCarrier$Land" "exits" "[I" ∈ wsX1_init := List.mem_of_getElem? (i := 5) (by decide +kernel)
set_option maxRecDepth 20000 in
theorem lkX1_init_aZ : Cond.arrayClass .boolean ∈ wsX1_init := List.mem_of_getElem? (i := 6) (by decide +kernel)
set_option maxRecDepth 20000 in
theorem lkX1_init_f15 : Cond.fieldLink RX1 15 "MapCarrier$Land" "shepherds" "[Z" ∈ wsX1_init := List.mem_of_getElem? (i := 7) (by decide +kernel)
set_option maxRecDepth 20000 in
theorem lkX1_init_f19 : Cond.fieldLink RX1 19 "MapCarrier$Land" "leads" "[I" ∈ wsX1_init := List.mem_of_getElem? (i := 8) (by decide +kernel)
set_option maxRecDepth 20000 in
theorem lkX1_init_f22 : Cond.fieldLink RX1 22 "MapCarrier$Land" "twins" "[I" ∈ wsX1_init := List.mem_of_getElem? (i := 9) (by decide +kernel)
set_option maxRecDepth 20000 in
theorem lkX1_init_f25 : Cond.fieldLink RX1 25 "MapCarrier$Land" "lengths" "[I" ∈ wsX1_init := List.mem_of_getElem? (i := 10) (by decide +kernel)
set_option maxRecDepth 20000 in
theorem lkX1_init_f28 : Cond.fieldLink RX1 28 "MapCarrier$Land" "open" "[Z" ∈ wsX1_init := List.mem_of_getElem? (i := 11) (by decide +kernel)
set_option maxRecDepth 20000 in
theorem lkX1_init_f31 : Cond.fieldLink RX1 31 "MapCarrier$Land" "far" "[I" ∈ wsX1_init := List.mem_of_getElem? (i := 12) (by decide +kernel)
set_option maxRecDepth 20000 in
theorem lkX0_init_m3 : Cond.methodLink RX0 3 objectInit ∈ wsX0_init := List.mem_of_getElem? (i := 1) (by decide +kernel)
set_option maxRecDepth 20000 in
theorem lkX0_init_oi : Cond.instanceMethod objectInit ∈ wsX0_init := List.mem_of_getElem? (i := 2) (by decide +kernel)
set_option maxRecDepth 20000 in
theorem lkX0_init_oc : Cond.code objectInit ⟨#[0xb1]⟩ 1 none ∈ wsX0_init := List.mem_of_getElem? (i := 3) (by decide +kernel)
set_option maxRecDepth 20000 in
theorem inX0_init_X2 : ∀ w ∈ u_ws RX2 TX2 2, w ∈ wsX0_init := fun _ h => List.mem_cons_of_mem _ (List.mem_append_left _ (List.mem_append_right _ h))
set_option maxRecDepth 20000 in
theorem lkX0_init_c9 : Cond.classLink RX0 9 RX2 ∈ wsX0_init := List.mem_of_getElem? (i := 4) (by decide +kernel)
set_option maxRecDepth 20000 in
theorem lkX0_init_itX2 : Cond.instantiable RX2 2 ∈ wsX0_init := List.mem_of_getElem? (i := 5) (by decide +kernel)
set_option maxRecDepth 20000 in
theorem lkX0_init_iiX2 : Cond.initialized RX2 ∈ wsX0_init := List.mem_of_getElem? (i := 6) (by decide +kernel)
set_option maxRecDepth 20000 in
theorem nkX0_11 : Cond.methodLinkNest RX0 11 yX2_init "MapCarrier" ∈ xNest := by decide +kernel
set_option maxRecDepth 20000 in
theorem lkX0_init_imX2_init : Cond.instanceMethod yX2_init ∈ wsX0_init := List.mem_of_getElem? (i := 16) (by decide +kernel)
set_option maxRecDepth 20000 in
theorem inX0_init_X0 : ∀ w ∈ u_ws RX0 TX0 15, w ∈ wsX0_init := fun _ h => List.mem_cons_of_mem _ (List.mem_append_right _ h)
set_option maxRecDepth 20000 in
theorem lkX0_init_f12 : Cond.fieldLink RX0 12 "MapCarrier$Carrier" "memory" "LMapCarrier$Memory;" ∈ wsX0_init := List.mem_of_getElem? (i := 7) (by decide +kernel)
set_option maxRecDepth 20000 in
theorem lkX0_init_f18 : Cond.fieldLink RX0 18 "MapCarrier$Carrier" "goal" "I" ∈ wsX0_init := List.mem_of_getElem? (i := 8) (by decide +kernel)
set_option maxRecDepth 20000 in
theorem lkX0_init_aI : Cond.arrayClass .int ∈ wsX0_init := List.mem_of_getElem? (i := 9) (by decide +kernel)
set_option maxRecDepth 20000 in
theorem lkX0_init_f22 : Cond.fieldLink RX0 22 "MapCarrier$Carrier" "way" "[I" ∈ wsX0_init := List.mem_of_getElem? (i := 10) (by decide +kernel)
set_option maxRecDepth 20000 in
theorem lkX0_init_aZ : Cond.arrayClass .boolean ∈ wsX0_init := List.mem_of_getElem? (i := 11) (by decide +kernel)
set_option maxRecDepth 20000 in
theorem lkX0_init_f26 : Cond.fieldLink RX0 26 "MapCarrier$Carrier" "tried" "[Z" ∈ wsX0_init := List.mem_of_getElem? (i := 12) (by decide +kernel)
set_option maxRecDepth 20000 in
theorem lkX0_init_f30 : Cond.fieldLink RX0 30 "MapCarrier$Carrier" "askedAt" "[Z" ∈ wsX0_init := List.mem_of_getElem? (i := 13) (by decide +kernel)
set_option maxRecDepth 20000 in
theorem lkX0_init_f33 : Cond.fieldLink RX0 33 "MapCarrier$Carrier" "guest" "I" ∈ wsX0_init := List.mem_of_getElem? (i := 14) (by decide +kernel)
set_option maxRecDepth 20000 in
theorem lkX0_init_f36 : Cond.fieldLink RX0 36 "MapCarrier$Carrier" "land" "LMapCarrier$Land;" ∈ wsX0_init := List.mem_of_getElem? (i := 15) (by decide +kernel)
set_option maxRecDepth 20000 in
theorem lkX3_init_m3 : Cond.methodLink RX3 3 objectInit ∈ wsX3_init := List.mem_of_getElem? (i := 1) (by decide +kernel)
set_option maxRecDepth 20000 in
theorem lkX3_init_oi : Cond.instanceMethod objectInit ∈ wsX3_init := List.mem_of_getElem? (i := 2) (by decide +kernel)
set_option maxRecDepth 20000 in
theorem lkX3_init_oc : Cond.code objectInit ⟨#[0xb1]⟩ 1 none ∈ wsX3_init := List.mem_of_getElem? (i := 3) (by decide +kernel)
set_option maxRecDepth 20000 in
theorem inX3_init_X1 : ∀ w ∈ u_ws RX1 TX1 8, w ∈ wsX3_init := fun _ h => List.mem_cons_of_mem _ (List.mem_append_left _ (List.mem_append_left _ (List.mem_append_left _ (List.mem_append_right _ h))))
set_option maxRecDepth 20000 in
theorem lkX3_init_c9 : Cond.classLink RX3 9 RX1 ∈ wsX3_init := List.mem_of_getElem? (i := 4) (by decide +kernel)
set_option maxRecDepth 20000 in
theorem lkX3_init_itX1 : Cond.instantiable RX1 8 ∈ wsX3_init := List.mem_of_getElem? (i := 5) (by decide +kernel)
set_option maxRecDepth 20000 in
theorem lkX3_init_iiX1 : Cond.initialized RX1 ∈ wsX3_init := List.mem_of_getElem? (i := 6) (by decide +kernel)
set_option maxRecDepth 20000 in
theorem nkX3_11 : Cond.methodLinkNest RX3 11 yX1_init "MapCarrier" ∈ xNest := by decide +kernel
set_option maxRecDepth 20000 in
theorem lkX3_init_imX1_init : Cond.instanceMethod yX1_init ∈ wsX3_init := List.mem_of_getElem? (i := 13) (by decide +kernel)
set_option maxRecDepth 20000 in
theorem inX3_init_X3 : ∀ w ∈ u_ws RX3 TX3 3, w ∈ wsX3_init := fun _ h => List.mem_cons_of_mem _ (List.mem_append_left _ (List.mem_append_left _ (List.mem_append_right _ h)))
set_option maxRecDepth 20000 in
theorem lkX3_init_f12 : Cond.fieldLink RX3 12 "MapCarrier" "land" "LMapCarrier$Land;" ∈ wsX3_init := List.mem_of_getElem? (i := 7) (by decide +kernel)
set_option maxRecDepth 20000 in
theorem inX3_init_X0 : ∀ w ∈ u_ws RX0 TX0 15, w ∈ wsX3_init := fun _ h => List.mem_cons_of_mem _ (List.mem_append_left _ (List.mem_append_right _ h))
set_option maxRecDepth 20000 in
theorem lkX3_init_c16 : Cond.classLink RX3 16 RX0 ∈ wsX3_init := List.mem_of_getElem? (i := 8) (by decide +kernel)
set_option maxRecDepth 20000 in
theorem lkX3_init_itX0 : Cond.instantiable RX0 15 ∈ wsX3_init := List.mem_of_getElem? (i := 9) (by decide +kernel)
set_option maxRecDepth 20000 in
theorem lkX3_init_iiX0 : Cond.initialized RX0 ∈ wsX3_init := List.mem_of_getElem? (i := 10) (by decide +kernel)
set_option maxRecDepth 20000 in
theorem lkX3_init_m18 : Cond.methodLink RX3 18 yX0_init ∈ wsX3_init := List.mem_of_getElem? (i := 25) (by decide +kernel)
set_option maxRecDepth 20000 in
theorem lkX3_init_imX0_init : Cond.instanceMethod yX0_init ∈ wsX3_init := List.mem_of_getElem? (i := 26) (by decide +kernel)
set_option maxRecDepth 20000 in
theorem lkX3_init_f21 : Cond.fieldLink RX3 21 "MapCarrier" "carrier" "LMapCarrier$Carrier;" ∈ wsX3_init := List.mem_of_getElem? (i := 11) (by decide +kernel)
set_option maxRecDepth 20000 in
theorem lkX3_init_f25 : Cond.fieldLink RX3 25 "MapCarrier" "trial" "LMapCarrier$Carrier;" ∈ wsX3_init := List.mem_of_getElem? (i := 12) (by decide +kernel)
