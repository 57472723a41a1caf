set_option maxRecDepth 20000 in
theorem lkX3_meanMiles_f21 : Cond.fieldLink RX3 21 "MapCarrier" "carrier" "LMapCarrier$Carrier;" ∈ wsX3_meanMiles := List.mem_of_getElem? (i := 1) (by decide +kernel)
set_option maxRecDepth 20000 in
theorem inX3_meanMiles_X3 : ∀ w ∈ u_ws RX3 TX3 3, w ∈ wsX3_meanMiles := fun _ h => List.mem_cons_of_mem _ (List.mem_append_left _ (List.mem_append_right _ h))
set_option maxRecDepth 20000 in
theorem inX3_meanMiles_X0 : ∀ w ∈ u_ws RX0 TX0 15, w ∈ wsX3_meanMiles := fun _ h => List.mem_cons_of_mem _ (List.mem_append_right _ h)
set_option maxRecDepth 20000 in
theorem inX5_meanMiles_X5 : ∀ w ∈ u_ws RX5 TX5 12, w ∈ wsX5_meanMiles := fun _ h => List.mem_cons_of_mem _ (List.mem_append_left _ (List.mem_append_right _ h))
set_option maxRecDepth 20000 in
theorem lkX5_meanMiles_f42 : Cond.fieldLink RX5 42 "MapCarrierModel" "thrown" "I" ∈ wsX5_meanMiles := List.mem_of_getElem? (i := 1) (by decide +kernel)
set_option maxRecDepth 20000 in
theorem lkX5_meanMiles_f35 : Cond.fieldLink RX5 35 "MapCarrierModel" "s" "LMapCarrierModel$State;" ∈ wsX5_meanMiles := List.mem_of_getElem? (i := 2) (by decide +kernel)
set_option maxRecDepth 20000 in
theorem inX5_meanMiles_X4 : ∀ w ∈ u_ws RX4 TX4 14, w ∈ wsX5_meanMiles := fun _ h => List.mem_cons_of_mem _ (List.mem_append_right _ h)
