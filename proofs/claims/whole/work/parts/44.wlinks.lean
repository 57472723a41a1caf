set_option maxRecDepth 20000 in
theorem lkL_addPlace_c13 : Cond.classLink RL 13 "java/lang/IllegalStateException" ∈ wsL_addPlace := List.mem_of_getElem? (i := 1) (by decide +kernel)
set_option maxRecDepth 20000 in
theorem lkL_turnRoad_c19 : Cond.classLink RL 19 "java/lang/IndexOutOfBoundsException" ∈ wsL_turnRoad := List.mem_of_getElem? (i := 1) (by decide +kernel)
set_option maxRecDepth 20000 in
theorem lkL_turnShepherd_c19 : Cond.classLink RL 19 "java/lang/IndexOutOfBoundsException" ∈ wsL_turnShepherd := List.mem_of_getElem? (i := 1) (by decide +kernel)
set_option maxRecDepth 20000 in
theorem lkL_pay_c21 : Cond.classLink RL 21 "java/lang/IllegalArgumentException" ∈ wsL_pay := List.mem_of_getElem? (i := 1) (by decide +kernel)
set_option maxRecDepth 20000 in
theorem lkL_beginErrand_c19 : Cond.classLink RL 19 "java/lang/IndexOutOfBoundsException" ∈ wsL_beginErrand := List.mem_of_getElem? (i := 1) (by decide +kernel)
set_option maxRecDepth 20000 in
theorem lkL_beginErrand_c13 : Cond.classLink RL 13 "java/lang/IllegalStateException" ∈ wsL_beginErrand := List.mem_of_getElem? (i := 2) (by decide +kernel)
set_option maxRecDepth 20000 in
theorem lkL_goOn_c21 : Cond.classLink RL 21 "java/lang/IllegalArgumentException" ∈ wsL_goOn := List.mem_of_getElem? (i := 1) (by decide +kernel)
set_option maxRecDepth 20000 in
theorem lkL_goOn_c13 : Cond.classLink RL 13 "java/lang/IllegalStateException" ∈ wsL_goOn := List.mem_of_getElem? (i := 2) (by decide +kernel)
set_option maxRecDepth 20000 in
theorem lkL_giveUp_c13 : Cond.classLink RL 13 "java/lang/IllegalStateException" ∈ wsL_giveUp := List.mem_of_getElem? (i := 1) (by decide +kernel)
set_option maxRecDepth 20000 in
theorem lkL_sleep_c21 : Cond.classLink RL 21 "java/lang/IllegalArgumentException" ∈ wsL_sleep := List.mem_of_getElem? (i := 1) (by decide +kernel)
set_option maxRecDepth 20000 in
theorem lkL_exitsOf_c19 : Cond.classLink RL 19 "java/lang/IndexOutOfBoundsException" ∈ wsL_exitsOf := List.mem_of_getElem? (i := 1) (by decide +kernel)
set_option maxRecDepth 20000 in
theorem lkL_leadsTo_c19 : Cond.classLink RL 19 "java/lang/IndexOutOfBoundsException" ∈ wsL_leadsTo := List.mem_of_getElem? (i := 1) (by decide +kernel)
set_option maxRecDepth 20000 in
theorem lkL_milesOf_c19 : Cond.classLink RL 19 "java/lang/IndexOutOfBoundsException" ∈ wsL_milesOf := List.mem_of_getElem? (i := 1) (by decide +kernel)
set_option maxRecDepth 20000 in
theorem lkL_isOpen_c19 : Cond.classLink RL 19 "java/lang/IndexOutOfBoundsException" ∈ wsL_isOpen := List.mem_of_getElem? (i := 1) (by decide +kernel)
set_option maxRecDepth 20000 in
theorem lkL_hasShepherd_c19 : Cond.classLink RL 19 "java/lang/IndexOutOfBoundsException" ∈ wsL_hasShepherd := List.mem_of_getElem? (i := 1) (by decide +kernel)
set_option maxRecDepth 20000 in
theorem lkL_distance_c19 : Cond.classLink RL 19 "java/lang/IndexOutOfBoundsException" ∈ wsL_distance := List.mem_of_getElem? (i := 1) (by decide +kernel)
set_option maxRecDepth 20000 in
theorem lkL_isTried_c19 : Cond.classLink RL 19 "java/lang/IndexOutOfBoundsException" ∈ wsL_isTried := List.mem_of_getElem? (i := 1) (by decide +kernel)
set_option maxRecDepth 20000 in
theorem lkL_remembered_c19 : Cond.classLink RL 19 "java/lang/IndexOutOfBoundsException" ∈ wsL_remembered := List.mem_of_getElem? (i := 1) (by decide +kernel)
set_option maxRecDepth 20000 in
theorem lkL_strength_c19 : Cond.classLink RL 19 "java/lang/IndexOutOfBoundsException" ∈ wsL_strength := List.mem_of_getElem? (i := 1) (by decide +kernel)
set_option maxRecDepth 20000 in
theorem lkL_knowsWay_c19 : Cond.classLink RL 19 "java/lang/IndexOutOfBoundsException" ∈ wsL_knowsWay := List.mem_of_getElem? (i := 1) (by decide +kernel)
set_option maxRecDepth 20000 in
theorem lkL_wouldWalk_c19 : Cond.classLink RL 19 "java/lang/IndexOutOfBoundsException" ∈ wsL_wouldWalk := List.mem_of_getElem? (i := 1) (by decide +kernel)
set_option maxRecDepth 20000 in
theorem lkL_wouldWalk_c13 : Cond.classLink RL 13 "java/lang/IllegalStateException" ∈ wsL_wouldWalk := List.mem_of_getElem? (i := 2) (by decide +kernel)
set_option maxRecDepth 20000 in
theorem lkL_bestShepherd_c19 : Cond.classLink RL 19 "java/lang/IndexOutOfBoundsException" ∈ wsL_bestShepherd := List.mem_of_getElem? (i := 1) (by decide +kernel)
set_option maxRecDepth 20000 in
theorem lkL_bestShepherd_c13 : Cond.classLink RL 13 "java/lang/IllegalStateException" ∈ wsL_bestShepherd := List.mem_of_getElem? (i := 2) (by decide +kernel)
