set_option maxRecDepth 20000 in
theorem lkL_addRoad_c19 : Cond.classLink RL 19 "java/lang/IndexOutOfBoundsException" ∈ wsL_addRoad := List.mem_of_getElem? (i := 1) (by decide +kernel)
set_option maxRecDepth 20000 in
theorem lkL_addRoad_c21 : Cond.classLink RL 21 "java/lang/IllegalArgumentException" ∈ wsL_addRoad := List.mem_of_getElem? (i := 2) (by decide +kernel)
set_option maxRecDepth 20000 in
theorem lkL_addRoad_c13 : Cond.classLink RL 13 "java/lang/IllegalStateException" ∈ wsL_addRoad := List.mem_of_getElem? (i := 3) (by decide +kernel)
