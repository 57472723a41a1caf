section
-- ===== PART A: goes FIRST, ahead of the names: the tables' words, and 'selects' of the private methods out of them =====
/-- a private method of a class that the tables say can be made, by its rows of tables_1 -/
def lw_okq (q : MethodName × Nat) : Prop := (q.1.cls ≠ "java/lang/invoke/MethodHandle" ∧ q.1.cls ≠ "java/lang/invoke/VarHandle") ∧ Cond.instantiable q.1.cls q.2 ∈ tables_1 ∧ Cond.privateMethod q.1 ∈ tables_1 ∧ Cond.instanceMethod q.1 ∈ tables_1
theorem lw_p0 : lw_okq (⟨"MapCarrier", "mixPlaces", "(J)J"⟩, 3) := ⟨⟨by decide +kernel, by decide +kernel⟩, List.mem_of_getElem? (i := 17) (by decide +kernel), List.mem_of_getElem? (i := 211) (by decide +kernel), List.mem_of_getElem? (i := 212) (by decide +kernel)⟩
theorem lw_p1 : lw_okq (⟨"MapCarrier", "checkPlace", "(I)V"⟩, 3) := ⟨⟨by decide +kernel, by decide +kernel⟩, List.mem_of_getElem? (i := 17) (by decide +kernel), List.mem_of_getElem? (i := 219) (by decide +kernel), List.mem_of_getElem? (i := 220) (by decide +kernel)⟩
theorem lw_p2 : lw_okq (⟨"java/lang/Throwable", "fillInStackTrace", "(I)Ljava/lang/Throwable;"⟩, 6) := ⟨⟨by decide +kernel, by decide +kernel⟩, List.mem_of_getElem? (i := 265) (by decide +kernel), List.mem_of_getElem? (i := 263) (by decide +kernel), List.mem_of_getElem? (i := 264) (by decide +kernel)⟩
theorem lw_p3 : lw_okq (⟨"MapCarrier", "checkedEnd", "(II)I"⟩, 3) := ⟨⟨by decide +kernel, by decide +kernel⟩, List.mem_of_getElem? (i := 17) (by decide +kernel), List.mem_of_getElem? (i := 306) (by decide +kernel), List.mem_of_getElem? (i := 307) (by decide +kernel)⟩
theorem lw_p4 : lw_okq (⟨"MapCarrier", "mixMemory", "(J)J"⟩, 3) := ⟨⟨by decide +kernel, by decide +kernel⟩, List.mem_of_getElem? (i := 17) (by decide +kernel), List.mem_of_getElem? (i := 352) (by decide +kernel), List.mem_of_getElem? (i := 353) (by decide +kernel)⟩
theorem lw_p5 : lw_okq (⟨"MapCarrier", "checkRange", "(II)V"⟩, 3) := ⟨⟨by decide +kernel, by decide +kernel⟩, List.mem_of_getElem? (i := 17) (by decide +kernel), List.mem_of_getElem? (i := 424) (by decide +kernel), List.mem_of_getElem? (i := 425) (by decide +kernel)⟩
theorem lw_p6 : lw_okq (⟨"MapCarrier$Land", "layEnd", "(III)V"⟩, 8) := ⟨⟨by decide +kernel, by decide +kernel⟩, List.mem_of_getElem? (i := 25) (by decide +kernel), List.mem_of_getElem? (i := 438) (by decide +kernel), List.mem_of_getElem? (i := 439) (by decide +kernel)⟩
theorem lw_p7 : lw_okq (⟨"MapCarrier", "checkIdle", "()V"⟩, 3) := ⟨⟨by decide +kernel, by decide +kernel⟩, List.mem_of_getElem? (i := 17) (by decide +kernel), List.mem_of_getElem? (i := 480) (by decide +kernel), List.mem_of_getElem? (i := 481) (by decide +kernel)⟩
theorem lw_p8 : lw_okq (⟨"MapCarrier$Land", "measure", "(I)V"⟩, 8) := ⟨⟨by decide +kernel, by decide +kernel⟩, List.mem_of_getElem? (i := 25) (by decide +kernel), List.mem_of_getElem? (i := 489) (by decide +kernel), List.mem_of_getElem? (i := 490) (by decide +kernel)⟩
theorem lw_p9 : lw_okq (⟨"MapCarrier$Land", "milesBy", "(I)I"⟩, 8) := ⟨⟨by decide +kernel, by decide +kernel⟩, List.mem_of_getElem? (i := 25) (by decide +kernel), List.mem_of_getElem? (i := 497) (by decide +kernel), List.mem_of_getElem? (i := 498) (by decide +kernel)⟩
theorem lw_p10 : lw_okq (⟨"MapCarrier", "checkUnderway", "()V"⟩, 3) := ⟨⟨by decide +kernel, by decide +kernel⟩, List.mem_of_getElem? (i := 17) (by decide +kernel), List.mem_of_getElem? (i := 519) (by decide +kernel), List.mem_of_getElem? (i := 520) (by decide +kernel)⟩
theorem lw_p11 : lw_okq (⟨"MapCarrier$Carrier", "rememberedEnd", "()I"⟩, 15) := ⟨⟨by decide +kernel, by decide +kernel⟩, List.mem_of_getElem? (i := 63) (by decide +kernel), List.mem_of_getElem? (i := 528) (by decide +kernel), List.mem_of_getElem? (i := 529) (by decide +kernel)⟩
theorem lw_p12 : lw_okq (⟨"MapCarrier$Carrier", "canTake", "(I)Z"⟩, 15) := ⟨⟨by decide +kernel, by decide +kernel⟩, List.mem_of_getElem? (i := 63) (by decide +kernel), List.mem_of_getElem? (i := 534) (by decide +kernel), List.mem_of_getElem? (i := 535) (by decide +kernel)⟩
theorem lw_p13 : lw_okq (⟨"MapCarrier$Carrier", "askedEnd", "()I"⟩, 15) := ⟨⟨by decide +kernel, by decide +kernel⟩, List.mem_of_getElem? (i := 63) (by decide +kernel), List.mem_of_getElem? (i := 538) (by decide +kernel), List.mem_of_getElem? (i := 539) (by decide +kernel)⟩
theorem lw_p14 : lw_okq (⟨"MapCarrier$Carrier", "firstUntried", "()I"⟩, 15) := ⟨⟨by decide +kernel, by decide +kernel⟩, List.mem_of_getElem? (i := 63) (by decide +kernel), List.mem_of_getElem? (i := 554) (by decide +kernel), List.mem_of_getElem? (i := 555) (by decide +kernel)⟩
theorem lw_p15 : lw_okq (⟨"MapCarrier$Carrier", "take", "(I)V"⟩, 15) := ⟨⟨by decide +kernel, by decide +kernel⟩, List.mem_of_getElem? (i := 63) (by decide +kernel), List.mem_of_getElem? (i := 558) (by decide +kernel), List.mem_of_getElem? (i := 559) (by decide +kernel)⟩
def lw_privs_1 : List (MethodName × Nat) := [(⟨"MapCarrier", "mixPlaces", "(J)J"⟩, 3), (⟨"MapCarrier", "checkPlace", "(I)V"⟩, 3), (⟨"java/lang/Throwable", "fillInStackTrace", "(I)Ljava/lang/Throwable;"⟩, 6), (⟨"MapCarrier", "checkedEnd", "(II)I"⟩, 3), (⟨"MapCarrier", "mixMemory", "(J)J"⟩, 3), (⟨"MapCarrier", "checkRange", "(II)V"⟩, 3), (⟨"MapCarrier$Land", "layEnd", "(III)V"⟩, 8), (⟨"MapCarrier", "checkIdle", "()V"⟩, 3), (⟨"MapCarrier$Land", "measure", "(I)V"⟩, 8), (⟨"MapCarrier$Land", "milesBy", "(I)I"⟩, 8), (⟨"MapCarrier", "checkUnderway", "()V"⟩, 3), (⟨"MapCarrier$Carrier", "rememberedEnd", "()I"⟩, 15), (⟨"MapCarrier$Carrier", "canTake", "(I)Z"⟩, 15), (⟨"MapCarrier$Carrier", "askedEnd", "()I"⟩, 15), (⟨"MapCarrier$Carrier", "firstUntried", "()I"⟩, 15), (⟨"MapCarrier$Carrier", "take", "(I)V"⟩, 15)]
theorem lw_r1 : ∀ q ∈ lw_privs_1, lw_okq q := List.forall_mem_cons.mpr ⟨lw_p0, List.forall_mem_cons.mpr ⟨lw_p1, List.forall_mem_cons.mpr ⟨lw_p2, List.forall_mem_cons.mpr ⟨lw_p3, List.forall_mem_cons.mpr ⟨lw_p4, List.forall_mem_cons.mpr ⟨lw_p5, List.forall_mem_cons.mpr ⟨lw_p6, List.forall_mem_cons.mpr ⟨lw_p7, List.forall_mem_cons.mpr ⟨lw_p8, List.forall_mem_cons.mpr ⟨lw_p9, List.forall_mem_cons.mpr ⟨lw_p10, List.forall_mem_cons.mpr ⟨lw_p11, List.forall_mem_cons.mpr ⟨lw_p12, List.forall_mem_cons.mpr ⟨lw_p13, List.forall_mem_cons.mpr ⟨lw_p14, List.forall_mem_cons.mpr ⟨lw_p15, fun _ h => absurd h List.not_mem_nil⟩⟩⟩⟩⟩⟩⟩⟩⟩⟩⟩⟩⟩⟩⟩⟩
theorem lw_p16 : lw_okq (⟨"MapCarrier$Carrier", "doubleBack", "()V"⟩, 15) := ⟨⟨by decide +kernel, by decide +kernel⟩, List.mem_of_getElem? (i := 63) (by decide +kernel), List.mem_of_getElem? (i := 568) (by decide +kernel), List.mem_of_getElem? (i := 569) (by decide +kernel)⟩
theorem lw_p17 : lw_okq (⟨"MapCarrier$Carrier", "rememberWay", "()V"⟩, 15) := ⟨⟨by decide +kernel, by decide +kernel⟩, List.mem_of_getElem? (i := 63) (by decide +kernel), List.mem_of_getElem? (i := 572) (by decide +kernel), List.mem_of_getElem? (i := 573) (by decide +kernel)⟩
theorem lw_p18 : lw_okq (⟨"MapCarrier", "trialMiles", "(II)I"⟩, 3) := ⟨⟨by decide +kernel, by decide +kernel⟩, List.mem_of_getElem? (i := 17) (by decide +kernel), List.mem_of_getElem? (i := 663) (by decide +kernel), List.mem_of_getElem? (i := 664) (by decide +kernel)⟩
theorem lw_p19 : lw_okq (⟨"MapCarrierModel", "no", "(I)I"⟩, 12) := ⟨⟨by decide +kernel, by decide +kernel⟩, List.mem_of_getElem? (i := 685) (by decide +kernel), List.mem_of_getElem? (i := 799) (by decide +kernel), List.mem_of_getElem? (i := 800) (by decide +kernel)⟩
theorem lw_p20 : lw_okq (⟨"MapCarrierModel", "isPlace", "(I)Z"⟩, 12) := ⟨⟨by decide +kernel, by decide +kernel⟩, List.mem_of_getElem? (i := 685) (by decide +kernel), List.mem_of_getElem? (i := 807) (by decide +kernel), List.mem_of_getElem? (i := 808) (by decide +kernel)⟩
theorem lw_p21 : lw_okq (⟨"MapCarrierModel", "addExit", "(II)V"⟩, 12) := ⟨⟨by decide +kernel, by decide +kernel⟩, List.mem_of_getElem? (i := 685) (by decide +kernel), List.mem_of_getElem? (i := 814) (by decide +kernel), List.mem_of_getElem? (i := 815) (by decide +kernel)⟩
theorem lw_p22 : lw_okq (⟨"MapCarrierModel", "isExit", "(II)Z"⟩, 12) := ⟨⟨by decide +kernel, by decide +kernel⟩, List.mem_of_getElem? (i := 685) (by decide +kernel), List.mem_of_getElem? (i := 822) (by decide +kernel), List.mem_of_getElem? (i := 823) (by decide +kernel)⟩
theorem lw_p23 : lw_okq (⟨"MapCarrierModel", "isNot", "(I)Z"⟩, 12) := ⟨⟨by decide +kernel, by decide +kernel⟩, List.mem_of_getElem? (i := 685) (by decide +kernel), List.mem_of_getElem? (i := 826) (by decide +kernel), List.mem_of_getElem? (i := 827) (by decide +kernel)⟩
theorem lw_p24 : lw_okq (⟨"MapCarrierModel", "milesBetween", "(II)I"⟩, 12) := ⟨⟨by decide +kernel, by decide +kernel⟩, List.mem_of_getElem? (i := 685) (by decide +kernel), List.mem_of_getElem? (i := 850) (by decide +kernel), List.mem_of_getElem? (i := 851) (by decide +kernel)⟩
theorem lw_p25 : lw_okq (⟨"MapCarrierModel", "measure", "(I)V"⟩, 12) := ⟨⟨by decide +kernel, by decide +kernel⟩, List.mem_of_getElem? (i := 685) (by decide +kernel), List.mem_of_getElem? (i := 854) (by decide +kernel), List.mem_of_getElem? (i := 855) (by decide +kernel)⟩
theorem lw_p26 : lw_okq (⟨"MapCarrierModel", "stepsOn", "(LMapCarrierModel$State;I)I"⟩, 12) := ⟨⟨by decide +kernel, by decide +kernel⟩, List.mem_of_getElem? (i := 685) (by decide +kernel), List.mem_of_getElem? (i := 862) (by decide +kernel), List.mem_of_getElem? (i := 863) (by decide +kernel)⟩
theorem lw_p27 : lw_okq (⟨"MapCarrierModel", "stepOn", "(LMapCarrierModel$State;)Z"⟩, 12) := ⟨⟨by decide +kernel, by decide +kernel⟩, List.mem_of_getElem? (i := 685) (by decide +kernel), List.mem_of_getElem? (i := 866) (by decide +kernel), List.mem_of_getElem? (i := 867) (by decide +kernel)⟩
theorem lw_p28 : lw_okq (⟨"MapCarrierModel", "canTake", "(LMapCarrierModel$State;I)Z"⟩, 12) := ⟨⟨by decide +kernel, by decide +kernel⟩, List.mem_of_getElem? (i := 685) (by decide +kernel), List.mem_of_getElem? (i := 874) (by decide +kernel), List.mem_of_getElem? (i := 875) (by decide +kernel)⟩
theorem lw_p29 : lw_okq (⟨"MapCarrierModel", "take", "(LMapCarrierModel$State;I)V"⟩, 12) := ⟨⟨by decide +kernel, by decide +kernel⟩, List.mem_of_getElem? (i := 685) (by decide +kernel), List.mem_of_getElem? (i := 878) (by decide +kernel), List.mem_of_getElem? (i := 879) (by decide +kernel)⟩
theorem lw_p30 : lw_okq (⟨"MapCarrierModel", "asks", "(LMapCarrierModel$State;)Z"⟩, 12) := ⟨⟨by decide +kernel, by decide +kernel⟩, List.mem_of_getElem? (i := 685) (by decide +kernel), List.mem_of_getElem? (i := 882) (by decide +kernel), List.mem_of_getElem? (i := 883) (by decide +kernel)⟩
theorem lw_p31 : lw_okq (⟨"MapCarrierModel", "toldExit", "(II)I"⟩, 12) := ⟨⟨by decide +kernel, by decide +kernel⟩, List.mem_of_getElem? (i := 685) (by decide +kernel), List.mem_of_getElem? (i := 886) (by decide +kernel), List.mem_of_getElem? (i := 887) (by decide +kernel)⟩
def lw_privs_2 : List (MethodName × Nat) := [(⟨"MapCarrier$Carrier", "doubleBack", "()V"⟩, 15), (⟨"MapCarrier$Carrier", "rememberWay", "()V"⟩, 15), (⟨"MapCarrier", "trialMiles", "(II)I"⟩, 3), (⟨"MapCarrierModel", "no", "(I)I"⟩, 12), (⟨"MapCarrierModel", "isPlace", "(I)Z"⟩, 12), (⟨"MapCarrierModel", "addExit", "(II)V"⟩, 12), (⟨"MapCarrierModel", "isExit", "(II)Z"⟩, 12), (⟨"MapCarrierModel", "isNot", "(I)Z"⟩, 12), (⟨"MapCarrierModel", "milesBetween", "(II)I"⟩, 12), (⟨"MapCarrierModel", "measure", "(I)V"⟩, 12), (⟨"MapCarrierModel", "stepsOn", "(LMapCarrierModel$State;I)I"⟩, 12), (⟨"MapCarrierModel", "stepOn", "(LMapCarrierModel$State;)Z"⟩, 12), (⟨"MapCarrierModel", "canTake", "(LMapCarrierModel$State;I)Z"⟩, 12), (⟨"MapCarrierModel", "take", "(LMapCarrierModel$State;I)V"⟩, 12), (⟨"MapCarrierModel", "asks", "(LMapCarrierModel$State;)Z"⟩, 12), (⟨"MapCarrierModel", "toldExit", "(II)I"⟩, 12)]
theorem lw_r2 : ∀ q ∈ lw_privs_2, lw_okq q := List.forall_mem_cons.mpr ⟨lw_p16, List.forall_mem_cons.mpr ⟨lw_p17, List.forall_mem_cons.mpr ⟨lw_p18, List.forall_mem_cons.mpr ⟨lw_p19, List.forall_mem_cons.mpr ⟨lw_p20, List.forall_mem_cons.mpr ⟨lw_p21, List.forall_mem_cons.mpr ⟨lw_p22, List.forall_mem_cons.mpr ⟨lw_p23, List.forall_mem_cons.mpr ⟨lw_p24, List.forall_mem_cons.mpr ⟨lw_p25, List.forall_mem_cons.mpr ⟨lw_p26, List.forall_mem_cons.mpr ⟨lw_p27, List.forall_mem_cons.mpr ⟨lw_p28, List.forall_mem_cons.mpr ⟨lw_p29, List.forall_mem_cons.mpr ⟨lw_p30, List.forall_mem_cons.mpr ⟨lw_p31, fun _ h => absurd h List.not_mem_nil⟩⟩⟩⟩⟩⟩⟩⟩⟩⟩⟩⟩⟩⟩⟩⟩
theorem lw_p32 : lw_okq (⟨"MapCarrierModel", "triesNext", "(LMapCarrierModel$State;)Z"⟩, 12) := ⟨⟨by decide +kernel, by decide +kernel⟩, List.mem_of_getElem? (i := 685) (by decide +kernel), List.mem_of_getElem? (i := 894) (by decide +kernel), List.mem_of_getElem? (i := 895) (by decide +kernel)⟩
theorem lw_p33 : lw_okq (⟨"MapCarrierModel", "doublesBack", "(LMapCarrierModel$State;)Z"⟩, 12) := ⟨⟨by decide +kernel, by decide +kernel⟩, List.mem_of_getElem? (i := 685) (by decide +kernel), List.mem_of_getElem? (i := 898) (by decide +kernel), List.mem_of_getElem? (i := 899) (by decide +kernel)⟩
theorem lw_p34 : lw_okq (⟨"MapCarrierModel", "learn", "(LMapCarrierModel$State;)V"⟩, 12) := ⟨⟨by decide +kernel, by decide +kernel⟩, List.mem_of_getElem? (i := 685) (by decide +kernel), List.mem_of_getElem? (i := 907) (by decide +kernel), List.mem_of_getElem? (i := 908) (by decide +kernel)⟩
theorem lw_p35 : lw_okq (⟨"MapCarrierModel", "night", "()I"⟩, 12) := ⟨⟨by decide +kernel, by decide +kernel⟩, List.mem_of_getElem? (i := 685) (by decide +kernel), List.mem_of_getElem? (i := 919) (by decide +kernel), List.mem_of_getElem? (i := 920) (by decide +kernel)⟩
theorem lw_p36 : lw_okq (⟨"MapCarrierModel", "ok", "(I)I"⟩, 12) := ⟨⟨by decide +kernel, by decide +kernel⟩, List.mem_of_getElem? (i := 685) (by decide +kernel), List.mem_of_getElem? (i := 927) (by decide +kernel), List.mem_of_getElem? (i := 928) (by decide +kernel)⟩
theorem lw_p37 : lw_okq (⟨"MapCarrierModel", "strengthOf", "(I)I"⟩, 12) := ⟨⟨by decide +kernel, by decide +kernel⟩, List.mem_of_getElem? (i := 685) (by decide +kernel), List.mem_of_getElem? (i := 983) (by decide +kernel), List.mem_of_getElem? (i := 984) (by decide +kernel)⟩
theorem lw_p38 : lw_okq (⟨"MapCarrierModel", "knows", "(I)Z"⟩, 12) := ⟨⟨by decide +kernel, by decide +kernel⟩, List.mem_of_getElem? (i := 685) (by decide +kernel), List.mem_of_getElem? (i := 991) (by decide +kernel), List.mem_of_getElem? (i := 992) (by decide +kernel)⟩
theorem lw_p39 : lw_okq (⟨"MapCarrierModel", "walkTo", "(I)I"⟩, 12) := ⟨⟨by decide +kernel, by decide +kernel⟩, List.mem_of_getElem? (i := 685) (by decide +kernel), List.mem_of_getElem? (i := 1019) (by decide +kernel), List.mem_of_getElem? (i := 1020) (by decide +kernel)⟩
theorem lw_p40 : lw_okq (⟨"MapCarrierModel", "helper", "(I)I"⟩, 12) := ⟨⟨by decide +kernel, by decide +kernel⟩, List.mem_of_getElem? (i := 685) (by decide +kernel), List.mem_of_getElem? (i := 1032) (by decide +kernel), List.mem_of_getElem? (i := 1033) (by decide +kernel)⟩
def lw_privs_3 : List (MethodName × Nat) := [(⟨"MapCarrierModel", "triesNext", "(LMapCarrierModel$State;)Z"⟩, 12), (⟨"MapCarrierModel", "doublesBack", "(LMapCarrierModel$State;)Z"⟩, 12), (⟨"MapCarrierModel", "learn", "(LMapCarrierModel$State;)V"⟩, 12), (⟨"MapCarrierModel", "night", "()I"⟩, 12), (⟨"MapCarrierModel", "ok", "(I)I"⟩, 12), (⟨"MapCarrierModel", "strengthOf", "(I)I"⟩, 12), (⟨"MapCarrierModel", "knows", "(I)Z"⟩, 12), (⟨"MapCarrierModel", "walkTo", "(I)I"⟩, 12), (⟨"MapCarrierModel", "helper", "(I)I"⟩, 12)]
theorem lw_r3 : ∀ q ∈ lw_privs_3, lw_okq q := List.forall_mem_cons.mpr ⟨lw_p32, List.forall_mem_cons.mpr ⟨lw_p33, List.forall_mem_cons.mpr ⟨lw_p34, List.forall_mem_cons.mpr ⟨lw_p35, List.forall_mem_cons.mpr ⟨lw_p36, List.forall_mem_cons.mpr ⟨lw_p37, List.forall_mem_cons.mpr ⟨lw_p38, List.forall_mem_cons.mpr ⟨lw_p39, List.forall_mem_cons.mpr ⟨lw_p40, fun _ h => absurd h List.not_mem_nil⟩⟩⟩⟩⟩⟩⟩⟩⟩
def lw_privs : List (MethodName × Nat) := lw_privs_1 ++ (lw_privs_2 ++ (lw_privs_3))
def lw_tbl : List Cond := k2_sels lw_privs ++ tables_1
theorem lw_privs_ok : ∀ q ∈ lw_privs, lw_okq q := by
  show ∀ q ∈ lw_privs_1 ++ (lw_privs_2 ++ (lw_privs_3)), lw_okq q
  exact List.forall_mem_append.mpr ⟨lw_r1, List.forall_mem_append.mpr ⟨lw_r2, lw_r3⟩⟩
/-- the streams that the claim lets the run draw from -/
abbrev lw_cs : List Choice := [Jvm.Choice.named "NaN.bits"]
theorem lw_bits : nanBits ∈ lw_cs := by first | decide | exact List.mem_cons_self | simp [lw_cs, nanBits]
end
section
/-! ===== BEGIN words of one list among another's, by their places ===== -/
theorem goodIn_r {big : List Cond} (ws : List Cond) (ps : List Nat) (hp : ws = ps.filterMap (fun i => big[i]?)) (h : ws.all goodWord = true) : GoodIn big ws := by
  intro w hw
  have h1 := List.all_eq_true.mp h w hw
  rw [hp] at hw
  obtain ⟨i, -, hi⟩ := List.mem_filterMap.mp hw
  have hm : w ∈ big := by first | exact List.mem_of_getElem? hi | exact List.getElem?_mem hi
  exact ⟨hm, good_of_word h1⟩
theorem goodIn_app {big a b : List Cond} (ha : GoodIn big a) (hb : GoodIn big b) : GoodIn big (a ++ b) := fun w h => (List.mem_append.mp h).elim (ha w) (hb w)
theorem goodIn_ca {big a b : List Cond} {c : Cond} (ha : GoodIn big (c :: a)) (hb : GoodIn big b) : GoodIn big (c :: (a ++ b)) := fun w h => (List.mem_cons.mp h).elim (fun e => ha w (List.mem_cons.mpr (Or.inl e))) (fun h => (List.mem_append.mp h).elim (fun h => ha w (List.mem_cons.mpr (Or.inr h))) (hb w))
theorem goodIn_sub {big ws : List Cond} (hm : ∀ w ∈ ws, w ∈ big) (h : ws.all goodWord = true) : GoodIn big ws := fun w hw => ⟨hm w hw, good_of_word (List.all_eq_true.mp h w hw)⟩
/-! ===== END ===== -/

/-! ===== BEGIN exceptions that leave a method, and their catching by the caller (launches without stack traces) ===== -/
section VXA
/-! The laws vx_back, vx_callV, vx_callS, vx_callSW, vx_throw0, vx_throwS follow proofs of the library, with one case more: JvmDerived/Free/Laws.lean (Back.of_free), Shelf42/LK1.lean (callV, callS), Shelf/KitTraced.lean (throwNew0V, throwNewS). -/
/-- where a method has thrown q: the class by its name, the cell, what was written, the world -/
def vx_T (XC : String → State → State → Prop) (st : State) (q : Addr) (t : State) (mc ms : Nat) (free : Addr → Prop) : Prop :=
  ∃ (E : String) (ce : Cell) (L : List Loc), XC E st t ∧ t.heap[q]? = some ce ∧ ce.vm = .none ∧ st.vm.findClass E = some ce.cls ∧ st.WarmedH t.vm ∧ st.sameButNew ({ t with vm := st.vm } : State) L mc ms ∧ ∀ z ∈ L, free z.base
def vx_Q (Qc : Array Value → State → Outcome → State → Prop) (XC : String → State → State → Prop) (mc ms : Nat) (free : Addr → Prop) : Array Value → State → Outcome → State → Prop := fun a st o t =>
  (Qc a st o t ∧ ∃ L, FrameEnd st o t L mc ms ∧ ∀ q ∈ L, free q.base) ∨ ∃ q, o = .threw q ∧ vx_T XC st q t mc ms free
/-- a callee that returns or throws -/
def vx_Met (l : Launch) (y : MethodName) (ws : List Cond) (rm : Room) (Pc : Array Value → State → Prop) (Qc : Array Value → State → Outcome → State → Prop) (XC : String → State → State → Prop) (mc ms : Nat) (free : Addr → Prop) : Prop :=
  MetFree l y (headSpec ws rm) Pc (fun _ _ _ _ _ => True) (vx_Q Qc XC mc ms free)
def vx_Post (XC : String → State → State → Prop) (mc ms : Nat) (free : Addr → Prop) : Pt → Array Value → Addr → Pt → Prop := fun A a q B =>
  ∃ (g : JFrame) (mk : MethodId) (t : State) (L : List Loc) (E : String) (ce : Cell), B.U.heap = t.heap ∧ B.U.vm = t.vm ∧ XC E (A.U.calling g mk a) t ∧ t.heap[q]? = some ce ∧ ce.vm = .none ∧ A.U.vm.findClass E = some ce.cls ∧ B.locs = A.locs ++ L ∧ (∀ z ∈ L, free z.base) ∧ B.cells = A.cells + mc ∧ B.slots = A.slots + ms
def vx_Back (l : Launch) (R : Room) (p : Program) (e : Env) (below : List Frame) (s : State) (sargs : Array Value) (y : MethodName) (len W9 : Nat)
    (Pre : Pt → Array Value → Prop) (Post : Pt → Array Value → Option Value → Pt → Prop) (PostX : Pt → Array Value → Addr → Pt → Prop) : Prop :=
  ∀ (m : MethodId) (meth : Method) (c : Code) (A : Pt) (g : JFrame) (ig : Instr) (mk : MethodId) (a : Array Value),
    Stand p l e R s m sargs below meth c A.U A.locs A.cells A.slots → g.method = m → g.locals.size = c.maxLocals → decode c.code g.pc = .ok (ig, len) →
    2 * g.monitorRoom + (g.stack.map fun v => v.category).sum ≤ W9 → A.U.methodNamed? y = some mk → Pre A a →
    (∃ (v : Option Value) (B : Pt), Stand p l e R s m sargs below meth c B.U B.locs B.cells B.slots ∧ Post A a v B ∧
      Steps p.tables e below (doInvoke e (A.U.setTop g) [] mk a).1 (B.U.setTop { g with pc := g.pc + len, stack := v.toList ++ g.stack })) ∨
    (∃ (q : Addr) (B : Pt), Stand p l e R s m sargs below meth c B.U B.locs B.cells B.slots ∧ PostX A a q B ∧
      Steps p.tables e below (doInvoke e (A.U.setTop g) [] mk a).1 ((B.U.setTop g).pushFrame (.throwing q)))
section Payer
variable {l : Launch} {R : Room} {p : Program} {e : Env} {below : List Frame} {s : State} {sargs : Array Value} {y : MethodName} {len W9 : Nat}
theorem vx_back {ws : List Cond} {rm : Room} {Pc : Array Value → State → Prop} {Qc : Array Value → State → Outcome → State → Prop} {XC : String → State → State → Prop} {mc ms : Nat} {free : Addr → Prop} {bytes : ByteArray} {maxL : Nat} {ret : Option FieldType}
    (hM : vx_Met l y ws rm Pc Qc XC mc ms free) (hblind : FrameBlind Pc) (hrc : rm.cells = mc) (hrs : rm.slots = ms)
    (hframes : rm.frames + 1 ≤ R.frames) (hlocals : W9 + (maxL + 11) + rm.locals ≤ R.locals)
    (hws : ∀ w ∈ ws, ∀ a' U, s.WarmedH U.vm → w.before a' U = true) (hcode : Cond.code y bytes maxL ret ∈ ws) (hinit : ∀ a' U, s.WarmedH U.vm → (Cond.initialized y.cls).before a' U = true) :
    vx_Back l R p e below s sargs y len W9 (PreOf R mc ms Pc) (PostOf Qc mc ms free) (vx_Post XC mc ms free) := by
  intro m meth c A g ig mk a X hg hsize hdg hW hn hp
  have h1 : (headSpec ws rm).pre.before a A.U = true := atoms_intro fun w hw => hws w hw _ _ X.warmed
  have h2 : (Cond.code y bytes maxL ret).before a A.U = true := hws _ hcode _ _ X.warmed
  have h3 : (Cond.initialized y.cls).before a A.U = true := hinit _ _ X.warmed
  have h4 : A.cells + (headSpec ws rm).room.cells ≤ R.cells := by rw [show (headSpec ws rm).room.cells = mc from hrc]; exact hp.1
  have h5 : A.slots + (headSpec ws rm).room.slots ≤ R.slots := by rw [show (headSpec ws rm).room.slots = ms from hrs]; exact hp.2.1
  have hPc : Pc a (A.U.calling g mk a) := hblind _ _ _ _ hp.2.2
  obtain ⟨U, Ls, c0, s0⟩ := A
  dsimp only [Pt.U, Pt.locs, Pt.cells, Pt.slots] at h1 h2 h3 h4 h5 X hn hPc ⊢
  obtain ⟨methY, cY, hmY, hcY, -, hlY, -, -, -, -⟩ := Cond.code_spec hn h2
  obtain ⟨kY, hkY, -⟩ := className_of_methodNamed hn
  have hinitY : kY.init = .initialized := Cond.initialized_spec (findClass_of_methodNamed hn) hkY h3
  have h : At U g.method c below := by rw [hg]; exact X.here
  have hlocals9 : W9 + (maxL + 11) + (headSpec ws rm).room.locals ≤ R.locals := hlocals
  have happ : (headSpec ws rm).appliesLoose y e.platform (U.calling g mk a) = true :=
    Spec.appliesLoose_calling (g := g) h hdg hn hkY hinitY
      (X.room_calling (g := g) (R' := (headSpec ws rm).room) hsize hmY hcY hframes (by rw [hlY]; omega) h4 h5) h1
  obtain ⟨mid, hmid⟩ := h.above
  have hfr : (U.setTop g).frames = (.java g :: mid) ++ below := by rw [State.frames_setTop' g h.top, hmid]; rfl
  obtain ⟨o, s₂, hsteps, -, hend, hq⟩ := Steps.callFree hM p X.admits X.cas X.clock (acts := []) hfr happ hPc trivial
  have hq' : vx_Q Qc XC mc ms free a (U.calling g mk a) o s₂ := hq
  rw [State.frames_setTop' g h.top] at hend
  obtain ⟨g₀, hg0⟩ := Option.isSome_iff_exists.mp h.top
  obtain ⟨r, hr⟩ := State.topJava?_eq_some.mp hg0
  have hr' : (({ U with heap := s₂.heap, slotsUsed := s₂.slotsUsed } : State).setVm s₂.vm).frames = .java g₀ :: r := hr
  rcases hq' with ⟨hqc, L, hfe, hL⟩ | ⟨q, rfl, E, ce, L, hx, hce, hcv, hcl, hW₂, hsm, hL⟩
  · obtain ⟨⟨v, rfl⟩, hW₂, e2, q2, q3, q4, q5, q6⟩ := id hfe
    have e3 : s₂ = ({ (U.calling g mk a).setFrames s₂.frames with heap := s₂.heap, slotsUsed := s₂.slotsUsed } : State).setVm s₂.vm := by
      have : s₂ = ({ s₂ with vm := (U.calling g mk a).vm } : State).setVm s₂.vm := rfl
      rw [e2] at this
      exact this
    obtain ⟨c₂, i₂, len₂, hc₂, hd₂, hf₂⟩ := hend
    have hW' : U.WarmedH s₂.vm := hW₂
    have hcc : c₂ = c := by
      have h1 : s₂.code? g.method = U.code? g.method := by
        rw [State.code?_eq, State.code?_eq, hW'.alike.method?]
      exact Option.some.inj (hc₂.symm.trans (h1.trans h.code))
    subst hcc
    have hlen : len₂ = len := by rw [hdg] at hd₂; cases hd₂; rfl
    subst hlen
    have hs₂ : s₂ = (({ U with heap := s₂.heap, slotsUsed := s₂.slotsUsed } : State).setVm s₂.vm).setTop { g with pc := g.pc + len₂, stack := v.toList ++ g.stack } := by
      refine e3.trans ?_
      rw [hf₂, State.calling_eq h.top, State.setFrames_setFrames, State.setTop_of_frames _ hr', hr]
      rfl
    have hsame : U.sameButNew ({ U with heap := s₂.heap, slotsUsed := s₂.slotsUsed } : State) L mc ms := by
      refine ⟨?_, q2, q3, q4, q5, q6⟩
      obtain ⟨t, ht, -⟩ := State.frames_cons hr
      show ({ U with heap := s₂.heap, slotsUsed := s₂.slotsUsed } : State) = { U.setFrames U.frames with heap := s₂.heap, slotsUsed := s₂.slotsUsed }
      rw [State.setFrames_self ht]
    subst hg
    refine Or.inl ⟨v, ⟨(({ U with heap := s₂.heap, slotsUsed := s₂.slotsUsed } : State).setVm s₂.vm), Ls ++ L, c0 + mc, s0 + ms⟩,
      ⟨X.admits, X.cas, X.clock, X.frames, X.room, X.hears, X.method, X.code, (X.here.setHeapUsed s₂.heap s₂.slotsUsed).setVm hW'.alike, X.tail, State.WarmedH.trans X.warmed hW', X.limits, X.bytes, X.same.trans (hsame.setVm s.vm)⟩,
      ⟨g, mk, s₂, L, rfl, rfl, hqc, rfl, hL, rfl, rfl⟩, ?_⟩
    show Steps p.tables e below _ ((({ U with heap := s₂.heap, slotsUsed := s₂.slotsUsed } : State).setVm s₂.vm).setTop { g with pc := g.pc + len₂, stack := v.toList ++ g.stack })
    rw [← hs₂]
    exact hsteps
  · obtain ⟨e2, q2, q3, q4, q5, q6⟩ := id hsm
    have e3 : s₂ = ({ (U.calling g mk a).setFrames s₂.frames with heap := s₂.heap, slotsUsed := s₂.slotsUsed } : State).setVm s₂.vm := by
      have : s₂ = ({ s₂ with vm := (U.calling g mk a).vm } : State).setVm s₂.vm := rfl
      rw [e2] at this
      exact this
    have hf₂ : s₂.frames = .throwing q :: .java g :: U.frames.tail := hend
    have hW' : U.WarmedH s₂.vm := hW₂
    have hs₂ : s₂ = ((({ U with heap := s₂.heap, slotsUsed := s₂.slotsUsed } : State).setVm s₂.vm).setTop g).pushFrame (.throwing q) := by
      refine e3.trans ?_
      rw [hf₂, State.calling_eq h.top, State.setFrames_setFrames, State.pushFrame, State.frames_setTop _ hr', State.setTop_of_frames _ hr', State.setFrames_setFrames, hr]
      rfl
    have hsame : U.sameButNew ({ U with heap := s₂.heap, slotsUsed := s₂.slotsUsed } : State) L mc ms := by
      refine ⟨?_, q2, q3, q4, q5, q6⟩
      obtain ⟨t, ht, -⟩ := State.frames_cons hr
      show ({ U with heap := s₂.heap, slotsUsed := s₂.slotsUsed } : State) = { U.setFrames U.frames with heap := s₂.heap, slotsUsed := s₂.slotsUsed }
      rw [State.setFrames_self ht]
    subst hg
    refine Or.inr ⟨q, ⟨(({ U with heap := s₂.heap, slotsUsed := s₂.slotsUsed } : State).setVm s₂.vm), Ls ++ L, c0 + mc, s0 + ms⟩,
      ⟨X.admits, X.cas, X.clock, X.frames, X.room, X.hears, X.method, X.code, (X.here.setHeapUsed s₂.heap s₂.slotsUsed).setVm hW'.alike, X.tail, State.WarmedH.trans X.warmed hW', X.limits, X.bytes, X.same.trans (hsame.setVm s.vm)⟩,
      ⟨g, mk, s₂, L, E, ce, rfl, rfl, hx, hce, hcv, hcl, rfl, hL, rfl, rfl⟩, ?_⟩
    show Steps p.tables e below _ (((({ U with heap := s₂.heap, slotsUsed := s₂.slotsUsed } : State).setVm s₂.vm).setTop g).pushFrame (.throwing q))
    rw [← hs₂]
    exact hsteps
end Payer
section Calls
variable {p : Program} {l : Launch} {e : Env} {R : Room} {s : State} {m : MethodId} {args : Array Value} {below : List Frame} {meth : Method} {c : Code} {T : State} {locs : List Loc} {cells slots : Nat}
theorem vx_callV (X : Stand p l e R s m args below meth c T locs cells slots) (hexec : p.tables.exec = Jvm.exec) {own C : String} {index : Nat} {y : MethodName} {bytes : ByteArray} {maxL : Nat} {ret : Option FieldType}
    (hown : s.vm.findClass own = some m.cls) (hlink : (Cond.methodLink own index y).before args s = true) (hinst : (Cond.instanceMethod y).before args s = true) (hsel : (Cond.selects C y y).before args s = true)
    (hcode : (Cond.code y bytes maxL ret).before args s = true) (hy : y.cls ≠ "java/lang/invoke/MethodHandle" ∧ y.cls ≠ "java/lang/invoke/VarHandle")
    {W9 : Nat} {Pre : Pt → Array Value → Prop} {Post : Pt → Array Value → Option Value → Pt → Prop} {PostX : Pt → Array Value → Addr → Pt → Prop} (hK : vx_Back l R p e below s args y 3 W9 Pre Post PostX)
    {b : Addr} {cellB : Cell} (hcell : T.heap[b]? = some cellB) (hobj : cellB.vm.isStatics = false) (hcls : s.vm.findClass C = some cellB.cls)
    {g : JFrame} (hg : g.method = m) (hsize : g.locals.size = c.maxLocals) {argsL rest : List Value} (hlen : ∀ sig, parseMethodDescriptor y.desc = some sig → argsL.length = sig.parameters.length)
    (hstack : g.stack = argsL.reverse ++ .ref b :: rest) (hW : 2 * g.monitorRoom + (rest.map fun v => v.category).sum ≤ W9) (hdg : decode c.code g.pc = .ok (.invokevirtual index, 3))
    (hpre : ∀ vm₁, s.WarmedH vm₁ → Pre ⟨T.setVm vm₁, locs, cells, slots⟩ (Value.ref b :: argsL).toArray) :
    (∃ (v : Option Value) (vm₁ : Vm) (B : Pt), s.WarmedH vm₁ ∧ Stand p l e R s m args below meth c B.U B.locs B.cells B.slots ∧ Post ⟨T.setVm vm₁, locs, cells, slots⟩ (Value.ref b :: argsL).toArray v B ∧
      ∀ target, Steps p.tables e below (B.U.setTop { g with pc := g.pc + 3, stack := v.toList ++ rest }) target → Steps p.tables e below (T.setTop g) target) ∨
    (∃ (q : Addr) (vm₁ : Vm) (B : Pt), s.WarmedH vm₁ ∧ Stand p l e R s m args below meth c B.U B.locs B.cells B.slots ∧ PostX ⟨T.setVm vm₁, locs, cells, slots⟩ (Value.ref b :: argsL).toArray q B ∧
      Steps p.tables e below (T.setTop g) ((B.U.setTop { g with stack := rest }).pushFrame (.throwing q))) := by
  obtain ⟨mk, methM, hnamed, hmethM, hstM, habM⟩ := Cond.instanceMethod_spec hinst
  obtain ⟨methM', cM, hmethM', -, -, -, -, -, -, hsigM⟩ := Cond.code_spec hnamed hcode
  cases hmethM.symm.trans hmethM'
  obtain ⟨c2, r2, m2, q1, q2, q3, q4, kP, hkP, hkPi⟩ := Cond.selects_spec hsel
  cases hcls.symm.trans q1
  cases (State.methodFound?_of_named hnamed hy).symm.trans q2
  cases hnamed.symm.trans q3
  have hselP : selectMethod e.platform s.vm cellB.cls mk = .method mk := by rw [Launch.admits_selectMethod X.admits]; exact q4
  obtain ⟨vm₁, X₁, hstep₁⟩ := X.invokevirtual hexec hown hlink hnamed hmethM hstM hkP hkPi hy (a := b) (cell := cellB) hcell
    (fun z h => by rw [h] at hobj; cases hobj) hselP hmethM habM hkP hkPi (g := g) hg (argsL := argsL) (rest := rest) (hlen _ hsigM) hstack hdg
  rcases hK m meth c ⟨T.setVm vm₁, locs, cells, slots⟩ { g with stack := rest } (.invokevirtual index) mk (Value.ref b :: argsL).toArray X₁ hg hsize hdg hW (X₁.named hnamed) (hpre vm₁ X₁.warmed) with ⟨v, B, X', hpost, hsteps⟩ | ⟨q, B, X', hpost, hsteps⟩
  · exact Or.inl ⟨v, vm₁, B, X₁.warmed, X', hpost, fun target h => hstep₁ _ fun acts => by rw [doInvoke_state]; exact hsteps.trans h⟩
  · exact Or.inr ⟨q, vm₁, B, X₁.warmed, X', hpost, hstep₁ _ fun acts => by rw [doInvoke_state]; exact hsteps⟩
theorem vx_callS (X : Stand p l e R s m args below meth c T locs cells slots) (hexec : p.tables.exec = Jvm.exec) {own : String} {index : Nat} {y : MethodName} {bytes : ByteArray} {maxL : Nat} {ret : Option FieldType}
    (hown : s.vm.findClass own = some m.cls) (hlink : (Cond.methodLink own index y).before args s = true) (hstat : (Cond.static y).before args s = true) (hinit : (Cond.initialized y.cls).before args s = true)
    (hcode : (Cond.code y bytes maxL ret).before args s = true) (hy : y.cls ≠ "java/lang/invoke/MethodHandle" ∧ y.cls ≠ "java/lang/invoke/VarHandle")
    {W9 : Nat} {Pre : Pt → Array Value → Prop} {Post : Pt → Array Value → Option Value → Pt → Prop} {PostX : Pt → Array Value → Addr → Pt → Prop} (hK : vx_Back l R p e below s args y 3 W9 Pre Post PostX)
    {g : JFrame} (hg : g.method = m) (hsize : g.locals.size = c.maxLocals) {argsL rest : List Value} (hlen : ∀ sig, parseMethodDescriptor y.desc = some sig → argsL.length = sig.parameters.length)
    (hstack : g.stack = argsL.reverse ++ rest) (hW : 2 * g.monitorRoom + (rest.map fun v => v.category).sum ≤ W9) (hdg : decode c.code g.pc = .ok (.invokestatic index, 3))
    (hpre : ∀ vm₁, s.WarmedH vm₁ → Pre ⟨T.setVm vm₁, locs, cells, slots⟩ argsL.toArray) :
    (∃ (v : Option Value) (vm₁ : Vm) (B : Pt), s.WarmedH vm₁ ∧ Stand p l e R s m args below meth c B.U B.locs B.cells B.slots ∧ Post ⟨T.setVm vm₁, locs, cells, slots⟩ argsL.toArray v B ∧
      ∀ target, Steps p.tables e below (B.U.setTop { g with pc := g.pc + 3, stack := v.toList ++ rest }) target → Steps p.tables e below (T.setTop g) target) ∨
    (∃ (q : Addr) (vm₁ : Vm) (B : Pt), s.WarmedH vm₁ ∧ Stand p l e R s m args below meth c B.U B.locs B.cells B.slots ∧ PostX ⟨T.setVm vm₁, locs, cells, slots⟩ argsL.toArray q B ∧
      Steps p.tables e below (T.setTop g) ((B.U.setTop { g with stack := rest }).pushFrame (.throwing q))) := by
  obtain ⟨mk, hnamed⟩ := Cond.code_named hcode
  obtain ⟨methM, cM, hmethM, -, -, -, -, -, -, hsigM⟩ := Cond.code_spec hnamed hcode
  have hstatic : methM.isStatic = true := Cond.static_spec hnamed hmethM hstat
  obtain ⟨kP, hkP, -⟩ := className_of_methodNamed hnamed
  have hinitP : kP.init = .initialized := Cond.initialized_spec (findClass_of_methodNamed hnamed) hkP hinit
  obtain ⟨vm₁, X₁, hstep₁⟩ := X.invokestatic hexec hown hlink hnamed hmethM hstatic hkP hinitP hy (g := g) hg (argsL := argsL) (rest := rest) (hlen _ hsigM) hstack hdg
  rcases hK m meth c ⟨T.setVm vm₁, locs, cells, slots⟩ { g with stack := rest } (.invokestatic index) mk argsL.toArray X₁ hg hsize hdg hW (X₁.named hnamed) (hpre vm₁ X₁.warmed) with ⟨v, B, X', hpost, hsteps⟩ | ⟨q, B, X', hpost, hsteps⟩
  · exact Or.inl ⟨v, vm₁, B, X₁.warmed, X', hpost, fun target h => hstep₁ _ fun acts => by rw [doInvoke_state]; exact hsteps.trans h⟩
  · exact Or.inr ⟨q, vm₁, B, X₁.warmed, X', hpost, hstep₁ _ fun acts => by rw [doInvoke_state]; exact hsteps⟩
end Calls
theorem vx_cls {s : State} {T : State} {vm₁ : Vm} {E : String} {k : ClassId} (hW : s.WarmedH vm₁) (h : (T.setVm vm₁).vm.findClass E = some k) : s.vm.findClass E = some k := by
  have h1 : vm₁.findClass E = some k := h
  rw [hW.alike.findClass] at h1
  exact h1
/-- the method's frame g, with q thrown over it -/
def vx_W (p : Program) (l : Launch) (e : Env) (R : Room) (s : State) (m : MethodId) (args : Array Value) (below : List Frame) (meth : Method) (c : Code) (H : Heap) (locs : List Loc) (cells slots : Nat) (Q : State → Prop) (g : JFrame) (q : Addr) : Prop :=
  ∀ T : State, T.heap = H → Stand p l e R s m args below meth c T locs cells slots → ∃ t, Steps p.tables e below ((T.setTop g).pushFrame (.throwing q)) t ∧ Q t
def vx_Run (p : Program) (l : Launch) (e : Env) (R : Room) (s : State) (m : MethodId) (args : Array Value) (below : List Frame) (meth : Method) (c : Code) (H : Heap) (locs : List Loc) (cells slots mc ms : Nat) (g : JFrame) (rest : List Value) (Qa : State → Outcome → State → Prop) (XC : String → State → State → Prop) (free : Addr → Prop) : Prop :=
  ∀ T : State, T.heap = H → Stand p l e R s m args below meth c T locs cells slots →
    (∃ (v : Option Value) (st₀ t T' : State) (L : List Loc), st₀.heap = H ∧ Stand p l e R s m args below meth c T' (locs ++ L) (cells + mc) (slots + ms) ∧ (∀ q ∈ L, free q.base) ∧ T'.heap = t.heap ∧ T'.vm = t.vm ∧ Qa st₀ (.returned v) t ∧
      Goes p e below T g T' { g with pc := g.pc + 3, stack := v.toList ++ rest }) ∨
    (∃ (q : Addr) (st₀ t T' : State) (L : List Loc) (E : String) (ce : Cell), st₀.heap = H ∧ Stand p l e R s m args below meth c T' (locs ++ L) (cells + mc) (slots + ms) ∧ (∀ z ∈ L, free z.base) ∧ T'.heap = t.heap ∧ T'.vm = t.vm ∧ XC E st₀ t ∧ t.heap[q]? = some ce ∧ ce.vm = .none ∧ s.vm.findClass E = some ce.cls ∧
      Steps p.tables e below (T.setTop g) ((T'.setTop { g with stack := rest }).pushFrame (.throwing q)))
def vx_X {S : Type} (px : S → Prop) (B : String → S → State → Prop) (A : Nat → Prop) : String → State → State → Prop := fun E st t => ∃ u : S, px u ∧ B E u t ∧ va_F A st t
section Runs
variable {p : Program} {l : Launch} {e : Env} {R : Room} {s : State} {m : MethodId} {args : Array Value} {below : List Frame} {meth : Method} {c : Code} {H : Heap} {locs : List Loc} {cells slots : Nat}
variable {y : MethodName} {bytes cc : ByteArray} {maxL nL mc ms n index : Nat} {ret : Option FieldType} {ws : List Cond} {rm : Room} {Pc : Array Value → State → Prop} {Qc : Array Value → State → Outcome → State → Prop} {XC : String → State → State → Prop} {free : Addr → Prop} {Ts : List Cond} {own C : String} {b : Addr} {As rest : List Value} {g : JFrame}
theorem vx_callBack (cb : CallB R s args own index y bytes maxL ret ws rm mc ms n) (hM : vx_Met l y ws rm Pc Qc XC mc ms free) (hbl : FrameBlind Pc) : vx_Back l R p e below s args y 3 8 (PreOf R mc ms Pc) (PostOf Qc mc ms free) (vx_Post XC mc ms free) := by
  obtain ⟨hrc, hrs, hfr, hlo, hws, hcw, -, hini, -⟩ := cb
  exact vx_back (bytes := bytes) (maxL := maxL) (ret := ret) hM hbl hrc hrs hfr hlo hws hcw (fun a' U hW => word_at hW (Or.inl (by first | rfl | simp [Cond.onTables, Cond.keeps, Cond.steady])) hini)
theorem vx_runV (S : CallFix p m c cc nL s args Ts own) (hM : vx_Met l y ws rm Pc Qc XC mc ms free) (cw : CallW R s args own C index y bytes maxL ret ws rm mc ms n) (hp : PreV s H C b Pc As)
    (hg : g.method = m) (hn : As.length = n) (hsize : g.locals.size = nL) (hstack : g.stack = As.reverse ++ .ref b :: rest) (hW : 2 * g.monitorRoom + (rest.map fun v => v.category).sum ≤ 8) (hdg : decode cc g.pc = .ok (.invokevirtual index, 3)) (hf : cells + mc ≤ R.cells ∧ slots + ms ≤ R.slots) :
    vx_Run p l e R s m args below meth c H locs cells slots mc ms g rest (Qc (Value.ref b :: As).toArray) XC free := by
  have hK : vx_Back l R p e below s args y 3 8 (PreOf R mc ms Pc) (PostOf Qc mc ms free) (vx_Post XC mc ms free) := vx_callBack cw.1 hM hp.1
  obtain ⟨⟨-, -, -, -, -, -, hcode, -, hy, hlen, hl⟩, hin, hse⟩ := cw
  obtain ⟨hx, hb, hml, ho, -⟩ := S
  obtain ⟨-, ⟨cellB, hcB, hoB, hclB⟩, hPc⟩ := hp
  intro T hT X
  rcases vx_callV X hx (C := C) (bytes := bytes) (maxL := maxL) (ret := ret) ho hl hin hse hcode hy hK (by rw [hT]; exact hcB) hoB hclB hg (hsize.trans hml.symm) (argsL := As) (rest := rest) (fun sig h => hn.trans (hlen sig h)) hstack hW (by rw [hb]; exact hdg)
    (fun vm₁ hW₁ => ⟨hf.1, hf.2, hPc (T.setVm vm₁) hT hW₁⟩) with ⟨v, vm₁, ⟨U', l2, c2, s2⟩, hW₁, X', ⟨g', mk, t, L, e1, e2, hq, h1, hL, h2, h3⟩, st⟩ | ⟨q, vm₁, ⟨U', l2, c2, s2⟩, hW₁, X', ⟨g', mk, t, L, E, ce, e1, e2, hq, hce, hcv, hcl, h1, hL, h2, h3⟩, st⟩
  · dsimp only [Pt.U, Pt.locs, Pt.cells, Pt.slots] at X' e1 e2 h1 h2 h3 st
    subst h1; subst h2; subst h3
    exact Or.inl ⟨v, (T.setVm vm₁).calling g' mk (Value.ref b :: As).toArray, t, U', L, hT, X', hL, e1, e2, hq, st⟩
  · dsimp only [Pt.U, Pt.locs, Pt.cells, Pt.slots] at X' e1 e2 h1 h2 h3 st hcl
    subst h1; subst h2; subst h3
    exact Or.inr ⟨q, (T.setVm vm₁).calling g' mk (Value.ref b :: As).toArray, t, U', L, E, ce, hT, X', hL, e1, e2, hq, hce, hcv, vx_cls hW₁ hcl, st⟩
theorem vx_runS (S : CallFix p m c cc nL s args Ts own) (hM : vx_Met l y ws rm Pc Qc XC mc ms free) (cw : CallB R s args own index y bytes maxL ret ws rm mc ms n ∧ (Cond.static y).before args s = true) (hp : PreS s H Pc As)
    (hg : g.method = m) (hn : As.length = n) (hsize : g.locals.size = nL) (hstack : g.stack = As.reverse ++ rest) (hW : 2 * g.monitorRoom + (rest.map fun v => v.category).sum ≤ 8) (hdg : decode cc g.pc = .ok (.invokestatic index, 3)) (hf : cells + mc ≤ R.cells ∧ slots + ms ≤ R.slots) :
    vx_Run p l e R s m args below meth c H locs cells slots mc ms g rest (Qc As.toArray) XC free := by
  have hK : vx_Back l R p e below s args y 3 8 (PreOf R mc ms Pc) (PostOf Qc mc ms free) (vx_Post XC mc ms free) := vx_callBack cw.1 hM hp.1
  obtain ⟨⟨-, -, -, -, -, -, hcode, hini, hy, hlen, hl⟩, hstt⟩ := cw
  obtain ⟨hx, hb, hml, ho, -⟩ := S
  intro T hT X
  rcases vx_callS X hx (bytes := bytes) (maxL := maxL) (ret := ret) ho hl hstt hini hcode hy hK hg (hsize.trans hml.symm) (argsL := As) (rest := rest) (fun sig h => hn.trans (hlen sig h)) hstack hW (by rw [hb]; exact hdg)
    (fun vm₁ hW₁ => ⟨hf.1, hf.2, hp.2 (T.setVm vm₁) hT hW₁⟩) with ⟨v, vm₁, ⟨U', l2, c2, s2⟩, hW₁, X', ⟨g', mk, t, L, e1, e2, hq, h1, hL, h2, h3⟩, st⟩ | ⟨q, vm₁, ⟨U', l2, c2, s2⟩, hW₁, X', ⟨g', mk, t, L, E, ce, e1, e2, hq, hce, hcv, hcl, h1, hL, h2, h3⟩, st⟩
  · dsimp only [Pt.U, Pt.locs, Pt.cells, Pt.slots] at X' e1 e2 h1 h2 h3 st
    subst h1; subst h2; subst h3
    exact Or.inl ⟨v, (T.setVm vm₁).calling g' mk As.toArray, t, U', L, hT, X', hL, e1, e2, hq, st⟩
  · dsimp only [Pt.U, Pt.locs, Pt.cells, Pt.slots] at X' e1 e2 h1 h2 h3 st hcl
    subst h1; subst h2; subst h3
    exact Or.inr ⟨q, (T.setVm vm₁).calling g' mk As.toArray, t, U', L, E, ce, hT, X', hL, e1, e2, hq, hce, hcv, vx_cls hW₁ hcl, st⟩
end Runs
section Rows
variable {p : Program} {l : Launch} {e : Env} {R : Room} {s : State} {m : MethodId} {args : Array Value} {below : List Frame} {meth : Method} {c : Code} {H : Heap} {locs : List Loc} {cells slots : Nat} {Q : State → Prop}
variable {mc ms : Nat} {free : Addr → Prop} {A0 A1 : Nat → Prop} {H0 : Heap} {a : Array Value} {pc : Nat} {ls : Array Slot} {st0 rest : List Value}
theorem vx_keep {st₀ t T' : State} {L : List Loc} (h0 : st₀.heap = H) (e1 : T'.heap = t.heap) (hS : va_S A0 H0 H locs) (hA : ∀ q, q < H.size → A1 q → A0 q) (hf : ∀ q, free q → A0 q) (hL : ∀ q ∈ L, free q.base) (hF : va_F A1 st₀ t) :
    H.size ≤ T'.heap.size ∧ (∀ q : Nat, q < H.size → ¬ A1 q → T'.heap[q]? = H[q]?) ∧ va_S A0 H0 T'.heap (locs ++ L) := by
  obtain ⟨hz, hk⟩ := hF
  rw [h0] at hz hk
  exact ⟨by rw [e1]; exact hz, fun q h1 h2 => by rw [e1]; exact hk q h1 h2,
    ⟨Nat.le_trans hS.1 (by rw [e1]; exact hz), fun q h1 h2 => by rw [e1, hk q (Nat.lt_of_lt_of_le h1 hS.1) (fun z => h2 (hA q (Nat.lt_of_lt_of_le h1 hS.1) z))]; exact hS.2.1 q h1 h2, fun q hq => by
      rcases List.mem_append.mp hq with h | h
      · exact hS.2.2 q h
      · exact hf _ (hL q h)⟩⟩
theorem vx_calli {S SX : Type} {post : Int32 → S → Prop} {px : SX → Prop} {B : S → State → Prop} {BX : String → SX → State → Prop} {AX : Nat → Prop} (hr : vx_Run p l e R s m args below meth c H locs cells slots mc ms (F0 m pc ls st0) rest (va_Qi post B A1 a) (vx_X px BX AX) free) (hS : va_S A0 H0 H locs) (hA : ∀ q, q < H.size → A1 q → A0 q) (hf : ∀ q, free q → A0 q) (hAX : ∀ q, q < H.size → AX q → A0 q)
    (kx : ∀ (E : String) (ce : Cell) (q9 : Addr) (u : SX) (t : State) (H1 : Heap) (locs1 : List Loc), t.heap = H1 → s.vm.Alike t.vm → px u → BX E u t → H.size ≤ H1.size → (∀ q : Nat, q < H.size → ¬ AX q → H1[q]? = H[q]?) → va_S A0 H0 H1 locs1 → H1[q9]? = some ce → ce.vm = .none → s.vm.findClass E = some ce.cls → vx_W p l e R s m args below meth c H1 locs1 (cells + mc) (slots + ms) Q (F0 m pc ls rest) q9)
    (kk : ∀ (r : Int32) (u : S) (t : State) (H1 : Heap) (locs1 : List Loc), t.heap = H1 → s.vm.Alike t.vm → post r u → B u t → H.size ≤ H1.size → (∀ q : Nat, q < H.size → ¬ A1 q → H1[q]? = H[q]?) → va_S A0 H0 H1 locs1 → W p l e R s m args below meth c H1 locs1 (cells + mc) (slots + ms) Q (F0 m (pc + 3) ls (.int r :: rest))) : W p l e R s m args below meth c H locs cells slots Q (F0 m pc ls st0) := by
  intro T hT X
  rcases hr T hT X with ⟨v, st₀, t, T', L, h0, X', hL, e1, e2, ⟨⟨r, u, hv, hp, hb⟩, hF⟩, st⟩ | ⟨q, st₀, t, T', L, E, ce, h0, X', hL, e1, e2, ⟨u, hp, hb, hF⟩, hce, hcv, hcl, st⟩
  · cases hv
    obtain ⟨k1, k2, k3⟩ := vx_keep h0 e1 hS hA hf hL hF
    obtain ⟨t2, a1, b1⟩ := kk r u t T'.heap (locs ++ L) e1.symm (by rw [← e2]; exact X'.warmed.alike) hp hb k1 k2 k3 T' rfl X'
    exact ⟨t2, st t2 a1, b1⟩
  · obtain ⟨k1, k2, k3⟩ := vx_keep h0 e1 hS hAX hf hL hF
    obtain ⟨t2, a1, b1⟩ := kx E ce q u t T'.heap (locs ++ L) e1.symm (by rw [← e2]; exact X'.warmed.alike) hp hb k1 k2 k3 (by rw [e1]; exact hce) hcv hcl T' rfl X'
    exact ⟨t2, st.trans a1, b1⟩
theorem vx_calll {S SX : Type} {post : Int64 → S → Prop} {px : SX → Prop} {B : S → State → Prop} {BX : String → SX → State → Prop} {AX : Nat → Prop} (hr : vx_Run p l e R s m args below meth c H locs cells slots mc ms (F0 m pc ls st0) rest (va_Ql post B A1 a) (vx_X px BX AX) free) (hS : va_S A0 H0 H locs) (hA : ∀ q, q < H.size → A1 q → A0 q) (hf : ∀ q, free q → A0 q) (hAX : ∀ q, q < H.size → AX q → A0 q)
    (kx : ∀ (E : String) (ce : Cell) (q9 : Addr) (u : SX) (t : State) (H1 : Heap) (locs1 : List Loc), t.heap = H1 → s.vm.Alike t.vm → px u → BX E u t → H.size ≤ H1.size → (∀ q : Nat, q < H.size → ¬ AX q → H1[q]? = H[q]?) → va_S A0 H0 H1 locs1 → H1[q9]? = some ce → ce.vm = .none → s.vm.findClass E = some ce.cls → vx_W p l e R s m args below meth c H1 locs1 (cells + mc) (slots + ms) Q (F0 m pc ls rest) q9)
    (kk : ∀ (r : Int64) (u : S) (t : State) (H1 : Heap) (locs1 : List Loc), t.heap = H1 → s.vm.Alike t.vm → post r u → B u t → H.size ≤ H1.size → (∀ q : Nat, q < H.size → ¬ A1 q → H1[q]? = H[q]?) → va_S A0 H0 H1 locs1 → W p l e R s m args below meth c H1 locs1 (cells + mc) (slots + ms) Q (F0 m (pc + 3) ls (.long r :: rest))) : W p l e R s m args below meth c H locs cells slots Q (F0 m pc ls st0) := by
  intro T hT X
  rcases hr T hT X with ⟨v, st₀, t, T', L, h0, X', hL, e1, e2, ⟨⟨r, u, hv, hp, hb⟩, hF⟩, st⟩ | ⟨q, st₀, t, T', L, E, ce, h0, X', hL, e1, e2, ⟨u, hp, hb, hF⟩, hce, hcv, hcl, st⟩
  · cases hv
    obtain ⟨k1, k2, k3⟩ := vx_keep h0 e1 hS hA hf hL hF
    obtain ⟨t2, a1, b1⟩ := kk r u t T'.heap (locs ++ L) e1.symm (by rw [← e2]; exact X'.warmed.alike) hp hb k1 k2 k3 T' rfl X'
    exact ⟨t2, st t2 a1, b1⟩
  · obtain ⟨k1, k2, k3⟩ := vx_keep h0 e1 hS hAX hf hL hF
    obtain ⟨t2, a1, b1⟩ := kx E ce q u t T'.heap (locs ++ L) e1.symm (by rw [← e2]; exact X'.warmed.alike) hp hb k1 k2 k3 (by rw [e1]; exact hce) hcv hcl T' rfl X'
    exact ⟨t2, st.trans a1, b1⟩
theorem vx_callf {S SX : Type} {post : UInt32 → S → Prop} {px : SX → Prop} {B : S → State → Prop} {BX : String → SX → State → Prop} {AX : Nat → Prop} (hr : vx_Run p l e R s m args below meth c H locs cells slots mc ms (F0 m pc ls st0) rest (va_Qf post B A1 a) (vx_X px BX AX) free) (hS : va_S A0 H0 H locs) (hA : ∀ q, q < H.size → A1 q → A0 q) (hf : ∀ q, free q → A0 q) (hAX : ∀ q, q < H.size → AX q → A0 q)
    (kx : ∀ (E : String) (ce : Cell) (q9 : Addr) (u : SX) (t : State) (H1 : Heap) (locs1 : List Loc), t.heap = H1 → s.vm.Alike t.vm → px u → BX E u t → H.size ≤ H1.size → (∀ q : Nat, q < H.size → ¬ AX q → H1[q]? = H[q]?) → va_S A0 H0 H1 locs1 → H1[q9]? = some ce → ce.vm = .none → s.vm.findClass E = some ce.cls → vx_W p l e R s m args below meth c H1 locs1 (cells + mc) (slots + ms) Q (F0 m pc ls rest) q9)
    (kk : ∀ (r : UInt32) (u : S) (t : State) (H1 : Heap) (locs1 : List Loc), t.heap = H1 → s.vm.Alike t.vm → post r u → B u t → H.size ≤ H1.size → (∀ q : Nat, q < H.size → ¬ A1 q → H1[q]? = H[q]?) → va_S A0 H0 H1 locs1 → W p l e R s m args below meth c H1 locs1 (cells + mc) (slots + ms) Q (F0 m (pc + 3) ls (.float r :: rest))) : W p l e R s m args below meth c H locs cells slots Q (F0 m pc ls st0) := by
  intro T hT X
  rcases hr T hT X with ⟨v, st₀, t, T', L, h0, X', hL, e1, e2, ⟨⟨r, u, hv, hp, hb⟩, hF⟩, st⟩ | ⟨q, st₀, t, T', L, E, ce, h0, X', hL, e1, e2, ⟨u, hp, hb, hF⟩, hce, hcv, hcl, st⟩
  · cases hv
    obtain ⟨k1, k2, k3⟩ := vx_keep h0 e1 hS hA hf hL hF
    obtain ⟨t2, a1, b1⟩ := kk r u t T'.heap (locs ++ L) e1.symm (by rw [← e2]; exact X'.warmed.alike) hp hb k1 k2 k3 T' rfl X'
    exact ⟨t2, st t2 a1, b1⟩
  · obtain ⟨k1, k2, k3⟩ := vx_keep h0 e1 hS hAX hf hL hF
    obtain ⟨t2, a1, b1⟩ := kx E ce q u t T'.heap (locs ++ L) e1.symm (by rw [← e2]; exact X'.warmed.alike) hp hb k1 k2 k3 (by rw [e1]; exact hce) hcv hcl T' rfl X'
    exact ⟨t2, st.trans a1, b1⟩
theorem vx_calld {S SX : Type} {post : UInt64 → S → Prop} {px : SX → Prop} {B : S → State → Prop} {BX : String → SX → State → Prop} {AX : Nat → Prop} (hr : vx_Run p l e R s m args below meth c H locs cells slots mc ms (F0 m pc ls st0) rest (va_Qd post B A1 a) (vx_X px BX AX) free) (hS : va_S A0 H0 H locs) (hA : ∀ q, q < H.size → A1 q → A0 q) (hf : ∀ q, free q → A0 q) (hAX : ∀ q, q < H.size → AX q → A0 q)
    (kx : ∀ (E : String) (ce : Cell) (q9 : Addr) (u : SX) (t : State) (H1 : Heap) (locs1 : List Loc), t.heap = H1 → s.vm.Alike t.vm → px u → BX E u t → H.size ≤ H1.size → (∀ q : Nat, q < H.size → ¬ AX q → H1[q]? = H[q]?) → va_S A0 H0 H1 locs1 → H1[q9]? = some ce → ce.vm = .none → s.vm.findClass E = some ce.cls → vx_W p l e R s m args below meth c H1 locs1 (cells + mc) (slots + ms) Q (F0 m pc ls rest) q9)
    (kk : ∀ (r : UInt64) (u : S) (t : State) (H1 : Heap) (locs1 : List Loc), t.heap = H1 → s.vm.Alike t.vm → post r u → B u t → H.size ≤ H1.size → (∀ q : Nat, q < H.size → ¬ A1 q → H1[q]? = H[q]?) → va_S A0 H0 H1 locs1 → W p l e R s m args below meth c H1 locs1 (cells + mc) (slots + ms) Q (F0 m (pc + 3) ls (.double r :: rest))) : W p l e R s m args below meth c H locs cells slots Q (F0 m pc ls st0) := by
  intro T hT X
  rcases hr T hT X with ⟨v, st₀, t, T', L, h0, X', hL, e1, e2, ⟨⟨r, u, hv, hp, hb⟩, hF⟩, st⟩ | ⟨q, st₀, t, T', L, E, ce, h0, X', hL, e1, e2, ⟨u, hp, hb, hF⟩, hce, hcv, hcl, st⟩
  · cases hv
    obtain ⟨k1, k2, k3⟩ := vx_keep h0 e1 hS hA hf hL hF
    obtain ⟨t2, a1, b1⟩ := kk r u t T'.heap (locs ++ L) e1.symm (by rw [← e2]; exact X'.warmed.alike) hp hb k1 k2 k3 T' rfl X'
    exact ⟨t2, st t2 a1, b1⟩
  · obtain ⟨k1, k2, k3⟩ := vx_keep h0 e1 hS hAX hf hL hF
    obtain ⟨t2, a1, b1⟩ := kx E ce q u t T'.heap (locs ++ L) e1.symm (by rw [← e2]; exact X'.warmed.alike) hp hb k1 k2 k3 (by rw [e1]; exact hce) hcv hcl T' rfl X'
    exact ⟨t2, st.trans a1, b1⟩
theorem vx_callv {S SX : Type} {post : S → Prop} {px : SX → Prop} {B : S → State → Prop} {BX : String → SX → State → Prop} {AX : Nat → Prop} (hr : vx_Run p l e R s m args below meth c H locs cells slots mc ms (F0 m pc ls st0) rest (va_Qv post B A1 a) (vx_X px BX AX) free) (hS : va_S A0 H0 H locs) (hA : ∀ q, q < H.size → A1 q → A0 q) (hf : ∀ q, free q → A0 q) (hAX : ∀ q, q < H.size → AX q → A0 q)
    (kx : ∀ (E : String) (ce : Cell) (q9 : Addr) (u : SX) (t : State) (H1 : Heap) (locs1 : List Loc), t.heap = H1 → s.vm.Alike t.vm → px u → BX E u t → H.size ≤ H1.size → (∀ q : Nat, q < H.size → ¬ AX q → H1[q]? = H[q]?) → va_S A0 H0 H1 locs1 → H1[q9]? = some ce → ce.vm = .none → s.vm.findClass E = some ce.cls → vx_W p l e R s m args below meth c H1 locs1 (cells + mc) (slots + ms) Q (F0 m pc ls rest) q9)
    (kk : ∀ (u : S) (t : State) (H1 : Heap) (locs1 : List Loc), t.heap = H1 → s.vm.Alike t.vm → post u → B u t → H.size ≤ H1.size → (∀ q : Nat, q < H.size → ¬ A1 q → H1[q]? = H[q]?) → va_S A0 H0 H1 locs1 → W p l e R s m args below meth c H1 locs1 (cells + mc) (slots + ms) Q (F0 m (pc + 3) ls (rest))) : W p l e R s m args below meth c H locs cells slots Q (F0 m pc ls st0) := by
  intro T hT X
  rcases hr T hT X with ⟨v, st₀, t, T', L, h0, X', hL, e1, e2, ⟨⟨u, hv, hp, hb⟩, hF⟩, st⟩ | ⟨q, st₀, t, T', L, E, ce, h0, X', hL, e1, e2, ⟨u, hp, hb, hF⟩, hce, hcv, hcl, st⟩
  · cases hv
    obtain ⟨k1, k2, k3⟩ := vx_keep h0 e1 hS hA hf hL hF
    obtain ⟨t2, a1, b1⟩ := kk u t T'.heap (locs ++ L) e1.symm (by rw [← e2]; exact X'.warmed.alike) hp hb k1 k2 k3 T' rfl X'
    exact ⟨t2, st t2 a1, b1⟩
  · obtain ⟨k1, k2, k3⟩ := vx_keep h0 e1 hS hAX hf hL hF
    obtain ⟨t2, a1, b1⟩ := kx E ce q u t T'.heap (locs ++ L) e1.symm (by rw [← e2]; exact X'.warmed.alike) hp hb k1 k2 k3 (by rw [e1]; exact hce) hcv hcl T' rfl X'
    exact ⟨t2, st.trans a1, b1⟩
/-- caught by the row x of this method's table; the rows ahead don't take it -/
theorem vx_catch {own name : String} {E : String} {ce : Cell} {q : Addr} (hown : s.vm.findClass own = some m.cls) (pre : List ExceptionTableEntry) (x : ExceptionTableEntry) (suf : List ExceptionTableEntry) (hsplit : c.exceptionTable.toList = pre ++ x :: suf)
    (hpass : ∀ z ∈ pre, covers z pc = false ∨ (z.catchType ≠ 0 ∧ ∃ nm : String, (Cond.classLink own z.catchType nm).before args s = true ∧ va_Nc E nm s)) (hx : covers x pc = true) (h0 : x.catchType ≠ 0)
    (hlink : (Cond.classLink own x.catchType name).before args s = true) (hcast : (Cond.castable E name).before args s = true) (hcell : H[q]? = some ce) (hv : ce.vm = .none) (hcl : s.vm.findClass E = some ce.cls)
    (kk : W p l e R s m args below meth c H locs cells slots Q (F0 m x.handlerPc ls [.ref q])) : vx_W p l e R s m args below meth c H locs cells slots Q (F0 m pc ls rest) q := by
  intro T hT X
  have hpl : e.platform.magicAccessors = ({} : Platform).magicAccessors := by rw [X.admits.platform]
  obtain ⟨c3, c4, hc3, hc4, hasg⟩ := Cond.castable_spec hcast
  cases Option.some.inj (hc3.symm.trans hcl)
  obtain ⟨c5, hc5, hcl5⟩ := Cond.classLink_spec hown hlink e.platform hpl
  cases Option.some.inj (hc4.symm.trans hc5)
  obtain ⟨vm', X', st⟩ := X.thenCaughtThrough q (g := F0 m pc ls rest) rfl (Steps.refl _) (by rw [hT]; exact hcell) (by rw [hv]; rfl) (by obtain ⟨k9, h9, -⟩ := Vm.findClass_spec hcl; exact ⟨k9, h9⟩) pre x suf hsplit
    (fun z hz => by
      rcases hpass z hz with h | ⟨hz0, nm, hl1, hn1⟩
      · exact Or.inl h
      · obtain ⟨c6, hc6, hcl6⟩ := Cond.classLink_spec hown hl1 e.platform hpl
        obtain ⟨a8, b8, h1, h2, h3⟩ := hn1
        cases Option.some.inj (h1.symm.trans hcl)
        cases Option.some.inj (h2.symm.trans hc6)
        exact Or.inr ⟨hz0, _, hcl6, h3⟩) hx (Or.inr ⟨h0, c4, hcl5, hasg⟩)
  obtain ⟨t, a1, b1⟩ := kk (T.setVm vm') hT X'
  exact ⟨t, st.trans a1, b1⟩
end Rows
section Ends
variable {p : Program} {l : Launch} {e : Env} {R : Room} {s : State} {m : MethodId} {args : Array Value} {below : List Frame} {meth : Method} {c : Code} {H : Heap} {locs : List Loc} {cells slots : Nat} {Q : State → Prop}
variable {mc ms : Nat} {free : Addr → Prop} {A0 A1 : Nat → Prop} {H0 : Heap} {a : Array Value} {ls : Array Slot} {st0 rest : List Value}
variable {Qc : Array Value → State → Outcome → State → Prop} {XC : String → State → State → Prop}
/-- what a body that may throw owes at its end -/
def vx_MQ (below : List Frame) (Qc : Array Value → State → Outcome → State → Prop) (XC : String → State → State → Prop) (a : Array Value) (s : State) (mc ms : Nat) (free : Addr → Prop) : State → Prop := fun t =>
  ∃ o, t.status = .running ∧ Ended t below o ∧ vx_Q Qc XC mc ms free a s o t
theorem vx_ret {g : JFrame} {mc ms : Nat} (k : W p l e R s m args below meth c H locs cells slots (MQ below Qc args s mc ms free) g) : W p l e R s m args below meth c H locs cells slots (vx_MQ below Qc XC args s mc ms free) g := by
  intro T hT X
  obtain ⟨t, a1, o, b1, b2, b3, b4⟩ := k T hT X
  exact ⟨t, a1, o, b1, b2, Or.inl ⟨b3, b4⟩⟩
/-- not caught here: it goes on to the caller -/
theorem vx_widen {g : JFrame} {q : Addr} {k n : Nat} (h1 : cells ≤ k) (h2 : slots ≤ n) (kk : vx_W p l e R s m args below meth c H locs k n Q g q) : vx_W p l e R s m args below meth c H locs cells slots Q g q := fun T hT X => kk T hT (stand_widen X h1 h2)
theorem vx_out {pc : Nat} {E : String} {ce : Cell} {q : Addr} {mc ms : Nat} (hout : ∀ x ∈ c.exceptionTable.toList, covers x pc = false) (hlocks : meth.locks = false) (hcell : H[q]? = some ce) (hv : ce.vm = .none) (hcl : s.vm.findClass E = some ce.cls)
    (hx : ∀ t : State, t.heap = H → s.vm.Alike t.vm → XC E s t) (hf : ∀ z ∈ locs, free z.base) (hc : cells ≤ mc) (hs : slots ≤ ms) :
    vx_W p l e R s m args below meth c H locs cells slots (vx_MQ below Qc XC args s mc ms free) (F0 m pc ls rest) q := by
  intro T hT X
  obtain ⟨st1, hrun, hend, hW, hsm⟩ := X.leaveThrown q (g := F0 m pc ls rest) rfl rfl rfl hout hlocks
  have hcell9 : (T.setFrames (.throwing q :: below)).heap[q]? = some ce := by
    show T.heap[q]? = some ce
    rw [hT]; exact hcell
  exact ⟨_, st1, .threw q, hrun, hend, Or.inr ⟨q, rfl, E, ce, locs, hx _ hT hW.alike, hcell9, hv, hcl, hW, hsm.mono hc hs, hf⟩⟩
theorem vx_frame {U : State} {k n : Nat} (h : s.sameButNew ({ U with vm := s.vm } : State) locs k n) : s.heap.size ≤ U.heap.size ∧ ∀ q : Nat, q < s.heap.size → (∀ z ∈ locs, z.base ≠ q) → U.heap[q]? = s.heap[q]? := by
  obtain ⟨-, h2, -, -, -, h6⟩ := h
  refine ⟨h2, fun q hq hz => ?_⟩
  obtain ⟨c9, e1, e2, e3, e4⟩ := h6 q _ (Array.getElem?_eq_getElem hq)
  have hs : c9.slots = (s.heap[q]).slots := Array.ext_getElem? fun i => e4 i fun hm => hz _ hm rfl
  have h9 : c9 = s.heap[q] := by
    rw [hs] at e2
    exact e2
  have e5 : U.heap[q]? = some c9 := e1
  rw [e5, h9, Array.getElem?_eq_getElem hq]
/-- the words of a throw but the four that speak of the heap -/
def vx_no (w : Cond) : Bool := decide (w ≠ .isRef (.static Bundle.tN "UNASSIGNED_STACK" Bundle.steD)) && decide (w ≠ .isRef (.static Bundle.tN "SUPPRESSED_SENTINEL" Bundle.listD)) && decide (w ≠ .laysStatic Bundle.tN "UNASSIGNED_STACK" Bundle.steD) && decide (w ≠ .laysStatic Bundle.tN "SUPPRESSED_SENTINEL" Bundle.listD)
def vx_at0 (own : String) (ic : Nat) (X : String) (names : List String) : List Cond := (Bundle.ownAtoms0 own ic X names).filter vx_no
def vx_atS (own : String) (ic : Nat) (X : String) (names : List String) : List Cond := (Bundle.ownAtoms own ic X names).filter vx_no
/-- a word that the tables alone decide, or a good one -/
def vx_ot (w : Cond) : Bool := w.onTables || goodWord w
theorem vx_ot_at {args a' : Array Value} {s U : State} {w : Cond} (hW : s.WarmedH U.vm) (hvm : s.vm = U.vm) (hg : vx_ot w = true) (h : w.before args s = true) : w.before a' U = true := by
  simp only [vx_ot, Bool.or_eq_true] at hg
  rcases hg with hg | hg
  · exact va_tabs hg hvm h
  · exact word_at hW (good_of_word hg) h
/-- a list's words: the good ones out of the method's own list, the others by premises of their own -/
theorem vx_hat {args : Array Value} {s : State} {L B : List Cond} (h1 : ∀ w ∈ L.filter goodWord, w.before args s = true) (h2 : ∀ w ∈ L.filter (fun w => !goodWord w), w ∈ B) (h3 : ∀ w ∈ B, w.before args s = true) : ∀ w ∈ L, w.before args s = true := by
  intro w hw
  by_cases g : goodWord w = true
  · exact h1 w (List.mem_filter.mpr ⟨hw, g⟩)
  · refine h3 w (h2 w (List.mem_filter.mpr ⟨hw, ?_⟩))
    show (!goodWord w) = true
    cases hgw : goodWord w
    · rfl
    · exact absurd hgw g
theorem vx_c {args : Array Value} {s : State} {w : Cond} {B : List Cond} (h : w.before args s = true) (t : ∀ w ∈ B, w.before args s = true) : ∀ w' ∈ w :: B, w'.before args s = true := fun w' h' => (List.mem_cons.mp h').elim (fun e => by rw [e]; exact h) (t w')
theorem vx_n {args : Array Value} {s : State} : ∀ w ∈ ([] : List Cond), w.before args s = true := fun _ h => nomatch h
theorem vx_own {args : Array Value} {s : State} {L : List Cond} (h1 : ∀ w ∈ L.filter vx_no, w.before args s = true)
    (hU : (Cond.isRef (.static Bundle.tN "UNASSIGNED_STACK" Bundle.steD)).before args s = true) (hN : (Cond.isRef (.static Bundle.tN "SUPPRESSED_SENTINEL" Bundle.listD)).before args s = true)
    (lU : (Cond.laysStatic Bundle.tN "UNASSIGNED_STACK" Bundle.steD).before args s = true) (lN : (Cond.laysStatic Bundle.tN "SUPPRESSED_SENTINEL" Bundle.listD).before args s = true) : ∀ w ∈ L, w.before args s = true := by
  intro w hw
  by_cases e1 : w = .isRef (.static Bundle.tN "UNASSIGNED_STACK" Bundle.steD)
  · rw [e1]; exact hU
  · by_cases e2 : w = .isRef (.static Bundle.tN "SUPPRESSED_SENTINEL" Bundle.listD)
    · rw [e2]; exact hN
    · by_cases e3 : w = .laysStatic Bundle.tN "UNASSIGNED_STACK" Bundle.steD
      · rw [e3]; exact lU
      · by_cases e4 : w = .laysStatic Bundle.tN "SUPPRESSED_SENTINEL" Bundle.listD
        · rw [e4]; exact lN
        · exact h1 w (List.mem_filter.mpr ⟨hw, by unfold vx_no; rw [decide_eq_true e1, decide_eq_true e2, decide_eq_true e3, decide_eq_true e4]; rfl⟩)
/-- where a static field lies, its class's statics cell in H -/
def vx_L (C n d : String) (A : Nat → Prop) (U : State) (H : Heap) : Prop := ∃ (c : ClassId) (k : Class) (i : Nat) (f : Field) (a : Nat) (cell : Cell), U.vm.findClass C = some c ∧ U.fieldFound? C n d = some (c, k, i, f) ∧ f.isStatic = true ∧ k.statics = some a ∧ H[a]? = some cell ∧ cell.vm.isStatics = true ∧ cell.cls = c ∧ f.slot < cell.slots.size ∧ k.staticTypes[f.slot]? = some f.type ∧ ¬ A a
theorem vx_L.moved {C n d : String} {A : Nat → Prop} {u U : State} {H : Heap} (hvm : u.vm.Alike U.vm) (h : vx_L C n d A u H) : vx_L C n d A U H := by
  obtain ⟨c, k, i, f, a, cell, h1, h2, h3, h4, h5, h6, h7, h8, h9, h10⟩ := h
  obtain ⟨k', hi', he⟩ := State.fieldFound?_setVm hvm h2
  exact ⟨c, k', i, f, a, cell, by rw [hvm.findClass]; exact h1, hi', h3, by rw [he]; exact h4, h5, h6, h7, h8, by rw [he]; exact h9, h10⟩
theorem vx_L.kept {C n d : String} {A : Nat → Prop} {U : State} {H H1 : Heap} (h : vx_L C n d A U H) (hq : ∀ a : Nat, a < H.size → ¬ A a → H1[a]? = H[a]?) : vx_L C n d A U H1 := by
  obtain ⟨c, k, i, f, a, cell, h1, h2, h3, h4, h5, h6, h7, h8, h9, h10⟩ := h
  exact ⟨c, k, i, f, a, cell, h1, h2, h3, h4, by rw [hq a (Array.getElem?_eq_some_iff.mp h5).1 h10]; exact h5, h6, h7, h8, h9, h10⟩
theorem vx_L.narrow {C n d : String} {A B : Nat → Prop} {U : State} {H : Heap} (h : vx_L C n d A U H) (hAB : ∀ q, B q → A q) : vx_L C n d B U H := by
  obtain ⟨c, k, i, f, a, cell, h1, h2, h3, h4, h5, h6, h7, h8, h9, h10⟩ := h
  exact ⟨c, k, i, f, a, cell, h1, h2, h3, h4, h5, h6, h7, h8, h9, fun z => h10 (hAB _ z)⟩
theorem vx_L.word {C n d : String} {A : Nat → Prop} {s : State} {args : Array Value} (h : vx_L C n d A s s.heap) : (Cond.laysStatic C n d).before args s = true := by
  obtain ⟨c, k, i, f, a, cell, h1, h2, h3, h4, h5, h6, h7, h8, h9, -⟩ := h
  show (Cond.laysStatic C n d).holds args s none s [] = true
  exact Cond.laysStatic_of h1 h2 h3 h4 h5 h6 h7 h8 h9
/-- .. and what it holds: null or some reference -/
def vx_Zq (C n d : String) (A : Nat → Prop) (U : State) (H : Heap) : Prop := va_Zq C n d A U H ∧ vx_L C n d A U H
theorem vx_Zq.moved {C n d : String} {A : Nat → Prop} {u U : State} {H : Heap} (hvm : u.vm.Alike U.vm) (h : vx_Zq C n d A u H) : vx_Zq C n d A U H := ⟨va_Zq.moved hvm h.1, vx_L.moved hvm h.2⟩
theorem vx_Zq.kept {C n d : String} {A : Nat → Prop} {U : State} {H H1 : Heap} (h : vx_Zq C n d A U H) (hq : ∀ a : Nat, a < H.size → ¬ A a → H1[a]? = H[a]?) : vx_Zq C n d A U H1 := ⟨va_Zq.kept h.1 hq, vx_L.kept h.2 hq⟩
theorem vx_Zq.narrow {C n d : String} {A B : Nat → Prop} {U : State} {H : Heap} (h : vx_Zq C n d A U H) (hAB : ∀ q, B q → A q) : vx_Zq C n d B U H := ⟨va_Zq.narrow h.1 hAB, vx_L.narrow h.2 hAB⟩
theorem vx_Zqof {args : Array Value} {s : State} {C n d : String} {A : Nat → Prop} (hl : (Cond.laysStatic C n d).before args s = true) (hini : (Cond.initialized C).before args s = true) (h : (Cond.isRef (.static C n d)).before args s = true) (hA : ∀ a : Nat, a < s.heap.size → ¬ A a) : vx_Zq C n d A s s.heap := by
  refine ⟨va_Zqof hl hini h hA, ?_⟩
  obtain ⟨c, k, i, f, a, cell, h1, h2, h3, h4, h5, h6, h7, h8, h9⟩ := Cond.laysStatic_spec hl
  exact ⟨c, k, i, f, a, cell, h1, h2, h3, h4, h5, h6, h7, h8, h9, hA a (Array.getElem?_eq_some_iff.mp h5).1⟩
theorem vx_isRef {C n d : String} {v : Value} {A : Nat → Prop} {s : State} {args : Array Value} (h : va_Z C n d v A s s.heap) (hv : v.isRef = true) : (Cond.isRef (.static C n d)).before args s = true := by
  obtain ⟨cf, kf, fi, f, a, cell, h1, h2, h3, h4, h5, h6, h7, -⟩ := h
  have he : (Term.static C n d).eval args s none [] s = some v := by
    simp [Term.eval, State.fieldNamed?, h1, h2, h4, h5, h6, h7]
  simp only [Cond.before, Cond.holds, Cond.value, he]
  cases v <;> simp_all [Value.isRef]
theorem vx_isRefq {C n d : String} {A : Nat → Prop} {s : State} {args : Array Value} (h : va_Zq C n d A s s.heap) : (Cond.isRef (.static C n d)).before args s = true := by
  rcases h with h | ⟨t, h⟩
  · exact vx_isRef h rfl
  · exact vx_isRef h rfl
/-- the same frame, seen from here: as if the method were called anew in this heap -/
theorem vx_rebase {T : State} (X : Stand p l e R s m args below meth c T locs cells slots) {R' : Room} (hf : R'.frames ≤ R.frames) (hl : R'.locals ≤ R.locals) (hc : cells + R'.cells ≤ R.cells) (hs : slots + R'.slots ≤ R.slots) :
    Stand p l e R' ((T.setVm s.vm).setFrames (.invoking m args :: below)) m args below meth c T [] 0 0 := by
  have htop : (T.setVm s.vm).topJava?.isSome := X.here.top
  have hF : ((T.setVm s.vm).setFrames (.invoking m args :: below)).frames = .invoking m args :: below := State.frames_setFrames _ (State.cur_lt_of_top htop)
  obtain ⟨g₀, hg0⟩ := Option.isSome_iff_exists.mp htop
  obtain ⟨r, hr⟩ := State.topJava?_eq_some.mp hg0
  have hl9 : e.platform.stackLimits (T.setVm s.vm).me = e.platform.stackLimits s.me := X.limits
  have hb9 : (T.setVm s.vm).me.stackBytes = s.me.stackBytes := X.bytes
  refine ⟨X.admits, X.cas, X.clock, hF, ?_, X.hears, X.method, X.code, X.here, X.tail, X.warmed, ?_, ?_, ?_⟩
  · have h := X.room
    have hU : ((T.setVm s.vm).setFrames (.invoking m args :: below)).localsInUse = s.localsInUse := by
      rw [State.localsInUse_invoking hF (meth := meth) (c := c) X.method X.code, State.localsInUse_invoking X.frames X.method X.code]
    simp only [State.hasRoom, Bool.and_eq_true, decide_eq_true_eq] at h ⊢
    obtain ⟨⟨⟨⟨h1, h2, h3, h4, h5, h6⟩, h7⟩, h8⟩, h9⟩ := h
    rw [X.frames, List.length_cons] at h2 h3
    have q1 := X.heapSize
    have q2 := X.used
    simp only [hF, hU, List.length_cons, State.stackLimits_setFrames, State.stackBytes_setFrames, hl9, hb9]
    refine ⟨⟨⟨⟨by omega, by omega, by omega, by omega, by omega, h6⟩, ?_⟩, ?_⟩, X.book⟩
    · show T.heap.size + R'.cells ≤ e.platform.maxCells
      omega
    · show T.slotsUsed + R'.slots ≤ e.platform.maxSlots
      omega
  · rw [State.stackLimits_setFrames]; rfl
  · rw [State.stackBytes_setFrames]; rfl
  · refine ⟨?_, Nat.le_refl _, Nat.le_refl _, ?_, ?_, fun a c9 h9 => ⟨c9, h9, rfl, rfl, fun _ _ => rfl⟩⟩
    · obtain ⟨t, ht, -⟩ := State.frames_cons hr
      show T.setVm s.vm = { ((T.setVm s.vm).setFrames (.invoking m args :: below)).setFrames (T.setVm s.vm).frames with heap := T.heap, slotsUsed := T.slotsUsed }
      rw [State.setFrames_setFrames, State.setFrames_self ht]
      rfl
    · show T.slotsUsed = T.slotsUsed + ((T.heap.toList.drop T.heap.size).map (·.slots.size)).sum
      rw [List.drop_eq_nil_of_le (Nat.le_of_eq Array.length_toList)]
      rfl
    · show ((T.heap.toList.drop T.heap.size).map (·.slots.size)).sum ≤ 0
      rw [List.drop_eq_nil_of_le (Nat.le_of_eq Array.length_toList)]
      exact Nat.le_refl _
/-- 'throw new E()': new; dup; invokespecial; athrow -/
theorem vx_throw0 {cc : ByteArray} {pc : Nat} (hexec : p.tables.exec = Jvm.exec) (hb : c.code = cc) (hl : l.stackTraces = false) {own cls : String} {names : List String} {ik ic mc ms : Nat} {A : Nat → Prop}
    (hown : s.vm.findClass own = some m.cls) (hcls : Bundle.fit cls = true) (hnames : ∀ n ∈ names, Bundle.fit n = true)
    (hk : (Cond.classLink own ik cls).before args s = true) (hini : (Cond.initialized cls).before args s = true) (hat : ∀ w ∈ vx_at0 own ic cls names, w.before args s = true)
    (hgood : ∀ w ∈ Cond.classLink own ik cls :: Cond.initialized cls :: vx_at0 own ic cls names, vx_ot w = true)
    (hU : vx_Zq Bundle.tN "UNASSIGNED_STACK" Bundle.steD A s s.heap) (hN : vx_Zq Bundle.tN "SUPPRESSED_SENTINEL" Bundle.listD A s s.heap) (hS : va_S A s.heap H locs) (hsize : ls.size = c.maxLocals)
    (d0 : decode cc pc = .ok (.new ik, 3)) (d3 : decode cc (pc + 3) = .ok (.dup, 1)) (d4 : decode cc (pc + 4) = .ok (.invokespecial ic, 3)) (d7 : decode cc (pc + 7) = .ok (.athrow, 1))
    (hout : ∀ x ∈ c.exceptionTable.toList, covers x (pc + 7) = false)
    (hRframes : names.length + 3 < R.frames) (hRlocals : (rest.map fun v => v.category).sum + (13 * (names.length + 1) + 42) ≤ R.locals) (hRcells : cells + 1 ≤ R.cells) (hRslots : slots + 6 ≤ R.slots) (hlocks : meth.locks = false)
    (hx : ∀ t : State, s.vm.Alike t.vm → H.size ≤ t.heap.size → (∀ q : Nat, q < H.size → t.heap[q]? = H[q]?) → XC cls s t)
    (hf : ∀ z ∈ locs, free z.base) (hc : cells + 1 ≤ mc) (hs : slots + 6 ≤ ms) :
    W p l e R s m args below meth c H locs cells slots (vx_MQ below Qc XC args s mc ms free) (F0 m pc ls rest) := by
  intro T hT X
  have htr : e.platform.stackTraces = false := (show e.platform.stackTraces = l.stackTraces by rw [X.admits.platform]).trans hl
  have Y := vx_rebase X (R' := { frames := R.frames, locals := R.locals, cells := 1, slots := 6 }) (Nat.le_refl _) (Nat.le_refl _) hRcells hRslots
  obtain ⟨s', hA⟩ : ∃ z, z = (T.setVm s.vm).setFrames (.invoking m args :: below) := ⟨_, rfl⟩
  rw [← hA] at Y
  have hvm : s'.vm = s.vm := by rw [hA]; rfl
  have hhp : s'.heap = H := by rw [hA]; exact hT
  have hW0 : s.WarmedH s'.vm := by rw [hvm]; exact State.WarmedH.refl s
  have hat' : ∀ w ∈ vx_at0 own ic cls names, w.before args s' = true := fun w hw => vx_ot_at hW0 hvm.symm (hgood w (List.mem_cons_of_mem _ (List.mem_cons_of_mem _ hw))) (hat w hw)
  have hk' : (Cond.classLink own ik cls).before args s' = true := vx_ot_at hW0 hvm.symm (hgood _ List.mem_cons_self) hk
  have hini' : (Cond.initialized cls).before args s' = true := vx_ot_at hW0 hvm.symm (hgood _ (List.mem_cons_of_mem _ List.mem_cons_self)) hini
  have hU' : vx_Zq Bundle.tN "UNASSIGNED_STACK" Bundle.steD A s' s'.heap := by rw [hhp]; exact vx_Zq.moved hW0.alike (hU.kept hS.2.1)
  have hN' : vx_Zq Bundle.tN "SUPPRESSED_SENTINEL" Bundle.listD A s' s'.heap := by rw [hhp]; exact vx_Zq.moved hW0.alike (hN.kept hS.2.1)
  have h : ∀ w ∈ Bundle.ownAtoms0 own ic cls names, w.before args s' = true := vx_own hat' (vx_isRefq hU'.1) (vx_isRefq hN'.1) hU'.2.word hN'.2.word
  have hown' : s'.vm.findClass own = some m.cls := by rw [hvm]; exact hown
  have hins : (Cond.instantiable cls 6).before args s' = true := h _ (by simp [Bundle.ownAtoms0])
  obtain ⟨vm₁, cX, kX, hfX, hkX, -, -, X₁, st1⟩ := Y.newCold hexec (own := own) (C := cls) (index := ik) (n := 6) hown' hk' hins hini'
    (g := F0 m pc ls rest) rfl (by rw [hb]; exact d0) (Nat.le_refl _) (Nat.le_refl _)
  generalize hT1 : (T.setVm vm₁).pushCell { cls := cX, slots := kX.instanceTypes.map defaultValue, vm := .none } = T1 at X₁ st1
  have hcat : (Value.ref T.heap.size).category = 1 := rfl
  have hcellA : T1.heap[T.heap.size]? = some (freshCell cX kX) := by rw [← hT1]; exact State.heap_pushCell_size _ _
  have d3' : decode c.code (pc + 3) = .ok (.dup, 1) := by rw [hb]; exact d3
  obtain ⟨U, hsteps, hrun, hend, hW, hsame, ce, hce, hO⟩ := X₁.ctorThrow0 hexec htr (own := own) (cls := cls) (names := names) (ic := ic) hown' hcls hnames h (fun x hx => nomatch hx) hfX hkX hcellA (by rw [hhp, hT]; exact Nat.le_refl _)
    (g := { method := m, pc := pc + 4, locals := ls, stack := .ref T.heap.size :: .ref T.heap.size :: rest, locked := none }) rfl hsize rfl rfl (rest := rest) rfl
    (by rw [hb]; exact d4) (by rw [hb]; exact d7) hout hRframes (by simp only [List.map_cons, List.sum_cons, hcat]; omega) hlocks
  obtain ⟨f1, f2⟩ := vx_frame hsame
  rw [hhp] at f1 f2
  have hWs : s.WarmedH U.vm := State.WarmedH.trans hW0 hW
  have hcl : s.vm.findClass cls = some ce.cls := by
    have h9 := hO.cls
    rw [hvm] at h9
    exact h9
  have hall : s.sameButNew ({ U with vm := s.vm } : State) locs mc ms := by
    subst hA
    obtain ⟨e1, e2⟩ := hsame
    rw [State.setFrames_setFrames] at e1
    have h2 : (T.setVm s.vm).sameButNew ({ U with vm := s.vm } : State) [] (0 + 1) (0 + 6) := ⟨e1, e2⟩
    have h3 := X.same.trans h2
    rw [List.append_nil] at h3
    exact h3.mono hc hs
  refine ⟨U, ?_, .threw T.heap.size, hrun, hend, Or.inr ⟨T.heap.size, rfl, cls, ce, locs, hx U hWs.alike f1 (fun q hq => f2 q hq (fun z hz => nomatch hz)), hce, hO.vm, hcl, hWs, hall, hf⟩⟩
  refine st1 _ ?_
  show Steps p.tables e below (T1.setTop { method := m, pc := pc + 3, locals := ls, stack := .ref T.heap.size :: rest, locked := none }) _
  jvm_step X₁.here [X₁.here.top, hexec, d3', Value.category]
  exact hsteps
/-- 'throw new E("text")': new; dup; ldc; invokespecial; athrow -/
theorem vx_throwS {cc : ByteArray} {pc : Nat} (hexec : p.tables.exec = Jvm.exec) (hb : c.code = cc) (hl : l.stackTraces = false) {own cls text : String} {names : List String} {ik is ic mc ms sa : Nat} {A : Nat → Prop}
    (hown : s.vm.findClass own = some m.cls) (hcls : Bundle.fit cls = true) (hnames : ∀ n ∈ names, Bundle.fit n = true)
    (hk : (Cond.classLink own ik cls).before args s = true) (hini : (Cond.initialized cls).before args s = true) (hstr : vk_R own is text sa s) (hat : ∀ w ∈ vx_atS own ic cls names, w.before args s = true)
    (hgood : ∀ w ∈ Cond.classLink own ik cls :: Cond.initialized cls :: vx_atS own ic cls names, vx_ot w = true)
    (hU : vx_Zq Bundle.tN "UNASSIGNED_STACK" Bundle.steD A s s.heap) (hN : vx_Zq Bundle.tN "SUPPRESSED_SENTINEL" Bundle.listD A s s.heap) (hS : va_S A s.heap H locs) (hsize : ls.size = c.maxLocals)
    (d0 : decode cc pc = .ok (.new ik, 3)) (d3 : decode cc (pc + 3) = .ok (.dup, 1)) (d4 : decode cc (pc + 4) = .ok (.ldc is, 2)) (d6 : decode cc (pc + 6) = .ok (.invokespecial ic, 3)) (d9 : decode cc (pc + 9) = .ok (.athrow, 1))
    (hout : ∀ x ∈ c.exceptionTable.toList, covers x (pc + 9) = false)
    (hRframes : names.length + 3 < R.frames) (hRlocals : (rest.map fun v => v.category).sum + (13 * (names.length + 1) + 43) ≤ R.locals) (hRcells : cells + 1 ≤ R.cells) (hRslots : slots + 6 ≤ R.slots) (hlocks : meth.locks = false)
    (hx : ∀ t : State, s.vm.Alike t.vm → H.size ≤ t.heap.size → (∀ q : Nat, q < H.size → t.heap[q]? = H[q]?) → XC cls s t)
    (hf : ∀ z ∈ locs, free z.base) (hc : cells + 1 ≤ mc) (hs : slots + 6 ≤ ms) :
    W p l e R s m args below meth c H locs cells slots (vx_MQ below Qc XC args s mc ms free) (F0 m pc ls rest) := by
  intro T hT X
  have htr : e.platform.stackTraces = false := (show e.platform.stackTraces = l.stackTraces by rw [X.admits.platform]).trans hl
  have Y := vx_rebase X (R' := { frames := R.frames, locals := R.locals, cells := 1, slots := 6 }) (Nat.le_refl _) (Nat.le_refl _) hRcells hRslots
  obtain ⟨s', hA⟩ : ∃ z, z = (T.setVm s.vm).setFrames (.invoking m args :: below) := ⟨_, rfl⟩
  rw [← hA] at Y
  have hvm : s'.vm = s.vm := by rw [hA]; rfl
  have hhp : s'.heap = H := by rw [hA]; exact hT
  have hW0 : s.WarmedH s'.vm := by rw [hvm]; exact State.WarmedH.refl s
  have hat' : ∀ w ∈ vx_atS own ic cls names, w.before args s' = true := fun w hw => vx_ot_at hW0 hvm.symm (hgood w (List.mem_cons_of_mem _ (List.mem_cons_of_mem _ hw))) (hat w hw)
  have hk' : (Cond.classLink own ik cls).before args s' = true := vx_ot_at hW0 hvm.symm (hgood _ List.mem_cons_self) hk
  have hini' : (Cond.initialized cls).before args s' = true := vx_ot_at hW0 hvm.symm (hgood _ (List.mem_cons_of_mem _ List.mem_cons_self)) hini
  have hU' : vx_Zq Bundle.tN "UNASSIGNED_STACK" Bundle.steD A s' s'.heap := by rw [hhp]; exact vx_Zq.moved hW0.alike (hU.kept hS.2.1)
  have hN' : vx_Zq Bundle.tN "SUPPRESSED_SENTINEL" Bundle.listD A s' s'.heap := by rw [hhp]; exact vx_Zq.moved hW0.alike (hN.kept hS.2.1)
  have h : ∀ w ∈ Bundle.ownAtoms own ic cls names, w.before args s' = true := vx_own hat' (vx_isRefq hU'.1) (vx_isRefq hN'.1) hU'.2.word hN'.2.word
  have hown' : s'.vm.findClass own = some m.cls := by rw [hvm]; exact hown
  have hins : (Cond.instantiable cls 6).before args s' = true := h _ (by simp [Bundle.ownAtoms])
  obtain ⟨vm₁, cX, kX, hfX, hkX, -, -, X₁, st1⟩ := Y.newCold hexec (own := own) (C := cls) (index := ik) (n := 6) hown' hk' hins hini'
    (g := F0 m pc ls rest) rfl (by rw [hb]; exact d0) (Nat.le_refl _) (Nat.le_refl _)
  generalize hT1 : (T.setVm vm₁).pushCell { cls := cX, slots := kX.instanceTypes.map defaultValue, vm := .none } = T1 at X₁ st1
  have hcat : (Value.ref T.heap.size).category = 1 := rfl
  have hcellA : T1.heap[T.heap.size]? = some (freshCell cX kX) := by rw [← hT1]; exact State.heap_pushCell_size _ _
  have d3' : decode c.code (pc + 3) = .ok (.dup, 1) := by rw [hb]; exact d3
  have d4' : decode c.code (pc + 4) = .ok (.ldc is, 2) := by rw [hb]; exact d4
  have hstr' : vk_R own is text sa s' := vk_R.warm hW0 hstr
  obtain ⟨U, hsteps, hrun, hend, hW, hsame, ce, hce, hO⟩ := X₁.ctorThrowS hexec htr (own := own) (cls := cls) (names := names) (ic := ic) hown' hcls hnames h (fun x hx => nomatch hx) hfX hkX hcellA (by rw [hhp, hT]; exact Nat.le_refl _) (msg := .ref sa) rfl
    (g := { method := m, pc := pc + 6, locals := ls, stack := .ref sa :: .ref T.heap.size :: .ref T.heap.size :: rest, locked := none }) rfl hsize rfl rfl (rest := rest) rfl
    (by rw [hb]; exact d6) (by rw [hb]; exact d9) hout hRframes (by simp only [List.map_cons, List.sum_cons, hcat]; omega) hlocks
  obtain ⟨f1, f2⟩ := vx_frame hsame
  rw [hhp] at f1 f2
  have hWs : s.WarmedH U.vm := State.WarmedH.trans hW0 hW
  have hcl : s.vm.findClass cls = some ce.cls := by
    have h9 := hO.cls
    rw [hvm] at h9
    exact h9
  have hall : s.sameButNew ({ U with vm := s.vm } : State) locs mc ms := by
    subst hA
    obtain ⟨e1, e2⟩ := hsame
    rw [State.setFrames_setFrames] at e1
    have h2 : (T.setVm s.vm).sameButNew ({ U with vm := s.vm } : State) [] (0 + 1) (0 + 6) := ⟨e1, e2⟩
    have h3 := X.same.trans h2
    rw [List.append_nil] at h3
    exact h3.mono hc hs
  refine ⟨U, ?_, .threw T.heap.size, hrun, hend, Or.inr ⟨T.heap.size, rfl, cls, ce, locs, hx U hWs.alike f1 (fun q hq => f2 q hq (fun z hz => nomatch hz)), hce, hO.vm, hcl, hWs, hall, hf⟩⟩
  refine st1 _ ?_
  show Steps p.tables e below (T1.setTop { method := m, pc := pc + 3, locals := ls, stack := .ref T.heap.size :: rest, locked := none }) _
  jvm_step X₁.here [X₁.here.top, hexec, d3', Value.category]
  exact X₁.ldcString hexec (own := own) (text := text) (index := is) (a := sa) hown' hstr'.1 hstr'.2
    (g := { method := m, pc := pc + 4, locals := ls, stack := .ref T.heap.size :: .ref T.heap.size :: rest, locked := none }) rfl d4' _ hsteps
/-- 'throw new E("text")', the text by a wide index -/
theorem vx_throwSW {cc : ByteArray} {pc : Nat} (hexec : p.tables.exec = Jvm.exec) (hb : c.code = cc) (hl : l.stackTraces = false) {own cls text : String} {names : List String} {ik is ic mc ms sa : Nat} {A : Nat → Prop}
    (hown : s.vm.findClass own = some m.cls) (hcls : Bundle.fit cls = true) (hnames : ∀ n ∈ names, Bundle.fit n = true)
    (hk : (Cond.classLink own ik cls).before args s = true) (hini : (Cond.initialized cls).before args s = true) (hstr : vk_R own is text sa s) (hat : ∀ w ∈ vx_atS own ic cls names, w.before args s = true)
    (hgood : ∀ w ∈ Cond.classLink own ik cls :: Cond.initialized cls :: vx_atS own ic cls names, vx_ot w = true)
    (hU : vx_Zq Bundle.tN "UNASSIGNED_STACK" Bundle.steD A s s.heap) (hN : vx_Zq Bundle.tN "SUPPRESSED_SENTINEL" Bundle.listD A s s.heap) (hS : va_S A s.heap H locs) (hsize : ls.size = c.maxLocals)
    (d0 : decode cc pc = .ok (.new ik, 3)) (d3 : decode cc (pc + 3) = .ok (.dup, 1)) (d4 : decode cc (pc + 4) = .ok (.ldc_w is, 3)) (d7 : decode cc (pc + 7) = .ok (.invokespecial ic, 3)) (d10 : decode cc (pc + 10) = .ok (.athrow, 1))
    (hout : ∀ x ∈ c.exceptionTable.toList, covers x (pc + 10) = false)
    (hRframes : names.length + 3 < R.frames) (hRlocals : (rest.map fun v => v.category).sum + (13 * (names.length + 1) + 43) ≤ R.locals) (hRcells : cells + 1 ≤ R.cells) (hRslots : slots + 6 ≤ R.slots) (hlocks : meth.locks = false)
    (hx : ∀ t : State, s.vm.Alike t.vm → H.size ≤ t.heap.size → (∀ q : Nat, q < H.size → t.heap[q]? = H[q]?) → XC cls s t)
    (hf : ∀ z ∈ locs, free z.base) (hc : cells + 1 ≤ mc) (hs : slots + 6 ≤ ms) :
    W p l e R s m args below meth c H locs cells slots (vx_MQ below Qc XC args s mc ms free) (F0 m pc ls rest) := by
  intro T hT X
  have htr : e.platform.stackTraces = false := (show e.platform.stackTraces = l.stackTraces by rw [X.admits.platform]).trans hl
  have Y := vx_rebase X (R' := { frames := R.frames, locals := R.locals, cells := 1, slots := 6 }) (Nat.le_refl _) (Nat.le_refl _) hRcells hRslots
  obtain ⟨s', hA⟩ : ∃ z, z = (T.setVm s.vm).setFrames (.invoking m args :: below) := ⟨_, rfl⟩
  rw [← hA] at Y
  have hvm : s'.vm = s.vm := by rw [hA]; rfl
  have hhp : s'.heap = H := by rw [hA]; exact hT
  have hW0 : s.WarmedH s'.vm := by rw [hvm]; exact State.WarmedH.refl s
  have hat' : ∀ w ∈ vx_atS own ic cls names, w.before args s' = true := fun w hw => vx_ot_at hW0 hvm.symm (hgood w (List.mem_cons_of_mem _ (List.mem_cons_of_mem _ hw))) (hat w hw)
  have hk' : (Cond.classLink own ik cls).before args s' = true := vx_ot_at hW0 hvm.symm (hgood _ List.mem_cons_self) hk
  have hini' : (Cond.initialized cls).before args s' = true := vx_ot_at hW0 hvm.symm (hgood _ (List.mem_cons_of_mem _ List.mem_cons_self)) hini
  have hU' : vx_Zq Bundle.tN "UNASSIGNED_STACK" Bundle.steD A s' s'.heap := by rw [hhp]; exact vx_Zq.moved hW0.alike (hU.kept hS.2.1)
  have hN' : vx_Zq Bundle.tN "SUPPRESSED_SENTINEL" Bundle.listD A s' s'.heap := by rw [hhp]; exact vx_Zq.moved hW0.alike (hN.kept hS.2.1)
  have h : ∀ w ∈ Bundle.ownAtoms own ic cls names, w.before args s' = true := vx_own hat' (vx_isRefq hU'.1) (vx_isRefq hN'.1) hU'.2.word hN'.2.word
  have hown' : s'.vm.findClass own = some m.cls := by rw [hvm]; exact hown
  have hins : (Cond.instantiable cls 6).before args s' = true := h _ (by simp [Bundle.ownAtoms])
  obtain ⟨vm₁, cX, kX, hfX, hkX, -, -, X₁, st1⟩ := Y.newCold hexec (own := own) (C := cls) (index := ik) (n := 6) hown' hk' hins hini'
    (g := F0 m pc ls rest) rfl (by rw [hb]; exact d0) (Nat.le_refl _) (Nat.le_refl _)
  generalize hT1 : (T.setVm vm₁).pushCell { cls := cX, slots := kX.instanceTypes.map defaultValue, vm := .none } = T1 at X₁ st1
  have hcat : (Value.ref T.heap.size).category = 1 := rfl
  have hcellA : T1.heap[T.heap.size]? = some (freshCell cX kX) := by rw [← hT1]; exact State.heap_pushCell_size _ _
  have d3' : decode c.code (pc + 3) = .ok (.dup, 1) := by rw [hb]; exact d3
  have d4' : decode c.code (pc + 4) = .ok (.ldc_w is, 3) := by rw [hb]; exact d4
  have hstr' : vk_R own is text sa s' := vk_R.warm hW0 hstr
  obtain ⟨U, hsteps, hrun, hend, hW, hsame, ce, hce, hO⟩ := X₁.ctorThrowS hexec htr (own := own) (cls := cls) (names := names) (ic := ic) hown' hcls hnames h (fun x hx => nomatch hx) hfX hkX hcellA (by rw [hhp, hT]; exact Nat.le_refl _) (msg := .ref sa) rfl
    (g := { method := m, pc := pc + 7, locals := ls, stack := .ref sa :: .ref T.heap.size :: .ref T.heap.size :: rest, locked := none }) rfl hsize rfl rfl (rest := rest) rfl
    (by rw [hb]; exact d7) (by rw [hb]; exact d10) hout hRframes (by simp only [List.map_cons, List.sum_cons, hcat]; omega) hlocks
  obtain ⟨f1, f2⟩ := vx_frame hsame
  rw [hhp] at f1 f2
  have hWs : s.WarmedH U.vm := State.WarmedH.trans hW0 hW
  have hcl : s.vm.findClass cls = some ce.cls := by
    have h9 := hO.cls
    rw [hvm] at h9
    exact h9
  have hall : s.sameButNew ({ U with vm := s.vm } : State) locs mc ms := by
    subst hA
    obtain ⟨e1, e2⟩ := hsame
    rw [State.setFrames_setFrames] at e1
    have h2 : (T.setVm s.vm).sameButNew ({ U with vm := s.vm } : State) [] (0 + 1) (0 + 6) := ⟨e1, e2⟩
    have h3 := X.same.trans h2
    rw [List.append_nil] at h3
    exact h3.mono hc hs
  refine ⟨U, ?_, .threw T.heap.size, hrun, hend, Or.inr ⟨T.heap.size, rfl, cls, ce, locs, hx U hWs.alike f1 (fun q hq => f2 q hq (fun z hz => nomatch hz)), hce, hO.vm, hcl, hWs, hall, hf⟩⟩
  refine st1 _ ?_
  show Steps p.tables e below (T1.setTop { method := m, pc := pc + 3, locals := ls, stack := .ref T.heap.size :: rest, locked := none }) _
  jvm_step X₁.here [X₁.here.top, hexec, d3', Value.category]
  exact X₁.ldcStringW hexec (own := own) (text := text) (index := is) (a := sa) hown' hstr'.1 hstr'.2
    (g := { method := m, pc := pc + 4, locals := ls, stack := .ref T.heap.size :: .ref T.heap.size :: rest, locked := none }) rfl d4' _ hsteps
end Ends
section Bodies
variable {l : Launch}
theorem vx_ofW {y : MethodName} {ws ws' : List Cond} {rm : Room} {Pc : Array Value → State → Prop} {Qc : Array Value → State → Outcome → State → Prop} {XC : String → State → State → Prop} {mc ms : Nat} {free : Addr → Prop} {cc : ByteArray} {maxL : Nat} {ret : Option FieldType}
    (hy : plainName y.cls = true) (hw : ws = Cond.code y cc maxL ret :: ws')
    (body : ∀ p e s m args below meth c s₁, BodyLoose p l y (headSpec ws rm) cc maxL ret e s m args below meth c s₁ → c.maxLocals = maxL → (∀ x ∈ c.exceptionTable.toList, False) → Pc args s →
      W p l e (headSpec ws rm).room s m args below meth c s.heap [] 0 0 (vx_MQ below Qc XC args s mc ms free) (entryFrame m args maxL)) : vx_Met l y ws rm Pc Qc XC mc ms free := by
  refine MetFree.of_bodyS (code := cc) (maxLocals := maxL) (ret := ret) hy ?_ ?_
  · intro args s m h hn
    obtain ⟨meth, c, h1, h2, h3, h4, h5, h6, -, -⟩ := Cond.code_spec hn (atoms_spec (ws := ws) h _ (by rw [hw]; exact List.mem_cons_self))
    exact ⟨meth, c, h1, h2, h3, h4, h5, h6⟩
  · intro p e s m args below meth c s₁ B hml hP _
    have hh0 : s₁.heap = s.heap := by rw [B.state]; rfl
    have ht : ∀ x ∈ c.exceptionTable.toList, False := by
      obtain ⟨meth9, c9, h1, h2, -, -, -, -, h7, -⟩ := Cond.code_spec B.named (atoms_spec (ws := ws) B.pre _ (by rw [hw]; exact List.mem_cons_self))
      cases Option.some.inj (h1.symm.trans B.method)
      cases Option.some.inj (h2.symm.trans (Stand.of_body B).code)
      intro x hx
      rw [Array.isEmpty_iff.mp h7] at hx
      cases hx
    obtain ⟨t, a1, o, b1, b2, b3⟩ := body p e s m args below meth c s₁ B hml ht hP s₁ hh0 (Stand.of_body B)
    exact ⟨t, o, a1, b1, b2, b3⟩
/-- the table of a body with handlers -/
theorem vx_table {p : Program} {x y : MethodName} {S : Spec} {cc bytes : ByteArray} {maxL maxL' : Nat} {ret ret' : Option FieldType} {e : Env} {s s₁ : State} {m : MethodId} {args : Array Value} {below : List Frame} {meth : Method} {c : Code} {hh : List (Nat × Nat × Nat × Nat)}
    (B : BodyLoose p l y S cc maxL ret e s m args below meth c s₁) (h : (Cond.codeWith y bytes maxL' ret' hh).before args s = true) : c.exceptionTable.toList = tableOf hh := by
  obtain ⟨m9, meth9, c9, hn9, h1, h2, -, -, h6, -⟩ := Cond.codeWith_spec h
  cases Option.some.inj (hn9.symm.trans B.named)
  cases Option.some.inj (h1.symm.trans B.method)
  cases Option.some.inj (h2.symm.trans (Stand.of_body B).code)
  rw [← h6, table_eq]
end Bodies
end VXA
/-! ===== END ===== -/
/-! ===== BEGIN a static call of a method with an exception table ===== -/
section VXS
variable {p : Program} {l : Launch} {e : Env} {R : Room} {s : State} {m : MethodId} {args : Array Value} {below : List Frame} {meth : Method} {c : Code} {T : State} {H : Heap} {locs : List Loc} {cells slots : Nat}
abbrev vx_CSW (R : Room) (s : State) (args : Array Value) (own : String) (index : Nat) (y : MethodName) (bytes : ByteArray) (maxL : Nat) (ret : Option FieldType) (hh : List (Nat × Nat × Nat × Nat)) (ws : List Cond) (rm : Room) (mc ms n : Nat) : Prop :=
  (rm.cells = mc ∧ rm.slots = ms ∧ rm.frames + 1 ≤ R.frames ∧ 8 + (maxL + 11) + rm.locals ≤ R.locals ∧ (∀ w ∈ ws, ∀ (a' : Array Value) (U : State), s.WarmedH U.vm → w.before a' U = true) ∧ Cond.codeWith y bytes maxL ret hh ∈ ws) ∧
  (Cond.codeWith y bytes maxL ret hh).before args s = true ∧ (Cond.initialized y.cls).before args s = true ∧ (y.cls ≠ "java/lang/invoke/MethodHandle" ∧ y.cls ≠ "java/lang/invoke/VarHandle") ∧
  (∀ sig, parseMethodDescriptor y.desc = some sig → n = sig.parameters.length) ∧ (Cond.methodLink own index y).before args s = true ∧ (Cond.static y).before args s = true
theorem vx_cwSW {own : String} {index maxL mc ms : Nat} {y : MethodName} {bytes : ByteArray} {ret : Option FieldType} {hh : List (Nat × Nat × Nat × Nat)} {Ts ws ws' : List Cond} {rm : Room} (n : Nat) (ht : ∀ w ∈ Ts, w.before args s = true) (hT : GoodIn Ts (va_wsS own index y ws)) (hw : ws = Cond.codeWith y bytes maxL ret hh :: ws') (hrc : rm.cells = mc) (hrs : rm.slots = ms)
    (hd : y.cls ≠ "java/lang/invoke/MethodHandle" ∧ y.cls ≠ "java/lang/invoke/VarHandle" ∧ (parseMethodDescriptor y.desc).map (fun d => d.parameters.length) = some n) (hR : rm.frames + 1 ≤ R.frames ∧ 8 + (maxL + 11) + rm.locals ≤ R.locals) :
    vx_CSW R s args own index y bytes maxL ret hh ws rm mc ms n := by
  have ok : ∀ w ∈ va_wsS own index y ws, w.before args s = true := fun w h => ht w (hT w h).1
  have hG : GoodIn Ts ws := fun w h => hT w (by unfold va_wsS; exact List.mem_append_right _ h)
  have hc : Cond.codeWith y bytes maxL ret hh ∈ ws := by rw [hw]; exact List.mem_cons_self
  refine ⟨⟨hrc, hrs, hR.1, hR.2, pay_in ht hG, hc⟩, ht _ (hG _ hc).1, ok _ (by simp [va_wsS]), ⟨hd.1, hd.2.1⟩, fun sig h => ?_, ok _ (by simp [va_wsS]), ok _ (by simp [va_wsS])⟩
  have h2 := hd.2.2
  rw [h] at h2
  exact (Option.some.inj h2).symm
theorem vx_callSW (X : Stand p l e R s m args below meth c T locs cells slots) (hexec : p.tables.exec = Jvm.exec) {own : String} {index : Nat} {y : MethodName} {bytes : ByteArray} {maxL : Nat} {ret : Option FieldType} {hh : List (Nat × Nat × Nat × Nat)}
    (hown : s.vm.findClass own = some m.cls) (hlink : (Cond.methodLink own index y).before args s = true) (hstat : (Cond.static y).before args s = true) (hinit : (Cond.initialized y.cls).before args s = true)
    (hcode : (Cond.codeWith y bytes maxL ret hh).before args s = true) (hy : y.cls ≠ "java/lang/invoke/MethodHandle" ∧ y.cls ≠ "java/lang/invoke/VarHandle")
    {W9 : Nat} {Pre : Pt → Array Value → Prop} {Post : Pt → Array Value → Option Value → Pt → Prop} (hK : Back l R p e below s args y 3 W9 Pre Post)
    {g : JFrame} (hg : g.method = m) (hsize : g.locals.size = c.maxLocals) {argsL rest : List Value} (hlen : ∀ sig, parseMethodDescriptor y.desc = some sig → argsL.length = sig.parameters.length)
    (hstack : g.stack = argsL.reverse ++ rest) (hW : 2 * g.monitorRoom + (rest.map fun v => v.category).sum ≤ W9) (hdg : decode c.code g.pc = .ok (.invokestatic index, 3))
    (hpre : ∀ vm₁, s.WarmedH vm₁ → Pre ⟨T.setVm vm₁, locs, cells, slots⟩ argsL.toArray) :
    ∃ (v : Option Value) (vm₁ : Vm) (B : Pt), s.WarmedH vm₁ ∧ Stand p l e R s m args below meth c B.U B.locs B.cells B.slots ∧ Post ⟨T.setVm vm₁, locs, cells, slots⟩ argsL.toArray v B ∧
      ∀ target, Steps p.tables e below (B.U.setTop { g with pc := g.pc + 3, stack := v.toList ++ rest }) target → Steps p.tables e below (T.setTop g) target := by
  obtain ⟨mk, methM, cM, hnamed, hmethM, -, -, -, -, -, -, hsigM⟩ := Cond.codeWith_spec hcode
  have hstatic : methM.isStatic = true := Cond.static_spec hnamed hmethM hstat
  obtain ⟨kP, hkP, -⟩ := className_of_methodNamed hnamed
  have hinitP : kP.init = .initialized := Cond.initialized_spec (findClass_of_methodNamed hnamed) hkP hinit
  obtain ⟨vm₁, X₁, hstep₁⟩ := X.invokestatic hexec hown hlink hnamed hmethM hstatic hkP hinitP hy (g := g) hg (argsL := argsL) (rest := rest) (hlen _ hsigM) hstack hdg
  obtain ⟨v, B, X', hpost, hsteps⟩ := hK m meth c ⟨T.setVm vm₁, locs, cells, slots⟩ { g with stack := rest } (.invokestatic index) mk argsL.toArray X₁ hg hsize hdg hW (X₁.named hnamed) (hpre vm₁ X₁.warmed)
  exact ⟨v, vm₁, B, X₁.warmed, X', hpost, fun target h => hstep₁ _ fun acts => by rw [doInvoke_state]; exact hsteps.trans h⟩
theorem vx_runSW {y : MethodName} {bytes cc : ByteArray} {maxL nL mc ms n index : Nat} {ret : Option FieldType} {hh : List (Nat × Nat × Nat × Nat)} {ws : List Cond} {rm : Room} {Pc : Array Value → State → Prop} {Qc : Array Value → State → Outcome → State → Prop} {free : Addr → Prop} {Ts : List Cond} {own : String} {As rest : List Value} {g : JFrame}
    (S : CallFix p m c cc nL s args Ts own) (hM : Met l y ws rm Pc Qc mc ms free) (cw : vx_CSW R s args own index y bytes maxL ret hh ws rm mc ms n) (hp : PreS s H Pc As)
    (hg : g.method = m) (hn : As.length = n) (hsize : g.locals.size = nL) (hstack : g.stack = As.reverse ++ rest) (hW : 2 * g.monitorRoom + (rest.map fun v => v.category).sum ≤ 8) (hdg : decode cc g.pc = .ok (.invokestatic index, 3)) (hf : cells + mc ≤ R.cells ∧ slots + ms ≤ R.slots) :
    va_Run p l e R s m args below meth c H locs cells slots mc ms g rest (Qc As.toArray) (free) := by
  obtain ⟨⟨hrc, hrs, hfr, hlo, hws, hcw⟩, hcode, hini, hy, hlen, hl, hstt⟩ := cw
  have hK : Back l R p e below s args y 3 8 (PreOf R mc ms Pc) (PostOf Qc mc ms free) := va_backW (hh := hh) (bytes := bytes) (maxL := maxL) (ret := ret) hM hp.1 hrc hrs hfr hlo hws hcw (fun a' U hW => word_at hW (Or.inl (by first | rfl | simp [Cond.onTables, Cond.keeps, Cond.steady])) hini)
  obtain ⟨hx, hb, hml, ho, -⟩ := S
  intro T hT X
  obtain ⟨v, vm₁, ⟨U', l2, c2, s2⟩, hW₁, X', ⟨g', mk, t, L, e1, e2, hq, h1, hL, h2, h3⟩, st⟩ := vx_callSW X hx (hh := hh) (bytes := bytes) (maxL := maxL) (ret := ret) ho hl hstt hini hcode hy hK hg (hsize.trans hml.symm) (argsL := As) (rest := rest) (fun sig h => hn.trans (hlen sig h)) hstack hW (by rw [hb]; exact hdg)
    (fun vm₁ hW₁ => ⟨hf.1, hf.2, hp.2 (T.setVm vm₁) hT hW₁⟩)
  dsimp only [Pt.U, Pt.locs, Pt.cells, Pt.slots] at X' e1 e2 h1 h2 h3 st
  subst h1; subst h2; subst h3
  exact ⟨v, (T.setVm vm₁).calling g' mk As.toArray, t, U', L, hT, X', hL, e1, e2, hq, st⟩
/-- not caught here, past rows that name other classes: it goes on to the caller -/
theorem vx_outP {p : Program} {l : Launch} {e : Env} {R : Room} {s : State} {m : MethodId} {args : Array Value} {below : List Frame} {meth : Method} {c : Code} {H : Heap} {locs : List Loc} {cells slots : Nat} {free : Addr → Prop} {ls : Array Slot} {rest : List Value} {Qc : Array Value → State → Outcome → State → Prop} {XC : String → State → State → Prop}
    {pc : Nat} {own E : String} {ce : Cell} {q : Addr} {mc ms : Nat} (hown : s.vm.findClass own = some m.cls) (hlocks : meth.locks = false)
    (hpass : ∀ z ∈ c.exceptionTable.toList, covers z pc = false ∨ (z.catchType ≠ 0 ∧ ∃ nm : String, (Cond.classLink own z.catchType nm).before args s = true ∧ va_Nc E nm s)) (hcell : H[q]? = some ce) (hv : ce.vm = .none) (hcl : s.vm.findClass E = some ce.cls)
    (hx : ∀ t : State, t.heap = H → s.vm.Alike t.vm → XC E s t) (hf : ∀ z ∈ locs, free z.base) (hc : cells ≤ mc) (hs : slots ≤ ms) :
    vx_W p l e R s m args below meth c H locs cells slots (vx_MQ below Qc XC args s mc ms free) (F0 m pc ls rest) q := by
  intro T hT X
  have hpl : e.platform.magicAccessors = ({} : Platform).magicAccessors := by rw [X.admits.platform]
  obtain ⟨vm', hW', X', st⟩ := X.outThrough hlocks q (g := F0 m pc ls rest) rfl rfl rfl (cell := ce) (by rw [hT]; exact hcell) (by rw [hv]; rfl)
    (by obtain ⟨k9, h9, -⟩ := Vm.findClass_spec hcl; exact ⟨k9, h9⟩) (fun z hz => by
      rcases hpass z hz with h | ⟨hz0, nm, hl1, hn1⟩
      · exact Or.inl h
      · obtain ⟨c6, hc6, hcl6⟩ := Cond.classLink_spec hown hl1 e.platform hpl
        obtain ⟨a8, b8, h1, h2, h3⟩ := hn1
        cases Option.some.inj (h1.symm.trans hcl)
        cases Option.some.inj (h2.symm.trans hc6)
        exact Or.inr ⟨hz0, _, hcl6, h3⟩)
  obtain ⟨g₀, hfr⟩ := X'.frames_eq
  have hcell9 : ((T.setVm vm').setFrames (.throwing q :: below)).heap[q]? = some ce := by
    show T.heap[q]? = some ce
    rw [hT]; exact hcell
  have hend : Ended ((T.setVm vm').setFrames (.throwing q :: below)) below (.threw q) := State.frames_setFrames _ (State.cur_lt_of_frames hfr)
  refine ⟨(T.setVm vm').setFrames (.throwing q :: below), ?_, .threw q, X'.here.running, hend, Or.inr ⟨q, rfl, E, ce, locs, hx _ hT (X'.ends _).1.alike, hcell9, hv, hcl, (X'.ends _).1, (X'.ends _).2.mono hc hs, hf⟩⟩
  rw [X.pushThrowing_eq]
  exact st
/-- a thing of a world lies in the heap -/
theorem vx_lt {D : va_G} {cl : List vw_C} {ws : va_W} {H1 : Heap} (h : va_P D cl ws H1) {k : Nat} {q : Nat × va_E} (hk : ws[k]? = some q) : q.1 < H1.size := (h k q hk).lt
end VXS
/-! ===== END ===== -/
/-! ===== BEGIN methods with a table of their own: called by a name, returning or throwing ===== -/
section VXH
/-! vx_backW, vx_callVX, vx_callSX, vx_callVW, vx_runVW, vx_runVX, vx_runSX, vx_ofWH follow the same proofs as their sisters above (Free/Laws.lean, Shelf42/LK1.lean); vx_outP calls Shelf42/NT130.lean (outThrough). -/
section
variable {l : Launch} {R : Room} {p : Program} {e : Env} {below : List Frame} {s : State} {sargs : Array Value} {y : MethodName} {len W9 : Nat}
theorem vx_backW {ws : List Cond} {rm : Room} {Pc : Array Value → State → Prop} {Qc : Array Value → State → Outcome → State → Prop} {XC : String → State → State → Prop} {mc ms : Nat} {free : Addr → Prop} {bytes : ByteArray} {maxL : Nat} {ret : Option FieldType} {hh : List (Nat × Nat × Nat × Nat)}
    (hM : vx_Met l y ws rm Pc Qc XC mc ms free) (hblind : FrameBlind Pc) (hrc : rm.cells = mc) (hrs : rm.slots = ms)
    (hframes : rm.frames + 1 ≤ R.frames) (hlocals : W9 + (maxL + 11) + rm.locals ≤ R.locals)
    (hws : ∀ w ∈ ws, ∀ a' U, s.WarmedH U.vm → w.before a' U = true) (hcode : Cond.codeWith y bytes maxL ret hh ∈ ws) (hinit : ∀ a' U, s.WarmedH U.vm → (Cond.initialized y.cls).before a' U = true) :
    vx_Back l R p e below s sargs y len W9 (PreOf R mc ms Pc) (PostOf Qc mc ms free) (vx_Post XC mc ms free) := by
  intro m meth c A g ig mk a X hg hsize hdg hW hn hp
  have h1 : (headSpec ws rm).pre.before a A.U = true := atoms_intro fun w hw => hws w hw _ _ X.warmed
  have h2 : (Cond.codeWith y bytes maxL ret hh).before a A.U = true := hws _ hcode _ _ X.warmed
  have h3 : (Cond.initialized y.cls).before a A.U = true := hinit _ _ X.warmed
  have h4 : A.cells + (headSpec ws rm).room.cells ≤ R.cells := by rw [show (headSpec ws rm).room.cells = mc from hrc]; exact hp.1
  have h5 : A.slots + (headSpec ws rm).room.slots ≤ R.slots := by rw [show (headSpec ws rm).room.slots = ms from hrs]; exact hp.2.1
  have hPc : Pc a (A.U.calling g mk a) := hblind _ _ _ _ hp.2.2
  obtain ⟨U, Ls, c0, s0⟩ := A
  dsimp only [Pt.U, Pt.locs, Pt.cells, Pt.slots] at h1 h2 h3 h4 h5 X hn hPc ⊢
  obtain ⟨m9, methY, cY, hn9, hmY, hcY, -, hlY, -⟩ := Cond.codeWith_spec h2
  cases Option.some.inj (hn9.symm.trans hn)
  obtain ⟨kY, hkY, -⟩ := className_of_methodNamed hn
  have hinitY : kY.init = .initialized := Cond.initialized_spec (findClass_of_methodNamed hn) hkY h3
  have h : At U g.method c below := by rw [hg]; exact X.here
  have hlocals9 : W9 + (maxL + 11) + (headSpec ws rm).room.locals ≤ R.locals := hlocals
  have happ : (headSpec ws rm).appliesLoose y e.platform (U.calling g mk a) = true :=
    Spec.appliesLoose_calling (g := g) h hdg hn hkY hinitY
      (X.room_calling (g := g) (R' := (headSpec ws rm).room) hsize hmY hcY hframes (by rw [hlY]; omega) h4 h5) h1
  obtain ⟨mid, hmid⟩ := h.above
  have hfr : (U.setTop g).frames = (.java g :: mid) ++ below := by rw [State.frames_setTop' g h.top, hmid]; rfl
  obtain ⟨o, s₂, hsteps, -, hend, hq⟩ := Steps.callFree hM p X.admits X.cas X.clock (acts := []) hfr happ hPc trivial
  have hq' : vx_Q Qc XC mc ms free a (U.calling g mk a) o s₂ := hq
  rw [State.frames_setTop' g h.top] at hend
  obtain ⟨g₀, hg0⟩ := Option.isSome_iff_exists.mp h.top
  obtain ⟨r, hr⟩ := State.topJava?_eq_some.mp hg0
  have hr' : (({ U with heap := s₂.heap, slotsUsed := s₂.slotsUsed } : State).setVm s₂.vm).frames = .java g₀ :: r := hr
  rcases hq' with ⟨hqc, L, hfe, hL⟩ | ⟨q, rfl, E, ce, L, hx, hce, hcv, hcl, hW₂, hsm, hL⟩
  · obtain ⟨⟨v, rfl⟩, hW₂, e2, q2, q3, q4, q5, q6⟩ := id hfe
    have e3 : s₂ = ({ (U.calling g mk a).setFrames s₂.frames with heap := s₂.heap, slotsUsed := s₂.slotsUsed } : State).setVm s₂.vm := by
      have : s₂ = ({ s₂ with vm := (U.calling g mk a).vm } : State).setVm s₂.vm := rfl
      rw [e2] at this
      exact this
    obtain ⟨c₂, i₂, len₂, hc₂, hd₂, hf₂⟩ := hend
    have hW' : U.WarmedH s₂.vm := hW₂
    have hcc : c₂ = c := by
      have h1 : s₂.code? g.method = U.code? g.method := by
        rw [State.code?_eq, State.code?_eq, hW'.alike.method?]
      exact Option.some.inj (hc₂.symm.trans (h1.trans h.code))
    subst hcc
    have hlen : len₂ = len := by rw [hdg] at hd₂; cases hd₂; rfl
    subst hlen
    have hs₂ : s₂ = (({ U with heap := s₂.heap, slotsUsed := s₂.slotsUsed } : State).setVm s₂.vm).setTop { g with pc := g.pc + len₂, stack := v.toList ++ g.stack } := by
      refine e3.trans ?_
      rw [hf₂, State.calling_eq h.top, State.setFrames_setFrames, State.setTop_of_frames _ hr', hr]
      rfl
    have hsame : U.sameButNew ({ U with heap := s₂.heap, slotsUsed := s₂.slotsUsed } : State) L mc ms := by
      refine ⟨?_, q2, q3, q4, q5, q6⟩
      obtain ⟨t, ht, -⟩ := State.frames_cons hr
      show ({ U with heap := s₂.heap, slotsUsed := s₂.slotsUsed } : State) = { U.setFrames U.frames with heap := s₂.heap, slotsUsed := s₂.slotsUsed }
      rw [State.setFrames_self ht]
    subst hg
    refine Or.inl ⟨v, ⟨(({ U with heap := s₂.heap, slotsUsed := s₂.slotsUsed } : State).setVm s₂.vm), Ls ++ L, c0 + mc, s0 + ms⟩,
      ⟨X.admits, X.cas, X.clock, X.frames, X.room, X.hears, X.method, X.code, (X.here.setHeapUsed s₂.heap s₂.slotsUsed).setVm hW'.alike, X.tail, State.WarmedH.trans X.warmed hW', X.limits, X.bytes, X.same.trans (hsame.setVm s.vm)⟩,
      ⟨g, mk, s₂, L, rfl, rfl, hqc, rfl, hL, rfl, rfl⟩, ?_⟩
    show Steps p.tables e below _ ((({ U with heap := s₂.heap, slotsUsed := s₂.slotsUsed } : State).setVm s₂.vm).setTop { g with pc := g.pc + len₂, stack := v.toList ++ g.stack })
    rw [← hs₂]
    exact hsteps
  · obtain ⟨e2, q2, q3, q4, q5, q6⟩ := id hsm
    have e3 : s₂ = ({ (U.calling g mk a).setFrames s₂.frames with heap := s₂.heap, slotsUsed := s₂.slotsUsed } : State).setVm s₂.vm := by
      have : s₂ = ({ s₂ with vm := (U.calling g mk a).vm } : State).setVm s₂.vm := rfl
      rw [e2] at this
      exact this
    have hf₂ : s₂.frames = .throwing q :: .java g :: U.frames.tail := hend
    have hW' : U.WarmedH s₂.vm := hW₂
    have hs₂ : s₂ = ((({ U with heap := s₂.heap, slotsUsed := s₂.slotsUsed } : State).setVm s₂.vm).setTop g).pushFrame (.throwing q) := by
      refine e3.trans ?_
      rw [hf₂, State.calling_eq h.top, State.setFrames_setFrames, State.pushFrame, State.frames_setTop _ hr', State.setTop_of_frames _ hr', State.setFrames_setFrames, hr]
      rfl
    have hsame : U.sameButNew ({ U with heap := s₂.heap, slotsUsed := s₂.slotsUsed } : State) L mc ms := by
      refine ⟨?_, q2, q3, q4, q5, q6⟩
      obtain ⟨t, ht, -⟩ := State.frames_cons hr
      show ({ U with heap := s₂.heap, slotsUsed := s₂.slotsUsed } : State) = { U.setFrames U.frames with heap := s₂.heap, slotsUsed := s₂.slotsUsed }
      rw [State.setFrames_self ht]
    subst hg
    refine Or.inr ⟨q, ⟨(({ U with heap := s₂.heap, slotsUsed := s₂.slotsUsed } : State).setVm s₂.vm), Ls ++ L, c0 + mc, s0 + ms⟩,
      ⟨X.admits, X.cas, X.clock, X.frames, X.room, X.hears, X.method, X.code, (X.here.setHeapUsed s₂.heap s₂.slotsUsed).setVm hW'.alike, X.tail, State.WarmedH.trans X.warmed hW', X.limits, X.bytes, X.same.trans (hsame.setVm s.vm)⟩,
      ⟨g, mk, s₂, L, E, ce, rfl, rfl, hx, hce, hcv, hcl, rfl, hL, rfl, rfl⟩, ?_⟩
    show Steps p.tables e below _ (((({ U with heap := s₂.heap, slotsUsed := s₂.slotsUsed } : State).setVm s₂.vm).setTop g).pushFrame (.throwing q))
    rw [← hs₂]
    exact hsteps
end
variable {p : Program} {l : Launch} {e : Env} {R : Room} {s : State} {m : MethodId} {args : Array Value} {below : List Frame} {meth : Method} {c : Code} {T : State} {H : Heap} {locs : List Loc} {cells slots : Nat}
theorem vx_callVX (X : Stand p l e R s m args below meth c T locs cells slots) (hexec : p.tables.exec = Jvm.exec) {own C : String} {index : Nat} {y : MethodName} {bytes : ByteArray} {maxL : Nat} {ret : Option FieldType} {hh : List (Nat × Nat × Nat × Nat)}
    (hown : s.vm.findClass own = some m.cls) (hlink : (Cond.methodLink own index y).before args s = true) (hinst : (Cond.instanceMethod y).before args s = true) (hsel : (Cond.selects C y y).before args s = true)
    (hcode : (Cond.codeWith y bytes maxL ret hh).before args s = true) (hy : y.cls ≠ "java/lang/invoke/MethodHandle" ∧ y.cls ≠ "java/lang/invoke/VarHandle")
    {W9 : Nat} {Pre : Pt → Array Value → Prop} {Post : Pt → Array Value → Option Value → Pt → Prop} {PostX : Pt → Array Value → Addr → Pt → Prop} (hK : vx_Back l R p e below s args y 3 W9 Pre Post PostX)
    {b : Addr} {cellB : Cell} (hcell : T.heap[b]? = some cellB) (hobj : cellB.vm.isStatics = false) (hcls : s.vm.findClass C = some cellB.cls)
    {g : JFrame} (hg : g.method = m) (hsize : g.locals.size = c.maxLocals) {argsL rest : List Value} (hlen : ∀ sig, parseMethodDescriptor y.desc = some sig → argsL.length = sig.parameters.length)
    (hstack : g.stack = argsL.reverse ++ .ref b :: rest) (hW : 2 * g.monitorRoom + (rest.map fun v => v.category).sum ≤ W9) (hdg : decode c.code g.pc = .ok (.invokevirtual index, 3))
    (hpre : ∀ vm₁, s.WarmedH vm₁ → Pre ⟨T.setVm vm₁, locs, cells, slots⟩ (Value.ref b :: argsL).toArray) :
    (∃ (v : Option Value) (vm₁ : Vm) (B : Pt), s.WarmedH vm₁ ∧ Stand p l e R s m args below meth c B.U B.locs B.cells B.slots ∧ Post ⟨T.setVm vm₁, locs, cells, slots⟩ (Value.ref b :: argsL).toArray v B ∧
      ∀ target, Steps p.tables e below (B.U.setTop { g with pc := g.pc + 3, stack := v.toList ++ rest }) target → Steps p.tables e below (T.setTop g) target) ∨
    (∃ (q : Addr) (vm₁ : Vm) (B : Pt), s.WarmedH vm₁ ∧ Stand p l e R s m args below meth c B.U B.locs B.cells B.slots ∧ PostX ⟨T.setVm vm₁, locs, cells, slots⟩ (Value.ref b :: argsL).toArray q B ∧
      Steps p.tables e below (T.setTop g) ((B.U.setTop { g with stack := rest }).pushFrame (.throwing q))) := by
  obtain ⟨mk, methM, hnamed, hmethM, hstM, habM⟩ := Cond.instanceMethod_spec hinst
  obtain ⟨m8, methM', cM, hn8, hmethM', -, -, -, -, -, -, hsigM⟩ := Cond.codeWith_spec hcode
  cases Option.some.inj (hn8.symm.trans hnamed)
  cases hmethM.symm.trans hmethM'
  obtain ⟨c2, r2, m2, q1, q2, q3, q4, kP, hkP, hkPi⟩ := Cond.selects_spec hsel
  cases hcls.symm.trans q1
  cases (State.methodFound?_of_named hnamed hy).symm.trans q2
  cases hnamed.symm.trans q3
  have hselP : selectMethod e.platform s.vm cellB.cls mk = .method mk := by rw [Launch.admits_selectMethod X.admits]; exact q4
  obtain ⟨vm₁, X₁, hstep₁⟩ := X.invokevirtual hexec hown hlink hnamed hmethM hstM hkP hkPi hy (a := b) (cell := cellB) hcell
    (fun z h => by rw [h] at hobj; cases hobj) hselP hmethM habM hkP hkPi (g := g) hg (argsL := argsL) (rest := rest) (hlen _ hsigM) hstack hdg
  rcases hK m meth c ⟨T.setVm vm₁, locs, cells, slots⟩ { g with stack := rest } (.invokevirtual index) mk (Value.ref b :: argsL).toArray X₁ hg hsize hdg hW (X₁.named hnamed) (hpre vm₁ X₁.warmed) with ⟨v, B, X', hpost, hsteps⟩ | ⟨q, B, X', hpost, hsteps⟩
  · exact Or.inl ⟨v, vm₁, B, X₁.warmed, X', hpost, fun target h => hstep₁ _ fun acts => by rw [doInvoke_state]; exact hsteps.trans h⟩
  · exact Or.inr ⟨q, vm₁, B, X₁.warmed, X', hpost, hstep₁ _ fun acts => by rw [doInvoke_state]; exact hsteps⟩
theorem vx_callSX (X : Stand p l e R s m args below meth c T locs cells slots) (hexec : p.tables.exec = Jvm.exec) {own : String} {index : Nat} {y : MethodName} {bytes : ByteArray} {maxL : Nat} {ret : Option FieldType} {hh : List (Nat × Nat × Nat × Nat)}
    (hown : s.vm.findClass own = some m.cls) (hlink : (Cond.methodLink own index y).before args s = true) (hstat : (Cond.static y).before args s = true) (hinit : (Cond.initialized y.cls).before args s = true)
    (hcode : (Cond.codeWith y bytes maxL ret hh).before args s = true) (hy : y.cls ≠ "java/lang/invoke/MethodHandle" ∧ y.cls ≠ "java/lang/invoke/VarHandle")
    {W9 : Nat} {Pre : Pt → Array Value → Prop} {Post : Pt → Array Value → Option Value → Pt → Prop} {PostX : Pt → Array Value → Addr → Pt → Prop} (hK : vx_Back l R p e below s args y 3 W9 Pre Post PostX)
    {g : JFrame} (hg : g.method = m) (hsize : g.locals.size = c.maxLocals) {argsL rest : List Value} (hlen : ∀ sig, parseMethodDescriptor y.desc = some sig → argsL.length = sig.parameters.length)
    (hstack : g.stack = argsL.reverse ++ rest) (hW : 2 * g.monitorRoom + (rest.map fun v => v.category).sum ≤ W9) (hdg : decode c.code g.pc = .ok (.invokestatic index, 3))
    (hpre : ∀ vm₁, s.WarmedH vm₁ → Pre ⟨T.setVm vm₁, locs, cells, slots⟩ argsL.toArray) :
    (∃ (v : Option Value) (vm₁ : Vm) (B : Pt), s.WarmedH vm₁ ∧ Stand p l e R s m args below meth c B.U B.locs B.cells B.slots ∧ Post ⟨T.setVm vm₁, locs, cells, slots⟩ argsL.toArray v B ∧
      ∀ target, Steps p.tables e below (B.U.setTop { g with pc := g.pc + 3, stack := v.toList ++ rest }) target → Steps p.tables e below (T.setTop g) target) ∨
    (∃ (q : Addr) (vm₁ : Vm) (B : Pt), s.WarmedH vm₁ ∧ Stand p l e R s m args below meth c B.U B.locs B.cells B.slots ∧ PostX ⟨T.setVm vm₁, locs, cells, slots⟩ argsL.toArray q B ∧
      Steps p.tables e below (T.setTop g) ((B.U.setTop { g with stack := rest }).pushFrame (.throwing q))) := by
  obtain ⟨mk, methM, cM, hnamed, hmethM, -, -, -, -, -, -, hsigM⟩ := Cond.codeWith_spec hcode
  have hstatic : methM.isStatic = true := Cond.static_spec hnamed hmethM hstat
  obtain ⟨kP, hkP, -⟩ := className_of_methodNamed hnamed
  have hinitP : kP.init = .initialized := Cond.initialized_spec (findClass_of_methodNamed hnamed) hkP hinit
  obtain ⟨vm₁, X₁, hstep₁⟩ := X.invokestatic hexec hown hlink hnamed hmethM hstatic hkP hinitP hy (g := g) hg (argsL := argsL) (rest := rest) (hlen _ hsigM) hstack hdg
  rcases hK m meth c ⟨T.setVm vm₁, locs, cells, slots⟩ { g with stack := rest } (.invokestatic index) mk argsL.toArray X₁ hg hsize hdg hW (X₁.named hnamed) (hpre vm₁ X₁.warmed) with ⟨v, B, X', hpost, hsteps⟩ | ⟨q, B, X', hpost, hsteps⟩
  · exact Or.inl ⟨v, vm₁, B, X₁.warmed, X', hpost, fun target h => hstep₁ _ fun acts => by rw [doInvoke_state]; exact hsteps.trans h⟩
  · exact Or.inr ⟨q, vm₁, B, X₁.warmed, X', hpost, hstep₁ _ fun acts => by rw [doInvoke_state]; exact hsteps⟩
theorem vx_callVW (X : Stand p l e R s m args below meth c T locs cells slots) (hexec : p.tables.exec = Jvm.exec) {own C : String} {index : Nat} {y : MethodName} {bytes : ByteArray} {maxL : Nat} {ret : Option FieldType} {hh : List (Nat × Nat × Nat × Nat)}
    (hown : s.vm.findClass own = some m.cls) (hlink : (Cond.methodLink own index y).before args s = true) (hinst : (Cond.instanceMethod y).before args s = true) (hsel : (Cond.selects C y y).before args s = true)
    (hcode : (Cond.codeWith y bytes maxL ret hh).before args s = true) (hy : y.cls ≠ "java/lang/invoke/MethodHandle" ∧ y.cls ≠ "java/lang/invoke/VarHandle")
    {W9 : Nat} {Pre : Pt → Array Value → Prop} {Post : Pt → Array Value → Option Value → Pt → Prop} (hK : Back l R p e below s args y 3 W9 Pre Post)
    {b : Addr} {cellB : Cell} (hcell : T.heap[b]? = some cellB) (hobj : cellB.vm.isStatics = false) (hcls : s.vm.findClass C = some cellB.cls)
    {g : JFrame} (hg : g.method = m) (hsize : g.locals.size = c.maxLocals) {argsL rest : List Value} (hlen : ∀ sig, parseMethodDescriptor y.desc = some sig → argsL.length = sig.parameters.length)
    (hstack : g.stack = argsL.reverse ++ .ref b :: rest) (hW : 2 * g.monitorRoom + (rest.map fun v => v.category).sum ≤ W9) (hdg : decode c.code g.pc = .ok (.invokevirtual index, 3))
    (hpre : ∀ vm₁, s.WarmedH vm₁ → Pre ⟨T.setVm vm₁, locs, cells, slots⟩ (Value.ref b :: argsL).toArray) :
    ∃ (v : Option Value) (vm₁ : Vm) (B : Pt), s.WarmedH vm₁ ∧ Stand p l e R s m args below meth c B.U B.locs B.cells B.slots ∧ Post ⟨T.setVm vm₁, locs, cells, slots⟩ (Value.ref b :: argsL).toArray v B ∧
      ∀ target, Steps p.tables e below (B.U.setTop { g with pc := g.pc + 3, stack := v.toList ++ rest }) target → Steps p.tables e below (T.setTop g) target := by
  obtain ⟨mk, methM, hnamed, hmethM, hstM, habM⟩ := Cond.instanceMethod_spec hinst
  obtain ⟨m8, methM', cM, hn8, hmethM', -, -, -, -, -, -, hsigM⟩ := Cond.codeWith_spec hcode
  cases Option.some.inj (hn8.symm.trans hnamed)
  cases hmethM.symm.trans hmethM'
  obtain ⟨c2, r2, m2, q1, q2, q3, q4, kP, hkP, hkPi⟩ := Cond.selects_spec hsel
  cases hcls.symm.trans q1
  cases (State.methodFound?_of_named hnamed hy).symm.trans q2
  cases hnamed.symm.trans q3
  have hselP : selectMethod e.platform s.vm cellB.cls mk = .method mk := by rw [Launch.admits_selectMethod X.admits]; exact q4
  obtain ⟨vm₁, X₁, hstep₁⟩ := X.invokevirtual hexec hown hlink hnamed hmethM hstM hkP hkPi hy (a := b) (cell := cellB) hcell
    (fun z h => by rw [h] at hobj; cases hobj) hselP hmethM habM hkP hkPi (g := g) hg (argsL := argsL) (rest := rest) (hlen _ hsigM) hstack hdg
  obtain ⟨v, B, X', hpost, hsteps⟩ := hK m meth c ⟨T.setVm vm₁, locs, cells, slots⟩ { g with stack := rest } (.invokevirtual index) mk (Value.ref b :: argsL).toArray X₁ hg hsize hdg hW (X₁.named hnamed) (hpre vm₁ X₁.warmed)
  exact ⟨v, vm₁, B, X₁.warmed, X', hpost, fun target h => hstep₁ _ fun acts => by rw [doInvoke_state]; exact hsteps.trans h⟩
abbrev vx_CVW (R : Room) (s : State) (args : Array Value) (own C : String) (index : Nat) (y : MethodName) (bytes : ByteArray) (maxL : Nat) (ret : Option FieldType) (hh : List (Nat × Nat × Nat × Nat)) (ws : List Cond) (rm : Room) (mc ms n : Nat) : Prop :=
  (rm.cells = mc ∧ rm.slots = ms ∧ rm.frames + 1 ≤ R.frames ∧ 8 + (maxL + 11) + rm.locals ≤ R.locals ∧ (∀ w ∈ ws, ∀ (a' : Array Value) (U : State), s.WarmedH U.vm → w.before a' U = true) ∧ Cond.codeWith y bytes maxL ret hh ∈ ws) ∧
  (Cond.codeWith y bytes maxL ret hh).before args s = true ∧ (Cond.initialized y.cls).before args s = true ∧ (y.cls ≠ "java/lang/invoke/MethodHandle" ∧ y.cls ≠ "java/lang/invoke/VarHandle") ∧
  (∀ sig, parseMethodDescriptor y.desc = some sig → n = sig.parameters.length) ∧ (Cond.methodLink own index y).before args s = true ∧ (Cond.instanceMethod y).before args s = true ∧ (Cond.selects C y y).before args s = true
theorem vx_cwVW {own C : String} {index maxL mc ms : Nat} {y : MethodName} {bytes : ByteArray} {ret : Option FieldType} {hh : List (Nat × Nat × Nat × Nat)} {Ts ws ws' : List Cond} {rm : Room} (n : Nat) (ht : ∀ w ∈ Ts, w.before args s = true) (hT : GoodIn Ts (wsV own index C y ws)) (hw : ws = Cond.codeWith y bytes maxL ret hh :: ws') (hrc : rm.cells = mc) (hrs : rm.slots = ms)
    (hd : y.cls = C ∧ y.cls ≠ "java/lang/invoke/MethodHandle" ∧ y.cls ≠ "java/lang/invoke/VarHandle" ∧ (parseMethodDescriptor y.desc).map (fun d => d.parameters.length) = some n) (hR : rm.frames + 1 ≤ R.frames ∧ 8 + (maxL + 11) + rm.locals ≤ R.locals) :
    vx_CVW R s args own C index y bytes maxL ret hh ws rm mc ms n := by
  obtain ⟨hC, hd⟩ := hd
  subst hC
  have ok : ∀ w ∈ wsV own index y.cls y ws, w.before args s = true := fun w h => ht w (hT w h).1
  have hG : GoodIn Ts ws := fun w h => hT w (by unfold wsV; exact List.mem_append_right _ h)
  have hc : Cond.codeWith y bytes maxL ret hh ∈ ws := by rw [hw]; exact List.mem_cons_self
  refine ⟨⟨hrc, hrs, hR.1, hR.2, pay_in ht hG, hc⟩, ht _ (hG _ hc).1, ok _ (by simp [wsV]), ⟨hd.1, hd.2.1⟩, fun sig h => ?_, ok _ (by simp [wsV]), ok _ (by simp [wsV]), ok _ (by simp [wsV])⟩
  have h2 := hd.2.2
  rw [h] at h2
  exact (Option.some.inj h2).symm
theorem vx_runVW {y : MethodName} {bytes cc : ByteArray} {maxL nL mc ms n index : Nat} {ret : Option FieldType} {hh : List (Nat × Nat × Nat × Nat)} {ws : List Cond} {rm : Room} {Pc : Array Value → State → Prop} {Qc : Array Value → State → Outcome → State → Prop} {free : Addr → Prop} {Ts : List Cond} {own C : String} {b : Addr} {As rest : List Value} {g : JFrame}
    (S : CallFix p m c cc nL s args Ts own) (hM : Met l y ws rm Pc Qc mc ms free) (cw : vx_CVW R s args own C index y bytes maxL ret hh ws rm mc ms n) (hp : PreV s H C b Pc As)
    (hg : g.method = m) (hn : As.length = n) (hsize : g.locals.size = nL) (hstack : g.stack = As.reverse ++ .ref b :: rest) (hW : 2 * g.monitorRoom + (rest.map fun v => v.category).sum ≤ 8) (hdg : decode cc g.pc = .ok (.invokevirtual index, 3)) (hf : cells + mc ≤ R.cells ∧ slots + ms ≤ R.slots) :
    va_Run p l e R s m args below meth c H locs cells slots mc ms g rest (Qc (Value.ref b :: As).toArray) free := by
  obtain ⟨⟨hrc, hrs, hfr, hlo, hws, hcw⟩, hcode, hini, hy, hlen, hl, hin, hse⟩ := cw
  have hK : Back l R p e below s args y 3 8 (PreOf R mc ms Pc) (PostOf Qc mc ms free) := va_backW (hh := hh) (bytes := bytes) (maxL := maxL) (ret := ret) hM hp.1 hrc hrs hfr hlo hws hcw (fun a' U hW => word_at hW (Or.inl (by first | rfl | simp [Cond.onTables, Cond.keeps, Cond.steady])) hini)
  obtain ⟨hx, hb, hml, ho, -⟩ := S
  obtain ⟨-, ⟨cellB, hcB, hoB, hclB⟩, hPc⟩ := hp
  intro T hT X
  obtain ⟨v, vm₁, ⟨U', l2, c2, s2⟩, hW₁, X', ⟨g', mk, t, L, e1, e2, hq, h1, hL, h2, h3⟩, st⟩ := vx_callVW X hx (C := C) (hh := hh) (bytes := bytes) (maxL := maxL) (ret := ret) ho hl hin hse hcode hy hK (by rw [hT]; exact hcB) hoB hclB hg (hsize.trans hml.symm) (argsL := As) (rest := rest) (fun sig h => hn.trans (hlen sig h)) hstack hW (by rw [hb]; exact hdg)
    (fun vm₁ hW₁ => ⟨hf.1, hf.2, hPc (T.setVm vm₁) hT hW₁⟩)
  dsimp only [Pt.U, Pt.locs, Pt.cells, Pt.slots] at X' e1 e2 h1 h2 h3 st
  subst h1; subst h2; subst h3
  exact ⟨v, (T.setVm vm₁).calling g' mk (Value.ref b :: As).toArray, t, U', L, hT, X', hL, e1, e2, hq, st⟩
section
variable {y : MethodName} {bytes cc : ByteArray} {maxL nL mc ms n index : Nat} {ret : Option FieldType} {ws : List Cond} {rm : Room} {Pc : Array Value → State → Prop} {Qc : Array Value → State → Outcome → State → Prop} {XC : String → State → State → Prop} {free : Addr → Prop} {Ts : List Cond} {own C : String} {b : Addr} {As rest : List Value} {g : JFrame}
theorem vx_runVX {hh : List (Nat × Nat × Nat × Nat)} (S : CallFix p m c cc nL s args Ts own) (hM : vx_Met l y ws rm Pc Qc XC mc ms free) (cw : vx_CVW R s args own C index y bytes maxL ret hh ws rm mc ms n) (hp : PreV s H C b Pc As)
    (hg : g.method = m) (hn : As.length = n) (hsize : g.locals.size = nL) (hstack : g.stack = As.reverse ++ .ref b :: rest) (hW : 2 * g.monitorRoom + (rest.map fun v => v.category).sum ≤ 8) (hdg : decode cc g.pc = .ok (.invokevirtual index, 3)) (hf : cells + mc ≤ R.cells ∧ slots + ms ≤ R.slots) :
    vx_Run p l e R s m args below meth c H locs cells slots mc ms g rest (Qc (Value.ref b :: As).toArray) XC free := by
  obtain ⟨⟨hrc, hrs, hfr, hlo, hws, hcw⟩, hcode, hini, hy, hlen, hl, hin, hse⟩ := cw
  have hK : vx_Back l R p e below s args y 3 8 (PreOf R mc ms Pc) (PostOf Qc mc ms free) (vx_Post XC mc ms free) := vx_backW (hh := hh) (bytes := bytes) (maxL := maxL) (ret := ret) hM hp.1 hrc hrs hfr hlo hws hcw (fun a' U hW => word_at hW (Or.inl (by first | rfl | simp [Cond.onTables, Cond.keeps, Cond.steady])) hini)
  obtain ⟨hx, hb, hml, ho, -⟩ := S
  obtain ⟨-, ⟨cellB, hcB, hoB, hclB⟩, hPc⟩ := hp
  intro T hT X
  rcases vx_callVX X hx (C := C) (hh := hh) (bytes := bytes) (maxL := maxL) (ret := ret) ho hl hin hse hcode hy hK (by rw [hT]; exact hcB) hoB hclB hg (hsize.trans hml.symm) (argsL := As) (rest := rest) (fun sig h => hn.trans (hlen sig h)) hstack hW (by rw [hb]; exact hdg)
    (fun vm₁ hW₁ => ⟨hf.1, hf.2, hPc (T.setVm vm₁) hT hW₁⟩) with ⟨v, vm₁, ⟨U', l2, c2, s2⟩, hW₁, X', ⟨g', mk, t, L, e1, e2, hq, h1, hL, h2, h3⟩, st⟩ | ⟨q, vm₁, ⟨U', l2, c2, s2⟩, hW₁, X', ⟨g', mk, t, L, E, ce, e1, e2, hq, hce, hcv, hcl, h1, hL, h2, h3⟩, st⟩
  · dsimp only [Pt.U, Pt.locs, Pt.cells, Pt.slots] at X' e1 e2 h1 h2 h3 st
    subst h1; subst h2; subst h3
    exact Or.inl ⟨v, (T.setVm vm₁).calling g' mk (Value.ref b :: As).toArray, t, U', L, hT, X', hL, e1, e2, hq, st⟩
  · dsimp only [Pt.U, Pt.locs, Pt.cells, Pt.slots] at X' e1 e2 h1 h2 h3 st hcl
    subst h1; subst h2; subst h3
    exact Or.inr ⟨q, (T.setVm vm₁).calling g' mk (Value.ref b :: As).toArray, t, U', L, E, ce, hT, X', hL, e1, e2, hq, hce, hcv, vx_cls hW₁ hcl, st⟩
theorem vx_runSX {hh : List (Nat × Nat × Nat × Nat)} (S : CallFix p m c cc nL s args Ts own) (hM : vx_Met l y ws rm Pc Qc XC mc ms free) (cw : vx_CSW R s args own index y bytes maxL ret hh ws rm mc ms n) (hp : PreS s H Pc As)
    (hg : g.method = m) (hn : As.length = n) (hsize : g.locals.size = nL) (hstack : g.stack = As.reverse ++ rest) (hW : 2 * g.monitorRoom + (rest.map fun v => v.category).sum ≤ 8) (hdg : decode cc g.pc = .ok (.invokestatic index, 3)) (hf : cells + mc ≤ R.cells ∧ slots + ms ≤ R.slots) :
    vx_Run p l e R s m args below meth c H locs cells slots mc ms g rest (Qc As.toArray) XC free := by
  obtain ⟨⟨hrc, hrs, hfr, hlo, hws, hcw⟩, hcode, hini, hy, hlen, hl, hstt⟩ := cw
  have hK : vx_Back l R p e below s args y 3 8 (PreOf R mc ms Pc) (PostOf Qc mc ms free) (vx_Post XC mc ms free) := vx_backW (hh := hh) (bytes := bytes) (maxL := maxL) (ret := ret) hM hp.1 hrc hrs hfr hlo hws hcw (fun a' U hW => word_at hW (Or.inl (by first | rfl | simp [Cond.onTables, Cond.keeps, Cond.steady])) hini)
  obtain ⟨hx, hb, hml, ho, -⟩ := S
  intro T hT X
  rcases vx_callSX X hx (hh := hh) (bytes := bytes) (maxL := maxL) (ret := ret) ho hl hstt hini hcode hy hK hg (hsize.trans hml.symm) (argsL := As) (rest := rest) (fun sig h => hn.trans (hlen sig h)) hstack hW (by rw [hb]; exact hdg)
    (fun vm₁ hW₁ => ⟨hf.1, hf.2, hp.2 (T.setVm vm₁) hT hW₁⟩) with ⟨v, vm₁, ⟨U', l2, c2, s2⟩, hW₁, X', ⟨g', mk, t, L, e1, e2, hq, h1, hL, h2, h3⟩, st⟩ | ⟨q, vm₁, ⟨U', l2, c2, s2⟩, hW₁, X', ⟨g', mk, t, L, E, ce, e1, e2, hq, hce, hcv, hcl, h1, hL, h2, h3⟩, st⟩
  · dsimp only [Pt.U, Pt.locs, Pt.cells, Pt.slots] at X' e1 e2 h1 h2 h3 st
    subst h1; subst h2; subst h3
    exact Or.inl ⟨v, (T.setVm vm₁).calling g' mk As.toArray, t, U', L, hT, X', hL, e1, e2, hq, st⟩
  · dsimp only [Pt.U, Pt.locs, Pt.cells, Pt.slots] at X' e1 e2 h1 h2 h3 st hcl
    subst h1; subst h2; subst h3
    exact Or.inr ⟨q, (T.setVm vm₁).calling g' mk As.toArray, t, U', L, E, ce, hT, X', hL, e1, e2, hq, hce, hcv, vx_cls hW₁ hcl, st⟩
end
end VXH
theorem vx_ofWH {l : Launch} {y : MethodName} {ws ws' : List Cond} {rm : Room} {Pc : Array Value → State → Prop} {Qc : Array Value → State → Outcome → State → Prop} {XC : String → State → State → Prop} {mc ms : Nat} {free : Addr → Prop} {cc : ByteArray} {maxL : Nat} {ret : Option FieldType} {hh : List (Nat × Nat × Nat × Nat)}
    (hy : plainName y.cls = true) (hw : ws = Cond.codeWith y cc maxL ret hh :: ws')
    (body : ∀ p e s m args below meth c s₁, BodyLoose p l y (headSpec ws rm) cc maxL ret e s m args below meth c s₁ → c.maxLocals = maxL → Pc args s →
      W p l e (headSpec ws rm).room s m args below meth c s.heap [] 0 0 (vx_MQ below Qc XC args s mc ms free) (entryFrame m args maxL)) : vx_Met l y ws rm Pc Qc XC mc ms free := by
  refine MetFree.of_bodyS (code := cc) (maxLocals := maxL) (ret := ret) hy ?_ ?_
  · intro args s m h hn
    obtain ⟨m9, meth, c, hn9, h1, h2, h3, h4, -, h5, h6, -⟩ := Cond.codeWith_spec (atoms_spec (ws := ws) h _ (by rw [hw]; exact List.mem_cons_self))
    cases hn.symm.trans hn9
    exact ⟨meth, c, h1, h2, h3, h4, h5, h6⟩
  · intro p e s m args below meth c s₁ B hml hP _
    have hh0 : s₁.heap = s.heap := by rw [B.state]; rfl
    obtain ⟨t, a1, o, b1, b2, b3⟩ := body p e s m args below meth c s₁ B hml hP s₁ hh0 (Stand.of_body B)
    exact ⟨t, o, a1, b1, b2, b3⟩
/-! ===== END ===== -/
end
section
def RX0 : String := "MapCarrier$Carrier"
def TX0 : u_T := fun k => match k with
  | 0 => ("MapCarrier$Carrier", "land", "LMapCarrier$Land;", true)
  | 1 => ("MapCarrier$Carrier", "memory", "LMapCarrier$Memory;", true)
  | 2 => ("MapCarrier$Carrier", "at", "I", false)
  | 3 => ("MapCarrier$Carrier", "coins", "I", false)
  | 4 => ("MapCarrier$Carrier", "goal", "I", false)
  | 5 => ("MapCarrier$Carrier", "way", "[I", true)
  | 6 => ("MapCarrier$Carrier", "wayLength", "I", false)
  | 7 => ("MapCarrier$Carrier", "tried", "[Z", true)
  | 8 => ("MapCarrier$Carrier", "askedAt", "[Z", true)
  | 9 => ("MapCarrier$Carrier", "guest", "I", false)
  | 10 => ("MapCarrier$Carrier", "walked", "I", false)
  | 11 => ("MapCarrier$Carrier", "doubled", "I", false)
  | 12 => ("MapCarrier$Carrier", "done", "I", false)
  | 13 => ("MapCarrier$Carrier", "inVain", "I", false)
  | _ => ("MapCarrier$Carrier", "questions", "I", false)
def tyX0 : Nat → FieldType := fun k => match k with
  | 0 => .object "MapCarrier$Land"
  | 1 => .object "MapCarrier$Memory"
  | 2 => .int
  | 3 => .int
  | 4 => .int
  | 5 => .array .int
  | 6 => .int
  | 7 => .array .boolean
  | 8 => .array .boolean
  | 9 => .int
  | 10 => .int
  | 11 => .int
  | 12 => .int
  | 13 => .int
  | _ => .int
abbrev wsX00 : List Cond := u_ws RX0 TX0 15
theorem nmX0 : ∀ a, a < 15 → ∀ b, b < 15 → a ≠ b → (TX0 a).2.1 ≠ (TX0 b).2.1 := by decide +kernel
theorem tyX0_ok : ∀ k, k < 15 → parseFieldDescriptor (TX0 k).2.2.1 = some (tyX0 k) := by decide +kernel
abbrev cX0_init : ByteArray := prog_2_method_1_code
def yX0_init : MethodName := ⟨RX0, "<init>", "(LMapCarrier$Land;)V"⟩
abbrev cX0_startLike : ByteArray := prog_2_method_2_code
def yX0_startLike : MethodName := ⟨RX0, "startLike", "(LMapCarrier$Carrier;I)V"⟩
abbrev cX0_isUnderway : ByteArray := prog_2_method_3_code
def yX0_isUnderway : MethodName := ⟨RX0, "isUnderway", "()Z"⟩
abbrev cX0_hasTried : ByteArray := prog_2_method_4_code
def yX0_hasTried : MethodName := ⟨RX0, "hasTried", "(I)Z"⟩
abbrev cX0_begin : ByteArray := prog_2_method_5_code
def yX0_begin : MethodName := ⟨RX0, "begin", "(I)V"⟩
abbrev cX0_endErrand : ByteArray := prog_2_method_6_code
def yX0_endErrand : MethodName := ⟨RX0, "endErrand", "()V"⟩
abbrev cX0_step : ByteArray := prog_2_method_7_code
def yX0_step : MethodName := ⟨RX0, "step", "()Z"⟩
abbrev cX0_canTake : ByteArray := prog_2_method_8_code
def yX0_canTake : MethodName := ⟨RX0, "canTake", "(I)Z"⟩
abbrev cX0_rememberedEnd : ByteArray := prog_2_method_9_code
def yX0_rememberedEnd : MethodName := ⟨RX0, "rememberedEnd", "()I"⟩
abbrev cX0_askedEnd : ByteArray := prog_2_method_10_code
def yX0_askedEnd : MethodName := ⟨RX0, "askedEnd", "()I"⟩
abbrev cX0_firstUntried : ByteArray := prog_2_method_11_code
def yX0_firstUntried : MethodName := ⟨RX0, "firstUntried", "()I"⟩
abbrev cX0_take : ByteArray := prog_2_method_12_code
def yX0_take : MethodName := ⟨RX0, "take", "(I)V"⟩
abbrev cX0_doubleBack : ByteArray := prog_2_method_13_code
def yX0_doubleBack : MethodName := ⟨RX0, "doubleBack", "()V"⟩
abbrev cX0_rememberWay : ByteArray := prog_2_method_14_code
def yX0_rememberWay : MethodName := ⟨RX0, "rememberWay", "()V"⟩
abbrev cX0_findsByMemory : ByteArray := prog_2_method_15_code
def yX0_findsByMemory : MethodName := ⟨RX0, "findsByMemory", "(I)Z"⟩
abbrev cX0_forget : ByteArray := prog_2_method_16_code
def yX0_forget : MethodName := ⟨RX0, "forget", "([Z)V"⟩
def RX1 : String := "MapCarrier$Land"
def TX1 : u_T := fun k => match k with
  | 0 => ("MapCarrier$Land", "places", "I", false)
  | 1 => ("MapCarrier$Land", "exits", "[I", true)
  | 2 => ("MapCarrier$Land", "shepherds", "[Z", true)
  | 3 => ("MapCarrier$Land", "leads", "[I", true)
  | 4 => ("MapCarrier$Land", "twins", "[I", true)
  | 5 => ("MapCarrier$Land", "lengths", "[I", true)
  | 6 => ("MapCarrier$Land", "open", "[Z", true)
  | _ => ("MapCarrier$Land", "far", "[I", true)
def tyX1 : Nat → FieldType := fun k => match k with
  | 0 => .int
  | 1 => .array .int
  | 2 => .array .boolean
  | 3 => .array .int
  | 4 => .array .int
  | 5 => .array .int
  | 6 => .array .boolean
  | _ => .array .int
abbrev wsX10 : List Cond := u_ws RX1 TX1 8
theorem nmX1 : ∀ a, a < 8 → ∀ b, b < 8 → a ≠ b → (TX1 a).2.1 ≠ (TX1 b).2.1 := by decide +kernel
theorem tyX1_ok : ∀ k, k < 8 → parseFieldDescriptor (TX1 k).2.2.1 = some (tyX1 k) := by decide +kernel
abbrev cX1_init : ByteArray := prog_3_method_1_code
def yX1_init : MethodName := ⟨RX1, "<init>", "()V"⟩
abbrev cX1_isPlace : ByteArray := prog_3_method_2_code
def yX1_isPlace : MethodName := ⟨RX1, "isPlace", "(I)Z"⟩
abbrev cX1_isFull : ByteArray := prog_3_method_3_code
def yX1_isFull : MethodName := ⟨RX1, "isFull", "(I)Z"⟩
abbrev cX1_endAt : ByteArray := prog_3_method_4_code
def yX1_endAt : MethodName := ⟨RX1, "endAt", "(II)I"⟩
abbrev cX1_join : ByteArray := prog_3_method_5_code
def yX1_join : MethodName := ⟨RX1, "join", "(III)I"⟩
abbrev cX1_layEnd : ByteArray := prog_3_method_6_code
def yX1_layEnd : MethodName := ⟨RX1, "layEnd", "(III)V"⟩
abbrev cX1_turnEnd : ByteArray := prog_3_method_7_code
def yX1_turnEnd : MethodName := ⟨RX1, "turnEnd", "(I)Z"⟩
abbrev cX1_opensAt : ByteArray := prog_3_method_8_code
def yX1_opensAt : MethodName := ⟨RX1, "opensAt", "(I)Z"⟩
abbrev cX1_milesAt : ByteArray := prog_3_method_9_code
def yX1_milesAt : MethodName := ⟨RX1, "milesAt", "(I)I"⟩
abbrev cX1_twinOf : ByteArray := prog_3_method_10_code
def yX1_twinOf : MethodName := ⟨RX1, "twinOf", "(I)I"⟩
abbrev cX1_beyond : ByteArray := prog_3_method_11_code
def yX1_beyond : MethodName := ⟨RX1, "beyond", "(I)I"⟩
abbrev cX1_shortest : ByteArray := prog_3_method_12_code
def yX1_shortest : MethodName := ⟨RX1, "shortest", "(II)I"⟩
abbrev cX1_endTowards : ByteArray := prog_3_method_13_code
def yX1_endTowards : MethodName := ⟨RX1, "endTowards", "(II)I"⟩
abbrev cX1_measure : ByteArray := prog_3_method_14_code
def yX1_measure : MethodName := ⟨RX1, "measure", "(I)V"⟩
abbrev cX1_milesBy : ByteArray := prog_3_method_15_code
def yX1_milesBy : MethodName := ⟨RX1, "milesBy", "(I)I"⟩
def RX2 : String := "MapCarrier$Memory"
def TX2 : u_T := fun k => match k with
  | 0 => ("MapCarrier$Memory", "exits", "[I", true)
  | _ => ("MapCarrier$Memory", "strengths", "[I", true)
def tyX2 : Nat → FieldType := fun k => match k with
  | 0 => .array .int
  | _ => .array .int
abbrev wsX20 : List Cond := u_ws RX2 TX2 2
theorem nmX2 : ∀ a, a < 2 → ∀ b, b < 2 → a ≠ b → (TX2 a).2.1 ≠ (TX2 b).2.1 := by decide +kernel
theorem tyX2_ok : ∀ k, k < 2 → parseFieldDescriptor (TX2 k).2.2.1 = some (tyX2 k) := by decide +kernel
abbrev cX2_init : ByteArray := prog_4_method_1_code
def yX2_init : MethodName := ⟨RX2, "<init>", "()V"⟩
abbrev cX2_exitFor : ByteArray := prog_4_method_2_code
def yX2_exitFor : MethodName := ⟨RX2, "exitFor", "(II)I"⟩
abbrev cX2_strengthFor : ByteArray := prog_4_method_3_code
def yX2_strengthFor : MethodName := ⟨RX2, "strengthFor", "(II)I"⟩
abbrev cX2_learn : ByteArray := prog_4_method_4_code
def yX2_learn : MethodName := ⟨RX2, "learn", "(III)V"⟩
abbrev cX2_confirm : ByteArray := prog_4_method_5_code
def yX2_confirm : MethodName := ⟨RX2, "confirm", "(III)V"⟩
abbrev cX2_fade : ByteArray := prog_4_method_6_code
def yX2_fade : MethodName := ⟨RX2, "fade", "(I)I"⟩
abbrev cX2_copyFrom : ByteArray := prog_4_method_7_code
def yX2_copyFrom : MethodName := ⟨RX2, "copyFrom", "(LMapCarrier$Memory;)V"⟩
abbrev cX2_spotOf : ByteArray := prog_4_method_8_code
def yX2_spotOf : MethodName := ⟨RX2, "spotOf", "(II)I"⟩
def RX3 : String := "MapCarrier"
def TX3 : u_T := fun k => match k with
  | 0 => ("MapCarrier", "land", "LMapCarrier$Land;", true)
  | 1 => ("MapCarrier", "carrier", "LMapCarrier$Carrier;", true)
  | _ => ("MapCarrier", "trial", "LMapCarrier$Carrier;", true)
def tyX3 : Nat → FieldType := fun k => match k with
  | 0 => .object "MapCarrier$Land"
  | 1 => .object "MapCarrier$Carrier"
  | _ => .object "MapCarrier$Carrier"
abbrev wsX30 : List Cond := u_ws RX3 TX3 3
theorem nmX3 : ∀ a, a < 3 → ∀ b, b < 3 → a ≠ b → (TX3 a).2.1 ≠ (TX3 b).2.1 := by decide +kernel
theorem tyX3_ok : ∀ k, k < 3 → parseFieldDescriptor (TX3 k).2.2.1 = some (tyX3 k) := by decide +kernel
abbrev cX3_init : ByteArray := prog_1_method_1_code
def yX3_init : MethodName := ⟨RX3, "<init>", "()V"⟩
abbrev cX3_addPlace : ByteArray := prog_1_method_2_code
def yX3_addPlace : MethodName := ⟨RX3, "addPlace", "()I"⟩
abbrev cX3_addRoad : ByteArray := prog_1_method_3_code
def yX3_addRoad : MethodName := ⟨RX3, "addRoad", "(III)I"⟩
abbrev cX3_turnRoad : ByteArray := prog_1_method_4_code
def yX3_turnRoad : MethodName := ⟨RX3, "turnRoad", "(II)Z"⟩
abbrev cX3_turnShepherd : ByteArray := prog_1_method_5_code
def yX3_turnShepherd : MethodName := ⟨RX3, "turnShepherd", "(I)Z"⟩
abbrev cX3_pay : ByteArray := prog_1_method_6_code
def yX3_pay : MethodName := ⟨RX3, "pay", "(I)I"⟩
abbrev cX3_beginErrand : ByteArray := prog_1_method_7_code
def yX3_beginErrand : MethodName := ⟨RX3, "beginErrand", "(I)I"⟩
abbrev cX3_goOn : ByteArray := prog_1_method_8_code
def yX3_goOn : MethodName := ⟨RX3, "goOn", "(I)I"⟩
abbrev cX3_giveUp : ByteArray := prog_1_method_9_code
def yX3_giveUp : MethodName := ⟨RX3, "giveUp", "()I"⟩
abbrev cX3_sleep : ByteArray := prog_1_method_10_code
def yX3_sleep : MethodName := ⟨RX3, "sleep", "(I)I"⟩
abbrev cX3_places : ByteArray := prog_1_method_11_code
def yX3_places : MethodName := ⟨RX3, "places", "()I"⟩
abbrev cX3_exitsOf : ByteArray := prog_1_method_12_code
def yX3_exitsOf : MethodName := ⟨RX3, "exitsOf", "(I)I"⟩
abbrev cX3_leadsTo : ByteArray := prog_1_method_13_code
def yX3_leadsTo : MethodName := ⟨RX3, "leadsTo", "(II)I"⟩
abbrev cX3_milesOf : ByteArray := prog_1_method_14_code
def yX3_milesOf : MethodName := ⟨RX3, "milesOf", "(II)I"⟩
abbrev cX3_isOpen : ByteArray := prog_1_method_15_code
def yX3_isOpen : MethodName := ⟨RX3, "isOpen", "(II)Z"⟩
abbrev cX3_hasShepherd : ByteArray := prog_1_method_16_code
def yX3_hasShepherd : MethodName := ⟨RX3, "hasShepherd", "(I)Z"⟩
abbrev cX3_distance : ByteArray := prog_1_method_17_code
def yX3_distance : MethodName := ⟨RX3, "distance", "(II)I"⟩
abbrev cX3_whereIs : ByteArray := prog_1_method_18_code
def yX3_whereIs : MethodName := ⟨RX3, "whereIs", "()I"⟩
abbrev cX3_coins : ByteArray := prog_1_method_19_code
def yX3_coins : MethodName := ⟨RX3, "coins", "()I"⟩
abbrev cX3_goal : ByteArray := prog_1_method_20_code
def yX3_goal : MethodName := ⟨RX3, "goal", "()I"⟩
abbrev cX3_wayLength : ByteArray := prog_1_method_21_code
def yX3_wayLength : MethodName := ⟨RX3, "wayLength", "()I"⟩
abbrev cX3_isTried : ByteArray := prog_1_method_22_code
def yX3_isTried : MethodName := ⟨RX3, "isTried", "(II)Z"⟩
abbrev cX3_remembered : ByteArray := prog_1_method_23_code
def yX3_remembered : MethodName := ⟨RX3, "remembered", "(II)I"⟩
abbrev cX3_strength : ByteArray := prog_1_method_24_code
def yX3_strength : MethodName := ⟨RX3, "strength", "(II)I"⟩
abbrev cX3_knowsWay : ByteArray := prog_1_method_25_code
def yX3_knowsWay : MethodName := ⟨RX3, "knowsWay", "(I)Z"⟩
abbrev cX3_milesWalked : ByteArray := prog_1_method_26_code
def yX3_milesWalked : MethodName := ⟨RX3, "milesWalked", "()I"⟩
abbrev cX3_milesDoubled : ByteArray := prog_1_method_27_code
def yX3_milesDoubled : MethodName := ⟨RX3, "milesDoubled", "()I"⟩
abbrev cX3_errandsDone : ByteArray := prog_1_method_28_code
def yX3_errandsDone : MethodName := ⟨RX3, "errandsDone", "()I"⟩
abbrev cX3_errandsInVain : ByteArray := prog_1_method_29_code
def yX3_errandsInVain : MethodName := ⟨RX3, "errandsInVain", "()I"⟩
abbrev cX3_asked : ByteArray := prog_1_method_30_code
def yX3_asked : MethodName := ⟨RX3, "asked", "()I"⟩
abbrev cX3_wouldWalk : ByteArray := prog_1_method_31_code
def yX3_wouldWalk : MethodName := ⟨RX3, "wouldWalk", "(I)I"⟩
abbrev cX3_bestShepherd : ByteArray := prog_1_method_32_code
def yX3_bestShepherd : MethodName := ⟨RX3, "bestShepherd", "(I)I"⟩
abbrev cX3_meanMiles : ByteArray := prog_1_method_33_code
def yX3_meanMiles : MethodName := ⟨RX3, "meanMiles", "()D"⟩
abbrev cX3_digest : ByteArray := prog_1_method_34_code
def yX3_digest : MethodName := ⟨RX3, "digest", "()J"⟩
abbrev cX3_checkPlace : ByteArray := prog_1_method_35_code
def yX3_checkPlace : MethodName := ⟨RX3, "checkPlace", "(I)V"⟩
abbrev cX3_checkedEnd : ByteArray := prog_1_method_36_code
def yX3_checkedEnd : MethodName := ⟨RX3, "checkedEnd", "(II)I"⟩
abbrev cX3_checkRange : ByteArray := prog_1_method_37_code
def yX3_checkRange : MethodName := ⟨RX3, "checkRange", "(II)V"⟩
abbrev cX3_checkIdle : ByteArray := prog_1_method_38_code
def yX3_checkIdle : MethodName := ⟨RX3, "checkIdle", "()V"⟩
abbrev cX3_checkUnderway : ByteArray := prog_1_method_39_code
def yX3_checkUnderway : MethodName := ⟨RX3, "checkUnderway", "()V"⟩
abbrev cX3_trialMiles : ByteArray := prog_1_method_40_code
def yX3_trialMiles : MethodName := ⟨RX3, "trialMiles", "(II)I"⟩
abbrev cX3_mix : ByteArray := prog_1_method_41_code
def yX3_mix : MethodName := ⟨RX3, "mix", "(JJ)J"⟩
abbrev cX3_mixFlag : ByteArray := prog_1_method_42_code
def yX3_mixFlag : MethodName := ⟨RX3, "mixFlag", "(JZ)J"⟩
abbrev cX3_mixPlaces : ByteArray := prog_1_method_43_code
def yX3_mixPlaces : MethodName := ⟨RX3, "mixPlaces", "(J)J"⟩
abbrev cX3_mixMemory : ByteArray := prog_1_method_44_code
def yX3_mixMemory : MethodName := ⟨RX3, "mixMemory", "(J)J"⟩
abbrev cX3_isEnd : ByteArray := prog_1_method_45_code
def yX3_isEnd : MethodName := ⟨RX3, "isEnd", "(I)Z"⟩
abbrev cX3_placeOfEnd : ByteArray := prog_1_method_46_code
def yX3_placeOfEnd : MethodName := ⟨RX3, "placeOfEnd", "(I)I"⟩
abbrev cX3_exitOfEnd : ByteArray := prog_1_method_47_code
def yX3_exitOfEnd : MethodName := ⟨RX3, "exitOfEnd", "(I)I"⟩
def RX4 : String := "MapCarrierModel$State"
def TX4 : u_T := fun k => match k with
  | 0 => ("MapCarrierModel$State", "where", "I", false)
  | 1 => ("MapCarrierModel$State", "coins", "I", false)
  | 2 => ("MapCarrierModel$State", "goal", "I", false)
  | 3 => ("MapCarrierModel$State", "tried", "[Z", true)
  | 4 => ("MapCarrierModel$State", "askedAt", "[Z", true)
  | 5 => ("MapCarrierModel$State", "way", "[I", true)
  | 6 => ("MapCarrierModel$State", "length", "I", false)
  | 7 => ("MapCarrierModel$State", "exit", "[I", true)
  | 8 => ("MapCarrierModel$State", "strength", "[I", true)
  | 9 => ("MapCarrierModel$State", "walked", "I", false)
  | 10 => ("MapCarrierModel$State", "doubled", "I", false)
  | 11 => ("MapCarrierModel$State", "done", "I", false)
  | 12 => ("MapCarrierModel$State", "inVain", "I", false)
  | _ => ("MapCarrierModel$State", "asked", "I", false)
def tyX4 : Nat → FieldType := fun k => match k with
  | 0 => .int
  | 1 => .int
  | 2 => .int
  | 3 => .array .boolean
  | 4 => .array .boolean
  | 5 => .array .int
  | 6 => .int
  | 7 => .array .int
  | 8 => .array .int
  | 9 => .int
  | 10 => .int
  | 11 => .int
  | 12 => .int
  | _ => .int
abbrev wsX40 : List Cond := u_ws RX4 TX4 14
theorem nmX4 : ∀ a, a < 14 → ∀ b, b < 14 → a ≠ b → (TX4 a).2.1 ≠ (TX4 b).2.1 := by decide +kernel
theorem tyX4_ok : ∀ k, k < 14 → parseFieldDescriptor (TX4 k).2.2.1 = some (tyX4 k) := by decide +kernel
abbrev cX4_init : ByteArray := prog_7_method_1_code
def yX4_init : MethodName := ⟨RX4, "<init>", "()V"⟩
abbrev cX4_become : ByteArray := prog_7_method_2_code
def yX4_become : MethodName := ⟨RX4, "become", "(LMapCarrierModel$State;)V"⟩
abbrev cX4_begin : ByteArray := prog_7_method_3_code
def yX4_begin : MethodName := ⟨RX4, "begin", "(I)V"⟩
abbrev cX4_end : ByteArray := prog_7_method_4_code
def yX4_end : MethodName := ⟨RX4, "end", "()V"⟩
abbrev cX4_remembered : ByteArray := prog_7_method_5_code
def yX4_remembered : MethodName := ⟨RX4, "remembered", "(I)I"⟩
abbrev cX4_remember : ByteArray := prog_7_method_6_code
def yX4_remember : MethodName := ⟨RX4, "remember", "(III)V"⟩
def RX5 : String := "MapCarrierModel"
def TX5 : u_T := fun k => match k with
  | 0 => ("MapCarrierModel", "thrown", "I", false)
  | 1 => ("MapCarrierModel", "places", "I", false)
  | 2 => ("MapCarrierModel", "exits", "[I", true)
  | 3 => ("MapCarrierModel", "road", "[I", true)
  | 4 => ("MapCarrierModel", "to", "[I", true)
  | 5 => ("MapCarrierModel", "roads", "I", false)
  | 6 => ("MapCarrierModel", "miles", "[I", true)
  | 7 => ("MapCarrierModel", "isClosed", "[Z", true)
  | 8 => ("MapCarrierModel", "shepherd", "[Z", true)
  | 9 => ("MapCarrierModel", "far", "[I", true)
  | 10 => ("MapCarrierModel", "s", "LMapCarrierModel$State;", true)
  | _ => ("MapCarrierModel", "ahead", "LMapCarrierModel$State;", true)
def tyX5 : Nat → FieldType := fun k => match k with
  | 0 => .int
  | 1 => .int
  | 2 => .array .int
  | 3 => .array .int
  | 4 => .array .int
  | 5 => .int
  | 6 => .array .int
  | 7 => .array .boolean
  | 8 => .array .boolean
  | 9 => .array .int
  | 10 => .object "MapCarrierModel$State"
  | _ => .object "MapCarrierModel$State"
abbrev wsX50 : List Cond := u_ws RX5 TX5 12
theorem nmX5 : ∀ a, a < 12 → ∀ b, b < 12 → a ≠ b → (TX5 a).2.1 ≠ (TX5 b).2.1 := by decide +kernel
theorem tyX5_ok : ∀ k, k < 12 → parseFieldDescriptor (TX5 k).2.2.1 = some (tyX5 k) := by decide +kernel
abbrev cX5_init : ByteArray := prog_6_method_1_code
def yX5_init : MethodName := ⟨RX5, "<init>", "()V"⟩
abbrev cX5_thrown : ByteArray := prog_6_method_2_code
def yX5_thrown : MethodName := ⟨RX5, "thrown", "()I"⟩
abbrev cX5_no : ByteArray := prog_6_method_3_code
def yX5_no : MethodName := ⟨RX5, "no", "(I)I"⟩
abbrev cX5_isNot : ByteArray := prog_6_method_4_code
def yX5_isNot : MethodName := ⟨RX5, "isNot", "(I)Z"⟩
abbrev cX5_isIn : ByteArray := prog_6_method_5_code
def yX5_isIn : MethodName := ⟨RX5, "isIn", "(III)Z"⟩
abbrev cX5_isPlace : ByteArray := prog_6_method_6_code
def yX5_isPlace : MethodName := ⟨RX5, "isPlace", "(I)Z"⟩
abbrev cX5_isExit : ByteArray := prog_6_method_7_code
def yX5_isExit : MethodName := ⟨RX5, "isExit", "(II)Z"⟩
abbrev cX5_addPlace : ByteArray := prog_6_method_8_code
def yX5_addPlace : MethodName := ⟨RX5, "addPlace", "()I"⟩
abbrev cX5_addExit : ByteArray := prog_6_method_9_code
def yX5_addExit : MethodName := ⟨RX5, "addExit", "(II)V"⟩
abbrev cX5_addRoad : ByteArray := prog_6_method_10_code
def yX5_addRoad : MethodName := ⟨RX5, "addRoad", "(III)I"⟩
abbrev cX5_turnRoad : ByteArray := prog_6_method_11_code
def yX5_turnRoad : MethodName := ⟨RX5, "turnRoad", "(II)Z"⟩
abbrev cX5_turnShepherd : ByteArray := prog_6_method_12_code
def yX5_turnShepherd : MethodName := ⟨RX5, "turnShepherd", "(I)Z"⟩
abbrev cX5_measure : ByteArray := prog_6_method_13_code
def yX5_measure : MethodName := ⟨RX5, "measure", "(I)V"⟩
abbrev cX5_canTake : ByteArray := prog_6_method_14_code
def yX5_canTake : MethodName := ⟨RX5, "canTake", "(LMapCarrierModel$State;I)Z"⟩
abbrev cX5_take : ByteArray := prog_6_method_15_code
def yX5_take : MethodName := ⟨RX5, "take", "(LMapCarrierModel$State;I)V"⟩
abbrev cX5_toldExit : ByteArray := prog_6_method_16_code
def yX5_toldExit : MethodName := ⟨RX5, "toldExit", "(II)I"⟩
abbrev cX5_asks : ByteArray := prog_6_method_17_code
def yX5_asks : MethodName := ⟨RX5, "asks", "(LMapCarrierModel$State;)Z"⟩
abbrev cX5_triesNext : ByteArray := prog_6_method_18_code
def yX5_triesNext : MethodName := ⟨RX5, "triesNext", "(LMapCarrierModel$State;)Z"⟩
abbrev cX5_doublesBack : ByteArray := prog_6_method_19_code
def yX5_doublesBack : MethodName := ⟨RX5, "doublesBack", "(LMapCarrierModel$State;)Z"⟩
abbrev cX5_learn : ByteArray := prog_6_method_20_code
def yX5_learn : MethodName := ⟨RX5, "learn", "(LMapCarrierModel$State;)V"⟩
abbrev cX5_stepOn : ByteArray := prog_6_method_21_code
def yX5_stepOn : MethodName := ⟨RX5, "stepOn", "(LMapCarrierModel$State;)Z"⟩
abbrev cX5_stepsOn : ByteArray := prog_6_method_22_code
def yX5_stepsOn : MethodName := ⟨RX5, "stepsOn", "(LMapCarrierModel$State;I)I"⟩
abbrev cX5_pay : ByteArray := prog_6_method_23_code
def yX5_pay : MethodName := ⟨RX5, "pay", "(I)I"⟩
abbrev cX5_milesBetween : ByteArray := prog_6_method_24_code
def yX5_milesBetween : MethodName := ⟨RX5, "milesBetween", "(II)I"⟩
abbrev cX5_start : ByteArray := prog_6_method_25_code
def yX5_start : MethodName := ⟨RX5, "start", "(LMapCarrierModel$State;I)V"⟩
abbrev cX5_beginErrand : ByteArray := prog_6_method_26_code
def yX5_beginErrand : MethodName := ⟨RX5, "beginErrand", "(I)I"⟩
abbrev cX5_goOn : ByteArray := prog_6_method_27_code
def yX5_goOn : MethodName := ⟨RX5, "goOn", "(I)I"⟩
abbrev cX5_giveUp : ByteArray := prog_6_method_28_code
def yX5_giveUp : MethodName := ⟨RX5, "giveUp", "()I"⟩
abbrev cX5_night : ByteArray := prog_6_method_29_code
def yX5_night : MethodName := ⟨RX5, "night", "()I"⟩
abbrev cX5_sleep : ByteArray := prog_6_method_30_code
def yX5_sleep : MethodName := ⟨RX5, "sleep", "(I)I"⟩
abbrev cX5_ok : ByteArray := prog_6_method_31_code
def yX5_ok : MethodName := ⟨RX5, "ok", "(I)I"⟩
abbrev cX5_places : ByteArray := prog_6_method_32_code
def yX5_places : MethodName := ⟨RX5, "places", "()I"⟩
abbrev cX5_exitsOf : ByteArray := prog_6_method_33_code
def yX5_exitsOf : MethodName := ⟨RX5, "exitsOf", "(I)I"⟩
abbrev cX5_leadsTo : ByteArray := prog_6_method_34_code
def yX5_leadsTo : MethodName := ⟨RX5, "leadsTo", "(II)I"⟩
abbrev cX5_milesOf : ByteArray := prog_6_method_35_code
def yX5_milesOf : MethodName := ⟨RX5, "milesOf", "(II)I"⟩
abbrev cX5_isOpen : ByteArray := prog_6_method_36_code
def yX5_isOpen : MethodName := ⟨RX5, "isOpen", "(II)Z"⟩
abbrev cX5_hasShepherd : ByteArray := prog_6_method_37_code
def yX5_hasShepherd : MethodName := ⟨RX5, "hasShepherd", "(I)Z"⟩
abbrev cX5_distance : ByteArray := prog_6_method_38_code
def yX5_distance : MethodName := ⟨RX5, "distance", "(II)I"⟩
abbrev cX5_whereIs : ByteArray := prog_6_method_39_code
def yX5_whereIs : MethodName := ⟨RX5, "whereIs", "()I"⟩
abbrev cX5_coins : ByteArray := prog_6_method_40_code
def yX5_coins : MethodName := ⟨RX5, "coins", "()I"⟩
abbrev cX5_goal : ByteArray := prog_6_method_41_code
def yX5_goal : MethodName := ⟨RX5, "goal", "()I"⟩
abbrev cX5_wayLength : ByteArray := prog_6_method_42_code
def yX5_wayLength : MethodName := ⟨RX5, "wayLength", "()I"⟩
abbrev cX5_isTried : ByteArray := prog_6_method_43_code
def yX5_isTried : MethodName := ⟨RX5, "isTried", "(II)Z"⟩
abbrev cX5_remembered : ByteArray := prog_6_method_44_code
def yX5_remembered : MethodName := ⟨RX5, "remembered", "(II)I"⟩
abbrev cX5_strengthOf : ByteArray := prog_6_method_45_code
def yX5_strengthOf : MethodName := ⟨RX5, "strengthOf", "(I)I"⟩
abbrev cX5_strength : ByteArray := prog_6_method_46_code
def yX5_strength : MethodName := ⟨RX5, "strength", "(II)I"⟩
abbrev cX5_knows : ByteArray := prog_6_method_47_code
def yX5_knows : MethodName := ⟨RX5, "knows", "(I)Z"⟩
abbrev cX5_knowsWay : ByteArray := prog_6_method_48_code
def yX5_knowsWay : MethodName := ⟨RX5, "knowsWay", "(I)Z"⟩
abbrev cX5_milesWalked : ByteArray := prog_6_method_49_code
def yX5_milesWalked : MethodName := ⟨RX5, "milesWalked", "()I"⟩
abbrev cX5_milesDoubled : ByteArray := prog_6_method_50_code
def yX5_milesDoubled : MethodName := ⟨RX5, "milesDoubled", "()I"⟩
abbrev cX5_errandsDone : ByteArray := prog_6_method_51_code
def yX5_errandsDone : MethodName := ⟨RX5, "errandsDone", "()I"⟩
abbrev cX5_errandsInVain : ByteArray := prog_6_method_52_code
def yX5_errandsInVain : MethodName := ⟨RX5, "errandsInVain", "()I"⟩
abbrev cX5_asked : ByteArray := prog_6_method_53_code
def yX5_asked : MethodName := ⟨RX5, "asked", "()I"⟩
abbrev cX5_walkTo : ByteArray := prog_6_method_54_code
def yX5_walkTo : MethodName := ⟨RX5, "walkTo", "(I)I"⟩
abbrev cX5_wouldWalk : ByteArray := prog_6_method_55_code
def yX5_wouldWalk : MethodName := ⟨RX5, "wouldWalk", "(I)I"⟩
abbrev cX5_helper : ByteArray := prog_6_method_56_code
def yX5_helper : MethodName := ⟨RX5, "helper", "(I)I"⟩
abbrev cX5_bestShepherd : ByteArray := prog_6_method_57_code
def yX5_bestShepherd : MethodName := ⟨RX5, "bestShepherd", "(I)I"⟩
abbrev cX5_meanMiles : ByteArray := prog_6_method_58_code
def yX5_meanMiles : MethodName := ⟨RX5, "meanMiles", "()D"⟩
abbrev cX5_one : ByteArray := prog_6_method_59_code
def yX5_one : MethodName := ⟨RX5, "one", "(Z)I"⟩
abbrev cX5_digest : ByteArray := prog_6_method_60_code
def yX5_digest : MethodName := ⟨RX5, "digest", "()J"⟩
def RJx145de : String := "java/io/Serializable"
def TJx145de : u_T := fun k => match k with
  | _ => ("", "", "", false)
def tyJx145de : Nat → FieldType := fun k => match k with
  | _ => .int
abbrev wsJx145de0 : List Cond := u_ws RJx145de TJx145de 0
theorem nmJx145de : ∀ a, a < 0 → ∀ b, b < 0 → a ≠ b → (TJx145de a).2.1 ≠ (TJx145de b).2.1 := by decide +kernel
theorem tyJx145de_ok : ∀ k, k < 0 → parseFieldDescriptor (TJx145de k).2.2.1 = some (tyJx145de k) := by decide +kernel
def RJ9 : String := "java/lang/Math"
def TJ9 : u_T := fun k => match k with
  | _ => ("", "", "", false)
def tyJ9 : Nat → FieldType := fun k => match k with
  | _ => .int
abbrev wsJ90 : List Cond := u_ws RJ9 TJ9 0
theorem nmJ9 : ∀ a, a < 0 → ∀ b, b < 0 → a ≠ b → (TJ9 a).2.1 ≠ (TJ9 b).2.1 := by decide +kernel
theorem tyJ9_ok : ∀ k, k < 0 → parseFieldDescriptor (TJ9 k).2.2.1 = some (tyJ9 k) := by decide +kernel
abbrev cJ9_max_7cf53 : ByteArray := prog_12_method_65_code
def yJ9_max_7cf53 : MethodName := ⟨RJ9, "max", "(II)I"⟩
abbrev cJ9_min_7cf53 : ByteArray := prog_12_method_69_code
def yJ9_min_7cf53 : MethodName := ⟨RJ9, "min", "(II)I"⟩
def RJ0 : String := "java/lang/String"
def TJ0 : u_T := fun k => match k with
  | _ => ("", "", "", false)
def tyJ0 : Nat → FieldType := fun k => match k with
  | _ => .int
abbrev wsJ00 : List Cond := u_ws RJ0 TJ0 0
theorem nmJ0 : ∀ a, a < 0 → ∀ b, b < 0 → a ≠ b → (TJ0 a).2.1 ≠ (TJ0 b).2.1 := by decide +kernel
theorem tyJ0_ok : ∀ k, k < 0 → parseFieldDescriptor (TJ0 k).2.2.1 = some (tyJ0 k) := by decide +kernel
def RJ10 : String := "java/lang/System"
def TJ10 : u_T := fun k => match k with
  | _ => ("", "", "", false)
def tyJ10 : Nat → FieldType := fun k => match k with
  | _ => .int
abbrev wsJ100 : List Cond := u_ws RJ10 TJ10 0
theorem nmJ10 : ∀ a, a < 0 → ∀ b, b < 0 → a ≠ b → (TJ10 a).2.1 ≠ (TJ10 b).2.1 := by decide +kernel
theorem tyJ10_ok : ∀ k, k < 0 → parseFieldDescriptor (TJ10 k).2.2.1 = some (tyJ10 k) := by decide +kernel
def RJ7 : String := "java/util/Arrays"
def TJ7 : u_T := fun k => match k with
  | _ => ("", "", "", false)
def tyJ7 : Nat → FieldType := fun k => match k with
  | _ => .int
abbrev wsJ70 : List Cond := u_ws RJ7 TJ7 0
theorem nmJ7 : ∀ a, a < 0 → ∀ b, b < 0 → a ≠ b → (TJ7 a).2.1 ≠ (TJ7 b).2.1 := by decide +kernel
theorem tyJ7_ok : ∀ k, k < 0 → parseFieldDescriptor (TJ7 k).2.2.1 = some (tyJ7 k) := by decide +kernel
abbrev cJ7_fill_53178 : ByteArray := prog_17_method_103_code
def yJ7_fill_53178 : MethodName := ⟨RJ7, "fill", "([II)V"⟩
def RL : String := "MapCarrierLaw"
abbrev cL_addPlace : ByteArray := method_3_code
def yL_addPlace : MethodName := ⟨RL, "addPlace", "(LMapCarrier;[J)I"⟩
abbrev cL_addRoad : ByteArray := method_4_code
def yL_addRoad : MethodName := ⟨RL, "addRoad", "(LMapCarrier;III[J)I"⟩
abbrev cL_turnRoad : ByteArray := method_5_code
def yL_turnRoad : MethodName := ⟨RL, "turnRoad", "(LMapCarrier;II[J)I"⟩
abbrev cL_turnShepherd : ByteArray := method_6_code
def yL_turnShepherd : MethodName := ⟨RL, "turnShepherd", "(LMapCarrier;I[J)I"⟩
abbrev cL_pay : ByteArray := method_7_code
def yL_pay : MethodName := ⟨RL, "pay", "(LMapCarrier;I[J)I"⟩
abbrev cL_beginErrand : ByteArray := method_8_code
def yL_beginErrand : MethodName := ⟨RL, "beginErrand", "(LMapCarrier;I[J)I"⟩
abbrev cL_goOn : ByteArray := method_9_code
def yL_goOn : MethodName := ⟨RL, "goOn", "(LMapCarrier;I[J)I"⟩
abbrev cL_giveUp : ByteArray := method_10_code
def yL_giveUp : MethodName := ⟨RL, "giveUp", "(LMapCarrier;[J)I"⟩
abbrev cL_sleep : ByteArray := method_11_code
def yL_sleep : MethodName := ⟨RL, "sleep", "(LMapCarrier;I[J)I"⟩
abbrev cL_exitsOf : ByteArray := method_12_code
def yL_exitsOf : MethodName := ⟨RL, "exitsOf", "(LMapCarrier;I[J)I"⟩
abbrev cL_leadsTo : ByteArray := method_13_code
def yL_leadsTo : MethodName := ⟨RL, "leadsTo", "(LMapCarrier;II[J)I"⟩
abbrev cL_milesOf : ByteArray := method_14_code
def yL_milesOf : MethodName := ⟨RL, "milesOf", "(LMapCarrier;II[J)I"⟩
abbrev cL_isOpen : ByteArray := method_15_code
def yL_isOpen : MethodName := ⟨RL, "isOpen", "(LMapCarrier;II[J)I"⟩
abbrev cL_hasShepherd : ByteArray := method_16_code
def yL_hasShepherd : MethodName := ⟨RL, "hasShepherd", "(LMapCarrier;I[J)I"⟩
abbrev cL_distance : ByteArray := method_17_code
def yL_distance : MethodName := ⟨RL, "distance", "(LMapCarrier;II[J)I"⟩
abbrev cL_isTried : ByteArray := method_18_code
def yL_isTried : MethodName := ⟨RL, "isTried", "(LMapCarrier;II[J)I"⟩
abbrev cL_remembered : ByteArray := method_19_code
def yL_remembered : MethodName := ⟨RL, "remembered", "(LMapCarrier;II[J)I"⟩
abbrev cL_strength : ByteArray := method_20_code
def yL_strength : MethodName := ⟨RL, "strength", "(LMapCarrier;II[J)I"⟩
abbrev cL_knowsWay : ByteArray := method_21_code
def yL_knowsWay : MethodName := ⟨RL, "knowsWay", "(LMapCarrier;I[J)I"⟩
abbrev cL_wouldWalk : ByteArray := method_22_code
def yL_wouldWalk : MethodName := ⟨RL, "wouldWalk", "(LMapCarrier;I[J)I"⟩
abbrev cL_bestShepherd : ByteArray := method_23_code
def yL_bestShepherd : MethodName := ⟨RL, "bestShepherd", "(LMapCarrier;I[J)I"⟩
abbrev cL_law : ByteArray := code
def yL_law : MethodName := ⟨RL, "law", "([I)Z"⟩
def wsX2_init : List Cond := .code yX2_init cX2_init 1 none :: ([.methodLink RX2 3 objectInit, .instanceMethod objectInit, .code objectInit ⟨#[0xb1]⟩ 1 none, .arrayClass .int, .fieldLink RX2 9 "MapCarrier$Memory" "exits" "[I", .fieldLink RX2 15 "MapCarrier$Memory" "strengths" "[I"] ++ wsX20)
def wsX0_init : List Cond := .code yX0_init cX0_init 2 none :: ([.methodLink RX0 3 objectInit, .instanceMethod objectInit, .code objectInit ⟨#[0xb1]⟩ 1 none, .classLink RX0 9 RX2, .instantiable RX2 2, .initialized RX2, .fieldLink RX0 12 "MapCarrier$Carrier" "memory" "LMapCarrier$Memory;", .fieldLink RX0 18 "MapCarrier$Carrier" "goal" "I", .arrayClass .int, .fieldLink RX0 22 "MapCarrier$Carrier" "way" "[I", .arrayClass .boolean, .fieldLink RX0 26 "MapCarrier$Carrier" "tried" "[Z", .fieldLink RX0 30 "MapCarrier$Carrier" "askedAt" "[Z", .fieldLink RX0 33 "MapCarrier$Carrier" "guest" "I", .fieldLink RX0 36 "MapCarrier$Carrier" "land" "LMapCarrier$Land;", .instanceMethod yX2_init, .code yX2_init cX2_init 1 none, .methodLink RX2 3 objectInit, .fieldLink RX2 9 "MapCarrier$Memory" "exits" "[I", .fieldLink RX2 15 "MapCarrier$Memory" "strengths" "[I"] ++ wsX20 ++ wsX00)
def wsX2_copyFrom : List Cond := .code yX2_copyFrom cX2_copyFrom 2 none :: ([.fieldLink RX2 9 "MapCarrier$Memory" "exits" "[I", .methodLink RX2 34 arraycopyName, .native arraycopyName, .static arraycopyName, .initialized "java/lang/System", .fieldLink RX2 15 "MapCarrier$Memory" "strengths" "[I"] ++ wsX20)
def wsX0_startLike : List Cond := .code yX0_startLike cX0_startLike 3 none :: ([.fieldLink RX0 40 "MapCarrier$Carrier" "at" "I", .fieldLink RX0 43 "MapCarrier$Carrier" "coins" "I", .fieldLink RX0 12 "MapCarrier$Carrier" "memory" "LMapCarrier$Memory;", .fieldLink RX0 33 "MapCarrier$Carrier" "guest" "I", .fieldLink RX0 50 "MapCarrier$Carrier" "walked" "I", .fieldLink RX0 53 "MapCarrier$Carrier" "inVain" "I", .methodLink RX0 46 yX2_copyFrom, .instanceMethod yX2_copyFrom, .selects RX2 yX2_copyFrom yX2_copyFrom, .initialized RX2, .code yX2_copyFrom cX2_copyFrom 2 none, .fieldLink RX2 9 "MapCarrier$Memory" "exits" "[I", .methodLink RX2 34 arraycopyName, .native arraycopyName, .static arraycopyName, .initialized "java/lang/System", .fieldLink RX2 15 "MapCarrier$Memory" "strengths" "[I"] ++ wsX00 ++ wsX20)
def wsX0_isUnderway : List Cond := .code yX0_isUnderway cX0_isUnderway 1 (some .boolean) :: ([.fieldLink RX0 18 "MapCarrier$Carrier" "goal" "I"] ++ wsX00)
def wsX3_isEnd : List Cond := .code yX3_isEnd cX3_isEnd 1 (some .boolean) :: ([])
def wsX0_hasTried : List Cond := .code yX0_hasTried cX0_hasTried 2 (some .boolean) :: ([.fieldLink RX0 26 "MapCarrier$Carrier" "tried" "[Z", .static yX3_isEnd, .initialized RX3, .code yX3_isEnd cX3_isEnd 1 (some .boolean)] ++ wsX00)
def wsX0_forget : List Cond := .code yX0_forget cX0_forget 2 none :: ([])
def wsX0_endErrand : List Cond := .code yX0_endErrand cX0_endErrand 1 none :: ([.fieldLink RX0 18 "MapCarrier$Carrier" "goal" "I", .fieldLink RX0 64 "MapCarrier$Carrier" "wayLength" "I"] ++ wsX00)
def wsX0_begin : List Cond := .code yX0_begin cX0_begin 2 none :: ([.fieldLink RX0 26 "MapCarrier$Carrier" "tried" "[Z", .fieldLink RX0 30 "MapCarrier$Carrier" "askedAt" "[Z", .fieldLink RX0 64 "MapCarrier$Carrier" "wayLength" "I", .fieldLink RX0 18 "MapCarrier$Carrier" "goal" "I", .fieldLink RX0 40 "MapCarrier$Carrier" "at" "I", .fieldLink RX0 67 "MapCarrier$Carrier" "done" "I", .methodLink RX0 60 yX0_forget, .static yX0_forget, .initialized RX0, .code yX0_forget cX0_forget 2 none, .methodLink RX0 70 yX0_endErrand, .instanceMethod yX0_endErrand, .selects RX0 yX0_endErrand yX0_endErrand, .code yX0_endErrand cX0_endErrand 1 none] ++ wsX00)
def wsX2_spotOf : List Cond := .code yX2_spotOf cX2_spotOf 3 (some .int) :: ([])
def wsX2_exitFor : List Cond := .code yX2_exitFor cX2_exitFor 4 (some .int) :: ([.fieldLink RX2 15 "MapCarrier$Memory" "strengths" "[I", .fieldLink RX2 9 "MapCarrier$Memory" "exits" "[I", .methodLink RX2 18 yX2_spotOf, .static yX2_spotOf, .initialized RX2, .code yX2_spotOf cX2_spotOf 3 (some .int)] ++ wsX20)
def wsX1_isPlace : List Cond := .code yX1_isPlace cX1_isPlace 2 (some .boolean) :: ([.fieldLink RX1 34 "MapCarrier$Land" "places" "I"] ++ wsX10)
def wsX1_endAt : List Cond := .code yX1_endAt cX1_endAt 4 (some .int) :: ([.fieldLink RX1 9 "MapCarrier$Land" "exits" "[I", .methodLink RX1 38 yX1_isPlace, .instanceMethod yX1_isPlace, .selects RX1 yX1_isPlace yX1_isPlace, .initialized RX1, .code yX1_isPlace cX1_isPlace 2 (some .boolean), .fieldLink RX1 34 "MapCarrier$Land" "places" "I"] ++ wsX10)
def wsX0_canTake : List Cond := .code yX0_canTake cX0_canTake 2 (some .boolean) :: ([.fieldLink RX0 36 "MapCarrier$Carrier" "land" "LMapCarrier$Land;", .fieldLink RX0 26 "MapCarrier$Carrier" "tried" "[Z", .static yX3_isEnd, .initialized RX3, .code yX3_isEnd cX3_isEnd 1 (some .boolean)] ++ wsX00 ++ wsX10)
def wsX0_rememberedEnd_r1 : List Cond := [Cond.fieldLink RX0 36 "MapCarrier$Carrier" "land" "LMapCarrier$Land;", Cond.fieldLink RX0 40 "MapCarrier$Carrier" "at" "I", Cond.fieldLink RX0 12 "MapCarrier$Carrier" "memory" "LMapCarrier$Memory;", Cond.fieldLink RX0 18 "MapCarrier$Carrier" "goal" "I", Cond.methodLink RX0 98 yX2_exitFor, Cond.instanceMethod yX2_exitFor, Cond.selects RX2 yX2_exitFor yX2_exitFor, Cond.initialized RX2, Cond.code yX2_exitFor cX2_exitFor 4 (some .int), Cond.fieldLink RX2 15 "MapCarrier$Memory" "strengths" "[I", Cond.fieldLink RX2 9 "MapCarrier$Memory" "exits" "[I", Cond.methodLink RX2 18 yX2_spotOf, Cond.static yX2_spotOf, Cond.code yX2_spotOf cX2_spotOf 3 (some .int), Cond.methodLink RX0 102 yX1_endAt, Cond.instanceMethod yX1_endAt, Cond.selects RX1 yX1_endAt yX1_endAt, Cond.initialized RX1, Cond.code yX1_endAt cX1_endAt 4 (some .int), Cond.fieldLink RX1 9 "MapCarrier$Land" "exits" "[I", Cond.methodLink RX1 38 yX1_isPlace, Cond.instanceMethod yX1_isPlace, Cond.selects RX1 yX1_isPlace yX1_isPlace, Cond.code yX1_isPlace cX1_isPlace 2 (some .boolean)]
def wsX0_rememberedEnd_r2 : List Cond := [Cond.fieldLink RX1 34 "MapCarrier$Land" "places" "I", Cond.methodLink RX0 105 yX0_canTake, Cond.instanceMethod yX0_canTake, Cond.selects RX0 yX0_canTake yX0_canTake, Cond.initialized RX0, Cond.code yX0_canTake cX0_canTake 2 (some .boolean), Cond.fieldLink RX0 26 "MapCarrier$Carrier" "tried" "[Z", Cond.static yX3_isEnd, Cond.initialized RX3, Cond.code yX3_isEnd cX3_isEnd 1 (some .boolean)]
def wsX0_rememberedEnd : List Cond := .code yX0_rememberedEnd cX0_rememberedEnd 2 (some .int) :: ((wsX0_rememberedEnd_r1 ++ wsX0_rememberedEnd_r2) ++ wsX00 ++ wsX20 ++ wsX10)
def wsJ7_fill_53178 : List Cond := .code yJ7_fill_53178 cJ7_fill_53178 4 none :: ([])
def wsX1_milesBy : List Cond := .code yX1_milesBy cX1_milesBy 2 (some .int) :: ([.fieldLink RX1 28 "MapCarrier$Land" "open" "[Z", .fieldLink RX1 25 "MapCarrier$Land" "lengths" "[I", .fieldLink RX1 31 "MapCarrier$Land" "far" "[I", .fieldLink RX1 19 "MapCarrier$Land" "leads" "[I", .constant RX1 57 (1000000)] ++ wsX10)
def wsX3_placeOfEnd : List Cond := .code yX3_placeOfEnd cX3_placeOfEnd 1 (some .int) :: ([])
def wsX1_measure : List Cond := .code yX1_measure cX1_measure 6 none :: ([.fieldLink RX1 31 "MapCarrier$Land" "far" "[I", .constant RX1 57 (1000000), .methodLink RX1 61 yJ7_fill_53178, .static yJ7_fill_53178, .initialized RJ7, .code yJ7_fill_53178 cJ7_fill_53178 4 none, .methodLink RX1 38 yX1_isPlace, .instanceMethod yX1_isPlace, .selects RX1 yX1_isPlace yX1_isPlace, .initialized RX1, .code yX1_isPlace cX1_isPlace 2 (some .boolean), .fieldLink RX1 34 "MapCarrier$Land" "places" "I", .methodLink RX1 58 yX1_milesBy, .instanceMethod yX1_milesBy, .selects RX1 yX1_milesBy yX1_milesBy, .code yX1_milesBy cX1_milesBy 2 (some .int), .fieldLink RX1 28 "MapCarrier$Land" "open" "[Z", .fieldLink RX1 25 "MapCarrier$Land" "lengths" "[I", .fieldLink RX1 19 "MapCarrier$Land" "leads" "[I", .static yX3_placeOfEnd, .initialized RX3, .code yX3_placeOfEnd cX3_placeOfEnd 1 (some .int)] ++ wsX10)
def wsX1_endTowards_r1 : List Cond := [Cond.fieldLink RX1 31 "MapCarrier$Land" "far" "[I", Cond.constant RX1 57 (1000000), Cond.fieldLink RX1 9 "MapCarrier$Land" "exits" "[I", Cond.methodLink RX1 53 yX1_measure, Cond.instanceMethod yX1_measure, Cond.selects RX1 yX1_measure yX1_measure, Cond.initialized RX1, Cond.code yX1_measure cX1_measure 6 none, Cond.methodLink RX1 61 yJ7_fill_53178, Cond.static yJ7_fill_53178, Cond.initialized RJ7, Cond.code yJ7_fill_53178 cJ7_fill_53178 4 none, Cond.methodLink RX1 38 yX1_isPlace, Cond.instanceMethod yX1_isPlace, Cond.selects RX1 yX1_isPlace yX1_isPlace, Cond.code yX1_isPlace cX1_isPlace 2 (some .boolean), Cond.fieldLink RX1 34 "MapCarrier$Land" "places" "I", Cond.methodLink RX1 58 yX1_milesBy, Cond.instanceMethod yX1_milesBy, Cond.selects RX1 yX1_milesBy yX1_milesBy, Cond.code yX1_milesBy cX1_milesBy 2 (some .int), Cond.fieldLink RX1 28 "MapCarrier$Land" "open" "[Z", Cond.fieldLink RX1 25 "MapCarrier$Land" "lengths" "[I", Cond.fieldLink RX1 19 "MapCarrier$Land" "leads" "[I"]
def wsX1_endTowards_r2 : List Cond := [Cond.static yX3_placeOfEnd, Cond.initialized RX3, Cond.code yX3_placeOfEnd cX3_placeOfEnd 1 (some .int)]
def wsX1_endTowards : List Cond := .code yX1_endTowards cX1_endTowards 5 (some .int) :: ((wsX1_endTowards_r1 ++ wsX1_endTowards_r2) ++ wsX10)
def wsX3_exitOfEnd : List Cond := .code yX3_exitOfEnd cX3_exitOfEnd 1 (some .int) :: ([])
def wsX2_learn : List Cond := .code yX2_learn cX2_learn 5 none :: ([.fieldLink RX2 9 "MapCarrier$Memory" "exits" "[I", .fieldLink RX2 15 "MapCarrier$Memory" "strengths" "[I", .methodLink RX2 18 yX2_spotOf, .static yX2_spotOf, .initialized RX2, .code yX2_spotOf cX2_spotOf 3 (some .int)] ++ wsX20)
def wsX0_askedEnd_r1 : List Cond := [Cond.fieldLink RX0 36 "MapCarrier$Carrier" "land" "LMapCarrier$Land;", Cond.fieldLink RX0 40 "MapCarrier$Carrier" "at" "I", Cond.fieldLink RX0 33 "MapCarrier$Carrier" "guest" "I", Cond.fieldLink RX0 30 "MapCarrier$Carrier" "askedAt" "[Z", Cond.fieldLink RX0 43 "MapCarrier$Carrier" "coins" "I", Cond.fieldLink RX0 114 "MapCarrier$Carrier" "questions" "I", Cond.fieldLink RX0 18 "MapCarrier$Carrier" "goal" "I", Cond.fieldLink RX0 12 "MapCarrier$Carrier" "memory" "LMapCarrier$Memory;", Cond.methodLink RX0 108 yX1_isPlace, Cond.instanceMethod yX1_isPlace, Cond.selects RX1 yX1_isPlace yX1_isPlace, Cond.initialized RX1, Cond.code yX1_isPlace cX1_isPlace 2 (some .boolean), Cond.fieldLink RX1 34 "MapCarrier$Land" "places" "I", Cond.methodLink RX0 117 yX1_endTowards, Cond.instanceMethod yX1_endTowards, Cond.selects RX1 yX1_endTowards yX1_endTowards, Cond.code yX1_endTowards cX1_endTowards 5 (some .int), Cond.fieldLink RX1 31 "MapCarrier$Land" "far" "[I", Cond.constant RX1 57 (1000000), Cond.fieldLink RX1 9 "MapCarrier$Land" "exits" "[I", Cond.methodLink RX1 53 yX1_measure, Cond.instanceMethod yX1_measure, Cond.selects RX1 yX1_measure yX1_measure]
def wsX0_askedEnd_r2 : List Cond := [Cond.code yX1_measure cX1_measure 6 none, Cond.methodLink RX1 61 yJ7_fill_53178, Cond.static yJ7_fill_53178, Cond.initialized RJ7, Cond.code yJ7_fill_53178 cJ7_fill_53178 4 none, Cond.methodLink RX1 38 yX1_isPlace, Cond.methodLink RX1 58 yX1_milesBy, Cond.instanceMethod yX1_milesBy, Cond.selects RX1 yX1_milesBy yX1_milesBy, Cond.code yX1_milesBy cX1_milesBy 2 (some .int), Cond.fieldLink RX1 28 "MapCarrier$Land" "open" "[Z", Cond.fieldLink RX1 25 "MapCarrier$Land" "lengths" "[I", Cond.fieldLink RX1 19 "MapCarrier$Land" "leads" "[I", Cond.static yX3_placeOfEnd, Cond.initialized RX3, Cond.code yX3_placeOfEnd cX3_placeOfEnd 1 (some .int), Cond.static yX3_exitOfEnd, Cond.code yX3_exitOfEnd cX3_exitOfEnd 1 (some .int), Cond.methodLink RX0 124 yX2_learn, Cond.instanceMethod yX2_learn, Cond.selects RX2 yX2_learn yX2_learn, Cond.initialized RX2, Cond.code yX2_learn cX2_learn 5 none, Cond.fieldLink RX2 9 "MapCarrier$Memory" "exits" "[I"]
def wsX0_askedEnd_r3 : List Cond := [Cond.fieldLink RX2 15 "MapCarrier$Memory" "strengths" "[I", Cond.methodLink RX2 18 yX2_spotOf, Cond.static yX2_spotOf, Cond.code yX2_spotOf cX2_spotOf 3 (some .int), Cond.methodLink RX0 105 yX0_canTake, Cond.instanceMethod yX0_canTake, Cond.selects RX0 yX0_canTake yX0_canTake, Cond.initialized RX0, Cond.code yX0_canTake cX0_canTake 2 (some .boolean), Cond.fieldLink RX0 26 "MapCarrier$Carrier" "tried" "[Z", Cond.static yX3_isEnd, Cond.code yX3_isEnd cX3_isEnd 1 (some .boolean)]
def wsX0_askedEnd : List Cond := .code yX0_askedEnd cX0_askedEnd 3 (some .int) :: ((wsX0_askedEnd_r1 ++ (wsX0_askedEnd_r2 ++ wsX0_askedEnd_r3)) ++ wsX00 ++ wsX10 ++ wsX20)
def wsX0_firstUntried : List Cond := .code yX0_firstUntried cX0_firstUntried 3 (some .int) :: ([.fieldLink RX0 40 "MapCarrier$Carrier" "at" "I", .methodLink RX0 105 yX0_canTake, .instanceMethod yX0_canTake, .selects RX0 yX0_canTake yX0_canTake, .initialized RX0, .code yX0_canTake cX0_canTake 2 (some .boolean), .fieldLink RX0 36 "MapCarrier$Carrier" "land" "LMapCarrier$Land;", .fieldLink RX0 26 "MapCarrier$Carrier" "tried" "[Z", .static yX3_isEnd, .initialized RX3, .code yX3_isEnd cX3_isEnd 1 (some .boolean)] ++ wsX00 ++ wsX10)
def wsX1_twinOf : List Cond := .code yX1_twinOf cX1_twinOf 2 (some .int) :: ([.fieldLink RX1 22 "MapCarrier$Land" "twins" "[I", .static yX3_isEnd, .initialized RX3, .code yX3_isEnd cX3_isEnd 1 (some .boolean)] ++ wsX10)
def wsX1_milesAt : List Cond := .code yX1_milesAt cX1_milesAt 2 (some .int) :: ([.fieldLink RX1 25 "MapCarrier$Land" "lengths" "[I", .static yX3_isEnd, .initialized RX3, .code yX3_isEnd cX3_isEnd 1 (some .boolean)] ++ wsX10)
def wsX0_take : List Cond := .code yX0_take cX0_take 3 none :: ([.fieldLink RX0 36 "MapCarrier$Carrier" "land" "LMapCarrier$Land;", .fieldLink RX0 64 "MapCarrier$Carrier" "wayLength" "I", .fieldLink RX0 26 "MapCarrier$Carrier" "tried" "[Z", .fieldLink RX0 22 "MapCarrier$Carrier" "way" "[I", .fieldLink RX0 50 "MapCarrier$Carrier" "walked" "I", .fieldLink RX0 40 "MapCarrier$Carrier" "at" "I", .methodLink RX0 128 yX1_twinOf, .instanceMethod yX1_twinOf, .selects RX1 yX1_twinOf yX1_twinOf, .initialized RX1, .code yX1_twinOf cX1_twinOf 2 (some .int), .fieldLink RX1 22 "MapCarrier$Land" "twins" "[I", .static yX3_isEnd, .initialized RX3, .code yX3_isEnd cX3_isEnd 1 (some .boolean), .methodLink RX0 131 yX1_milesAt, .instanceMethod yX1_milesAt, .selects RX1 yX1_milesAt yX1_milesAt, .code yX1_milesAt cX1_milesAt 2 (some .int), .fieldLink RX1 25 "MapCarrier$Land" "lengths" "[I", .static yX3_placeOfEnd, .code yX3_placeOfEnd cX3_placeOfEnd 1 (some .int)] ++ wsX00 ++ wsX10)
def wsX0_doubleBack : List Cond := .code yX0_doubleBack cX0_doubleBack 3 none :: ([.fieldLink RX0 64 "MapCarrier$Carrier" "wayLength" "I", .fieldLink RX0 22 "MapCarrier$Carrier" "way" "[I", .fieldLink RX0 36 "MapCarrier$Carrier" "land" "LMapCarrier$Land;", .fieldLink RX0 50 "MapCarrier$Carrier" "walked" "I", .fieldLink RX0 137 "MapCarrier$Carrier" "doubled" "I", .fieldLink RX0 40 "MapCarrier$Carrier" "at" "I", .methodLink RX0 131 yX1_milesAt, .instanceMethod yX1_milesAt, .selects RX1 yX1_milesAt yX1_milesAt, .initialized RX1, .code yX1_milesAt cX1_milesAt 2 (some .int), .fieldLink RX1 25 "MapCarrier$Land" "lengths" "[I", .static yX3_isEnd, .initialized RX3, .code yX3_isEnd cX3_isEnd 1 (some .boolean), .static yX3_placeOfEnd, .code yX3_placeOfEnd cX3_placeOfEnd 1 (some .int)] ++ wsX00 ++ wsX10)
def wsX2_confirm : List Cond := .code yX2_confirm cX2_confirm 5 none :: ([.fieldLink RX2 15 "MapCarrier$Memory" "strengths" "[I", .fieldLink RX2 9 "MapCarrier$Memory" "exits" "[I", .methodLink RX2 22 Lib.Math.min.name, .static Lib.Math.min.name, .initialized "java/lang/Math", .code Lib.Math.min.name Lib.Math.min.code 2 (some .int), .methodLink RX2 18 yX2_spotOf, .static yX2_spotOf, .initialized RX2, .code yX2_spotOf cX2_spotOf 3 (some .int), .methodLink RX2 27 yX2_learn, .instanceMethod yX2_learn, .selects RX2 yX2_learn yX2_learn, .code yX2_learn cX2_learn 5 none] ++ wsX20)
def wsX0_rememberWay_r1 : List Cond := [Cond.fieldLink RX0 64 "MapCarrier$Carrier" "wayLength" "I", Cond.fieldLink RX0 12 "MapCarrier$Carrier" "memory" "LMapCarrier$Memory;", Cond.fieldLink RX0 18 "MapCarrier$Carrier" "goal" "I", Cond.fieldLink RX0 22 "MapCarrier$Carrier" "way" "[I", Cond.static yX3_placeOfEnd, Cond.initialized RX3, Cond.code yX3_placeOfEnd cX3_placeOfEnd 1 (some .int), Cond.static yX3_exitOfEnd, Cond.code yX3_exitOfEnd cX3_exitOfEnd 1 (some .int), Cond.methodLink RX0 140 yX2_confirm, Cond.instanceMethod yX2_confirm, Cond.selects RX2 yX2_confirm yX2_confirm, Cond.initialized RX2, Cond.code yX2_confirm cX2_confirm 5 none, Cond.fieldLink RX2 15 "MapCarrier$Memory" "strengths" "[I", Cond.fieldLink RX2 9 "MapCarrier$Memory" "exits" "[I", Cond.methodLink RX2 22 Lib.Math.min.name, Cond.static Lib.Math.min.name, Cond.initialized "java/lang/Math", Cond.code Lib.Math.min.name Lib.Math.min.code 2 (some .int), Cond.methodLink RX2 18 yX2_spotOf, Cond.static yX2_spotOf, Cond.code yX2_spotOf cX2_spotOf 3 (some .int), Cond.methodLink RX2 27 yX2_learn]
def wsX0_rememberWay_r2 : List Cond := [Cond.instanceMethod yX2_learn, Cond.selects RX2 yX2_learn yX2_learn, Cond.code yX2_learn cX2_learn 5 none]
def wsX0_rememberWay : List Cond := .code yX0_rememberWay cX0_rememberWay 2 none :: ((wsX0_rememberWay_r1 ++ wsX0_rememberWay_r2) ++ wsX00 ++ wsX20)
def wsX0_step_r1 : List Cond := [Cond.fieldLink RX0 64 "MapCarrier$Carrier" "wayLength" "I", Cond.fieldLink RX0 53 "MapCarrier$Carrier" "inVain" "I", Cond.fieldLink RX0 40 "MapCarrier$Carrier" "at" "I", Cond.fieldLink RX0 18 "MapCarrier$Carrier" "goal" "I", Cond.fieldLink RX0 67 "MapCarrier$Carrier" "done" "I", Cond.methodLink RX0 73 yX0_rememberedEnd, Cond.instanceMethod yX0_rememberedEnd, Cond.selects RX0 yX0_rememberedEnd yX0_rememberedEnd, Cond.initialized RX0, Cond.code yX0_rememberedEnd cX0_rememberedEnd 2 (some .int), Cond.fieldLink RX0 36 "MapCarrier$Carrier" "land" "LMapCarrier$Land;", Cond.fieldLink RX0 12 "MapCarrier$Carrier" "memory" "LMapCarrier$Memory;", Cond.methodLink RX0 98 yX2_exitFor, Cond.instanceMethod yX2_exitFor, Cond.selects RX2 yX2_exitFor yX2_exitFor, Cond.initialized RX2, Cond.code yX2_exitFor cX2_exitFor 4 (some .int), Cond.fieldLink RX2 15 "MapCarrier$Memory" "strengths" "[I", Cond.fieldLink RX2 9 "MapCarrier$Memory" "exits" "[I", Cond.methodLink RX2 18 yX2_spotOf, Cond.static yX2_spotOf, Cond.code yX2_spotOf cX2_spotOf 3 (some .int), Cond.methodLink RX0 102 yX1_endAt, Cond.instanceMethod yX1_endAt]
def wsX0_step_r2 : List Cond := [Cond.selects RX1 yX1_endAt yX1_endAt, Cond.initialized RX1, Cond.code yX1_endAt cX1_endAt 4 (some .int), Cond.fieldLink RX1 9 "MapCarrier$Land" "exits" "[I", Cond.methodLink RX1 38 yX1_isPlace, Cond.instanceMethod yX1_isPlace, Cond.selects RX1 yX1_isPlace yX1_isPlace, Cond.code yX1_isPlace cX1_isPlace 2 (some .boolean), Cond.fieldLink RX1 34 "MapCarrier$Land" "places" "I", Cond.methodLink RX0 105 yX0_canTake, Cond.instanceMethod yX0_canTake, Cond.selects RX0 yX0_canTake yX0_canTake, Cond.code yX0_canTake cX0_canTake 2 (some .boolean), Cond.fieldLink RX0 26 "MapCarrier$Carrier" "tried" "[Z", Cond.static yX3_isEnd, Cond.initialized RX3, Cond.code yX3_isEnd cX3_isEnd 1 (some .boolean), Cond.methodLink RX0 77 yX0_askedEnd, Cond.instanceMethod yX0_askedEnd, Cond.selects RX0 yX0_askedEnd yX0_askedEnd, Cond.code yX0_askedEnd cX0_askedEnd 3 (some .int), Cond.fieldLink RX0 33 "MapCarrier$Carrier" "guest" "I", Cond.fieldLink RX0 30 "MapCarrier$Carrier" "askedAt" "[Z", Cond.fieldLink RX0 43 "MapCarrier$Carrier" "coins" "I"]
def wsX0_step_r3 : List Cond := [Cond.fieldLink RX0 114 "MapCarrier$Carrier" "questions" "I", Cond.methodLink RX0 108 yX1_isPlace, Cond.methodLink RX0 117 yX1_endTowards, Cond.instanceMethod yX1_endTowards, Cond.selects RX1 yX1_endTowards yX1_endTowards, Cond.code yX1_endTowards cX1_endTowards 5 (some .int), Cond.fieldLink RX1 31 "MapCarrier$Land" "far" "[I", Cond.constant RX1 57 (1000000), Cond.methodLink RX1 53 yX1_measure, Cond.instanceMethod yX1_measure, Cond.selects RX1 yX1_measure yX1_measure, Cond.code yX1_measure cX1_measure 6 none, Cond.methodLink RX1 61 yJ7_fill_53178, Cond.static yJ7_fill_53178, Cond.initialized RJ7, Cond.code yJ7_fill_53178 cJ7_fill_53178 4 none, Cond.methodLink RX1 58 yX1_milesBy, Cond.instanceMethod yX1_milesBy, Cond.selects RX1 yX1_milesBy yX1_milesBy, Cond.code yX1_milesBy cX1_milesBy 2 (some .int), Cond.fieldLink RX1 28 "MapCarrier$Land" "open" "[Z", Cond.fieldLink RX1 25 "MapCarrier$Land" "lengths" "[I", Cond.fieldLink RX1 19 "MapCarrier$Land" "leads" "[I", Cond.static yX3_placeOfEnd]
def wsX0_step_r4 : List Cond := [Cond.code yX3_placeOfEnd cX3_placeOfEnd 1 (some .int), Cond.static yX3_exitOfEnd, Cond.code yX3_exitOfEnd cX3_exitOfEnd 1 (some .int), Cond.methodLink RX0 124 yX2_learn, Cond.instanceMethod yX2_learn, Cond.selects RX2 yX2_learn yX2_learn, Cond.code yX2_learn cX2_learn 5 none, Cond.methodLink RX0 80 yX0_firstUntried, Cond.instanceMethod yX0_firstUntried, Cond.selects RX0 yX0_firstUntried yX0_firstUntried, Cond.code yX0_firstUntried cX0_firstUntried 3 (some .int), Cond.methodLink RX0 83 yX0_take, Cond.instanceMethod yX0_take, Cond.selects RX0 yX0_take yX0_take, Cond.code yX0_take cX0_take 3 none, Cond.fieldLink RX0 22 "MapCarrier$Carrier" "way" "[I", Cond.fieldLink RX0 50 "MapCarrier$Carrier" "walked" "I", Cond.methodLink RX0 128 yX1_twinOf, Cond.instanceMethod yX1_twinOf, Cond.selects RX1 yX1_twinOf yX1_twinOf, Cond.code yX1_twinOf cX1_twinOf 2 (some .int), Cond.fieldLink RX1 22 "MapCarrier$Land" "twins" "[I", Cond.methodLink RX0 131 yX1_milesAt, Cond.instanceMethod yX1_milesAt]
def wsX0_step_r5 : List Cond := [Cond.selects RX1 yX1_milesAt yX1_milesAt, Cond.code yX1_milesAt cX1_milesAt 2 (some .int), Cond.methodLink RX0 87 yX0_doubleBack, Cond.instanceMethod yX0_doubleBack, Cond.selects RX0 yX0_doubleBack yX0_doubleBack, Cond.code yX0_doubleBack cX0_doubleBack 3 none, Cond.fieldLink RX0 137 "MapCarrier$Carrier" "doubled" "I", Cond.methodLink RX0 70 yX0_endErrand, Cond.instanceMethod yX0_endErrand, Cond.selects RX0 yX0_endErrand yX0_endErrand, Cond.code yX0_endErrand cX0_endErrand 1 none, Cond.methodLink RX0 90 yX0_rememberWay, Cond.instanceMethod yX0_rememberWay, Cond.selects RX0 yX0_rememberWay yX0_rememberWay, Cond.code yX0_rememberWay cX0_rememberWay 2 none, Cond.methodLink RX0 140 yX2_confirm, Cond.instanceMethod yX2_confirm, Cond.selects RX2 yX2_confirm yX2_confirm, Cond.code yX2_confirm cX2_confirm 5 none, Cond.methodLink RX2 22 Lib.Math.min.name, Cond.static Lib.Math.min.name, Cond.initialized "java/lang/Math", Cond.code Lib.Math.min.name Lib.Math.min.code 2 (some .int), Cond.methodLink RX2 27 yX2_learn]
def wsX0_step : List Cond := .code yX0_step cX0_step 2 (some .boolean) :: ((wsX0_step_r1 ++ (wsX0_step_r2 ++ (wsX0_step_r3 ++ (wsX0_step_r4 ++ wsX0_step_r5)))) ++ wsX00 ++ wsX20 ++ wsX10)
def wsX1_opensAt : List Cond := .code yX1_opensAt cX1_opensAt 2 (some .boolean) :: ([.fieldLink RX1 28 "MapCarrier$Land" "open" "[Z", .static yX3_isEnd, .initialized RX3, .code yX3_isEnd cX3_isEnd 1 (some .boolean)] ++ wsX10)
def wsX1_beyond : List Cond := .code yX1_beyond cX1_beyond 2 (some .int) :: ([.fieldLink RX1 19 "MapCarrier$Land" "leads" "[I", .static yX3_isEnd, .initialized RX3, .code yX3_isEnd cX3_isEnd 1 (some .boolean)] ++ wsX10)
def wsX0_findsByMemory_r1 : List Cond := [Cond.fieldLink RX0 40 "MapCarrier$Carrier" "at" "I", Cond.fieldLink RX0 36 "MapCarrier$Carrier" "land" "LMapCarrier$Land;", Cond.fieldLink RX0 12 "MapCarrier$Carrier" "memory" "LMapCarrier$Memory;", Cond.methodLink RX0 98 yX2_exitFor, Cond.instanceMethod yX2_exitFor, Cond.selects RX2 yX2_exitFor yX2_exitFor, Cond.initialized RX2, Cond.code yX2_exitFor cX2_exitFor 4 (some .int), Cond.fieldLink RX2 15 "MapCarrier$Memory" "strengths" "[I", Cond.fieldLink RX2 9 "MapCarrier$Memory" "exits" "[I", Cond.methodLink RX2 18 yX2_spotOf, Cond.static yX2_spotOf, Cond.code yX2_spotOf cX2_spotOf 3 (some .int), Cond.methodLink RX0 102 yX1_endAt, Cond.instanceMethod yX1_endAt, Cond.selects RX1 yX1_endAt yX1_endAt, Cond.initialized RX1, Cond.code yX1_endAt cX1_endAt 4 (some .int), Cond.fieldLink RX1 9 "MapCarrier$Land" "exits" "[I", Cond.methodLink RX1 38 yX1_isPlace, Cond.instanceMethod yX1_isPlace, Cond.selects RX1 yX1_isPlace yX1_isPlace, Cond.code yX1_isPlace cX1_isPlace 2 (some .boolean), Cond.fieldLink RX1 34 "MapCarrier$Land" "places" "I"]
def wsX0_findsByMemory_r2 : List Cond := [Cond.methodLink RX0 143 yX1_opensAt, Cond.instanceMethod yX1_opensAt, Cond.selects RX1 yX1_opensAt yX1_opensAt, Cond.code yX1_opensAt cX1_opensAt 2 (some .boolean), Cond.fieldLink RX1 28 "MapCarrier$Land" "open" "[Z", Cond.static yX3_isEnd, Cond.initialized RX3, Cond.code yX3_isEnd cX3_isEnd 1 (some .boolean), Cond.methodLink RX0 146 yX1_beyond, Cond.instanceMethod yX1_beyond, Cond.selects RX1 yX1_beyond yX1_beyond, Cond.code yX1_beyond cX1_beyond 2 (some .int), Cond.fieldLink RX1 19 "MapCarrier$Land" "leads" "[I"]
def wsX0_findsByMemory : List Cond := .code yX0_findsByMemory cX0_findsByMemory 5 (some .boolean) :: ((wsX0_findsByMemory_r1 ++ wsX0_findsByMemory_r2) ++ wsX00 ++ wsX20 ++ wsX10)
def wsX1_init : List Cond := .code yX1_init cX1_init 1 none :: ([.methodLink RX1 3 objectInit, .instanceMethod objectInit, .code objectInit ⟨#[0xb1]⟩ 1 none, .arrayClass .int, .fieldLink RX1 9 "MapCarrier$Land" "exits" "[I", .arrayClass .boolean, .fieldLink RX1 15 "MapCarrier$Land" "shepherds" "[Z", .fieldLink RX1 19 "MapCarrier$Land" "leads" "[I", .fieldLink RX1 22 "MapCarrier$Land" "twins" "[I", .fieldLink RX1 25 "MapCarrier$Land" "lengths" "[I", .fieldLink RX1 28 "MapCarrier$Land" "open" "[Z", .fieldLink RX1 31 "MapCarrier$Land" "far" "[I"] ++ wsX10)
def wsX1_isFull : List Cond := .code yX1_isFull cX1_isFull 2 (some .boolean) :: ([.fieldLink RX1 9 "MapCarrier$Land" "exits" "[I", .methodLink RX1 38 yX1_isPlace, .instanceMethod yX1_isPlace, .selects RX1 yX1_isPlace yX1_isPlace, .initialized RX1, .code yX1_isPlace cX1_isPlace 2 (some .boolean), .fieldLink RX1 34 "MapCarrier$Land" "places" "I"] ++ wsX10)
def wsX1_layEnd : List Cond := .code yX1_layEnd cX1_layEnd 4 none :: ([.fieldLink RX1 19 "MapCarrier$Land" "leads" "[I", .fieldLink RX1 22 "MapCarrier$Land" "twins" "[I", .fieldLink RX1 25 "MapCarrier$Land" "lengths" "[I", .fieldLink RX1 28 "MapCarrier$Land" "open" "[Z", .static yX3_placeOfEnd, .initialized RX3, .code yX3_placeOfEnd cX3_placeOfEnd 1 (some .int)] ++ wsX10)
def wsX1_join : List Cond := .code yX1_join cX1_join 7 (some .int) :: ([.fieldLink RX1 9 "MapCarrier$Land" "exits" "[I", .methodLink RX1 42 yX1_layEnd, .instanceMethod yX1_layEnd, .selects RX1 yX1_layEnd yX1_layEnd, .initialized RX1, .code yX1_layEnd cX1_layEnd 4 none, .fieldLink RX1 19 "MapCarrier$Land" "leads" "[I", .fieldLink RX1 22 "MapCarrier$Land" "twins" "[I", .fieldLink RX1 25 "MapCarrier$Land" "lengths" "[I", .fieldLink RX1 28 "MapCarrier$Land" "open" "[Z", .static yX3_placeOfEnd, .initialized RX3, .code yX3_placeOfEnd cX3_placeOfEnd 1 (some .int)] ++ wsX10)
def wsX1_turnEnd : List Cond := .code yX1_turnEnd cX1_turnEnd 3 (some .boolean) :: ([.fieldLink RX1 28 "MapCarrier$Land" "open" "[Z", .fieldLink RX1 22 "MapCarrier$Land" "twins" "[I", .static yX3_isEnd, .initialized RX3, .code yX3_isEnd cX3_isEnd 1 (some .boolean)] ++ wsX10)
def wsX1_shortest_r1 : List Cond := [Cond.fieldLink RX1 31 "MapCarrier$Land" "far" "[I", Cond.constant RX1 57 (1000000), Cond.methodLink RX1 53 yX1_measure, Cond.instanceMethod yX1_measure, Cond.selects RX1 yX1_measure yX1_measure, Cond.initialized RX1, Cond.code yX1_measure cX1_measure 6 none, Cond.methodLink RX1 61 yJ7_fill_53178, Cond.static yJ7_fill_53178, Cond.initialized RJ7, Cond.code yJ7_fill_53178 cJ7_fill_53178 4 none, Cond.methodLink RX1 38 yX1_isPlace, Cond.instanceMethod yX1_isPlace, Cond.selects RX1 yX1_isPlace yX1_isPlace, Cond.code yX1_isPlace cX1_isPlace 2 (some .boolean), Cond.fieldLink RX1 34 "MapCarrier$Land" "places" "I", Cond.methodLink RX1 58 yX1_milesBy, Cond.instanceMethod yX1_milesBy, Cond.selects RX1 yX1_milesBy yX1_milesBy, Cond.code yX1_milesBy cX1_milesBy 2 (some .int), Cond.fieldLink RX1 28 "MapCarrier$Land" "open" "[Z", Cond.fieldLink RX1 25 "MapCarrier$Land" "lengths" "[I", Cond.fieldLink RX1 19 "MapCarrier$Land" "leads" "[I", Cond.static yX3_placeOfEnd]
def wsX1_shortest_r2 : List Cond := [Cond.initialized RX3, Cond.code yX3_placeOfEnd cX3_placeOfEnd 1 (some .int)]
def wsX1_shortest : List Cond := .code yX1_shortest cX1_shortest 3 (some .int) :: ((wsX1_shortest_r1 ++ wsX1_shortest_r2) ++ wsX10)
def wsX2_strengthFor : List Cond := .code yX2_strengthFor cX2_strengthFor 4 (some .int) :: ([.fieldLink RX2 15 "MapCarrier$Memory" "strengths" "[I", .methodLink RX2 18 yX2_spotOf, .static yX2_spotOf, .initialized RX2, .code yX2_spotOf cX2_spotOf 3 (some .int)] ++ wsX20)
def wsX2_fade : List Cond := .code yX2_fade cX2_fade 5 (some .int) :: ([.fieldLink RX2 15 "MapCarrier$Memory" "strengths" "[I", .methodLink RX2 31 Lib.Math.max.name, .static Lib.Math.max.name, .initialized "java/lang/Math", .code Lib.Math.max.name Lib.Math.max.code 2 (some .int)] ++ wsX20)
def wsX3_init_r1 : List Cond := [Cond.methodLink RX3 3 objectInit, Cond.instanceMethod objectInit, Cond.code objectInit ⟨#[0xb1]⟩ 1 none, Cond.classLink RX3 9 RX1, Cond.instantiable RX1 8, Cond.initialized RX1, Cond.fieldLink RX3 12 "MapCarrier" "land" "LMapCarrier$Land;", Cond.classLink RX3 16 RX0, Cond.instantiable RX0 15, Cond.initialized RX0, Cond.fieldLink RX3 21 "MapCarrier" "carrier" "LMapCarrier$Carrier;", Cond.fieldLink RX3 25 "MapCarrier" "trial" "LMapCarrier$Carrier;", Cond.instanceMethod yX1_init, Cond.code yX1_init cX1_init 1 none, Cond.methodLink RX1 3 objectInit, Cond.arrayClass .int, Cond.fieldLink RX1 9 "MapCarrier$Land" "exits" "[I", Cond.arrayClass .boolean, Cond.fieldLink RX1 15 "MapCarrier$Land" "shepherds" "[Z", Cond.fieldLink RX1 19 "MapCarrier$Land" "leads" "[I", Cond.fieldLink RX1 22 "MapCarrier$Land" "twins" "[I", Cond.fieldLink RX1 25 "MapCarrier$Land" "lengths" "[I", Cond.fieldLink RX1 28 "MapCarrier$Land" "open" "[Z", Cond.fieldLink RX1 31 "MapCarrier$Land" "far" "[I"]
def wsX3_init_r2 : List Cond := [Cond.methodLink RX3 18 yX0_init, Cond.instanceMethod yX0_init, Cond.code yX0_init cX0_init 2 none, Cond.methodLink RX0 3 objectInit, Cond.classLink RX0 9 RX2, Cond.instantiable RX2 2, Cond.initialized RX2, Cond.fieldLink RX0 12 "MapCarrier$Carrier" "memory" "LMapCarrier$Memory;", Cond.fieldLink RX0 18 "MapCarrier$Carrier" "goal" "I", Cond.fieldLink RX0 22 "MapCarrier$Carrier" "way" "[I", Cond.fieldLink RX0 26 "MapCarrier$Carrier" "tried" "[Z", Cond.fieldLink RX0 30 "MapCarrier$Carrier" "askedAt" "[Z", Cond.fieldLink RX0 33 "MapCarrier$Carrier" "guest" "I", Cond.fieldLink RX0 36 "MapCarrier$Carrier" "land" "LMapCarrier$Land;", Cond.instanceMethod yX2_init, Cond.code yX2_init cX2_init 1 none, Cond.methodLink RX2 3 objectInit, Cond.fieldLink RX2 9 "MapCarrier$Memory" "exits" "[I", Cond.fieldLink RX2 15 "MapCarrier$Memory" "strengths" "[I"]
def wsX3_init : List Cond := .code yX3_init cX3_init 1 none :: ((wsX3_init_r1 ++ wsX3_init_r2) ++ wsX10 ++ wsX30 ++ wsX00 ++ wsX20)
def wsX3_addPlace : List Cond := .code yX3_addPlace cX3_addPlace 1 (some .int) :: ([.classLink RX3 32 "java/lang/IllegalStateException", .initialized "java/lang/IllegalStateException", .fieldLink RX3 12 "MapCarrier" "land" "LMapCarrier$Land;"] ++ wsX30 ++ wsX10 ++ (vx_atS RX3 36 "java/lang/IllegalStateException" ["java/lang/RuntimeException", "java/lang/Exception"]).filter goodWord)
def wsX3_checkPlace : List Cond := .code yX3_checkPlace cX3_checkPlace 2 none :: ([.classLink RX3 208 "java/lang/IndexOutOfBoundsException", .initialized "java/lang/IndexOutOfBoundsException", .fieldLink RX3 12 "MapCarrier" "land" "LMapCarrier$Land;", .methodLink RX3 205 yX1_isPlace, .instanceMethod yX1_isPlace, .selects RX1 yX1_isPlace yX1_isPlace, .initialized RX1, .code yX1_isPlace cX1_isPlace 2 (some .boolean), .fieldLink RX1 34 "MapCarrier$Land" "places" "I"] ++ wsX30 ++ wsX10 ++ (vx_atS RX3 212 "java/lang/IndexOutOfBoundsException" ["java/lang/RuntimeException", "java/lang/Exception"]).filter goodWord)
def wsX3_checkRange : List Cond := .code yX3_checkRange cX3_checkRange 3 none :: ([.classLink RX3 43 "java/lang/IllegalArgumentException", .initialized "java/lang/IllegalArgumentException"] ++ (vx_atS RX3 47 "java/lang/IllegalArgumentException" ["java/lang/RuntimeException", "java/lang/Exception"]).filter goodWord)
def wsX3_addRoad_r1 : List Cond := [Cond.classLink RX3 43 "java/lang/IllegalArgumentException", Cond.initialized "java/lang/IllegalArgumentException", Cond.classLink RX3 32 "java/lang/IllegalStateException", Cond.initialized "java/lang/IllegalStateException", Cond.fieldLink RX3 12 "MapCarrier" "land" "LMapCarrier$Land;", Cond.methodLink RX3 39 yX3_checkPlace, Cond.instanceMethod yX3_checkPlace, Cond.selects RX3 yX3_checkPlace yX3_checkPlace, Cond.initialized RX3, Cond.code yX3_checkPlace cX3_checkPlace 2 none, Cond.classLink RX3 208 "java/lang/IndexOutOfBoundsException", Cond.initialized "java/lang/IndexOutOfBoundsException", Cond.methodLink RX3 205 yX1_isPlace, Cond.instanceMethod yX1_isPlace, Cond.selects RX1 yX1_isPlace yX1_isPlace, Cond.initialized RX1, Cond.code yX1_isPlace cX1_isPlace 2 (some .boolean), Cond.fieldLink RX1 34 "MapCarrier$Land" "places" "I", Cond.methodLink RX3 48 yX3_checkRange, Cond.instanceMethod yX3_checkRange, Cond.selects RX3 yX3_checkRange yX3_checkRange, Cond.code yX3_checkRange cX3_checkRange 3 none, Cond.methodLink RX3 52 yX1_isFull, Cond.instanceMethod yX1_isFull]
def wsX3_addRoad_r2 : List Cond := [Cond.selects RX1 yX1_isFull yX1_isFull, Cond.code yX1_isFull cX1_isFull 2 (some .boolean), Cond.fieldLink RX1 9 "MapCarrier$Land" "exits" "[I", Cond.methodLink RX1 38 yX1_isPlace, Cond.methodLink RX3 58 yX1_join, Cond.instanceMethod yX1_join, Cond.selects RX1 yX1_join yX1_join, Cond.code yX1_join cX1_join 7 (some .int), Cond.methodLink RX1 42 yX1_layEnd, Cond.instanceMethod yX1_layEnd, Cond.selects RX1 yX1_layEnd yX1_layEnd, Cond.code yX1_layEnd cX1_layEnd 4 none, Cond.fieldLink RX1 19 "MapCarrier$Land" "leads" "[I", Cond.fieldLink RX1 22 "MapCarrier$Land" "twins" "[I", Cond.fieldLink RX1 25 "MapCarrier$Land" "lengths" "[I", Cond.fieldLink RX1 28 "MapCarrier$Land" "open" "[Z", Cond.static yX3_placeOfEnd, Cond.code yX3_placeOfEnd cX3_placeOfEnd 1 (some .int)]
def wsX3_addRoad : List Cond := .code yX3_addRoad cX3_addRoad 4 (some .int) :: ((wsX3_addRoad_r1 ++ wsX3_addRoad_r2) ++ wsX30 ++ wsX10 ++ (vx_atS RX3 47 "java/lang/IllegalArgumentException" ["java/lang/RuntimeException", "java/lang/Exception"]).filter goodWord ++ (vx_atS RX3 36 "java/lang/IllegalStateException" ["java/lang/RuntimeException", "java/lang/Exception"]).filter goodWord ++ (vx_atS RX3 212 "java/lang/IndexOutOfBoundsException" ["java/lang/RuntimeException", "java/lang/Exception"]).filter goodWord)
def wsX3_checkedEnd : List Cond := .code yX3_checkedEnd cX3_checkedEnd 4 (some .int) :: ([.classLink RX3 208 "java/lang/IndexOutOfBoundsException", .initialized "java/lang/IndexOutOfBoundsException", .fieldLink RX3 12 "MapCarrier" "land" "LMapCarrier$Land;", .methodLink RX3 213 yX1_endAt, .instanceMethod yX1_endAt, .selects RX1 yX1_endAt yX1_endAt, .initialized RX1, .code yX1_endAt cX1_endAt 4 (some .int), .fieldLink RX1 9 "MapCarrier$Land" "exits" "[I", .methodLink RX1 38 yX1_isPlace, .instanceMethod yX1_isPlace, .selects RX1 yX1_isPlace yX1_isPlace, .code yX1_isPlace cX1_isPlace 2 (some .boolean), .fieldLink RX1 34 "MapCarrier$Land" "places" "I"] ++ wsX30 ++ wsX10 ++ (vx_atS RX3 212 "java/lang/IndexOutOfBoundsException" ["java/lang/RuntimeException", "java/lang/Exception"]).filter goodWord)
def wsX3_turnRoad_r1 : List Cond := [Cond.fieldLink RX3 12 "MapCarrier" "land" "LMapCarrier$Land;", Cond.methodLink RX3 62 yX3_checkedEnd, Cond.instanceMethod yX3_checkedEnd, Cond.selects RX3 yX3_checkedEnd yX3_checkedEnd, Cond.initialized RX3, Cond.code yX3_checkedEnd cX3_checkedEnd 4 (some .int), Cond.classLink RX3 208 "java/lang/IndexOutOfBoundsException", Cond.initialized "java/lang/IndexOutOfBoundsException", Cond.methodLink RX3 213 yX1_endAt, Cond.instanceMethod yX1_endAt, Cond.selects RX1 yX1_endAt yX1_endAt, Cond.initialized RX1, Cond.code yX1_endAt cX1_endAt 4 (some .int), Cond.fieldLink RX1 9 "MapCarrier$Land" "exits" "[I", Cond.methodLink RX1 38 yX1_isPlace, Cond.instanceMethod yX1_isPlace, Cond.selects RX1 yX1_isPlace yX1_isPlace, Cond.code yX1_isPlace cX1_isPlace 2 (some .boolean), Cond.fieldLink RX1 34 "MapCarrier$Land" "places" "I", Cond.methodLink RX3 66 yX1_turnEnd, Cond.instanceMethod yX1_turnEnd, Cond.selects RX1 yX1_turnEnd yX1_turnEnd, Cond.code yX1_turnEnd cX1_turnEnd 3 (some .boolean), Cond.fieldLink RX1 28 "MapCarrier$Land" "open" "[Z"]
def wsX3_turnRoad_r2 : List Cond := [Cond.fieldLink RX1 22 "MapCarrier$Land" "twins" "[I", Cond.static yX3_isEnd, Cond.code yX3_isEnd cX3_isEnd 1 (some .boolean)]
def wsX3_turnRoad : List Cond := .code yX3_turnRoad cX3_turnRoad 3 (some .boolean) :: ((wsX3_turnRoad_r1 ++ wsX3_turnRoad_r2) ++ wsX30 ++ wsX10 ++ (vx_atS RX3 212 "java/lang/IndexOutOfBoundsException" ["java/lang/RuntimeException", "java/lang/Exception"]).filter goodWord)
def wsX3_turnShepherd : List Cond := .code yX3_turnShepherd cX3_turnShepherd 2 (some .boolean) :: ([.fieldLink RX3 12 "MapCarrier" "land" "LMapCarrier$Land;", .methodLink RX3 39 yX3_checkPlace, .instanceMethod yX3_checkPlace, .selects RX3 yX3_checkPlace yX3_checkPlace, .initialized RX3, .code yX3_checkPlace cX3_checkPlace 2 none, .classLink RX3 208 "java/lang/IndexOutOfBoundsException", .initialized "java/lang/IndexOutOfBoundsException", .methodLink RX3 205 yX1_isPlace, .instanceMethod yX1_isPlace, .selects RX1 yX1_isPlace yX1_isPlace, .initialized RX1, .code yX1_isPlace cX1_isPlace 2 (some .boolean), .fieldLink RX1 34 "MapCarrier$Land" "places" "I"] ++ wsX30 ++ wsX10 ++ (vx_atS RX3 212 "java/lang/IndexOutOfBoundsException" ["java/lang/RuntimeException", "java/lang/Exception"]).filter goodWord)
def wsX3_pay : List Cond := .code yX3_pay cX3_pay 2 (some .int) :: ([.fieldLink RX3 21 "MapCarrier" "carrier" "LMapCarrier$Carrier;", .methodLink RX3 76 Lib.Math.min.name, .static Lib.Math.min.name, .initialized "java/lang/Math", .code Lib.Math.min.name Lib.Math.min.code 2 (some .int), .methodLink RX3 48 yX3_checkRange, .instanceMethod yX3_checkRange, .selects RX3 yX3_checkRange yX3_checkRange, .initialized RX3, .code yX3_checkRange cX3_checkRange 3 none, .classLink RX3 43 "java/lang/IllegalArgumentException", .initialized "java/lang/IllegalArgumentException"] ++ wsX30 ++ wsX00 ++ (vx_atS RX3 47 "java/lang/IllegalArgumentException" ["java/lang/RuntimeException", "java/lang/Exception"]).filter goodWord)
def wsX3_checkIdle : List Cond := .code yX3_checkIdle cX3_checkIdle 1 none :: ([.classLink RX3 32 "java/lang/IllegalStateException", .initialized "java/lang/IllegalStateException", .fieldLink RX3 21 "MapCarrier" "carrier" "LMapCarrier$Carrier;", .methodLink RX3 96 yX0_isUnderway, .instanceMethod yX0_isUnderway, .selects RX0 yX0_isUnderway yX0_isUnderway, .initialized RX0, .code yX0_isUnderway cX0_isUnderway 1 (some .boolean), .fieldLink RX0 18 "MapCarrier$Carrier" "goal" "I"] ++ wsX30 ++ wsX00 ++ (vx_atS RX3 36 "java/lang/IllegalStateException" ["java/lang/RuntimeException", "java/lang/Exception"]).filter goodWord)
def wsX3_beginErrand_r1 : List Cond := [Cond.fieldLink RX3 12 "MapCarrier" "land" "LMapCarrier$Land;", Cond.fieldLink RX3 21 "MapCarrier" "carrier" "LMapCarrier$Carrier;", Cond.methodLink RX3 39 yX3_checkPlace, Cond.instanceMethod yX3_checkPlace, Cond.selects RX3 yX3_checkPlace yX3_checkPlace, Cond.initialized RX3, Cond.code yX3_checkPlace cX3_checkPlace 2 none, Cond.classLink RX3 208 "java/lang/IndexOutOfBoundsException", Cond.initialized "java/lang/IndexOutOfBoundsException", Cond.methodLink RX3 205 yX1_isPlace, Cond.instanceMethod yX1_isPlace, Cond.selects RX1 yX1_isPlace yX1_isPlace, Cond.initialized RX1, Cond.code yX1_isPlace cX1_isPlace 2 (some .boolean), Cond.fieldLink RX1 34 "MapCarrier$Land" "places" "I", Cond.methodLink RX3 81 yX3_checkIdle, Cond.instanceMethod yX3_checkIdle, Cond.selects RX3 yX3_checkIdle yX3_checkIdle, Cond.code yX3_checkIdle cX3_checkIdle 1 none, Cond.classLink RX3 32 "java/lang/IllegalStateException", Cond.initialized "java/lang/IllegalStateException", Cond.methodLink RX3 96 yX0_isUnderway, Cond.instanceMethod yX0_isUnderway, Cond.selects RX0 yX0_isUnderway yX0_isUnderway]
def wsX3_beginErrand_r2 : List Cond := [Cond.initialized RX0, Cond.code yX0_isUnderway cX0_isUnderway 1 (some .boolean), Cond.fieldLink RX0 18 "MapCarrier$Carrier" "goal" "I", Cond.methodLink RX3 87 yX1_shortest, Cond.instanceMethod yX1_shortest, Cond.selects RX1 yX1_shortest yX1_shortest, Cond.code yX1_shortest cX1_shortest 3 (some .int), Cond.fieldLink RX1 31 "MapCarrier$Land" "far" "[I", Cond.constant RX1 57 (1000000), Cond.methodLink RX1 53 yX1_measure, Cond.instanceMethod yX1_measure, Cond.selects RX1 yX1_measure yX1_measure, Cond.code yX1_measure cX1_measure 6 none, Cond.methodLink RX1 61 yJ7_fill_53178, Cond.static yJ7_fill_53178, Cond.initialized RJ7, Cond.code yJ7_fill_53178 cJ7_fill_53178 4 none, Cond.methodLink RX1 38 yX1_isPlace, Cond.methodLink RX1 58 yX1_milesBy, Cond.instanceMethod yX1_milesBy, Cond.selects RX1 yX1_milesBy yX1_milesBy, Cond.code yX1_milesBy cX1_milesBy 2 (some .int), Cond.fieldLink RX1 28 "MapCarrier$Land" "open" "[Z", Cond.fieldLink RX1 25 "MapCarrier$Land" "lengths" "[I"]
def wsX3_beginErrand_r3 : List Cond := [Cond.fieldLink RX1 19 "MapCarrier$Land" "leads" "[I", Cond.static yX3_placeOfEnd, Cond.code yX3_placeOfEnd cX3_placeOfEnd 1 (some .int), Cond.methodLink RX3 90 yX0_begin, Cond.instanceMethod yX0_begin, Cond.selects RX0 yX0_begin yX0_begin, Cond.code yX0_begin cX0_begin 2 none, Cond.fieldLink RX0 26 "MapCarrier$Carrier" "tried" "[Z", Cond.fieldLink RX0 30 "MapCarrier$Carrier" "askedAt" "[Z", Cond.fieldLink RX0 64 "MapCarrier$Carrier" "wayLength" "I", Cond.fieldLink RX0 40 "MapCarrier$Carrier" "at" "I", Cond.fieldLink RX0 67 "MapCarrier$Carrier" "done" "I", Cond.methodLink RX0 60 yX0_forget, Cond.static yX0_forget, Cond.code yX0_forget cX0_forget 2 none, Cond.methodLink RX0 70 yX0_endErrand, Cond.instanceMethod yX0_endErrand, Cond.selects RX0 yX0_endErrand yX0_endErrand, Cond.code yX0_endErrand cX0_endErrand 1 none]
def wsX3_beginErrand : List Cond := .code yX3_beginErrand cX3_beginErrand 3 (some .int) :: ((wsX3_beginErrand_r1 ++ (wsX3_beginErrand_r2 ++ wsX3_beginErrand_r3)) ++ wsX30 ++ wsX00 ++ wsX10 ++ (vx_atS RX3 212 "java/lang/IndexOutOfBoundsException" ["java/lang/RuntimeException", "java/lang/Exception"]).filter goodWord ++ (vx_atS RX3 36 "java/lang/IllegalStateException" ["java/lang/RuntimeException", "java/lang/Exception"]).filter goodWord)
def wsX3_checkUnderway : List Cond := .code yX3_checkUnderway cX3_checkUnderway 1 none :: ([.classLink RX3 32 "java/lang/IllegalStateException", .initialized "java/lang/IllegalStateException", .fieldLink RX3 21 "MapCarrier" "carrier" "LMapCarrier$Carrier;", .methodLink RX3 96 yX0_isUnderway, .instanceMethod yX0_isUnderway, .selects RX0 yX0_isUnderway yX0_isUnderway, .initialized RX0, .code yX0_isUnderway cX0_isUnderway 1 (some .boolean), .fieldLink RX0 18 "MapCarrier$Carrier" "goal" "I"] ++ wsX30 ++ wsX00 ++ (vx_atS RX3 36 "java/lang/IllegalStateException" ["java/lang/RuntimeException", "java/lang/Exception"]).filter goodWord)
def wsX3_goOn_r1 : List Cond := [Cond.fieldLink RX3 21 "MapCarrier" "carrier" "LMapCarrier$Carrier;", Cond.methodLink RX3 48 yX3_checkRange, Cond.instanceMethod yX3_checkRange, Cond.selects RX3 yX3_checkRange yX3_checkRange, Cond.initialized RX3, Cond.code yX3_checkRange cX3_checkRange 3 none, Cond.classLink RX3 43 "java/lang/IllegalArgumentException", Cond.initialized "java/lang/IllegalArgumentException", Cond.methodLink RX3 93 yX3_checkUnderway, Cond.instanceMethod yX3_checkUnderway, Cond.selects RX3 yX3_checkUnderway yX3_checkUnderway, Cond.code yX3_checkUnderway cX3_checkUnderway 1 none, Cond.classLink RX3 32 "java/lang/IllegalStateException", Cond.initialized "java/lang/IllegalStateException", Cond.methodLink RX3 96 yX0_isUnderway, Cond.instanceMethod yX0_isUnderway, Cond.selects RX0 yX0_isUnderway yX0_isUnderway, Cond.initialized RX0, Cond.code yX0_isUnderway cX0_isUnderway 1 (some .boolean), Cond.fieldLink RX0 18 "MapCarrier$Carrier" "goal" "I", Cond.methodLink RX3 100 yX0_step, Cond.instanceMethod yX0_step, Cond.selects RX0 yX0_step yX0_step, Cond.code yX0_step cX0_step 2 (some .boolean)]
def wsX3_goOn_r2 : List Cond := [Cond.fieldLink RX0 64 "MapCarrier$Carrier" "wayLength" "I", Cond.fieldLink RX0 53 "MapCarrier$Carrier" "inVain" "I", Cond.fieldLink RX0 40 "MapCarrier$Carrier" "at" "I", Cond.fieldLink RX0 67 "MapCarrier$Carrier" "done" "I", Cond.methodLink RX0 73 yX0_rememberedEnd, Cond.instanceMethod yX0_rememberedEnd, Cond.selects RX0 yX0_rememberedEnd yX0_rememberedEnd, Cond.code yX0_rememberedEnd cX0_rememberedEnd 2 (some .int), Cond.fieldLink RX0 36 "MapCarrier$Carrier" "land" "LMapCarrier$Land;", Cond.fieldLink RX0 12 "MapCarrier$Carrier" "memory" "LMapCarrier$Memory;", Cond.methodLink RX0 98 yX2_exitFor, Cond.instanceMethod yX2_exitFor, Cond.selects RX2 yX2_exitFor yX2_exitFor, Cond.initialized RX2, Cond.code yX2_exitFor cX2_exitFor 4 (some .int), Cond.fieldLink RX2 15 "MapCarrier$Memory" "strengths" "[I", Cond.fieldLink RX2 9 "MapCarrier$Memory" "exits" "[I", Cond.methodLink RX2 18 yX2_spotOf, Cond.static yX2_spotOf, Cond.code yX2_spotOf cX2_spotOf 3 (some .int), Cond.methodLink RX0 102 yX1_endAt, Cond.instanceMethod yX1_endAt, Cond.selects RX1 yX1_endAt yX1_endAt, Cond.initialized RX1]
def wsX3_goOn_r3 : List Cond := [Cond.code yX1_endAt cX1_endAt 4 (some .int), Cond.fieldLink RX1 9 "MapCarrier$Land" "exits" "[I", Cond.methodLink RX1 38 yX1_isPlace, Cond.instanceMethod yX1_isPlace, Cond.selects RX1 yX1_isPlace yX1_isPlace, Cond.code yX1_isPlace cX1_isPlace 2 (some .boolean), Cond.fieldLink RX1 34 "MapCarrier$Land" "places" "I", Cond.methodLink RX0 105 yX0_canTake, Cond.instanceMethod yX0_canTake, Cond.selects RX0 yX0_canTake yX0_canTake, Cond.code yX0_canTake cX0_canTake 2 (some .boolean), Cond.fieldLink RX0 26 "MapCarrier$Carrier" "tried" "[Z", Cond.static yX3_isEnd, Cond.code yX3_isEnd cX3_isEnd 1 (some .boolean), Cond.methodLink RX0 77 yX0_askedEnd, Cond.instanceMethod yX0_askedEnd, Cond.selects RX0 yX0_askedEnd yX0_askedEnd, Cond.code yX0_askedEnd cX0_askedEnd 3 (some .int), Cond.fieldLink RX0 33 "MapCarrier$Carrier" "guest" "I", Cond.fieldLink RX0 30 "MapCarrier$Carrier" "askedAt" "[Z", Cond.fieldLink RX0 43 "MapCarrier$Carrier" "coins" "I", Cond.fieldLink RX0 114 "MapCarrier$Carrier" "questions" "I", Cond.methodLink RX0 108 yX1_isPlace, Cond.methodLink RX0 117 yX1_endTowards]
def wsX3_goOn_r4 : List Cond := [Cond.instanceMethod yX1_endTowards, Cond.selects RX1 yX1_endTowards yX1_endTowards, Cond.code yX1_endTowards cX1_endTowards 5 (some .int), Cond.fieldLink RX1 31 "MapCarrier$Land" "far" "[I", Cond.constant RX1 57 (1000000), Cond.methodLink RX1 53 yX1_measure, Cond.instanceMethod yX1_measure, Cond.selects RX1 yX1_measure yX1_measure, Cond.code yX1_measure cX1_measure 6 none, Cond.methodLink RX1 61 yJ7_fill_53178, Cond.static yJ7_fill_53178, Cond.initialized RJ7, Cond.code yJ7_fill_53178 cJ7_fill_53178 4 none, Cond.methodLink RX1 58 yX1_milesBy, Cond.instanceMethod yX1_milesBy, Cond.selects RX1 yX1_milesBy yX1_milesBy, Cond.code yX1_milesBy cX1_milesBy 2 (some .int), Cond.fieldLink RX1 28 "MapCarrier$Land" "open" "[Z", Cond.fieldLink RX1 25 "MapCarrier$Land" "lengths" "[I", Cond.fieldLink RX1 19 "MapCarrier$Land" "leads" "[I", Cond.static yX3_placeOfEnd, Cond.code yX3_placeOfEnd cX3_placeOfEnd 1 (some .int), Cond.static yX3_exitOfEnd, Cond.code yX3_exitOfEnd cX3_exitOfEnd 1 (some .int)]
def wsX3_goOn_r5 : List Cond := [Cond.methodLink RX0 124 yX2_learn, Cond.instanceMethod yX2_learn, Cond.selects RX2 yX2_learn yX2_learn, Cond.code yX2_learn cX2_learn 5 none, Cond.methodLink RX0 80 yX0_firstUntried, Cond.instanceMethod yX0_firstUntried, Cond.selects RX0 yX0_firstUntried yX0_firstUntried, Cond.code yX0_firstUntried cX0_firstUntried 3 (some .int), Cond.methodLink RX0 83 yX0_take, Cond.instanceMethod yX0_take, Cond.selects RX0 yX0_take yX0_take, Cond.code yX0_take cX0_take 3 none, Cond.fieldLink RX0 22 "MapCarrier$Carrier" "way" "[I", Cond.fieldLink RX0 50 "MapCarrier$Carrier" "walked" "I", Cond.methodLink RX0 128 yX1_twinOf, Cond.instanceMethod yX1_twinOf, Cond.selects RX1 yX1_twinOf yX1_twinOf, Cond.code yX1_twinOf cX1_twinOf 2 (some .int), Cond.fieldLink RX1 22 "MapCarrier$Land" "twins" "[I", Cond.methodLink RX0 131 yX1_milesAt, Cond.instanceMethod yX1_milesAt, Cond.selects RX1 yX1_milesAt yX1_milesAt, Cond.code yX1_milesAt cX1_milesAt 2 (some .int), Cond.methodLink RX0 87 yX0_doubleBack]
def wsX3_goOn_r6 : List Cond := [Cond.instanceMethod yX0_doubleBack, Cond.selects RX0 yX0_doubleBack yX0_doubleBack, Cond.code yX0_doubleBack cX0_doubleBack 3 none, Cond.fieldLink RX0 137 "MapCarrier$Carrier" "doubled" "I", Cond.methodLink RX0 70 yX0_endErrand, Cond.instanceMethod yX0_endErrand, Cond.selects RX0 yX0_endErrand yX0_endErrand, Cond.code yX0_endErrand cX0_endErrand 1 none, Cond.methodLink RX0 90 yX0_rememberWay, Cond.instanceMethod yX0_rememberWay, Cond.selects RX0 yX0_rememberWay yX0_rememberWay, Cond.code yX0_rememberWay cX0_rememberWay 2 none, Cond.methodLink RX0 140 yX2_confirm, Cond.instanceMethod yX2_confirm, Cond.selects RX2 yX2_confirm yX2_confirm, Cond.code yX2_confirm cX2_confirm 5 none, Cond.methodLink RX2 22 Lib.Math.min.name, Cond.static Lib.Math.min.name, Cond.initialized "java/lang/Math", Cond.code Lib.Math.min.name Lib.Math.min.code 2 (some .int), Cond.methodLink RX2 27 yX2_learn]
def wsX3_goOn : List Cond := .code yX3_goOn cX3_goOn 3 (some .int) :: ((wsX3_goOn_r1 ++ (wsX3_goOn_r2 ++ (wsX3_goOn_r3 ++ (wsX3_goOn_r4 ++ (wsX3_goOn_r5 ++ wsX3_goOn_r6))))) ++ wsX30 ++ wsX00 ++ wsX20 ++ wsX10 ++ (vx_atS RX3 47 "java/lang/IllegalArgumentException" ["java/lang/RuntimeException", "java/lang/Exception"]).filter goodWord ++ (vx_atS RX3 36 "java/lang/IllegalStateException" ["java/lang/RuntimeException", "java/lang/Exception"]).filter goodWord)
def wsX3_giveUp : List Cond := .code yX3_giveUp cX3_giveUp 2 (some .int) :: ([.fieldLink RX3 21 "MapCarrier" "carrier" "LMapCarrier$Carrier;", .methodLink RX3 93 yX3_checkUnderway, .instanceMethod yX3_checkUnderway, .selects RX3 yX3_checkUnderway yX3_checkUnderway, .initialized RX3, .code yX3_checkUnderway cX3_checkUnderway 1 none, .classLink RX3 32 "java/lang/IllegalStateException", .initialized "java/lang/IllegalStateException", .methodLink RX3 96 yX0_isUnderway, .instanceMethod yX0_isUnderway, .selects RX0 yX0_isUnderway yX0_isUnderway, .initialized RX0, .code yX0_isUnderway cX0_isUnderway 1 (some .boolean), .fieldLink RX0 18 "MapCarrier$Carrier" "goal" "I", .methodLink RX3 106 yX0_endErrand, .instanceMethod yX0_endErrand, .selects RX0 yX0_endErrand yX0_endErrand, .code yX0_endErrand cX0_endErrand 1 none, .fieldLink RX0 64 "MapCarrier$Carrier" "wayLength" "I"] ++ wsX30 ++ wsX00 ++ (vx_atS RX3 36 "java/lang/IllegalStateException" ["java/lang/RuntimeException", "java/lang/Exception"]).filter goodWord)
def wsX3_sleep : List Cond := .code yX3_sleep cX3_sleep 2 (some .int) :: ([.fieldLink RX3 21 "MapCarrier" "carrier" "LMapCarrier$Carrier;", .methodLink RX3 48 yX3_checkRange, .instanceMethod yX3_checkRange, .selects RX3 yX3_checkRange yX3_checkRange, .initialized RX3, .code yX3_checkRange cX3_checkRange 3 none, .classLink RX3 43 "java/lang/IllegalArgumentException", .initialized "java/lang/IllegalArgumentException", .methodLink RX3 113 yX2_fade, .instanceMethod yX2_fade, .selects RX2 yX2_fade yX2_fade, .initialized RX2, .code yX2_fade cX2_fade 5 (some .int), .fieldLink RX2 15 "MapCarrier$Memory" "strengths" "[I", .methodLink RX2 31 Lib.Math.max.name, .static Lib.Math.max.name, .initialized "java/lang/Math", .code Lib.Math.max.name Lib.Math.max.code 2 (some .int)] ++ wsX30 ++ wsX00 ++ wsX20 ++ (vx_atS RX3 47 "java/lang/IllegalArgumentException" ["java/lang/RuntimeException", "java/lang/Exception"]).filter goodWord)
def wsX3_places : List Cond := .code yX3_places cX3_places 1 (some .int) :: ([.fieldLink RX3 12 "MapCarrier" "land" "LMapCarrier$Land;"] ++ wsX30 ++ wsX10)
def wsX3_exitsOf : List Cond := .code yX3_exitsOf cX3_exitsOf 2 (some .int) :: ([.fieldLink RX3 12 "MapCarrier" "land" "LMapCarrier$Land;", .methodLink RX3 39 yX3_checkPlace, .instanceMethod yX3_checkPlace, .selects RX3 yX3_checkPlace yX3_checkPlace, .initialized RX3, .code yX3_checkPlace cX3_checkPlace 2 none, .classLink RX3 208 "java/lang/IndexOutOfBoundsException", .initialized "java/lang/IndexOutOfBoundsException", .methodLink RX3 205 yX1_isPlace, .instanceMethod yX1_isPlace, .selects RX1 yX1_isPlace yX1_isPlace, .initialized RX1, .code yX1_isPlace cX1_isPlace 2 (some .boolean), .fieldLink RX1 34 "MapCarrier$Land" "places" "I"] ++ wsX30 ++ wsX10 ++ (vx_atS RX3 212 "java/lang/IndexOutOfBoundsException" ["java/lang/RuntimeException", "java/lang/Exception"]).filter goodWord)
def wsX3_leadsTo_r1 : List Cond := [Cond.fieldLink RX3 12 "MapCarrier" "land" "LMapCarrier$Land;", Cond.methodLink RX3 62 yX3_checkedEnd, Cond.instanceMethod yX3_checkedEnd, Cond.selects RX3 yX3_checkedEnd yX3_checkedEnd, Cond.initialized RX3, Cond.code yX3_checkedEnd cX3_checkedEnd 4 (some .int), Cond.classLink RX3 208 "java/lang/IndexOutOfBoundsException", Cond.initialized "java/lang/IndexOutOfBoundsException", Cond.methodLink RX3 213 yX1_endAt, Cond.instanceMethod yX1_endAt, Cond.selects RX1 yX1_endAt yX1_endAt, Cond.initialized RX1, Cond.code yX1_endAt cX1_endAt 4 (some .int), Cond.fieldLink RX1 9 "MapCarrier$Land" "exits" "[I", Cond.methodLink RX1 38 yX1_isPlace, Cond.instanceMethod yX1_isPlace, Cond.selects RX1 yX1_isPlace yX1_isPlace, Cond.code yX1_isPlace cX1_isPlace 2 (some .boolean), Cond.fieldLink RX1 34 "MapCarrier$Land" "places" "I", Cond.methodLink RX3 123 yX1_beyond, Cond.instanceMethod yX1_beyond, Cond.selects RX1 yX1_beyond yX1_beyond, Cond.code yX1_beyond cX1_beyond 2 (some .int), Cond.fieldLink RX1 19 "MapCarrier$Land" "leads" "[I"]
def wsX3_leadsTo_r2 : List Cond := [Cond.static yX3_isEnd, Cond.code yX3_isEnd cX3_isEnd 1 (some .boolean)]
def wsX3_leadsTo : List Cond := .code yX3_leadsTo cX3_leadsTo 3 (some .int) :: ((wsX3_leadsTo_r1 ++ wsX3_leadsTo_r2) ++ wsX30 ++ wsX10 ++ (vx_atS RX3 212 "java/lang/IndexOutOfBoundsException" ["java/lang/RuntimeException", "java/lang/Exception"]).filter goodWord)
def wsX3_milesOf_r1 : List Cond := [Cond.fieldLink RX3 12 "MapCarrier" "land" "LMapCarrier$Land;", Cond.methodLink RX3 62 yX3_checkedEnd, Cond.instanceMethod yX3_checkedEnd, Cond.selects RX3 yX3_checkedEnd yX3_checkedEnd, Cond.initialized RX3, Cond.code yX3_checkedEnd cX3_checkedEnd 4 (some .int), Cond.classLink RX3 208 "java/lang/IndexOutOfBoundsException", Cond.initialized "java/lang/IndexOutOfBoundsException", Cond.methodLink RX3 213 yX1_endAt, Cond.instanceMethod yX1_endAt, Cond.selects RX1 yX1_endAt yX1_endAt, Cond.initialized RX1, Cond.code yX1_endAt cX1_endAt 4 (some .int), Cond.fieldLink RX1 9 "MapCarrier$Land" "exits" "[I", Cond.methodLink RX1 38 yX1_isPlace, Cond.instanceMethod yX1_isPlace, Cond.selects RX1 yX1_isPlace yX1_isPlace, Cond.code yX1_isPlace cX1_isPlace 2 (some .boolean), Cond.fieldLink RX1 34 "MapCarrier$Land" "places" "I", Cond.methodLink RX3 126 yX1_milesAt, Cond.instanceMethod yX1_milesAt, Cond.selects RX1 yX1_milesAt yX1_milesAt, Cond.code yX1_milesAt cX1_milesAt 2 (some .int), Cond.fieldLink RX1 25 "MapCarrier$Land" "lengths" "[I"]
def wsX3_milesOf_r2 : List Cond := [Cond.static yX3_isEnd, Cond.code yX3_isEnd cX3_isEnd 1 (some .boolean)]
def wsX3_milesOf : List Cond := .code yX3_milesOf cX3_milesOf 3 (some .int) :: ((wsX3_milesOf_r1 ++ wsX3_milesOf_r2) ++ wsX30 ++ wsX10 ++ (vx_atS RX3 212 "java/lang/IndexOutOfBoundsException" ["java/lang/RuntimeException", "java/lang/Exception"]).filter goodWord)
def wsX3_isOpen_r1 : List Cond := [Cond.fieldLink RX3 12 "MapCarrier" "land" "LMapCarrier$Land;", Cond.methodLink RX3 62 yX3_checkedEnd, Cond.instanceMethod yX3_checkedEnd, Cond.selects RX3 yX3_checkedEnd yX3_checkedEnd, Cond.initialized RX3, Cond.code yX3_checkedEnd cX3_checkedEnd 4 (some .int), Cond.classLink RX3 208 "java/lang/IndexOutOfBoundsException", Cond.initialized "java/lang/IndexOutOfBoundsException", Cond.methodLink RX3 213 yX1_endAt, Cond.instanceMethod yX1_endAt, Cond.selects RX1 yX1_endAt yX1_endAt, Cond.initialized RX1, Cond.code yX1_endAt cX1_endAt 4 (some .int), Cond.fieldLink RX1 9 "MapCarrier$Land" "exits" "[I", Cond.methodLink RX1 38 yX1_isPlace, Cond.instanceMethod yX1_isPlace, Cond.selects RX1 yX1_isPlace yX1_isPlace, Cond.code yX1_isPlace cX1_isPlace 2 (some .boolean), Cond.fieldLink RX1 34 "MapCarrier$Land" "places" "I", Cond.methodLink RX3 129 yX1_opensAt, Cond.instanceMethod yX1_opensAt, Cond.selects RX1 yX1_opensAt yX1_opensAt, Cond.code yX1_opensAt cX1_opensAt 2 (some .boolean), Cond.fieldLink RX1 28 "MapCarrier$Land" "open" "[Z"]
def wsX3_isOpen_r2 : List Cond := [Cond.static yX3_isEnd, Cond.code yX3_isEnd cX3_isEnd 1 (some .boolean)]
def wsX3_isOpen : List Cond := .code yX3_isOpen cX3_isOpen 3 (some .boolean) :: ((wsX3_isOpen_r1 ++ wsX3_isOpen_r2) ++ wsX30 ++ wsX10 ++ (vx_atS RX3 212 "java/lang/IndexOutOfBoundsException" ["java/lang/RuntimeException", "java/lang/Exception"]).filter goodWord)
def wsX3_hasShepherd : List Cond := .code yX3_hasShepherd cX3_hasShepherd 2 (some .boolean) :: ([.fieldLink RX3 12 "MapCarrier" "land" "LMapCarrier$Land;", .methodLink RX3 39 yX3_checkPlace, .instanceMethod yX3_checkPlace, .selects RX3 yX3_checkPlace yX3_checkPlace, .initialized RX3, .code yX3_checkPlace cX3_checkPlace 2 none, .classLink RX3 208 "java/lang/IndexOutOfBoundsException", .initialized "java/lang/IndexOutOfBoundsException", .methodLink RX3 205 yX1_isPlace, .instanceMethod yX1_isPlace, .selects RX1 yX1_isPlace yX1_isPlace, .initialized RX1, .code yX1_isPlace cX1_isPlace 2 (some .boolean), .fieldLink RX1 34 "MapCarrier$Land" "places" "I"] ++ wsX30 ++ wsX10 ++ (vx_atS RX3 212 "java/lang/IndexOutOfBoundsException" ["java/lang/RuntimeException", "java/lang/Exception"]).filter goodWord)
def wsX3_distance_r1 : List Cond := [Cond.fieldLink RX3 12 "MapCarrier" "land" "LMapCarrier$Land;", Cond.methodLink RX3 39 yX3_checkPlace, Cond.instanceMethod yX3_checkPlace, Cond.selects RX3 yX3_checkPlace yX3_checkPlace, Cond.initialized RX3, Cond.code yX3_checkPlace cX3_checkPlace 2 none, Cond.classLink RX3 208 "java/lang/IndexOutOfBoundsException", Cond.initialized "java/lang/IndexOutOfBoundsException", Cond.methodLink RX3 205 yX1_isPlace, Cond.instanceMethod yX1_isPlace, Cond.selects RX1 yX1_isPlace yX1_isPlace, Cond.initialized RX1, Cond.code yX1_isPlace cX1_isPlace 2 (some .boolean), Cond.fieldLink RX1 34 "MapCarrier$Land" "places" "I", Cond.methodLink RX3 87 yX1_shortest, Cond.instanceMethod yX1_shortest, Cond.selects RX1 yX1_shortest yX1_shortest, Cond.code yX1_shortest cX1_shortest 3 (some .int), Cond.fieldLink RX1 31 "MapCarrier$Land" "far" "[I", Cond.constant RX1 57 (1000000), Cond.methodLink RX1 53 yX1_measure, Cond.instanceMethod yX1_measure, Cond.selects RX1 yX1_measure yX1_measure, Cond.code yX1_measure cX1_measure 6 none]
def wsX3_distance_r2 : List Cond := [Cond.methodLink RX1 61 yJ7_fill_53178, Cond.static yJ7_fill_53178, Cond.initialized RJ7, Cond.code yJ7_fill_53178 cJ7_fill_53178 4 none, Cond.methodLink RX1 38 yX1_isPlace, Cond.methodLink RX1 58 yX1_milesBy, Cond.instanceMethod yX1_milesBy, Cond.selects RX1 yX1_milesBy yX1_milesBy, Cond.code yX1_milesBy cX1_milesBy 2 (some .int), Cond.fieldLink RX1 28 "MapCarrier$Land" "open" "[Z", Cond.fieldLink RX1 25 "MapCarrier$Land" "lengths" "[I", Cond.fieldLink RX1 19 "MapCarrier$Land" "leads" "[I", Cond.static yX3_placeOfEnd, Cond.code yX3_placeOfEnd cX3_placeOfEnd 1 (some .int)]
def wsX3_distance : List Cond := .code yX3_distance cX3_distance 3 (some .int) :: ((wsX3_distance_r1 ++ wsX3_distance_r2) ++ wsX30 ++ wsX10 ++ (vx_atS RX3 212 "java/lang/IndexOutOfBoundsException" ["java/lang/RuntimeException", "java/lang/Exception"]).filter goodWord)
def wsX3_whereIs : List Cond := .code yX3_whereIs cX3_whereIs 1 (some .int) :: ([.fieldLink RX3 12 "MapCarrier" "land" "LMapCarrier$Land;", .fieldLink RX3 21 "MapCarrier" "carrier" "LMapCarrier$Carrier;"] ++ wsX30 ++ wsX10 ++ wsX00)
def wsX3_coins : List Cond := .code yX3_coins cX3_coins 1 (some .int) :: ([.fieldLink RX3 21 "MapCarrier" "carrier" "LMapCarrier$Carrier;"] ++ wsX30 ++ wsX00)
def wsX3_goal : List Cond := .code yX3_goal cX3_goal 1 (some .int) :: ([.fieldLink RX3 21 "MapCarrier" "carrier" "LMapCarrier$Carrier;"] ++ wsX30 ++ wsX00)
def wsX3_wayLength : List Cond := .code yX3_wayLength cX3_wayLength 1 (some .int) :: ([.fieldLink RX3 21 "MapCarrier" "carrier" "LMapCarrier$Carrier;"] ++ wsX30 ++ wsX00)
def wsX3_isTried_r1 : List Cond := [Cond.fieldLink RX3 21 "MapCarrier" "carrier" "LMapCarrier$Carrier;", Cond.methodLink RX3 62 yX3_checkedEnd, Cond.instanceMethod yX3_checkedEnd, Cond.selects RX3 yX3_checkedEnd yX3_checkedEnd, Cond.initialized RX3, Cond.code yX3_checkedEnd cX3_checkedEnd 4 (some .int), Cond.classLink RX3 208 "java/lang/IndexOutOfBoundsException", Cond.initialized "java/lang/IndexOutOfBoundsException", Cond.fieldLink RX3 12 "MapCarrier" "land" "LMapCarrier$Land;", Cond.methodLink RX3 213 yX1_endAt, Cond.instanceMethod yX1_endAt, Cond.selects RX1 yX1_endAt yX1_endAt, Cond.initialized RX1, Cond.code yX1_endAt cX1_endAt 4 (some .int), Cond.fieldLink RX1 9 "MapCarrier$Land" "exits" "[I", Cond.methodLink RX1 38 yX1_isPlace, Cond.instanceMethod yX1_isPlace, Cond.selects RX1 yX1_isPlace yX1_isPlace, Cond.code yX1_isPlace cX1_isPlace 2 (some .boolean), Cond.fieldLink RX1 34 "MapCarrier$Land" "places" "I", Cond.methodLink RX3 96 yX0_isUnderway, Cond.instanceMethod yX0_isUnderway, Cond.selects RX0 yX0_isUnderway yX0_isUnderway, Cond.initialized RX0]
def wsX3_isTried_r2 : List Cond := [Cond.code yX0_isUnderway cX0_isUnderway 1 (some .boolean), Cond.fieldLink RX0 18 "MapCarrier$Carrier" "goal" "I", Cond.methodLink RX3 135 yX0_hasTried, Cond.instanceMethod yX0_hasTried, Cond.selects RX0 yX0_hasTried yX0_hasTried, Cond.code yX0_hasTried cX0_hasTried 2 (some .boolean), Cond.fieldLink RX0 26 "MapCarrier$Carrier" "tried" "[Z", Cond.static yX3_isEnd, Cond.code yX3_isEnd cX3_isEnd 1 (some .boolean)]
def wsX3_isTried : List Cond := .code yX3_isTried cX3_isTried 4 (some .boolean) :: ((wsX3_isTried_r1 ++ wsX3_isTried_r2) ++ wsX30 ++ wsX10 ++ wsX00 ++ (vx_atS RX3 212 "java/lang/IndexOutOfBoundsException" ["java/lang/RuntimeException", "java/lang/Exception"]).filter goodWord)
def wsX3_remembered_r1 : List Cond := [Cond.fieldLink RX3 21 "MapCarrier" "carrier" "LMapCarrier$Carrier;", Cond.methodLink RX3 39 yX3_checkPlace, Cond.instanceMethod yX3_checkPlace, Cond.selects RX3 yX3_checkPlace yX3_checkPlace, Cond.initialized RX3, Cond.code yX3_checkPlace cX3_checkPlace 2 none, Cond.classLink RX3 208 "java/lang/IndexOutOfBoundsException", Cond.initialized "java/lang/IndexOutOfBoundsException", Cond.fieldLink RX3 12 "MapCarrier" "land" "LMapCarrier$Land;", Cond.methodLink RX3 205 yX1_isPlace, Cond.instanceMethod yX1_isPlace, Cond.selects RX1 yX1_isPlace yX1_isPlace, Cond.initialized RX1, Cond.code yX1_isPlace cX1_isPlace 2 (some .boolean), Cond.fieldLink RX1 34 "MapCarrier$Land" "places" "I", Cond.methodLink RX3 138 yX2_exitFor, Cond.instanceMethod yX2_exitFor, Cond.selects RX2 yX2_exitFor yX2_exitFor, Cond.initialized RX2, Cond.code yX2_exitFor cX2_exitFor 4 (some .int), Cond.fieldLink RX2 15 "MapCarrier$Memory" "strengths" "[I", Cond.fieldLink RX2 9 "MapCarrier$Memory" "exits" "[I", Cond.methodLink RX2 18 yX2_spotOf, Cond.static yX2_spotOf]
def wsX3_remembered_r2 : List Cond := [Cond.code yX2_spotOf cX2_spotOf 3 (some .int)]
def wsX3_remembered : List Cond := .code yX3_remembered cX3_remembered 3 (some .int) :: ((wsX3_remembered_r1 ++ wsX3_remembered_r2) ++ wsX30 ++ wsX00 ++ wsX10 ++ wsX20 ++ (vx_atS RX3 212 "java/lang/IndexOutOfBoundsException" ["java/lang/RuntimeException", "java/lang/Exception"]).filter goodWord)
def wsX3_strength : List Cond := .code yX3_strength cX3_strength 3 (some .int) :: ([.fieldLink RX3 21 "MapCarrier" "carrier" "LMapCarrier$Carrier;", .methodLink RX3 39 yX3_checkPlace, .instanceMethod yX3_checkPlace, .selects RX3 yX3_checkPlace yX3_checkPlace, .initialized RX3, .code yX3_checkPlace cX3_checkPlace 2 none, .classLink RX3 208 "java/lang/IndexOutOfBoundsException", .initialized "java/lang/IndexOutOfBoundsException", .fieldLink RX3 12 "MapCarrier" "land" "LMapCarrier$Land;", .methodLink RX3 205 yX1_isPlace, .instanceMethod yX1_isPlace, .selects RX1 yX1_isPlace yX1_isPlace, .initialized RX1, .code yX1_isPlace cX1_isPlace 2 (some .boolean), .fieldLink RX1 34 "MapCarrier$Land" "places" "I", .methodLink RX3 141 yX2_strengthFor, .instanceMethod yX2_strengthFor, .selects RX2 yX2_strengthFor yX2_strengthFor, .initialized RX2, .code yX2_strengthFor cX2_strengthFor 4 (some .int), .fieldLink RX2 15 "MapCarrier$Memory" "strengths" "[I", .methodLink RX2 18 yX2_spotOf, .static yX2_spotOf, .code yX2_spotOf cX2_spotOf 3 (some .int)] ++ wsX30 ++ wsX00 ++ wsX10 ++ wsX20 ++ (vx_atS RX3 212 "java/lang/IndexOutOfBoundsException" ["java/lang/RuntimeException", "java/lang/Exception"]).filter goodWord)
def wsX3_knowsWay_r1 : List Cond := [Cond.fieldLink RX3 21 "MapCarrier" "carrier" "LMapCarrier$Carrier;", Cond.methodLink RX3 39 yX3_checkPlace, Cond.instanceMethod yX3_checkPlace, Cond.selects RX3 yX3_checkPlace yX3_checkPlace, Cond.initialized RX3, Cond.code yX3_checkPlace cX3_checkPlace 2 none, Cond.classLink RX3 208 "java/lang/IndexOutOfBoundsException", Cond.initialized "java/lang/IndexOutOfBoundsException", Cond.fieldLink RX3 12 "MapCarrier" "land" "LMapCarrier$Land;", Cond.methodLink RX3 205 yX1_isPlace, Cond.instanceMethod yX1_isPlace, Cond.selects RX1 yX1_isPlace yX1_isPlace, Cond.initialized RX1, Cond.code yX1_isPlace cX1_isPlace 2 (some .boolean), Cond.fieldLink RX1 34 "MapCarrier$Land" "places" "I", Cond.methodLink RX3 144 yX0_findsByMemory, Cond.instanceMethod yX0_findsByMemory, Cond.selects RX0 yX0_findsByMemory yX0_findsByMemory, Cond.initialized RX0, Cond.code yX0_findsByMemory cX0_findsByMemory 5 (some .boolean), Cond.fieldLink RX0 40 "MapCarrier$Carrier" "at" "I", Cond.fieldLink RX0 36 "MapCarrier$Carrier" "land" "LMapCarrier$Land;", Cond.fieldLink RX0 12 "MapCarrier$Carrier" "memory" "LMapCarrier$Memory;", Cond.methodLink RX0 98 yX2_exitFor]
def wsX3_knowsWay_r2 : List Cond := [Cond.instanceMethod yX2_exitFor, Cond.selects RX2 yX2_exitFor yX2_exitFor, Cond.initialized RX2, Cond.code yX2_exitFor cX2_exitFor 4 (some .int), Cond.fieldLink RX2 15 "MapCarrier$Memory" "strengths" "[I", Cond.fieldLink RX2 9 "MapCarrier$Memory" "exits" "[I", Cond.methodLink RX2 18 yX2_spotOf, Cond.static yX2_spotOf, Cond.code yX2_spotOf cX2_spotOf 3 (some .int), Cond.methodLink RX0 102 yX1_endAt, Cond.instanceMethod yX1_endAt, Cond.selects RX1 yX1_endAt yX1_endAt, Cond.code yX1_endAt cX1_endAt 4 (some .int), Cond.fieldLink RX1 9 "MapCarrier$Land" "exits" "[I", Cond.methodLink RX1 38 yX1_isPlace, Cond.methodLink RX0 143 yX1_opensAt, Cond.instanceMethod yX1_opensAt, Cond.selects RX1 yX1_opensAt yX1_opensAt, Cond.code yX1_opensAt cX1_opensAt 2 (some .boolean), Cond.fieldLink RX1 28 "MapCarrier$Land" "open" "[Z", Cond.static yX3_isEnd, Cond.code yX3_isEnd cX3_isEnd 1 (some .boolean), Cond.methodLink RX0 146 yX1_beyond, Cond.instanceMethod yX1_beyond]
def wsX3_knowsWay_r3 : List Cond := [Cond.selects RX1 yX1_beyond yX1_beyond, Cond.code yX1_beyond cX1_beyond 2 (some .int), Cond.fieldLink RX1 19 "MapCarrier$Land" "leads" "[I"]
def wsX3_knowsWay : List Cond := .code yX3_knowsWay cX3_knowsWay 2 (some .boolean) :: ((wsX3_knowsWay_r1 ++ (wsX3_knowsWay_r2 ++ wsX3_knowsWay_r3)) ++ wsX30 ++ wsX10 ++ wsX00 ++ wsX20 ++ (vx_atS RX3 212 "java/lang/IndexOutOfBoundsException" ["java/lang/RuntimeException", "java/lang/Exception"]).filter goodWord)
def wsX3_milesWalked : List Cond := .code yX3_milesWalked cX3_milesWalked 1 (some .int) :: ([.fieldLink RX3 21 "MapCarrier" "carrier" "LMapCarrier$Carrier;"] ++ wsX30 ++ wsX00)
def wsX3_milesDoubled : List Cond := .code yX3_milesDoubled cX3_milesDoubled 1 (some .int) :: ([.fieldLink RX3 21 "MapCarrier" "carrier" "LMapCarrier$Carrier;"] ++ wsX30 ++ wsX00)
def wsX3_errandsDone : List Cond := .code yX3_errandsDone cX3_errandsDone 1 (some .int) :: ([.fieldLink RX3 21 "MapCarrier" "carrier" "LMapCarrier$Carrier;"] ++ wsX30 ++ wsX00)
def wsX3_errandsInVain : List Cond := .code yX3_errandsInVain cX3_errandsInVain 1 (some .int) :: ([.fieldLink RX3 21 "MapCarrier" "carrier" "LMapCarrier$Carrier;"] ++ wsX30 ++ wsX00)
def wsX3_asked : List Cond := .code yX3_asked cX3_asked 1 (some .int) :: ([.fieldLink RX3 21 "MapCarrier" "carrier" "LMapCarrier$Carrier;"] ++ wsX30 ++ wsX00)
def wsX3_trialMiles_r1 : List Cond := [Cond.fieldLink RX3 25 "MapCarrier" "trial" "LMapCarrier$Carrier;", Cond.fieldLink RX3 21 "MapCarrier" "carrier" "LMapCarrier$Carrier;", Cond.methodLink RX3 224 yX0_startLike, Cond.instanceMethod yX0_startLike, Cond.selects RX0 yX0_startLike yX0_startLike, Cond.initialized RX0, Cond.code yX0_startLike cX0_startLike 3 none, Cond.fieldLink RX0 40 "MapCarrier$Carrier" "at" "I", Cond.fieldLink RX0 43 "MapCarrier$Carrier" "coins" "I", Cond.fieldLink RX0 12 "MapCarrier$Carrier" "memory" "LMapCarrier$Memory;", Cond.fieldLink RX0 33 "MapCarrier$Carrier" "guest" "I", Cond.fieldLink RX0 50 "MapCarrier$Carrier" "walked" "I", Cond.fieldLink RX0 53 "MapCarrier$Carrier" "inVain" "I", Cond.methodLink RX0 46 yX2_copyFrom, Cond.instanceMethod yX2_copyFrom, Cond.selects RX2 yX2_copyFrom yX2_copyFrom, Cond.initialized RX2, Cond.code yX2_copyFrom cX2_copyFrom 2 none, Cond.fieldLink RX2 9 "MapCarrier$Memory" "exits" "[I", Cond.methodLink RX2 34 arraycopyName, Cond.native arraycopyName, Cond.static arraycopyName, Cond.initialized "java/lang/System", Cond.fieldLink RX2 15 "MapCarrier$Memory" "strengths" "[I"]
def wsX3_trialMiles_r2 : List Cond := [Cond.methodLink RX3 90 yX0_begin, Cond.instanceMethod yX0_begin, Cond.selects RX0 yX0_begin yX0_begin, Cond.code yX0_begin cX0_begin 2 none, Cond.fieldLink RX0 26 "MapCarrier$Carrier" "tried" "[Z", Cond.fieldLink RX0 30 "MapCarrier$Carrier" "askedAt" "[Z", Cond.fieldLink RX0 64 "MapCarrier$Carrier" "wayLength" "I", Cond.fieldLink RX0 18 "MapCarrier$Carrier" "goal" "I", Cond.fieldLink RX0 67 "MapCarrier$Carrier" "done" "I", Cond.methodLink RX0 60 yX0_forget, Cond.static yX0_forget, Cond.code yX0_forget cX0_forget 2 none, Cond.methodLink RX0 70 yX0_endErrand, Cond.instanceMethod yX0_endErrand, Cond.selects RX0 yX0_endErrand yX0_endErrand, Cond.code yX0_endErrand cX0_endErrand 1 none, Cond.methodLink RX3 96 yX0_isUnderway, Cond.instanceMethod yX0_isUnderway, Cond.selects RX0 yX0_isUnderway yX0_isUnderway, Cond.code yX0_isUnderway cX0_isUnderway 1 (some .boolean), Cond.methodLink RX3 100 yX0_step, Cond.instanceMethod yX0_step, Cond.selects RX0 yX0_step yX0_step, Cond.code yX0_step cX0_step 2 (some .boolean)]
def wsX3_trialMiles_r3 : List Cond := [Cond.methodLink RX0 73 yX0_rememberedEnd, Cond.instanceMethod yX0_rememberedEnd, Cond.selects RX0 yX0_rememberedEnd yX0_rememberedEnd, Cond.code yX0_rememberedEnd cX0_rememberedEnd 2 (some .int), Cond.fieldLink RX0 36 "MapCarrier$Carrier" "land" "LMapCarrier$Land;", Cond.methodLink RX0 98 yX2_exitFor, Cond.instanceMethod yX2_exitFor, Cond.selects RX2 yX2_exitFor yX2_exitFor, Cond.code yX2_exitFor cX2_exitFor 4 (some .int), Cond.methodLink RX2 18 yX2_spotOf, Cond.static yX2_spotOf, Cond.code yX2_spotOf cX2_spotOf 3 (some .int), Cond.methodLink RX0 102 yX1_endAt, Cond.instanceMethod yX1_endAt, Cond.selects RX1 yX1_endAt yX1_endAt, Cond.initialized RX1, Cond.code yX1_endAt cX1_endAt 4 (some .int), Cond.fieldLink RX1 9 "MapCarrier$Land" "exits" "[I", Cond.methodLink RX1 38 yX1_isPlace, Cond.instanceMethod yX1_isPlace, Cond.selects RX1 yX1_isPlace yX1_isPlace, Cond.code yX1_isPlace cX1_isPlace 2 (some .boolean), Cond.fieldLink RX1 34 "MapCarrier$Land" "places" "I", Cond.methodLink RX0 105 yX0_canTake]
def wsX3_trialMiles_r4 : List Cond := [Cond.instanceMethod yX0_canTake, Cond.selects RX0 yX0_canTake yX0_canTake, Cond.code yX0_canTake cX0_canTake 2 (some .boolean), Cond.static yX3_isEnd, Cond.initialized RX3, Cond.code yX3_isEnd cX3_isEnd 1 (some .boolean), Cond.methodLink RX0 77 yX0_askedEnd, Cond.instanceMethod yX0_askedEnd, Cond.selects RX0 yX0_askedEnd yX0_askedEnd, Cond.code yX0_askedEnd cX0_askedEnd 3 (some .int), Cond.fieldLink RX0 114 "MapCarrier$Carrier" "questions" "I", Cond.methodLink RX0 108 yX1_isPlace, Cond.methodLink RX0 117 yX1_endTowards, Cond.instanceMethod yX1_endTowards, Cond.selects RX1 yX1_endTowards yX1_endTowards, Cond.code yX1_endTowards cX1_endTowards 5 (some .int), Cond.fieldLink RX1 31 "MapCarrier$Land" "far" "[I", Cond.constant RX1 57 (1000000), Cond.methodLink RX1 53 yX1_measure, Cond.instanceMethod yX1_measure, Cond.selects RX1 yX1_measure yX1_measure, Cond.code yX1_measure cX1_measure 6 none, Cond.methodLink RX1 61 yJ7_fill_53178, Cond.static yJ7_fill_53178]
def wsX3_trialMiles_r5 : List Cond := [Cond.initialized RJ7, Cond.code yJ7_fill_53178 cJ7_fill_53178 4 none, Cond.methodLink RX1 58 yX1_milesBy, Cond.instanceMethod yX1_milesBy, Cond.selects RX1 yX1_milesBy yX1_milesBy, Cond.code yX1_milesBy cX1_milesBy 2 (some .int), Cond.fieldLink RX1 28 "MapCarrier$Land" "open" "[Z", Cond.fieldLink RX1 25 "MapCarrier$Land" "lengths" "[I", Cond.fieldLink RX1 19 "MapCarrier$Land" "leads" "[I", Cond.static yX3_placeOfEnd, Cond.code yX3_placeOfEnd cX3_placeOfEnd 1 (some .int), Cond.static yX3_exitOfEnd, Cond.code yX3_exitOfEnd cX3_exitOfEnd 1 (some .int), Cond.methodLink RX0 124 yX2_learn, Cond.instanceMethod yX2_learn, Cond.selects RX2 yX2_learn yX2_learn, Cond.code yX2_learn cX2_learn 5 none, Cond.methodLink RX0 80 yX0_firstUntried, Cond.instanceMethod yX0_firstUntried, Cond.selects RX0 yX0_firstUntried yX0_firstUntried, Cond.code yX0_firstUntried cX0_firstUntried 3 (some .int), Cond.methodLink RX0 83 yX0_take, Cond.instanceMethod yX0_take, Cond.selects RX0 yX0_take yX0_take]
def wsX3_trialMiles_r6 : List Cond := [Cond.code yX0_take cX0_take 3 none, Cond.fieldLink RX0 22 "MapCarrier$Carrier" "way" "[I", Cond.methodLink RX0 128 yX1_twinOf, Cond.instanceMethod yX1_twinOf, Cond.selects RX1 yX1_twinOf yX1_twinOf, Cond.code yX1_twinOf cX1_twinOf 2 (some .int), Cond.fieldLink RX1 22 "MapCarrier$Land" "twins" "[I", Cond.methodLink RX0 131 yX1_milesAt, Cond.instanceMethod yX1_milesAt, Cond.selects RX1 yX1_milesAt yX1_milesAt, Cond.code yX1_milesAt cX1_milesAt 2 (some .int), Cond.methodLink RX0 87 yX0_doubleBack, Cond.instanceMethod yX0_doubleBack, Cond.selects RX0 yX0_doubleBack yX0_doubleBack, Cond.code yX0_doubleBack cX0_doubleBack 3 none, Cond.fieldLink RX0 137 "MapCarrier$Carrier" "doubled" "I", Cond.methodLink RX0 90 yX0_rememberWay, Cond.instanceMethod yX0_rememberWay, Cond.selects RX0 yX0_rememberWay yX0_rememberWay, Cond.code yX0_rememberWay cX0_rememberWay 2 none, Cond.methodLink RX0 140 yX2_confirm, Cond.instanceMethod yX2_confirm, Cond.selects RX2 yX2_confirm yX2_confirm, Cond.code yX2_confirm cX2_confirm 5 none]
def wsX3_trialMiles_r7 : List Cond := [Cond.methodLink RX2 22 Lib.Math.min.name, Cond.static Lib.Math.min.name, Cond.initialized "java/lang/Math", Cond.code Lib.Math.min.name Lib.Math.min.code 2 (some .int), Cond.methodLink RX2 27 yX2_learn]
def wsX3_trialMiles : List Cond := .code yX3_trialMiles cX3_trialMiles 4 (some .int) :: ((wsX3_trialMiles_r1 ++ (wsX3_trialMiles_r2 ++ (wsX3_trialMiles_r3 ++ (wsX3_trialMiles_r4 ++ (wsX3_trialMiles_r5 ++ (wsX3_trialMiles_r6 ++ wsX3_trialMiles_r7)))))) ++ wsX30 ++ wsX00 ++ wsX20 ++ wsX10)
def wsX3_wouldWalk_r1 : List Cond := [Cond.methodLink RX3 39 yX3_checkPlace, Cond.instanceMethod yX3_checkPlace, Cond.selects RX3 yX3_checkPlace yX3_checkPlace, Cond.initialized RX3, Cond.code yX3_checkPlace cX3_checkPlace 2 none, Cond.classLink RX3 208 "java/lang/IndexOutOfBoundsException", Cond.initialized "java/lang/IndexOutOfBoundsException", Cond.fieldLink RX3 12 "MapCarrier" "land" "LMapCarrier$Land;", Cond.methodLink RX3 205 yX1_isPlace, Cond.instanceMethod yX1_isPlace, Cond.selects RX1 yX1_isPlace yX1_isPlace, Cond.initialized RX1, Cond.code yX1_isPlace cX1_isPlace 2 (some .boolean), Cond.fieldLink RX1 34 "MapCarrier$Land" "places" "I", Cond.methodLink RX3 81 yX3_checkIdle, Cond.instanceMethod yX3_checkIdle, Cond.selects RX3 yX3_checkIdle yX3_checkIdle, Cond.code yX3_checkIdle cX3_checkIdle 1 none, Cond.classLink RX3 32 "java/lang/IllegalStateException", Cond.initialized "java/lang/IllegalStateException", Cond.fieldLink RX3 21 "MapCarrier" "carrier" "LMapCarrier$Carrier;", Cond.methodLink RX3 96 yX0_isUnderway, Cond.instanceMethod yX0_isUnderway, Cond.selects RX0 yX0_isUnderway yX0_isUnderway]
def wsX3_wouldWalk_r2 : List Cond := [Cond.initialized RX0, Cond.code yX0_isUnderway cX0_isUnderway 1 (some .boolean), Cond.fieldLink RX0 18 "MapCarrier$Carrier" "goal" "I", Cond.methodLink RX3 162 yX3_trialMiles, Cond.instanceMethod yX3_trialMiles, Cond.selects RX3 yX3_trialMiles yX3_trialMiles, Cond.code yX3_trialMiles cX3_trialMiles 4 (some .int), Cond.fieldLink RX3 25 "MapCarrier" "trial" "LMapCarrier$Carrier;", Cond.methodLink RX3 224 yX0_startLike, Cond.instanceMethod yX0_startLike, Cond.selects RX0 yX0_startLike yX0_startLike, Cond.code yX0_startLike cX0_startLike 3 none, Cond.fieldLink RX0 40 "MapCarrier$Carrier" "at" "I", Cond.fieldLink RX0 43 "MapCarrier$Carrier" "coins" "I", Cond.fieldLink RX0 12 "MapCarrier$Carrier" "memory" "LMapCarrier$Memory;", Cond.fieldLink RX0 33 "MapCarrier$Carrier" "guest" "I", Cond.fieldLink RX0 50 "MapCarrier$Carrier" "walked" "I", Cond.fieldLink RX0 53 "MapCarrier$Carrier" "inVain" "I", Cond.methodLink RX0 46 yX2_copyFrom, Cond.instanceMethod yX2_copyFrom, Cond.selects RX2 yX2_copyFrom yX2_copyFrom, Cond.initialized RX2, Cond.code yX2_copyFrom cX2_copyFrom 2 none, Cond.fieldLink RX2 9 "MapCarrier$Memory" "exits" "[I"]
def wsX3_wouldWalk_r3 : List Cond := [Cond.methodLink RX2 34 arraycopyName, Cond.native arraycopyName, Cond.static arraycopyName, Cond.initialized "java/lang/System", Cond.fieldLink RX2 15 "MapCarrier$Memory" "strengths" "[I", Cond.methodLink RX3 90 yX0_begin, Cond.instanceMethod yX0_begin, Cond.selects RX0 yX0_begin yX0_begin, Cond.code yX0_begin cX0_begin 2 none, Cond.fieldLink RX0 26 "MapCarrier$Carrier" "tried" "[Z", Cond.fieldLink RX0 30 "MapCarrier$Carrier" "askedAt" "[Z", Cond.fieldLink RX0 64 "MapCarrier$Carrier" "wayLength" "I", Cond.fieldLink RX0 67 "MapCarrier$Carrier" "done" "I", Cond.methodLink RX0 60 yX0_forget, Cond.static yX0_forget, Cond.code yX0_forget cX0_forget 2 none, Cond.methodLink RX0 70 yX0_endErrand, Cond.instanceMethod yX0_endErrand, Cond.selects RX0 yX0_endErrand yX0_endErrand, Cond.code yX0_endErrand cX0_endErrand 1 none, Cond.methodLink RX3 100 yX0_step, Cond.instanceMethod yX0_step, Cond.selects RX0 yX0_step yX0_step, Cond.code yX0_step cX0_step 2 (some .boolean)]
def wsX3_wouldWalk_r4 : List Cond := [Cond.methodLink RX0 73 yX0_rememberedEnd, Cond.instanceMethod yX0_rememberedEnd, Cond.selects RX0 yX0_rememberedEnd yX0_rememberedEnd, Cond.code yX0_rememberedEnd cX0_rememberedEnd 2 (some .int), Cond.fieldLink RX0 36 "MapCarrier$Carrier" "land" "LMapCarrier$Land;", Cond.methodLink RX0 98 yX2_exitFor, Cond.instanceMethod yX2_exitFor, Cond.selects RX2 yX2_exitFor yX2_exitFor, Cond.code yX2_exitFor cX2_exitFor 4 (some .int), Cond.methodLink RX2 18 yX2_spotOf, Cond.static yX2_spotOf, Cond.code yX2_spotOf cX2_spotOf 3 (some .int), Cond.methodLink RX0 102 yX1_endAt, Cond.instanceMethod yX1_endAt, Cond.selects RX1 yX1_endAt yX1_endAt, Cond.code yX1_endAt cX1_endAt 4 (some .int), Cond.fieldLink RX1 9 "MapCarrier$Land" "exits" "[I", Cond.methodLink RX1 38 yX1_isPlace, Cond.methodLink RX0 105 yX0_canTake, Cond.instanceMethod yX0_canTake, Cond.selects RX0 yX0_canTake yX0_canTake, Cond.code yX0_canTake cX0_canTake 2 (some .boolean), Cond.static yX3_isEnd, Cond.code yX3_isEnd cX3_isEnd 1 (some .boolean)]
def wsX3_wouldWalk_r5 : List Cond := [Cond.methodLink RX0 77 yX0_askedEnd, Cond.instanceMethod yX0_askedEnd, Cond.selects RX0 yX0_askedEnd yX0_askedEnd, Cond.code yX0_askedEnd cX0_askedEnd 3 (some .int), Cond.fieldLink RX0 114 "MapCarrier$Carrier" "questions" "I", Cond.methodLink RX0 108 yX1_isPlace, Cond.methodLink RX0 117 yX1_endTowards, Cond.instanceMethod yX1_endTowards, Cond.selects RX1 yX1_endTowards yX1_endTowards, Cond.code yX1_endTowards cX1_endTowards 5 (some .int), Cond.fieldLink RX1 31 "MapCarrier$Land" "far" "[I", Cond.constant RX1 57 (1000000), Cond.methodLink RX1 53 yX1_measure, Cond.instanceMethod yX1_measure, Cond.selects RX1 yX1_measure yX1_measure, Cond.code yX1_measure cX1_measure 6 none, Cond.methodLink RX1 61 yJ7_fill_53178, Cond.static yJ7_fill_53178, Cond.initialized RJ7, Cond.code yJ7_fill_53178 cJ7_fill_53178 4 none, Cond.methodLink RX1 58 yX1_milesBy, Cond.instanceMethod yX1_milesBy, Cond.selects RX1 yX1_milesBy yX1_milesBy, Cond.code yX1_milesBy cX1_milesBy 2 (some .int)]
def wsX3_wouldWalk_r6 : List Cond := [Cond.fieldLink RX1 28 "MapCarrier$Land" "open" "[Z", Cond.fieldLink RX1 25 "MapCarrier$Land" "lengths" "[I", Cond.fieldLink RX1 19 "MapCarrier$Land" "leads" "[I", Cond.static yX3_placeOfEnd, Cond.code yX3_placeOfEnd cX3_placeOfEnd 1 (some .int), Cond.static yX3_exitOfEnd, Cond.code yX3_exitOfEnd cX3_exitOfEnd 1 (some .int), Cond.methodLink RX0 124 yX2_learn, Cond.instanceMethod yX2_learn, Cond.selects RX2 yX2_learn yX2_learn, Cond.code yX2_learn cX2_learn 5 none, Cond.methodLink RX0 80 yX0_firstUntried, Cond.instanceMethod yX0_firstUntried, Cond.selects RX0 yX0_firstUntried yX0_firstUntried, Cond.code yX0_firstUntried cX0_firstUntried 3 (some .int), Cond.methodLink RX0 83 yX0_take, Cond.instanceMethod yX0_take, Cond.selects RX0 yX0_take yX0_take, Cond.code yX0_take cX0_take 3 none, Cond.fieldLink RX0 22 "MapCarrier$Carrier" "way" "[I", Cond.methodLink RX0 128 yX1_twinOf, Cond.instanceMethod yX1_twinOf, Cond.selects RX1 yX1_twinOf yX1_twinOf, Cond.code yX1_twinOf cX1_twinOf 2 (some .int)]
def wsX3_wouldWalk_r7 : List Cond := [Cond.fieldLink RX1 22 "MapCarrier$Land" "twins" "[I", Cond.methodLink RX0 131 yX1_milesAt, Cond.instanceMethod yX1_milesAt, Cond.selects RX1 yX1_milesAt yX1_milesAt, Cond.code yX1_milesAt cX1_milesAt 2 (some .int), Cond.methodLink RX0 87 yX0_doubleBack, Cond.instanceMethod yX0_doubleBack, Cond.selects RX0 yX0_doubleBack yX0_doubleBack, Cond.code yX0_doubleBack cX0_doubleBack 3 none, Cond.fieldLink RX0 137 "MapCarrier$Carrier" "doubled" "I", Cond.methodLink RX0 90 yX0_rememberWay, Cond.instanceMethod yX0_rememberWay, Cond.selects RX0 yX0_rememberWay yX0_rememberWay, Cond.code yX0_rememberWay cX0_rememberWay 2 none, Cond.methodLink RX0 140 yX2_confirm, Cond.instanceMethod yX2_confirm, Cond.selects RX2 yX2_confirm yX2_confirm, Cond.code yX2_confirm cX2_confirm 5 none, Cond.methodLink RX2 22 Lib.Math.min.name, Cond.static Lib.Math.min.name, Cond.initialized "java/lang/Math", Cond.code Lib.Math.min.name Lib.Math.min.code 2 (some .int), Cond.methodLink RX2 27 yX2_learn]
def wsX3_wouldWalk : List Cond := .code yX3_wouldWalk cX3_wouldWalk 2 (some .int) :: ((wsX3_wouldWalk_r1 ++ (wsX3_wouldWalk_r2 ++ (wsX3_wouldWalk_r3 ++ (wsX3_wouldWalk_r4 ++ (wsX3_wouldWalk_r5 ++ (wsX3_wouldWalk_r6 ++ wsX3_wouldWalk_r7)))))) ++ wsX30 ++ wsX10 ++ wsX00 ++ wsX20 ++ (vx_atS RX3 212 "java/lang/IndexOutOfBoundsException" ["java/lang/RuntimeException", "java/lang/Exception"]).filter goodWord ++ (vx_atS RX3 36 "java/lang/IllegalStateException" ["java/lang/RuntimeException", "java/lang/Exception"]).filter goodWord)
def wsX3_bestShepherd_r1 : List Cond := [Cond.fieldLink RX3 12 "MapCarrier" "land" "LMapCarrier$Land;", Cond.methodLink RX3 39 yX3_checkPlace, Cond.instanceMethod yX3_checkPlace, Cond.selects RX3 yX3_checkPlace yX3_checkPlace, Cond.initialized RX3, Cond.code yX3_checkPlace cX3_checkPlace 2 none, Cond.classLink RX3 208 "java/lang/IndexOutOfBoundsException", Cond.initialized "java/lang/IndexOutOfBoundsException", Cond.methodLink RX3 205 yX1_isPlace, Cond.instanceMethod yX1_isPlace, Cond.selects RX1 yX1_isPlace yX1_isPlace, Cond.initialized RX1, Cond.code yX1_isPlace cX1_isPlace 2 (some .boolean), Cond.fieldLink RX1 34 "MapCarrier$Land" "places" "I", Cond.methodLink RX3 81 yX3_checkIdle, Cond.instanceMethod yX3_checkIdle, Cond.selects RX3 yX3_checkIdle yX3_checkIdle, Cond.code yX3_checkIdle cX3_checkIdle 1 none, Cond.classLink RX3 32 "java/lang/IllegalStateException", Cond.initialized "java/lang/IllegalStateException", Cond.fieldLink RX3 21 "MapCarrier" "carrier" "LMapCarrier$Carrier;", Cond.methodLink RX3 96 yX0_isUnderway, Cond.instanceMethod yX0_isUnderway, Cond.selects RX0 yX0_isUnderway yX0_isUnderway]
def wsX3_bestShepherd_r2 : List Cond := [Cond.initialized RX0, Cond.code yX0_isUnderway cX0_isUnderway 1 (some .boolean), Cond.fieldLink RX0 18 "MapCarrier$Carrier" "goal" "I", Cond.methodLink RX3 162 yX3_trialMiles, Cond.instanceMethod yX3_trialMiles, Cond.selects RX3 yX3_trialMiles yX3_trialMiles, Cond.code yX3_trialMiles cX3_trialMiles 4 (some .int), Cond.fieldLink RX3 25 "MapCarrier" "trial" "LMapCarrier$Carrier;", Cond.methodLink RX3 224 yX0_startLike, Cond.instanceMethod yX0_startLike, Cond.selects RX0 yX0_startLike yX0_startLike, Cond.code yX0_startLike cX0_startLike 3 none, Cond.fieldLink RX0 40 "MapCarrier$Carrier" "at" "I", Cond.fieldLink RX0 43 "MapCarrier$Carrier" "coins" "I", Cond.fieldLink RX0 12 "MapCarrier$Carrier" "memory" "LMapCarrier$Memory;", Cond.fieldLink RX0 33 "MapCarrier$Carrier" "guest" "I", Cond.fieldLink RX0 50 "MapCarrier$Carrier" "walked" "I", Cond.fieldLink RX0 53 "MapCarrier$Carrier" "inVain" "I", Cond.methodLink RX0 46 yX2_copyFrom, Cond.instanceMethod yX2_copyFrom, Cond.selects RX2 yX2_copyFrom yX2_copyFrom, Cond.initialized RX2, Cond.code yX2_copyFrom cX2_copyFrom 2 none, Cond.fieldLink RX2 9 "MapCarrier$Memory" "exits" "[I"]
def wsX3_bestShepherd_r3 : List Cond := [Cond.methodLink RX2 34 arraycopyName, Cond.native arraycopyName, Cond.static arraycopyName, Cond.initialized "java/lang/System", Cond.fieldLink RX2 15 "MapCarrier$Memory" "strengths" "[I", Cond.methodLink RX3 90 yX0_begin, Cond.instanceMethod yX0_begin, Cond.selects RX0 yX0_begin yX0_begin, Cond.code yX0_begin cX0_begin 2 none, Cond.fieldLink RX0 26 "MapCarrier$Carrier" "tried" "[Z", Cond.fieldLink RX0 30 "MapCarrier$Carrier" "askedAt" "[Z", Cond.fieldLink RX0 64 "MapCarrier$Carrier" "wayLength" "I", Cond.fieldLink RX0 67 "MapCarrier$Carrier" "done" "I", Cond.methodLink RX0 60 yX0_forget, Cond.static yX0_forget, Cond.code yX0_forget cX0_forget 2 none, Cond.methodLink RX0 70 yX0_endErrand, Cond.instanceMethod yX0_endErrand, Cond.selects RX0 yX0_endErrand yX0_endErrand, Cond.code yX0_endErrand cX0_endErrand 1 none, Cond.methodLink RX3 100 yX0_step, Cond.instanceMethod yX0_step, Cond.selects RX0 yX0_step yX0_step, Cond.code yX0_step cX0_step 2 (some .boolean)]
def wsX3_bestShepherd_r4 : List Cond := [Cond.methodLink RX0 73 yX0_rememberedEnd, Cond.instanceMethod yX0_rememberedEnd, Cond.selects RX0 yX0_rememberedEnd yX0_rememberedEnd, Cond.code yX0_rememberedEnd cX0_rememberedEnd 2 (some .int), Cond.fieldLink RX0 36 "MapCarrier$Carrier" "land" "LMapCarrier$Land;", Cond.methodLink RX0 98 yX2_exitFor, Cond.instanceMethod yX2_exitFor, Cond.selects RX2 yX2_exitFor yX2_exitFor, Cond.code yX2_exitFor cX2_exitFor 4 (some .int), Cond.methodLink RX2 18 yX2_spotOf, Cond.static yX2_spotOf, Cond.code yX2_spotOf cX2_spotOf 3 (some .int), Cond.methodLink RX0 102 yX1_endAt, Cond.instanceMethod yX1_endAt, Cond.selects RX1 yX1_endAt yX1_endAt, Cond.code yX1_endAt cX1_endAt 4 (some .int), Cond.fieldLink RX1 9 "MapCarrier$Land" "exits" "[I", Cond.methodLink RX1 38 yX1_isPlace, Cond.methodLink RX0 105 yX0_canTake, Cond.instanceMethod yX0_canTake, Cond.selects RX0 yX0_canTake yX0_canTake, Cond.code yX0_canTake cX0_canTake 2 (some .boolean), Cond.static yX3_isEnd, Cond.code yX3_isEnd cX3_isEnd 1 (some .boolean)]
def wsX3_bestShepherd_r5 : List Cond := [Cond.methodLink RX0 77 yX0_askedEnd, Cond.instanceMethod yX0_askedEnd, Cond.selects RX0 yX0_askedEnd yX0_askedEnd, Cond.code yX0_askedEnd cX0_askedEnd 3 (some .int), Cond.fieldLink RX0 114 "MapCarrier$Carrier" "questions" "I", Cond.methodLink RX0 108 yX1_isPlace, Cond.methodLink RX0 117 yX1_endTowards, Cond.instanceMethod yX1_endTowards, Cond.selects RX1 yX1_endTowards yX1_endTowards, Cond.code yX1_endTowards cX1_endTowards 5 (some .int), Cond.fieldLink RX1 31 "MapCarrier$Land" "far" "[I", Cond.constant RX1 57 (1000000), Cond.methodLink RX1 53 yX1_measure, Cond.instanceMethod yX1_measure, Cond.selects RX1 yX1_measure yX1_measure, Cond.code yX1_measure cX1_measure 6 none, Cond.methodLink RX1 61 yJ7_fill_53178, Cond.static yJ7_fill_53178, Cond.initialized RJ7, Cond.code yJ7_fill_53178 cJ7_fill_53178 4 none, Cond.methodLink RX1 58 yX1_milesBy, Cond.instanceMethod yX1_milesBy, Cond.selects RX1 yX1_milesBy yX1_milesBy, Cond.code yX1_milesBy cX1_milesBy 2 (some .int)]
def wsX3_bestShepherd_r6 : List Cond := [Cond.fieldLink RX1 28 "MapCarrier$Land" "open" "[Z", Cond.fieldLink RX1 25 "MapCarrier$Land" "lengths" "[I", Cond.fieldLink RX1 19 "MapCarrier$Land" "leads" "[I", Cond.static yX3_placeOfEnd, Cond.code yX3_placeOfEnd cX3_placeOfEnd 1 (some .int), Cond.static yX3_exitOfEnd, Cond.code yX3_exitOfEnd cX3_exitOfEnd 1 (some .int), Cond.methodLink RX0 124 yX2_learn, Cond.instanceMethod yX2_learn, Cond.selects RX2 yX2_learn yX2_learn, Cond.code yX2_learn cX2_learn 5 none, Cond.methodLink RX0 80 yX0_firstUntried, Cond.instanceMethod yX0_firstUntried, Cond.selects RX0 yX0_firstUntried yX0_firstUntried, Cond.code yX0_firstUntried cX0_firstUntried 3 (some .int), Cond.methodLink RX0 83 yX0_take, Cond.instanceMethod yX0_take, Cond.selects RX0 yX0_take yX0_take, Cond.code yX0_take cX0_take 3 none, Cond.fieldLink RX0 22 "MapCarrier$Carrier" "way" "[I", Cond.methodLink RX0 128 yX1_twinOf, Cond.instanceMethod yX1_twinOf, Cond.selects RX1 yX1_twinOf yX1_twinOf, Cond.code yX1_twinOf cX1_twinOf 2 (some .int)]
def wsX3_bestShepherd_r7 : List Cond := [Cond.fieldLink RX1 22 "MapCarrier$Land" "twins" "[I", Cond.methodLink RX0 131 yX1_milesAt, Cond.instanceMethod yX1_milesAt, Cond.selects RX1 yX1_milesAt yX1_milesAt, Cond.code yX1_milesAt cX1_milesAt 2 (some .int), Cond.methodLink RX0 87 yX0_doubleBack, Cond.instanceMethod yX0_doubleBack, Cond.selects RX0 yX0_doubleBack yX0_doubleBack, Cond.code yX0_doubleBack cX0_doubleBack 3 none, Cond.fieldLink RX0 137 "MapCarrier$Carrier" "doubled" "I", Cond.methodLink RX0 90 yX0_rememberWay, Cond.instanceMethod yX0_rememberWay, Cond.selects RX0 yX0_rememberWay yX0_rememberWay, Cond.code yX0_rememberWay cX0_rememberWay 2 none, Cond.methodLink RX0 140 yX2_confirm, Cond.instanceMethod yX2_confirm, Cond.selects RX2 yX2_confirm yX2_confirm, Cond.code yX2_confirm cX2_confirm 5 none, Cond.methodLink RX2 22 Lib.Math.min.name, Cond.static Lib.Math.min.name, Cond.initialized "java/lang/Math", Cond.code Lib.Math.min.name Lib.Math.min.code 2 (some .int), Cond.methodLink RX2 27 yX2_learn]
def wsX3_bestShepherd : List Cond := .code yX3_bestShepherd cX3_bestShepherd 6 (some .int) :: ((wsX3_bestShepherd_r1 ++ (wsX3_bestShepherd_r2 ++ (wsX3_bestShepherd_r3 ++ (wsX3_bestShepherd_r4 ++ (wsX3_bestShepherd_r5 ++ (wsX3_bestShepherd_r6 ++ wsX3_bestShepherd_r7)))))) ++ wsX30 ++ wsX10 ++ wsX00 ++ wsX20 ++ (vx_atS RX3 212 "java/lang/IndexOutOfBoundsException" ["java/lang/RuntimeException", "java/lang/Exception"]).filter goodWord ++ (vx_atS RX3 36 "java/lang/IllegalStateException" ["java/lang/RuntimeException", "java/lang/Exception"]).filter goodWord)
def wsX3_meanMiles : List Cond := .code yX3_meanMiles cX3_meanMiles 2 (some .double) :: ([.fieldLink RX3 21 "MapCarrier" "carrier" "LMapCarrier$Carrier;"] ++ wsX30 ++ wsX00)
def wsX3_mix : List Cond := .code yX3_mix cX3_mix 4 (some .long) :: ([.constantLong RX3 228 (31)])
def wsX3_mixFlag : List Cond := .code yX3_mixFlag cX3_mixFlag 3 (some .long) :: ([.methodLink RX3 170 yX3_mix, .static yX3_mix, .initialized RX3, .code yX3_mix cX3_mix 4 (some .long), .constantLong RX3 228 (31)])
def wsX3_mixPlaces_r1 : List Cond := [Cond.fieldLink RX3 12 "MapCarrier" "land" "LMapCarrier$Land;", Cond.methodLink RX3 230 yX3_hasShepherd, Cond.instanceMethod yX3_hasShepherd, Cond.selects RX3 yX3_hasShepherd yX3_hasShepherd, Cond.initialized RX3, Cond.code yX3_hasShepherd cX3_hasShepherd 2 (some .boolean), Cond.methodLink RX3 39 yX3_checkPlace, Cond.instanceMethod yX3_checkPlace, Cond.selects RX3 yX3_checkPlace yX3_checkPlace, Cond.code yX3_checkPlace cX3_checkPlace 2 none, Cond.classLink RX3 208 "java/lang/IndexOutOfBoundsException", Cond.initialized "java/lang/IndexOutOfBoundsException", Cond.methodLink RX3 205 yX1_isPlace, Cond.instanceMethod yX1_isPlace, Cond.selects RX1 yX1_isPlace yX1_isPlace, Cond.initialized RX1, Cond.code yX1_isPlace cX1_isPlace 2 (some .boolean), Cond.fieldLink RX1 34 "MapCarrier$Land" "places" "I", Cond.methodLink RX3 233 yX3_mixFlag, Cond.static yX3_mixFlag, Cond.code yX3_mixFlag cX3_mixFlag 3 (some .long), Cond.methodLink RX3 170 yX3_mix, Cond.static yX3_mix, Cond.code yX3_mix cX3_mix 4 (some .long)]
def wsX3_mixPlaces_r2 : List Cond := [Cond.constantLong RX3 228 (31), Cond.methodLink RX3 237 yX3_exitsOf, Cond.instanceMethod yX3_exitsOf, Cond.selects RX3 yX3_exitsOf yX3_exitsOf, Cond.code yX3_exitsOf cX3_exitsOf 2 (some .int), Cond.methodLink RX3 240 yX3_leadsTo, Cond.instanceMethod yX3_leadsTo, Cond.selects RX3 yX3_leadsTo yX3_leadsTo, Cond.code yX3_leadsTo cX3_leadsTo 3 (some .int), Cond.methodLink RX3 62 yX3_checkedEnd, Cond.instanceMethod yX3_checkedEnd, Cond.selects RX3 yX3_checkedEnd yX3_checkedEnd, Cond.code yX3_checkedEnd cX3_checkedEnd 4 (some .int), Cond.methodLink RX3 213 yX1_endAt, Cond.instanceMethod yX1_endAt, Cond.selects RX1 yX1_endAt yX1_endAt, Cond.code yX1_endAt cX1_endAt 4 (some .int), Cond.fieldLink RX1 9 "MapCarrier$Land" "exits" "[I", Cond.methodLink RX1 38 yX1_isPlace, Cond.methodLink RX3 123 yX1_beyond, Cond.instanceMethod yX1_beyond, Cond.selects RX1 yX1_beyond yX1_beyond, Cond.code yX1_beyond cX1_beyond 2 (some .int), Cond.fieldLink RX1 19 "MapCarrier$Land" "leads" "[I"]
def wsX3_mixPlaces_r3 : List Cond := [Cond.static yX3_isEnd, Cond.code yX3_isEnd cX3_isEnd 1 (some .boolean), Cond.methodLink RX3 243 yX3_milesOf, Cond.instanceMethod yX3_milesOf, Cond.selects RX3 yX3_milesOf yX3_milesOf, Cond.code yX3_milesOf cX3_milesOf 3 (some .int), Cond.methodLink RX3 126 yX1_milesAt, Cond.instanceMethod yX1_milesAt, Cond.selects RX1 yX1_milesAt yX1_milesAt, Cond.code yX1_milesAt cX1_milesAt 2 (some .int), Cond.fieldLink RX1 25 "MapCarrier$Land" "lengths" "[I", Cond.methodLink RX3 246 yX3_isOpen, Cond.instanceMethod yX3_isOpen, Cond.selects RX3 yX3_isOpen yX3_isOpen, Cond.code yX3_isOpen cX3_isOpen 3 (some .boolean), Cond.methodLink RX3 129 yX1_opensAt, Cond.instanceMethod yX1_opensAt, Cond.selects RX1 yX1_opensAt yX1_opensAt, Cond.code yX1_opensAt cX1_opensAt 2 (some .boolean), Cond.fieldLink RX1 28 "MapCarrier$Land" "open" "[Z", Cond.methodLink RX3 250 yX3_isTried, Cond.instanceMethod yX3_isTried, Cond.selects RX3 yX3_isTried yX3_isTried, Cond.code yX3_isTried cX3_isTried 4 (some .boolean)]
def wsX3_mixPlaces_r4 : List Cond := [Cond.fieldLink RX3 21 "MapCarrier" "carrier" "LMapCarrier$Carrier;", Cond.methodLink RX3 96 yX0_isUnderway, Cond.instanceMethod yX0_isUnderway, Cond.selects RX0 yX0_isUnderway yX0_isUnderway, Cond.initialized RX0, Cond.code yX0_isUnderway cX0_isUnderway 1 (some .boolean), Cond.fieldLink RX0 18 "MapCarrier$Carrier" "goal" "I", Cond.methodLink RX3 135 yX0_hasTried, Cond.instanceMethod yX0_hasTried, Cond.selects RX0 yX0_hasTried yX0_hasTried, Cond.code yX0_hasTried cX0_hasTried 2 (some .boolean), Cond.fieldLink RX0 26 "MapCarrier$Carrier" "tried" "[Z"]
def wsX3_mixPlaces : List Cond := .code yX3_mixPlaces cX3_mixPlaces 7 (some .long) :: ((wsX3_mixPlaces_r1 ++ (wsX3_mixPlaces_r2 ++ (wsX3_mixPlaces_r3 ++ wsX3_mixPlaces_r4))) ++ wsX30 ++ wsX10 ++ wsX00 ++ (vx_atS RX3 212 "java/lang/IndexOutOfBoundsException" ["java/lang/RuntimeException", "java/lang/Exception"]).filter goodWord)
def wsX3_mixMemory_r1 : List Cond := [Cond.fieldLink RX3 12 "MapCarrier" "land" "LMapCarrier$Land;", Cond.methodLink RX3 253 yX3_remembered, Cond.instanceMethod yX3_remembered, Cond.selects RX3 yX3_remembered yX3_remembered, Cond.initialized RX3, Cond.code yX3_remembered cX3_remembered 3 (some .int), Cond.fieldLink RX3 21 "MapCarrier" "carrier" "LMapCarrier$Carrier;", Cond.methodLink RX3 39 yX3_checkPlace, Cond.instanceMethod yX3_checkPlace, Cond.selects RX3 yX3_checkPlace yX3_checkPlace, Cond.code yX3_checkPlace cX3_checkPlace 2 none, Cond.classLink RX3 208 "java/lang/IndexOutOfBoundsException", Cond.initialized "java/lang/IndexOutOfBoundsException", Cond.methodLink RX3 205 yX1_isPlace, Cond.instanceMethod yX1_isPlace, Cond.selects RX1 yX1_isPlace yX1_isPlace, Cond.initialized RX1, Cond.code yX1_isPlace cX1_isPlace 2 (some .boolean), Cond.fieldLink RX1 34 "MapCarrier$Land" "places" "I", Cond.methodLink RX3 138 yX2_exitFor, Cond.instanceMethod yX2_exitFor, Cond.selects RX2 yX2_exitFor yX2_exitFor, Cond.initialized RX2, Cond.code yX2_exitFor cX2_exitFor 4 (some .int)]
def wsX3_mixMemory_r2 : List Cond := [Cond.fieldLink RX2 15 "MapCarrier$Memory" "strengths" "[I", Cond.fieldLink RX2 9 "MapCarrier$Memory" "exits" "[I", Cond.methodLink RX2 18 yX2_spotOf, Cond.static yX2_spotOf, Cond.code yX2_spotOf cX2_spotOf 3 (some .int), Cond.methodLink RX3 170 yX3_mix, Cond.static yX3_mix, Cond.code yX3_mix cX3_mix 4 (some .long), Cond.constantLong RX3 228 (31), Cond.methodLink RX3 256 yX3_strength, Cond.instanceMethod yX3_strength, Cond.selects RX3 yX3_strength yX3_strength, Cond.code yX3_strength cX3_strength 3 (some .int), Cond.methodLink RX3 141 yX2_strengthFor, Cond.instanceMethod yX2_strengthFor, Cond.selects RX2 yX2_strengthFor yX2_strengthFor, Cond.code yX2_strengthFor cX2_strengthFor 4 (some .int)]
def wsX3_mixMemory : List Cond := .code yX3_mixMemory cX3_mixMemory 7 (some .long) :: ((wsX3_mixMemory_r1 ++ wsX3_mixMemory_r2) ++ wsX30 ++ wsX10 ++ wsX00 ++ wsX20 ++ (vx_atS RX3 212 "java/lang/IndexOutOfBoundsException" ["java/lang/RuntimeException", "java/lang/Exception"]).filter goodWord)
def wsX3_digest_r1 : List Cond := [Cond.constantLong RX3 165 (1873), Cond.methodLink RX3 167 yX3_places, Cond.instanceMethod yX3_places, Cond.selects RX3 yX3_places yX3_places, Cond.initialized RX3, Cond.code yX3_places cX3_places 1 (some .int), Cond.fieldLink RX3 12 "MapCarrier" "land" "LMapCarrier$Land;", Cond.methodLink RX3 170 yX3_mix, Cond.static yX3_mix, Cond.code yX3_mix cX3_mix 4 (some .long), Cond.constantLong RX3 228 (31), Cond.methodLink RX3 174 yX3_whereIs, Cond.instanceMethod yX3_whereIs, Cond.selects RX3 yX3_whereIs yX3_whereIs, Cond.code yX3_whereIs cX3_whereIs 1 (some .int), Cond.fieldLink RX3 21 "MapCarrier" "carrier" "LMapCarrier$Carrier;", Cond.methodLink RX3 177 yX3_coins, Cond.instanceMethod yX3_coins, Cond.selects RX3 yX3_coins yX3_coins, Cond.code yX3_coins cX3_coins 1 (some .int), Cond.methodLink RX3 179 yX3_goal, Cond.instanceMethod yX3_goal, Cond.selects RX3 yX3_goal yX3_goal, Cond.code yX3_goal cX3_goal 1 (some .int)]
def wsX3_digest_r2 : List Cond := [Cond.methodLink RX3 181 yX3_wayLength, Cond.instanceMethod yX3_wayLength, Cond.selects RX3 yX3_wayLength yX3_wayLength, Cond.code yX3_wayLength cX3_wayLength 1 (some .int), Cond.methodLink RX3 183 yX3_milesWalked, Cond.instanceMethod yX3_milesWalked, Cond.selects RX3 yX3_milesWalked yX3_milesWalked, Cond.code yX3_milesWalked cX3_milesWalked 1 (some .int), Cond.methodLink RX3 186 yX3_milesDoubled, Cond.instanceMethod yX3_milesDoubled, Cond.selects RX3 yX3_milesDoubled yX3_milesDoubled, Cond.code yX3_milesDoubled cX3_milesDoubled 1 (some .int), Cond.methodLink RX3 189 yX3_errandsDone, Cond.instanceMethod yX3_errandsDone, Cond.selects RX3 yX3_errandsDone yX3_errandsDone, Cond.code yX3_errandsDone cX3_errandsDone 1 (some .int), Cond.methodLink RX3 192 yX3_errandsInVain, Cond.instanceMethod yX3_errandsInVain, Cond.selects RX3 yX3_errandsInVain yX3_errandsInVain, Cond.code yX3_errandsInVain cX3_errandsInVain 1 (some .int), Cond.methodLink RX3 195 yX3_asked, Cond.instanceMethod yX3_asked, Cond.selects RX3 yX3_asked yX3_asked, Cond.code yX3_asked cX3_asked 1 (some .int)]
def wsX3_digest_r3 : List Cond := [Cond.methodLink RX3 198 yX3_mixPlaces, Cond.instanceMethod yX3_mixPlaces, Cond.selects RX3 yX3_mixPlaces yX3_mixPlaces, Cond.code yX3_mixPlaces cX3_mixPlaces 7 (some .long), Cond.methodLink RX3 230 yX3_hasShepherd, Cond.instanceMethod yX3_hasShepherd, Cond.selects RX3 yX3_hasShepherd yX3_hasShepherd, Cond.code yX3_hasShepherd cX3_hasShepherd 2 (some .boolean), Cond.methodLink RX3 39 yX3_checkPlace, Cond.instanceMethod yX3_checkPlace, Cond.selects RX3 yX3_checkPlace yX3_checkPlace, Cond.code yX3_checkPlace cX3_checkPlace 2 none, Cond.classLink RX3 208 "java/lang/IndexOutOfBoundsException", Cond.initialized "java/lang/IndexOutOfBoundsException", Cond.methodLink RX3 205 yX1_isPlace, Cond.instanceMethod yX1_isPlace, Cond.selects RX1 yX1_isPlace yX1_isPlace, Cond.initialized RX1, Cond.code yX1_isPlace cX1_isPlace 2 (some .boolean), Cond.fieldLink RX1 34 "MapCarrier$Land" "places" "I", Cond.methodLink RX3 233 yX3_mixFlag, Cond.static yX3_mixFlag, Cond.code yX3_mixFlag cX3_mixFlag 3 (some .long), Cond.methodLink RX3 237 yX3_exitsOf]
def wsX3_digest_r4 : List Cond := [Cond.instanceMethod yX3_exitsOf, Cond.selects RX3 yX3_exitsOf yX3_exitsOf, Cond.code yX3_exitsOf cX3_exitsOf 2 (some .int), Cond.methodLink RX3 240 yX3_leadsTo, Cond.instanceMethod yX3_leadsTo, Cond.selects RX3 yX3_leadsTo yX3_leadsTo, Cond.code yX3_leadsTo cX3_leadsTo 3 (some .int), Cond.methodLink RX3 62 yX3_checkedEnd, Cond.instanceMethod yX3_checkedEnd, Cond.selects RX3 yX3_checkedEnd yX3_checkedEnd, Cond.code yX3_checkedEnd cX3_checkedEnd 4 (some .int), Cond.methodLink RX3 213 yX1_endAt, Cond.instanceMethod yX1_endAt, Cond.selects RX1 yX1_endAt yX1_endAt, Cond.code yX1_endAt cX1_endAt 4 (some .int), Cond.fieldLink RX1 9 "MapCarrier$Land" "exits" "[I", Cond.methodLink RX1 38 yX1_isPlace, Cond.methodLink RX3 123 yX1_beyond, Cond.instanceMethod yX1_beyond, Cond.selects RX1 yX1_beyond yX1_beyond, Cond.code yX1_beyond cX1_beyond 2 (some .int), Cond.fieldLink RX1 19 "MapCarrier$Land" "leads" "[I", Cond.static yX3_isEnd, Cond.code yX3_isEnd cX3_isEnd 1 (some .boolean)]
def wsX3_digest_r5 : List Cond := [Cond.methodLink RX3 243 yX3_milesOf, Cond.instanceMethod yX3_milesOf, Cond.selects RX3 yX3_milesOf yX3_milesOf, Cond.code yX3_milesOf cX3_milesOf 3 (some .int), Cond.methodLink RX3 126 yX1_milesAt, Cond.instanceMethod yX1_milesAt, Cond.selects RX1 yX1_milesAt yX1_milesAt, Cond.code yX1_milesAt cX1_milesAt 2 (some .int), Cond.fieldLink RX1 25 "MapCarrier$Land" "lengths" "[I", Cond.methodLink RX3 246 yX3_isOpen, Cond.instanceMethod yX3_isOpen, Cond.selects RX3 yX3_isOpen yX3_isOpen, Cond.code yX3_isOpen cX3_isOpen 3 (some .boolean), Cond.methodLink RX3 129 yX1_opensAt, Cond.instanceMethod yX1_opensAt, Cond.selects RX1 yX1_opensAt yX1_opensAt, Cond.code yX1_opensAt cX1_opensAt 2 (some .boolean), Cond.fieldLink RX1 28 "MapCarrier$Land" "open" "[Z", Cond.methodLink RX3 250 yX3_isTried, Cond.instanceMethod yX3_isTried, Cond.selects RX3 yX3_isTried yX3_isTried, Cond.code yX3_isTried cX3_isTried 4 (some .boolean), Cond.methodLink RX3 96 yX0_isUnderway, Cond.instanceMethod yX0_isUnderway]
def wsX3_digest_r6 : List Cond := [Cond.selects RX0 yX0_isUnderway yX0_isUnderway, Cond.initialized RX0, Cond.code yX0_isUnderway cX0_isUnderway 1 (some .boolean), Cond.fieldLink RX0 18 "MapCarrier$Carrier" "goal" "I", Cond.methodLink RX3 135 yX0_hasTried, Cond.instanceMethod yX0_hasTried, Cond.selects RX0 yX0_hasTried yX0_hasTried, Cond.code yX0_hasTried cX0_hasTried 2 (some .boolean), Cond.fieldLink RX0 26 "MapCarrier$Carrier" "tried" "[Z", Cond.methodLink RX3 202 yX3_mixMemory, Cond.instanceMethod yX3_mixMemory, Cond.selects RX3 yX3_mixMemory yX3_mixMemory, Cond.code yX3_mixMemory cX3_mixMemory 7 (some .long), Cond.methodLink RX3 253 yX3_remembered, Cond.instanceMethod yX3_remembered, Cond.selects RX3 yX3_remembered yX3_remembered, Cond.code yX3_remembered cX3_remembered 3 (some .int), Cond.methodLink RX3 138 yX2_exitFor, Cond.instanceMethod yX2_exitFor, Cond.selects RX2 yX2_exitFor yX2_exitFor, Cond.initialized RX2, Cond.code yX2_exitFor cX2_exitFor 4 (some .int), Cond.fieldLink RX2 15 "MapCarrier$Memory" "strengths" "[I", Cond.fieldLink RX2 9 "MapCarrier$Memory" "exits" "[I"]
def wsX3_digest_r7 : List Cond := [Cond.methodLink RX2 18 yX2_spotOf, Cond.static yX2_spotOf, Cond.code yX2_spotOf cX2_spotOf 3 (some .int), Cond.methodLink RX3 256 yX3_strength, Cond.instanceMethod yX3_strength, Cond.selects RX3 yX3_strength yX3_strength, Cond.code yX3_strength cX3_strength 3 (some .int), Cond.methodLink RX3 141 yX2_strengthFor, Cond.instanceMethod yX2_strengthFor, Cond.selects RX2 yX2_strengthFor yX2_strengthFor, Cond.code yX2_strengthFor cX2_strengthFor 4 (some .int)]
def wsX3_digest : List Cond := .code yX3_digest cX3_digest 3 (some .long) :: ((wsX3_digest_r1 ++ (wsX3_digest_r2 ++ (wsX3_digest_r3 ++ (wsX3_digest_r4 ++ (wsX3_digest_r5 ++ (wsX3_digest_r6 ++ wsX3_digest_r7)))))) ++ wsX30 ++ wsX10 ++ wsX00 ++ wsX20 ++ (vx_atS RX3 212 "java/lang/IndexOutOfBoundsException" ["java/lang/RuntimeException", "java/lang/Exception"]).filter goodWord)
def wsX4_init : List Cond := .code yX4_init cX4_init 2 none :: ([.methodLink RX4 3 objectInit, .instanceMethod objectInit, .code objectInit ⟨#[0xb1]⟩ 1 none, .fieldLink RX4 9 "MapCarrierModel$State" "where" "I", .fieldLink RX4 15 "MapCarrierModel$State" "goal" "I", .arrayClass .boolean, .fieldLink RX4 18 "MapCarrierModel$State" "tried" "[Z", .fieldLink RX4 22 "MapCarrierModel$State" "askedAt" "[Z", .arrayClass .int, .fieldLink RX4 25 "MapCarrierModel$State" "way" "[I", .fieldLink RX4 29 "MapCarrierModel$State" "exit" "[I", .fieldLink RX4 32 "MapCarrierModel$State" "strength" "[I"] ++ wsX40)
def wsX4_become : List Cond := .code yX4_become cX4_become 2 none :: ([.fieldLink RX4 9 "MapCarrierModel$State" "where" "I", .fieldLink RX4 35 "MapCarrierModel$State" "coins" "I", .fieldLink RX4 15 "MapCarrierModel$State" "goal" "I", .fieldLink RX4 38 "MapCarrierModel$State" "length" "I", .fieldLink RX4 41 "MapCarrierModel$State" "walked" "I", .fieldLink RX4 44 "MapCarrierModel$State" "doubled" "I", .fieldLink RX4 47 "MapCarrierModel$State" "done" "I", .fieldLink RX4 50 "MapCarrierModel$State" "inVain" "I", .fieldLink RX4 53 "MapCarrierModel$State" "asked" "I", .fieldLink RX4 18 "MapCarrierModel$State" "tried" "[Z", .methodLink RX4 56 arraycopyName, .native arraycopyName, .static arraycopyName, .initialized "java/lang/System", .fieldLink RX4 22 "MapCarrierModel$State" "askedAt" "[Z", .fieldLink RX4 25 "MapCarrierModel$State" "way" "[I", .fieldLink RX4 29 "MapCarrierModel$State" "exit" "[I", .fieldLink RX4 32 "MapCarrierModel$State" "strength" "[I"] ++ wsX40)
def wsX4_begin : List Cond := .code yX4_begin cX4_begin 3 none :: ([.fieldLink RX4 15 "MapCarrierModel$State" "goal" "I", .fieldLink RX4 38 "MapCarrierModel$State" "length" "I", .fieldLink RX4 18 "MapCarrierModel$State" "tried" "[Z", .fieldLink RX4 22 "MapCarrierModel$State" "askedAt" "[Z"] ++ wsX40)
def wsX4_end : List Cond := .code yX4_end cX4_end 1 none :: ([.methodLink RX4 62 yX4_begin, .instanceMethod yX4_begin, .selects RX4 yX4_begin yX4_begin, .initialized RX4, .code yX4_begin cX4_begin 3 none, .fieldLink RX4 15 "MapCarrierModel$State" "goal" "I", .fieldLink RX4 38 "MapCarrierModel$State" "length" "I", .fieldLink RX4 18 "MapCarrierModel$State" "tried" "[Z", .fieldLink RX4 22 "MapCarrierModel$State" "askedAt" "[Z"] ++ wsX40)
def wsX4_remembered : List Cond := .code yX4_remembered cX4_remembered 2 (some .int) :: ([.fieldLink RX4 29 "MapCarrierModel$State" "exit" "[I", .fieldLink RX4 15 "MapCarrierModel$State" "goal" "I"] ++ wsX40)
def wsX4_remember : List Cond := .code yX4_remember cX4_remember 4 none :: ([.fieldLink RX4 29 "MapCarrierModel$State" "exit" "[I", .fieldLink RX4 15 "MapCarrierModel$State" "goal" "I", .fieldLink RX4 32 "MapCarrierModel$State" "strength" "[I"] ++ wsX40)
def wsX5_init_r1 : List Cond := [Cond.methodLink RX5 1 objectInit, Cond.instanceMethod objectInit, Cond.code objectInit ⟨#[0xb1]⟩ 1 none, Cond.arrayClass .int, Cond.fieldLink RX5 9 "MapCarrierModel" "exits" "[I", Cond.fieldLink RX5 13 "MapCarrierModel" "road" "[I", Cond.fieldLink RX5 16 "MapCarrierModel" "to" "[I", Cond.fieldLink RX5 19 "MapCarrierModel" "miles" "[I", Cond.arrayClass .boolean, Cond.fieldLink RX5 22 "MapCarrierModel" "isClosed" "[Z", Cond.fieldLink RX5 26 "MapCarrierModel" "shepherd" "[Z", Cond.fieldLink RX5 29 "MapCarrierModel" "far" "[I", Cond.classLink RX5 32 RX4, Cond.instantiable RX4 14, Cond.initialized RX4, Cond.fieldLink RX5 35 "MapCarrierModel" "s" "LMapCarrierModel$State;", Cond.fieldLink RX5 39 "MapCarrierModel" "ahead" "LMapCarrierModel$State;", Cond.methodLink RX5 34 yX4_init, Cond.instanceMethod yX4_init, Cond.code yX4_init cX4_init 2 none, Cond.methodLink RX4 3 objectInit, Cond.fieldLink RX4 9 "MapCarrierModel$State" "where" "I", Cond.fieldLink RX4 15 "MapCarrierModel$State" "goal" "I", Cond.fieldLink RX4 18 "MapCarrierModel$State" "tried" "[Z"]
def wsX5_init_r2 : List Cond := [Cond.fieldLink RX4 22 "MapCarrierModel$State" "askedAt" "[Z", Cond.fieldLink RX4 25 "MapCarrierModel$State" "way" "[I", Cond.fieldLink RX4 29 "MapCarrierModel$State" "exit" "[I", Cond.fieldLink RX4 32 "MapCarrierModel$State" "strength" "[I"]
def wsX5_init : List Cond := .code yX5_init cX5_init 1 none :: ((wsX5_init_r1 ++ wsX5_init_r2) ++ wsX50 ++ wsX40)
def wsX5_thrown : List Cond := .code yX5_thrown cX5_thrown 1 (some .int) :: ([.fieldLink RX5 42 "MapCarrierModel" "thrown" "I"] ++ wsX50)
def wsX5_no : List Cond := .code yX5_no cX5_no 2 (some .int) :: ([.fieldLink RX5 42 "MapCarrierModel" "thrown" "I"] ++ wsX50)
def wsX5_isNot : List Cond := .code yX5_isNot cX5_isNot 2 (some .boolean) :: ([.fieldLink RX5 42 "MapCarrierModel" "thrown" "I"] ++ wsX50)
def wsX5_isIn : List Cond := .code yX5_isIn cX5_isIn 3 (some .boolean) :: ([])
def wsX5_isPlace : List Cond := .code yX5_isPlace cX5_isPlace 2 (some .boolean) :: ([.fieldLink RX5 46 "MapCarrierModel" "places" "I", .methodLink RX5 49 yX5_isIn, .static yX5_isIn, .initialized RX5, .code yX5_isIn cX5_isIn 3 (some .boolean)] ++ wsX50)
def wsX5_isExit : List Cond := .code yX5_isExit cX5_isExit 3 (some .boolean) :: ([.fieldLink RX5 9 "MapCarrierModel" "exits" "[I", .methodLink RX5 53 yX5_isPlace, .instanceMethod yX5_isPlace, .selects RX5 yX5_isPlace yX5_isPlace, .initialized RX5, .code yX5_isPlace cX5_isPlace 2 (some .boolean), .fieldLink RX5 46 "MapCarrierModel" "places" "I", .methodLink RX5 49 yX5_isIn, .static yX5_isIn, .code yX5_isIn cX5_isIn 3 (some .boolean)] ++ wsX50)
def wsX5_addPlace : List Cond := .code yX5_addPlace cX5_addPlace 1 (some .int) :: ([.fieldLink RX5 42 "MapCarrierModel" "thrown" "I", .fieldLink RX5 46 "MapCarrierModel" "places" "I", .fieldLink RX5 35 "MapCarrierModel" "s" "LMapCarrierModel$State;", .methodLink RX5 57 yX5_no, .instanceMethod yX5_no, .selects RX5 yX5_no yX5_no, .initialized RX5, .code yX5_no cX5_no 2 (some .int)] ++ wsX50 ++ wsX40)
def wsX5_addExit : List Cond := .code yX5_addExit cX5_addExit 3 none :: ([.fieldLink RX5 13 "MapCarrierModel" "road" "[I", .fieldLink RX5 9 "MapCarrierModel" "exits" "[I", .fieldLink RX5 64 "MapCarrierModel" "roads" "I", .fieldLink RX5 16 "MapCarrierModel" "to" "[I"] ++ wsX50)
def wsX5_addRoad_r1 : List Cond := [Cond.fieldLink RX5 42 "MapCarrierModel" "thrown" "I", Cond.fieldLink RX5 9 "MapCarrierModel" "exits" "[I", Cond.fieldLink RX5 19 "MapCarrierModel" "miles" "[I", Cond.fieldLink RX5 64 "MapCarrierModel" "roads" "I", Cond.fieldLink RX5 22 "MapCarrierModel" "isClosed" "[Z", Cond.fieldLink RX5 35 "MapCarrierModel" "s" "LMapCarrierModel$State;", Cond.methodLink RX5 53 yX5_isPlace, Cond.instanceMethod yX5_isPlace, Cond.selects RX5 yX5_isPlace yX5_isPlace, Cond.initialized RX5, Cond.code yX5_isPlace cX5_isPlace 2 (some .boolean), Cond.fieldLink RX5 46 "MapCarrierModel" "places" "I", Cond.methodLink RX5 49 yX5_isIn, Cond.static yX5_isIn, Cond.code yX5_isIn cX5_isIn 3 (some .boolean), Cond.methodLink RX5 57 yX5_no, Cond.instanceMethod yX5_no, Cond.selects RX5 yX5_no yX5_no, Cond.code yX5_no cX5_no 2 (some .int), Cond.methodLink RX5 70 yX5_addExit, Cond.instanceMethod yX5_addExit, Cond.selects RX5 yX5_addExit yX5_addExit, Cond.code yX5_addExit cX5_addExit 3 none, Cond.fieldLink RX5 13 "MapCarrierModel" "road" "[I"]
def wsX5_addRoad_r2 : List Cond := [Cond.fieldLink RX5 16 "MapCarrierModel" "to" "[I"]
def wsX5_addRoad : List Cond := .code yX5_addRoad cX5_addRoad 4 (some .int) :: ((wsX5_addRoad_r1 ++ wsX5_addRoad_r2) ++ wsX50 ++ wsX40)
def wsX5_turnRoad : List Cond := .code yX5_turnRoad cX5_turnRoad 4 (some .boolean) :: ([.fieldLink RX5 42 "MapCarrierModel" "thrown" "I", .fieldLink RX5 13 "MapCarrierModel" "road" "[I", .fieldLink RX5 22 "MapCarrierModel" "isClosed" "[Z", .methodLink RX5 74 yX5_isExit, .instanceMethod yX5_isExit, .selects RX5 yX5_isExit yX5_isExit, .initialized RX5, .code yX5_isExit cX5_isExit 3 (some .boolean), .fieldLink RX5 9 "MapCarrierModel" "exits" "[I", .methodLink RX5 53 yX5_isPlace, .instanceMethod yX5_isPlace, .selects RX5 yX5_isPlace yX5_isPlace, .code yX5_isPlace cX5_isPlace 2 (some .boolean), .fieldLink RX5 46 "MapCarrierModel" "places" "I", .methodLink RX5 49 yX5_isIn, .static yX5_isIn, .code yX5_isIn cX5_isIn 3 (some .boolean), .methodLink RX5 78 yX5_isNot, .instanceMethod yX5_isNot, .selects RX5 yX5_isNot yX5_isNot, .code yX5_isNot cX5_isNot 2 (some .boolean)] ++ wsX50)
def wsX5_turnShepherd : List Cond := .code yX5_turnShepherd cX5_turnShepherd 2 (some .boolean) :: ([.fieldLink RX5 42 "MapCarrierModel" "thrown" "I", .fieldLink RX5 26 "MapCarrierModel" "shepherd" "[Z", .methodLink RX5 53 yX5_isPlace, .instanceMethod yX5_isPlace, .selects RX5 yX5_isPlace yX5_isPlace, .initialized RX5, .code yX5_isPlace cX5_isPlace 2 (some .boolean), .fieldLink RX5 46 "MapCarrierModel" "places" "I", .methodLink RX5 49 yX5_isIn, .static yX5_isIn, .code yX5_isIn cX5_isIn 3 (some .boolean), .methodLink RX5 78 yX5_isNot, .instanceMethod yX5_isNot, .selects RX5 yX5_isNot yX5_isNot, .code yX5_isNot cX5_isNot 2 (some .boolean)] ++ wsX50)
def wsX5_measure : List Cond := .code yX5_measure cX5_measure 5 none :: ([.fieldLink RX5 46 "MapCarrierModel" "places" "I", .fieldLink RX5 29 "MapCarrierModel" "far" "[I", .fieldLink RX5 9 "MapCarrierModel" "exits" "[I", .fieldLink RX5 22 "MapCarrierModel" "isClosed" "[Z", .fieldLink RX5 13 "MapCarrierModel" "road" "[I", .fieldLink RX5 16 "MapCarrierModel" "to" "[I", .fieldLink RX5 19 "MapCarrierModel" "miles" "[I"] ++ wsX50)
def wsX5_canTake : List Cond := .code yX5_canTake cX5_canTake 3 (some .boolean) :: ([.fieldLink RX5 22 "MapCarrierModel" "isClosed" "[Z", .fieldLink RX5 13 "MapCarrierModel" "road" "[I"] ++ wsX50 ++ wsX40)
def wsX5_take : List Cond := .code yX5_take cX5_take 3 none :: ([.fieldLink RX5 13 "MapCarrierModel" "road" "[I", .fieldLink RX5 16 "MapCarrierModel" "to" "[I", .fieldLink RX5 19 "MapCarrierModel" "miles" "[I"] ++ wsX40 ++ wsX50)
def wsX5_toldExit : List Cond := .code yX5_toldExit cX5_toldExit 7 (some .int) :: ([.fieldLink RX5 9 "MapCarrierModel" "exits" "[I", .fieldLink RX5 22 "MapCarrierModel" "isClosed" "[Z", .fieldLink RX5 13 "MapCarrierModel" "road" "[I", .fieldLink RX5 29 "MapCarrierModel" "far" "[I", .fieldLink RX5 16 "MapCarrierModel" "to" "[I", .fieldLink RX5 19 "MapCarrierModel" "miles" "[I", .methodLink RX5 90 yX5_measure, .instanceMethod yX5_measure, .selects RX5 yX5_measure yX5_measure, .initialized RX5, .code yX5_measure cX5_measure 5 none, .fieldLink RX5 46 "MapCarrierModel" "places" "I"] ++ wsX50)
def wsX5_asks_r1 : List Cond := [Cond.fieldLink RX5 26 "MapCarrierModel" "shepherd" "[Z", Cond.fieldLink RX5 13 "MapCarrierModel" "road" "[I", Cond.methodLink RX5 106 yX5_toldExit, Cond.instanceMethod yX5_toldExit, Cond.selects RX5 yX5_toldExit yX5_toldExit, Cond.initialized RX5, Cond.code yX5_toldExit cX5_toldExit 7 (some .int), Cond.fieldLink RX5 9 "MapCarrierModel" "exits" "[I", Cond.fieldLink RX5 22 "MapCarrierModel" "isClosed" "[Z", Cond.fieldLink RX5 29 "MapCarrierModel" "far" "[I", Cond.fieldLink RX5 16 "MapCarrierModel" "to" "[I", Cond.fieldLink RX5 19 "MapCarrierModel" "miles" "[I", Cond.methodLink RX5 90 yX5_measure, Cond.instanceMethod yX5_measure, Cond.selects RX5 yX5_measure yX5_measure, Cond.code yX5_measure cX5_measure 5 none, Cond.fieldLink RX5 46 "MapCarrierModel" "places" "I", Cond.methodLink RX5 110 yX4_remember, Cond.instanceMethod yX4_remember, Cond.selects RX4 yX4_remember yX4_remember, Cond.initialized RX4, Cond.code yX4_remember cX4_remember 4 none, Cond.fieldLink RX4 29 "MapCarrierModel$State" "exit" "[I", Cond.fieldLink RX4 15 "MapCarrierModel$State" "goal" "I"]
def wsX5_asks_r2 : List Cond := [Cond.fieldLink RX4 32 "MapCarrierModel$State" "strength" "[I", Cond.methodLink RX5 114 yX5_take, Cond.instanceMethod yX5_take, Cond.selects RX5 yX5_take yX5_take, Cond.code yX5_take cX5_take 3 none]
def wsX5_asks : List Cond := .code yX5_asks cX5_asks 4 (some .boolean) :: ((wsX5_asks_r1 ++ wsX5_asks_r2) ++ wsX40 ++ wsX50)
def wsX5_triesNext : List Cond := .code yX5_triesNext cX5_triesNext 4 (some .boolean) :: ([.fieldLink RX5 9 "MapCarrierModel" "exits" "[I", .methodLink RX5 118 yX5_canTake, .instanceMethod yX5_canTake, .selects RX5 yX5_canTake yX5_canTake, .initialized RX5, .code yX5_canTake cX5_canTake 3 (some .boolean), .fieldLink RX5 22 "MapCarrierModel" "isClosed" "[Z", .fieldLink RX5 13 "MapCarrierModel" "road" "[I", .methodLink RX5 114 yX5_take, .instanceMethod yX5_take, .selects RX5 yX5_take yX5_take, .code yX5_take cX5_take 3 none, .fieldLink RX5 16 "MapCarrierModel" "to" "[I", .fieldLink RX5 19 "MapCarrierModel" "miles" "[I"] ++ wsX40 ++ wsX50)
def wsX5_doublesBack : List Cond := .code yX5_doublesBack cX5_doublesBack 3 (some .boolean) :: ([.fieldLink RX5 19 "MapCarrierModel" "miles" "[I", .fieldLink RX5 13 "MapCarrierModel" "road" "[I"] ++ wsX40 ++ wsX50)
def wsX5_learn : List Cond := .code yX5_learn cX5_learn 6 none :: ([.methodLink RX5 131 Lib.Math.min.name, .static Lib.Math.min.name, .initialized "java/lang/Math", .code Lib.Math.min.name Lib.Math.min.code 2 (some .int), .methodLink RX5 125 yX4_remembered, .instanceMethod yX4_remembered, .selects RX4 yX4_remembered yX4_remembered, .initialized RX4, .code yX4_remembered cX4_remembered 2 (some .int), .fieldLink RX4 29 "MapCarrierModel$State" "exit" "[I", .fieldLink RX4 15 "MapCarrierModel$State" "goal" "I", .methodLink RX5 110 yX4_remember, .instanceMethod yX4_remember, .selects RX4 yX4_remember yX4_remember, .code yX4_remember cX4_remember 4 none, .fieldLink RX4 32 "MapCarrierModel$State" "strength" "[I"] ++ wsX40)
def wsX5_stepOn_r1 : List Cond := [Cond.methodLink RX5 125 yX4_remembered, Cond.instanceMethod yX4_remembered, Cond.selects RX4 yX4_remembered yX4_remembered, Cond.initialized RX4, Cond.code yX4_remembered cX4_remembered 2 (some .int), Cond.fieldLink RX4 29 "MapCarrierModel$State" "exit" "[I", Cond.fieldLink RX4 15 "MapCarrierModel$State" "goal" "I", Cond.methodLink RX5 118 yX5_canTake, Cond.instanceMethod yX5_canTake, Cond.selects RX5 yX5_canTake yX5_canTake, Cond.initialized RX5, Cond.code yX5_canTake cX5_canTake 3 (some .boolean), Cond.fieldLink RX5 22 "MapCarrierModel" "isClosed" "[Z", Cond.fieldLink RX5 13 "MapCarrierModel" "road" "[I", Cond.methodLink RX5 114 yX5_take, Cond.instanceMethod yX5_take, Cond.selects RX5 yX5_take yX5_take, Cond.code yX5_take cX5_take 3 none, Cond.fieldLink RX5 16 "MapCarrierModel" "to" "[I", Cond.fieldLink RX5 19 "MapCarrierModel" "miles" "[I", Cond.methodLink RX5 136 yX5_asks, Cond.instanceMethod yX5_asks, Cond.selects RX5 yX5_asks yX5_asks, Cond.code yX5_asks cX5_asks 4 (some .boolean)]
def wsX5_stepOn_r2 : List Cond := [Cond.fieldLink RX5 26 "MapCarrierModel" "shepherd" "[Z", Cond.methodLink RX5 106 yX5_toldExit, Cond.instanceMethod yX5_toldExit, Cond.selects RX5 yX5_toldExit yX5_toldExit, Cond.code yX5_toldExit cX5_toldExit 7 (some .int), Cond.fieldLink RX5 9 "MapCarrierModel" "exits" "[I", Cond.fieldLink RX5 29 "MapCarrierModel" "far" "[I", Cond.methodLink RX5 90 yX5_measure, Cond.instanceMethod yX5_measure, Cond.selects RX5 yX5_measure yX5_measure, Cond.code yX5_measure cX5_measure 5 none, Cond.fieldLink RX5 46 "MapCarrierModel" "places" "I", Cond.methodLink RX5 110 yX4_remember, Cond.instanceMethod yX4_remember, Cond.selects RX4 yX4_remember yX4_remember, Cond.code yX4_remember cX4_remember 4 none, Cond.fieldLink RX4 32 "MapCarrierModel$State" "strength" "[I", Cond.methodLink RX5 140 yX5_triesNext, Cond.instanceMethod yX5_triesNext, Cond.selects RX5 yX5_triesNext yX5_triesNext, Cond.code yX5_triesNext cX5_triesNext 4 (some .boolean), Cond.methodLink RX5 143 yX5_doublesBack, Cond.instanceMethod yX5_doublesBack, Cond.selects RX5 yX5_doublesBack yX5_doublesBack]
def wsX5_stepOn_r3 : List Cond := [Cond.code yX5_doublesBack cX5_doublesBack 3 (some .boolean), Cond.methodLink RX5 149 yX4_end, Cond.instanceMethod yX4_end, Cond.selects RX4 yX4_end yX4_end, Cond.code yX4_end cX4_end 1 none, Cond.methodLink RX4 62 yX4_begin, Cond.instanceMethod yX4_begin, Cond.selects RX4 yX4_begin yX4_begin, Cond.code yX4_begin cX4_begin 3 none, Cond.fieldLink RX4 38 "MapCarrierModel$State" "length" "I", Cond.fieldLink RX4 18 "MapCarrierModel$State" "tried" "[Z", Cond.fieldLink RX4 22 "MapCarrierModel$State" "askedAt" "[Z", Cond.methodLink RX5 152 yX5_learn, Cond.instanceMethod yX5_learn, Cond.selects RX5 yX5_learn yX5_learn, Cond.code yX5_learn cX5_learn 6 none, Cond.methodLink RX5 131 Lib.Math.min.name, Cond.static Lib.Math.min.name, Cond.initialized "java/lang/Math", Cond.code Lib.Math.min.name Lib.Math.min.code 2 (some .int)]
def wsX5_stepOn : List Cond := .code yX5_stepOn cX5_stepOn 4 (some .boolean) :: ((wsX5_stepOn_r1 ++ (wsX5_stepOn_r2 ++ wsX5_stepOn_r3)) ++ wsX40 ++ wsX50)
def wsX5_stepsOn_r1 : List Cond := [Cond.methodLink RX5 159 yX5_stepOn, Cond.instanceMethod yX5_stepOn, Cond.selects RX5 yX5_stepOn yX5_stepOn, Cond.initialized RX5, Cond.code yX5_stepOn cX5_stepOn 4 (some .boolean), Cond.methodLink RX5 125 yX4_remembered, Cond.instanceMethod yX4_remembered, Cond.selects RX4 yX4_remembered yX4_remembered, Cond.initialized RX4, Cond.code yX4_remembered cX4_remembered 2 (some .int), Cond.fieldLink RX4 29 "MapCarrierModel$State" "exit" "[I", Cond.fieldLink RX4 15 "MapCarrierModel$State" "goal" "I", Cond.methodLink RX5 118 yX5_canTake, Cond.instanceMethod yX5_canTake, Cond.selects RX5 yX5_canTake yX5_canTake, Cond.code yX5_canTake cX5_canTake 3 (some .boolean), Cond.fieldLink RX5 22 "MapCarrierModel" "isClosed" "[Z", Cond.fieldLink RX5 13 "MapCarrierModel" "road" "[I", Cond.methodLink RX5 114 yX5_take, Cond.instanceMethod yX5_take, Cond.selects RX5 yX5_take yX5_take, Cond.code yX5_take cX5_take 3 none, Cond.fieldLink RX5 16 "MapCarrierModel" "to" "[I", Cond.fieldLink RX5 19 "MapCarrierModel" "miles" "[I"]
def wsX5_stepsOn_r2 : List Cond := [Cond.methodLink RX5 136 yX5_asks, Cond.instanceMethod yX5_asks, Cond.selects RX5 yX5_asks yX5_asks, Cond.code yX5_asks cX5_asks 4 (some .boolean), Cond.fieldLink RX5 26 "MapCarrierModel" "shepherd" "[Z", Cond.methodLink RX5 106 yX5_toldExit, Cond.instanceMethod yX5_toldExit, Cond.selects RX5 yX5_toldExit yX5_toldExit, Cond.code yX5_toldExit cX5_toldExit 7 (some .int), Cond.fieldLink RX5 9 "MapCarrierModel" "exits" "[I", Cond.fieldLink RX5 29 "MapCarrierModel" "far" "[I", Cond.methodLink RX5 90 yX5_measure, Cond.instanceMethod yX5_measure, Cond.selects RX5 yX5_measure yX5_measure, Cond.code yX5_measure cX5_measure 5 none, Cond.fieldLink RX5 46 "MapCarrierModel" "places" "I", Cond.methodLink RX5 110 yX4_remember, Cond.instanceMethod yX4_remember, Cond.selects RX4 yX4_remember yX4_remember, Cond.code yX4_remember cX4_remember 4 none, Cond.fieldLink RX4 32 "MapCarrierModel$State" "strength" "[I", Cond.methodLink RX5 140 yX5_triesNext, Cond.instanceMethod yX5_triesNext, Cond.selects RX5 yX5_triesNext yX5_triesNext]
def wsX5_stepsOn_r3 : List Cond := [Cond.code yX5_triesNext cX5_triesNext 4 (some .boolean), Cond.methodLink RX5 143 yX5_doublesBack, Cond.instanceMethod yX5_doublesBack, Cond.selects RX5 yX5_doublesBack yX5_doublesBack, Cond.code yX5_doublesBack cX5_doublesBack 3 (some .boolean), Cond.methodLink RX5 149 yX4_end, Cond.instanceMethod yX4_end, Cond.selects RX4 yX4_end yX4_end, Cond.code yX4_end cX4_end 1 none, Cond.methodLink RX4 62 yX4_begin, Cond.instanceMethod yX4_begin, Cond.selects RX4 yX4_begin yX4_begin, Cond.code yX4_begin cX4_begin 3 none, Cond.fieldLink RX4 38 "MapCarrierModel$State" "length" "I", Cond.fieldLink RX4 18 "MapCarrierModel$State" "tried" "[Z", Cond.fieldLink RX4 22 "MapCarrierModel$State" "askedAt" "[Z", Cond.methodLink RX5 152 yX5_learn, Cond.instanceMethod yX5_learn, Cond.selects RX5 yX5_learn yX5_learn, Cond.code yX5_learn cX5_learn 6 none, Cond.methodLink RX5 131 Lib.Math.min.name, Cond.static Lib.Math.min.name, Cond.initialized "java/lang/Math", Cond.code Lib.Math.min.name Lib.Math.min.code 2 (some .int)]
def wsX5_stepsOn : List Cond := .code yX5_stepsOn cX5_stepsOn 4 (some .int) :: ((wsX5_stepsOn_r1 ++ (wsX5_stepsOn_r2 ++ wsX5_stepsOn_r3)) ++ wsX40 ++ wsX50)
def wsX5_pay : List Cond := .code yX5_pay cX5_pay 2 (some .int) :: ([.fieldLink RX5 42 "MapCarrierModel" "thrown" "I", .fieldLink RX5 35 "MapCarrierModel" "s" "LMapCarrierModel$State;", .methodLink RX5 131 Lib.Math.min.name, .static Lib.Math.min.name, .initialized "java/lang/Math", .code Lib.Math.min.name Lib.Math.min.code 2 (some .int), .methodLink RX5 49 yX5_isIn, .static yX5_isIn, .initialized RX5, .code yX5_isIn cX5_isIn 3 (some .boolean), .methodLink RX5 57 yX5_no, .instanceMethod yX5_no, .selects RX5 yX5_no yX5_no, .code yX5_no cX5_no 2 (some .int)] ++ wsX50 ++ wsX40)
def wsX5_milesBetween : List Cond := .code yX5_milesBetween cX5_milesBetween 3 (some .int) :: ([.fieldLink RX5 29 "MapCarrierModel" "far" "[I", .methodLink RX5 90 yX5_measure, .instanceMethod yX5_measure, .selects RX5 yX5_measure yX5_measure, .initialized RX5, .code yX5_measure cX5_measure 5 none, .fieldLink RX5 46 "MapCarrierModel" "places" "I", .fieldLink RX5 9 "MapCarrierModel" "exits" "[I", .fieldLink RX5 22 "MapCarrierModel" "isClosed" "[Z", .fieldLink RX5 13 "MapCarrierModel" "road" "[I", .fieldLink RX5 16 "MapCarrierModel" "to" "[I", .fieldLink RX5 19 "MapCarrierModel" "miles" "[I"] ++ wsX50)
def wsX5_start : List Cond := .code yX5_start cX5_start 2 none :: ([.methodLink RX5 162 yX4_begin, .instanceMethod yX4_begin, .selects RX4 yX4_begin yX4_begin, .initialized RX4, .code yX4_begin cX4_begin 3 none, .fieldLink RX4 15 "MapCarrierModel$State" "goal" "I", .fieldLink RX4 38 "MapCarrierModel$State" "length" "I", .fieldLink RX4 18 "MapCarrierModel$State" "tried" "[Z", .fieldLink RX4 22 "MapCarrierModel$State" "askedAt" "[Z"] ++ wsX40)
def wsX5_beginErrand_r1 : List Cond := [Cond.fieldLink RX5 42 "MapCarrierModel" "thrown" "I", Cond.fieldLink RX5 35 "MapCarrierModel" "s" "LMapCarrierModel$State;", Cond.methodLink RX5 53 yX5_isPlace, Cond.instanceMethod yX5_isPlace, Cond.selects RX5 yX5_isPlace yX5_isPlace, Cond.initialized RX5, Cond.code yX5_isPlace cX5_isPlace 2 (some .boolean), Cond.fieldLink RX5 46 "MapCarrierModel" "places" "I", Cond.methodLink RX5 49 yX5_isIn, Cond.static yX5_isIn, Cond.code yX5_isIn cX5_isIn 3 (some .boolean), Cond.methodLink RX5 57 yX5_no, Cond.instanceMethod yX5_no, Cond.selects RX5 yX5_no yX5_no, Cond.code yX5_no cX5_no 2 (some .int), Cond.methodLink RX5 165 yX5_start, Cond.static yX5_start, Cond.code yX5_start cX5_start 2 none, Cond.methodLink RX5 162 yX4_begin, Cond.instanceMethod yX4_begin, Cond.selects RX4 yX4_begin yX4_begin, Cond.initialized RX4, Cond.code yX4_begin cX4_begin 3 none, Cond.fieldLink RX4 15 "MapCarrierModel$State" "goal" "I"]
def wsX5_beginErrand_r2 : List Cond := [Cond.fieldLink RX4 38 "MapCarrierModel$State" "length" "I", Cond.fieldLink RX4 18 "MapCarrierModel$State" "tried" "[Z", Cond.fieldLink RX4 22 "MapCarrierModel$State" "askedAt" "[Z", Cond.methodLink RX5 168 yX5_milesBetween, Cond.instanceMethod yX5_milesBetween, Cond.selects RX5 yX5_milesBetween yX5_milesBetween, Cond.code yX5_milesBetween cX5_milesBetween 3 (some .int), Cond.fieldLink RX5 29 "MapCarrierModel" "far" "[I", Cond.methodLink RX5 90 yX5_measure, Cond.instanceMethod yX5_measure, Cond.selects RX5 yX5_measure yX5_measure, Cond.code yX5_measure cX5_measure 5 none, Cond.fieldLink RX5 9 "MapCarrierModel" "exits" "[I", Cond.fieldLink RX5 22 "MapCarrierModel" "isClosed" "[Z", Cond.fieldLink RX5 13 "MapCarrierModel" "road" "[I", Cond.fieldLink RX5 16 "MapCarrierModel" "to" "[I", Cond.fieldLink RX5 19 "MapCarrierModel" "miles" "[I"]
def wsX5_beginErrand : List Cond := .code yX5_beginErrand cX5_beginErrand 2 (some .int) :: ((wsX5_beginErrand_r1 ++ wsX5_beginErrand_r2) ++ wsX50 ++ wsX40)
def wsX5_goOn_r1 : List Cond := [Cond.fieldLink RX5 42 "MapCarrierModel" "thrown" "I", Cond.fieldLink RX5 35 "MapCarrierModel" "s" "LMapCarrierModel$State;", Cond.methodLink RX5 49 yX5_isIn, Cond.static yX5_isIn, Cond.initialized RX5, Cond.code yX5_isIn cX5_isIn 3 (some .boolean), Cond.methodLink RX5 57 yX5_no, Cond.instanceMethod yX5_no, Cond.selects RX5 yX5_no yX5_no, Cond.code yX5_no cX5_no 2 (some .int), Cond.methodLink RX5 171 yX5_stepsOn, Cond.instanceMethod yX5_stepsOn, Cond.selects RX5 yX5_stepsOn yX5_stepsOn, Cond.code yX5_stepsOn cX5_stepsOn 4 (some .int), Cond.methodLink RX5 159 yX5_stepOn, Cond.instanceMethod yX5_stepOn, Cond.selects RX5 yX5_stepOn yX5_stepOn, Cond.code yX5_stepOn cX5_stepOn 4 (some .boolean), Cond.methodLink RX5 125 yX4_remembered, Cond.instanceMethod yX4_remembered, Cond.selects RX4 yX4_remembered yX4_remembered, Cond.initialized RX4, Cond.code yX4_remembered cX4_remembered 2 (some .int), Cond.fieldLink RX4 29 "MapCarrierModel$State" "exit" "[I"]
def wsX5_goOn_r2 : List Cond := [Cond.fieldLink RX4 15 "MapCarrierModel$State" "goal" "I", Cond.methodLink RX5 118 yX5_canTake, Cond.instanceMethod yX5_canTake, Cond.selects RX5 yX5_canTake yX5_canTake, Cond.code yX5_canTake cX5_canTake 3 (some .boolean), Cond.fieldLink RX5 22 "MapCarrierModel" "isClosed" "[Z", Cond.fieldLink RX5 13 "MapCarrierModel" "road" "[I", Cond.methodLink RX5 114 yX5_take, Cond.instanceMethod yX5_take, Cond.selects RX5 yX5_take yX5_take, Cond.code yX5_take cX5_take 3 none, Cond.fieldLink RX5 16 "MapCarrierModel" "to" "[I", Cond.fieldLink RX5 19 "MapCarrierModel" "miles" "[I", Cond.methodLink RX5 136 yX5_asks, Cond.instanceMethod yX5_asks, Cond.selects RX5 yX5_asks yX5_asks, Cond.code yX5_asks cX5_asks 4 (some .boolean), Cond.fieldLink RX5 26 "MapCarrierModel" "shepherd" "[Z", Cond.methodLink RX5 106 yX5_toldExit, Cond.instanceMethod yX5_toldExit, Cond.selects RX5 yX5_toldExit yX5_toldExit, Cond.code yX5_toldExit cX5_toldExit 7 (some .int), Cond.fieldLink RX5 9 "MapCarrierModel" "exits" "[I", Cond.fieldLink RX5 29 "MapCarrierModel" "far" "[I"]
def wsX5_goOn_r3 : List Cond := [Cond.methodLink RX5 90 yX5_measure, Cond.instanceMethod yX5_measure, Cond.selects RX5 yX5_measure yX5_measure, Cond.code yX5_measure cX5_measure 5 none, Cond.fieldLink RX5 46 "MapCarrierModel" "places" "I", Cond.methodLink RX5 110 yX4_remember, Cond.instanceMethod yX4_remember, Cond.selects RX4 yX4_remember yX4_remember, Cond.code yX4_remember cX4_remember 4 none, Cond.fieldLink RX4 32 "MapCarrierModel$State" "strength" "[I", Cond.methodLink RX5 140 yX5_triesNext, Cond.instanceMethod yX5_triesNext, Cond.selects RX5 yX5_triesNext yX5_triesNext, Cond.code yX5_triesNext cX5_triesNext 4 (some .boolean), Cond.methodLink RX5 143 yX5_doublesBack, Cond.instanceMethod yX5_doublesBack, Cond.selects RX5 yX5_doublesBack yX5_doublesBack, Cond.code yX5_doublesBack cX5_doublesBack 3 (some .boolean), Cond.methodLink RX5 149 yX4_end, Cond.instanceMethod yX4_end, Cond.selects RX4 yX4_end yX4_end, Cond.code yX4_end cX4_end 1 none, Cond.methodLink RX4 62 yX4_begin, Cond.instanceMethod yX4_begin]
def wsX5_goOn_r4 : List Cond := [Cond.selects RX4 yX4_begin yX4_begin, Cond.code yX4_begin cX4_begin 3 none, Cond.fieldLink RX4 38 "MapCarrierModel$State" "length" "I", Cond.fieldLink RX4 18 "MapCarrierModel$State" "tried" "[Z", Cond.fieldLink RX4 22 "MapCarrierModel$State" "askedAt" "[Z", Cond.methodLink RX5 152 yX5_learn, Cond.instanceMethod yX5_learn, Cond.selects RX5 yX5_learn yX5_learn, Cond.code yX5_learn cX5_learn 6 none, Cond.methodLink RX5 131 Lib.Math.min.name, Cond.static Lib.Math.min.name, Cond.initialized "java/lang/Math", Cond.code Lib.Math.min.name Lib.Math.min.code 2 (some .int)]
def wsX5_goOn : List Cond := .code yX5_goOn cX5_goOn 2 (some .int) :: ((wsX5_goOn_r1 ++ (wsX5_goOn_r2 ++ (wsX5_goOn_r3 ++ wsX5_goOn_r4))) ++ wsX50 ++ wsX40)
def wsX5_giveUp : List Cond := .code yX5_giveUp cX5_giveUp 2 (some .int) :: ([.fieldLink RX5 42 "MapCarrierModel" "thrown" "I", .fieldLink RX5 35 "MapCarrierModel" "s" "LMapCarrierModel$State;", .methodLink RX5 57 yX5_no, .instanceMethod yX5_no, .selects RX5 yX5_no yX5_no, .initialized RX5, .code yX5_no cX5_no 2 (some .int), .methodLink RX5 149 yX4_end, .instanceMethod yX4_end, .selects RX4 yX4_end yX4_end, .initialized RX4, .code yX4_end cX4_end 1 none, .methodLink RX4 62 yX4_begin, .instanceMethod yX4_begin, .selects RX4 yX4_begin yX4_begin, .code yX4_begin cX4_begin 3 none, .fieldLink RX4 15 "MapCarrierModel$State" "goal" "I", .fieldLink RX4 38 "MapCarrierModel$State" "length" "I", .fieldLink RX4 18 "MapCarrierModel$State" "tried" "[Z", .fieldLink RX4 22 "MapCarrierModel$State" "askedAt" "[Z"] ++ wsX50 ++ wsX40)
def wsX5_night : List Cond := .code yX5_night cX5_night 3 (some .int) :: ([.fieldLink RX5 35 "MapCarrierModel" "s" "LMapCarrierModel$State;"] ++ wsX50 ++ wsX40)
def wsX5_sleep : List Cond := .code yX5_sleep cX5_sleep 4 (some .int) :: ([.fieldLink RX5 42 "MapCarrierModel" "thrown" "I", .methodLink RX5 49 yX5_isIn, .static yX5_isIn, .initialized RX5, .code yX5_isIn cX5_isIn 3 (some .boolean), .methodLink RX5 57 yX5_no, .instanceMethod yX5_no, .selects RX5 yX5_no yX5_no, .code yX5_no cX5_no 2 (some .int), .methodLink RX5 178 yX5_night, .instanceMethod yX5_night, .selects RX5 yX5_night yX5_night, .code yX5_night cX5_night 3 (some .int), .fieldLink RX5 35 "MapCarrierModel" "s" "LMapCarrierModel$State;"] ++ wsX50 ++ wsX40)
def wsX5_ok : List Cond := .code yX5_ok cX5_ok 2 (some .int) :: ([.fieldLink RX5 42 "MapCarrierModel" "thrown" "I"] ++ wsX50)
def wsX5_places : List Cond := .code yX5_places cX5_places 1 (some .int) :: ([.fieldLink RX5 46 "MapCarrierModel" "places" "I", .methodLink RX5 182 yX5_ok, .instanceMethod yX5_ok, .selects RX5 yX5_ok yX5_ok, .initialized RX5, .code yX5_ok cX5_ok 2 (some .int), .fieldLink RX5 42 "MapCarrierModel" "thrown" "I"] ++ wsX50)
def wsX5_exitsOf : List Cond := .code yX5_exitsOf cX5_exitsOf 2 (some .int) :: ([.fieldLink RX5 42 "MapCarrierModel" "thrown" "I", .fieldLink RX5 9 "MapCarrierModel" "exits" "[I", .methodLink RX5 53 yX5_isPlace, .instanceMethod yX5_isPlace, .selects RX5 yX5_isPlace yX5_isPlace, .initialized RX5, .code yX5_isPlace cX5_isPlace 2 (some .boolean), .fieldLink RX5 46 "MapCarrierModel" "places" "I", .methodLink RX5 49 yX5_isIn, .static yX5_isIn, .code yX5_isIn cX5_isIn 3 (some .boolean), .methodLink RX5 57 yX5_no, .instanceMethod yX5_no, .selects RX5 yX5_no yX5_no, .code yX5_no cX5_no 2 (some .int)] ++ wsX50)
def wsX5_leadsTo : List Cond := .code yX5_leadsTo cX5_leadsTo 3 (some .int) :: ([.fieldLink RX5 42 "MapCarrierModel" "thrown" "I", .fieldLink RX5 16 "MapCarrierModel" "to" "[I", .methodLink RX5 74 yX5_isExit, .instanceMethod yX5_isExit, .selects RX5 yX5_isExit yX5_isExit, .initialized RX5, .code yX5_isExit cX5_isExit 3 (some .boolean), .fieldLink RX5 9 "MapCarrierModel" "exits" "[I", .methodLink RX5 53 yX5_isPlace, .instanceMethod yX5_isPlace, .selects RX5 yX5_isPlace yX5_isPlace, .code yX5_isPlace cX5_isPlace 2 (some .boolean), .fieldLink RX5 46 "MapCarrierModel" "places" "I", .methodLink RX5 49 yX5_isIn, .static yX5_isIn, .code yX5_isIn cX5_isIn 3 (some .boolean), .methodLink RX5 57 yX5_no, .instanceMethod yX5_no, .selects RX5 yX5_no yX5_no, .code yX5_no cX5_no 2 (some .int)] ++ wsX50)
def wsX5_milesOf : List Cond := .code yX5_milesOf cX5_milesOf 3 (some .int) :: ([.fieldLink RX5 42 "MapCarrierModel" "thrown" "I", .fieldLink RX5 19 "MapCarrierModel" "miles" "[I", .fieldLink RX5 13 "MapCarrierModel" "road" "[I", .methodLink RX5 74 yX5_isExit, .instanceMethod yX5_isExit, .selects RX5 yX5_isExit yX5_isExit, .initialized RX5, .code yX5_isExit cX5_isExit 3 (some .boolean), .fieldLink RX5 9 "MapCarrierModel" "exits" "[I", .methodLink RX5 53 yX5_isPlace, .instanceMethod yX5_isPlace, .selects RX5 yX5_isPlace yX5_isPlace, .code yX5_isPlace cX5_isPlace 2 (some .boolean), .fieldLink RX5 46 "MapCarrierModel" "places" "I", .methodLink RX5 49 yX5_isIn, .static yX5_isIn, .code yX5_isIn cX5_isIn 3 (some .boolean), .methodLink RX5 57 yX5_no, .instanceMethod yX5_no, .selects RX5 yX5_no yX5_no, .code yX5_no cX5_no 2 (some .int)] ++ wsX50)
def wsX5_isOpen : List Cond := .code yX5_isOpen cX5_isOpen 3 (some .boolean) :: ([.fieldLink RX5 42 "MapCarrierModel" "thrown" "I", .fieldLink RX5 22 "MapCarrierModel" "isClosed" "[Z", .fieldLink RX5 13 "MapCarrierModel" "road" "[I", .methodLink RX5 74 yX5_isExit, .instanceMethod yX5_isExit, .selects RX5 yX5_isExit yX5_isExit, .initialized RX5, .code yX5_isExit cX5_isExit 3 (some .boolean), .fieldLink RX5 9 "MapCarrierModel" "exits" "[I", .methodLink RX5 53 yX5_isPlace, .instanceMethod yX5_isPlace, .selects RX5 yX5_isPlace yX5_isPlace, .code yX5_isPlace cX5_isPlace 2 (some .boolean), .fieldLink RX5 46 "MapCarrierModel" "places" "I", .methodLink RX5 49 yX5_isIn, .static yX5_isIn, .code yX5_isIn cX5_isIn 3 (some .boolean), .methodLink RX5 78 yX5_isNot, .instanceMethod yX5_isNot, .selects RX5 yX5_isNot yX5_isNot, .code yX5_isNot cX5_isNot 2 (some .boolean)] ++ wsX50)
def wsX5_hasShepherd : List Cond := .code yX5_hasShepherd cX5_hasShepherd 2 (some .boolean) :: ([.fieldLink RX5 42 "MapCarrierModel" "thrown" "I", .fieldLink RX5 26 "MapCarrierModel" "shepherd" "[Z", .methodLink RX5 53 yX5_isPlace, .instanceMethod yX5_isPlace, .selects RX5 yX5_isPlace yX5_isPlace, .initialized RX5, .code yX5_isPlace cX5_isPlace 2 (some .boolean), .fieldLink RX5 46 "MapCarrierModel" "places" "I", .methodLink RX5 49 yX5_isIn, .static yX5_isIn, .code yX5_isIn cX5_isIn 3 (some .boolean), .methodLink RX5 78 yX5_isNot, .instanceMethod yX5_isNot, .selects RX5 yX5_isNot yX5_isNot, .code yX5_isNot cX5_isNot 2 (some .boolean)] ++ wsX50)
def wsX5_distance_r1 : List Cond := [Cond.fieldLink RX5 42 "MapCarrierModel" "thrown" "I", Cond.methodLink RX5 53 yX5_isPlace, Cond.instanceMethod yX5_isPlace, Cond.selects RX5 yX5_isPlace yX5_isPlace, Cond.initialized RX5, Cond.code yX5_isPlace cX5_isPlace 2 (some .boolean), Cond.fieldLink RX5 46 "MapCarrierModel" "places" "I", Cond.methodLink RX5 49 yX5_isIn, Cond.static yX5_isIn, Cond.code yX5_isIn cX5_isIn 3 (some .boolean), Cond.methodLink RX5 168 yX5_milesBetween, Cond.instanceMethod yX5_milesBetween, Cond.selects RX5 yX5_milesBetween yX5_milesBetween, Cond.code yX5_milesBetween cX5_milesBetween 3 (some .int), Cond.fieldLink RX5 29 "MapCarrierModel" "far" "[I", Cond.methodLink RX5 90 yX5_measure, Cond.instanceMethod yX5_measure, Cond.selects RX5 yX5_measure yX5_measure, Cond.code yX5_measure cX5_measure 5 none, Cond.fieldLink RX5 9 "MapCarrierModel" "exits" "[I", Cond.fieldLink RX5 22 "MapCarrierModel" "isClosed" "[Z", Cond.fieldLink RX5 13 "MapCarrierModel" "road" "[I", Cond.fieldLink RX5 16 "MapCarrierModel" "to" "[I", Cond.fieldLink RX5 19 "MapCarrierModel" "miles" "[I"]
def wsX5_distance_r2 : List Cond := [Cond.methodLink RX5 57 yX5_no, Cond.instanceMethod yX5_no, Cond.selects RX5 yX5_no yX5_no, Cond.code yX5_no cX5_no 2 (some .int)]
def wsX5_distance : List Cond := .code yX5_distance cX5_distance 3 (some .int) :: ((wsX5_distance_r1 ++ wsX5_distance_r2) ++ wsX50)
def wsX5_whereIs : List Cond := .code yX5_whereIs cX5_whereIs 1 (some .int) :: ([.fieldLink RX5 35 "MapCarrierModel" "s" "LMapCarrierModel$State;", .methodLink RX5 182 yX5_ok, .instanceMethod yX5_ok, .selects RX5 yX5_ok yX5_ok, .initialized RX5, .code yX5_ok cX5_ok 2 (some .int), .fieldLink RX5 42 "MapCarrierModel" "thrown" "I"] ++ wsX50 ++ wsX40)
def wsX5_coins : List Cond := .code yX5_coins cX5_coins 1 (some .int) :: ([.fieldLink RX5 35 "MapCarrierModel" "s" "LMapCarrierModel$State;", .methodLink RX5 182 yX5_ok, .instanceMethod yX5_ok, .selects RX5 yX5_ok yX5_ok, .initialized RX5, .code yX5_ok cX5_ok 2 (some .int), .fieldLink RX5 42 "MapCarrierModel" "thrown" "I"] ++ wsX50 ++ wsX40)
def wsX5_goal : List Cond := .code yX5_goal cX5_goal 1 (some .int) :: ([.fieldLink RX5 35 "MapCarrierModel" "s" "LMapCarrierModel$State;", .methodLink RX5 182 yX5_ok, .instanceMethod yX5_ok, .selects RX5 yX5_ok yX5_ok, .initialized RX5, .code yX5_ok cX5_ok 2 (some .int), .fieldLink RX5 42 "MapCarrierModel" "thrown" "I"] ++ wsX50 ++ wsX40)
def wsX5_wayLength : List Cond := .code yX5_wayLength cX5_wayLength 1 (some .int) :: ([.fieldLink RX5 35 "MapCarrierModel" "s" "LMapCarrierModel$State;", .methodLink RX5 182 yX5_ok, .instanceMethod yX5_ok, .selects RX5 yX5_ok yX5_ok, .initialized RX5, .code yX5_ok cX5_ok 2 (some .int), .fieldLink RX5 42 "MapCarrierModel" "thrown" "I"] ++ wsX50 ++ wsX40)
def wsX5_isTried : List Cond := .code yX5_isTried cX5_isTried 3 (some .boolean) :: ([.fieldLink RX5 42 "MapCarrierModel" "thrown" "I", .fieldLink RX5 35 "MapCarrierModel" "s" "LMapCarrierModel$State;", .fieldLink RX5 13 "MapCarrierModel" "road" "[I", .methodLink RX5 74 yX5_isExit, .instanceMethod yX5_isExit, .selects RX5 yX5_isExit yX5_isExit, .initialized RX5, .code yX5_isExit cX5_isExit 3 (some .boolean), .fieldLink RX5 9 "MapCarrierModel" "exits" "[I", .methodLink RX5 53 yX5_isPlace, .instanceMethod yX5_isPlace, .selects RX5 yX5_isPlace yX5_isPlace, .code yX5_isPlace cX5_isPlace 2 (some .boolean), .fieldLink RX5 46 "MapCarrierModel" "places" "I", .methodLink RX5 49 yX5_isIn, .static yX5_isIn, .code yX5_isIn cX5_isIn 3 (some .boolean), .methodLink RX5 78 yX5_isNot, .instanceMethod yX5_isNot, .selects RX5 yX5_isNot yX5_isNot, .code yX5_isNot cX5_isNot 2 (some .boolean)] ++ wsX50 ++ wsX40)
def wsX5_remembered : List Cond := .code yX5_remembered cX5_remembered 3 (some .int) :: ([.fieldLink RX5 42 "MapCarrierModel" "thrown" "I", .fieldLink RX5 35 "MapCarrierModel" "s" "LMapCarrierModel$State;", .methodLink RX5 53 yX5_isPlace, .instanceMethod yX5_isPlace, .selects RX5 yX5_isPlace yX5_isPlace, .initialized RX5, .code yX5_isPlace cX5_isPlace 2 (some .boolean), .fieldLink RX5 46 "MapCarrierModel" "places" "I", .methodLink RX5 49 yX5_isIn, .static yX5_isIn, .code yX5_isIn cX5_isIn 3 (some .boolean), .methodLink RX5 57 yX5_no, .instanceMethod yX5_no, .selects RX5 yX5_no yX5_no, .code yX5_no cX5_no 2 (some .int)] ++ wsX50 ++ wsX40)
def wsX5_strengthOf : List Cond := .code yX5_strengthOf cX5_strengthOf 2 (some .int) :: ([.fieldLink RX5 35 "MapCarrierModel" "s" "LMapCarrierModel$State;"] ++ wsX50 ++ wsX40)
def wsX5_strength : List Cond := .code yX5_strength cX5_strength 3 (some .int) :: ([.fieldLink RX5 42 "MapCarrierModel" "thrown" "I", .methodLink RX5 53 yX5_isPlace, .instanceMethod yX5_isPlace, .selects RX5 yX5_isPlace yX5_isPlace, .initialized RX5, .code yX5_isPlace cX5_isPlace 2 (some .boolean), .fieldLink RX5 46 "MapCarrierModel" "places" "I", .methodLink RX5 49 yX5_isIn, .static yX5_isIn, .code yX5_isIn cX5_isIn 3 (some .boolean), .methodLink RX5 185 yX5_strengthOf, .instanceMethod yX5_strengthOf, .selects RX5 yX5_strengthOf yX5_strengthOf, .code yX5_strengthOf cX5_strengthOf 2 (some .int), .fieldLink RX5 35 "MapCarrierModel" "s" "LMapCarrierModel$State;", .methodLink RX5 57 yX5_no, .instanceMethod yX5_no, .selects RX5 yX5_no yX5_no, .code yX5_no cX5_no 2 (some .int)] ++ wsX50 ++ wsX40)
def wsX5_knows : List Cond := .code yX5_knows cX5_knows 5 (some .boolean) :: ([.fieldLink RX5 35 "MapCarrierModel" "s" "LMapCarrierModel$State;", .fieldLink RX5 22 "MapCarrierModel" "isClosed" "[Z", .fieldLink RX5 13 "MapCarrierModel" "road" "[I", .fieldLink RX5 16 "MapCarrierModel" "to" "[I"] ++ wsX50 ++ wsX40)
def wsX5_knowsWay : List Cond := .code yX5_knowsWay cX5_knowsWay 2 (some .boolean) :: ([.fieldLink RX5 42 "MapCarrierModel" "thrown" "I", .methodLink RX5 53 yX5_isPlace, .instanceMethod yX5_isPlace, .selects RX5 yX5_isPlace yX5_isPlace, .initialized RX5, .code yX5_isPlace cX5_isPlace 2 (some .boolean), .fieldLink RX5 46 "MapCarrierModel" "places" "I", .methodLink RX5 49 yX5_isIn, .static yX5_isIn, .code yX5_isIn cX5_isIn 3 (some .boolean), .methodLink RX5 188 yX5_knows, .instanceMethod yX5_knows, .selects RX5 yX5_knows yX5_knows, .code yX5_knows cX5_knows 5 (some .boolean), .fieldLink RX5 35 "MapCarrierModel" "s" "LMapCarrierModel$State;", .fieldLink RX5 22 "MapCarrierModel" "isClosed" "[Z", .fieldLink RX5 13 "MapCarrierModel" "road" "[I", .fieldLink RX5 16 "MapCarrierModel" "to" "[I", .methodLink RX5 78 yX5_isNot, .instanceMethod yX5_isNot, .selects RX5 yX5_isNot yX5_isNot, .code yX5_isNot cX5_isNot 2 (some .boolean)] ++ wsX50 ++ wsX40)
def wsX5_milesWalked : List Cond := .code yX5_milesWalked cX5_milesWalked 1 (some .int) :: ([.fieldLink RX5 35 "MapCarrierModel" "s" "LMapCarrierModel$State;", .methodLink RX5 182 yX5_ok, .instanceMethod yX5_ok, .selects RX5 yX5_ok yX5_ok, .initialized RX5, .code yX5_ok cX5_ok 2 (some .int), .fieldLink RX5 42 "MapCarrierModel" "thrown" "I"] ++ wsX50 ++ wsX40)
def wsX5_milesDoubled : List Cond := .code yX5_milesDoubled cX5_milesDoubled 1 (some .int) :: ([.fieldLink RX5 35 "MapCarrierModel" "s" "LMapCarrierModel$State;", .methodLink RX5 182 yX5_ok, .instanceMethod yX5_ok, .selects RX5 yX5_ok yX5_ok, .initialized RX5, .code yX5_ok cX5_ok 2 (some .int), .fieldLink RX5 42 "MapCarrierModel" "thrown" "I"] ++ wsX50 ++ wsX40)
def wsX5_errandsDone : List Cond := .code yX5_errandsDone cX5_errandsDone 1 (some .int) :: ([.fieldLink RX5 35 "MapCarrierModel" "s" "LMapCarrierModel$State;", .methodLink RX5 182 yX5_ok, .instanceMethod yX5_ok, .selects RX5 yX5_ok yX5_ok, .initialized RX5, .code yX5_ok cX5_ok 2 (some .int), .fieldLink RX5 42 "MapCarrierModel" "thrown" "I"] ++ wsX50 ++ wsX40)
def wsX5_errandsInVain : List Cond := .code yX5_errandsInVain cX5_errandsInVain 1 (some .int) :: ([.fieldLink RX5 35 "MapCarrierModel" "s" "LMapCarrierModel$State;", .methodLink RX5 182 yX5_ok, .instanceMethod yX5_ok, .selects RX5 yX5_ok yX5_ok, .initialized RX5, .code yX5_ok cX5_ok 2 (some .int), .fieldLink RX5 42 "MapCarrierModel" "thrown" "I"] ++ wsX50 ++ wsX40)
def wsX5_asked : List Cond := .code yX5_asked cX5_asked 1 (some .int) :: ([.fieldLink RX5 35 "MapCarrierModel" "s" "LMapCarrierModel$State;", .methodLink RX5 182 yX5_ok, .instanceMethod yX5_ok, .selects RX5 yX5_ok yX5_ok, .initialized RX5, .code yX5_ok cX5_ok 2 (some .int), .fieldLink RX5 42 "MapCarrierModel" "thrown" "I"] ++ wsX50 ++ wsX40)
def wsX5_walkTo_r1 : List Cond := [Cond.fieldLink RX5 39 "MapCarrierModel" "ahead" "LMapCarrierModel$State;", Cond.fieldLink RX5 35 "MapCarrierModel" "s" "LMapCarrierModel$State;", Cond.methodLink RX5 191 yX4_become, Cond.instanceMethod yX4_become, Cond.selects RX4 yX4_become yX4_become, Cond.initialized RX4, Cond.code yX4_become cX4_become 2 none, Cond.fieldLink RX4 9 "MapCarrierModel$State" "where" "I", Cond.fieldLink RX4 35 "MapCarrierModel$State" "coins" "I", Cond.fieldLink RX4 15 "MapCarrierModel$State" "goal" "I", Cond.fieldLink RX4 38 "MapCarrierModel$State" "length" "I", Cond.fieldLink RX4 41 "MapCarrierModel$State" "walked" "I", Cond.fieldLink RX4 44 "MapCarrierModel$State" "doubled" "I", Cond.fieldLink RX4 47 "MapCarrierModel$State" "done" "I", Cond.fieldLink RX4 50 "MapCarrierModel$State" "inVain" "I", Cond.fieldLink RX4 53 "MapCarrierModel$State" "asked" "I", Cond.fieldLink RX4 18 "MapCarrierModel$State" "tried" "[Z", Cond.methodLink RX4 56 arraycopyName, Cond.native arraycopyName, Cond.static arraycopyName, Cond.initialized "java/lang/System", Cond.fieldLink RX4 22 "MapCarrierModel$State" "askedAt" "[Z", Cond.fieldLink RX4 25 "MapCarrierModel$State" "way" "[I", Cond.fieldLink RX4 29 "MapCarrierModel$State" "exit" "[I"]
def wsX5_walkTo_r2 : List Cond := [Cond.fieldLink RX4 32 "MapCarrierModel$State" "strength" "[I", Cond.methodLink RX5 165 yX5_start, Cond.static yX5_start, Cond.initialized RX5, Cond.code yX5_start cX5_start 2 none, Cond.methodLink RX5 162 yX4_begin, Cond.instanceMethod yX4_begin, Cond.selects RX4 yX4_begin yX4_begin, Cond.code yX4_begin cX4_begin 3 none, Cond.methodLink RX5 171 yX5_stepsOn, Cond.instanceMethod yX5_stepsOn, Cond.selects RX5 yX5_stepsOn yX5_stepsOn, Cond.code yX5_stepsOn cX5_stepsOn 4 (some .int), Cond.methodLink RX5 159 yX5_stepOn, Cond.instanceMethod yX5_stepOn, Cond.selects RX5 yX5_stepOn yX5_stepOn, Cond.code yX5_stepOn cX5_stepOn 4 (some .boolean), Cond.methodLink RX5 125 yX4_remembered, Cond.instanceMethod yX4_remembered, Cond.selects RX4 yX4_remembered yX4_remembered, Cond.code yX4_remembered cX4_remembered 2 (some .int), Cond.methodLink RX5 118 yX5_canTake, Cond.instanceMethod yX5_canTake, Cond.selects RX5 yX5_canTake yX5_canTake]
def wsX5_walkTo_r3 : List Cond := [Cond.code yX5_canTake cX5_canTake 3 (some .boolean), Cond.fieldLink RX5 22 "MapCarrierModel" "isClosed" "[Z", Cond.fieldLink RX5 13 "MapCarrierModel" "road" "[I", Cond.methodLink RX5 114 yX5_take, Cond.instanceMethod yX5_take, Cond.selects RX5 yX5_take yX5_take, Cond.code yX5_take cX5_take 3 none, Cond.fieldLink RX5 16 "MapCarrierModel" "to" "[I", Cond.fieldLink RX5 19 "MapCarrierModel" "miles" "[I", Cond.methodLink RX5 136 yX5_asks, Cond.instanceMethod yX5_asks, Cond.selects RX5 yX5_asks yX5_asks, Cond.code yX5_asks cX5_asks 4 (some .boolean), Cond.fieldLink RX5 26 "MapCarrierModel" "shepherd" "[Z", Cond.methodLink RX5 106 yX5_toldExit, Cond.instanceMethod yX5_toldExit, Cond.selects RX5 yX5_toldExit yX5_toldExit, Cond.code yX5_toldExit cX5_toldExit 7 (some .int), Cond.fieldLink RX5 9 "MapCarrierModel" "exits" "[I", Cond.fieldLink RX5 29 "MapCarrierModel" "far" "[I", Cond.methodLink RX5 90 yX5_measure, Cond.instanceMethod yX5_measure, Cond.selects RX5 yX5_measure yX5_measure, Cond.code yX5_measure cX5_measure 5 none]
def wsX5_walkTo_r4 : List Cond := [Cond.fieldLink RX5 46 "MapCarrierModel" "places" "I", Cond.methodLink RX5 110 yX4_remember, Cond.instanceMethod yX4_remember, Cond.selects RX4 yX4_remember yX4_remember, Cond.code yX4_remember cX4_remember 4 none, Cond.methodLink RX5 140 yX5_triesNext, Cond.instanceMethod yX5_triesNext, Cond.selects RX5 yX5_triesNext yX5_triesNext, Cond.code yX5_triesNext cX5_triesNext 4 (some .boolean), Cond.methodLink RX5 143 yX5_doublesBack, Cond.instanceMethod yX5_doublesBack, Cond.selects RX5 yX5_doublesBack yX5_doublesBack, Cond.code yX5_doublesBack cX5_doublesBack 3 (some .boolean), Cond.methodLink RX5 149 yX4_end, Cond.instanceMethod yX4_end, Cond.selects RX4 yX4_end yX4_end, Cond.code yX4_end cX4_end 1 none, Cond.methodLink RX4 62 yX4_begin, Cond.methodLink RX5 152 yX5_learn, Cond.instanceMethod yX5_learn, Cond.selects RX5 yX5_learn yX5_learn, Cond.code yX5_learn cX5_learn 6 none, Cond.methodLink RX5 131 Lib.Math.min.name, Cond.static Lib.Math.min.name]
def wsX5_walkTo_r5 : List Cond := [Cond.initialized "java/lang/Math", Cond.code Lib.Math.min.name Lib.Math.min.code 2 (some .int)]
def wsX5_walkTo : List Cond := .code yX5_walkTo cX5_walkTo 2 (some .int) :: ((wsX5_walkTo_r1 ++ (wsX5_walkTo_r2 ++ (wsX5_walkTo_r3 ++ (wsX5_walkTo_r4 ++ wsX5_walkTo_r5)))) ++ wsX50 ++ wsX40)
def wsX5_wouldWalk_r1 : List Cond := [Cond.fieldLink RX5 42 "MapCarrierModel" "thrown" "I", Cond.fieldLink RX5 35 "MapCarrierModel" "s" "LMapCarrierModel$State;", Cond.methodLink RX5 53 yX5_isPlace, Cond.instanceMethod yX5_isPlace, Cond.selects RX5 yX5_isPlace yX5_isPlace, Cond.initialized RX5, Cond.code yX5_isPlace cX5_isPlace 2 (some .boolean), Cond.fieldLink RX5 46 "MapCarrierModel" "places" "I", Cond.methodLink RX5 49 yX5_isIn, Cond.static yX5_isIn, Cond.code yX5_isIn cX5_isIn 3 (some .boolean), Cond.methodLink RX5 57 yX5_no, Cond.instanceMethod yX5_no, Cond.selects RX5 yX5_no yX5_no, Cond.code yX5_no cX5_no 2 (some .int), Cond.methodLink RX5 194 yX5_walkTo, Cond.instanceMethod yX5_walkTo, Cond.selects RX5 yX5_walkTo yX5_walkTo, Cond.code yX5_walkTo cX5_walkTo 2 (some .int), Cond.fieldLink RX5 39 "MapCarrierModel" "ahead" "LMapCarrierModel$State;", Cond.methodLink RX5 191 yX4_become, Cond.instanceMethod yX4_become, Cond.selects RX4 yX4_become yX4_become, Cond.initialized RX4]
def wsX5_wouldWalk_r2 : List Cond := [Cond.code yX4_become cX4_become 2 none, Cond.fieldLink RX4 9 "MapCarrierModel$State" "where" "I", Cond.fieldLink RX4 35 "MapCarrierModel$State" "coins" "I", Cond.fieldLink RX4 15 "MapCarrierModel$State" "goal" "I", Cond.fieldLink RX4 38 "MapCarrierModel$State" "length" "I", Cond.fieldLink RX4 41 "MapCarrierModel$State" "walked" "I", Cond.fieldLink RX4 44 "MapCarrierModel$State" "doubled" "I", Cond.fieldLink RX4 47 "MapCarrierModel$State" "done" "I", Cond.fieldLink RX4 50 "MapCarrierModel$State" "inVain" "I", Cond.fieldLink RX4 53 "MapCarrierModel$State" "asked" "I", Cond.fieldLink RX4 18 "MapCarrierModel$State" "tried" "[Z", Cond.methodLink RX4 56 arraycopyName, Cond.native arraycopyName, Cond.static arraycopyName, Cond.initialized "java/lang/System", Cond.fieldLink RX4 22 "MapCarrierModel$State" "askedAt" "[Z", Cond.fieldLink RX4 25 "MapCarrierModel$State" "way" "[I", Cond.fieldLink RX4 29 "MapCarrierModel$State" "exit" "[I", Cond.fieldLink RX4 32 "MapCarrierModel$State" "strength" "[I", Cond.methodLink RX5 165 yX5_start, Cond.static yX5_start, Cond.code yX5_start cX5_start 2 none, Cond.methodLink RX5 162 yX4_begin, Cond.instanceMethod yX4_begin]
def wsX5_wouldWalk_r3 : List Cond := [Cond.selects RX4 yX4_begin yX4_begin, Cond.code yX4_begin cX4_begin 3 none, Cond.methodLink RX5 171 yX5_stepsOn, Cond.instanceMethod yX5_stepsOn, Cond.selects RX5 yX5_stepsOn yX5_stepsOn, Cond.code yX5_stepsOn cX5_stepsOn 4 (some .int), Cond.methodLink RX5 159 yX5_stepOn, Cond.instanceMethod yX5_stepOn, Cond.selects RX5 yX5_stepOn yX5_stepOn, Cond.code yX5_stepOn cX5_stepOn 4 (some .boolean), Cond.methodLink RX5 125 yX4_remembered, Cond.instanceMethod yX4_remembered, Cond.selects RX4 yX4_remembered yX4_remembered, Cond.code yX4_remembered cX4_remembered 2 (some .int), Cond.methodLink RX5 118 yX5_canTake, Cond.instanceMethod yX5_canTake, Cond.selects RX5 yX5_canTake yX5_canTake, Cond.code yX5_canTake cX5_canTake 3 (some .boolean), Cond.fieldLink RX5 22 "MapCarrierModel" "isClosed" "[Z", Cond.fieldLink RX5 13 "MapCarrierModel" "road" "[I", Cond.methodLink RX5 114 yX5_take, Cond.instanceMethod yX5_take, Cond.selects RX5 yX5_take yX5_take, Cond.code yX5_take cX5_take 3 none]
def wsX5_wouldWalk_r4 : List Cond := [Cond.fieldLink RX5 16 "MapCarrierModel" "to" "[I", Cond.fieldLink RX5 19 "MapCarrierModel" "miles" "[I", Cond.methodLink RX5 136 yX5_asks, Cond.instanceMethod yX5_asks, Cond.selects RX5 yX5_asks yX5_asks, Cond.code yX5_asks cX5_asks 4 (some .boolean), Cond.fieldLink RX5 26 "MapCarrierModel" "shepherd" "[Z", Cond.methodLink RX5 106 yX5_toldExit, Cond.instanceMethod yX5_toldExit, Cond.selects RX5 yX5_toldExit yX5_toldExit, Cond.code yX5_toldExit cX5_toldExit 7 (some .int), Cond.fieldLink RX5 9 "MapCarrierModel" "exits" "[I", Cond.fieldLink RX5 29 "MapCarrierModel" "far" "[I", Cond.methodLink RX5 90 yX5_measure, Cond.instanceMethod yX5_measure, Cond.selects RX5 yX5_measure yX5_measure, Cond.code yX5_measure cX5_measure 5 none, Cond.methodLink RX5 110 yX4_remember, Cond.instanceMethod yX4_remember, Cond.selects RX4 yX4_remember yX4_remember, Cond.code yX4_remember cX4_remember 4 none, Cond.methodLink RX5 140 yX5_triesNext, Cond.instanceMethod yX5_triesNext, Cond.selects RX5 yX5_triesNext yX5_triesNext]
def wsX5_wouldWalk_r5 : List Cond := [Cond.code yX5_triesNext cX5_triesNext 4 (some .boolean), Cond.methodLink RX5 143 yX5_doublesBack, Cond.instanceMethod yX5_doublesBack, Cond.selects RX5 yX5_doublesBack yX5_doublesBack, Cond.code yX5_doublesBack cX5_doublesBack 3 (some .boolean), Cond.methodLink RX5 149 yX4_end, Cond.instanceMethod yX4_end, Cond.selects RX4 yX4_end yX4_end, Cond.code yX4_end cX4_end 1 none, Cond.methodLink RX4 62 yX4_begin, Cond.methodLink RX5 152 yX5_learn, Cond.instanceMethod yX5_learn, Cond.selects RX5 yX5_learn yX5_learn, Cond.code yX5_learn cX5_learn 6 none, Cond.methodLink RX5 131 Lib.Math.min.name, Cond.static Lib.Math.min.name, Cond.initialized "java/lang/Math", Cond.code Lib.Math.min.name Lib.Math.min.code 2 (some .int)]
def wsX5_wouldWalk : List Cond := .code yX5_wouldWalk cX5_wouldWalk 2 (some .int) :: ((wsX5_wouldWalk_r1 ++ (wsX5_wouldWalk_r2 ++ (wsX5_wouldWalk_r3 ++ (wsX5_wouldWalk_r4 ++ wsX5_wouldWalk_r5)))) ++ wsX50 ++ wsX40)
def wsX5_helper_r1 : List Cond := [Cond.fieldLink RX5 46 "MapCarrierModel" "places" "I", Cond.fieldLink RX5 26 "MapCarrierModel" "shepherd" "[Z", Cond.methodLink RX5 194 yX5_walkTo, Cond.instanceMethod yX5_walkTo, Cond.selects RX5 yX5_walkTo yX5_walkTo, Cond.initialized RX5, Cond.code yX5_walkTo cX5_walkTo 2 (some .int), Cond.fieldLink RX5 39 "MapCarrierModel" "ahead" "LMapCarrierModel$State;", Cond.fieldLink RX5 35 "MapCarrierModel" "s" "LMapCarrierModel$State;", Cond.methodLink RX5 191 yX4_become, Cond.instanceMethod yX4_become, Cond.selects RX4 yX4_become yX4_become, Cond.initialized RX4, Cond.code yX4_become cX4_become 2 none, Cond.fieldLink RX4 9 "MapCarrierModel$State" "where" "I", Cond.fieldLink RX4 35 "MapCarrierModel$State" "coins" "I", Cond.fieldLink RX4 15 "MapCarrierModel$State" "goal" "I", Cond.fieldLink RX4 38 "MapCarrierModel$State" "length" "I", Cond.fieldLink RX4 41 "MapCarrierModel$State" "walked" "I", Cond.fieldLink RX4 44 "MapCarrierModel$State" "doubled" "I", Cond.fieldLink RX4 47 "MapCarrierModel$State" "done" "I", Cond.fieldLink RX4 50 "MapCarrierModel$State" "inVain" "I", Cond.fieldLink RX4 53 "MapCarrierModel$State" "asked" "I", Cond.fieldLink RX4 18 "MapCarrierModel$State" "tried" "[Z"]
def wsX5_helper_r2 : List Cond := [Cond.methodLink RX4 56 arraycopyName, Cond.native arraycopyName, Cond.static arraycopyName, Cond.initialized "java/lang/System", Cond.fieldLink RX4 22 "MapCarrierModel$State" "askedAt" "[Z", Cond.fieldLink RX4 25 "MapCarrierModel$State" "way" "[I", Cond.fieldLink RX4 29 "MapCarrierModel$State" "exit" "[I", Cond.fieldLink RX4 32 "MapCarrierModel$State" "strength" "[I", Cond.methodLink RX5 165 yX5_start, Cond.static yX5_start, Cond.code yX5_start cX5_start 2 none, Cond.methodLink RX5 162 yX4_begin, Cond.instanceMethod yX4_begin, Cond.selects RX4 yX4_begin yX4_begin, Cond.code yX4_begin cX4_begin 3 none, Cond.methodLink RX5 171 yX5_stepsOn, Cond.instanceMethod yX5_stepsOn, Cond.selects RX5 yX5_stepsOn yX5_stepsOn, Cond.code yX5_stepsOn cX5_stepsOn 4 (some .int), Cond.methodLink RX5 159 yX5_stepOn, Cond.instanceMethod yX5_stepOn, Cond.selects RX5 yX5_stepOn yX5_stepOn, Cond.code yX5_stepOn cX5_stepOn 4 (some .boolean), Cond.methodLink RX5 125 yX4_remembered]
def wsX5_helper_r3 : List Cond := [Cond.instanceMethod yX4_remembered, Cond.selects RX4 yX4_remembered yX4_remembered, Cond.code yX4_remembered cX4_remembered 2 (some .int), Cond.methodLink RX5 118 yX5_canTake, Cond.instanceMethod yX5_canTake, Cond.selects RX5 yX5_canTake yX5_canTake, Cond.code yX5_canTake cX5_canTake 3 (some .boolean), Cond.fieldLink RX5 22 "MapCarrierModel" "isClosed" "[Z", Cond.fieldLink RX5 13 "MapCarrierModel" "road" "[I", Cond.methodLink RX5 114 yX5_take, Cond.instanceMethod yX5_take, Cond.selects RX5 yX5_take yX5_take, Cond.code yX5_take cX5_take 3 none, Cond.fieldLink RX5 16 "MapCarrierModel" "to" "[I", Cond.fieldLink RX5 19 "MapCarrierModel" "miles" "[I", Cond.methodLink RX5 136 yX5_asks, Cond.instanceMethod yX5_asks, Cond.selects RX5 yX5_asks yX5_asks, Cond.code yX5_asks cX5_asks 4 (some .boolean), Cond.methodLink RX5 106 yX5_toldExit, Cond.instanceMethod yX5_toldExit, Cond.selects RX5 yX5_toldExit yX5_toldExit, Cond.code yX5_toldExit cX5_toldExit 7 (some .int), Cond.fieldLink RX5 9 "MapCarrierModel" "exits" "[I"]
def wsX5_helper_r4 : List Cond := [Cond.fieldLink RX5 29 "MapCarrierModel" "far" "[I", Cond.methodLink RX5 90 yX5_measure, Cond.instanceMethod yX5_measure, Cond.selects RX5 yX5_measure yX5_measure, Cond.code yX5_measure cX5_measure 5 none, Cond.methodLink RX5 110 yX4_remember, Cond.instanceMethod yX4_remember, Cond.selects RX4 yX4_remember yX4_remember, Cond.code yX4_remember cX4_remember 4 none, Cond.methodLink RX5 140 yX5_triesNext, Cond.instanceMethod yX5_triesNext, Cond.selects RX5 yX5_triesNext yX5_triesNext, Cond.code yX5_triesNext cX5_triesNext 4 (some .boolean), Cond.methodLink RX5 143 yX5_doublesBack, Cond.instanceMethod yX5_doublesBack, Cond.selects RX5 yX5_doublesBack yX5_doublesBack, Cond.code yX5_doublesBack cX5_doublesBack 3 (some .boolean), Cond.methodLink RX5 149 yX4_end, Cond.instanceMethod yX4_end, Cond.selects RX4 yX4_end yX4_end, Cond.code yX4_end cX4_end 1 none, Cond.methodLink RX4 62 yX4_begin, Cond.methodLink RX5 152 yX5_learn, Cond.instanceMethod yX5_learn]
def wsX5_helper_r5 : List Cond := [Cond.selects RX5 yX5_learn yX5_learn, Cond.code yX5_learn cX5_learn 6 none, Cond.methodLink RX5 131 Lib.Math.min.name, Cond.static Lib.Math.min.name, Cond.initialized "java/lang/Math", Cond.code Lib.Math.min.name Lib.Math.min.code 2 (some .int)]
def wsX5_helper : List Cond := .code yX5_helper cX5_helper 7 (some .int) :: ((wsX5_helper_r1 ++ (wsX5_helper_r2 ++ (wsX5_helper_r3 ++ (wsX5_helper_r4 ++ wsX5_helper_r5)))) ++ wsX50 ++ wsX40)
def wsX5_bestShepherd_r1 : List Cond := [Cond.fieldLink RX5 42 "MapCarrierModel" "thrown" "I", Cond.fieldLink RX5 35 "MapCarrierModel" "s" "LMapCarrierModel$State;", Cond.methodLink RX5 53 yX5_isPlace, Cond.instanceMethod yX5_isPlace, Cond.selects RX5 yX5_isPlace yX5_isPlace, Cond.initialized RX5, Cond.code yX5_isPlace cX5_isPlace 2 (some .boolean), Cond.fieldLink RX5 46 "MapCarrierModel" "places" "I", Cond.methodLink RX5 49 yX5_isIn, Cond.static yX5_isIn, Cond.code yX5_isIn cX5_isIn 3 (some .boolean), Cond.methodLink RX5 57 yX5_no, Cond.instanceMethod yX5_no, Cond.selects RX5 yX5_no yX5_no, Cond.code yX5_no cX5_no 2 (some .int), Cond.methodLink RX5 197 yX5_helper, Cond.instanceMethod yX5_helper, Cond.selects RX5 yX5_helper yX5_helper, Cond.code yX5_helper cX5_helper 7 (some .int), Cond.fieldLink RX5 26 "MapCarrierModel" "shepherd" "[Z", Cond.methodLink RX5 194 yX5_walkTo, Cond.instanceMethod yX5_walkTo, Cond.selects RX5 yX5_walkTo yX5_walkTo, Cond.code yX5_walkTo cX5_walkTo 2 (some .int)]
def wsX5_bestShepherd_r2 : List Cond := [Cond.fieldLink RX5 39 "MapCarrierModel" "ahead" "LMapCarrierModel$State;", Cond.methodLink RX5 191 yX4_become, Cond.instanceMethod yX4_become, Cond.selects RX4 yX4_become yX4_become, Cond.initialized RX4, Cond.code yX4_become cX4_become 2 none, Cond.fieldLink RX4 9 "MapCarrierModel$State" "where" "I", Cond.fieldLink RX4 35 "MapCarrierModel$State" "coins" "I", Cond.fieldLink RX4 15 "MapCarrierModel$State" "goal" "I", Cond.fieldLink RX4 38 "MapCarrierModel$State" "length" "I", Cond.fieldLink RX4 41 "MapCarrierModel$State" "walked" "I", Cond.fieldLink RX4 44 "MapCarrierModel$State" "doubled" "I", Cond.fieldLink RX4 47 "MapCarrierModel$State" "done" "I", Cond.fieldLink RX4 50 "MapCarrierModel$State" "inVain" "I", Cond.fieldLink RX4 53 "MapCarrierModel$State" "asked" "I", Cond.fieldLink RX4 18 "MapCarrierModel$State" "tried" "[Z", Cond.methodLink RX4 56 arraycopyName, Cond.native arraycopyName, Cond.static arraycopyName, Cond.initialized "java/lang/System", Cond.fieldLink RX4 22 "MapCarrierModel$State" "askedAt" "[Z", Cond.fieldLink RX4 25 "MapCarrierModel$State" "way" "[I", Cond.fieldLink RX4 29 "MapCarrierModel$State" "exit" "[I", Cond.fieldLink RX4 32 "MapCarrierModel$State" "strength" "[I"]
def wsX5_bestShepherd_r3 : List Cond := [Cond.methodLink RX5 165 yX5_start, Cond.static yX5_start, Cond.code yX5_start cX5_start 2 none, Cond.methodLink RX5 162 yX4_begin, Cond.instanceMethod yX4_begin, Cond.selects RX4 yX4_begin yX4_begin, Cond.code yX4_begin cX4_begin 3 none, Cond.methodLink RX5 171 yX5_stepsOn, Cond.instanceMethod yX5_stepsOn, Cond.selects RX5 yX5_stepsOn yX5_stepsOn, Cond.code yX5_stepsOn cX5_stepsOn 4 (some .int), Cond.methodLink RX5 159 yX5_stepOn, Cond.instanceMethod yX5_stepOn, Cond.selects RX5 yX5_stepOn yX5_stepOn, Cond.code yX5_stepOn cX5_stepOn 4 (some .boolean), Cond.methodLink RX5 125 yX4_remembered, Cond.instanceMethod yX4_remembered, Cond.selects RX4 yX4_remembered yX4_remembered, Cond.code yX4_remembered cX4_remembered 2 (some .int), Cond.methodLink RX5 118 yX5_canTake, Cond.instanceMethod yX5_canTake, Cond.selects RX5 yX5_canTake yX5_canTake, Cond.code yX5_canTake cX5_canTake 3 (some .boolean), Cond.fieldLink RX5 22 "MapCarrierModel" "isClosed" "[Z"]
def wsX5_bestShepherd_r4 : List Cond := [Cond.fieldLink RX5 13 "MapCarrierModel" "road" "[I", Cond.methodLink RX5 114 yX5_take, Cond.instanceMethod yX5_take, Cond.selects RX5 yX5_take yX5_take, Cond.code yX5_take cX5_take 3 none, Cond.fieldLink RX5 16 "MapCarrierModel" "to" "[I", Cond.fieldLink RX5 19 "MapCarrierModel" "miles" "[I", Cond.methodLink RX5 136 yX5_asks, Cond.instanceMethod yX5_asks, Cond.selects RX5 yX5_asks yX5_asks, Cond.code yX5_asks cX5_asks 4 (some .boolean), Cond.methodLink RX5 106 yX5_toldExit, Cond.instanceMethod yX5_toldExit, Cond.selects RX5 yX5_toldExit yX5_toldExit, Cond.code yX5_toldExit cX5_toldExit 7 (some .int), Cond.fieldLink RX5 9 "MapCarrierModel" "exits" "[I", Cond.fieldLink RX5 29 "MapCarrierModel" "far" "[I", Cond.methodLink RX5 90 yX5_measure, Cond.instanceMethod yX5_measure, Cond.selects RX5 yX5_measure yX5_measure, Cond.code yX5_measure cX5_measure 5 none, Cond.methodLink RX5 110 yX4_remember, Cond.instanceMethod yX4_remember, Cond.selects RX4 yX4_remember yX4_remember]
def wsX5_bestShepherd_r5 : List Cond := [Cond.code yX4_remember cX4_remember 4 none, Cond.methodLink RX5 140 yX5_triesNext, Cond.instanceMethod yX5_triesNext, Cond.selects RX5 yX5_triesNext yX5_triesNext, Cond.code yX5_triesNext cX5_triesNext 4 (some .boolean), Cond.methodLink RX5 143 yX5_doublesBack, Cond.instanceMethod yX5_doublesBack, Cond.selects RX5 yX5_doublesBack yX5_doublesBack, Cond.code yX5_doublesBack cX5_doublesBack 3 (some .boolean), Cond.methodLink RX5 149 yX4_end, Cond.instanceMethod yX4_end, Cond.selects RX4 yX4_end yX4_end, Cond.code yX4_end cX4_end 1 none, Cond.methodLink RX4 62 yX4_begin, Cond.methodLink RX5 152 yX5_learn, Cond.instanceMethod yX5_learn, Cond.selects RX5 yX5_learn yX5_learn, Cond.code yX5_learn cX5_learn 6 none, Cond.methodLink RX5 131 Lib.Math.min.name, Cond.static Lib.Math.min.name, Cond.initialized "java/lang/Math", Cond.code Lib.Math.min.name Lib.Math.min.code 2 (some .int)]
def wsX5_bestShepherd : List Cond := .code yX5_bestShepherd cX5_bestShepherd 2 (some .int) :: ((wsX5_bestShepherd_r1 ++ (wsX5_bestShepherd_r2 ++ (wsX5_bestShepherd_r3 ++ (wsX5_bestShepherd_r4 ++ wsX5_bestShepherd_r5)))) ++ wsX50 ++ wsX40)
def wsX5_meanMiles : List Cond := .code yX5_meanMiles cX5_meanMiles 2 (some .double) :: ([.fieldLink RX5 42 "MapCarrierModel" "thrown" "I", .fieldLink RX5 35 "MapCarrierModel" "s" "LMapCarrierModel$State;"] ++ wsX50 ++ wsX40)
def wsX5_one : List Cond := .code yX5_one cX5_one 1 (some .int) :: ([])
def wsX5_digest : List Cond := .code yX5_digest cX5_digest 8 (some .long) :: ([.fieldLink RX5 42 "MapCarrierModel" "thrown" "I", .arrayClass .int, .fieldLink RX5 46 "MapCarrierModel" "places" "I", .fieldLink RX5 35 "MapCarrierModel" "s" "LMapCarrierModel$State;", .constantLong RX5 200 (1873), .constantLong RX5 202 (31), .fieldLink RX5 26 "MapCarrierModel" "shepherd" "[Z", .fieldLink RX5 9 "MapCarrierModel" "exits" "[I", .fieldLink RX5 16 "MapCarrierModel" "to" "[I", .fieldLink RX5 19 "MapCarrierModel" "miles" "[I", .fieldLink RX5 13 "MapCarrierModel" "road" "[I", .fieldLink RX5 22 "MapCarrierModel" "isClosed" "[Z", .methodLink RX5 204 yX5_one, .static yX5_one, .initialized RX5, .code yX5_one cX5_one 1 (some .int), .methodLink RX5 185 yX5_strengthOf, .instanceMethod yX5_strengthOf, .selects RX5 yX5_strengthOf yX5_strengthOf, .code yX5_strengthOf cX5_strengthOf 2 (some .int)] ++ wsX50 ++ wsX40)
def wsJ9_max_7cf53 : List Cond := .code yJ9_max_7cf53 cJ9_max_7cf53 2 (some .int) :: ([])
def wsJ9_min_7cf53 : List Cond := .code yJ9_min_7cf53 cJ9_min_7cf53 2 (some .int) :: ([])
def wsL_addPlace : List Cond := .codeWith yL_addPlace cL_addPlace 3 (some .int) [(0, 8, 11, 13)] :: ([.classLink RL 13 "java/lang/IllegalStateException", .methodLink RL 7 yX3_addPlace, .instanceMethod yX3_addPlace, .selects RX3 yX3_addPlace yX3_addPlace, .initialized RX3, .code yX3_addPlace cX3_addPlace 1 (some .int), .classLink RX3 32 "java/lang/IllegalStateException", .initialized "java/lang/IllegalStateException", .fieldLink RX3 12 "MapCarrier" "land" "LMapCarrier$Land;"] ++ wsX30 ++ wsX10 ++ (vx_atS RX3 36 "java/lang/IllegalStateException" ["java/lang/RuntimeException", "java/lang/Exception"]).filter goodWord)
def wsL_addRoad_r1 : List Cond := [Cond.classLink RL 19 "java/lang/IndexOutOfBoundsException", Cond.classLink RL 21 "java/lang/IllegalArgumentException", Cond.classLink RL 13 "java/lang/IllegalStateException", Cond.methodLink RL 15 yX3_addRoad, Cond.instanceMethod yX3_addRoad, Cond.selects RX3 yX3_addRoad yX3_addRoad, Cond.initialized RX3, Cond.code yX3_addRoad cX3_addRoad 4 (some .int), Cond.classLink RX3 43 "java/lang/IllegalArgumentException", Cond.initialized "java/lang/IllegalArgumentException", Cond.classLink RX3 32 "java/lang/IllegalStateException", Cond.initialized "java/lang/IllegalStateException", Cond.fieldLink RX3 12 "MapCarrier" "land" "LMapCarrier$Land;", Cond.methodLink RX3 39 yX3_checkPlace, Cond.instanceMethod yX3_checkPlace, Cond.selects RX3 yX3_checkPlace yX3_checkPlace, Cond.code yX3_checkPlace cX3_checkPlace 2 none, Cond.classLink RX3 208 "java/lang/IndexOutOfBoundsException", Cond.initialized "java/lang/IndexOutOfBoundsException", Cond.methodLink RX3 205 yX1_isPlace, Cond.instanceMethod yX1_isPlace, Cond.selects RX1 yX1_isPlace yX1_isPlace, Cond.initialized RX1, Cond.code yX1_isPlace cX1_isPlace 2 (some .boolean)]
def wsL_addRoad_r2 : List Cond := [Cond.fieldLink RX1 34 "MapCarrier$Land" "places" "I", Cond.methodLink RX3 48 yX3_checkRange, Cond.instanceMethod yX3_checkRange, Cond.selects RX3 yX3_checkRange yX3_checkRange, Cond.code yX3_checkRange cX3_checkRange 3 none, Cond.methodLink RX3 52 yX1_isFull, Cond.instanceMethod yX1_isFull, Cond.selects RX1 yX1_isFull yX1_isFull, Cond.code yX1_isFull cX1_isFull 2 (some .boolean), Cond.fieldLink RX1 9 "MapCarrier$Land" "exits" "[I", Cond.methodLink RX1 38 yX1_isPlace, Cond.methodLink RX3 58 yX1_join, Cond.instanceMethod yX1_join, Cond.selects RX1 yX1_join yX1_join, Cond.code yX1_join cX1_join 7 (some .int), Cond.methodLink RX1 42 yX1_layEnd, Cond.instanceMethod yX1_layEnd, Cond.selects RX1 yX1_layEnd yX1_layEnd, Cond.code yX1_layEnd cX1_layEnd 4 none, Cond.fieldLink RX1 19 "MapCarrier$Land" "leads" "[I", Cond.fieldLink RX1 22 "MapCarrier$Land" "twins" "[I", Cond.fieldLink RX1 25 "MapCarrier$Land" "lengths" "[I", Cond.fieldLink RX1 28 "MapCarrier$Land" "open" "[Z", Cond.static yX3_placeOfEnd]
def wsL_addRoad_r3 : List Cond := [Cond.code yX3_placeOfEnd cX3_placeOfEnd 1 (some .int)]
def wsL_addRoad : List Cond := .codeWith yL_addRoad cL_addRoad 6 (some .int) [(0, 12, 15, 19), (0, 12, 19, 21), (0, 12, 23, 13)] :: ((wsL_addRoad_r1 ++ (wsL_addRoad_r2 ++ wsL_addRoad_r3)) ++ wsX30 ++ wsX10 ++ (vx_atS RX3 47 "java/lang/IllegalArgumentException" ["java/lang/RuntimeException", "java/lang/Exception"]).filter goodWord ++ (vx_atS RX3 36 "java/lang/IllegalStateException" ["java/lang/RuntimeException", "java/lang/Exception"]).filter goodWord ++ (vx_atS RX3 212 "java/lang/IndexOutOfBoundsException" ["java/lang/RuntimeException", "java/lang/Exception"]).filter goodWord)
def wsL_turnRoad_r1 : List Cond := [Cond.classLink RL 19 "java/lang/IndexOutOfBoundsException", Cond.methodLink RL 23 yX3_turnRoad, Cond.instanceMethod yX3_turnRoad, Cond.selects RX3 yX3_turnRoad yX3_turnRoad, Cond.initialized RX3, Cond.code yX3_turnRoad cX3_turnRoad 3 (some .boolean), Cond.fieldLink RX3 12 "MapCarrier" "land" "LMapCarrier$Land;", Cond.methodLink RX3 62 yX3_checkedEnd, Cond.instanceMethod yX3_checkedEnd, Cond.selects RX3 yX3_checkedEnd yX3_checkedEnd, Cond.code yX3_checkedEnd cX3_checkedEnd 4 (some .int), Cond.classLink RX3 208 "java/lang/IndexOutOfBoundsException", Cond.initialized "java/lang/IndexOutOfBoundsException", Cond.methodLink RX3 213 yX1_endAt, Cond.instanceMethod yX1_endAt, Cond.selects RX1 yX1_endAt yX1_endAt, Cond.initialized RX1, Cond.code yX1_endAt cX1_endAt 4 (some .int), Cond.fieldLink RX1 9 "MapCarrier$Land" "exits" "[I", Cond.methodLink RX1 38 yX1_isPlace, Cond.instanceMethod yX1_isPlace, Cond.selects RX1 yX1_isPlace yX1_isPlace, Cond.code yX1_isPlace cX1_isPlace 2 (some .boolean), Cond.fieldLink RX1 34 "MapCarrier$Land" "places" "I"]
def wsL_turnRoad_r2 : List Cond := [Cond.methodLink RX3 66 yX1_turnEnd, Cond.instanceMethod yX1_turnEnd, Cond.selects RX1 yX1_turnEnd yX1_turnEnd, Cond.code yX1_turnEnd cX1_turnEnd 3 (some .boolean), Cond.fieldLink RX1 28 "MapCarrier$Land" "open" "[Z", Cond.fieldLink RX1 22 "MapCarrier$Land" "twins" "[I", Cond.static yX3_isEnd, Cond.code yX3_isEnd cX3_isEnd 1 (some .boolean)]
def wsL_turnRoad : List Cond := .codeWith yL_turnRoad cL_turnRoad 5 (some .int) [(0, 17, 20, 19)] :: ((wsL_turnRoad_r1 ++ wsL_turnRoad_r2) ++ wsX30 ++ wsX10 ++ (vx_atS RX3 212 "java/lang/IndexOutOfBoundsException" ["java/lang/RuntimeException", "java/lang/Exception"]).filter goodWord)
def wsL_turnShepherd : List Cond := .codeWith yL_turnShepherd cL_turnShepherd 4 (some .int) [(0, 16, 19, 19)] :: ([.classLink RL 19 "java/lang/IndexOutOfBoundsException", .methodLink RL 27 yX3_turnShepherd, .instanceMethod yX3_turnShepherd, .selects RX3 yX3_turnShepherd yX3_turnShepherd, .initialized RX3, .code yX3_turnShepherd cX3_turnShepherd 2 (some .boolean), .fieldLink RX3 12 "MapCarrier" "land" "LMapCarrier$Land;", .methodLink RX3 39 yX3_checkPlace, .instanceMethod yX3_checkPlace, .selects RX3 yX3_checkPlace yX3_checkPlace, .code yX3_checkPlace cX3_checkPlace 2 none, .classLink RX3 208 "java/lang/IndexOutOfBoundsException", .initialized "java/lang/IndexOutOfBoundsException", .methodLink RX3 205 yX1_isPlace, .instanceMethod yX1_isPlace, .selects RX1 yX1_isPlace yX1_isPlace, .initialized RX1, .code yX1_isPlace cX1_isPlace 2 (some .boolean), .fieldLink RX1 34 "MapCarrier$Land" "places" "I"] ++ wsX30 ++ wsX10 ++ (vx_atS RX3 212 "java/lang/IndexOutOfBoundsException" ["java/lang/RuntimeException", "java/lang/Exception"]).filter goodWord)
def wsL_pay : List Cond := .codeWith yL_pay cL_pay 4 (some .int) [(0, 9, 12, 21)] :: ([.classLink RL 21 "java/lang/IllegalArgumentException", .methodLink RL 31 yX3_pay, .instanceMethod yX3_pay, .selects RX3 yX3_pay yX3_pay, .initialized RX3, .code yX3_pay cX3_pay 2 (some .int), .fieldLink RX3 21 "MapCarrier" "carrier" "LMapCarrier$Carrier;", .methodLink RX3 76 Lib.Math.min.name, .static Lib.Math.min.name, .initialized "java/lang/Math", .code Lib.Math.min.name Lib.Math.min.code 2 (some .int), .methodLink RX3 48 yX3_checkRange, .instanceMethod yX3_checkRange, .selects RX3 yX3_checkRange yX3_checkRange, .code yX3_checkRange cX3_checkRange 3 none, .classLink RX3 43 "java/lang/IllegalArgumentException", .initialized "java/lang/IllegalArgumentException"] ++ wsX30 ++ wsX00 ++ (vx_atS RX3 47 "java/lang/IllegalArgumentException" ["java/lang/RuntimeException", "java/lang/Exception"]).filter goodWord)
def wsL_beginErrand_r1 : List Cond := [Cond.classLink RL 19 "java/lang/IndexOutOfBoundsException", Cond.classLink RL 13 "java/lang/IllegalStateException", Cond.methodLink RL 35 yX3_beginErrand, Cond.instanceMethod yX3_beginErrand, Cond.selects RX3 yX3_beginErrand yX3_beginErrand, Cond.initialized RX3, Cond.code yX3_beginErrand cX3_beginErrand 3 (some .int), Cond.fieldLink RX3 12 "MapCarrier" "land" "LMapCarrier$Land;", Cond.fieldLink RX3 21 "MapCarrier" "carrier" "LMapCarrier$Carrier;", Cond.methodLink RX3 39 yX3_checkPlace, Cond.instanceMethod yX3_checkPlace, Cond.selects RX3 yX3_checkPlace yX3_checkPlace, Cond.code yX3_checkPlace cX3_checkPlace 2 none, Cond.classLink RX3 208 "java/lang/IndexOutOfBoundsException", Cond.initialized "java/lang/IndexOutOfBoundsException", Cond.methodLink RX3 205 yX1_isPlace, Cond.instanceMethod yX1_isPlace, Cond.selects RX1 yX1_isPlace yX1_isPlace, Cond.initialized RX1, Cond.code yX1_isPlace cX1_isPlace 2 (some .boolean), Cond.fieldLink RX1 34 "MapCarrier$Land" "places" "I", Cond.methodLink RX3 81 yX3_checkIdle, Cond.instanceMethod yX3_checkIdle, Cond.selects RX3 yX3_checkIdle yX3_checkIdle]
def wsL_beginErrand_r2 : List Cond := [Cond.code yX3_checkIdle cX3_checkIdle 1 none, Cond.classLink RX3 32 "java/lang/IllegalStateException", Cond.initialized "java/lang/IllegalStateException", Cond.methodLink RX3 96 yX0_isUnderway, Cond.instanceMethod yX0_isUnderway, Cond.selects RX0 yX0_isUnderway yX0_isUnderway, Cond.initialized RX0, Cond.code yX0_isUnderway cX0_isUnderway 1 (some .boolean), Cond.fieldLink RX0 18 "MapCarrier$Carrier" "goal" "I", Cond.methodLink RX3 87 yX1_shortest, Cond.instanceMethod yX1_shortest, Cond.selects RX1 yX1_shortest yX1_shortest, Cond.code yX1_shortest cX1_shortest 3 (some .int), Cond.fieldLink RX1 31 "MapCarrier$Land" "far" "[I", Cond.constant RX1 57 (1000000), Cond.methodLink RX1 53 yX1_measure, Cond.instanceMethod yX1_measure, Cond.selects RX1 yX1_measure yX1_measure, Cond.code yX1_measure cX1_measure 6 none, Cond.methodLink RX1 61 yJ7_fill_53178, Cond.static yJ7_fill_53178, Cond.initialized RJ7, Cond.code yJ7_fill_53178 cJ7_fill_53178 4 none, Cond.methodLink RX1 38 yX1_isPlace]
def wsL_beginErrand_r3 : List Cond := [Cond.methodLink RX1 58 yX1_milesBy, Cond.instanceMethod yX1_milesBy, Cond.selects RX1 yX1_milesBy yX1_milesBy, Cond.code yX1_milesBy cX1_milesBy 2 (some .int), Cond.fieldLink RX1 28 "MapCarrier$Land" "open" "[Z", Cond.fieldLink RX1 25 "MapCarrier$Land" "lengths" "[I", Cond.fieldLink RX1 19 "MapCarrier$Land" "leads" "[I", Cond.static yX3_placeOfEnd, Cond.code yX3_placeOfEnd cX3_placeOfEnd 1 (some .int), Cond.methodLink RX3 90 yX0_begin, Cond.instanceMethod yX0_begin, Cond.selects RX0 yX0_begin yX0_begin, Cond.code yX0_begin cX0_begin 2 none, Cond.fieldLink RX0 26 "MapCarrier$Carrier" "tried" "[Z", Cond.fieldLink RX0 30 "MapCarrier$Carrier" "askedAt" "[Z", Cond.fieldLink RX0 64 "MapCarrier$Carrier" "wayLength" "I", Cond.fieldLink RX0 40 "MapCarrier$Carrier" "at" "I", Cond.fieldLink RX0 67 "MapCarrier$Carrier" "done" "I", Cond.methodLink RX0 60 yX0_forget, Cond.static yX0_forget, Cond.code yX0_forget cX0_forget 2 none, Cond.methodLink RX0 70 yX0_endErrand, Cond.instanceMethod yX0_endErrand, Cond.selects RX0 yX0_endErrand yX0_endErrand]
def wsL_beginErrand_r4 : List Cond := [Cond.code yX0_endErrand cX0_endErrand 1 none]
def wsL_beginErrand : List Cond := .codeWith yL_beginErrand cL_beginErrand 4 (some .int) [(0, 9, 12, 19), (0, 9, 15, 13)] :: ((wsL_beginErrand_r1 ++ (wsL_beginErrand_r2 ++ (wsL_beginErrand_r3 ++ wsL_beginErrand_r4))) ++ wsX30 ++ wsX00 ++ wsX10 ++ (vx_atS RX3 212 "java/lang/IndexOutOfBoundsException" ["java/lang/RuntimeException", "java/lang/Exception"]).filter goodWord ++ (vx_atS RX3 36 "java/lang/IllegalStateException" ["java/lang/RuntimeException", "java/lang/Exception"]).filter goodWord)
def wsL_goOn_r1 : List Cond := [Cond.classLink RL 21 "java/lang/IllegalArgumentException", Cond.classLink RL 13 "java/lang/IllegalStateException", Cond.methodLink RL 38 yX3_goOn, Cond.instanceMethod yX3_goOn, Cond.selects RX3 yX3_goOn yX3_goOn, Cond.initialized RX3, Cond.code yX3_goOn cX3_goOn 3 (some .int), Cond.fieldLink RX3 21 "MapCarrier" "carrier" "LMapCarrier$Carrier;", Cond.methodLink RX3 48 yX3_checkRange, Cond.instanceMethod yX3_checkRange, Cond.selects RX3 yX3_checkRange yX3_checkRange, Cond.code yX3_checkRange cX3_checkRange 3 none, Cond.classLink RX3 43 "java/lang/IllegalArgumentException", Cond.initialized "java/lang/IllegalArgumentException", Cond.methodLink RX3 93 yX3_checkUnderway, Cond.instanceMethod yX3_checkUnderway, Cond.selects RX3 yX3_checkUnderway yX3_checkUnderway, Cond.code yX3_checkUnderway cX3_checkUnderway 1 none, Cond.classLink RX3 32 "java/lang/IllegalStateException", Cond.initialized "java/lang/IllegalStateException", Cond.methodLink RX3 96 yX0_isUnderway, Cond.instanceMethod yX0_isUnderway, Cond.selects RX0 yX0_isUnderway yX0_isUnderway, Cond.initialized RX0]
def wsL_goOn_r2 : List Cond := [Cond.code yX0_isUnderway cX0_isUnderway 1 (some .boolean), Cond.fieldLink RX0 18 "MapCarrier$Carrier" "goal" "I", Cond.methodLink RX3 100 yX0_step, Cond.instanceMethod yX0_step, Cond.selects RX0 yX0_step yX0_step, Cond.code yX0_step cX0_step 2 (some .boolean), Cond.fieldLink RX0 64 "MapCarrier$Carrier" "wayLength" "I", Cond.fieldLink RX0 53 "MapCarrier$Carrier" "inVain" "I", Cond.fieldLink RX0 40 "MapCarrier$Carrier" "at" "I", Cond.fieldLink RX0 67 "MapCarrier$Carrier" "done" "I", Cond.methodLink RX0 73 yX0_rememberedEnd, Cond.instanceMethod yX0_rememberedEnd, Cond.selects RX0 yX0_rememberedEnd yX0_rememberedEnd, Cond.code yX0_rememberedEnd cX0_rememberedEnd 2 (some .int), Cond.fieldLink RX0 36 "MapCarrier$Carrier" "land" "LMapCarrier$Land;", Cond.fieldLink RX0 12 "MapCarrier$Carrier" "memory" "LMapCarrier$Memory;", Cond.methodLink RX0 98 yX2_exitFor, Cond.instanceMethod yX2_exitFor, Cond.selects RX2 yX2_exitFor yX2_exitFor, Cond.initialized RX2, Cond.code yX2_exitFor cX2_exitFor 4 (some .int), Cond.fieldLink RX2 15 "MapCarrier$Memory" "strengths" "[I", Cond.fieldLink RX2 9 "MapCarrier$Memory" "exits" "[I", Cond.methodLink RX2 18 yX2_spotOf]
def wsL_goOn_r3 : List Cond := [Cond.static yX2_spotOf, Cond.code yX2_spotOf cX2_spotOf 3 (some .int), Cond.methodLink RX0 102 yX1_endAt, Cond.instanceMethod yX1_endAt, Cond.selects RX1 yX1_endAt yX1_endAt, Cond.initialized RX1, Cond.code yX1_endAt cX1_endAt 4 (some .int), Cond.fieldLink RX1 9 "MapCarrier$Land" "exits" "[I", Cond.methodLink RX1 38 yX1_isPlace, Cond.instanceMethod yX1_isPlace, Cond.selects RX1 yX1_isPlace yX1_isPlace, Cond.code yX1_isPlace cX1_isPlace 2 (some .boolean), Cond.fieldLink RX1 34 "MapCarrier$Land" "places" "I", Cond.methodLink RX0 105 yX0_canTake, Cond.instanceMethod yX0_canTake, Cond.selects RX0 yX0_canTake yX0_canTake, Cond.code yX0_canTake cX0_canTake 2 (some .boolean), Cond.fieldLink RX0 26 "MapCarrier$Carrier" "tried" "[Z", Cond.static yX3_isEnd, Cond.code yX3_isEnd cX3_isEnd 1 (some .boolean), Cond.methodLink RX0 77 yX0_askedEnd, Cond.instanceMethod yX0_askedEnd, Cond.selects RX0 yX0_askedEnd yX0_askedEnd, Cond.code yX0_askedEnd cX0_askedEnd 3 (some .int)]
def wsL_goOn_r4 : List Cond := [Cond.fieldLink RX0 33 "MapCarrier$Carrier" "guest" "I", Cond.fieldLink RX0 30 "MapCarrier$Carrier" "askedAt" "[Z", Cond.fieldLink RX0 43 "MapCarrier$Carrier" "coins" "I", Cond.fieldLink RX0 114 "MapCarrier$Carrier" "questions" "I", Cond.methodLink RX0 108 yX1_isPlace, Cond.methodLink RX0 117 yX1_endTowards, Cond.instanceMethod yX1_endTowards, Cond.selects RX1 yX1_endTowards yX1_endTowards, Cond.code yX1_endTowards cX1_endTowards 5 (some .int), Cond.fieldLink RX1 31 "MapCarrier$Land" "far" "[I", Cond.constant RX1 57 (1000000), Cond.methodLink RX1 53 yX1_measure, Cond.instanceMethod yX1_measure, Cond.selects RX1 yX1_measure yX1_measure, Cond.code yX1_measure cX1_measure 6 none, Cond.methodLink RX1 61 yJ7_fill_53178, Cond.static yJ7_fill_53178, Cond.initialized RJ7, Cond.code yJ7_fill_53178 cJ7_fill_53178 4 none, Cond.methodLink RX1 58 yX1_milesBy, Cond.instanceMethod yX1_milesBy, Cond.selects RX1 yX1_milesBy yX1_milesBy, Cond.code yX1_milesBy cX1_milesBy 2 (some .int), Cond.fieldLink RX1 28 "MapCarrier$Land" "open" "[Z"]
def wsL_goOn_r5 : List Cond := [Cond.fieldLink RX1 25 "MapCarrier$Land" "lengths" "[I", Cond.fieldLink RX1 19 "MapCarrier$Land" "leads" "[I", Cond.static yX3_placeOfEnd, Cond.code yX3_placeOfEnd cX3_placeOfEnd 1 (some .int), Cond.static yX3_exitOfEnd, Cond.code yX3_exitOfEnd cX3_exitOfEnd 1 (some .int), Cond.methodLink RX0 124 yX2_learn, Cond.instanceMethod yX2_learn, Cond.selects RX2 yX2_learn yX2_learn, Cond.code yX2_learn cX2_learn 5 none, Cond.methodLink RX0 80 yX0_firstUntried, Cond.instanceMethod yX0_firstUntried, Cond.selects RX0 yX0_firstUntried yX0_firstUntried, Cond.code yX0_firstUntried cX0_firstUntried 3 (some .int), Cond.methodLink RX0 83 yX0_take, Cond.instanceMethod yX0_take, Cond.selects RX0 yX0_take yX0_take, Cond.code yX0_take cX0_take 3 none, Cond.fieldLink RX0 22 "MapCarrier$Carrier" "way" "[I", Cond.fieldLink RX0 50 "MapCarrier$Carrier" "walked" "I", Cond.methodLink RX0 128 yX1_twinOf, Cond.instanceMethod yX1_twinOf, Cond.selects RX1 yX1_twinOf yX1_twinOf, Cond.code yX1_twinOf cX1_twinOf 2 (some .int)]
def wsL_goOn_r6 : List Cond := [Cond.fieldLink RX1 22 "MapCarrier$Land" "twins" "[I", Cond.methodLink RX0 131 yX1_milesAt, Cond.instanceMethod yX1_milesAt, Cond.selects RX1 yX1_milesAt yX1_milesAt, Cond.code yX1_milesAt cX1_milesAt 2 (some .int), Cond.methodLink RX0 87 yX0_doubleBack, Cond.instanceMethod yX0_doubleBack, Cond.selects RX0 yX0_doubleBack yX0_doubleBack, Cond.code yX0_doubleBack cX0_doubleBack 3 none, Cond.fieldLink RX0 137 "MapCarrier$Carrier" "doubled" "I", Cond.methodLink RX0 70 yX0_endErrand, Cond.instanceMethod yX0_endErrand, Cond.selects RX0 yX0_endErrand yX0_endErrand, Cond.code yX0_endErrand cX0_endErrand 1 none, Cond.methodLink RX0 90 yX0_rememberWay, Cond.instanceMethod yX0_rememberWay, Cond.selects RX0 yX0_rememberWay yX0_rememberWay, Cond.code yX0_rememberWay cX0_rememberWay 2 none, Cond.methodLink RX0 140 yX2_confirm, Cond.instanceMethod yX2_confirm, Cond.selects RX2 yX2_confirm yX2_confirm, Cond.code yX2_confirm cX2_confirm 5 none, Cond.methodLink RX2 22 Lib.Math.min.name, Cond.static Lib.Math.min.name]
def wsL_goOn_r7 : List Cond := [Cond.initialized "java/lang/Math", Cond.code Lib.Math.min.name Lib.Math.min.code 2 (some .int), Cond.methodLink RX2 27 yX2_learn]
def wsL_goOn : List Cond := .codeWith yL_goOn cL_goOn 4 (some .int) [(0, 9, 12, 21), (0, 9, 15, 13)] :: ((wsL_goOn_r1 ++ (wsL_goOn_r2 ++ (wsL_goOn_r3 ++ (wsL_goOn_r4 ++ (wsL_goOn_r5 ++ (wsL_goOn_r6 ++ wsL_goOn_r7)))))) ++ wsX30 ++ wsX00 ++ wsX20 ++ wsX10 ++ (vx_atS RX3 47 "java/lang/IllegalArgumentException" ["java/lang/RuntimeException", "java/lang/Exception"]).filter goodWord ++ (vx_atS RX3 36 "java/lang/IllegalStateException" ["java/lang/RuntimeException", "java/lang/Exception"]).filter goodWord)
def wsL_giveUp : List Cond := .codeWith yL_giveUp cL_giveUp 3 (some .int) [(0, 8, 11, 13)] :: ([.classLink RL 13 "java/lang/IllegalStateException", .methodLink RL 41 yX3_giveUp, .instanceMethod yX3_giveUp, .selects RX3 yX3_giveUp yX3_giveUp, .initialized RX3, .code yX3_giveUp cX3_giveUp 2 (some .int), .fieldLink RX3 21 "MapCarrier" "carrier" "LMapCarrier$Carrier;", .methodLink RX3 93 yX3_checkUnderway, .instanceMethod yX3_checkUnderway, .selects RX3 yX3_checkUnderway yX3_checkUnderway, .code yX3_checkUnderway cX3_checkUnderway 1 none, .classLink RX3 32 "java/lang/IllegalStateException", .initialized "java/lang/IllegalStateException", .methodLink RX3 96 yX0_isUnderway, .instanceMethod yX0_isUnderway, .selects RX0 yX0_isUnderway yX0_isUnderway, .initialized RX0, .code yX0_isUnderway cX0_isUnderway 1 (some .boolean), .fieldLink RX0 18 "MapCarrier$Carrier" "goal" "I", .methodLink RX3 106 yX0_endErrand, .instanceMethod yX0_endErrand, .selects RX0 yX0_endErrand yX0_endErrand, .code yX0_endErrand cX0_endErrand 1 none, .fieldLink RX0 64 "MapCarrier$Carrier" "wayLength" "I"] ++ wsX30 ++ wsX00 ++ (vx_atS RX3 36 "java/lang/IllegalStateException" ["java/lang/RuntimeException", "java/lang/Exception"]).filter goodWord)
def wsL_sleep : List Cond := .codeWith yL_sleep cL_sleep 4 (some .int) [(0, 9, 12, 21)] :: ([.classLink RL 21 "java/lang/IllegalArgumentException", .methodLink RL 44 yX3_sleep, .instanceMethod yX3_sleep, .selects RX3 yX3_sleep yX3_sleep, .initialized RX3, .code yX3_sleep cX3_sleep 2 (some .int), .fieldLink RX3 21 "MapCarrier" "carrier" "LMapCarrier$Carrier;", .methodLink RX3 48 yX3_checkRange, .instanceMethod yX3_checkRange, .selects RX3 yX3_checkRange yX3_checkRange, .code yX3_checkRange cX3_checkRange 3 none, .classLink RX3 43 "java/lang/IllegalArgumentException", .initialized "java/lang/IllegalArgumentException", .methodLink RX3 113 yX2_fade, .instanceMethod yX2_fade, .selects RX2 yX2_fade yX2_fade, .initialized RX2, .code yX2_fade cX2_fade 5 (some .int), .fieldLink RX2 15 "MapCarrier$Memory" "strengths" "[I", .methodLink RX2 31 Lib.Math.max.name, .static Lib.Math.max.name, .initialized "java/lang/Math", .code Lib.Math.max.name Lib.Math.max.code 2 (some .int)] ++ wsX30 ++ wsX00 ++ wsX20 ++ (vx_atS RX3 47 "java/lang/IllegalArgumentException" ["java/lang/RuntimeException", "java/lang/Exception"]).filter goodWord)
def wsL_exitsOf : List Cond := .codeWith yL_exitsOf cL_exitsOf 4 (some .int) [(0, 9, 12, 19)] :: ([.classLink RL 19 "java/lang/IndexOutOfBoundsException", .methodLink RL 47 yX3_exitsOf, .instanceMethod yX3_exitsOf, .selects RX3 yX3_exitsOf yX3_exitsOf, .initialized RX3, .code yX3_exitsOf cX3_exitsOf 2 (some .int), .fieldLink RX3 12 "MapCarrier" "land" "LMapCarrier$Land;", .methodLink RX3 39 yX3_checkPlace, .instanceMethod yX3_checkPlace, .selects RX3 yX3_checkPlace yX3_checkPlace, .code yX3_checkPlace cX3_checkPlace 2 none, .classLink RX3 208 "java/lang/IndexOutOfBoundsException", .initialized "java/lang/IndexOutOfBoundsException", .methodLink RX3 205 yX1_isPlace, .instanceMethod yX1_isPlace, .selects RX1 yX1_isPlace yX1_isPlace, .initialized RX1, .code yX1_isPlace cX1_isPlace 2 (some .boolean), .fieldLink RX1 34 "MapCarrier$Land" "places" "I"] ++ wsX30 ++ wsX10 ++ (vx_atS RX3 212 "java/lang/IndexOutOfBoundsException" ["java/lang/RuntimeException", "java/lang/Exception"]).filter goodWord)
def wsL_leadsTo_r1 : List Cond := [Cond.classLink RL 19 "java/lang/IndexOutOfBoundsException", Cond.methodLink RL 50 yX3_leadsTo, Cond.instanceMethod yX3_leadsTo, Cond.selects RX3 yX3_leadsTo yX3_leadsTo, Cond.initialized RX3, Cond.code yX3_leadsTo cX3_leadsTo 3 (some .int), Cond.fieldLink RX3 12 "MapCarrier" "land" "LMapCarrier$Land;", Cond.methodLink RX3 62 yX3_checkedEnd, Cond.instanceMethod yX3_checkedEnd, Cond.selects RX3 yX3_checkedEnd yX3_checkedEnd, Cond.code yX3_checkedEnd cX3_checkedEnd 4 (some .int), Cond.classLink RX3 208 "java/lang/IndexOutOfBoundsException", Cond.initialized "java/lang/IndexOutOfBoundsException", Cond.methodLink RX3 213 yX1_endAt, Cond.instanceMethod yX1_endAt, Cond.selects RX1 yX1_endAt yX1_endAt, Cond.initialized RX1, Cond.code yX1_endAt cX1_endAt 4 (some .int), Cond.fieldLink RX1 9 "MapCarrier$Land" "exits" "[I", Cond.methodLink RX1 38 yX1_isPlace, Cond.instanceMethod yX1_isPlace, Cond.selects RX1 yX1_isPlace yX1_isPlace, Cond.code yX1_isPlace cX1_isPlace 2 (some .boolean), Cond.fieldLink RX1 34 "MapCarrier$Land" "places" "I"]
def wsL_leadsTo_r2 : List Cond := [Cond.methodLink RX3 123 yX1_beyond, Cond.instanceMethod yX1_beyond, Cond.selects RX1 yX1_beyond yX1_beyond, Cond.code yX1_beyond cX1_beyond 2 (some .int), Cond.fieldLink RX1 19 "MapCarrier$Land" "leads" "[I", Cond.static yX3_isEnd, Cond.code yX3_isEnd cX3_isEnd 1 (some .boolean)]
def wsL_leadsTo : List Cond := .codeWith yL_leadsTo cL_leadsTo 5 (some .int) [(0, 10, 13, 19)] :: ((wsL_leadsTo_r1 ++ wsL_leadsTo_r2) ++ wsX30 ++ wsX10 ++ (vx_atS RX3 212 "java/lang/IndexOutOfBoundsException" ["java/lang/RuntimeException", "java/lang/Exception"]).filter goodWord)
def wsL_milesOf_r1 : List Cond := [Cond.classLink RL 19 "java/lang/IndexOutOfBoundsException", Cond.methodLink RL 54 yX3_milesOf, Cond.instanceMethod yX3_milesOf, Cond.selects RX3 yX3_milesOf yX3_milesOf, Cond.initialized RX3, Cond.code yX3_milesOf cX3_milesOf 3 (some .int), Cond.fieldLink RX3 12 "MapCarrier" "land" "LMapCarrier$Land;", Cond.methodLink RX3 62 yX3_checkedEnd, Cond.instanceMethod yX3_checkedEnd, Cond.selects RX3 yX3_checkedEnd yX3_checkedEnd, Cond.code yX3_checkedEnd cX3_checkedEnd 4 (some .int), Cond.classLink RX3 208 "java/lang/IndexOutOfBoundsException", Cond.initialized "java/lang/IndexOutOfBoundsException", Cond.methodLink RX3 213 yX1_endAt, Cond.instanceMethod yX1_endAt, Cond.selects RX1 yX1_endAt yX1_endAt, Cond.initialized RX1, Cond.code yX1_endAt cX1_endAt 4 (some .int), Cond.fieldLink RX1 9 "MapCarrier$Land" "exits" "[I", Cond.methodLink RX1 38 yX1_isPlace, Cond.instanceMethod yX1_isPlace, Cond.selects RX1 yX1_isPlace yX1_isPlace, Cond.code yX1_isPlace cX1_isPlace 2 (some .boolean), Cond.fieldLink RX1 34 "MapCarrier$Land" "places" "I"]
def wsL_milesOf_r2 : List Cond := [Cond.methodLink RX3 126 yX1_milesAt, Cond.instanceMethod yX1_milesAt, Cond.selects RX1 yX1_milesAt yX1_milesAt, Cond.code yX1_milesAt cX1_milesAt 2 (some .int), Cond.fieldLink RX1 25 "MapCarrier$Land" "lengths" "[I", Cond.static yX3_isEnd, Cond.code yX3_isEnd cX3_isEnd 1 (some .boolean)]
def wsL_milesOf : List Cond := .codeWith yL_milesOf cL_milesOf 5 (some .int) [(0, 10, 13, 19)] :: ((wsL_milesOf_r1 ++ wsL_milesOf_r2) ++ wsX30 ++ wsX10 ++ (vx_atS RX3 212 "java/lang/IndexOutOfBoundsException" ["java/lang/RuntimeException", "java/lang/Exception"]).filter goodWord)
def wsL_isOpen_r1 : List Cond := [Cond.classLink RL 19 "java/lang/IndexOutOfBoundsException", Cond.methodLink RL 57 yX3_isOpen, Cond.instanceMethod yX3_isOpen, Cond.selects RX3 yX3_isOpen yX3_isOpen, Cond.initialized RX3, Cond.code yX3_isOpen cX3_isOpen 3 (some .boolean), Cond.fieldLink RX3 12 "MapCarrier" "land" "LMapCarrier$Land;", Cond.methodLink RX3 62 yX3_checkedEnd, Cond.instanceMethod yX3_checkedEnd, Cond.selects RX3 yX3_checkedEnd yX3_checkedEnd, Cond.code yX3_checkedEnd cX3_checkedEnd 4 (some .int), Cond.classLink RX3 208 "java/lang/IndexOutOfBoundsException", Cond.initialized "java/lang/IndexOutOfBoundsException", Cond.methodLink RX3 213 yX1_endAt, Cond.instanceMethod yX1_endAt, Cond.selects RX1 yX1_endAt yX1_endAt, Cond.initialized RX1, Cond.code yX1_endAt cX1_endAt 4 (some .int), Cond.fieldLink RX1 9 "MapCarrier$Land" "exits" "[I", Cond.methodLink RX1 38 yX1_isPlace, Cond.instanceMethod yX1_isPlace, Cond.selects RX1 yX1_isPlace yX1_isPlace, Cond.code yX1_isPlace cX1_isPlace 2 (some .boolean), Cond.fieldLink RX1 34 "MapCarrier$Land" "places" "I"]
def wsL_isOpen_r2 : List Cond := [Cond.methodLink RX3 129 yX1_opensAt, Cond.instanceMethod yX1_opensAt, Cond.selects RX1 yX1_opensAt yX1_opensAt, Cond.code yX1_opensAt cX1_opensAt 2 (some .boolean), Cond.fieldLink RX1 28 "MapCarrier$Land" "open" "[Z", Cond.static yX3_isEnd, Cond.code yX3_isEnd cX3_isEnd 1 (some .boolean)]
def wsL_isOpen : List Cond := .codeWith yL_isOpen cL_isOpen 5 (some .int) [(0, 17, 20, 19)] :: ((wsL_isOpen_r1 ++ wsL_isOpen_r2) ++ wsX30 ++ wsX10 ++ (vx_atS RX3 212 "java/lang/IndexOutOfBoundsException" ["java/lang/RuntimeException", "java/lang/Exception"]).filter goodWord)
def wsL_hasShepherd : List Cond := .codeWith yL_hasShepherd cL_hasShepherd 4 (some .int) [(0, 16, 19, 19)] :: ([.classLink RL 19 "java/lang/IndexOutOfBoundsException", .methodLink RL 60 yX3_hasShepherd, .instanceMethod yX3_hasShepherd, .selects RX3 yX3_hasShepherd yX3_hasShepherd, .initialized RX3, .code yX3_hasShepherd cX3_hasShepherd 2 (some .boolean), .fieldLink RX3 12 "MapCarrier" "land" "LMapCarrier$Land;", .methodLink RX3 39 yX3_checkPlace, .instanceMethod yX3_checkPlace, .selects RX3 yX3_checkPlace yX3_checkPlace, .code yX3_checkPlace cX3_checkPlace 2 none, .classLink RX3 208 "java/lang/IndexOutOfBoundsException", .initialized "java/lang/IndexOutOfBoundsException", .methodLink RX3 205 yX1_isPlace, .instanceMethod yX1_isPlace, .selects RX1 yX1_isPlace yX1_isPlace, .initialized RX1, .code yX1_isPlace cX1_isPlace 2 (some .boolean), .fieldLink RX1 34 "MapCarrier$Land" "places" "I"] ++ wsX30 ++ wsX10 ++ (vx_atS RX3 212 "java/lang/IndexOutOfBoundsException" ["java/lang/RuntimeException", "java/lang/Exception"]).filter goodWord)
def wsL_distance_r1 : List Cond := [Cond.classLink RL 19 "java/lang/IndexOutOfBoundsException", Cond.methodLink RL 63 yX3_distance, Cond.instanceMethod yX3_distance, Cond.selects RX3 yX3_distance yX3_distance, Cond.initialized RX3, Cond.code yX3_distance cX3_distance 3 (some .int), Cond.fieldLink RX3 12 "MapCarrier" "land" "LMapCarrier$Land;", Cond.methodLink RX3 39 yX3_checkPlace, Cond.instanceMethod yX3_checkPlace, Cond.selects RX3 yX3_checkPlace yX3_checkPlace, Cond.code yX3_checkPlace cX3_checkPlace 2 none, Cond.classLink RX3 208 "java/lang/IndexOutOfBoundsException", Cond.initialized "java/lang/IndexOutOfBoundsException", Cond.methodLink RX3 205 yX1_isPlace, Cond.instanceMethod yX1_isPlace, Cond.selects RX1 yX1_isPlace yX1_isPlace, Cond.initialized RX1, Cond.code yX1_isPlace cX1_isPlace 2 (some .boolean), Cond.fieldLink RX1 34 "MapCarrier$Land" "places" "I", Cond.methodLink RX3 87 yX1_shortest, Cond.instanceMethod yX1_shortest, Cond.selects RX1 yX1_shortest yX1_shortest, Cond.code yX1_shortest cX1_shortest 3 (some .int), Cond.fieldLink RX1 31 "MapCarrier$Land" "far" "[I"]
def wsL_distance_r2 : List Cond := [Cond.constant RX1 57 (1000000), Cond.methodLink RX1 53 yX1_measure, Cond.instanceMethod yX1_measure, Cond.selects RX1 yX1_measure yX1_measure, Cond.code yX1_measure cX1_measure 6 none, Cond.methodLink RX1 61 yJ7_fill_53178, Cond.static yJ7_fill_53178, Cond.initialized RJ7, Cond.code yJ7_fill_53178 cJ7_fill_53178 4 none, Cond.methodLink RX1 38 yX1_isPlace, Cond.methodLink RX1 58 yX1_milesBy, Cond.instanceMethod yX1_milesBy, Cond.selects RX1 yX1_milesBy yX1_milesBy, Cond.code yX1_milesBy cX1_milesBy 2 (some .int), Cond.fieldLink RX1 28 "MapCarrier$Land" "open" "[Z", Cond.fieldLink RX1 25 "MapCarrier$Land" "lengths" "[I", Cond.fieldLink RX1 19 "MapCarrier$Land" "leads" "[I", Cond.static yX3_placeOfEnd, Cond.code yX3_placeOfEnd cX3_placeOfEnd 1 (some .int)]
def wsL_distance : List Cond := .codeWith yL_distance cL_distance 5 (some .int) [(0, 10, 13, 19)] :: ((wsL_distance_r1 ++ wsL_distance_r2) ++ wsX30 ++ wsX10 ++ (vx_atS RX3 212 "java/lang/IndexOutOfBoundsException" ["java/lang/RuntimeException", "java/lang/Exception"]).filter goodWord)
def wsL_isTried_r1 : List Cond := [Cond.classLink RL 19 "java/lang/IndexOutOfBoundsException", Cond.methodLink RL 66 yX3_isTried, Cond.instanceMethod yX3_isTried, Cond.selects RX3 yX3_isTried yX3_isTried, Cond.initialized RX3, Cond.code yX3_isTried cX3_isTried 4 (some .boolean), Cond.fieldLink RX3 21 "MapCarrier" "carrier" "LMapCarrier$Carrier;", Cond.methodLink RX3 62 yX3_checkedEnd, Cond.instanceMethod yX3_checkedEnd, Cond.selects RX3 yX3_checkedEnd yX3_checkedEnd, Cond.code yX3_checkedEnd cX3_checkedEnd 4 (some .int), Cond.classLink RX3 208 "java/lang/IndexOutOfBoundsException", Cond.initialized "java/lang/IndexOutOfBoundsException", Cond.fieldLink RX3 12 "MapCarrier" "land" "LMapCarrier$Land;", Cond.methodLink RX3 213 yX1_endAt, Cond.instanceMethod yX1_endAt, Cond.selects RX1 yX1_endAt yX1_endAt, Cond.initialized RX1, Cond.code yX1_endAt cX1_endAt 4 (some .int), Cond.fieldLink RX1 9 "MapCarrier$Land" "exits" "[I", Cond.methodLink RX1 38 yX1_isPlace, Cond.instanceMethod yX1_isPlace, Cond.selects RX1 yX1_isPlace yX1_isPlace, Cond.code yX1_isPlace cX1_isPlace 2 (some .boolean)]
def wsL_isTried_r2 : List Cond := [Cond.fieldLink RX1 34 "MapCarrier$Land" "places" "I", Cond.methodLink RX3 96 yX0_isUnderway, Cond.instanceMethod yX0_isUnderway, Cond.selects RX0 yX0_isUnderway yX0_isUnderway, Cond.initialized RX0, Cond.code yX0_isUnderway cX0_isUnderway 1 (some .boolean), Cond.fieldLink RX0 18 "MapCarrier$Carrier" "goal" "I", Cond.methodLink RX3 135 yX0_hasTried, Cond.instanceMethod yX0_hasTried, Cond.selects RX0 yX0_hasTried yX0_hasTried, Cond.code yX0_hasTried cX0_hasTried 2 (some .boolean), Cond.fieldLink RX0 26 "MapCarrier$Carrier" "tried" "[Z", Cond.static yX3_isEnd, Cond.code yX3_isEnd cX3_isEnd 1 (some .boolean)]
def wsL_isTried : List Cond := .codeWith yL_isTried cL_isTried 5 (some .int) [(0, 17, 20, 19)] :: ((wsL_isTried_r1 ++ wsL_isTried_r2) ++ wsX30 ++ wsX10 ++ wsX00 ++ (vx_atS RX3 212 "java/lang/IndexOutOfBoundsException" ["java/lang/RuntimeException", "java/lang/Exception"]).filter goodWord)
def wsL_remembered_r1 : List Cond := [Cond.classLink RL 19 "java/lang/IndexOutOfBoundsException", Cond.methodLink RL 69 yX3_remembered, Cond.instanceMethod yX3_remembered, Cond.selects RX3 yX3_remembered yX3_remembered, Cond.initialized RX3, Cond.code yX3_remembered cX3_remembered 3 (some .int), Cond.fieldLink RX3 21 "MapCarrier" "carrier" "LMapCarrier$Carrier;", Cond.methodLink RX3 39 yX3_checkPlace, Cond.instanceMethod yX3_checkPlace, Cond.selects RX3 yX3_checkPlace yX3_checkPlace, Cond.code yX3_checkPlace cX3_checkPlace 2 none, Cond.classLink RX3 208 "java/lang/IndexOutOfBoundsException", Cond.initialized "java/lang/IndexOutOfBoundsException", Cond.fieldLink RX3 12 "MapCarrier" "land" "LMapCarrier$Land;", Cond.methodLink RX3 205 yX1_isPlace, Cond.instanceMethod yX1_isPlace, Cond.selects RX1 yX1_isPlace yX1_isPlace, Cond.initialized RX1, Cond.code yX1_isPlace cX1_isPlace 2 (some .boolean), Cond.fieldLink RX1 34 "MapCarrier$Land" "places" "I", Cond.methodLink RX3 138 yX2_exitFor, Cond.instanceMethod yX2_exitFor, Cond.selects RX2 yX2_exitFor yX2_exitFor, Cond.initialized RX2]
def wsL_remembered_r2 : List Cond := [Cond.code yX2_exitFor cX2_exitFor 4 (some .int), Cond.fieldLink RX2 15 "MapCarrier$Memory" "strengths" "[I", Cond.fieldLink RX2 9 "MapCarrier$Memory" "exits" "[I", Cond.methodLink RX2 18 yX2_spotOf, Cond.static yX2_spotOf, Cond.code yX2_spotOf cX2_spotOf 3 (some .int)]
def wsL_remembered : List Cond := .codeWith yL_remembered cL_remembered 5 (some .int) [(0, 10, 13, 19)] :: ((wsL_remembered_r1 ++ wsL_remembered_r2) ++ wsX30 ++ wsX00 ++ wsX10 ++ wsX20 ++ (vx_atS RX3 212 "java/lang/IndexOutOfBoundsException" ["java/lang/RuntimeException", "java/lang/Exception"]).filter goodWord)
def wsL_strength_r1 : List Cond := [Cond.classLink RL 19 "java/lang/IndexOutOfBoundsException", Cond.methodLink RL 72 yX3_strength, Cond.instanceMethod yX3_strength, Cond.selects RX3 yX3_strength yX3_strength, Cond.initialized RX3, Cond.code yX3_strength cX3_strength 3 (some .int), Cond.fieldLink RX3 21 "MapCarrier" "carrier" "LMapCarrier$Carrier;", Cond.methodLink RX3 39 yX3_checkPlace, Cond.instanceMethod yX3_checkPlace, Cond.selects RX3 yX3_checkPlace yX3_checkPlace, Cond.code yX3_checkPlace cX3_checkPlace 2 none, Cond.classLink RX3 208 "java/lang/IndexOutOfBoundsException", Cond.initialized "java/lang/IndexOutOfBoundsException", Cond.fieldLink RX3 12 "MapCarrier" "land" "LMapCarrier$Land;", Cond.methodLink RX3 205 yX1_isPlace, Cond.instanceMethod yX1_isPlace, Cond.selects RX1 yX1_isPlace yX1_isPlace, Cond.initialized RX1, Cond.code yX1_isPlace cX1_isPlace 2 (some .boolean), Cond.fieldLink RX1 34 "MapCarrier$Land" "places" "I", Cond.methodLink RX3 141 yX2_strengthFor, Cond.instanceMethod yX2_strengthFor, Cond.selects RX2 yX2_strengthFor yX2_strengthFor, Cond.initialized RX2]
def wsL_strength_r2 : List Cond := [Cond.code yX2_strengthFor cX2_strengthFor 4 (some .int), Cond.fieldLink RX2 15 "MapCarrier$Memory" "strengths" "[I", Cond.methodLink RX2 18 yX2_spotOf, Cond.static yX2_spotOf, Cond.code yX2_spotOf cX2_spotOf 3 (some .int)]
def wsL_strength : List Cond := .codeWith yL_strength cL_strength 5 (some .int) [(0, 10, 13, 19)] :: ((wsL_strength_r1 ++ wsL_strength_r2) ++ wsX30 ++ wsX00 ++ wsX10 ++ wsX20 ++ (vx_atS RX3 212 "java/lang/IndexOutOfBoundsException" ["java/lang/RuntimeException", "java/lang/Exception"]).filter goodWord)
def wsL_knowsWay_r1 : List Cond := [Cond.classLink RL 19 "java/lang/IndexOutOfBoundsException", Cond.methodLink RL 75 yX3_knowsWay, Cond.instanceMethod yX3_knowsWay, Cond.selects RX3 yX3_knowsWay yX3_knowsWay, Cond.initialized RX3, Cond.code yX3_knowsWay cX3_knowsWay 2 (some .boolean), Cond.fieldLink RX3 21 "MapCarrier" "carrier" "LMapCarrier$Carrier;", Cond.methodLink RX3 39 yX3_checkPlace, Cond.instanceMethod yX3_checkPlace, Cond.selects RX3 yX3_checkPlace yX3_checkPlace, Cond.code yX3_checkPlace cX3_checkPlace 2 none, Cond.classLink RX3 208 "java/lang/IndexOutOfBoundsException", Cond.initialized "java/lang/IndexOutOfBoundsException", Cond.fieldLink RX3 12 "MapCarrier" "land" "LMapCarrier$Land;", Cond.methodLink RX3 205 yX1_isPlace, Cond.instanceMethod yX1_isPlace, Cond.selects RX1 yX1_isPlace yX1_isPlace, Cond.initialized RX1, Cond.code yX1_isPlace cX1_isPlace 2 (some .boolean), Cond.fieldLink RX1 34 "MapCarrier$Land" "places" "I", Cond.methodLink RX3 144 yX0_findsByMemory, Cond.instanceMethod yX0_findsByMemory, Cond.selects RX0 yX0_findsByMemory yX0_findsByMemory, Cond.initialized RX0]
def wsL_knowsWay_r2 : List Cond := [Cond.code yX0_findsByMemory cX0_findsByMemory 5 (some .boolean), Cond.fieldLink RX0 40 "MapCarrier$Carrier" "at" "I", Cond.fieldLink RX0 36 "MapCarrier$Carrier" "land" "LMapCarrier$Land;", Cond.fieldLink RX0 12 "MapCarrier$Carrier" "memory" "LMapCarrier$Memory;", Cond.methodLink RX0 98 yX2_exitFor, Cond.instanceMethod yX2_exitFor, Cond.selects RX2 yX2_exitFor yX2_exitFor, Cond.initialized RX2, Cond.code yX2_exitFor cX2_exitFor 4 (some .int), Cond.fieldLink RX2 15 "MapCarrier$Memory" "strengths" "[I", Cond.fieldLink RX2 9 "MapCarrier$Memory" "exits" "[I", Cond.methodLink RX2 18 yX2_spotOf, Cond.static yX2_spotOf, Cond.code yX2_spotOf cX2_spotOf 3 (some .int), Cond.methodLink RX0 102 yX1_endAt, Cond.instanceMethod yX1_endAt, Cond.selects RX1 yX1_endAt yX1_endAt, Cond.code yX1_endAt cX1_endAt 4 (some .int), Cond.fieldLink RX1 9 "MapCarrier$Land" "exits" "[I", Cond.methodLink RX1 38 yX1_isPlace, Cond.methodLink RX0 143 yX1_opensAt, Cond.instanceMethod yX1_opensAt, Cond.selects RX1 yX1_opensAt yX1_opensAt, Cond.code yX1_opensAt cX1_opensAt 2 (some .boolean)]
def wsL_knowsWay_r3 : List Cond := [Cond.fieldLink RX1 28 "MapCarrier$Land" "open" "[Z", Cond.static yX3_isEnd, Cond.code yX3_isEnd cX3_isEnd 1 (some .boolean), Cond.methodLink RX0 146 yX1_beyond, Cond.instanceMethod yX1_beyond, Cond.selects RX1 yX1_beyond yX1_beyond, Cond.code yX1_beyond cX1_beyond 2 (some .int), Cond.fieldLink RX1 19 "MapCarrier$Land" "leads" "[I"]
def wsL_knowsWay : List Cond := .codeWith yL_knowsWay cL_knowsWay 4 (some .int) [(0, 16, 19, 19)] :: ((wsL_knowsWay_r1 ++ (wsL_knowsWay_r2 ++ wsL_knowsWay_r3)) ++ wsX30 ++ wsX10 ++ wsX00 ++ wsX20 ++ (vx_atS RX3 212 "java/lang/IndexOutOfBoundsException" ["java/lang/RuntimeException", "java/lang/Exception"]).filter goodWord)
def wsL_wouldWalk_r1 : List Cond := [Cond.classLink RL 19 "java/lang/IndexOutOfBoundsException", Cond.classLink RL 13 "java/lang/IllegalStateException", Cond.methodLink RL 78 yX3_wouldWalk, Cond.instanceMethod yX3_wouldWalk, Cond.selects RX3 yX3_wouldWalk yX3_wouldWalk, Cond.initialized RX3, Cond.code yX3_wouldWalk cX3_wouldWalk 2 (some .int), Cond.methodLink RX3 39 yX3_checkPlace, Cond.instanceMethod yX3_checkPlace, Cond.selects RX3 yX3_checkPlace yX3_checkPlace, Cond.code yX3_checkPlace cX3_checkPlace 2 none, Cond.classLink RX3 208 "java/lang/IndexOutOfBoundsException", Cond.initialized "java/lang/IndexOutOfBoundsException", Cond.fieldLink RX3 12 "MapCarrier" "land" "LMapCarrier$Land;", Cond.methodLink RX3 205 yX1_isPlace, Cond.instanceMethod yX1_isPlace, Cond.selects RX1 yX1_isPlace yX1_isPlace, Cond.initialized RX1, Cond.code yX1_isPlace cX1_isPlace 2 (some .boolean), Cond.fieldLink RX1 34 "MapCarrier$Land" "places" "I", Cond.methodLink RX3 81 yX3_checkIdle, Cond.instanceMethod yX3_checkIdle, Cond.selects RX3 yX3_checkIdle yX3_checkIdle, Cond.code yX3_checkIdle cX3_checkIdle 1 none]
def wsL_wouldWalk_r2 : List Cond := [Cond.classLink RX3 32 "java/lang/IllegalStateException", Cond.initialized "java/lang/IllegalStateException", Cond.fieldLink RX3 21 "MapCarrier" "carrier" "LMapCarrier$Carrier;", Cond.methodLink RX3 96 yX0_isUnderway, Cond.instanceMethod yX0_isUnderway, Cond.selects RX0 yX0_isUnderway yX0_isUnderway, Cond.initialized RX0, Cond.code yX0_isUnderway cX0_isUnderway 1 (some .boolean), Cond.fieldLink RX0 18 "MapCarrier$Carrier" "goal" "I", Cond.methodLink RX3 162 yX3_trialMiles, Cond.instanceMethod yX3_trialMiles, Cond.selects RX3 yX3_trialMiles yX3_trialMiles, Cond.code yX3_trialMiles cX3_trialMiles 4 (some .int), Cond.fieldLink RX3 25 "MapCarrier" "trial" "LMapCarrier$Carrier;", Cond.methodLink RX3 224 yX0_startLike, Cond.instanceMethod yX0_startLike, Cond.selects RX0 yX0_startLike yX0_startLike, Cond.code yX0_startLike cX0_startLike 3 none, Cond.fieldLink RX0 40 "MapCarrier$Carrier" "at" "I", Cond.fieldLink RX0 43 "MapCarrier$Carrier" "coins" "I", Cond.fieldLink RX0 12 "MapCarrier$Carrier" "memory" "LMapCarrier$Memory;", Cond.fieldLink RX0 33 "MapCarrier$Carrier" "guest" "I", Cond.fieldLink RX0 50 "MapCarrier$Carrier" "walked" "I", Cond.fieldLink RX0 53 "MapCarrier$Carrier" "inVain" "I"]
def wsL_wouldWalk_r3 : List Cond := [Cond.methodLink RX0 46 yX2_copyFrom, Cond.instanceMethod yX2_copyFrom, Cond.selects RX2 yX2_copyFrom yX2_copyFrom, Cond.initialized RX2, Cond.code yX2_copyFrom cX2_copyFrom 2 none, Cond.fieldLink RX2 9 "MapCarrier$Memory" "exits" "[I", Cond.methodLink RX2 34 arraycopyName, Cond.native arraycopyName, Cond.static arraycopyName, Cond.initialized "java/lang/System", Cond.fieldLink RX2 15 "MapCarrier$Memory" "strengths" "[I", Cond.methodLink RX3 90 yX0_begin, Cond.instanceMethod yX0_begin, Cond.selects RX0 yX0_begin yX0_begin, Cond.code yX0_begin cX0_begin 2 none, Cond.fieldLink RX0 26 "MapCarrier$Carrier" "tried" "[Z", Cond.fieldLink RX0 30 "MapCarrier$Carrier" "askedAt" "[Z", Cond.fieldLink RX0 64 "MapCarrier$Carrier" "wayLength" "I", Cond.fieldLink RX0 67 "MapCarrier$Carrier" "done" "I", Cond.methodLink RX0 60 yX0_forget, Cond.static yX0_forget, Cond.code yX0_forget cX0_forget 2 none, Cond.methodLink RX0 70 yX0_endErrand, Cond.instanceMethod yX0_endErrand]
def wsL_wouldWalk_r4 : List Cond := [Cond.selects RX0 yX0_endErrand yX0_endErrand, Cond.code yX0_endErrand cX0_endErrand 1 none, Cond.methodLink RX3 100 yX0_step, Cond.instanceMethod yX0_step, Cond.selects RX0 yX0_step yX0_step, Cond.code yX0_step cX0_step 2 (some .boolean), Cond.methodLink RX0 73 yX0_rememberedEnd, Cond.instanceMethod yX0_rememberedEnd, Cond.selects RX0 yX0_rememberedEnd yX0_rememberedEnd, Cond.code yX0_rememberedEnd cX0_rememberedEnd 2 (some .int), Cond.fieldLink RX0 36 "MapCarrier$Carrier" "land" "LMapCarrier$Land;", Cond.methodLink RX0 98 yX2_exitFor, Cond.instanceMethod yX2_exitFor, Cond.selects RX2 yX2_exitFor yX2_exitFor, Cond.code yX2_exitFor cX2_exitFor 4 (some .int), Cond.methodLink RX2 18 yX2_spotOf, Cond.static yX2_spotOf, Cond.code yX2_spotOf cX2_spotOf 3 (some .int), Cond.methodLink RX0 102 yX1_endAt, Cond.instanceMethod yX1_endAt, Cond.selects RX1 yX1_endAt yX1_endAt, Cond.code yX1_endAt cX1_endAt 4 (some .int), Cond.fieldLink RX1 9 "MapCarrier$Land" "exits" "[I", Cond.methodLink RX1 38 yX1_isPlace]
def wsL_wouldWalk_r5 : List Cond := [Cond.methodLink RX0 105 yX0_canTake, Cond.instanceMethod yX0_canTake, Cond.selects RX0 yX0_canTake yX0_canTake, Cond.code yX0_canTake cX0_canTake 2 (some .boolean), Cond.static yX3_isEnd, Cond.code yX3_isEnd cX3_isEnd 1 (some .boolean), Cond.methodLink RX0 77 yX0_askedEnd, Cond.instanceMethod yX0_askedEnd, Cond.selects RX0 yX0_askedEnd yX0_askedEnd, Cond.code yX0_askedEnd cX0_askedEnd 3 (some .int), Cond.fieldLink RX0 114 "MapCarrier$Carrier" "questions" "I", Cond.methodLink RX0 108 yX1_isPlace, Cond.methodLink RX0 117 yX1_endTowards, Cond.instanceMethod yX1_endTowards, Cond.selects RX1 yX1_endTowards yX1_endTowards, Cond.code yX1_endTowards cX1_endTowards 5 (some .int), Cond.fieldLink RX1 31 "MapCarrier$Land" "far" "[I", Cond.constant RX1 57 (1000000), Cond.methodLink RX1 53 yX1_measure, Cond.instanceMethod yX1_measure, Cond.selects RX1 yX1_measure yX1_measure, Cond.code yX1_measure cX1_measure 6 none, Cond.methodLink RX1 61 yJ7_fill_53178, Cond.static yJ7_fill_53178]
def wsL_wouldWalk_r6 : List Cond := [Cond.initialized RJ7, Cond.code yJ7_fill_53178 cJ7_fill_53178 4 none, Cond.methodLink RX1 58 yX1_milesBy, Cond.instanceMethod yX1_milesBy, Cond.selects RX1 yX1_milesBy yX1_milesBy, Cond.code yX1_milesBy cX1_milesBy 2 (some .int), Cond.fieldLink RX1 28 "MapCarrier$Land" "open" "[Z", Cond.fieldLink RX1 25 "MapCarrier$Land" "lengths" "[I", Cond.fieldLink RX1 19 "MapCarrier$Land" "leads" "[I", Cond.static yX3_placeOfEnd, Cond.code yX3_placeOfEnd cX3_placeOfEnd 1 (some .int), Cond.static yX3_exitOfEnd, Cond.code yX3_exitOfEnd cX3_exitOfEnd 1 (some .int), Cond.methodLink RX0 124 yX2_learn, Cond.instanceMethod yX2_learn, Cond.selects RX2 yX2_learn yX2_learn, Cond.code yX2_learn cX2_learn 5 none, Cond.methodLink RX0 80 yX0_firstUntried, Cond.instanceMethod yX0_firstUntried, Cond.selects RX0 yX0_firstUntried yX0_firstUntried, Cond.code yX0_firstUntried cX0_firstUntried 3 (some .int), Cond.methodLink RX0 83 yX0_take, Cond.instanceMethod yX0_take, Cond.selects RX0 yX0_take yX0_take]
def wsL_wouldWalk_r7 : List Cond := [Cond.code yX0_take cX0_take 3 none, Cond.fieldLink RX0 22 "MapCarrier$Carrier" "way" "[I", Cond.methodLink RX0 128 yX1_twinOf, Cond.instanceMethod yX1_twinOf, Cond.selects RX1 yX1_twinOf yX1_twinOf, Cond.code yX1_twinOf cX1_twinOf 2 (some .int), Cond.fieldLink RX1 22 "MapCarrier$Land" "twins" "[I", Cond.methodLink RX0 131 yX1_milesAt, Cond.instanceMethod yX1_milesAt, Cond.selects RX1 yX1_milesAt yX1_milesAt, Cond.code yX1_milesAt cX1_milesAt 2 (some .int), Cond.methodLink RX0 87 yX0_doubleBack, Cond.instanceMethod yX0_doubleBack, Cond.selects RX0 yX0_doubleBack yX0_doubleBack, Cond.code yX0_doubleBack cX0_doubleBack 3 none, Cond.fieldLink RX0 137 "MapCarrier$Carrier" "doubled" "I", Cond.methodLink RX0 90 yX0_rememberWay, Cond.instanceMethod yX0_rememberWay, Cond.selects RX0 yX0_rememberWay yX0_rememberWay, Cond.code yX0_rememberWay cX0_rememberWay 2 none, Cond.methodLink RX0 140 yX2_confirm, Cond.instanceMethod yX2_confirm, Cond.selects RX2 yX2_confirm yX2_confirm, Cond.code yX2_confirm cX2_confirm 5 none]
def wsL_wouldWalk_r8 : List Cond := [Cond.methodLink RX2 22 Lib.Math.min.name, Cond.static Lib.Math.min.name, Cond.initialized "java/lang/Math", Cond.code Lib.Math.min.name Lib.Math.min.code 2 (some .int), Cond.methodLink RX2 27 yX2_learn]
def wsL_wouldWalk : List Cond := .codeWith yL_wouldWalk cL_wouldWalk 4 (some .int) [(0, 9, 12, 19), (0, 9, 15, 13)] :: ((wsL_wouldWalk_r1 ++ (wsL_wouldWalk_r2 ++ (wsL_wouldWalk_r3 ++ (wsL_wouldWalk_r4 ++ (wsL_wouldWalk_r5 ++ (wsL_wouldWalk_r6 ++ (wsL_wouldWalk_r7 ++ wsL_wouldWalk_r8))))))) ++ wsX30 ++ wsX10 ++ wsX00 ++ wsX20 ++ (vx_atS RX3 212 "java/lang/IndexOutOfBoundsException" ["java/lang/RuntimeException", "java/lang/Exception"]).filter goodWord ++ (vx_atS RX3 36 "java/lang/IllegalStateException" ["java/lang/RuntimeException", "java/lang/Exception"]).filter goodWord)
def wsL_bestShepherd_r1 : List Cond := [Cond.classLink RL 19 "java/lang/IndexOutOfBoundsException", Cond.classLink RL 13 "java/lang/IllegalStateException", Cond.methodLink RL 81 yX3_bestShepherd, Cond.instanceMethod yX3_bestShepherd, Cond.selects RX3 yX3_bestShepherd yX3_bestShepherd, Cond.initialized RX3, Cond.code yX3_bestShepherd cX3_bestShepherd 6 (some .int), Cond.fieldLink RX3 12 "MapCarrier" "land" "LMapCarrier$Land;", Cond.methodLink RX3 39 yX3_checkPlace, Cond.instanceMethod yX3_checkPlace, Cond.selects RX3 yX3_checkPlace yX3_checkPlace, Cond.code yX3_checkPlace cX3_checkPlace 2 none, Cond.classLink RX3 208 "java/lang/IndexOutOfBoundsException", Cond.initialized "java/lang/IndexOutOfBoundsException", Cond.methodLink RX3 205 yX1_isPlace, Cond.instanceMethod yX1_isPlace, Cond.selects RX1 yX1_isPlace yX1_isPlace, Cond.initialized RX1, Cond.code yX1_isPlace cX1_isPlace 2 (some .boolean), Cond.fieldLink RX1 34 "MapCarrier$Land" "places" "I", Cond.methodLink RX3 81 yX3_checkIdle, Cond.instanceMethod yX3_checkIdle, Cond.selects RX3 yX3_checkIdle yX3_checkIdle, Cond.code yX3_checkIdle cX3_checkIdle 1 none]
def wsL_bestShepherd_r2 : List Cond := [Cond.classLink RX3 32 "java/lang/IllegalStateException", Cond.initialized "java/lang/IllegalStateException", Cond.fieldLink RX3 21 "MapCarrier" "carrier" "LMapCarrier$Carrier;", Cond.methodLink RX3 96 yX0_isUnderway, Cond.instanceMethod yX0_isUnderway, Cond.selects RX0 yX0_isUnderway yX0_isUnderway, Cond.initialized RX0, Cond.code yX0_isUnderway cX0_isUnderway 1 (some .boolean), Cond.fieldLink RX0 18 "MapCarrier$Carrier" "goal" "I", Cond.methodLink RX3 162 yX3_trialMiles, Cond.instanceMethod yX3_trialMiles, Cond.selects RX3 yX3_trialMiles yX3_trialMiles, Cond.code yX3_trialMiles cX3_trialMiles 4 (some .int), Cond.fieldLink RX3 25 "MapCarrier" "trial" "LMapCarrier$Carrier;", Cond.methodLink RX3 224 yX0_startLike, Cond.instanceMethod yX0_startLike, Cond.selects RX0 yX0_startLike yX0_startLike, Cond.code yX0_startLike cX0_startLike 3 none, Cond.fieldLink RX0 40 "MapCarrier$Carrier" "at" "I", Cond.fieldLink RX0 43 "MapCarrier$Carrier" "coins" "I", Cond.fieldLink RX0 12 "MapCarrier$Carrier" "memory" "LMapCarrier$Memory;", Cond.fieldLink RX0 33 "MapCarrier$Carrier" "guest" "I", Cond.fieldLink RX0 50 "MapCarrier$Carrier" "walked" "I", Cond.fieldLink RX0 53 "MapCarrier$Carrier" "inVain" "I"]
def wsL_bestShepherd_r3 : List Cond := [Cond.methodLink RX0 46 yX2_copyFrom, Cond.instanceMethod yX2_copyFrom, Cond.selects RX2 yX2_copyFrom yX2_copyFrom, Cond.initialized RX2, Cond.code yX2_copyFrom cX2_copyFrom 2 none, Cond.fieldLink RX2 9 "MapCarrier$Memory" "exits" "[I", Cond.methodLink RX2 34 arraycopyName, Cond.native arraycopyName, Cond.static arraycopyName, Cond.initialized "java/lang/System", Cond.fieldLink RX2 15 "MapCarrier$Memory" "strengths" "[I", Cond.methodLink RX3 90 yX0_begin, Cond.instanceMethod yX0_begin, Cond.selects RX0 yX0_begin yX0_begin, Cond.code yX0_begin cX0_begin 2 none, Cond.fieldLink RX0 26 "MapCarrier$Carrier" "tried" "[Z", Cond.fieldLink RX0 30 "MapCarrier$Carrier" "askedAt" "[Z", Cond.fieldLink RX0 64 "MapCarrier$Carrier" "wayLength" "I", Cond.fieldLink RX0 67 "MapCarrier$Carrier" "done" "I", Cond.methodLink RX0 60 yX0_forget, Cond.static yX0_forget, Cond.code yX0_forget cX0_forget 2 none, Cond.methodLink RX0 70 yX0_endErrand, Cond.instanceMethod yX0_endErrand]
def wsL_bestShepherd_r4 : List Cond := [Cond.selects RX0 yX0_endErrand yX0_endErrand, Cond.code yX0_endErrand cX0_endErrand 1 none, Cond.methodLink RX3 100 yX0_step, Cond.instanceMethod yX0_step, Cond.selects RX0 yX0_step yX0_step, Cond.code yX0_step cX0_step 2 (some .boolean), Cond.methodLink RX0 73 yX0_rememberedEnd, Cond.instanceMethod yX0_rememberedEnd, Cond.selects RX0 yX0_rememberedEnd yX0_rememberedEnd, Cond.code yX0_rememberedEnd cX0_rememberedEnd 2 (some .int), Cond.fieldLink RX0 36 "MapCarrier$Carrier" "land" "LMapCarrier$Land;", Cond.methodLink RX0 98 yX2_exitFor, Cond.instanceMethod yX2_exitFor, Cond.selects RX2 yX2_exitFor yX2_exitFor, Cond.code yX2_exitFor cX2_exitFor 4 (some .int), Cond.methodLink RX2 18 yX2_spotOf, Cond.static yX2_spotOf, Cond.code yX2_spotOf cX2_spotOf 3 (some .int), Cond.methodLink RX0 102 yX1_endAt, Cond.instanceMethod yX1_endAt, Cond.selects RX1 yX1_endAt yX1_endAt, Cond.code yX1_endAt cX1_endAt 4 (some .int), Cond.fieldLink RX1 9 "MapCarrier$Land" "exits" "[I", Cond.methodLink RX1 38 yX1_isPlace]
def wsL_bestShepherd_r5 : List Cond := [Cond.methodLink RX0 105 yX0_canTake, Cond.instanceMethod yX0_canTake, Cond.selects RX0 yX0_canTake yX0_canTake, Cond.code yX0_canTake cX0_canTake 2 (some .boolean), Cond.static yX3_isEnd, Cond.code yX3_isEnd cX3_isEnd 1 (some .boolean), Cond.methodLink RX0 77 yX0_askedEnd, Cond.instanceMethod yX0_askedEnd, Cond.selects RX0 yX0_askedEnd yX0_askedEnd, Cond.code yX0_askedEnd cX0_askedEnd 3 (some .int), Cond.fieldLink RX0 114 "MapCarrier$Carrier" "questions" "I", Cond.methodLink RX0 108 yX1_isPlace, Cond.methodLink RX0 117 yX1_endTowards, Cond.instanceMethod yX1_endTowards, Cond.selects RX1 yX1_endTowards yX1_endTowards, Cond.code yX1_endTowards cX1_endTowards 5 (some .int), Cond.fieldLink RX1 31 "MapCarrier$Land" "far" "[I", Cond.constant RX1 57 (1000000), Cond.methodLink RX1 53 yX1_measure, Cond.instanceMethod yX1_measure, Cond.selects RX1 yX1_measure yX1_measure, Cond.code yX1_measure cX1_measure 6 none, Cond.methodLink RX1 61 yJ7_fill_53178, Cond.static yJ7_fill_53178]
def wsL_bestShepherd_r6 : List Cond := [Cond.initialized RJ7, Cond.code yJ7_fill_53178 cJ7_fill_53178 4 none, Cond.methodLink RX1 58 yX1_milesBy, Cond.instanceMethod yX1_milesBy, Cond.selects RX1 yX1_milesBy yX1_milesBy, Cond.code yX1_milesBy cX1_milesBy 2 (some .int), Cond.fieldLink RX1 28 "MapCarrier$Land" "open" "[Z", Cond.fieldLink RX1 25 "MapCarrier$Land" "lengths" "[I", Cond.fieldLink RX1 19 "MapCarrier$Land" "leads" "[I", Cond.static yX3_placeOfEnd, Cond.code yX3_placeOfEnd cX3_placeOfEnd 1 (some .int), Cond.static yX3_exitOfEnd, Cond.code yX3_exitOfEnd cX3_exitOfEnd 1 (some .int), Cond.methodLink RX0 124 yX2_learn, Cond.instanceMethod yX2_learn, Cond.selects RX2 yX2_learn yX2_learn, Cond.code yX2_learn cX2_learn 5 none, Cond.methodLink RX0 80 yX0_firstUntried, Cond.instanceMethod yX0_firstUntried, Cond.selects RX0 yX0_firstUntried yX0_firstUntried, Cond.code yX0_firstUntried cX0_firstUntried 3 (some .int), Cond.methodLink RX0 83 yX0_take, Cond.instanceMethod yX0_take, Cond.selects RX0 yX0_take yX0_take]
def wsL_bestShepherd_r7 : List Cond := [Cond.code yX0_take cX0_take 3 none, Cond.fieldLink RX0 22 "MapCarrier$Carrier" "way" "[I", Cond.methodLink RX0 128 yX1_twinOf, Cond.instanceMethod yX1_twinOf, Cond.selects RX1 yX1_twinOf yX1_twinOf, Cond.code yX1_twinOf cX1_twinOf 2 (some .int), Cond.fieldLink RX1 22 "MapCarrier$Land" "twins" "[I", Cond.methodLink RX0 131 yX1_milesAt, Cond.instanceMethod yX1_milesAt, Cond.selects RX1 yX1_milesAt yX1_milesAt, Cond.code yX1_milesAt cX1_milesAt 2 (some .int), Cond.methodLink RX0 87 yX0_doubleBack, Cond.instanceMethod yX0_doubleBack, Cond.selects RX0 yX0_doubleBack yX0_doubleBack, Cond.code yX0_doubleBack cX0_doubleBack 3 none, Cond.fieldLink RX0 137 "MapCarrier$Carrier" "doubled" "I", Cond.methodLink RX0 90 yX0_rememberWay, Cond.instanceMethod yX0_rememberWay, Cond.selects RX0 yX0_rememberWay yX0_rememberWay, Cond.code yX0_rememberWay cX0_rememberWay 2 none, Cond.methodLink RX0 140 yX2_confirm, Cond.instanceMethod yX2_confirm, Cond.selects RX2 yX2_confirm yX2_confirm, Cond.code yX2_confirm cX2_confirm 5 none]
def wsL_bestShepherd_r8 : List Cond := [Cond.methodLink RX2 22 Lib.Math.min.name, Cond.static Lib.Math.min.name, Cond.initialized "java/lang/Math", Cond.code Lib.Math.min.name Lib.Math.min.code 2 (some .int), Cond.methodLink RX2 27 yX2_learn]
def wsL_bestShepherd : List Cond := .codeWith yL_bestShepherd cL_bestShepherd 4 (some .int) [(0, 9, 12, 19), (0, 9, 15, 13)] :: ((wsL_bestShepherd_r1 ++ (wsL_bestShepherd_r2 ++ (wsL_bestShepherd_r3 ++ (wsL_bestShepherd_r4 ++ (wsL_bestShepherd_r5 ++ (wsL_bestShepherd_r6 ++ (wsL_bestShepherd_r7 ++ wsL_bestShepherd_r8))))))) ++ wsX30 ++ wsX10 ++ wsX00 ++ wsX20 ++ (vx_atS RX3 212 "java/lang/IndexOutOfBoundsException" ["java/lang/RuntimeException", "java/lang/Exception"]).filter goodWord ++ (vx_atS RX3 36 "java/lang/IllegalStateException" ["java/lang/RuntimeException", "java/lang/Exception"]).filter goodWord)
def wsL_law0_r1 : List Cond := [Cond.classLink RL 8 RX3, Cond.instantiable RX3 3, Cond.initialized RX3, Cond.classLink RL 85 RX5, Cond.instantiable RX5 12, Cond.initialized RX5, Cond.arrayClass .long, Cond.methodLink RL 84 yX3_init, Cond.instanceMethod yX3_init, Cond.code yX3_init cX3_init 1 none, Cond.methodLink RX3 3 objectInit, Cond.instanceMethod objectInit, Cond.code objectInit ⟨#[0xb1]⟩ 1 none, Cond.classLink RX3 9 RX1, Cond.instantiable RX1 8, Cond.initialized RX1, Cond.fieldLink RX3 12 "MapCarrier" "land" "LMapCarrier$Land;", Cond.classLink RX3 16 RX0, Cond.instantiable RX0 15, Cond.initialized RX0, Cond.fieldLink RX3 21 "MapCarrier" "carrier" "LMapCarrier$Carrier;", Cond.fieldLink RX3 25 "MapCarrier" "trial" "LMapCarrier$Carrier;", Cond.instanceMethod yX1_init, Cond.code yX1_init cX1_init 1 none]
def wsL_law0_r2 : List Cond := [Cond.methodLink RX1 3 objectInit, Cond.arrayClass .int, Cond.fieldLink RX1 9 "MapCarrier$Land" "exits" "[I", Cond.arrayClass .boolean, Cond.fieldLink RX1 15 "MapCarrier$Land" "shepherds" "[Z", Cond.fieldLink RX1 19 "MapCarrier$Land" "leads" "[I", Cond.fieldLink RX1 22 "MapCarrier$Land" "twins" "[I", Cond.fieldLink RX1 25 "MapCarrier$Land" "lengths" "[I", Cond.fieldLink RX1 28 "MapCarrier$Land" "open" "[Z", Cond.fieldLink RX1 31 "MapCarrier$Land" "far" "[I", Cond.methodLink RX3 18 yX0_init, Cond.instanceMethod yX0_init, Cond.code yX0_init cX0_init 2 none, Cond.methodLink RX0 3 objectInit, Cond.classLink RX0 9 RX2, Cond.instantiable RX2 2, Cond.initialized RX2, Cond.fieldLink RX0 12 "MapCarrier$Carrier" "memory" "LMapCarrier$Memory;", Cond.fieldLink RX0 18 "MapCarrier$Carrier" "goal" "I", Cond.fieldLink RX0 22 "MapCarrier$Carrier" "way" "[I", Cond.fieldLink RX0 26 "MapCarrier$Carrier" "tried" "[Z", Cond.fieldLink RX0 30 "MapCarrier$Carrier" "askedAt" "[Z", Cond.fieldLink RX0 33 "MapCarrier$Carrier" "guest" "I", Cond.fieldLink RX0 36 "MapCarrier$Carrier" "land" "LMapCarrier$Land;"]
def wsL_law0_r3 : List Cond := [Cond.instanceMethod yX2_init, Cond.code yX2_init cX2_init 1 none, Cond.methodLink RX2 3 objectInit, Cond.fieldLink RX2 9 "MapCarrier$Memory" "exits" "[I", Cond.fieldLink RX2 15 "MapCarrier$Memory" "strengths" "[I", Cond.methodLink RL 87 yX5_init, Cond.instanceMethod yX5_init, Cond.code yX5_init cX5_init 1 none, Cond.methodLink RX5 1 objectInit, Cond.fieldLink RX5 9 "MapCarrierModel" "exits" "[I", Cond.fieldLink RX5 13 "MapCarrierModel" "road" "[I", Cond.fieldLink RX5 16 "MapCarrierModel" "to" "[I", Cond.fieldLink RX5 19 "MapCarrierModel" "miles" "[I", Cond.fieldLink RX5 22 "MapCarrierModel" "isClosed" "[Z", Cond.fieldLink RX5 26 "MapCarrierModel" "shepherd" "[Z", Cond.fieldLink RX5 29 "MapCarrierModel" "far" "[I", Cond.classLink RX5 32 RX4, Cond.instantiable RX4 14, Cond.initialized RX4, Cond.fieldLink RX5 35 "MapCarrierModel" "s" "LMapCarrierModel$State;", Cond.fieldLink RX5 39 "MapCarrierModel" "ahead" "LMapCarrierModel$State;", Cond.methodLink RX5 34 yX4_init, Cond.instanceMethod yX4_init, Cond.code yX4_init cX4_init 2 none]
def wsL_law0_r4 : List Cond := [Cond.methodLink RX4 3 objectInit, Cond.fieldLink RX4 9 "MapCarrierModel$State" "where" "I", Cond.fieldLink RX4 15 "MapCarrierModel$State" "goal" "I", Cond.fieldLink RX4 18 "MapCarrierModel$State" "tried" "[Z", Cond.fieldLink RX4 22 "MapCarrierModel$State" "askedAt" "[Z", Cond.fieldLink RX4 25 "MapCarrierModel$State" "way" "[I", Cond.fieldLink RX4 29 "MapCarrierModel$State" "exit" "[I", Cond.fieldLink RX4 32 "MapCarrierModel$State" "strength" "[I", Cond.methodLink RL 88 yL_addPlace, Cond.static yL_addPlace, Cond.initialized RL, Cond.codeWith yL_addPlace cL_addPlace 3 (some .int) [(0, 8, 11, 13)], Cond.classLink RL 13 "java/lang/IllegalStateException", Cond.methodLink RL 7 yX3_addPlace, Cond.instanceMethod yX3_addPlace, Cond.selects RX3 yX3_addPlace yX3_addPlace, Cond.code yX3_addPlace cX3_addPlace 1 (some .int), Cond.classLink RX3 32 "java/lang/IllegalStateException", Cond.initialized "java/lang/IllegalStateException", Cond.methodLink RL 93 yX5_addPlace, Cond.instanceMethod yX5_addPlace, Cond.selects RX5 yX5_addPlace yX5_addPlace, Cond.code yX5_addPlace cX5_addPlace 1 (some .int), Cond.fieldLink RX5 42 "MapCarrierModel" "thrown" "I"]
def wsL_law0_r5 : List Cond := [Cond.fieldLink RX5 46 "MapCarrierModel" "places" "I", Cond.methodLink RX5 57 yX5_no, Cond.instanceMethod yX5_no, Cond.selects RX5 yX5_no yX5_no, Cond.code yX5_no cX5_no 2 (some .int), Cond.methodLink RL 94 yX5_thrown, Cond.instanceMethod yX5_thrown, Cond.selects RX5 yX5_thrown yX5_thrown, Cond.code yX5_thrown cX5_thrown 1 (some .int), Cond.methodLink RL 97 yL_addRoad, Cond.static yL_addRoad, Cond.codeWith yL_addRoad cL_addRoad 6 (some .int) [(0, 12, 15, 19), (0, 12, 19, 21), (0, 12, 23, 13)], Cond.classLink RL 19 "java/lang/IndexOutOfBoundsException", Cond.classLink RL 21 "java/lang/IllegalArgumentException", Cond.methodLink RL 15 yX3_addRoad, Cond.instanceMethod yX3_addRoad, Cond.selects RX3 yX3_addRoad yX3_addRoad, Cond.code yX3_addRoad cX3_addRoad 4 (some .int), Cond.classLink RX3 43 "java/lang/IllegalArgumentException", Cond.initialized "java/lang/IllegalArgumentException", Cond.methodLink RX3 39 yX3_checkPlace, Cond.instanceMethod yX3_checkPlace, Cond.selects RX3 yX3_checkPlace yX3_checkPlace, Cond.code yX3_checkPlace cX3_checkPlace 2 none]
def wsL_law0_r6 : List Cond := [Cond.classLink RX3 208 "java/lang/IndexOutOfBoundsException", Cond.initialized "java/lang/IndexOutOfBoundsException", Cond.methodLink RX3 205 yX1_isPlace, Cond.instanceMethod yX1_isPlace, Cond.selects RX1 yX1_isPlace yX1_isPlace, Cond.code yX1_isPlace cX1_isPlace 2 (some .boolean), Cond.fieldLink RX1 34 "MapCarrier$Land" "places" "I", Cond.methodLink RX3 48 yX3_checkRange, Cond.instanceMethod yX3_checkRange, Cond.selects RX3 yX3_checkRange yX3_checkRange, Cond.code yX3_checkRange cX3_checkRange 3 none, Cond.methodLink RX3 52 yX1_isFull, Cond.instanceMethod yX1_isFull, Cond.selects RX1 yX1_isFull yX1_isFull, Cond.code yX1_isFull cX1_isFull 2 (some .boolean), Cond.methodLink RX1 38 yX1_isPlace, Cond.methodLink RX3 58 yX1_join, Cond.instanceMethod yX1_join, Cond.selects RX1 yX1_join yX1_join, Cond.code yX1_join cX1_join 7 (some .int), Cond.methodLink RX1 42 yX1_layEnd, Cond.instanceMethod yX1_layEnd, Cond.selects RX1 yX1_layEnd yX1_layEnd, Cond.code yX1_layEnd cX1_layEnd 4 none]
def wsL_law0_r7 : List Cond := [Cond.static yX3_placeOfEnd, Cond.code yX3_placeOfEnd cX3_placeOfEnd 1 (some .int), Cond.methodLink RL 100 yX5_addRoad, Cond.instanceMethod yX5_addRoad, Cond.selects RX5 yX5_addRoad yX5_addRoad, Cond.code yX5_addRoad cX5_addRoad 4 (some .int), Cond.fieldLink RX5 64 "MapCarrierModel" "roads" "I", Cond.methodLink RX5 53 yX5_isPlace, Cond.instanceMethod yX5_isPlace, Cond.selects RX5 yX5_isPlace yX5_isPlace, Cond.code yX5_isPlace cX5_isPlace 2 (some .boolean), Cond.methodLink RX5 49 yX5_isIn, Cond.static yX5_isIn, Cond.code yX5_isIn cX5_isIn 3 (some .boolean), Cond.methodLink RX5 70 yX5_addExit, Cond.instanceMethod yX5_addExit, Cond.selects RX5 yX5_addExit yX5_addExit, Cond.code yX5_addExit cX5_addExit 3 none, Cond.methodLink RL 101 yL_turnRoad, Cond.static yL_turnRoad, Cond.codeWith yL_turnRoad cL_turnRoad 5 (some .int) [(0, 17, 20, 19)], Cond.methodLink RL 23 yX3_turnRoad, Cond.instanceMethod yX3_turnRoad, Cond.selects RX3 yX3_turnRoad yX3_turnRoad]
def wsL_law0_r8 : List Cond := [Cond.code yX3_turnRoad cX3_turnRoad 3 (some .boolean), Cond.methodLink RX3 62 yX3_checkedEnd, Cond.instanceMethod yX3_checkedEnd, Cond.selects RX3 yX3_checkedEnd yX3_checkedEnd, Cond.code yX3_checkedEnd cX3_checkedEnd 4 (some .int), Cond.methodLink RX3 213 yX1_endAt, Cond.instanceMethod yX1_endAt, Cond.selects RX1 yX1_endAt yX1_endAt, Cond.code yX1_endAt cX1_endAt 4 (some .int), Cond.methodLink RX3 66 yX1_turnEnd, Cond.instanceMethod yX1_turnEnd, Cond.selects RX1 yX1_turnEnd yX1_turnEnd, Cond.code yX1_turnEnd cX1_turnEnd 3 (some .boolean), Cond.static yX3_isEnd, Cond.code yX3_isEnd cX3_isEnd 1 (some .boolean), Cond.methodLink RL 104 yX5_turnRoad, Cond.instanceMethod yX5_turnRoad, Cond.selects RX5 yX5_turnRoad yX5_turnRoad, Cond.code yX5_turnRoad cX5_turnRoad 4 (some .boolean), Cond.methodLink RX5 74 yX5_isExit, Cond.instanceMethod yX5_isExit, Cond.selects RX5 yX5_isExit yX5_isExit, Cond.code yX5_isExit cX5_isExit 3 (some .boolean), Cond.methodLink RX5 78 yX5_isNot]
def wsL_law0_r9 : List Cond := [Cond.instanceMethod yX5_isNot, Cond.selects RX5 yX5_isNot yX5_isNot, Cond.code yX5_isNot cX5_isNot 2 (some .boolean), Cond.methodLink RL 105 yL_turnShepherd, Cond.static yL_turnShepherd, Cond.codeWith yL_turnShepherd cL_turnShepherd 4 (some .int) [(0, 16, 19, 19)], Cond.methodLink RL 27 yX3_turnShepherd, Cond.instanceMethod yX3_turnShepherd, Cond.selects RX3 yX3_turnShepherd yX3_turnShepherd, Cond.code yX3_turnShepherd cX3_turnShepherd 2 (some .boolean), Cond.methodLink RL 108 yX5_turnShepherd, Cond.instanceMethod yX5_turnShepherd, Cond.selects RX5 yX5_turnShepherd yX5_turnShepherd, Cond.code yX5_turnShepherd cX5_turnShepherd 2 (some .boolean), Cond.methodLink RL 109 yL_pay, Cond.static yL_pay, Cond.codeWith yL_pay cL_pay 4 (some .int) [(0, 9, 12, 21)], Cond.methodLink RL 31 yX3_pay, Cond.instanceMethod yX3_pay, Cond.selects RX3 yX3_pay yX3_pay, Cond.code yX3_pay cX3_pay 2 (some .int), Cond.methodLink RX3 76 Lib.Math.min.name, Cond.static Lib.Math.min.name, Cond.initialized "java/lang/Math"]
def wsL_law0_r10 : List Cond := [Cond.code Lib.Math.min.name Lib.Math.min.code 2 (some .int), Cond.methodLink RL 111 yX5_pay, Cond.instanceMethod yX5_pay, Cond.selects RX5 yX5_pay yX5_pay, Cond.code yX5_pay cX5_pay 2 (some .int), Cond.methodLink RX5 131 Lib.Math.min.name, Cond.methodLink RL 112 yL_beginErrand, Cond.static yL_beginErrand, Cond.codeWith yL_beginErrand cL_beginErrand 4 (some .int) [(0, 9, 12, 19), (0, 9, 15, 13)], Cond.methodLink RL 35 yX3_beginErrand, Cond.instanceMethod yX3_beginErrand, Cond.selects RX3 yX3_beginErrand yX3_beginErrand, Cond.code yX3_beginErrand cX3_beginErrand 3 (some .int), Cond.methodLink RX3 81 yX3_checkIdle, Cond.instanceMethod yX3_checkIdle, Cond.selects RX3 yX3_checkIdle yX3_checkIdle, Cond.code yX3_checkIdle cX3_checkIdle 1 none, Cond.methodLink RX3 96 yX0_isUnderway, Cond.instanceMethod yX0_isUnderway, Cond.selects RX0 yX0_isUnderway yX0_isUnderway, Cond.code yX0_isUnderway cX0_isUnderway 1 (some .boolean), Cond.methodLink RX3 87 yX1_shortest, Cond.instanceMethod yX1_shortest, Cond.selects RX1 yX1_shortest yX1_shortest]
def wsL_law0_r11 : List Cond := [Cond.code yX1_shortest cX1_shortest 3 (some .int), Cond.constant RX1 57 (1000000), Cond.methodLink RX1 53 yX1_measure, Cond.instanceMethod yX1_measure, Cond.selects RX1 yX1_measure yX1_measure, Cond.code yX1_measure cX1_measure 6 none, Cond.methodLink RX1 61 yJ7_fill_53178, Cond.static yJ7_fill_53178, Cond.initialized RJ7, Cond.code yJ7_fill_53178 cJ7_fill_53178 4 none, Cond.methodLink RX1 58 yX1_milesBy, Cond.instanceMethod yX1_milesBy, Cond.selects RX1 yX1_milesBy yX1_milesBy, Cond.code yX1_milesBy cX1_milesBy 2 (some .int), Cond.methodLink RX3 90 yX0_begin, Cond.instanceMethod yX0_begin, Cond.selects RX0 yX0_begin yX0_begin, Cond.code yX0_begin cX0_begin 2 none, Cond.fieldLink RX0 64 "MapCarrier$Carrier" "wayLength" "I", Cond.fieldLink RX0 40 "MapCarrier$Carrier" "at" "I", Cond.fieldLink RX0 67 "MapCarrier$Carrier" "done" "I", Cond.methodLink RX0 60 yX0_forget, Cond.static yX0_forget, Cond.code yX0_forget cX0_forget 2 none]
def wsL_law0_r12 : List Cond := [Cond.methodLink RX0 70 yX0_endErrand, Cond.instanceMethod yX0_endErrand, Cond.selects RX0 yX0_endErrand yX0_endErrand, Cond.code yX0_endErrand cX0_endErrand 1 none, Cond.methodLink RL 114 yX5_beginErrand, Cond.instanceMethod yX5_beginErrand, Cond.selects RX5 yX5_beginErrand yX5_beginErrand, Cond.code yX5_beginErrand cX5_beginErrand 2 (some .int), Cond.methodLink RX5 165 yX5_start, Cond.static yX5_start, Cond.code yX5_start cX5_start 2 none, Cond.methodLink RX5 162 yX4_begin, Cond.instanceMethod yX4_begin, Cond.selects RX4 yX4_begin yX4_begin, Cond.code yX4_begin cX4_begin 3 none, Cond.fieldLink RX4 38 "MapCarrierModel$State" "length" "I", Cond.methodLink RX5 168 yX5_milesBetween, Cond.instanceMethod yX5_milesBetween, Cond.selects RX5 yX5_milesBetween yX5_milesBetween, Cond.code yX5_milesBetween cX5_milesBetween 3 (some .int), Cond.methodLink RX5 90 yX5_measure, Cond.instanceMethod yX5_measure, Cond.selects RX5 yX5_measure yX5_measure, Cond.code yX5_measure cX5_measure 5 none]
def wsL_law0_r13 : List Cond := [Cond.methodLink RL 115 yL_goOn, Cond.static yL_goOn, Cond.codeWith yL_goOn cL_goOn 4 (some .int) [(0, 9, 12, 21), (0, 9, 15, 13)], Cond.methodLink RL 38 yX3_goOn, Cond.instanceMethod yX3_goOn, Cond.selects RX3 yX3_goOn yX3_goOn, Cond.code yX3_goOn cX3_goOn 3 (some .int), Cond.methodLink RX3 93 yX3_checkUnderway, Cond.instanceMethod yX3_checkUnderway, Cond.selects RX3 yX3_checkUnderway yX3_checkUnderway, Cond.code yX3_checkUnderway cX3_checkUnderway 1 none, Cond.methodLink RX3 100 yX0_step, Cond.instanceMethod yX0_step, Cond.selects RX0 yX0_step yX0_step, Cond.code yX0_step cX0_step 2 (some .boolean), Cond.fieldLink RX0 53 "MapCarrier$Carrier" "inVain" "I", Cond.methodLink RX0 73 yX0_rememberedEnd, Cond.instanceMethod yX0_rememberedEnd, Cond.selects RX0 yX0_rememberedEnd yX0_rememberedEnd, Cond.code yX0_rememberedEnd cX0_rememberedEnd 2 (some .int), Cond.methodLink RX0 98 yX2_exitFor, Cond.instanceMethod yX2_exitFor, Cond.selects RX2 yX2_exitFor yX2_exitFor, Cond.code yX2_exitFor cX2_exitFor 4 (some .int)]
def wsL_law0_r14 : List Cond := [Cond.methodLink RX2 18 yX2_spotOf, Cond.static yX2_spotOf, Cond.code yX2_spotOf cX2_spotOf 3 (some .int), Cond.methodLink RX0 102 yX1_endAt, Cond.methodLink RX0 105 yX0_canTake, Cond.instanceMethod yX0_canTake, Cond.selects RX0 yX0_canTake yX0_canTake, Cond.code yX0_canTake cX0_canTake 2 (some .boolean), Cond.methodLink RX0 77 yX0_askedEnd, Cond.instanceMethod yX0_askedEnd, Cond.selects RX0 yX0_askedEnd yX0_askedEnd, Cond.code yX0_askedEnd cX0_askedEnd 3 (some .int), Cond.fieldLink RX0 43 "MapCarrier$Carrier" "coins" "I", Cond.fieldLink RX0 114 "MapCarrier$Carrier" "questions" "I", Cond.methodLink RX0 108 yX1_isPlace, Cond.methodLink RX0 117 yX1_endTowards, Cond.instanceMethod yX1_endTowards, Cond.selects RX1 yX1_endTowards yX1_endTowards, Cond.code yX1_endTowards cX1_endTowards 5 (some .int), Cond.static yX3_exitOfEnd, Cond.code yX3_exitOfEnd cX3_exitOfEnd 1 (some .int), Cond.methodLink RX0 124 yX2_learn, Cond.instanceMethod yX2_learn, Cond.selects RX2 yX2_learn yX2_learn]
def wsL_law0_r15 : List Cond := [Cond.code yX2_learn cX2_learn 5 none, Cond.methodLink RX0 80 yX0_firstUntried, Cond.instanceMethod yX0_firstUntried, Cond.selects RX0 yX0_firstUntried yX0_firstUntried, Cond.code yX0_firstUntried cX0_firstUntried 3 (some .int), Cond.methodLink RX0 83 yX0_take, Cond.instanceMethod yX0_take, Cond.selects RX0 yX0_take yX0_take, Cond.code yX0_take cX0_take 3 none, Cond.fieldLink RX0 50 "MapCarrier$Carrier" "walked" "I", Cond.methodLink RX0 128 yX1_twinOf, Cond.instanceMethod yX1_twinOf, Cond.selects RX1 yX1_twinOf yX1_twinOf, Cond.code yX1_twinOf cX1_twinOf 2 (some .int), Cond.methodLink RX0 131 yX1_milesAt, Cond.instanceMethod yX1_milesAt, Cond.selects RX1 yX1_milesAt yX1_milesAt, Cond.code yX1_milesAt cX1_milesAt 2 (some .int), Cond.methodLink RX0 87 yX0_doubleBack, Cond.instanceMethod yX0_doubleBack, Cond.selects RX0 yX0_doubleBack yX0_doubleBack, Cond.code yX0_doubleBack cX0_doubleBack 3 none, Cond.fieldLink RX0 137 "MapCarrier$Carrier" "doubled" "I", Cond.methodLink RX0 90 yX0_rememberWay]
def wsL_law0_r16 : List Cond := [Cond.instanceMethod yX0_rememberWay, Cond.selects RX0 yX0_rememberWay yX0_rememberWay, Cond.code yX0_rememberWay cX0_rememberWay 2 none, Cond.methodLink RX0 140 yX2_confirm, Cond.instanceMethod yX2_confirm, Cond.selects RX2 yX2_confirm yX2_confirm, Cond.code yX2_confirm cX2_confirm 5 none, Cond.methodLink RX2 22 Lib.Math.min.name, Cond.methodLink RX2 27 yX2_learn, Cond.methodLink RL 117 yX5_goOn, Cond.instanceMethod yX5_goOn, Cond.selects RX5 yX5_goOn yX5_goOn, Cond.code yX5_goOn cX5_goOn 2 (some .int), Cond.methodLink RX5 171 yX5_stepsOn, Cond.instanceMethod yX5_stepsOn, Cond.selects RX5 yX5_stepsOn yX5_stepsOn, Cond.code yX5_stepsOn cX5_stepsOn 4 (some .int), Cond.methodLink RX5 159 yX5_stepOn, Cond.instanceMethod yX5_stepOn, Cond.selects RX5 yX5_stepOn yX5_stepOn, Cond.code yX5_stepOn cX5_stepOn 4 (some .boolean), Cond.methodLink RX5 125 yX4_remembered, Cond.instanceMethod yX4_remembered, Cond.selects RX4 yX4_remembered yX4_remembered]
def wsL_law0_r17 : List Cond := [Cond.code yX4_remembered cX4_remembered 2 (some .int), Cond.methodLink RX5 118 yX5_canTake, Cond.instanceMethod yX5_canTake, Cond.selects RX5 yX5_canTake yX5_canTake, Cond.code yX5_canTake cX5_canTake 3 (some .boolean), Cond.methodLink RX5 114 yX5_take, Cond.instanceMethod yX5_take, Cond.selects RX5 yX5_take yX5_take, Cond.code yX5_take cX5_take 3 none, Cond.methodLink RX5 136 yX5_asks, Cond.instanceMethod yX5_asks, Cond.selects RX5 yX5_asks yX5_asks, Cond.code yX5_asks cX5_asks 4 (some .boolean), Cond.methodLink RX5 106 yX5_toldExit, Cond.instanceMethod yX5_toldExit, Cond.selects RX5 yX5_toldExit yX5_toldExit, Cond.code yX5_toldExit cX5_toldExit 7 (some .int), Cond.methodLink RX5 110 yX4_remember, Cond.instanceMethod yX4_remember, Cond.selects RX4 yX4_remember yX4_remember, Cond.code yX4_remember cX4_remember 4 none, Cond.methodLink RX5 140 yX5_triesNext, Cond.instanceMethod yX5_triesNext, Cond.selects RX5 yX5_triesNext yX5_triesNext]
def wsL_law0_r18 : List Cond := [Cond.code yX5_triesNext cX5_triesNext 4 (some .boolean), Cond.methodLink RX5 143 yX5_doublesBack, Cond.instanceMethod yX5_doublesBack, Cond.selects RX5 yX5_doublesBack yX5_doublesBack, Cond.code yX5_doublesBack cX5_doublesBack 3 (some .boolean), Cond.methodLink RX5 149 yX4_end, Cond.instanceMethod yX4_end, Cond.selects RX4 yX4_end yX4_end, Cond.code yX4_end cX4_end 1 none, Cond.methodLink RX4 62 yX4_begin, Cond.methodLink RX5 152 yX5_learn, Cond.instanceMethod yX5_learn, Cond.selects RX5 yX5_learn yX5_learn, Cond.code yX5_learn cX5_learn 6 none, Cond.methodLink RL 118 yL_giveUp, Cond.static yL_giveUp, Cond.codeWith yL_giveUp cL_giveUp 3 (some .int) [(0, 8, 11, 13)], Cond.methodLink RL 41 yX3_giveUp, Cond.instanceMethod yX3_giveUp, Cond.selects RX3 yX3_giveUp yX3_giveUp, Cond.code yX3_giveUp cX3_giveUp 2 (some .int), Cond.methodLink RX3 106 yX0_endErrand, Cond.methodLink RL 120 yX5_giveUp, Cond.instanceMethod yX5_giveUp]
def wsL_law0_r19 : List Cond := [Cond.selects RX5 yX5_giveUp yX5_giveUp, Cond.code yX5_giveUp cX5_giveUp 2 (some .int), Cond.methodLink RL 121 yL_sleep, Cond.static yL_sleep, Cond.codeWith yL_sleep cL_sleep 4 (some .int) [(0, 9, 12, 21)], Cond.methodLink RL 44 yX3_sleep, Cond.instanceMethod yX3_sleep, Cond.selects RX3 yX3_sleep yX3_sleep, Cond.code yX3_sleep cX3_sleep 2 (some .int), Cond.methodLink RX3 113 yX2_fade, Cond.instanceMethod yX2_fade, Cond.selects RX2 yX2_fade yX2_fade, Cond.code yX2_fade cX2_fade 5 (some .int), Cond.methodLink RX2 31 Lib.Math.max.name, Cond.static Lib.Math.max.name, Cond.code Lib.Math.max.name Lib.Math.max.code 2 (some .int), Cond.methodLink RL 123 yX5_sleep, Cond.instanceMethod yX5_sleep, Cond.selects RX5 yX5_sleep yX5_sleep, Cond.code yX5_sleep cX5_sleep 4 (some .int), Cond.methodLink RX5 178 yX5_night, Cond.instanceMethod yX5_night, Cond.selects RX5 yX5_night yX5_night, Cond.code yX5_night cX5_night 3 (some .int)]
def wsL_law0_r20 : List Cond := [Cond.methodLink RL 124 yX3_places, Cond.instanceMethod yX3_places, Cond.selects RX3 yX3_places yX3_places, Cond.code yX3_places cX3_places 1 (some .int), Cond.methodLink RL 127 yX5_places, Cond.instanceMethod yX5_places, Cond.selects RX5 yX5_places yX5_places, Cond.code yX5_places cX5_places 1 (some .int), Cond.methodLink RX5 182 yX5_ok, Cond.instanceMethod yX5_ok, Cond.selects RX5 yX5_ok yX5_ok, Cond.code yX5_ok cX5_ok 2 (some .int), Cond.methodLink RL 128 yL_exitsOf, Cond.static yL_exitsOf, Cond.codeWith yL_exitsOf cL_exitsOf 4 (some .int) [(0, 9, 12, 19)], Cond.methodLink RL 47 yX3_exitsOf, Cond.instanceMethod yX3_exitsOf, Cond.selects RX3 yX3_exitsOf yX3_exitsOf, Cond.code yX3_exitsOf cX3_exitsOf 2 (some .int), Cond.methodLink RL 130 yX5_exitsOf, Cond.instanceMethod yX5_exitsOf, Cond.selects RX5 yX5_exitsOf yX5_exitsOf, Cond.code yX5_exitsOf cX5_exitsOf 2 (some .int), Cond.methodLink RL 131 yL_leadsTo]
def wsL_law0_r21 : List Cond := [Cond.static yL_leadsTo, Cond.codeWith yL_leadsTo cL_leadsTo 5 (some .int) [(0, 10, 13, 19)], Cond.methodLink RL 50 yX3_leadsTo, Cond.instanceMethod yX3_leadsTo, Cond.selects RX3 yX3_leadsTo yX3_leadsTo, Cond.code yX3_leadsTo cX3_leadsTo 3 (some .int), Cond.methodLink RX3 123 yX1_beyond, Cond.instanceMethod yX1_beyond, Cond.selects RX1 yX1_beyond yX1_beyond, Cond.code yX1_beyond cX1_beyond 2 (some .int), Cond.methodLink RL 133 yX5_leadsTo, Cond.instanceMethod yX5_leadsTo, Cond.selects RX5 yX5_leadsTo yX5_leadsTo, Cond.code yX5_leadsTo cX5_leadsTo 3 (some .int), Cond.methodLink RL 134 yL_milesOf, Cond.static yL_milesOf, Cond.codeWith yL_milesOf cL_milesOf 5 (some .int) [(0, 10, 13, 19)], Cond.methodLink RL 54 yX3_milesOf, Cond.instanceMethod yX3_milesOf, Cond.selects RX3 yX3_milesOf yX3_milesOf, Cond.code yX3_milesOf cX3_milesOf 3 (some .int), Cond.methodLink RX3 126 yX1_milesAt, Cond.methodLink RL 136 yX5_milesOf, Cond.instanceMethod yX5_milesOf]
def wsL_law0_r22 : List Cond := [Cond.selects RX5 yX5_milesOf yX5_milesOf, Cond.code yX5_milesOf cX5_milesOf 3 (some .int), Cond.methodLink RL 137 yL_isOpen, Cond.static yL_isOpen, Cond.codeWith yL_isOpen cL_isOpen 5 (some .int) [(0, 17, 20, 19)], Cond.methodLink RL 57 yX3_isOpen, Cond.instanceMethod yX3_isOpen, Cond.selects RX3 yX3_isOpen yX3_isOpen, Cond.code yX3_isOpen cX3_isOpen 3 (some .boolean), Cond.methodLink RX3 129 yX1_opensAt, Cond.instanceMethod yX1_opensAt, Cond.selects RX1 yX1_opensAt yX1_opensAt, Cond.code yX1_opensAt cX1_opensAt 2 (some .boolean), Cond.methodLink RL 139 yX5_isOpen, Cond.instanceMethod yX5_isOpen, Cond.selects RX5 yX5_isOpen yX5_isOpen, Cond.code yX5_isOpen cX5_isOpen 3 (some .boolean), Cond.methodLink RL 140 yL_hasShepherd, Cond.static yL_hasShepherd, Cond.codeWith yL_hasShepherd cL_hasShepherd 4 (some .int) [(0, 16, 19, 19)], Cond.methodLink RL 60 yX3_hasShepherd, Cond.instanceMethod yX3_hasShepherd, Cond.selects RX3 yX3_hasShepherd yX3_hasShepherd, Cond.code yX3_hasShepherd cX3_hasShepherd 2 (some .boolean)]
def wsL_law0_r23 : List Cond := [Cond.methodLink RL 142 yX5_hasShepherd, Cond.instanceMethod yX5_hasShepherd, Cond.selects RX5 yX5_hasShepherd yX5_hasShepherd, Cond.code yX5_hasShepherd cX5_hasShepherd 2 (some .boolean), Cond.methodLink RL 143 yL_distance, Cond.static yL_distance, Cond.codeWith yL_distance cL_distance 5 (some .int) [(0, 10, 13, 19)], Cond.methodLink RL 63 yX3_distance, Cond.instanceMethod yX3_distance, Cond.selects RX3 yX3_distance yX3_distance, Cond.code yX3_distance cX3_distance 3 (some .int), Cond.methodLink RL 145 yX5_distance, Cond.instanceMethod yX5_distance, Cond.selects RX5 yX5_distance yX5_distance, Cond.code yX5_distance cX5_distance 3 (some .int), Cond.methodLink RL 146 yX3_whereIs, Cond.instanceMethod yX3_whereIs, Cond.selects RX3 yX3_whereIs yX3_whereIs, Cond.code yX3_whereIs cX3_whereIs 1 (some .int), Cond.methodLink RL 149 yX5_whereIs, Cond.instanceMethod yX5_whereIs, Cond.selects RX5 yX5_whereIs yX5_whereIs, Cond.code yX5_whereIs cX5_whereIs 1 (some .int), Cond.methodLink RL 150 yX3_coins]
def wsL_law0_r24 : List Cond := [Cond.instanceMethod yX3_coins, Cond.selects RX3 yX3_coins yX3_coins, Cond.code yX3_coins cX3_coins 1 (some .int), Cond.methodLink RL 153 yX5_coins, Cond.instanceMethod yX5_coins, Cond.selects RX5 yX5_coins yX5_coins, Cond.code yX5_coins cX5_coins 1 (some .int), Cond.methodLink RL 154 yX3_goal, Cond.instanceMethod yX3_goal, Cond.selects RX3 yX3_goal yX3_goal, Cond.code yX3_goal cX3_goal 1 (some .int), Cond.methodLink RL 157 yX5_goal, Cond.instanceMethod yX5_goal, Cond.selects RX5 yX5_goal yX5_goal, Cond.code yX5_goal cX5_goal 1 (some .int), Cond.methodLink RL 158 yX3_wayLength, Cond.instanceMethod yX3_wayLength, Cond.selects RX3 yX3_wayLength yX3_wayLength, Cond.code yX3_wayLength cX3_wayLength 1 (some .int), Cond.methodLink RL 161 yX5_wayLength, Cond.instanceMethod yX5_wayLength, Cond.selects RX5 yX5_wayLength yX5_wayLength, Cond.code yX5_wayLength cX5_wayLength 1 (some .int), Cond.methodLink RL 162 yL_isTried]
def wsL_law0_r25 : List Cond := [Cond.static yL_isTried, Cond.codeWith yL_isTried cL_isTried 5 (some .int) [(0, 17, 20, 19)], Cond.methodLink RL 66 yX3_isTried, Cond.instanceMethod yX3_isTried, Cond.selects RX3 yX3_isTried yX3_isTried, Cond.code yX3_isTried cX3_isTried 4 (some .boolean), Cond.methodLink RX3 135 yX0_hasTried, Cond.instanceMethod yX0_hasTried, Cond.selects RX0 yX0_hasTried yX0_hasTried, Cond.code yX0_hasTried cX0_hasTried 2 (some .boolean), Cond.methodLink RL 164 yX5_isTried, Cond.instanceMethod yX5_isTried, Cond.selects RX5 yX5_isTried yX5_isTried, Cond.code yX5_isTried cX5_isTried 3 (some .boolean), Cond.methodLink RL 165 yL_remembered, Cond.static yL_remembered, Cond.codeWith yL_remembered cL_remembered 5 (some .int) [(0, 10, 13, 19)], Cond.methodLink RL 69 yX3_remembered, Cond.instanceMethod yX3_remembered, Cond.selects RX3 yX3_remembered yX3_remembered, Cond.code yX3_remembered cX3_remembered 3 (some .int), Cond.methodLink RX3 138 yX2_exitFor, Cond.methodLink RL 167 yX5_remembered, Cond.instanceMethod yX5_remembered]
def wsL_law0_r26 : List Cond := [Cond.selects RX5 yX5_remembered yX5_remembered, Cond.code yX5_remembered cX5_remembered 3 (some .int), Cond.methodLink RL 168 yL_strength, Cond.static yL_strength, Cond.codeWith yL_strength cL_strength 5 (some .int) [(0, 10, 13, 19)], Cond.methodLink RL 72 yX3_strength, Cond.instanceMethod yX3_strength, Cond.selects RX3 yX3_strength yX3_strength, Cond.code yX3_strength cX3_strength 3 (some .int), Cond.methodLink RX3 141 yX2_strengthFor, Cond.instanceMethod yX2_strengthFor, Cond.selects RX2 yX2_strengthFor yX2_strengthFor, Cond.code yX2_strengthFor cX2_strengthFor 4 (some .int), Cond.methodLink RL 170 yX5_strength, Cond.instanceMethod yX5_strength, Cond.selects RX5 yX5_strength yX5_strength, Cond.code yX5_strength cX5_strength 3 (some .int), Cond.methodLink RX5 185 yX5_strengthOf, Cond.instanceMethod yX5_strengthOf, Cond.selects RX5 yX5_strengthOf yX5_strengthOf, Cond.code yX5_strengthOf cX5_strengthOf 2 (some .int), Cond.methodLink RL 171 yL_knowsWay, Cond.static yL_knowsWay, Cond.codeWith yL_knowsWay cL_knowsWay 4 (some .int) [(0, 16, 19, 19)]]
def wsL_law0_r27 : List Cond := [Cond.methodLink RL 75 yX3_knowsWay, Cond.instanceMethod yX3_knowsWay, Cond.selects RX3 yX3_knowsWay yX3_knowsWay, Cond.code yX3_knowsWay cX3_knowsWay 2 (some .boolean), Cond.methodLink RX3 144 yX0_findsByMemory, Cond.instanceMethod yX0_findsByMemory, Cond.selects RX0 yX0_findsByMemory yX0_findsByMemory, Cond.code yX0_findsByMemory cX0_findsByMemory 5 (some .boolean), Cond.methodLink RX0 143 yX1_opensAt, Cond.methodLink RX0 146 yX1_beyond, Cond.methodLink RL 173 yX5_knowsWay, Cond.instanceMethod yX5_knowsWay, Cond.selects RX5 yX5_knowsWay yX5_knowsWay, Cond.code yX5_knowsWay cX5_knowsWay 2 (some .boolean), Cond.methodLink RX5 188 yX5_knows, Cond.instanceMethod yX5_knows, Cond.selects RX5 yX5_knows yX5_knows, Cond.code yX5_knows cX5_knows 5 (some .boolean), Cond.methodLink RL 174 yX3_milesWalked, Cond.instanceMethod yX3_milesWalked, Cond.selects RX3 yX3_milesWalked yX3_milesWalked, Cond.code yX3_milesWalked cX3_milesWalked 1 (some .int), Cond.methodLink RL 177 yX5_milesWalked, Cond.instanceMethod yX5_milesWalked]
def wsL_law0_r28 : List Cond := [Cond.selects RX5 yX5_milesWalked yX5_milesWalked, Cond.code yX5_milesWalked cX5_milesWalked 1 (some .int), Cond.methodLink RL 178 yX3_milesDoubled, Cond.instanceMethod yX3_milesDoubled, Cond.selects RX3 yX3_milesDoubled yX3_milesDoubled, Cond.code yX3_milesDoubled cX3_milesDoubled 1 (some .int), Cond.methodLink RL 181 yX5_milesDoubled, Cond.instanceMethod yX5_milesDoubled, Cond.selects RX5 yX5_milesDoubled yX5_milesDoubled, Cond.code yX5_milesDoubled cX5_milesDoubled 1 (some .int), Cond.methodLink RL 182 yX3_errandsDone, Cond.instanceMethod yX3_errandsDone, Cond.selects RX3 yX3_errandsDone yX3_errandsDone, Cond.code yX3_errandsDone cX3_errandsDone 1 (some .int), Cond.methodLink RL 185 yX5_errandsDone, Cond.instanceMethod yX5_errandsDone, Cond.selects RX5 yX5_errandsDone yX5_errandsDone, Cond.code yX5_errandsDone cX5_errandsDone 1 (some .int), Cond.methodLink RL 186 yX3_errandsInVain, Cond.instanceMethod yX3_errandsInVain, Cond.selects RX3 yX3_errandsInVain yX3_errandsInVain, Cond.code yX3_errandsInVain cX3_errandsInVain 1 (some .int), Cond.methodLink RL 189 yX5_errandsInVain, Cond.instanceMethod yX5_errandsInVain]
def wsL_law0_r29 : List Cond := [Cond.selects RX5 yX5_errandsInVain yX5_errandsInVain, Cond.code yX5_errandsInVain cX5_errandsInVain 1 (some .int), Cond.methodLink RL 190 yX3_asked, Cond.instanceMethod yX3_asked, Cond.selects RX3 yX3_asked yX3_asked, Cond.code yX3_asked cX3_asked 1 (some .int), Cond.methodLink RL 193 yX5_asked, Cond.instanceMethod yX5_asked, Cond.selects RX5 yX5_asked yX5_asked, Cond.code yX5_asked cX5_asked 1 (some .int), Cond.methodLink RL 194 yL_wouldWalk, Cond.static yL_wouldWalk, Cond.codeWith yL_wouldWalk cL_wouldWalk 4 (some .int) [(0, 9, 12, 19), (0, 9, 15, 13)], Cond.methodLink RL 78 yX3_wouldWalk, Cond.instanceMethod yX3_wouldWalk, Cond.selects RX3 yX3_wouldWalk yX3_wouldWalk, Cond.code yX3_wouldWalk cX3_wouldWalk 2 (some .int), Cond.methodLink RX3 162 yX3_trialMiles, Cond.instanceMethod yX3_trialMiles, Cond.selects RX3 yX3_trialMiles yX3_trialMiles, Cond.code yX3_trialMiles cX3_trialMiles 4 (some .int), Cond.methodLink RX3 224 yX0_startLike, Cond.instanceMethod yX0_startLike, Cond.selects RX0 yX0_startLike yX0_startLike]
def wsL_law0_r30 : List Cond := [Cond.code yX0_startLike cX0_startLike 3 none, Cond.methodLink RX0 46 yX2_copyFrom, Cond.instanceMethod yX2_copyFrom, Cond.selects RX2 yX2_copyFrom yX2_copyFrom, Cond.code yX2_copyFrom cX2_copyFrom 2 none, Cond.methodLink RX2 34 arraycopyName, Cond.native arraycopyName, Cond.static arraycopyName, Cond.initialized "java/lang/System", Cond.methodLink RL 196 yX5_wouldWalk, Cond.instanceMethod yX5_wouldWalk, Cond.selects RX5 yX5_wouldWalk yX5_wouldWalk, Cond.code yX5_wouldWalk cX5_wouldWalk 2 (some .int), Cond.methodLink RX5 194 yX5_walkTo, Cond.instanceMethod yX5_walkTo, Cond.selects RX5 yX5_walkTo yX5_walkTo, Cond.code yX5_walkTo cX5_walkTo 2 (some .int), Cond.methodLink RX5 191 yX4_become, Cond.instanceMethod yX4_become, Cond.selects RX4 yX4_become yX4_become, Cond.code yX4_become cX4_become 2 none, Cond.fieldLink RX4 35 "MapCarrierModel$State" "coins" "I", Cond.fieldLink RX4 41 "MapCarrierModel$State" "walked" "I", Cond.fieldLink RX4 44 "MapCarrierModel$State" "doubled" "I"]
def wsL_law0_r31 : List Cond := [Cond.fieldLink RX4 47 "MapCarrierModel$State" "done" "I", Cond.fieldLink RX4 50 "MapCarrierModel$State" "inVain" "I", Cond.fieldLink RX4 53 "MapCarrierModel$State" "asked" "I", Cond.methodLink RX4 56 arraycopyName, Cond.methodLink RL 197 yL_bestShepherd, Cond.static yL_bestShepherd, Cond.codeWith yL_bestShepherd cL_bestShepherd 4 (some .int) [(0, 9, 12, 19), (0, 9, 15, 13)], Cond.methodLink RL 81 yX3_bestShepherd, Cond.instanceMethod yX3_bestShepherd, Cond.selects RX3 yX3_bestShepherd yX3_bestShepherd, Cond.code yX3_bestShepherd cX3_bestShepherd 6 (some .int), Cond.methodLink RL 199 yX5_bestShepherd, Cond.instanceMethod yX5_bestShepherd, Cond.selects RX5 yX5_bestShepherd yX5_bestShepherd, Cond.code yX5_bestShepherd cX5_bestShepherd 2 (some .int), Cond.methodLink RX5 197 yX5_helper, Cond.instanceMethod yX5_helper, Cond.selects RX5 yX5_helper yX5_helper, Cond.code yX5_helper cX5_helper 7 (some .int), Cond.methodLink RL 200 yX3_meanMiles, Cond.instanceMethod yX3_meanMiles, Cond.selects RX3 yX3_meanMiles yX3_meanMiles, Cond.code yX3_meanMiles cX3_meanMiles 2 (some .double), Cond.methodLink RL 204 yX5_meanMiles]
def wsL_law0_r32 : List Cond := [Cond.instanceMethod yX5_meanMiles, Cond.selects RX5 yX5_meanMiles yX5_meanMiles, Cond.code yX5_meanMiles cX5_meanMiles 2 (some .double), Cond.methodLink RL 205 yX3_digest, Cond.instanceMethod yX3_digest, Cond.selects RX3 yX3_digest yX3_digest, Cond.code yX3_digest cX3_digest 3 (some .long), Cond.constantLong RX3 165 (1873), Cond.methodLink RX3 167 yX3_places, Cond.methodLink RX3 170 yX3_mix, Cond.static yX3_mix, Cond.code yX3_mix cX3_mix 4 (some .long), Cond.constantLong RX3 228 (31), Cond.methodLink RX3 174 yX3_whereIs, Cond.methodLink RX3 177 yX3_coins, Cond.methodLink RX3 179 yX3_goal, Cond.methodLink RX3 181 yX3_wayLength, Cond.methodLink RX3 183 yX3_milesWalked, Cond.methodLink RX3 186 yX3_milesDoubled, Cond.methodLink RX3 189 yX3_errandsDone, Cond.methodLink RX3 192 yX3_errandsInVain, Cond.methodLink RX3 195 yX3_asked, Cond.methodLink RX3 198 yX3_mixPlaces, Cond.instanceMethod yX3_mixPlaces]
def wsL_law0_r33 : List Cond := [Cond.selects RX3 yX3_mixPlaces yX3_mixPlaces, Cond.code yX3_mixPlaces cX3_mixPlaces 7 (some .long), Cond.methodLink RX3 230 yX3_hasShepherd, Cond.methodLink RX3 233 yX3_mixFlag, Cond.static yX3_mixFlag, Cond.code yX3_mixFlag cX3_mixFlag 3 (some .long), Cond.methodLink RX3 237 yX3_exitsOf, Cond.methodLink RX3 240 yX3_leadsTo, Cond.methodLink RX3 243 yX3_milesOf, Cond.methodLink RX3 246 yX3_isOpen, Cond.methodLink RX3 250 yX3_isTried, Cond.methodLink RX3 202 yX3_mixMemory, Cond.instanceMethod yX3_mixMemory, Cond.selects RX3 yX3_mixMemory yX3_mixMemory, Cond.code yX3_mixMemory cX3_mixMemory 7 (some .long), Cond.methodLink RX3 253 yX3_remembered, Cond.methodLink RX3 256 yX3_strength, Cond.methodLink RL 209 yX5_digest, Cond.instanceMethod yX5_digest, Cond.selects RX5 yX5_digest yX5_digest, Cond.code yX5_digest cX5_digest 8 (some .long), Cond.constantLong RX5 200 (1873), Cond.constantLong RX5 202 (31), Cond.methodLink RX5 204 yX5_one]
def wsL_law0_r34 : List Cond := [Cond.static yX5_one, Cond.code yX5_one cX5_one 1 (some .int)]
def wsL_law0 : List Cond := (wsL_law0_r1 ++ (wsL_law0_r2 ++ (wsL_law0_r3 ++ (wsL_law0_r4 ++ (wsL_law0_r5 ++ (wsL_law0_r6 ++ (wsL_law0_r7 ++ (wsL_law0_r8 ++ (wsL_law0_r9 ++ (wsL_law0_r10 ++ (wsL_law0_r11 ++ (wsL_law0_r12 ++ (wsL_law0_r13 ++ (wsL_law0_r14 ++ (wsL_law0_r15 ++ (wsL_law0_r16 ++ (wsL_law0_r17 ++ (wsL_law0_r18 ++ (wsL_law0_r19 ++ (wsL_law0_r20 ++ (wsL_law0_r21 ++ (wsL_law0_r22 ++ (wsL_law0_r23 ++ (wsL_law0_r24 ++ (wsL_law0_r25 ++ (wsL_law0_r26 ++ (wsL_law0_r27 ++ (wsL_law0_r28 ++ (wsL_law0_r29 ++ (wsL_law0_r30 ++ (wsL_law0_r31 ++ (wsL_law0_r32 ++ (wsL_law0_r33 ++ wsL_law0_r34))))))))))))))))))))))))))))))))) ++ wsX30 ++ wsX50 ++ wsX10 ++ wsX00 ++ wsX20 ++ wsX40 ++ ([] : List Cond)
def wsL_law : List Cond := wsL_law0 ++ (vx_atS RX3 36 "java/lang/IllegalStateException" ["java/lang/RuntimeException", "java/lang/Exception"]).filter goodWord ++ (vx_atS RX3 47 "java/lang/IllegalArgumentException" ["java/lang/RuntimeException", "java/lang/Exception"]).filter goodWord ++ (vx_atS RX3 212 "java/lang/IndexOutOfBoundsException" ["java/lang/RuntimeException", "java/lang/Exception"]).filter goodWord
end
section
set_option maxRecDepth 20000 in
theorem wsL_in_r1 : ∀ w ∈ wsL_law0_r1, w ∈ lw_tbl := fun w h => (goodIn_p wsL_law0_r1 [61, 64, 69] (by decide +kernel) (by decide +kernel) w h).1
set_option maxRecDepth 20000 in
theorem wsL_in_r2 : ∀ w ∈ wsL_law0_r2, w ∈ lw_tbl := fun w h => (goodIn_p wsL_law0_r2 [107] (by decide +kernel) (by decide +kernel) w h).1
set_option maxRecDepth 20000 in
theorem wsL_in_r3 : ∀ w ∈ wsL_law0_r3, w ∈ lw_tbl := fun w h => (goodIn_p wsL_law0_r3 [113, 729, 735] (by decide +kernel) (by decide +kernel) w h).1
set_option maxRecDepth 20000 in
theorem wsL_in_r4 : ∀ w ∈ wsL_law0_r4, w ∈ lw_tbl := fun w h => (goodIn_p wsL_law0_r4 [422, 838] (by decide +kernel) (by decide +kernel) w h).1
set_option maxRecDepth 20000 in
theorem wsL_in_r5 : ∀ w ∈ wsL_law0_r5, w ∈ lw_tbl := fun w h => (goodIn_p wsL_law0_r5 [842, 834, 447, 262] (by decide +kernel) (by decide +kernel) w h).1
set_option maxRecDepth 20000 in
theorem wsL_in_r6 : ∀ w ∈ wsL_law0_r6, w ∈ lw_tbl := fun w h => (goodIn_p wsL_law0_r6 [266, 467, 472, 477, 481] (by decide +kernel) (by decide +kernel) w h).1
set_option maxRecDepth 20000 in
theorem wsL_in_r7 : ∀ w ∈ wsL_law0_r7, w ∈ lw_tbl := fun w h => (goodIn_p wsL_law0_r7 [484, 846, 850, 853, 857] (by decide +kernel) (by decide +kernel) w h).1
set_option maxRecDepth 20000 in
theorem wsL_in_r8 : ∀ w ∈ wsL_law0_r8, w ∈ lw_tbl := fun w h => (goodIn_p wsL_law0_r8 [491, 349, 353, 495, 362, 861, 865] (by decide +kernel) (by decide +kernel) w h).1
set_option maxRecDepth 20000 in
theorem wsL_in_r9 : ∀ w ∈ wsL_law0_r9, w ∈ lw_tbl := fun w h => (goodIn_p wsL_law0_r9 [869, 502, 873, 509] (by decide +kernel) (by decide +kernel) w h).1
set_option maxRecDepth 20000 in
theorem wsL_in_r10 : ∀ w ∈ wsL_law0_r10, w ∈ lw_tbl := fun w h => (goodIn_p wsL_law0_r10 [512, 877, 519, 523, 386] (by decide +kernel) (by decide +kernel) w h).1
set_option maxRecDepth 20000 in
theorem wsL_in_r11 : ∀ w ∈ wsL_law0_r11, w ∈ lw_tbl := fun w h => (goodIn_p wsL_law0_r11 [528, 532, 536, 540, 544, 547] (by decide +kernel) (by decide +kernel) w h).1
set_option maxRecDepth 20000 in
theorem wsL_in_r12 : ∀ w ∈ wsL_law0_r12, w ∈ lw_tbl := fun w h => (goodIn_p wsL_law0_r12 [551, 882, 885, 889, 893, 897] (by decide +kernel) (by decide +kernel) w h).1
set_option maxRecDepth 20000 in
theorem wsL_in_r13 : ∀ w ∈ wsL_law0_r13, w ∈ lw_tbl := fun w h => (goodIn_p wsL_law0_r13 [558, 562, 567, 571, 403] (by decide +kernel) (by decide +kernel) w h).1
set_option maxRecDepth 20000 in
theorem wsL_in_r14 : ∀ w ∈ wsL_law0_r14, w ∈ lw_tbl := fun w h => (goodIn_p wsL_law0_r14 [406, 577, 581, 586, 589] (by decide +kernel) (by decide +kernel) w h).1
set_option maxRecDepth 20000 in
theorem wsL_in_r15 : ∀ w ∈ wsL_law0_r15, w ∈ lw_tbl := fun w h => (goodIn_p wsL_law0_r15 [593, 597, 601, 605, 370, 611] (by decide +kernel) (by decide +kernel) w h).1
set_option maxRecDepth 20000 in
theorem wsL_in_r16 : ∀ w ∈ wsL_law0_r16, w ∈ lw_tbl := fun w h => (goodIn_p wsL_law0_r16 [615, 619, 901, 905, 909] (by decide +kernel) (by decide +kernel) w h).1
set_option maxRecDepth 20000 in
theorem wsL_in_r17 : ∀ w ∈ wsL_law0_r17, w ∈ lw_tbl := fun w h => (goodIn_p wsL_law0_r17 [913, 917, 921, 925, 929, 933] (by decide +kernel) (by decide +kernel) w h).1
set_option maxRecDepth 20000 in
theorem wsL_in_r18 : ∀ w ∈ wsL_law0_r18, w ∈ lw_tbl := fun w h => (goodIn_p wsL_law0_r18 [937, 941, 945, 950, 628] (by decide +kernel) (by decide +kernel) w h).1
set_option maxRecDepth 20000 in
theorem wsL_in_r19 : ∀ w ∈ wsL_law0_r19, w ∈ lw_tbl := fun w h => (goodIn_p wsL_law0_r19 [954, 636, 640, 643, 958, 962] (by decide +kernel) (by decide +kernel) w h).1
set_option maxRecDepth 20000 in
theorem wsL_in_r20 : ∀ w ∈ wsL_law0_r20, w ∈ lw_tbl := fun w h => (goodIn_p wsL_law0_r20 [191, 966, 970, 341, 974] (by decide +kernel) (by decide +kernel) w h).1
set_option maxRecDepth 20000 in
theorem wsL_in_r21 : ∀ w ∈ wsL_law0_r21, w ∈ lw_tbl := fun w h => (goodIn_p wsL_law0_r21 [345, 359, 978, 366] (by decide +kernel) (by decide +kernel) w h).1
set_option maxRecDepth 20000 in
theorem wsL_in_r22 : ∀ w ∈ wsL_law0_r22, w ∈ lw_tbl := fun w h => (goodIn_p wsL_law0_r22 [982, 374, 378, 986, 258] (by decide +kernel) (by decide +kernel) w h).1
set_option maxRecDepth 20000 in
theorem wsL_in_r23 : ∀ w ∈ wsL_law0_r23, w ∈ lw_tbl := fun w h => (goodIn_p wsL_law0_r23 [990, 670, 994, 195, 998] (by decide +kernel) (by decide +kernel) w h).1
set_option maxRecDepth 20000 in
theorem wsL_in_r24 : ∀ w ∈ wsL_law0_r24, w ∈ lw_tbl := fun w h => (goodIn_p wsL_law0_r24 [199, 1002, 203, 1006, 207, 1010] (by decide +kernel) (by decide +kernel) w h).1
set_option maxRecDepth 20000 in
theorem wsL_in_r25 : ∀ w ∈ wsL_law0_r25, w ∈ lw_tbl := fun w h => (goodIn_p wsL_law0_r25 [382, 390, 1014, 399] (by decide +kernel) (by decide +kernel) w h).1
set_option maxRecDepth 20000 in
theorem wsL_in_r26 : ∀ w ∈ wsL_law0_r26, w ∈ lw_tbl := fun w h => (goodIn_p wsL_law0_r26 [1018, 410, 414, 1022, 1026] (by decide +kernel) (by decide +kernel) w h).1
set_option maxRecDepth 20000 in
theorem wsL_in_r27 : ∀ w ∈ wsL_law0_r27, w ∈ lw_tbl := fun w h => (goodIn_p wsL_law0_r27 [689, 693, 1030, 1034, 211] (by decide +kernel) (by decide +kernel) w h).1
set_option maxRecDepth 20000 in
theorem wsL_in_r28 : ∀ w ∈ wsL_law0_r28, w ∈ lw_tbl := fun w h => (goodIn_p wsL_law0_r28 [1038, 215, 1042, 219, 1046, 223] (by decide +kernel) (by decide +kernel) w h).1
set_option maxRecDepth 20000 in
theorem wsL_in_r29 : ∀ w ∈ wsL_law0_r29, w ∈ lw_tbl := fun w h => (goodIn_p wsL_law0_r29 [1050, 227, 1054, 702, 706] (by decide +kernel) (by decide +kernel) w h).1
set_option maxRecDepth 20000 in
theorem wsL_in_r30 : ∀ w ∈ wsL_law0_r30, w ∈ lw_tbl := fun w h => (goodIn_p wsL_law0_r30 [710, 714, 1058, 1062, 1066] (by decide +kernel) (by decide +kernel) w h).1
set_option maxRecDepth 20000 in
theorem wsL_in_r31 : ∀ w ∈ wsL_law0_r31, w ∈ lw_tbl := fun w h => (goodIn_p wsL_law0_r31 [724, 1071, 1075, 231] (by decide +kernel) (by decide +kernel) w h).1
set_option maxRecDepth 20000 in
theorem wsL_in_r32 : ∀ w ∈ wsL_law0_r32, w ∈ lw_tbl := fun w h => (goodIn_p wsL_law0_r32 [1079, 235, 240] (by decide +kernel) (by decide +kernel) w h).1
set_option maxRecDepth 20000 in
theorem wsL_in_r33 : ∀ w ∈ wsL_law0_r33, w ∈ lw_tbl := fun w h => (goodIn_p wsL_law0_r33 [254, 337, 395, 1083] (by decide +kernel) (by decide +kernel) w h).1
set_option maxRecDepth 20000 in
theorem wsL_in_r34 : ∀ w ∈ wsL_law0_r34, w ∈ lw_tbl := fun w h => (goodIn_p wsL_law0_r34 [1088] (by decide +kernel) (by decide +kernel) w h).1
set_option maxRecDepth 20000 in
theorem wsL_in_x3 : ∀ w ∈ wsX30, w ∈ lw_tbl := by decide +kernel
set_option maxRecDepth 20000 in
theorem wsL_in_x5 : ∀ w ∈ wsX50, w ∈ lw_tbl := by decide +kernel
set_option maxRecDepth 20000 in
theorem wsL_in_x1 : ∀ w ∈ wsX10, w ∈ lw_tbl := by decide +kernel
set_option maxRecDepth 20000 in
theorem wsL_in_x0 : ∀ w ∈ wsX00, w ∈ lw_tbl := by decide +kernel
set_option maxRecDepth 20000 in
theorem wsL_in_x2 : ∀ w ∈ wsX20, w ∈ lw_tbl := by decide +kernel
set_option maxRecDepth 20000 in
theorem wsL_in_x4 : ∀ w ∈ wsX40, w ∈ lw_tbl := by decide +kernel
set_option maxRecDepth 20000 in
theorem wsL_law_in0 : ∀ w ∈ wsL_law0, w ∈ lw_tbl := fun w => (fun h => (List.mem_append.mp h).elim (fun h => (List.mem_append.mp h).elim (fun h => (List.mem_append.mp h).elim (fun h => (List.mem_append.mp h).elim (fun h => (List.mem_append.mp h).elim (fun h => (List.mem_append.mp h).elim (fun h => (List.mem_append.mp h).elim (fun h => (List.mem_append.mp h).elim (fun h => wsL_in_r1 w h) (fun h => (List.mem_append.mp h).elim (fun h => wsL_in_r2 w h) (fun h => (List.mem_append.mp h).elim (fun h => wsL_in_r3 w h) (fun h => (List.mem_append.mp h).elim (fun h => wsL_in_r4 w h) (fun h => (List.mem_append.mp h).elim (fun h => wsL_in_r5 w h) (fun h => (List.mem_append.mp h).elim (fun h => wsL_in_r6 w h) (fun h => (List.mem_append.mp h).elim (fun h => wsL_in_r7 w h) (fun h => (List.mem_append.mp h).elim (fun h => wsL_in_r8 w h) (fun h => (List.mem_append.mp h).elim (fun h => wsL_in_r9 w h) (fun h => (List.mem_append.mp h).elim (fun h => wsL_in_r10 w h) (fun h => (List.mem_append.mp h).elim (fun h => wsL_in_r11 w h) (fun h => (List.mem_append.mp h).elim (fun h => wsL_in_r12 w h) (fun h => (List.mem_append.mp h).elim (fun h => wsL_in_r13 w h) (fun h => (List.mem_append.mp h).elim (fun h => wsL_in_r14 w h) (fun h => (List.mem_append.mp h).elim (fun h => wsL_in_r15 w h) (fun h => (List.mem_append.mp h).elim (fun h => wsL_in_r16 w h) (fun h => (List.mem_append.mp h).elim (fun h => wsL_in_r17 w h) (fun h => (List.mem_append.mp h).elim (fun h => wsL_in_r18 w h) (fun h => (List.mem_append.mp h).elim (fun h => wsL_in_r19 w h) (fun h => (List.mem_append.mp h).elim (fun h => wsL_in_r20 w h) (fun h => (List.mem_append.mp h).elim (fun h => wsL_in_r21 w h) (fun h => (List.mem_append.mp h).elim (fun h => wsL_in_r22 w h) (fun h => (List.mem_append.mp h).elim (fun h => wsL_in_r23 w h) (fun h => (List.mem_append.mp h).elim (fun h => wsL_in_r24 w h) (fun h => (List.mem_append.mp h).elim (fun h => wsL_in_r25 w h) (fun h => (List.mem_append.mp h).elim (fun h => wsL_in_r26 w h) (fun h => (List.mem_append.mp h).elim (fun h => wsL_in_r27 w h) (fun h => (List.mem_append.mp h).elim (fun h => wsL_in_r28 w h) (fun h => (List.mem_append.mp h).elim (fun h => wsL_in_r29 w h) (fun h => (List.mem_append.mp h).elim (fun h => wsL_in_r30 w h) (fun h => (List.mem_append.mp h).elim (fun h => wsL_in_r31 w h) (fun h => (List.mem_append.mp h).elim (fun h => wsL_in_r32 w h) (fun h => (List.mem_append.mp h).elim (fun h => wsL_in_r33 w h) (fun h => wsL_in_r34 w h)))))))))))))))))))))))))))))))))) (fun h => wsL_in_x3 w h)) (fun h => wsL_in_x5 w h)) (fun h => wsL_in_x1 w h)) (fun h => wsL_in_x0 w h)) (fun h => wsL_in_x2 w h)) (fun h => wsL_in_x4 w h)) (fun h => nomatch h))
theorem wsL_law_x0 : ∀ w ∈ (vx_atS RX3 36 "java/lang/IllegalStateException" ["java/lang/RuntimeException", "java/lang/Exception"]).filter goodWord, w ∈ lw_tbl := by decide +kernel
theorem wsL_law_x1 : ∀ w ∈ (vx_atS RX3 47 "java/lang/IllegalArgumentException" ["java/lang/RuntimeException", "java/lang/Exception"]).filter goodWord, w ∈ lw_tbl := by decide +kernel
theorem wsL_law_x2 : ∀ w ∈ (vx_atS RX3 212 "java/lang/IndexOutOfBoundsException" ["java/lang/RuntimeException", "java/lang/Exception"]).filter goodWord, w ∈ lw_tbl := by decide +kernel
theorem wsL_law_in : ∀ w ∈ wsL_law, w ∈ lw_tbl := fun w h => (List.mem_append.mp h).elim (fun h => (List.mem_append.mp h).elim (fun h => (List.mem_append.mp h).elim (fun h => wsL_law_in0 w h) (fun h => wsL_law_x0 w h)) (fun h => wsL_law_x1 w h)) (fun h => wsL_law_x2 w h)
theorem inlX0 : ∀ w ∈ wsX00, w ∈ wsL_law := fun _ h => List.mem_append_left _ (List.mem_append_left _ (List.mem_append_left _ (List.mem_append_left _ (List.mem_append_left _ (List.mem_append_left _ (List.mem_append_right _ h))))))
theorem inX0 : ∀ w ∈ wsX00, w ∈ lw_tbl := fun w h => wsL_law_in w (inlX0 w h)
theorem inlX1 : ∀ w ∈ wsX10, w ∈ wsL_law := fun _ h => List.mem_append_left _ (List.mem_append_left _ (List.mem_append_left _ (List.mem_append_left _ (List.mem_append_left _ (List.mem_append_left _ (List.mem_append_left _ (List.mem_append_right _ h)))))))
theorem inX1 : ∀ w ∈ wsX10, w ∈ lw_tbl := fun w h => wsL_law_in w (inlX1 w h)
theorem inlX2 : ∀ w ∈ wsX20, w ∈ wsL_law := fun _ h => List.mem_append_left _ (List.mem_append_left _ (List.mem_append_left _ (List.mem_append_left _ (List.mem_append_left _ (List.mem_append_right _ h)))))
theorem inX2 : ∀ w ∈ wsX20, w ∈ lw_tbl := fun w h => wsL_law_in w (inlX2 w h)
theorem inlX3 : ∀ w ∈ wsX30, w ∈ wsL_law := fun _ h => List.mem_append_left _ (List.mem_append_left _ (List.mem_append_left _ (List.mem_append_left _ (List.mem_append_left _ (List.mem_append_left _ (List.mem_append_left _ (List.mem_append_left _ (List.mem_append_left _ (List.mem_append_right _ h)))))))))
theorem inX3 : ∀ w ∈ wsX30, w ∈ lw_tbl := fun w h => wsL_law_in w (inlX3 w h)
theorem inlX4 : ∀ w ∈ wsX40, w ∈ wsL_law := fun _ h => List.mem_append_left _ (List.mem_append_left _ (List.mem_append_left _ (List.mem_append_left _ (List.mem_append_right _ h))))
theorem inX4 : ∀ w ∈ wsX40, w ∈ lw_tbl := fun w h => wsL_law_in w (inlX4 w h)
theorem inlX5 : ∀ w ∈ wsX50, w ∈ wsL_law := fun _ h => List.mem_append_left _ (List.mem_append_left _ (List.mem_append_left _ (List.mem_append_left _ (List.mem_append_left _ (List.mem_append_left _ (List.mem_append_left _ (List.mem_append_left _ (List.mem_append_right _ h))))))))
theorem inX5 : ∀ w ∈ wsX50, w ∈ lw_tbl := fun w h => wsL_law_in w (inlX5 w h)
theorem inJx145de : ∀ w ∈ wsJx145de0, w ∈ lw_tbl := by decide +kernel
theorem inJ9 : ∀ w ∈ wsJ90, w ∈ lw_tbl := by decide +kernel
theorem inJ0 : ∀ w ∈ wsJ00, w ∈ lw_tbl := by decide +kernel
theorem inJ10 : ∀ w ∈ wsJ100, w ∈ lw_tbl := by decide +kernel
theorem inJ7 : ∀ w ∈ wsJ70, w ∈ lw_tbl := by decide +kernel
abbrev vwCl : List vw_C := [(RX0, TX0, 15), (RX1, TX1, 8), (RX2, TX2, 2), (RX3, TX3, 3), (RX4, TX4, 14), (RX5, TX5, 12)]
end
section
set_option maxRecDepth 20000 in
theorem ggX0_init_X2_init : GoodIn wsX0_init wsX2_init := goodIn_r _ [17, 18, 2, 3, 9, 19, 20, 21, 22] (by decide +kernel) (by decide +kernel)
set_option maxRecDepth 20000 in
theorem gX0_init_X2_init_n11 : GoodIn wsX0_init (wsX2_init) := ggX0_init_X2_init
theorem dX0_init_0 : decode cX0_init 0 = .ok (.aload_n 0, 1) := by decide +kernel
theorem dX0_init_1 : decode cX0_init 1 = .ok (.invokespecial 3, 3) := by decide +kernel
theorem dX0_init_4 : decode cX0_init 4 = .ok (.aload_n 0, 1) := by decide +kernel
theorem dX0_init_5 : decode cX0_init 5 = .ok (.new 9, 3) := by decide +kernel
theorem dX0_init_8 : decode cX0_init 8 = .ok (.dup, 1) := by decide +kernel
theorem dX0_init_9 : decode cX0_init 9 = .ok (.invokespecial 11, 3) := by decide +kernel
theorem dX0_init_12 : decode cX0_init 12 = .ok (.putfield 12, 3) := by decide +kernel
theorem dX0_init_15 : decode cX0_init 15 = .ok (.aload_n 0, 1) := by decide +kernel
theorem dX0_init_16 : decode cX0_init 16 = .ok (.iconst (-1), 1) := by decide +kernel
theorem dX0_init_17 : decode cX0_init 17 = .ok (.putfield 18, 3) := by decide +kernel
theorem dX0_init_20 : decode cX0_init 20 = .ok (.aload_n 0, 1) := by decide +kernel
theorem dX0_init_21 : decode cX0_init 21 = .ok (.bipush 20, 2) := by decide +kernel
theorem dX0_init_23 : decode cX0_init 23 = .ok (.newarray .int, 2) := by decide +kernel
theorem dX0_init_25 : decode cX0_init 25 = .ok (.putfield 22, 3) := by decide +kernel
theorem dX0_init_28 : decode cX0_init 28 = .ok (.aload_n 0, 1) := by decide +kernel
theorem dX0_init_29 : decode cX0_init 29 = .ok (.bipush 40, 2) := by decide +kernel
theorem dX0_init_31 : decode cX0_init 31 = .ok (.newarray .boolean, 2) := by decide +kernel
theorem dX0_init_33 : decode cX0_init 33 = .ok (.putfield 26, 3) := by decide +kernel
theorem dX0_init_36 : decode cX0_init 36 = .ok (.aload_n 0, 1) := by decide +kernel
theorem dX0_init_37 : decode cX0_init 37 = .ok (.bipush 10, 2) := by decide +kernel
theorem dX0_init_39 : decode cX0_init 39 = .ok (.newarray .boolean, 2) := by decide +kernel
theorem dX0_init_41 : decode cX0_init 41 = .ok (.putfield 30, 3) := by decide +kernel
theorem dX0_init_44 : decode cX0_init 44 = .ok (.aload_n 0, 1) := by decide +kernel
theorem dX0_init_45 : decode cX0_init 45 = .ok (.iconst (-1), 1) := by decide +kernel
theorem dX0_init_46 : decode cX0_init 46 = .ok (.putfield 33, 3) := by decide +kernel
theorem dX0_init_49 : decode cX0_init 49 = .ok (.aload_n 0, 1) := by decide +kernel
theorem dX0_init_50 : decode cX0_init 50 = .ok (.aload_n 1, 1) := by decide +kernel
theorem dX0_init_51 : decode cX0_init 51 = .ok (.putfield 36, 3) := by decide +kernel
theorem dX0_init_54 : decode cX0_init 54 = .ok (.return_, 1) := by decide +kernel
set_option maxRecDepth 20000 in
theorem ggX0_startLike_X2_copyFrom : GoodIn wsX0_startLike wsX2_copyFrom := goodIn_r _ [11, 12, 13, 14, 15, 16, 17, 33, 34] (by decide +kernel) (by decide +kernel)
set_option maxRecDepth 20000 in
theorem gX0_startLike_X2_copyFrom : GoodIn wsX0_startLike (wsV RX0 46 RX2 yX2_copyFrom wsX2_copyFrom) := goodIn_app (goodIn_of _ (by decide +kernel)) ggX0_startLike_X2_copyFrom
theorem dX0_startLike_0 : decode cX0_startLike 0 = .ok (.aload_n 0, 1) := by decide +kernel
theorem dX0_startLike_1 : decode cX0_startLike 1 = .ok (.aload_n 1, 1) := by decide +kernel
theorem dX0_startLike_2 : decode cX0_startLike 2 = .ok (.getfield 40, 3) := by decide +kernel
theorem dX0_startLike_5 : decode cX0_startLike 5 = .ok (.putfield 40, 3) := by decide +kernel
theorem dX0_startLike_8 : decode cX0_startLike 8 = .ok (.aload_n 0, 1) := by decide +kernel
theorem dX0_startLike_9 : decode cX0_startLike 9 = .ok (.aload_n 1, 1) := by decide +kernel
theorem dX0_startLike_10 : decode cX0_startLike 10 = .ok (.getfield 43, 3) := by decide +kernel
theorem dX0_startLike_13 : decode cX0_startLike 13 = .ok (.putfield 43, 3) := by decide +kernel
theorem dX0_startLike_16 : decode cX0_startLike 16 = .ok (.aload_n 0, 1) := by decide +kernel
theorem dX0_startLike_17 : decode cX0_startLike 17 = .ok (.getfield 12, 3) := by decide +kernel
theorem dX0_startLike_20 : decode cX0_startLike 20 = .ok (.aload_n 1, 1) := by decide +kernel
theorem dX0_startLike_21 : decode cX0_startLike 21 = .ok (.getfield 12, 3) := by decide +kernel
theorem dX0_startLike_24 : decode cX0_startLike 24 = .ok (.invokevirtual 46, 3) := by decide +kernel
theorem dX0_startLike_27 : decode cX0_startLike 27 = .ok (.aload_n 0, 1) := by decide +kernel
theorem dX0_startLike_28 : decode cX0_startLike 28 = .ok (.iload_n 2, 1) := by decide +kernel
theorem dX0_startLike_29 : decode cX0_startLike 29 = .ok (.putfield 33, 3) := by decide +kernel
theorem dX0_startLike_32 : decode cX0_startLike 32 = .ok (.aload_n 0, 1) := by decide +kernel
theorem dX0_startLike_33 : decode cX0_startLike 33 = .ok (.iconst 0, 1) := by decide +kernel
theorem dX0_startLike_34 : decode cX0_startLike 34 = .ok (.putfield 50, 3) := by decide +kernel
theorem dX0_startLike_37 : decode cX0_startLike 37 = .ok (.aload_n 0, 1) := by decide +kernel
theorem dX0_startLike_38 : decode cX0_startLike 38 = .ok (.iconst 0, 1) := by decide +kernel
theorem dX0_startLike_39 : decode cX0_startLike 39 = .ok (.putfield 53, 3) := by decide +kernel
theorem dX0_startLike_42 : decode cX0_startLike 42 = .ok (.return_, 1) := by decide +kernel
theorem dX0_isUnderway_0 : decode cX0_isUnderway 0 = .ok (.aload_n 0, 1) := by decide +kernel
theorem dX0_isUnderway_1 : decode cX0_isUnderway 1 = .ok (.getfield 18, 3) := by decide +kernel
theorem dX0_isUnderway_4 : decode cX0_isUnderway 4 = .ok (.iconst (-1), 1) := by decide +kernel
theorem dX0_isUnderway_5 : decode cX0_isUnderway 5 = .ok (.if_icmp .eq 7, 3) := by decide +kernel
theorem dX0_isUnderway_8 : decode cX0_isUnderway 8 = .ok (.iconst 1, 1) := by decide +kernel
theorem dX0_isUnderway_9 : decode cX0_isUnderway 9 = .ok (.goto 4, 3) := by decide +kernel
theorem dX0_isUnderway_12 : decode cX0_isUnderway 12 = .ok (.iconst 0, 1) := by decide +kernel
theorem dX0_isUnderway_13 : decode cX0_isUnderway 13 = .ok (.ireturn, 1) := by decide +kernel
set_option maxRecDepth 20000 in
theorem ggX0_hasTried_X3_isEnd : GoodIn wsX0_hasTried wsX3_isEnd := goodIn_r _ [4] (by decide +kernel) (by decide +kernel)
set_option maxRecDepth 20000 in
theorem gX0_hasTried_X3_isEnd_n56 : GoodIn wsX0_hasTried (wsX3_isEnd) := ggX0_hasTried_X3_isEnd
theorem dX0_hasTried_0 : decode cX0_hasTried 0 = .ok (.iload_n 1, 1) := by decide +kernel
theorem dX0_hasTried_1 : decode cX0_hasTried 1 = .ok (.invokestatic 56, 3) := by decide +kernel
theorem dX0_hasTried_4 : decode cX0_hasTried 4 = .ok (.ifCond .eq 16, 3) := by decide +kernel
theorem dX0_hasTried_7 : decode cX0_hasTried 7 = .ok (.aload_n 0, 1) := by decide +kernel
theorem dX0_hasTried_8 : decode cX0_hasTried 8 = .ok (.getfield 26, 3) := by decide +kernel
theorem dX0_hasTried_11 : decode cX0_hasTried 11 = .ok (.iload_n 1, 1) := by decide +kernel
theorem dX0_hasTried_12 : decode cX0_hasTried 12 = .ok (.baload, 1) := by decide +kernel
theorem dX0_hasTried_13 : decode cX0_hasTried 13 = .ok (.ifCond .eq 7, 3) := by decide +kernel
theorem dX0_hasTried_16 : decode cX0_hasTried 16 = .ok (.iconst 1, 1) := by decide +kernel
theorem dX0_hasTried_17 : decode cX0_hasTried 17 = .ok (.goto 4, 3) := by decide +kernel
theorem dX0_hasTried_20 : decode cX0_hasTried 20 = .ok (.iconst 0, 1) := by decide +kernel
theorem dX0_hasTried_21 : decode cX0_hasTried 21 = .ok (.ireturn, 1) := by decide +kernel
set_option maxRecDepth 20000 in
theorem ggX0_begin_X0_forget : GoodIn wsX0_begin wsX0_forget := goodIn_r _ [10] (by decide +kernel) (by decide +kernel)
set_option maxRecDepth 20000 in
theorem gX0_begin_X0_forget : GoodIn wsX0_begin (va_wsS RX0 60 yX0_forget wsX0_forget) := goodIn_app (goodIn_of _ (by decide +kernel)) ggX0_begin_X0_forget
set_option maxRecDepth 20000 in
theorem ggX0_begin_X0_endErrand : GoodIn wsX0_begin wsX0_endErrand := goodIn_r _ [14, 4, 3, 15, 16, 17, 18, 19, 20, 21, 22, 23, 24, 25, 26, 27, 28, 29] (by decide +kernel) (by decide +kernel)
set_option maxRecDepth 20000 in
theorem gX0_begin_X0_endErrand : GoodIn wsX0_begin (wsV RX0 70 RX0 yX0_endErrand wsX0_endErrand) := goodIn_app (goodIn_of _ (by decide +kernel)) ggX0_begin_X0_endErrand
theorem dX0_begin_0 : decode cX0_begin 0 = .ok (.aload_n 0, 1) := by decide +kernel
theorem dX0_begin_1 : decode cX0_begin 1 = .ok (.getfield 26, 3) := by decide +kernel
theorem dX0_begin_4 : decode cX0_begin 4 = .ok (.invokestatic 60, 3) := by decide +kernel
theorem dX0_begin_7 : decode cX0_begin 7 = .ok (.aload_n 0, 1) := by decide +kernel
theorem dX0_begin_8 : decode cX0_begin 8 = .ok (.getfield 30, 3) := by decide +kernel
theorem dX0_begin_11 : decode cX0_begin 11 = .ok (.invokestatic 60, 3) := by decide +kernel
theorem dX0_begin_14 : decode cX0_begin 14 = .ok (.aload_n 0, 1) := by decide +kernel
theorem dX0_begin_15 : decode cX0_begin 15 = .ok (.iconst 0, 1) := by decide +kernel
theorem dX0_begin_16 : decode cX0_begin 16 = .ok (.putfield 64, 3) := by decide +kernel
theorem dX0_begin_19 : decode cX0_begin 19 = .ok (.aload_n 0, 1) := by decide +kernel
theorem dX0_begin_20 : decode cX0_begin 20 = .ok (.iload_n 1, 1) := by decide +kernel
theorem dX0_begin_21 : decode cX0_begin 21 = .ok (.putfield 18, 3) := by decide +kernel
theorem dX0_begin_24 : decode cX0_begin 24 = .ok (.aload_n 0, 1) := by decide +kernel
theorem dX0_begin_25 : decode cX0_begin 25 = .ok (.getfield 40, 3) := by decide +kernel
theorem dX0_begin_28 : decode cX0_begin 28 = .ok (.aload_n 0, 1) := by decide +kernel
theorem dX0_begin_29 : decode cX0_begin 29 = .ok (.getfield 18, 3) := by decide +kernel
theorem dX0_begin_32 : decode cX0_begin 32 = .ok (.if_icmp .ne 17, 3) := by decide +kernel
theorem dX0_begin_35 : decode cX0_begin 35 = .ok (.aload_n 0, 1) := by decide +kernel
theorem dX0_begin_36 : decode cX0_begin 36 = .ok (.dup, 1) := by decide +kernel
theorem dX0_begin_37 : decode cX0_begin 37 = .ok (.getfield 67, 3) := by decide +kernel
theorem dX0_begin_40 : decode cX0_begin 40 = .ok (.iconst 1, 1) := by decide +kernel
theorem dX0_begin_41 : decode cX0_begin 41 = .ok (.iadd, 1) := by decide +kernel
theorem dX0_begin_42 : decode cX0_begin 42 = .ok (.putfield 67, 3) := by decide +kernel
theorem dX0_begin_45 : decode cX0_begin 45 = .ok (.aload_n 0, 1) := by decide +kernel
theorem dX0_begin_46 : decode cX0_begin 46 = .ok (.invokevirtual 70, 3) := by decide +kernel
theorem dX0_begin_49 : decode cX0_begin 49 = .ok (.return_, 1) := by decide +kernel
theorem dX0_endErrand_0 : decode cX0_endErrand 0 = .ok (.aload_n 0, 1) := by decide +kernel
theorem dX0_endErrand_1 : decode cX0_endErrand 1 = .ok (.iconst (-1), 1) := by decide +kernel
theorem dX0_endErrand_2 : decode cX0_endErrand 2 = .ok (.putfield 18, 3) := by decide +kernel
theorem dX0_endErrand_5 : decode cX0_endErrand 5 = .ok (.aload_n 0, 1) := by decide +kernel
theorem dX0_endErrand_6 : decode cX0_endErrand 6 = .ok (.iconst 0, 1) := by decide +kernel
theorem dX0_endErrand_7 : decode cX0_endErrand 7 = .ok (.putfield 64, 3) := by decide +kernel
theorem dX0_endErrand_10 : decode cX0_endErrand 10 = .ok (.return_, 1) := by decide +kernel
set_option maxRecDepth 20000 in
theorem ggX0_step_X0_rememberedEnd : GoodIn wsX0_step wsX0_rememberedEnd := goodIn_r _ [10, 11, 3, 12, 4, 13, 14, 15, 16, 17, 18, 19, 20, 21, 22, 23, 24, 25, 26, 27, 28, 29, 30, 31, 32, 33, 34, 35, 36, 9, 37, 38, 39, 40, 41, 121, 122, 123, 124, 125, 126, 127, 128, 129, 130, 131, 132, 133, 134, 135, 136, 137, 138, 139, 140, 141, 142, 143, 144, 145] (by decide +kernel) (by decide +kernel)
set_option maxRecDepth 20000 in
theorem gX0_step_X0_rememberedEnd : GoodIn wsX0_step (wsV RX0 73 RX0 yX0_rememberedEnd wsX0_rememberedEnd) := goodIn_app (goodIn_of _ (by decide +kernel)) ggX0_step_X0_rememberedEnd
set_option maxRecDepth 20000 in
theorem ggX0_step_X0_askedEnd : GoodIn wsX0_step wsX0_askedEnd := goodIn_r _ [45, 11, 3, 46, 47, 48, 49, 4, 12, 50, 30, 31, 26, 32, 33, 51, 52, 53, 54, 55, 56, 28, 57, 58, 59, 60, 61, 62, 63, 64, 29, 65, 66, 67, 68, 69, 70, 71, 72, 40, 73, 74, 75, 76, 77, 78, 16, 79, 19, 18, 20, 21, 22, 34, 35, 36, 9, 37, 38, 39, 41, 121, 122, 123, 124, 125, 126, 127, 128, 129, 130, 131, 132, 133, 134, 135, 138, 139, 140, 141, 142, 143, 144, 145, 136, 137] (by decide +kernel) (by decide +kernel)
set_option maxRecDepth 20000 in
theorem gX0_step_X0_askedEnd : GoodIn wsX0_step (wsV RX0 77 RX0 yX0_askedEnd wsX0_askedEnd) := goodIn_app (goodIn_of _ (by decide +kernel)) ggX0_step_X0_askedEnd
set_option maxRecDepth 20000 in
theorem ggX0_step_X0_firstUntried : GoodIn wsX0_step wsX0_firstUntried := goodIn_r _ [83, 3, 34, 35, 36, 9, 37, 11, 38, 39, 40, 41, 121, 122, 123, 124, 125, 126, 127, 128, 129, 130, 131, 132, 133, 134, 135, 138, 139, 140, 141, 142, 143, 144, 145] (by decide +kernel) (by decide +kernel)
set_option maxRecDepth 20000 in
theorem gX0_step_X0_firstUntried : GoodIn wsX0_step (wsV RX0 80 RX0 yX0_firstUntried wsX0_firstUntried) := goodIn_app (goodIn_of _ (by decide +kernel)) ggX0_step_X0_firstUntried
set_option maxRecDepth 20000 in
theorem ggX0_step_X0_take : GoodIn wsX0_step wsX0_take := goodIn_r _ [87, 11, 1, 38, 88, 89, 3, 90, 91, 92, 26, 93, 94, 39, 40, 41, 95, 96, 97, 98, 70, 72, 73, 121, 122, 123, 124, 125, 126, 127, 128, 129, 130, 131, 132, 133, 134, 135, 138, 139, 140, 141, 142, 143, 144, 145] (by decide +kernel) (by decide +kernel)
set_option maxRecDepth 20000 in
theorem gX0_step_X0_take : GoodIn wsX0_step (wsV RX0 83 RX0 yX0_take wsX0_take) := goodIn_app (goodIn_of _ (by decide +kernel)) ggX0_step_X0_take
set_option maxRecDepth 20000 in
theorem ggX0_step_X0_doubleBack : GoodIn wsX0_step wsX0_doubleBack := goodIn_r _ [102, 1, 88, 11, 89, 103, 3, 95, 96, 97, 26, 98, 70, 39, 40, 41, 72, 73, 121, 122, 123, 124, 125, 126, 127, 128, 129, 130, 131, 132, 133, 134, 135, 138, 139, 140, 141, 142, 143, 144, 145] (by decide +kernel) (by decide +kernel)
set_option maxRecDepth 20000 in
theorem gX0_step_X0_doubleBack : GoodIn wsX0_step (wsV RX0 87 RX0 yX0_doubleBack wsX0_doubleBack) := goodIn_app (goodIn_of _ (by decide +kernel)) ggX0_step_X0_doubleBack
set_option maxRecDepth 20000 in
theorem ggX0_step_X0_endErrand : GoodIn wsX0_step wsX0_endErrand := goodIn_r _ [107, 4, 1, 121, 122, 123, 124, 125, 126, 127, 128, 129, 130, 131, 132, 133, 134, 135] (by decide +kernel) (by decide +kernel)
set_option maxRecDepth 20000 in
theorem gX0_step_X0_endErrand : GoodIn wsX0_step (wsV RX0 70 RX0 yX0_endErrand wsX0_endErrand) := goodIn_app (goodIn_of _ (by decide +kernel)) ggX0_step_X0_endErrand
set_option maxRecDepth 20000 in
theorem ggX0_step_X0_rememberWay : GoodIn wsX0_step wsX0_rememberWay := goodIn_r _ [111, 1, 12, 4, 88, 72, 40, 73, 74, 75, 112, 113, 114, 16, 115, 18, 19, 116, 117, 118, 119, 20, 21, 22, 120, 77, 78, 79, 121, 122, 123, 124, 125, 126, 127, 128, 129, 130, 131, 132, 133, 134, 135, 136, 137] (by decide +kernel) (by decide +kernel)
set_option maxRecDepth 20000 in
theorem gX0_step_X0_rememberWay : GoodIn wsX0_step (wsV RX0 90 RX0 yX0_rememberWay wsX0_rememberWay) := goodIn_app (goodIn_of _ (by decide +kernel)) ggX0_step_X0_rememberWay
theorem dX0_step_0 : decode cX0_step 0 = .ok (.aload_n 0, 1) := by decide +kernel
theorem dX0_step_1 : decode cX0_step 1 = .ok (.invokevirtual 73, 3) := by decide +kernel
theorem dX0_step_4 : decode cX0_step 4 = .ok (.istore_n 1, 1) := by decide +kernel
theorem dX0_step_5 : decode cX0_step 5 = .ok (.iload_n 1, 1) := by decide +kernel
theorem dX0_step_6 : decode cX0_step 6 = .ok (.iconst (-1), 1) := by decide +kernel
theorem dX0_step_7 : decode cX0_step 7 = .ok (.if_icmp .ne 8, 3) := by decide +kernel
theorem dX0_step_10 : decode cX0_step 10 = .ok (.aload_n 0, 1) := by decide +kernel
theorem dX0_step_11 : decode cX0_step 11 = .ok (.invokevirtual 77, 3) := by decide +kernel
theorem dX0_step_14 : decode cX0_step 14 = .ok (.istore_n 1, 1) := by decide +kernel
theorem dX0_step_15 : decode cX0_step 15 = .ok (.iload_n 1, 1) := by decide +kernel
theorem dX0_step_16 : decode cX0_step 16 = .ok (.iconst (-1), 1) := by decide +kernel
theorem dX0_step_17 : decode cX0_step 17 = .ok (.if_icmp .ne 8, 3) := by decide +kernel
theorem dX0_step_20 : decode cX0_step 20 = .ok (.aload_n 0, 1) := by decide +kernel
theorem dX0_step_21 : decode cX0_step 21 = .ok (.invokevirtual 80, 3) := by decide +kernel
theorem dX0_step_24 : decode cX0_step 24 = .ok (.istore_n 1, 1) := by decide +kernel
theorem dX0_step_25 : decode cX0_step 25 = .ok (.iload_n 1, 1) := by decide +kernel
theorem dX0_step_26 : decode cX0_step 26 = .ok (.iconst (-1), 1) := by decide +kernel
theorem dX0_step_27 : decode cX0_step 27 = .ok (.if_icmp .eq 11, 3) := by decide +kernel
theorem dX0_step_30 : decode cX0_step 30 = .ok (.aload_n 0, 1) := by decide +kernel
theorem dX0_step_31 : decode cX0_step 31 = .ok (.iload_n 1, 1) := by decide +kernel
theorem dX0_step_32 : decode cX0_step 32 = .ok (.invokevirtual 83, 3) := by decide +kernel
theorem dX0_step_35 : decode cX0_step 35 = .ok (.goto 33, 3) := by decide +kernel
theorem dX0_step_38 : decode cX0_step 38 = .ok (.aload_n 0, 1) := by decide +kernel
theorem dX0_step_39 : decode cX0_step 39 = .ok (.getfield 64, 3) := by decide +kernel
theorem dX0_step_42 : decode cX0_step 42 = .ok (.ifCond .le 10, 3) := by decide +kernel
theorem dX0_step_45 : decode cX0_step 45 = .ok (.aload_n 0, 1) := by decide +kernel
theorem dX0_step_46 : decode cX0_step 46 = .ok (.invokevirtual 87, 3) := by decide +kernel
theorem dX0_step_49 : decode cX0_step 49 = .ok (.goto 19, 3) := by decide +kernel
theorem dX0_step_52 : decode cX0_step 52 = .ok (.aload_n 0, 1) := by decide +kernel
theorem dX0_step_53 : decode cX0_step 53 = .ok (.dup, 1) := by decide +kernel
theorem dX0_step_54 : decode cX0_step 54 = .ok (.getfield 53, 3) := by decide +kernel
theorem dX0_step_57 : decode cX0_step 57 = .ok (.iconst 1, 1) := by decide +kernel
theorem dX0_step_58 : decode cX0_step 58 = .ok (.iadd, 1) := by decide +kernel
theorem dX0_step_59 : decode cX0_step 59 = .ok (.putfield 53, 3) := by decide +kernel
theorem dX0_step_62 : decode cX0_step 62 = .ok (.aload_n 0, 1) := by decide +kernel
theorem dX0_step_63 : decode cX0_step 63 = .ok (.invokevirtual 70, 3) := by decide +kernel
theorem dX0_step_66 : decode cX0_step 66 = .ok (.iconst 0, 1) := by decide +kernel
theorem dX0_step_67 : decode cX0_step 67 = .ok (.ireturn, 1) := by decide +kernel
theorem dX0_step_68 : decode cX0_step 68 = .ok (.aload_n 0, 1) := by decide +kernel
theorem dX0_step_69 : decode cX0_step 69 = .ok (.getfield 40, 3) := by decide +kernel
theorem dX0_step_72 : decode cX0_step 72 = .ok (.aload_n 0, 1) := by decide +kernel
theorem dX0_step_73 : decode cX0_step 73 = .ok (.getfield 18, 3) := by decide +kernel
theorem dX0_step_76 : decode cX0_step 76 = .ok (.if_icmp .ne 21, 3) := by decide +kernel
theorem dX0_step_79 : decode cX0_step 79 = .ok (.aload_n 0, 1) := by decide +kernel
theorem dX0_step_80 : decode cX0_step 80 = .ok (.invokevirtual 90, 3) := by decide +kernel
theorem dX0_step_83 : decode cX0_step 83 = .ok (.aload_n 0, 1) := by decide +kernel
theorem dX0_step_84 : decode cX0_step 84 = .ok (.dup, 1) := by decide +kernel
theorem dX0_step_85 : decode cX0_step 85 = .ok (.getfield 67, 3) := by decide +kernel
theorem dX0_step_88 : decode cX0_step 88 = .ok (.iconst 1, 1) := by decide +kernel
theorem dX0_step_89 : decode cX0_step 89 = .ok (.iadd, 1) := by decide +kernel
theorem dX0_step_90 : decode cX0_step 90 = .ok (.putfield 67, 3) := by decide +kernel
theorem dX0_step_93 : decode cX0_step 93 = .ok (.aload_n 0, 1) := by decide +kernel
theorem dX0_step_94 : decode cX0_step 94 = .ok (.invokevirtual 70, 3) := by decide +kernel
theorem dX0_step_97 : decode cX0_step 97 = .ok (.iconst 1, 1) := by decide +kernel
theorem dX0_step_98 : decode cX0_step 98 = .ok (.ireturn, 1) := by decide +kernel
set_option maxRecDepth 20000 in
theorem ggX0_canTake_X3_isEnd : GoodIn wsX0_canTake wsX3_isEnd := goodIn_r _ [5] (by decide +kernel) (by decide +kernel)
set_option maxRecDepth 20000 in
theorem gX0_canTake_X3_isEnd_n56 : GoodIn wsX0_canTake (wsX3_isEnd) := ggX0_canTake_X3_isEnd
theorem dX0_canTake_0 : decode cX0_canTake 0 = .ok (.iload_n 1, 1) := by decide +kernel
theorem dX0_canTake_1 : decode cX0_canTake 1 = .ok (.invokestatic 56, 3) := by decide +kernel
theorem dX0_canTake_4 : decode cX0_canTake 4 = .ok (.ifCond .eq 28, 3) := by decide +kernel
theorem dX0_canTake_7 : decode cX0_canTake 7 = .ok (.aload_n 0, 1) := by decide +kernel
theorem dX0_canTake_8 : decode cX0_canTake 8 = .ok (.getfield 36, 3) := by decide +kernel
theorem dX0_canTake_11 : decode cX0_canTake 11 = .ok (.getfield 93, 3) := by decide +kernel
theorem dX0_canTake_14 : decode cX0_canTake 14 = .ok (.iload_n 1, 1) := by decide +kernel
theorem dX0_canTake_15 : decode cX0_canTake 15 = .ok (.baload, 1) := by decide +kernel
theorem dX0_canTake_16 : decode cX0_canTake 16 = .ok (.ifCond .eq 16, 3) := by decide +kernel
theorem dX0_canTake_19 : decode cX0_canTake 19 = .ok (.aload_n 0, 1) := by decide +kernel
theorem dX0_canTake_20 : decode cX0_canTake 20 = .ok (.getfield 26, 3) := by decide +kernel
theorem dX0_canTake_23 : decode cX0_canTake 23 = .ok (.iload_n 1, 1) := by decide +kernel
theorem dX0_canTake_24 : decode cX0_canTake 24 = .ok (.baload, 1) := by decide +kernel
theorem dX0_canTake_25 : decode cX0_canTake 25 = .ok (.ifCond .ne 7, 3) := by decide +kernel
theorem dX0_canTake_28 : decode cX0_canTake 28 = .ok (.iconst 1, 1) := by decide +kernel
theorem dX0_canTake_29 : decode cX0_canTake 29 = .ok (.goto 4, 3) := by decide +kernel
theorem dX0_canTake_32 : decode cX0_canTake 32 = .ok (.iconst 0, 1) := by decide +kernel
theorem dX0_canTake_33 : decode cX0_canTake 33 = .ok (.ireturn, 1) := by decide +kernel
set_option maxRecDepth 20000 in
theorem ggX0_rememberedEnd_X2_exitFor : GoodIn wsX0_rememberedEnd wsX2_exitFor := goodIn_r _ [9, 10, 11, 12, 13, 8, 14, 50, 51] (by decide +kernel) (by decide +kernel)
set_option maxRecDepth 20000 in
theorem gX0_rememberedEnd_X2_exitFor : GoodIn wsX0_rememberedEnd (wsV RX0 98 RX2 yX2_exitFor wsX2_exitFor) := goodIn_app (goodIn_of _ (by decide +kernel)) ggX0_rememberedEnd_X2_exitFor
set_option maxRecDepth 20000 in
theorem ggX0_rememberedEnd_X1_endAt : GoodIn wsX0_rememberedEnd wsX1_endAt := goodIn_r _ [19, 20, 21, 22, 23, 18, 24, 25, 52, 53, 54, 55, 56, 57, 58, 59] (by decide +kernel) (by decide +kernel)
set_option maxRecDepth 20000 in
theorem gX0_rememberedEnd_X1_endAt : GoodIn wsX0_rememberedEnd (wsV RX0 102 RX1 yX1_endAt wsX1_endAt) := goodIn_app (goodIn_of _ (by decide +kernel)) ggX0_rememberedEnd_X1_endAt
set_option maxRecDepth 20000 in
theorem ggX0_rememberedEnd_X0_canTake : GoodIn wsX0_rememberedEnd wsX0_canTake := goodIn_r _ [30, 1, 31, 32, 33, 34, 35, 36, 37, 38, 39, 40, 41, 42, 43, 44, 45, 46, 47, 48, 49, 52, 53, 54, 55, 56, 57, 58, 59] (by decide +kernel) (by decide +kernel)
set_option maxRecDepth 20000 in
theorem gX0_rememberedEnd_X0_canTake : GoodIn wsX0_rememberedEnd (wsV RX0 105 RX0 yX0_canTake wsX0_canTake) := goodIn_app (goodIn_of _ (by decide +kernel)) ggX0_rememberedEnd_X0_canTake
theorem dX0_rememberedEnd_0 : decode cX0_rememberedEnd 0 = .ok (.aload_n 0, 1) := by decide +kernel
theorem dX0_rememberedEnd_1 : decode cX0_rememberedEnd 1 = .ok (.getfield 36, 3) := by decide +kernel
theorem dX0_rememberedEnd_4 : decode cX0_rememberedEnd 4 = .ok (.aload_n 0, 1) := by decide +kernel
theorem dX0_rememberedEnd_5 : decode cX0_rememberedEnd 5 = .ok (.getfield 40, 3) := by decide +kernel
theorem dX0_rememberedEnd_8 : decode cX0_rememberedEnd 8 = .ok (.aload_n 0, 1) := by decide +kernel
theorem dX0_rememberedEnd_9 : decode cX0_rememberedEnd 9 = .ok (.getfield 12, 3) := by decide +kernel
theorem dX0_rememberedEnd_12 : decode cX0_rememberedEnd 12 = .ok (.aload_n 0, 1) := by decide +kernel
theorem dX0_rememberedEnd_13 : decode cX0_rememberedEnd 13 = .ok (.getfield 18, 3) := by decide +kernel
theorem dX0_rememberedEnd_16 : decode cX0_rememberedEnd 16 = .ok (.aload_n 0, 1) := by decide +kernel
theorem dX0_rememberedEnd_17 : decode cX0_rememberedEnd 17 = .ok (.getfield 40, 3) := by decide +kernel
theorem dX0_rememberedEnd_20 : decode cX0_rememberedEnd 20 = .ok (.invokevirtual 98, 3) := by decide +kernel
theorem dX0_rememberedEnd_23 : decode cX0_rememberedEnd 23 = .ok (.invokevirtual 102, 3) := by decide +kernel
theorem dX0_rememberedEnd_26 : decode cX0_rememberedEnd 26 = .ok (.istore_n 1, 1) := by decide +kernel
theorem dX0_rememberedEnd_27 : decode cX0_rememberedEnd 27 = .ok (.aload_n 0, 1) := by decide +kernel
theorem dX0_rememberedEnd_28 : decode cX0_rememberedEnd 28 = .ok (.iload_n 1, 1) := by decide +kernel
theorem dX0_rememberedEnd_29 : decode cX0_rememberedEnd 29 = .ok (.invokevirtual 105, 3) := by decide +kernel
theorem dX0_rememberedEnd_32 : decode cX0_rememberedEnd 32 = .ok (.ifCond .eq 7, 3) := by decide +kernel
theorem dX0_rememberedEnd_35 : decode cX0_rememberedEnd 35 = .ok (.iload_n 1, 1) := by decide +kernel
theorem dX0_rememberedEnd_36 : decode cX0_rememberedEnd 36 = .ok (.goto 4, 3) := by decide +kernel
theorem dX0_rememberedEnd_39 : decode cX0_rememberedEnd 39 = .ok (.iconst (-1), 1) := by decide +kernel
theorem dX0_rememberedEnd_40 : decode cX0_rememberedEnd 40 = .ok (.ireturn, 1) := by decide +kernel
set_option maxRecDepth 20000 in
theorem ggX0_askedEnd_X1_isPlace : GoodIn wsX0_askedEnd wsX1_isPlace := goodIn_r _ [13, 14, 76, 77, 78, 79, 80, 81, 82, 83] (by decide +kernel) (by decide +kernel)
set_option maxRecDepth 20000 in
theorem gX0_askedEnd_X1_isPlace : GoodIn wsX0_askedEnd (wsV RX0 108 RX1 yX1_isPlace wsX1_isPlace) := goodIn_app (goodIn_of _ (by decide +kernel)) ggX0_askedEnd_X1_isPlace
set_option maxRecDepth 20000 in
theorem ggX0_askedEnd_X1_endTowards : GoodIn wsX0_askedEnd wsX1_endTowards := goodIn_r _ [18, 19, 20, 21, 22, 23, 24, 12, 25, 26, 27, 28, 29, 30, 10, 11, 13, 14, 31, 32, 33, 34, 35, 36, 37, 38, 39, 40, 76, 77, 78, 79, 80, 81, 82, 83] (by decide +kernel) (by decide +kernel)
set_option maxRecDepth 20000 in
theorem gX0_askedEnd_X1_endTowards : GoodIn wsX0_askedEnd (wsV RX0 117 RX1 yX1_endTowards wsX1_endTowards) := goodIn_app (goodIn_of _ (by decide +kernel)) ggX0_askedEnd_X1_endTowards
set_option maxRecDepth 20000 in
theorem ggX0_askedEnd_X3_exitOfEnd : GoodIn wsX0_askedEnd wsX3_exitOfEnd := goodIn_r _ [42] (by decide +kernel) (by decide +kernel)
set_option maxRecDepth 20000 in
theorem gX0_askedEnd_X3_exitOfEnd_n120 : GoodIn wsX0_askedEnd (wsX3_exitOfEnd) := ggX0_askedEnd_X3_exitOfEnd
set_option maxRecDepth 20000 in
theorem ggX0_askedEnd_X2_learn : GoodIn wsX0_askedEnd wsX2_learn := goodIn_r _ [47, 48, 49, 50, 51, 46, 52, 84, 85] (by decide +kernel) (by decide +kernel)
set_option maxRecDepth 20000 in
theorem gX0_askedEnd_X2_learn : GoodIn wsX0_askedEnd (wsV RX0 124 RX2 yX2_learn wsX2_learn) := goodIn_app (goodIn_of _ (by decide +kernel)) ggX0_askedEnd_X2_learn
set_option maxRecDepth 20000 in
theorem ggX0_askedEnd_X0_canTake : GoodIn wsX0_askedEnd wsX0_canTake := goodIn_r _ [57, 1, 58, 59, 39, 60, 61, 62, 63, 64, 65, 66, 67, 68, 69, 70, 71, 72, 73, 74, 75, 76, 77, 78, 79, 80, 81, 82, 83] (by decide +kernel) (by decide +kernel)
set_option maxRecDepth 20000 in
theorem gX0_askedEnd_X0_canTake : GoodIn wsX0_askedEnd (wsV RX0 105 RX0 yX0_canTake wsX0_canTake) := goodIn_app (goodIn_of _ (by decide +kernel)) ggX0_askedEnd_X0_canTake
theorem dX0_askedEnd_0 : decode cX0_askedEnd 0 = .ok (.aload_n 0, 1) := by decide +kernel
theorem dX0_askedEnd_1 : decode cX0_askedEnd 1 = .ok (.getfield 36, 3) := by decide +kernel
theorem dX0_askedEnd_4 : decode cX0_askedEnd 4 = .ok (.aload_n 0, 1) := by decide +kernel
theorem dX0_askedEnd_5 : decode cX0_askedEnd 5 = .ok (.getfield 40, 3) := by decide +kernel
theorem dX0_askedEnd_8 : decode cX0_askedEnd 8 = .ok (.invokevirtual 108, 3) := by decide +kernel
theorem dX0_askedEnd_11 : decode cX0_askedEnd 11 = .ok (.ifCond .eq 33, 3) := by decide +kernel
theorem dX0_askedEnd_14 : decode cX0_askedEnd 14 = .ok (.aload_n 0, 1) := by decide +kernel
theorem dX0_askedEnd_15 : decode cX0_askedEnd 15 = .ok (.getfield 36, 3) := by decide +kernel
theorem dX0_askedEnd_18 : decode cX0_askedEnd 18 = .ok (.getfield 111, 3) := by decide +kernel
theorem dX0_askedEnd_21 : decode cX0_askedEnd 21 = .ok (.aload_n 0, 1) := by decide +kernel
theorem dX0_askedEnd_22 : decode cX0_askedEnd 22 = .ok (.getfield 40, 3) := by decide +kernel
theorem dX0_askedEnd_25 : decode cX0_askedEnd 25 = .ok (.baload, 1) := by decide +kernel
theorem dX0_askedEnd_26 : decode cX0_askedEnd 26 = .ok (.ifCond .ne 14, 3) := by decide +kernel
theorem dX0_askedEnd_29 : decode cX0_askedEnd 29 = .ok (.aload_n 0, 1) := by decide +kernel
theorem dX0_askedEnd_30 : decode cX0_askedEnd 30 = .ok (.getfield 40, 3) := by decide +kernel
theorem dX0_askedEnd_33 : decode cX0_askedEnd 33 = .ok (.aload_n 0, 1) := by decide +kernel
theorem dX0_askedEnd_34 : decode cX0_askedEnd 34 = .ok (.getfield 33, 3) := by decide +kernel
theorem dX0_askedEnd_37 : decode cX0_askedEnd 37 = .ok (.if_icmp .ne 7, 3) := by decide +kernel
theorem dX0_askedEnd_40 : decode cX0_askedEnd 40 = .ok (.iconst 1, 1) := by decide +kernel
theorem dX0_askedEnd_41 : decode cX0_askedEnd 41 = .ok (.goto 4, 3) := by decide +kernel
theorem dX0_askedEnd_44 : decode cX0_askedEnd 44 = .ok (.iconst 0, 1) := by decide +kernel
theorem dX0_askedEnd_45 : decode cX0_askedEnd 45 = .ok (.istore_n 1, 1) := by decide +kernel
theorem dX0_askedEnd_46 : decode cX0_askedEnd 46 = .ok (.iload_n 1, 1) := by decide +kernel
theorem dX0_askedEnd_47 : decode cX0_askedEnd 47 = .ok (.ifCond .eq 22, 3) := by decide +kernel
theorem dX0_askedEnd_50 : decode cX0_askedEnd 50 = .ok (.aload_n 0, 1) := by decide +kernel
theorem dX0_askedEnd_51 : decode cX0_askedEnd 51 = .ok (.getfield 30, 3) := by decide +kernel
theorem dX0_askedEnd_54 : decode cX0_askedEnd 54 = .ok (.aload_n 0, 1) := by decide +kernel
theorem dX0_askedEnd_55 : decode cX0_askedEnd 55 = .ok (.getfield 40, 3) := by decide +kernel
theorem dX0_askedEnd_58 : decode cX0_askedEnd 58 = .ok (.baload, 1) := by decide +kernel
theorem dX0_askedEnd_59 : decode cX0_askedEnd 59 = .ok (.ifCond .ne 10, 3) := by decide +kernel
theorem dX0_askedEnd_62 : decode cX0_askedEnd 62 = .ok (.aload_n 0, 1) := by decide +kernel
theorem dX0_askedEnd_63 : decode cX0_askedEnd 63 = .ok (.getfield 43, 3) := by decide +kernel
theorem dX0_askedEnd_66 : decode cX0_askedEnd 66 = .ok (.ifCond .ne 5, 3) := by decide +kernel
theorem dX0_askedEnd_69 : decode cX0_askedEnd 69 = .ok (.iconst (-1), 1) := by decide +kernel
theorem dX0_askedEnd_70 : decode cX0_askedEnd 70 = .ok (.ireturn, 1) := by decide +kernel
theorem dX0_askedEnd_71 : decode cX0_askedEnd 71 = .ok (.aload_n 0, 1) := by decide +kernel
theorem dX0_askedEnd_72 : decode cX0_askedEnd 72 = .ok (.dup, 1) := by decide +kernel
theorem dX0_askedEnd_73 : decode cX0_askedEnd 73 = .ok (.getfield 43, 3) := by decide +kernel
theorem dX0_askedEnd_76 : decode cX0_askedEnd 76 = .ok (.iconst 1, 1) := by decide +kernel
theorem dX0_askedEnd_77 : decode cX0_askedEnd 77 = .ok (.isub, 1) := by decide +kernel
theorem dX0_askedEnd_78 : decode cX0_askedEnd 78 = .ok (.putfield 43, 3) := by decide +kernel
theorem dX0_askedEnd_81 : decode cX0_askedEnd 81 = .ok (.aload_n 0, 1) := by decide +kernel
theorem dX0_askedEnd_82 : decode cX0_askedEnd 82 = .ok (.dup, 1) := by decide +kernel
theorem dX0_askedEnd_83 : decode cX0_askedEnd 83 = .ok (.getfield 114, 3) := by decide +kernel
theorem dX0_askedEnd_86 : decode cX0_askedEnd 86 = .ok (.iconst 1, 1) := by decide +kernel
theorem dX0_askedEnd_87 : decode cX0_askedEnd 87 = .ok (.iadd, 1) := by decide +kernel
theorem dX0_askedEnd_88 : decode cX0_askedEnd 88 = .ok (.putfield 114, 3) := by decide +kernel
theorem dX0_askedEnd_91 : decode cX0_askedEnd 91 = .ok (.aload_n 0, 1) := by decide +kernel
theorem dX0_askedEnd_92 : decode cX0_askedEnd 92 = .ok (.getfield 30, 3) := by decide +kernel
theorem dX0_askedEnd_95 : decode cX0_askedEnd 95 = .ok (.aload_n 0, 1) := by decide +kernel
theorem dX0_askedEnd_96 : decode cX0_askedEnd 96 = .ok (.getfield 40, 3) := by decide +kernel
theorem dX0_askedEnd_99 : decode cX0_askedEnd 99 = .ok (.iconst 1, 1) := by decide +kernel
theorem dX0_askedEnd_100 : decode cX0_askedEnd 100 = .ok (.bastore, 1) := by decide +kernel
theorem dX0_askedEnd_101 : decode cX0_askedEnd 101 = .ok (.aload_n 0, 1) := by decide +kernel
theorem dX0_askedEnd_102 : decode cX0_askedEnd 102 = .ok (.getfield 36, 3) := by decide +kernel
theorem dX0_askedEnd_105 : decode cX0_askedEnd 105 = .ok (.aload_n 0, 1) := by decide +kernel
theorem dX0_askedEnd_106 : decode cX0_askedEnd 106 = .ok (.getfield 40, 3) := by decide +kernel
theorem dX0_askedEnd_109 : decode cX0_askedEnd 109 = .ok (.aload_n 0, 1) := by decide +kernel
theorem dX0_askedEnd_110 : decode cX0_askedEnd 110 = .ok (.getfield 18, 3) := by decide +kernel
theorem dX0_askedEnd_113 : decode cX0_askedEnd 113 = .ok (.invokevirtual 117, 3) := by decide +kernel
theorem dX0_askedEnd_116 : decode cX0_askedEnd 116 = .ok (.istore_n 2, 1) := by decide +kernel
theorem dX0_askedEnd_117 : decode cX0_askedEnd 117 = .ok (.iload_n 2, 1) := by decide +kernel
theorem dX0_askedEnd_118 : decode cX0_askedEnd 118 = .ok (.iconst (-1), 1) := by decide +kernel
theorem dX0_askedEnd_119 : decode cX0_askedEnd 119 = .ok (.if_icmp .eq 22, 3) := by decide +kernel
theorem dX0_askedEnd_122 : decode cX0_askedEnd 122 = .ok (.aload_n 0, 1) := by decide +kernel
theorem dX0_askedEnd_123 : decode cX0_askedEnd 123 = .ok (.getfield 12, 3) := by decide +kernel
theorem dX0_askedEnd_126 : decode cX0_askedEnd 126 = .ok (.aload_n 0, 1) := by decide +kernel
theorem dX0_askedEnd_127 : decode cX0_askedEnd 127 = .ok (.getfield 18, 3) := by decide +kernel
theorem dX0_askedEnd_130 : decode cX0_askedEnd 130 = .ok (.aload_n 0, 1) := by decide +kernel
theorem dX0_askedEnd_131 : decode cX0_askedEnd 131 = .ok (.getfield 40, 3) := by decide +kernel
theorem dX0_askedEnd_134 : decode cX0_askedEnd 134 = .ok (.iload_n 2, 1) := by decide +kernel
theorem dX0_askedEnd_135 : decode cX0_askedEnd 135 = .ok (.invokestatic 120, 3) := by decide +kernel
theorem dX0_askedEnd_138 : decode cX0_askedEnd 138 = .ok (.invokevirtual 124, 3) := by decide +kernel
theorem dX0_askedEnd_141 : decode cX0_askedEnd 141 = .ok (.aload_n 0, 1) := by decide +kernel
theorem dX0_askedEnd_142 : decode cX0_askedEnd 142 = .ok (.iload_n 2, 1) := by decide +kernel
theorem dX0_askedEnd_143 : decode cX0_askedEnd 143 = .ok (.invokevirtual 105, 3) := by decide +kernel
theorem dX0_askedEnd_146 : decode cX0_askedEnd 146 = .ok (.ifCond .eq 7, 3) := by decide +kernel
theorem dX0_askedEnd_149 : decode cX0_askedEnd 149 = .ok (.iload_n 2, 1) := by decide +kernel
theorem dX0_askedEnd_150 : decode cX0_askedEnd 150 = .ok (.goto 4, 3) := by decide +kernel
theorem dX0_askedEnd_153 : decode cX0_askedEnd 153 = .ok (.iconst (-1), 1) := by decide +kernel
theorem dX0_askedEnd_154 : decode cX0_askedEnd 154 = .ok (.ireturn, 1) := by decide +kernel
set_option maxRecDepth 20000 in
theorem ggX0_firstUntried_X0_canTake : GoodIn wsX0_firstUntried wsX0_canTake := goodIn_r _ [6, 7, 8, 9, 10, 11, 12, 13, 14, 15, 16, 17, 18, 19, 20, 21, 22, 23, 24, 25, 26, 27, 28, 29, 30, 31, 32, 33, 34] (by decide +kernel) (by decide +kernel)
set_option maxRecDepth 20000 in
theorem gX0_firstUntried_X0_canTake : GoodIn wsX0_firstUntried (wsV RX0 105 RX0 yX0_canTake wsX0_canTake) := goodIn_app (goodIn_of _ (by decide +kernel)) ggX0_firstUntried_X0_canTake
theorem dX0_firstUntried_0 : decode cX0_firstUntried 0 = .ok (.iconst 0, 1) := by decide +kernel
theorem dX0_firstUntried_1 : decode cX0_firstUntried 1 = .ok (.istore_n 1, 1) := by decide +kernel
theorem dX0_firstUntried_2 : decode cX0_firstUntried 2 = .ok (.iload_n 1, 1) := by decide +kernel
theorem dX0_firstUntried_3 : decode cX0_firstUntried 3 = .ok (.iconst 4, 1) := by decide +kernel
theorem dX0_firstUntried_4 : decode cX0_firstUntried 4 = .ok (.if_icmp .ge 28, 3) := by decide +kernel
theorem dX0_firstUntried_7 : decode cX0_firstUntried 7 = .ok (.aload_n 0, 1) := by decide +kernel
theorem dX0_firstUntried_8 : decode cX0_firstUntried 8 = .ok (.getfield 40, 3) := by decide +kernel
theorem dX0_firstUntried_11 : decode cX0_firstUntried 11 = .ok (.iconst 4, 1) := by decide +kernel
theorem dX0_firstUntried_12 : decode cX0_firstUntried 12 = .ok (.imul, 1) := by decide +kernel
theorem dX0_firstUntried_13 : decode cX0_firstUntried 13 = .ok (.iload_n 1, 1) := by decide +kernel
theorem dX0_firstUntried_14 : decode cX0_firstUntried 14 = .ok (.iadd, 1) := by decide +kernel
theorem dX0_firstUntried_15 : decode cX0_firstUntried 15 = .ok (.istore_n 2, 1) := by decide +kernel
theorem dX0_firstUntried_16 : decode cX0_firstUntried 16 = .ok (.aload_n 0, 1) := by decide +kernel
theorem dX0_firstUntried_17 : decode cX0_firstUntried 17 = .ok (.iload_n 2, 1) := by decide +kernel
theorem dX0_firstUntried_18 : decode cX0_firstUntried 18 = .ok (.invokevirtual 105, 3) := by decide +kernel
theorem dX0_firstUntried_21 : decode cX0_firstUntried 21 = .ok (.ifCond .eq 5, 3) := by decide +kernel
theorem dX0_firstUntried_24 : decode cX0_firstUntried 24 = .ok (.iload_n 2, 1) := by decide +kernel
theorem dX0_firstUntried_25 : decode cX0_firstUntried 25 = .ok (.ireturn, 1) := by decide +kernel
theorem dX0_firstUntried_26 : decode cX0_firstUntried 26 = .ok (.iinc 1 1, 3) := by decide +kernel
theorem dX0_firstUntried_29 : decode cX0_firstUntried 29 = .ok (.goto (-27), 3) := by decide +kernel
theorem dX0_firstUntried_32 : decode cX0_firstUntried 32 = .ok (.iconst (-1), 1) := by decide +kernel
theorem dX0_firstUntried_33 : decode cX0_firstUntried 33 = .ok (.ireturn, 1) := by decide +kernel
set_option maxRecDepth 20000 in
theorem ggX0_take_X1_twinOf : GoodIn wsX0_take wsX1_twinOf := goodIn_r _ [11, 12, 13, 14, 15, 38, 39, 40, 41, 42, 43, 44, 45] (by decide +kernel) (by decide +kernel)
set_option maxRecDepth 20000 in
theorem gX0_take_X1_twinOf : GoodIn wsX0_take (wsV RX0 128 RX1 yX1_twinOf wsX1_twinOf) := goodIn_app (goodIn_of _ (by decide +kernel)) ggX0_take_X1_twinOf
set_option maxRecDepth 20000 in
theorem ggX0_take_X3_isEnd : GoodIn wsX0_take wsX3_isEnd := goodIn_r _ [15] (by decide +kernel) (by decide +kernel)
set_option maxRecDepth 20000 in
theorem gX0_take_X3_isEnd_n56 : GoodIn wsX0_take (wsX3_isEnd) := ggX0_take_X3_isEnd
set_option maxRecDepth 20000 in
theorem ggX0_take_X1_milesAt : GoodIn wsX0_take wsX1_milesAt := goodIn_r _ [19, 20, 13, 14, 15, 38, 39, 40, 41, 42, 43, 44, 45] (by decide +kernel) (by decide +kernel)
set_option maxRecDepth 20000 in
theorem gX0_take_X1_milesAt : GoodIn wsX0_take (wsV RX0 131 RX1 yX1_milesAt wsX1_milesAt) := goodIn_app (goodIn_of _ (by decide +kernel)) ggX0_take_X1_milesAt
set_option maxRecDepth 20000 in
theorem ggX0_take_X3_placeOfEnd : GoodIn wsX0_take wsX3_placeOfEnd := goodIn_r _ [22] (by decide +kernel) (by decide +kernel)
set_option maxRecDepth 20000 in
theorem gX0_take_X3_placeOfEnd_n134 : GoodIn wsX0_take (wsX3_placeOfEnd) := ggX0_take_X3_placeOfEnd
theorem dX0_take_0 : decode cX0_take 0 = .ok (.aload_n 0, 1) := by decide +kernel
theorem dX0_take_1 : decode cX0_take 1 = .ok (.getfield 36, 3) := by decide +kernel
theorem dX0_take_4 : decode cX0_take 4 = .ok (.iload_n 1, 1) := by decide +kernel
theorem dX0_take_5 : decode cX0_take 5 = .ok (.invokevirtual 128, 3) := by decide +kernel
theorem dX0_take_8 : decode cX0_take 8 = .ok (.istore_n 2, 1) := by decide +kernel
theorem dX0_take_9 : decode cX0_take 9 = .ok (.iload_n 1, 1) := by decide +kernel
theorem dX0_take_10 : decode cX0_take 10 = .ok (.invokestatic 56, 3) := by decide +kernel
theorem dX0_take_13 : decode cX0_take 13 = .ok (.ifCond .eq 19, 3) := by decide +kernel
theorem dX0_take_16 : decode cX0_take 16 = .ok (.iload_n 2, 1) := by decide +kernel
theorem dX0_take_17 : decode cX0_take 17 = .ok (.invokestatic 56, 3) := by decide +kernel
theorem dX0_take_20 : decode cX0_take 20 = .ok (.ifCond .eq 12, 3) := by decide +kernel
theorem dX0_take_23 : decode cX0_take 23 = .ok (.aload_n 0, 1) := by decide +kernel
theorem dX0_take_24 : decode cX0_take 24 = .ok (.getfield 64, 3) := by decide +kernel
theorem dX0_take_27 : decode cX0_take 27 = .ok (.bipush 20, 2) := by decide +kernel
theorem dX0_take_29 : decode cX0_take 29 = .ok (.if_icmp .lt 4, 3) := by decide +kernel
theorem dX0_take_32 : decode cX0_take 32 = .ok (.return_, 1) := by decide +kernel
theorem dX0_take_33 : decode cX0_take 33 = .ok (.aload_n 0, 1) := by decide +kernel
theorem dX0_take_34 : decode cX0_take 34 = .ok (.getfield 26, 3) := by decide +kernel
theorem dX0_take_37 : decode cX0_take 37 = .ok (.iload_n 1, 1) := by decide +kernel
theorem dX0_take_38 : decode cX0_take 38 = .ok (.iconst 1, 1) := by decide +kernel
theorem dX0_take_39 : decode cX0_take 39 = .ok (.bastore, 1) := by decide +kernel
theorem dX0_take_40 : decode cX0_take 40 = .ok (.aload_n 0, 1) := by decide +kernel
theorem dX0_take_41 : decode cX0_take 41 = .ok (.getfield 26, 3) := by decide +kernel
theorem dX0_take_44 : decode cX0_take 44 = .ok (.iload_n 2, 1) := by decide +kernel
theorem dX0_take_45 : decode cX0_take 45 = .ok (.iconst 1, 1) := by decide +kernel
theorem dX0_take_46 : decode cX0_take 46 = .ok (.bastore, 1) := by decide +kernel
theorem dX0_take_47 : decode cX0_take 47 = .ok (.aload_n 0, 1) := by decide +kernel
theorem dX0_take_48 : decode cX0_take 48 = .ok (.getfield 22, 3) := by decide +kernel
theorem dX0_take_51 : decode cX0_take 51 = .ok (.aload_n 0, 1) := by decide +kernel
theorem dX0_take_52 : decode cX0_take 52 = .ok (.getfield 64, 3) := by decide +kernel
theorem dX0_take_55 : decode cX0_take 55 = .ok (.iload_n 1, 1) := by decide +kernel
theorem dX0_take_56 : decode cX0_take 56 = .ok (.iastore, 1) := by decide +kernel
theorem dX0_take_57 : decode cX0_take 57 = .ok (.aload_n 0, 1) := by decide +kernel
theorem dX0_take_58 : decode cX0_take 58 = .ok (.dup, 1) := by decide +kernel
theorem dX0_take_59 : decode cX0_take 59 = .ok (.getfield 64, 3) := by decide +kernel
theorem dX0_take_62 : decode cX0_take 62 = .ok (.iconst 1, 1) := by decide +kernel
theorem dX0_take_63 : decode cX0_take 63 = .ok (.iadd, 1) := by decide +kernel
theorem dX0_take_64 : decode cX0_take 64 = .ok (.putfield 64, 3) := by decide +kernel
theorem dX0_take_67 : decode cX0_take 67 = .ok (.aload_n 0, 1) := by decide +kernel
theorem dX0_take_68 : decode cX0_take 68 = .ok (.dup, 1) := by decide +kernel
theorem dX0_take_69 : decode cX0_take 69 = .ok (.getfield 50, 3) := by decide +kernel
theorem dX0_take_72 : decode cX0_take 72 = .ok (.aload_n 0, 1) := by decide +kernel
theorem dX0_take_73 : decode cX0_take 73 = .ok (.getfield 36, 3) := by decide +kernel
theorem dX0_take_76 : decode cX0_take 76 = .ok (.iload_n 1, 1) := by decide +kernel
theorem dX0_take_77 : decode cX0_take 77 = .ok (.invokevirtual 131, 3) := by decide +kernel
theorem dX0_take_80 : decode cX0_take 80 = .ok (.iadd, 1) := by decide +kernel
theorem dX0_take_81 : decode cX0_take 81 = .ok (.putfield 50, 3) := by decide +kernel
theorem dX0_take_84 : decode cX0_take 84 = .ok (.aload_n 0, 1) := by decide +kernel
theorem dX0_take_85 : decode cX0_take 85 = .ok (.iload_n 2, 1) := by decide +kernel
theorem dX0_take_86 : decode cX0_take 86 = .ok (.invokestatic 134, 3) := by decide +kernel
theorem dX0_take_89 : decode cX0_take 89 = .ok (.putfield 40, 3) := by decide +kernel
theorem dX0_take_92 : decode cX0_take 92 = .ok (.return_, 1) := by decide +kernel
set_option maxRecDepth 20000 in
theorem ggX0_doubleBack_X1_milesAt : GoodIn wsX0_doubleBack wsX1_milesAt := goodIn_r _ [11, 12, 13, 14, 15, 33, 34, 35, 36, 37, 38, 39, 40] (by decide +kernel) (by decide +kernel)
set_option maxRecDepth 20000 in
theorem gX0_doubleBack_X1_milesAt : GoodIn wsX0_doubleBack (wsV RX0 131 RX1 yX1_milesAt wsX1_milesAt) := goodIn_app (goodIn_of _ (by decide +kernel)) ggX0_doubleBack_X1_milesAt
set_option maxRecDepth 20000 in
theorem ggX0_doubleBack_X3_placeOfEnd : GoodIn wsX0_doubleBack wsX3_placeOfEnd := goodIn_r _ [17] (by decide +kernel) (by decide +kernel)
set_option maxRecDepth 20000 in
theorem gX0_doubleBack_X3_placeOfEnd_n134 : GoodIn wsX0_doubleBack (wsX3_placeOfEnd) := ggX0_doubleBack_X3_placeOfEnd
theorem dX0_doubleBack_0 : decode cX0_doubleBack 0 = .ok (.aload_n 0, 1) := by decide +kernel
theorem dX0_doubleBack_1 : decode cX0_doubleBack 1 = .ok (.dup, 1) := by decide +kernel
theorem dX0_doubleBack_2 : decode cX0_doubleBack 2 = .ok (.getfield 64, 3) := by decide +kernel
theorem dX0_doubleBack_5 : decode cX0_doubleBack 5 = .ok (.iconst 1, 1) := by decide +kernel
theorem dX0_doubleBack_6 : decode cX0_doubleBack 6 = .ok (.isub, 1) := by decide +kernel
theorem dX0_doubleBack_7 : decode cX0_doubleBack 7 = .ok (.putfield 64, 3) := by decide +kernel
theorem dX0_doubleBack_10 : decode cX0_doubleBack 10 = .ok (.aload_n 0, 1) := by decide +kernel
theorem dX0_doubleBack_11 : decode cX0_doubleBack 11 = .ok (.getfield 22, 3) := by decide +kernel
theorem dX0_doubleBack_14 : decode cX0_doubleBack 14 = .ok (.aload_n 0, 1) := by decide +kernel
theorem dX0_doubleBack_15 : decode cX0_doubleBack 15 = .ok (.getfield 64, 3) := by decide +kernel
theorem dX0_doubleBack_18 : decode cX0_doubleBack 18 = .ok (.iaload, 1) := by decide +kernel
theorem dX0_doubleBack_19 : decode cX0_doubleBack 19 = .ok (.istore_n 1, 1) := by decide +kernel
theorem dX0_doubleBack_20 : decode cX0_doubleBack 20 = .ok (.aload_n 0, 1) := by decide +kernel
theorem dX0_doubleBack_21 : decode cX0_doubleBack 21 = .ok (.getfield 36, 3) := by decide +kernel
theorem dX0_doubleBack_24 : decode cX0_doubleBack 24 = .ok (.iload_n 1, 1) := by decide +kernel
theorem dX0_doubleBack_25 : decode cX0_doubleBack 25 = .ok (.invokevirtual 131, 3) := by decide +kernel
theorem dX0_doubleBack_28 : decode cX0_doubleBack 28 = .ok (.istore_n 2, 1) := by decide +kernel
theorem dX0_doubleBack_29 : decode cX0_doubleBack 29 = .ok (.aload_n 0, 1) := by decide +kernel
theorem dX0_doubleBack_30 : decode cX0_doubleBack 30 = .ok (.dup, 1) := by decide +kernel
theorem dX0_doubleBack_31 : decode cX0_doubleBack 31 = .ok (.getfield 50, 3) := by decide +kernel
theorem dX0_doubleBack_34 : decode cX0_doubleBack 34 = .ok (.iload_n 2, 1) := by decide +kernel
theorem dX0_doubleBack_35 : decode cX0_doubleBack 35 = .ok (.iadd, 1) := by decide +kernel
theorem dX0_doubleBack_36 : decode cX0_doubleBack 36 = .ok (.putfield 50, 3) := by decide +kernel
theorem dX0_doubleBack_39 : decode cX0_doubleBack 39 = .ok (.aload_n 0, 1) := by decide +kernel
theorem dX0_doubleBack_40 : decode cX0_doubleBack 40 = .ok (.dup, 1) := by decide +kernel
theorem dX0_doubleBack_41 : decode cX0_doubleBack 41 = .ok (.getfield 137, 3) := by decide +kernel
theorem dX0_doubleBack_44 : decode cX0_doubleBack 44 = .ok (.iload_n 2, 1) := by decide +kernel
theorem dX0_doubleBack_45 : decode cX0_doubleBack 45 = .ok (.iadd, 1) := by decide +kernel
theorem dX0_doubleBack_46 : decode cX0_doubleBack 46 = .ok (.putfield 137, 3) := by decide +kernel
theorem dX0_doubleBack_49 : decode cX0_doubleBack 49 = .ok (.aload_n 0, 1) := by decide +kernel
theorem dX0_doubleBack_50 : decode cX0_doubleBack 50 = .ok (.iload_n 1, 1) := by decide +kernel
theorem dX0_doubleBack_51 : decode cX0_doubleBack 51 = .ok (.invokestatic 134, 3) := by decide +kernel
theorem dX0_doubleBack_54 : decode cX0_doubleBack 54 = .ok (.putfield 40, 3) := by decide +kernel
theorem dX0_doubleBack_57 : decode cX0_doubleBack 57 = .ok (.return_, 1) := by decide +kernel
set_option maxRecDepth 20000 in
theorem ggX0_rememberWay_X3_placeOfEnd : GoodIn wsX0_rememberWay wsX3_placeOfEnd := goodIn_r _ [7] (by decide +kernel) (by decide +kernel)
set_option maxRecDepth 20000 in
theorem gX0_rememberWay_X3_placeOfEnd_n134 : GoodIn wsX0_rememberWay (wsX3_placeOfEnd) := ggX0_rememberWay_X3_placeOfEnd
set_option maxRecDepth 20000 in
theorem ggX0_rememberWay_X3_exitOfEnd : GoodIn wsX0_rememberWay wsX3_exitOfEnd := goodIn_r _ [9] (by decide +kernel) (by decide +kernel)
set_option maxRecDepth 20000 in
theorem gX0_rememberWay_X3_exitOfEnd_n120 : GoodIn wsX0_rememberWay (wsX3_exitOfEnd) := ggX0_rememberWay_X3_exitOfEnd
set_option maxRecDepth 20000 in
theorem ggX0_rememberWay_X2_confirm : GoodIn wsX0_rememberWay wsX2_confirm := goodIn_r _ [14, 15, 16, 17, 18, 19, 20, 21, 22, 13, 23, 24, 25, 26, 27, 43, 44] (by decide +kernel) (by decide +kernel)
set_option maxRecDepth 20000 in
theorem gX0_rememberWay_X2_confirm : GoodIn wsX0_rememberWay (wsV RX0 140 RX2 yX2_confirm wsX2_confirm) := goodIn_app (goodIn_of _ (by decide +kernel)) ggX0_rememberWay_X2_confirm
theorem dX0_rememberWay_0 : decode cX0_rememberWay 0 = .ok (.iconst 0, 1) := by decide +kernel
theorem dX0_rememberWay_1 : decode cX0_rememberWay 1 = .ok (.istore_n 1, 1) := by decide +kernel
theorem dX0_rememberWay_2 : decode cX0_rememberWay 2 = .ok (.iload_n 1, 1) := by decide +kernel
theorem dX0_rememberWay_3 : decode cX0_rememberWay 3 = .ok (.aload_n 0, 1) := by decide +kernel
theorem dX0_rememberWay_4 : decode cX0_rememberWay 4 = .ok (.getfield 64, 3) := by decide +kernel
theorem dX0_rememberWay_7 : decode cX0_rememberWay 7 = .ok (.if_icmp .ge 38, 3) := by decide +kernel
theorem dX0_rememberWay_10 : decode cX0_rememberWay 10 = .ok (.aload_n 0, 1) := by decide +kernel
theorem dX0_rememberWay_11 : decode cX0_rememberWay 11 = .ok (.getfield 12, 3) := by decide +kernel
theorem dX0_rememberWay_14 : decode cX0_rememberWay 14 = .ok (.aload_n 0, 1) := by decide +kernel
theorem dX0_rememberWay_15 : decode cX0_rememberWay 15 = .ok (.getfield 18, 3) := by decide +kernel
theorem dX0_rememberWay_18 : decode cX0_rememberWay 18 = .ok (.aload_n 0, 1) := by decide +kernel
theorem dX0_rememberWay_19 : decode cX0_rememberWay 19 = .ok (.getfield 22, 3) := by decide +kernel
theorem dX0_rememberWay_22 : decode cX0_rememberWay 22 = .ok (.iload_n 1, 1) := by decide +kernel
theorem dX0_rememberWay_23 : decode cX0_rememberWay 23 = .ok (.iaload, 1) := by decide +kernel
theorem dX0_rememberWay_24 : decode cX0_rememberWay 24 = .ok (.invokestatic 134, 3) := by decide +kernel
theorem dX0_rememberWay_27 : decode cX0_rememberWay 27 = .ok (.aload_n 0, 1) := by decide +kernel
theorem dX0_rememberWay_28 : decode cX0_rememberWay 28 = .ok (.getfield 22, 3) := by decide +kernel
theorem dX0_rememberWay_31 : decode cX0_rememberWay 31 = .ok (.iload_n 1, 1) := by decide +kernel
theorem dX0_rememberWay_32 : decode cX0_rememberWay 32 = .ok (.iaload, 1) := by decide +kernel
theorem dX0_rememberWay_33 : decode cX0_rememberWay 33 = .ok (.invokestatic 120, 3) := by decide +kernel
theorem dX0_rememberWay_36 : decode cX0_rememberWay 36 = .ok (.invokevirtual 140, 3) := by decide +kernel
theorem dX0_rememberWay_39 : decode cX0_rememberWay 39 = .ok (.iinc 1 1, 3) := by decide +kernel
theorem dX0_rememberWay_42 : decode cX0_rememberWay 42 = .ok (.goto (-40), 3) := by decide +kernel
theorem dX0_rememberWay_45 : decode cX0_rememberWay 45 = .ok (.return_, 1) := by decide +kernel
set_option maxRecDepth 20000 in
theorem ggX0_findsByMemory_X2_exitFor : GoodIn wsX0_findsByMemory wsX2_exitFor := goodIn_r _ [8, 9, 10, 11, 12, 7, 13, 53, 54] (by decide +kernel) (by decide +kernel)
set_option maxRecDepth 20000 in
theorem gX0_findsByMemory_X2_exitFor : GoodIn wsX0_findsByMemory (wsV RX0 98 RX2 yX2_exitFor wsX2_exitFor) := goodIn_app (goodIn_of _ (by decide +kernel)) ggX0_findsByMemory_X2_exitFor
set_option maxRecDepth 20000 in
theorem ggX0_findsByMemory_X1_endAt : GoodIn wsX0_findsByMemory wsX1_endAt := goodIn_r _ [18, 19, 20, 21, 22, 17, 23, 24, 55, 56, 57, 58, 59, 60, 61, 62] (by decide +kernel) (by decide +kernel)
set_option maxRecDepth 20000 in
theorem gX0_findsByMemory_X1_endAt : GoodIn wsX0_findsByMemory (wsV RX0 102 RX1 yX1_endAt wsX1_endAt) := goodIn_app (goodIn_of _ (by decide +kernel)) ggX0_findsByMemory_X1_endAt
set_option maxRecDepth 20000 in
theorem ggX0_findsByMemory_X1_opensAt : GoodIn wsX0_findsByMemory wsX1_opensAt := goodIn_r _ [28, 29, 30, 31, 32, 55, 56, 57, 58, 59, 60, 61, 62] (by decide +kernel) (by decide +kernel)
set_option maxRecDepth 20000 in
theorem gX0_findsByMemory_X1_opensAt : GoodIn wsX0_findsByMemory (wsV RX0 143 RX1 yX1_opensAt wsX1_opensAt) := goodIn_app (goodIn_of _ (by decide +kernel)) ggX0_findsByMemory_X1_opensAt
set_option maxRecDepth 20000 in
theorem ggX0_findsByMemory_X1_beyond : GoodIn wsX0_findsByMemory wsX1_beyond := goodIn_r _ [36, 37, 30, 31, 32, 55, 56, 57, 58, 59, 60, 61, 62] (by decide +kernel) (by decide +kernel)
set_option maxRecDepth 20000 in
theorem gX0_findsByMemory_X1_beyond : GoodIn wsX0_findsByMemory (wsV RX0 146 RX1 yX1_beyond wsX1_beyond) := goodIn_app (goodIn_of _ (by decide +kernel)) ggX0_findsByMemory_X1_beyond
theorem dX0_findsByMemory_0 : decode cX0_findsByMemory 0 = .ok (.aload_n 0, 1) := by decide +kernel
theorem dX0_findsByMemory_1 : decode cX0_findsByMemory 1 = .ok (.getfield 40, 3) := by decide +kernel
theorem dX0_findsByMemory_4 : decode cX0_findsByMemory 4 = .ok (.istore_n 2, 1) := by decide +kernel
theorem dX0_findsByMemory_5 : decode cX0_findsByMemory 5 = .ok (.iconst 0, 1) := by decide +kernel
theorem dX0_findsByMemory_6 : decode cX0_findsByMemory 6 = .ok (.istore_n 3, 1) := by decide +kernel
theorem dX0_findsByMemory_7 : decode cX0_findsByMemory 7 = .ok (.iload_n 3, 1) := by decide +kernel
theorem dX0_findsByMemory_8 : decode cX0_findsByMemory 8 = .ok (.bipush 10, 2) := by decide +kernel
theorem dX0_findsByMemory_10 : decode cX0_findsByMemory 10 = .ok (.if_icmp .ge 57, 3) := by decide +kernel
theorem dX0_findsByMemory_13 : decode cX0_findsByMemory 13 = .ok (.iload_n 2, 1) := by decide +kernel
theorem dX0_findsByMemory_14 : decode cX0_findsByMemory 14 = .ok (.iload_n 1, 1) := by decide +kernel
theorem dX0_findsByMemory_15 : decode cX0_findsByMemory 15 = .ok (.if_icmp .eq 52, 3) := by decide +kernel
theorem dX0_findsByMemory_18 : decode cX0_findsByMemory 18 = .ok (.aload_n 0, 1) := by decide +kernel
theorem dX0_findsByMemory_19 : decode cX0_findsByMemory 19 = .ok (.getfield 36, 3) := by decide +kernel
theorem dX0_findsByMemory_22 : decode cX0_findsByMemory 22 = .ok (.iload_n 2, 1) := by decide +kernel
theorem dX0_findsByMemory_23 : decode cX0_findsByMemory 23 = .ok (.aload_n 0, 1) := by decide +kernel
theorem dX0_findsByMemory_24 : decode cX0_findsByMemory 24 = .ok (.getfield 12, 3) := by decide +kernel
theorem dX0_findsByMemory_27 : decode cX0_findsByMemory 27 = .ok (.iload_n 1, 1) := by decide +kernel
theorem dX0_findsByMemory_28 : decode cX0_findsByMemory 28 = .ok (.iload_n 2, 1) := by decide +kernel
theorem dX0_findsByMemory_29 : decode cX0_findsByMemory 29 = .ok (.invokevirtual 98, 3) := by decide +kernel
theorem dX0_findsByMemory_32 : decode cX0_findsByMemory 32 = .ok (.invokevirtual 102, 3) := by decide +kernel
theorem dX0_findsByMemory_35 : decode cX0_findsByMemory 35 = .ok (.istore 4, 2) := by decide +kernel
theorem dX0_findsByMemory_37 : decode cX0_findsByMemory 37 = .ok (.aload_n 0, 1) := by decide +kernel
theorem dX0_findsByMemory_38 : decode cX0_findsByMemory 38 = .ok (.getfield 36, 3) := by decide +kernel
theorem dX0_findsByMemory_41 : decode cX0_findsByMemory 41 = .ok (.iload 4, 2) := by decide +kernel
theorem dX0_findsByMemory_43 : decode cX0_findsByMemory 43 = .ok (.invokevirtual 143, 3) := by decide +kernel
theorem dX0_findsByMemory_46 : decode cX0_findsByMemory 46 = .ok (.ifCond .ne 5, 3) := by decide +kernel
theorem dX0_findsByMemory_49 : decode cX0_findsByMemory 49 = .ok (.iconst 0, 1) := by decide +kernel
theorem dX0_findsByMemory_50 : decode cX0_findsByMemory 50 = .ok (.ireturn, 1) := by decide +kernel
theorem dX0_findsByMemory_51 : decode cX0_findsByMemory 51 = .ok (.aload_n 0, 1) := by decide +kernel
theorem dX0_findsByMemory_52 : decode cX0_findsByMemory 52 = .ok (.getfield 36, 3) := by decide +kernel
theorem dX0_findsByMemory_55 : decode cX0_findsByMemory 55 = .ok (.iload 4, 2) := by decide +kernel
theorem dX0_findsByMemory_57 : decode cX0_findsByMemory 57 = .ok (.invokevirtual 146, 3) := by decide +kernel
theorem dX0_findsByMemory_60 : decode cX0_findsByMemory 60 = .ok (.istore_n 2, 1) := by decide +kernel
theorem dX0_findsByMemory_61 : decode cX0_findsByMemory 61 = .ok (.iinc 3 1, 3) := by decide +kernel
theorem dX0_findsByMemory_64 : decode cX0_findsByMemory 64 = .ok (.goto (-57), 3) := by decide +kernel
theorem dX0_findsByMemory_67 : decode cX0_findsByMemory 67 = .ok (.iload_n 2, 1) := by decide +kernel
theorem dX0_findsByMemory_68 : decode cX0_findsByMemory 68 = .ok (.iload_n 1, 1) := by decide +kernel
theorem dX0_findsByMemory_69 : decode cX0_findsByMemory 69 = .ok (.if_icmp .ne 7, 3) := by decide +kernel
theorem dX0_findsByMemory_72 : decode cX0_findsByMemory 72 = .ok (.iconst 1, 1) := by decide +kernel
theorem dX0_findsByMemory_73 : decode cX0_findsByMemory 73 = .ok (.goto 4, 3) := by decide +kernel
theorem dX0_findsByMemory_76 : decode cX0_findsByMemory 76 = .ok (.iconst 0, 1) := by decide +kernel
theorem dX0_findsByMemory_77 : decode cX0_findsByMemory 77 = .ok (.ireturn, 1) := by decide +kernel
theorem dX0_forget_0 : decode cX0_forget 0 = .ok (.iconst 0, 1) := by decide +kernel
theorem dX0_forget_1 : decode cX0_forget 1 = .ok (.istore_n 1, 1) := by decide +kernel
theorem dX0_forget_2 : decode cX0_forget 2 = .ok (.iload_n 1, 1) := by decide +kernel
theorem dX0_forget_3 : decode cX0_forget 3 = .ok (.aload_n 0, 1) := by decide +kernel
theorem dX0_forget_4 : decode cX0_forget 4 = .ok (.arraylength, 1) := by decide +kernel
theorem dX0_forget_5 : decode cX0_forget 5 = .ok (.if_icmp .ge 13, 3) := by decide +kernel
theorem dX0_forget_8 : decode cX0_forget 8 = .ok (.aload_n 0, 1) := by decide +kernel
theorem dX0_forget_9 : decode cX0_forget 9 = .ok (.iload_n 1, 1) := by decide +kernel
theorem dX0_forget_10 : decode cX0_forget 10 = .ok (.iconst 0, 1) := by decide +kernel
theorem dX0_forget_11 : decode cX0_forget 11 = .ok (.bastore, 1) := by decide +kernel
theorem dX0_forget_12 : decode cX0_forget 12 = .ok (.iinc 1 1, 3) := by decide +kernel
theorem dX0_forget_15 : decode cX0_forget 15 = .ok (.goto (-13), 3) := by decide +kernel
theorem dX0_forget_18 : decode cX0_forget 18 = .ok (.return_, 1) := by decide +kernel
theorem dX1_init_0 : decode cX1_init 0 = .ok (.aload_n 0, 1) := by decide +kernel
theorem dX1_init_1 : decode cX1_init 1 = .ok (.invokespecial 3, 3) := by decide +kernel
theorem dX1_init_4 : decode cX1_init 4 = .ok (.aload_n 0, 1) := by decide +kernel
theorem dX1_init_5 : decode cX1_init 5 = .ok (.bipush 10, 2) := by decide +kernel
theorem dX1_init_7 : decode cX1_init 7 = .ok (.newarray .int, 2) := by decide +kernel
theorem dX1_init_9 : decode cX1_init 9 = .ok (.putfield 9, 3) := by decide +kernel
theorem dX1_init_12 : decode cX1_init 12 = .ok (.aload_n 0, 1) := by decide +kernel
theorem dX1_init_13 : decode cX1_init 13 = .ok (.bipush 10, 2) := by decide +kernel
theorem dX1_init_15 : decode cX1_init 15 = .ok (.newarray .boolean, 2) := by decide +kernel
theorem dX1_init_17 : decode cX1_init 17 = .ok (.putfield 15, 3) := by decide +kernel
theorem dX1_init_20 : decode cX1_init 20 = .ok (.aload_n 0, 1) := by decide +kernel
theorem dX1_init_21 : decode cX1_init 21 = .ok (.bipush 40, 2) := by decide +kernel
theorem dX1_init_23 : decode cX1_init 23 = .ok (.newarray .int, 2) := by decide +kernel
theorem dX1_init_25 : decode cX1_init 25 = .ok (.putfield 19, 3) := by decide +kernel
theorem dX1_init_28 : decode cX1_init 28 = .ok (.aload_n 0, 1) := by decide +kernel
theorem dX1_init_29 : decode cX1_init 29 = .ok (.bipush 40, 2) := by decide +kernel
theorem dX1_init_31 : decode cX1_init 31 = .ok (.newarray .int, 2) := by decide +kernel
theorem dX1_init_33 : decode cX1_init 33 = .ok (.putfield 22, 3) := by decide +kernel
theorem dX1_init_36 : decode cX1_init 36 = .ok (.aload_n 0, 1) := by decide +kernel
theorem dX1_init_37 : decode cX1_init 37 = .ok (.bipush 40, 2) := by decide +kernel
theorem dX1_init_39 : decode cX1_init 39 = .ok (.newarray .int, 2) := by decide +kernel
theorem dX1_init_41 : decode cX1_init 41 = .ok (.putfield 25, 3) := by decide +kernel
theorem dX1_init_44 : decode cX1_init 44 = .ok (.aload_n 0, 1) := by decide +kernel
theorem dX1_init_45 : decode cX1_init 45 = .ok (.bipush 40, 2) := by decide +kernel
theorem dX1_init_47 : decode cX1_init 47 = .ok (.newarray .boolean, 2) := by decide +kernel
theorem dX1_init_49 : decode cX1_init 49 = .ok (.putfield 28, 3) := by decide +kernel
theorem dX1_init_52 : decode cX1_init 52 = .ok (.aload_n 0, 1) := by decide +kernel
theorem dX1_init_53 : decode cX1_init 53 = .ok (.bipush 10, 2) := by decide +kernel
theorem dX1_init_55 : decode cX1_init 55 = .ok (.newarray .int, 2) := by decide +kernel
theorem dX1_init_57 : decode cX1_init 57 = .ok (.putfield 31, 3) := by decide +kernel
theorem dX1_init_60 : decode cX1_init 60 = .ok (.return_, 1) := by decide +kernel
theorem dX1_isPlace_0 : decode cX1_isPlace 0 = .ok (.iload_n 1, 1) := by decide +kernel
theorem dX1_isPlace_1 : decode cX1_isPlace 1 = .ok (.ifCond .lt 15, 3) := by decide +kernel
theorem dX1_isPlace_4 : decode cX1_isPlace 4 = .ok (.iload_n 1, 1) := by decide +kernel
theorem dX1_isPlace_5 : decode cX1_isPlace 5 = .ok (.aload_n 0, 1) := by decide +kernel
theorem dX1_isPlace_6 : decode cX1_isPlace 6 = .ok (.getfield 34, 3) := by decide +kernel
theorem dX1_isPlace_9 : decode cX1_isPlace 9 = .ok (.if_icmp .ge 7, 3) := by decide +kernel
theorem dX1_isPlace_12 : decode cX1_isPlace 12 = .ok (.iconst 1, 1) := by decide +kernel
theorem dX1_isPlace_13 : decode cX1_isPlace 13 = .ok (.goto 4, 3) := by decide +kernel
theorem dX1_isPlace_16 : decode cX1_isPlace 16 = .ok (.iconst 0, 1) := by decide +kernel
theorem dX1_isPlace_17 : decode cX1_isPlace 17 = .ok (.ireturn, 1) := by decide +kernel
set_option maxRecDepth 20000 in
theorem ggX1_isFull_X1_isPlace : GoodIn wsX1_isFull wsX1_isPlace := goodIn_r _ [6, 7, 8, 9, 10, 11, 12, 13, 14, 15] (by decide +kernel) (by decide +kernel)
set_option maxRecDepth 20000 in
theorem gX1_isFull_X1_isPlace : GoodIn wsX1_isFull (wsV RX1 38 RX1 yX1_isPlace wsX1_isPlace) := goodIn_app (goodIn_of _ (by decide +kernel)) ggX1_isFull_X1_isPlace
theorem dX1_isFull_0 : decode cX1_isFull 0 = .ok (.aload_n 0, 1) := by decide +kernel
theorem dX1_isFull_1 : decode cX1_isFull 1 = .ok (.iload_n 1, 1) := by decide +kernel
theorem dX1_isFull_2 : decode cX1_isFull 2 = .ok (.invokevirtual 38, 3) := by decide +kernel
theorem dX1_isFull_5 : decode cX1_isFull 5 = .ok (.ifCond .eq 17, 3) := by decide +kernel
theorem dX1_isFull_8 : decode cX1_isFull 8 = .ok (.aload_n 0, 1) := by decide +kernel
theorem dX1_isFull_9 : decode cX1_isFull 9 = .ok (.getfield 9, 3) := by decide +kernel
theorem dX1_isFull_12 : decode cX1_isFull 12 = .ok (.iload_n 1, 1) := by decide +kernel
theorem dX1_isFull_13 : decode cX1_isFull 13 = .ok (.iaload, 1) := by decide +kernel
theorem dX1_isFull_14 : decode cX1_isFull 14 = .ok (.iconst 4, 1) := by decide +kernel
theorem dX1_isFull_15 : decode cX1_isFull 15 = .ok (.if_icmp .lt 7, 3) := by decide +kernel
theorem dX1_isFull_18 : decode cX1_isFull 18 = .ok (.iconst 1, 1) := by decide +kernel
theorem dX1_isFull_19 : decode cX1_isFull 19 = .ok (.goto 4, 3) := by decide +kernel
theorem dX1_isFull_22 : decode cX1_isFull 22 = .ok (.iconst 0, 1) := by decide +kernel
theorem dX1_isFull_23 : decode cX1_isFull 23 = .ok (.ireturn, 1) := by decide +kernel
set_option maxRecDepth 20000 in
theorem ggX1_endAt_X1_isPlace : GoodIn wsX1_endAt wsX1_isPlace := goodIn_r _ [6, 7, 8, 9, 10, 11, 12, 13, 14, 15] (by decide +kernel) (by decide +kernel)
set_option maxRecDepth 20000 in
theorem gX1_endAt_X1_isPlace : GoodIn wsX1_endAt (wsV RX1 38 RX1 yX1_isPlace wsX1_isPlace) := goodIn_app (goodIn_of _ (by decide +kernel)) ggX1_endAt_X1_isPlace
theorem dX1_endAt_0 : decode cX1_endAt 0 = .ok (.aload_n 0, 1) := by decide +kernel
theorem dX1_endAt_1 : decode cX1_endAt 1 = .ok (.iload_n 1, 1) := by decide +kernel
theorem dX1_endAt_2 : decode cX1_endAt 2 = .ok (.invokevirtual 38, 3) := by decide +kernel
theorem dX1_endAt_5 : decode cX1_endAt 5 = .ok (.ifCond .eq 21, 3) := by decide +kernel
theorem dX1_endAt_8 : decode cX1_endAt 8 = .ok (.iload_n 2, 1) := by decide +kernel
theorem dX1_endAt_9 : decode cX1_endAt 9 = .ok (.ifCond .lt 17, 3) := by decide +kernel
theorem dX1_endAt_12 : decode cX1_endAt 12 = .ok (.iload_n 2, 1) := by decide +kernel
theorem dX1_endAt_13 : decode cX1_endAt 13 = .ok (.aload_n 0, 1) := by decide +kernel
theorem dX1_endAt_14 : decode cX1_endAt 14 = .ok (.getfield 9, 3) := by decide +kernel
theorem dX1_endAt_17 : decode cX1_endAt 17 = .ok (.iload_n 1, 1) := by decide +kernel
theorem dX1_endAt_18 : decode cX1_endAt 18 = .ok (.iaload, 1) := by decide +kernel
theorem dX1_endAt_19 : decode cX1_endAt 19 = .ok (.if_icmp .ge 7, 3) := by decide +kernel
theorem dX1_endAt_22 : decode cX1_endAt 22 = .ok (.iconst 1, 1) := by decide +kernel
theorem dX1_endAt_23 : decode cX1_endAt 23 = .ok (.goto 4, 3) := by decide +kernel
theorem dX1_endAt_26 : decode cX1_endAt 26 = .ok (.iconst 0, 1) := by decide +kernel
theorem dX1_endAt_27 : decode cX1_endAt 27 = .ok (.istore_n 3, 1) := by decide +kernel
theorem dX1_endAt_28 : decode cX1_endAt 28 = .ok (.iload_n 3, 1) := by decide +kernel
theorem dX1_endAt_29 : decode cX1_endAt 29 = .ok (.ifCond .eq 11, 3) := by decide +kernel
theorem dX1_endAt_32 : decode cX1_endAt 32 = .ok (.iload_n 1, 1) := by decide +kernel
theorem dX1_endAt_33 : decode cX1_endAt 33 = .ok (.iconst 4, 1) := by decide +kernel
theorem dX1_endAt_34 : decode cX1_endAt 34 = .ok (.imul, 1) := by decide +kernel
theorem dX1_endAt_35 : decode cX1_endAt 35 = .ok (.iload_n 2, 1) := by decide +kernel
theorem dX1_endAt_36 : decode cX1_endAt 36 = .ok (.iadd, 1) := by decide +kernel
theorem dX1_endAt_37 : decode cX1_endAt 37 = .ok (.goto 4, 3) := by decide +kernel
theorem dX1_endAt_40 : decode cX1_endAt 40 = .ok (.iconst (-1), 1) := by decide +kernel
theorem dX1_endAt_41 : decode cX1_endAt 41 = .ok (.ireturn, 1) := by decide +kernel
set_option maxRecDepth 20000 in
theorem ggX1_join_X1_layEnd : GoodIn wsX1_join wsX1_layEnd := goodIn_r _ [6, 7, 8, 9, 10, 11, 12, 13, 14, 15, 16, 17, 18, 19, 20, 21] (by decide +kernel) (by decide +kernel)
set_option maxRecDepth 20000 in
theorem gX1_join_X1_layEnd : GoodIn wsX1_join (wsV RX1 42 RX1 yX1_layEnd wsX1_layEnd) := goodIn_app (goodIn_of _ (by decide +kernel)) ggX1_join_X1_layEnd
theorem dX1_join_0 : decode cX1_join 0 = .ok (.aload_n 0, 1) := by decide +kernel
theorem dX1_join_1 : decode cX1_join 1 = .ok (.getfield 9, 3) := by decide +kernel
theorem dX1_join_4 : decode cX1_join 4 = .ok (.iload_n 1, 1) := by decide +kernel
theorem dX1_join_5 : decode cX1_join 5 = .ok (.iaload, 1) := by decide +kernel
theorem dX1_join_6 : decode cX1_join 6 = .ok (.istore 4, 2) := by decide +kernel
theorem dX1_join_8 : decode cX1_join 8 = .ok (.iload_n 1, 1) := by decide +kernel
theorem dX1_join_9 : decode cX1_join 9 = .ok (.iconst 4, 1) := by decide +kernel
theorem dX1_join_10 : decode cX1_join 10 = .ok (.imul, 1) := by decide +kernel
theorem dX1_join_11 : decode cX1_join 11 = .ok (.iload 4, 2) := by decide +kernel
theorem dX1_join_13 : decode cX1_join 13 = .ok (.iadd, 1) := by decide +kernel
theorem dX1_join_14 : decode cX1_join 14 = .ok (.istore 5, 2) := by decide +kernel
theorem dX1_join_16 : decode cX1_join 16 = .ok (.iload_n 2, 1) := by decide +kernel
theorem dX1_join_17 : decode cX1_join 17 = .ok (.iconst 4, 1) := by decide +kernel
theorem dX1_join_18 : decode cX1_join 18 = .ok (.imul, 1) := by decide +kernel
theorem dX1_join_19 : decode cX1_join 19 = .ok (.aload_n 0, 1) := by decide +kernel
theorem dX1_join_20 : decode cX1_join 20 = .ok (.getfield 9, 3) := by decide +kernel
theorem dX1_join_23 : decode cX1_join 23 = .ok (.iload_n 2, 1) := by decide +kernel
theorem dX1_join_24 : decode cX1_join 24 = .ok (.iaload, 1) := by decide +kernel
theorem dX1_join_25 : decode cX1_join 25 = .ok (.iadd, 1) := by decide +kernel
theorem dX1_join_26 : decode cX1_join 26 = .ok (.istore 6, 2) := by decide +kernel
theorem dX1_join_28 : decode cX1_join 28 = .ok (.aload_n 0, 1) := by decide +kernel
theorem dX1_join_29 : decode cX1_join 29 = .ok (.getfield 9, 3) := by decide +kernel
theorem dX1_join_32 : decode cX1_join 32 = .ok (.iload_n 1, 1) := by decide +kernel
theorem dX1_join_33 : decode cX1_join 33 = .ok (.dup2, 1) := by decide +kernel
theorem dX1_join_34 : decode cX1_join 34 = .ok (.iaload, 1) := by decide +kernel
theorem dX1_join_35 : decode cX1_join 35 = .ok (.iconst 1, 1) := by decide +kernel
theorem dX1_join_36 : decode cX1_join 36 = .ok (.iadd, 1) := by decide +kernel
theorem dX1_join_37 : decode cX1_join 37 = .ok (.iastore, 1) := by decide +kernel
theorem dX1_join_38 : decode cX1_join 38 = .ok (.aload_n 0, 1) := by decide +kernel
theorem dX1_join_39 : decode cX1_join 39 = .ok (.getfield 9, 3) := by decide +kernel
theorem dX1_join_42 : decode cX1_join 42 = .ok (.iload_n 2, 1) := by decide +kernel
theorem dX1_join_43 : decode cX1_join 43 = .ok (.dup2, 1) := by decide +kernel
theorem dX1_join_44 : decode cX1_join 44 = .ok (.iaload, 1) := by decide +kernel
theorem dX1_join_45 : decode cX1_join 45 = .ok (.iconst 1, 1) := by decide +kernel
theorem dX1_join_46 : decode cX1_join 46 = .ok (.iadd, 1) := by decide +kernel
theorem dX1_join_47 : decode cX1_join 47 = .ok (.iastore, 1) := by decide +kernel
theorem dX1_join_48 : decode cX1_join 48 = .ok (.aload_n 0, 1) := by decide +kernel
theorem dX1_join_49 : decode cX1_join 49 = .ok (.iload 5, 2) := by decide +kernel
theorem dX1_join_51 : decode cX1_join 51 = .ok (.iload 6, 2) := by decide +kernel
theorem dX1_join_53 : decode cX1_join 53 = .ok (.iload_n 3, 1) := by decide +kernel
theorem dX1_join_54 : decode cX1_join 54 = .ok (.invokevirtual 42, 3) := by decide +kernel
theorem dX1_join_57 : decode cX1_join 57 = .ok (.aload_n 0, 1) := by decide +kernel
theorem dX1_join_58 : decode cX1_join 58 = .ok (.iload 6, 2) := by decide +kernel
theorem dX1_join_60 : decode cX1_join 60 = .ok (.iload 5, 2) := by decide +kernel
theorem dX1_join_62 : decode cX1_join 62 = .ok (.iload_n 3, 1) := by decide +kernel
theorem dX1_join_63 : decode cX1_join 63 = .ok (.invokevirtual 42, 3) := by decide +kernel
theorem dX1_join_66 : decode cX1_join 66 = .ok (.iload 4, 2) := by decide +kernel
theorem dX1_join_68 : decode cX1_join 68 = .ok (.ireturn, 1) := by decide +kernel
set_option maxRecDepth 20000 in
theorem ggX1_layEnd_X3_placeOfEnd : GoodIn wsX1_layEnd wsX3_placeOfEnd := goodIn_r _ [7] (by decide +kernel) (by decide +kernel)
set_option maxRecDepth 20000 in
theorem gX1_layEnd_X3_placeOfEnd_n46 : GoodIn wsX1_layEnd (wsX3_placeOfEnd) := ggX1_layEnd_X3_placeOfEnd
theorem dX1_layEnd_0 : decode cX1_layEnd 0 = .ok (.aload_n 0, 1) := by decide +kernel
theorem dX1_layEnd_1 : decode cX1_layEnd 1 = .ok (.getfield 19, 3) := by decide +kernel
theorem dX1_layEnd_4 : decode cX1_layEnd 4 = .ok (.iload_n 1, 1) := by decide +kernel
theorem dX1_layEnd_5 : decode cX1_layEnd 5 = .ok (.iload_n 2, 1) := by decide +kernel
theorem dX1_layEnd_6 : decode cX1_layEnd 6 = .ok (.invokestatic 46, 3) := by decide +kernel
theorem dX1_layEnd_9 : decode cX1_layEnd 9 = .ok (.iastore, 1) := by decide +kernel
theorem dX1_layEnd_10 : decode cX1_layEnd 10 = .ok (.aload_n 0, 1) := by decide +kernel
theorem dX1_layEnd_11 : decode cX1_layEnd 11 = .ok (.getfield 22, 3) := by decide +kernel
theorem dX1_layEnd_14 : decode cX1_layEnd 14 = .ok (.iload_n 1, 1) := by decide +kernel
theorem dX1_layEnd_15 : decode cX1_layEnd 15 = .ok (.iload_n 2, 1) := by decide +kernel
theorem dX1_layEnd_16 : decode cX1_layEnd 16 = .ok (.iastore, 1) := by decide +kernel
theorem dX1_layEnd_17 : decode cX1_layEnd 17 = .ok (.aload_n 0, 1) := by decide +kernel
theorem dX1_layEnd_18 : decode cX1_layEnd 18 = .ok (.getfield 25, 3) := by decide +kernel
theorem dX1_layEnd_21 : decode cX1_layEnd 21 = .ok (.iload_n 1, 1) := by decide +kernel
theorem dX1_layEnd_22 : decode cX1_layEnd 22 = .ok (.iload_n 3, 1) := by decide +kernel
theorem dX1_layEnd_23 : decode cX1_layEnd 23 = .ok (.iastore, 1) := by decide +kernel
theorem dX1_layEnd_24 : decode cX1_layEnd 24 = .ok (.aload_n 0, 1) := by decide +kernel
theorem dX1_layEnd_25 : decode cX1_layEnd 25 = .ok (.getfield 28, 3) := by decide +kernel
theorem dX1_layEnd_28 : decode cX1_layEnd 28 = .ok (.iload_n 1, 1) := by decide +kernel
theorem dX1_layEnd_29 : decode cX1_layEnd 29 = .ok (.iconst 1, 1) := by decide +kernel
theorem dX1_layEnd_30 : decode cX1_layEnd 30 = .ok (.bastore, 1) := by decide +kernel
theorem dX1_layEnd_31 : decode cX1_layEnd 31 = .ok (.return_, 1) := by decide +kernel
set_option maxRecDepth 20000 in
theorem ggX1_turnEnd_X3_isEnd : GoodIn wsX1_turnEnd wsX3_isEnd := goodIn_r _ [5] (by decide +kernel) (by decide +kernel)
set_option maxRecDepth 20000 in
theorem gX1_turnEnd_X3_isEnd_n50 : GoodIn wsX1_turnEnd (wsX3_isEnd) := ggX1_turnEnd_X3_isEnd
theorem dX1_turnEnd_0 : decode cX1_turnEnd 0 = .ok (.iload_n 1, 1) := by decide +kernel
theorem dX1_turnEnd_1 : decode cX1_turnEnd 1 = .ok (.invokestatic 50, 3) := by decide +kernel
theorem dX1_turnEnd_4 : decode cX1_turnEnd 4 = .ok (.ifCond .ne 5, 3) := by decide +kernel
theorem dX1_turnEnd_7 : decode cX1_turnEnd 7 = .ok (.iconst 0, 1) := by decide +kernel
theorem dX1_turnEnd_8 : decode cX1_turnEnd 8 = .ok (.ireturn, 1) := by decide +kernel
theorem dX1_turnEnd_9 : decode cX1_turnEnd 9 = .ok (.aload_n 0, 1) := by decide +kernel
theorem dX1_turnEnd_10 : decode cX1_turnEnd 10 = .ok (.getfield 28, 3) := by decide +kernel
theorem dX1_turnEnd_13 : decode cX1_turnEnd 13 = .ok (.iload_n 1, 1) := by decide +kernel
theorem dX1_turnEnd_14 : decode cX1_turnEnd 14 = .ok (.baload, 1) := by decide +kernel
theorem dX1_turnEnd_15 : decode cX1_turnEnd 15 = .ok (.ifCond .ne 7, 3) := by decide +kernel
theorem dX1_turnEnd_18 : decode cX1_turnEnd 18 = .ok (.iconst 1, 1) := by decide +kernel
theorem dX1_turnEnd_19 : decode cX1_turnEnd 19 = .ok (.goto 4, 3) := by decide +kernel
theorem dX1_turnEnd_22 : decode cX1_turnEnd 22 = .ok (.iconst 0, 1) := by decide +kernel
theorem dX1_turnEnd_23 : decode cX1_turnEnd 23 = .ok (.istore_n 2, 1) := by decide +kernel
theorem dX1_turnEnd_24 : decode cX1_turnEnd 24 = .ok (.aload_n 0, 1) := by decide +kernel
theorem dX1_turnEnd_25 : decode cX1_turnEnd 25 = .ok (.getfield 28, 3) := by decide +kernel
theorem dX1_turnEnd_28 : decode cX1_turnEnd 28 = .ok (.iload_n 1, 1) := by decide +kernel
theorem dX1_turnEnd_29 : decode cX1_turnEnd 29 = .ok (.iload_n 2, 1) := by decide +kernel
theorem dX1_turnEnd_30 : decode cX1_turnEnd 30 = .ok (.bastore, 1) := by decide +kernel
theorem dX1_turnEnd_31 : decode cX1_turnEnd 31 = .ok (.aload_n 0, 1) := by decide +kernel
theorem dX1_turnEnd_32 : decode cX1_turnEnd 32 = .ok (.getfield 28, 3) := by decide +kernel
theorem dX1_turnEnd_35 : decode cX1_turnEnd 35 = .ok (.aload_n 0, 1) := by decide +kernel
theorem dX1_turnEnd_36 : decode cX1_turnEnd 36 = .ok (.getfield 22, 3) := by decide +kernel
theorem dX1_turnEnd_39 : decode cX1_turnEnd 39 = .ok (.iload_n 1, 1) := by decide +kernel
theorem dX1_turnEnd_40 : decode cX1_turnEnd 40 = .ok (.iaload, 1) := by decide +kernel
theorem dX1_turnEnd_41 : decode cX1_turnEnd 41 = .ok (.iload_n 2, 1) := by decide +kernel
theorem dX1_turnEnd_42 : decode cX1_turnEnd 42 = .ok (.bastore, 1) := by decide +kernel
theorem dX1_turnEnd_43 : decode cX1_turnEnd 43 = .ok (.iload_n 2, 1) := by decide +kernel
theorem dX1_turnEnd_44 : decode cX1_turnEnd 44 = .ok (.ireturn, 1) := by decide +kernel
set_option maxRecDepth 20000 in
theorem ggX1_opensAt_X3_isEnd : GoodIn wsX1_opensAt wsX3_isEnd := goodIn_r _ [4] (by decide +kernel) (by decide +kernel)
set_option maxRecDepth 20000 in
theorem gX1_opensAt_X3_isEnd_n50 : GoodIn wsX1_opensAt (wsX3_isEnd) := ggX1_opensAt_X3_isEnd
theorem dX1_opensAt_0 : decode cX1_opensAt 0 = .ok (.iload_n 1, 1) := by decide +kernel
theorem dX1_opensAt_1 : decode cX1_opensAt 1 = .ok (.invokestatic 50, 3) := by decide +kernel
theorem dX1_opensAt_4 : decode cX1_opensAt 4 = .ok (.ifCond .eq 16, 3) := by decide +kernel
theorem dX1_opensAt_7 : decode cX1_opensAt 7 = .ok (.aload_n 0, 1) := by decide +kernel
theorem dX1_opensAt_8 : decode cX1_opensAt 8 = .ok (.getfield 28, 3) := by decide +kernel
theorem dX1_opensAt_11 : decode cX1_opensAt 11 = .ok (.iload_n 1, 1) := by decide +kernel
theorem dX1_opensAt_12 : decode cX1_opensAt 12 = .ok (.baload, 1) := by decide +kernel
theorem dX1_opensAt_13 : decode cX1_opensAt 13 = .ok (.ifCond .eq 7, 3) := by decide +kernel
theorem dX1_opensAt_16 : decode cX1_opensAt 16 = .ok (.iconst 1, 1) := by decide +kernel
theorem dX1_opensAt_17 : decode cX1_opensAt 17 = .ok (.goto 4, 3) := by decide +kernel
theorem dX1_opensAt_20 : decode cX1_opensAt 20 = .ok (.iconst 0, 1) := by decide +kernel
theorem dX1_opensAt_21 : decode cX1_opensAt 21 = .ok (.ireturn, 1) := by decide +kernel
set_option maxRecDepth 20000 in
theorem ggX1_milesAt_X3_isEnd : GoodIn wsX1_milesAt wsX3_isEnd := goodIn_r _ [4] (by decide +kernel) (by decide +kernel)
set_option maxRecDepth 20000 in
theorem gX1_milesAt_X3_isEnd_n50 : GoodIn wsX1_milesAt (wsX3_isEnd) := ggX1_milesAt_X3_isEnd
theorem dX1_milesAt_0 : decode cX1_milesAt 0 = .ok (.iload_n 1, 1) := by decide +kernel
theorem dX1_milesAt_1 : decode cX1_milesAt 1 = .ok (.invokestatic 50, 3) := by decide +kernel
theorem dX1_milesAt_4 : decode cX1_milesAt 4 = .ok (.ifCond .eq 12, 3) := by decide +kernel
theorem dX1_milesAt_7 : decode cX1_milesAt 7 = .ok (.aload_n 0, 1) := by decide +kernel
theorem dX1_milesAt_8 : decode cX1_milesAt 8 = .ok (.getfield 25, 3) := by decide +kernel
theorem dX1_milesAt_11 : decode cX1_milesAt 11 = .ok (.iload_n 1, 1) := by decide +kernel
theorem dX1_milesAt_12 : decode cX1_milesAt 12 = .ok (.iaload, 1) := by decide +kernel
theorem dX1_milesAt_13 : decode cX1_milesAt 13 = .ok (.goto 4, 3) := by decide +kernel
theorem dX1_milesAt_16 : decode cX1_milesAt 16 = .ok (.iconst 0, 1) := by decide +kernel
theorem dX1_milesAt_17 : decode cX1_milesAt 17 = .ok (.ireturn, 1) := by decide +kernel
set_option maxRecDepth 20000 in
theorem ggX1_twinOf_X3_isEnd : GoodIn wsX1_twinOf wsX3_isEnd := goodIn_r _ [4] (by decide +kernel) (by decide +kernel)
set_option maxRecDepth 20000 in
theorem gX1_twinOf_X3_isEnd_n50 : GoodIn wsX1_twinOf (wsX3_isEnd) := ggX1_twinOf_X3_isEnd
theorem dX1_twinOf_0 : decode cX1_twinOf 0 = .ok (.iload_n 1, 1) := by decide +kernel
theorem dX1_twinOf_1 : decode cX1_twinOf 1 = .ok (.invokestatic 50, 3) := by decide +kernel
theorem dX1_twinOf_4 : decode cX1_twinOf 4 = .ok (.ifCond .eq 12, 3) := by decide +kernel
theorem dX1_twinOf_7 : decode cX1_twinOf 7 = .ok (.aload_n 0, 1) := by decide +kernel
theorem dX1_twinOf_8 : decode cX1_twinOf 8 = .ok (.getfield 22, 3) := by decide +kernel
theorem dX1_twinOf_11 : decode cX1_twinOf 11 = .ok (.iload_n 1, 1) := by decide +kernel
theorem dX1_twinOf_12 : decode cX1_twinOf 12 = .ok (.iaload, 1) := by decide +kernel
theorem dX1_twinOf_13 : decode cX1_twinOf 13 = .ok (.goto 4, 3) := by decide +kernel
theorem dX1_twinOf_16 : decode cX1_twinOf 16 = .ok (.iconst (-1), 1) := by decide +kernel
theorem dX1_twinOf_17 : decode cX1_twinOf 17 = .ok (.ireturn, 1) := by decide +kernel
set_option maxRecDepth 20000 in
theorem ggX1_beyond_X3_isEnd : GoodIn wsX1_beyond wsX3_isEnd := goodIn_r _ [4] (by decide +kernel) (by decide +kernel)
set_option maxRecDepth 20000 in
theorem gX1_beyond_X3_isEnd_n50 : GoodIn wsX1_beyond (wsX3_isEnd) := ggX1_beyond_X3_isEnd
theorem dX1_beyond_0 : decode cX1_beyond 0 = .ok (.iload_n 1, 1) := by decide +kernel
theorem dX1_beyond_1 : decode cX1_beyond 1 = .ok (.invokestatic 50, 3) := by decide +kernel
theorem dX1_beyond_4 : decode cX1_beyond 4 = .ok (.ifCond .eq 12, 3) := by decide +kernel
theorem dX1_beyond_7 : decode cX1_beyond 7 = .ok (.aload_n 0, 1) := by decide +kernel
theorem dX1_beyond_8 : decode cX1_beyond 8 = .ok (.getfield 19, 3) := by decide +kernel
theorem dX1_beyond_11 : decode cX1_beyond 11 = .ok (.iload_n 1, 1) := by decide +kernel
theorem dX1_beyond_12 : decode cX1_beyond 12 = .ok (.iaload, 1) := by decide +kernel
theorem dX1_beyond_13 : decode cX1_beyond 13 = .ok (.goto 4, 3) := by decide +kernel
theorem dX1_beyond_16 : decode cX1_beyond 16 = .ok (.iconst (-1), 1) := by decide +kernel
theorem dX1_beyond_17 : decode cX1_beyond 17 = .ok (.ireturn, 1) := by decide +kernel
set_option maxRecDepth 20000 in
theorem ggX1_shortest_X1_measure : GoodIn wsX1_shortest wsX1_measure := goodIn_r _ [7, 1, 2, 8, 9, 10, 11, 12, 13, 14, 6, 15, 16, 17, 18, 19, 20, 21, 22, 23, 24, 25, 26, 27, 28, 29, 30, 31, 32, 33, 34] (by decide +kernel) (by decide +kernel)
set_option maxRecDepth 20000 in
theorem gX1_shortest_X1_measure : GoodIn wsX1_shortest (wsV RX1 53 RX1 yX1_measure wsX1_measure) := goodIn_app (goodIn_of _ (by decide +kernel)) ggX1_shortest_X1_measure
set_option maxRecDepth 20000 in
theorem ggX1_shortest_X1_isPlace : GoodIn wsX1_shortest wsX1_isPlace := goodIn_r _ [15, 16, 27, 28, 29, 30, 31, 32, 33, 34] (by decide +kernel) (by decide +kernel)
set_option maxRecDepth 20000 in
theorem gX1_shortest_X1_isPlace : GoodIn wsX1_shortest (wsV RX1 38 RX1 yX1_isPlace wsX1_isPlace) := goodIn_app (goodIn_of _ (by decide +kernel)) ggX1_shortest_X1_isPlace
theorem dX1_shortest_0 : decode cX1_shortest 0 = .ok (.aload_n 0, 1) := by decide +kernel
theorem dX1_shortest_1 : decode cX1_shortest 1 = .ok (.iload_n 2, 1) := by decide +kernel
theorem dX1_shortest_2 : decode cX1_shortest 2 = .ok (.invokevirtual 53, 3) := by decide +kernel
theorem dX1_shortest_5 : decode cX1_shortest 5 = .ok (.aload_n 0, 1) := by decide +kernel
theorem dX1_shortest_6 : decode cX1_shortest 6 = .ok (.iload_n 1, 1) := by decide +kernel
theorem dX1_shortest_7 : decode cX1_shortest 7 = .ok (.invokevirtual 38, 3) := by decide +kernel
theorem dX1_shortest_10 : decode cX1_shortest 10 = .ok (.ifCond .eq 23, 3) := by decide +kernel
theorem dX1_shortest_13 : decode cX1_shortest 13 = .ok (.aload_n 0, 1) := by decide +kernel
theorem dX1_shortest_14 : decode cX1_shortest 14 = .ok (.getfield 31, 3) := by decide +kernel
theorem dX1_shortest_17 : decode cX1_shortest 17 = .ok (.iload_n 1, 1) := by decide +kernel
theorem dX1_shortest_18 : decode cX1_shortest 18 = .ok (.iaload, 1) := by decide +kernel
theorem dX1_shortest_19 : decode cX1_shortest 19 = .ok (.ldc 57, 2) := by decide +kernel
theorem dX1_shortest_21 : decode cX1_shortest 21 = .ok (.if_icmp .ge 12, 3) := by decide +kernel
theorem dX1_shortest_24 : decode cX1_shortest 24 = .ok (.aload_n 0, 1) := by decide +kernel
theorem dX1_shortest_25 : decode cX1_shortest 25 = .ok (.getfield 31, 3) := by decide +kernel
theorem dX1_shortest_28 : decode cX1_shortest 28 = .ok (.iload_n 1, 1) := by decide +kernel
theorem dX1_shortest_29 : decode cX1_shortest 29 = .ok (.iaload, 1) := by decide +kernel
theorem dX1_shortest_30 : decode cX1_shortest 30 = .ok (.goto 4, 3) := by decide +kernel
theorem dX1_shortest_33 : decode cX1_shortest 33 = .ok (.iconst (-1), 1) := by decide +kernel
theorem dX1_shortest_34 : decode cX1_shortest 34 = .ok (.ireturn, 1) := by decide +kernel
set_option maxRecDepth 20000 in
theorem ggX1_endTowards_X1_measure : GoodIn wsX1_endTowards wsX1_measure := goodIn_r _ [8, 1, 2, 9, 10, 11, 12, 13, 14, 15, 7, 16, 17, 18, 19, 20, 21, 22, 23, 24, 25, 26, 27, 28, 29, 30, 31, 32, 33, 34, 35] (by decide +kernel) (by decide +kernel)
set_option maxRecDepth 20000 in
theorem gX1_endTowards_X1_measure : GoodIn wsX1_endTowards (wsV RX1 53 RX1 yX1_measure wsX1_measure) := goodIn_app (goodIn_of _ (by decide +kernel)) ggX1_endTowards_X1_measure
set_option maxRecDepth 20000 in
theorem ggX1_endTowards_X1_isPlace : GoodIn wsX1_endTowards wsX1_isPlace := goodIn_r _ [16, 17, 28, 29, 30, 31, 32, 33, 34, 35] (by decide +kernel) (by decide +kernel)
set_option maxRecDepth 20000 in
theorem gX1_endTowards_X1_isPlace : GoodIn wsX1_endTowards (wsV RX1 38 RX1 yX1_isPlace wsX1_isPlace) := goodIn_app (goodIn_of _ (by decide +kernel)) ggX1_endTowards_X1_isPlace
set_option maxRecDepth 20000 in
theorem ggX1_endTowards_X1_milesBy : GoodIn wsX1_endTowards wsX1_milesBy := goodIn_r _ [21, 22, 23, 1, 24, 2, 28, 29, 30, 31, 32, 33, 34, 35] (by decide +kernel) (by decide +kernel)
set_option maxRecDepth 20000 in
theorem gX1_endTowards_X1_milesBy : GoodIn wsX1_endTowards (wsV RX1 58 RX1 yX1_milesBy wsX1_milesBy) := goodIn_app (goodIn_of _ (by decide +kernel)) ggX1_endTowards_X1_milesBy
theorem dX1_endTowards_0 : decode cX1_endTowards 0 = .ok (.aload_n 0, 1) := by decide +kernel
theorem dX1_endTowards_1 : decode cX1_endTowards 1 = .ok (.iload_n 2, 1) := by decide +kernel
theorem dX1_endTowards_2 : decode cX1_endTowards 2 = .ok (.invokevirtual 53, 3) := by decide +kernel
theorem dX1_endTowards_5 : decode cX1_endTowards 5 = .ok (.aload_n 0, 1) := by decide +kernel
theorem dX1_endTowards_6 : decode cX1_endTowards 6 = .ok (.iload_n 1, 1) := by decide +kernel
theorem dX1_endTowards_7 : decode cX1_endTowards 7 = .ok (.invokevirtual 38, 3) := by decide +kernel
theorem dX1_endTowards_10 : decode cX1_endTowards 10 = .ok (.ifCond .eq 14, 3) := by decide +kernel
theorem dX1_endTowards_13 : decode cX1_endTowards 13 = .ok (.aload_n 0, 1) := by decide +kernel
theorem dX1_endTowards_14 : decode cX1_endTowards 14 = .ok (.getfield 31, 3) := by decide +kernel
theorem dX1_endTowards_17 : decode cX1_endTowards 17 = .ok (.iload_n 1, 1) := by decide +kernel
theorem dX1_endTowards_18 : decode cX1_endTowards 18 = .ok (.iaload, 1) := by decide +kernel
theorem dX1_endTowards_19 : decode cX1_endTowards 19 = .ok (.ldc 57, 2) := by decide +kernel
theorem dX1_endTowards_21 : decode cX1_endTowards 21 = .ok (.if_icmp .lt 5, 3) := by decide +kernel
theorem dX1_endTowards_24 : decode cX1_endTowards 24 = .ok (.iconst (-1), 1) := by decide +kernel
theorem dX1_endTowards_25 : decode cX1_endTowards 25 = .ok (.ireturn, 1) := by decide +kernel
theorem dX1_endTowards_26 : decode cX1_endTowards 26 = .ok (.iconst 0, 1) := by decide +kernel
theorem dX1_endTowards_27 : decode cX1_endTowards 27 = .ok (.istore_n 3, 1) := by decide +kernel
theorem dX1_endTowards_28 : decode cX1_endTowards 28 = .ok (.iload_n 3, 1) := by decide +kernel
theorem dX1_endTowards_29 : decode cX1_endTowards 29 = .ok (.aload_n 0, 1) := by decide +kernel
theorem dX1_endTowards_30 : decode cX1_endTowards 30 = .ok (.getfield 9, 3) := by decide +kernel
theorem dX1_endTowards_33 : decode cX1_endTowards 33 = .ok (.iload_n 1, 1) := by decide +kernel
theorem dX1_endTowards_34 : decode cX1_endTowards 34 = .ok (.iaload, 1) := by decide +kernel
theorem dX1_endTowards_35 : decode cX1_endTowards 35 = .ok (.if_icmp .ge 34, 3) := by decide +kernel
theorem dX1_endTowards_38 : decode cX1_endTowards 38 = .ok (.iload_n 1, 1) := by decide +kernel
theorem dX1_endTowards_39 : decode cX1_endTowards 39 = .ok (.iconst 4, 1) := by decide +kernel
theorem dX1_endTowards_40 : decode cX1_endTowards 40 = .ok (.imul, 1) := by decide +kernel
theorem dX1_endTowards_41 : decode cX1_endTowards 41 = .ok (.iload_n 3, 1) := by decide +kernel
theorem dX1_endTowards_42 : decode cX1_endTowards 42 = .ok (.iadd, 1) := by decide +kernel
theorem dX1_endTowards_43 : decode cX1_endTowards 43 = .ok (.istore 4, 2) := by decide +kernel
theorem dX1_endTowards_45 : decode cX1_endTowards 45 = .ok (.aload_n 0, 1) := by decide +kernel
theorem dX1_endTowards_46 : decode cX1_endTowards 46 = .ok (.iload 4, 2) := by decide +kernel
theorem dX1_endTowards_48 : decode cX1_endTowards 48 = .ok (.invokevirtual 58, 3) := by decide +kernel
theorem dX1_endTowards_51 : decode cX1_endTowards 51 = .ok (.aload_n 0, 1) := by decide +kernel
theorem dX1_endTowards_52 : decode cX1_endTowards 52 = .ok (.getfield 31, 3) := by decide +kernel
theorem dX1_endTowards_55 : decode cX1_endTowards 55 = .ok (.iload_n 1, 1) := by decide +kernel
theorem dX1_endTowards_56 : decode cX1_endTowards 56 = .ok (.iaload, 1) := by decide +kernel
theorem dX1_endTowards_57 : decode cX1_endTowards 57 = .ok (.if_icmp .ne 6, 3) := by decide +kernel
theorem dX1_endTowards_60 : decode cX1_endTowards 60 = .ok (.iload 4, 2) := by decide +kernel
theorem dX1_endTowards_62 : decode cX1_endTowards 62 = .ok (.ireturn, 1) := by decide +kernel
theorem dX1_endTowards_63 : decode cX1_endTowards 63 = .ok (.iinc 3 1, 3) := by decide +kernel
theorem dX1_endTowards_66 : decode cX1_endTowards 66 = .ok (.goto (-38), 3) := by decide +kernel
theorem dX1_endTowards_69 : decode cX1_endTowards 69 = .ok (.iconst (-1), 1) := by decide +kernel
theorem dX1_endTowards_70 : decode cX1_endTowards 70 = .ok (.ireturn, 1) := by decide +kernel
set_option maxRecDepth 20000 in
theorem ggX1_measure_J7_fill_53178 : GoodIn wsX1_measure wsJ7_fill_53178 := goodIn_r _ [6] (by decide +kernel) (by decide +kernel)
set_option maxRecDepth 20000 in
theorem gX1_measure_J7_fill_53178 : GoodIn wsX1_measure (va_wsS RX1 61 yJ7_fill_53178 wsJ7_fill_53178) := goodIn_app (goodIn_of _ (by decide +kernel)) ggX1_measure_J7_fill_53178
set_option maxRecDepth 20000 in
theorem ggX1_measure_X1_isPlace : GoodIn wsX1_measure wsX1_isPlace := goodIn_r _ [11, 12, 23, 24, 25, 26, 27, 28, 29, 30] (by decide +kernel) (by decide +kernel)
set_option maxRecDepth 20000 in
theorem gX1_measure_X1_isPlace : GoodIn wsX1_measure (wsV RX1 38 RX1 yX1_isPlace wsX1_isPlace) := goodIn_app (goodIn_of _ (by decide +kernel)) ggX1_measure_X1_isPlace
set_option maxRecDepth 20000 in
theorem ggX1_measure_X1_milesBy : GoodIn wsX1_measure wsX1_milesBy := goodIn_r _ [16, 17, 18, 1, 19, 2, 23, 24, 25, 26, 27, 28, 29, 30] (by decide +kernel) (by decide +kernel)
set_option maxRecDepth 20000 in
theorem gX1_measure_X1_milesBy : GoodIn wsX1_measure (wsV RX1 58 RX1 yX1_milesBy wsX1_milesBy) := goodIn_app (goodIn_of _ (by decide +kernel)) ggX1_measure_X1_milesBy
set_option maxRecDepth 20000 in
theorem ggX1_measure_X3_placeOfEnd : GoodIn wsX1_measure wsX3_placeOfEnd := goodIn_r _ [22] (by decide +kernel) (by decide +kernel)
set_option maxRecDepth 20000 in
theorem gX1_measure_X3_placeOfEnd_n46 : GoodIn wsX1_measure (wsX3_placeOfEnd) := ggX1_measure_X3_placeOfEnd
theorem dX1_measure_0 : decode cX1_measure 0 = .ok (.aload_n 0, 1) := by decide +kernel
theorem dX1_measure_1 : decode cX1_measure 1 = .ok (.getfield 31, 3) := by decide +kernel
theorem dX1_measure_4 : decode cX1_measure 4 = .ok (.ldc 57, 2) := by decide +kernel
theorem dX1_measure_6 : decode cX1_measure 6 = .ok (.invokestatic 61, 3) := by decide +kernel
theorem dX1_measure_9 : decode cX1_measure 9 = .ok (.aload_n 0, 1) := by decide +kernel
theorem dX1_measure_10 : decode cX1_measure 10 = .ok (.iload_n 1, 1) := by decide +kernel
theorem dX1_measure_11 : decode cX1_measure 11 = .ok (.invokevirtual 38, 3) := by decide +kernel
theorem dX1_measure_14 : decode cX1_measure 14 = .ok (.ifCond .eq 10, 3) := by decide +kernel
theorem dX1_measure_17 : decode cX1_measure 17 = .ok (.aload_n 0, 1) := by decide +kernel
theorem dX1_measure_18 : decode cX1_measure 18 = .ok (.getfield 31, 3) := by decide +kernel
theorem dX1_measure_21 : decode cX1_measure 21 = .ok (.iload_n 1, 1) := by decide +kernel
theorem dX1_measure_22 : decode cX1_measure 22 = .ok (.iconst 0, 1) := by decide +kernel
theorem dX1_measure_23 : decode cX1_measure 23 = .ok (.iastore, 1) := by decide +kernel
theorem dX1_measure_24 : decode cX1_measure 24 = .ok (.iconst 1, 1) := by decide +kernel
theorem dX1_measure_25 : decode cX1_measure 25 = .ok (.istore_n 2, 1) := by decide +kernel
theorem dX1_measure_26 : decode cX1_measure 26 = .ok (.iconst 0, 1) := by decide +kernel
theorem dX1_measure_27 : decode cX1_measure 27 = .ok (.istore_n 3, 1) := by decide +kernel
theorem dX1_measure_28 : decode cX1_measure 28 = .ok (.iload_n 3, 1) := by decide +kernel
theorem dX1_measure_29 : decode cX1_measure 29 = .ok (.bipush 10, 2) := by decide +kernel
theorem dX1_measure_31 : decode cX1_measure 31 = .ok (.if_icmp .ge 68, 3) := by decide +kernel
theorem dX1_measure_34 : decode cX1_measure 34 = .ok (.iload_n 2, 1) := by decide +kernel
theorem dX1_measure_35 : decode cX1_measure 35 = .ok (.ifCond .eq 64, 3) := by decide +kernel
theorem dX1_measure_38 : decode cX1_measure 38 = .ok (.iconst 0, 1) := by decide +kernel
theorem dX1_measure_39 : decode cX1_measure 39 = .ok (.istore_n 2, 1) := by decide +kernel
theorem dX1_measure_40 : decode cX1_measure 40 = .ok (.iconst 0, 1) := by decide +kernel
theorem dX1_measure_41 : decode cX1_measure 41 = .ok (.istore 4, 2) := by decide +kernel
theorem dX1_measure_43 : decode cX1_measure 43 = .ok (.iload 4, 2) := by decide +kernel
theorem dX1_measure_45 : decode cX1_measure 45 = .ok (.bipush 40, 2) := by decide +kernel
theorem dX1_measure_47 : decode cX1_measure 47 = .ok (.if_icmp .ge 46, 3) := by decide +kernel
theorem dX1_measure_50 : decode cX1_measure 50 = .ok (.aload_n 0, 1) := by decide +kernel
theorem dX1_measure_51 : decode cX1_measure 51 = .ok (.iload 4, 2) := by decide +kernel
theorem dX1_measure_53 : decode cX1_measure 53 = .ok (.invokevirtual 58, 3) := by decide +kernel
theorem dX1_measure_56 : decode cX1_measure 56 = .ok (.istore 5, 2) := by decide +kernel
theorem dX1_measure_58 : decode cX1_measure 58 = .ok (.iload 5, 2) := by decide +kernel
theorem dX1_measure_60 : decode cX1_measure 60 = .ok (.aload_n 0, 1) := by decide +kernel
theorem dX1_measure_61 : decode cX1_measure 61 = .ok (.getfield 31, 3) := by decide +kernel
theorem dX1_measure_64 : decode cX1_measure 64 = .ok (.iload 4, 2) := by decide +kernel
theorem dX1_measure_66 : decode cX1_measure 66 = .ok (.invokestatic 46, 3) := by decide +kernel
theorem dX1_measure_69 : decode cX1_measure 69 = .ok (.iaload, 1) := by decide +kernel
theorem dX1_measure_70 : decode cX1_measure 70 = .ok (.if_icmp .ge 17, 3) := by decide +kernel
theorem dX1_measure_73 : decode cX1_measure 73 = .ok (.aload_n 0, 1) := by decide +kernel
theorem dX1_measure_74 : decode cX1_measure 74 = .ok (.getfield 31, 3) := by decide +kernel
theorem dX1_measure_77 : decode cX1_measure 77 = .ok (.iload 4, 2) := by decide +kernel
theorem dX1_measure_79 : decode cX1_measure 79 = .ok (.invokestatic 46, 3) := by decide +kernel
theorem dX1_measure_82 : decode cX1_measure 82 = .ok (.iload 5, 2) := by decide +kernel
theorem dX1_measure_84 : decode cX1_measure 84 = .ok (.iastore, 1) := by decide +kernel
theorem dX1_measure_85 : decode cX1_measure 85 = .ok (.iconst 1, 1) := by decide +kernel
theorem dX1_measure_86 : decode cX1_measure 86 = .ok (.istore_n 2, 1) := by decide +kernel
theorem dX1_measure_87 : decode cX1_measure 87 = .ok (.iinc 4 1, 3) := by decide +kernel
theorem dX1_measure_90 : decode cX1_measure 90 = .ok (.goto (-47), 3) := by decide +kernel
theorem dX1_measure_93 : decode cX1_measure 93 = .ok (.iinc 3 1, 3) := by decide +kernel
theorem dX1_measure_96 : decode cX1_measure 96 = .ok (.goto (-68), 3) := by decide +kernel
theorem dX1_measure_99 : decode cX1_measure 99 = .ok (.return_, 1) := by decide +kernel
theorem dX1_milesBy_0 : decode cX1_milesBy 0 = .ok (.aload_n 0, 1) := by decide +kernel
theorem dX1_milesBy_1 : decode cX1_milesBy 1 = .ok (.getfield 28, 3) := by decide +kernel
theorem dX1_milesBy_4 : decode cX1_milesBy 4 = .ok (.iload_n 1, 1) := by decide +kernel
theorem dX1_milesBy_5 : decode cX1_milesBy 5 = .ok (.baload, 1) := by decide +kernel
theorem dX1_milesBy_6 : decode cX1_milesBy 6 = .ok (.ifCond .eq 24, 3) := by decide +kernel
theorem dX1_milesBy_9 : decode cX1_milesBy 9 = .ok (.aload_n 0, 1) := by decide +kernel
theorem dX1_milesBy_10 : decode cX1_milesBy 10 = .ok (.getfield 25, 3) := by decide +kernel
theorem dX1_milesBy_13 : decode cX1_milesBy 13 = .ok (.iload_n 1, 1) := by decide +kernel
theorem dX1_milesBy_14 : decode cX1_milesBy 14 = .ok (.iaload, 1) := by decide +kernel
theorem dX1_milesBy_15 : decode cX1_milesBy 15 = .ok (.aload_n 0, 1) := by decide +kernel
theorem dX1_milesBy_16 : decode cX1_milesBy 16 = .ok (.getfield 31, 3) := by decide +kernel
theorem dX1_milesBy_19 : decode cX1_milesBy 19 = .ok (.aload_n 0, 1) := by decide +kernel
theorem dX1_milesBy_20 : decode cX1_milesBy 20 = .ok (.getfield 19, 3) := by decide +kernel
theorem dX1_milesBy_23 : decode cX1_milesBy 23 = .ok (.iload_n 1, 1) := by decide +kernel
theorem dX1_milesBy_24 : decode cX1_milesBy 24 = .ok (.iaload, 1) := by decide +kernel
theorem dX1_milesBy_25 : decode cX1_milesBy 25 = .ok (.iaload, 1) := by decide +kernel
theorem dX1_milesBy_26 : decode cX1_milesBy 26 = .ok (.iadd, 1) := by decide +kernel
theorem dX1_milesBy_27 : decode cX1_milesBy 27 = .ok (.goto 5, 3) := by decide +kernel
theorem dX1_milesBy_30 : decode cX1_milesBy 30 = .ok (.ldc 57, 2) := by decide +kernel
theorem dX1_milesBy_32 : decode cX1_milesBy 32 = .ok (.ireturn, 1) := by decide +kernel
theorem dX2_init_0 : decode cX2_init 0 = .ok (.aload_n 0, 1) := by decide +kernel
theorem dX2_init_1 : decode cX2_init 1 = .ok (.invokespecial 3, 3) := by decide +kernel
theorem dX2_init_4 : decode cX2_init 4 = .ok (.aload_n 0, 1) := by decide +kernel
theorem dX2_init_5 : decode cX2_init 5 = .ok (.bipush 100, 2) := by decide +kernel
theorem dX2_init_7 : decode cX2_init 7 = .ok (.newarray .int, 2) := by decide +kernel
theorem dX2_init_9 : decode cX2_init 9 = .ok (.putfield 9, 3) := by decide +kernel
theorem dX2_init_12 : decode cX2_init 12 = .ok (.aload_n 0, 1) := by decide +kernel
theorem dX2_init_13 : decode cX2_init 13 = .ok (.bipush 100, 2) := by decide +kernel
theorem dX2_init_15 : decode cX2_init 15 = .ok (.newarray .int, 2) := by decide +kernel
theorem dX2_init_17 : decode cX2_init 17 = .ok (.putfield 15, 3) := by decide +kernel
theorem dX2_init_20 : decode cX2_init 20 = .ok (.return_, 1) := by decide +kernel
set_option maxRecDepth 20000 in
theorem ggX2_exitFor_X2_spotOf : GoodIn wsX2_exitFor wsX2_spotOf := goodIn_r _ [6] (by decide +kernel) (by decide +kernel)
set_option maxRecDepth 20000 in
theorem gX2_exitFor_X2_spotOf : GoodIn wsX2_exitFor (va_wsS RX2 18 yX2_spotOf wsX2_spotOf) := goodIn_app (goodIn_of _ (by decide +kernel)) ggX2_exitFor_X2_spotOf
theorem dX2_exitFor_0 : decode cX2_exitFor 0 = .ok (.iload_n 1, 1) := by decide +kernel
theorem dX2_exitFor_1 : decode cX2_exitFor 1 = .ok (.iload_n 2, 1) := by decide +kernel
theorem dX2_exitFor_2 : decode cX2_exitFor 2 = .ok (.invokestatic 18, 3) := by decide +kernel
theorem dX2_exitFor_5 : decode cX2_exitFor 5 = .ok (.istore_n 3, 1) := by decide +kernel
theorem dX2_exitFor_6 : decode cX2_exitFor 6 = .ok (.iload_n 3, 1) := by decide +kernel
theorem dX2_exitFor_7 : decode cX2_exitFor 7 = .ok (.iconst (-1), 1) := by decide +kernel
theorem dX2_exitFor_8 : decode cX2_exitFor 8 = .ok (.if_icmp .eq 21, 3) := by decide +kernel
theorem dX2_exitFor_11 : decode cX2_exitFor 11 = .ok (.aload_n 0, 1) := by decide +kernel
theorem dX2_exitFor_12 : decode cX2_exitFor 12 = .ok (.getfield 15, 3) := by decide +kernel
theorem dX2_exitFor_15 : decode cX2_exitFor 15 = .ok (.iload_n 3, 1) := by decide +kernel
theorem dX2_exitFor_16 : decode cX2_exitFor 16 = .ok (.iaload, 1) := by decide +kernel
theorem dX2_exitFor_17 : decode cX2_exitFor 17 = .ok (.ifCond .le 12, 3) := by decide +kernel
theorem dX2_exitFor_20 : decode cX2_exitFor 20 = .ok (.aload_n 0, 1) := by decide +kernel
theorem dX2_exitFor_21 : decode cX2_exitFor 21 = .ok (.getfield 9, 3) := by decide +kernel
theorem dX2_exitFor_24 : decode cX2_exitFor 24 = .ok (.iload_n 3, 1) := by decide +kernel
theorem dX2_exitFor_25 : decode cX2_exitFor 25 = .ok (.iaload, 1) := by decide +kernel
theorem dX2_exitFor_26 : decode cX2_exitFor 26 = .ok (.goto 4, 3) := by decide +kernel
theorem dX2_exitFor_29 : decode cX2_exitFor 29 = .ok (.iconst (-1), 1) := by decide +kernel
theorem dX2_exitFor_30 : decode cX2_exitFor 30 = .ok (.ireturn, 1) := by decide +kernel
set_option maxRecDepth 20000 in
theorem ggX2_strengthFor_X2_spotOf : GoodIn wsX2_strengthFor wsX2_spotOf := goodIn_r _ [5] (by decide +kernel) (by decide +kernel)
set_option maxRecDepth 20000 in
theorem gX2_strengthFor_X2_spotOf : GoodIn wsX2_strengthFor (va_wsS RX2 18 yX2_spotOf wsX2_spotOf) := goodIn_app (goodIn_of _ (by decide +kernel)) ggX2_strengthFor_X2_spotOf
theorem dX2_strengthFor_0 : decode cX2_strengthFor 0 = .ok (.iload_n 1, 1) := by decide +kernel
theorem dX2_strengthFor_1 : decode cX2_strengthFor 1 = .ok (.iload_n 2, 1) := by decide +kernel
theorem dX2_strengthFor_2 : decode cX2_strengthFor 2 = .ok (.invokestatic 18, 3) := by decide +kernel
theorem dX2_strengthFor_5 : decode cX2_strengthFor 5 = .ok (.istore_n 3, 1) := by decide +kernel
theorem dX2_strengthFor_6 : decode cX2_strengthFor 6 = .ok (.iload_n 3, 1) := by decide +kernel
theorem dX2_strengthFor_7 : decode cX2_strengthFor 7 = .ok (.iconst (-1), 1) := by decide +kernel
theorem dX2_strengthFor_8 : decode cX2_strengthFor 8 = .ok (.if_icmp .eq 12, 3) := by decide +kernel
theorem dX2_strengthFor_11 : decode cX2_strengthFor 11 = .ok (.aload_n 0, 1) := by decide +kernel
theorem dX2_strengthFor_12 : decode cX2_strengthFor 12 = .ok (.getfield 15, 3) := by decide +kernel
theorem dX2_strengthFor_15 : decode cX2_strengthFor 15 = .ok (.iload_n 3, 1) := by decide +kernel
theorem dX2_strengthFor_16 : decode cX2_strengthFor 16 = .ok (.iaload, 1) := by decide +kernel
theorem dX2_strengthFor_17 : decode cX2_strengthFor 17 = .ok (.goto 4, 3) := by decide +kernel
theorem dX2_strengthFor_20 : decode cX2_strengthFor 20 = .ok (.iconst 0, 1) := by decide +kernel
theorem dX2_strengthFor_21 : decode cX2_strengthFor 21 = .ok (.ireturn, 1) := by decide +kernel
set_option maxRecDepth 20000 in
theorem ggX2_learn_X2_spotOf : GoodIn wsX2_learn wsX2_spotOf := goodIn_r _ [6] (by decide +kernel) (by decide +kernel)
set_option maxRecDepth 20000 in
theorem gX2_learn_X2_spotOf : GoodIn wsX2_learn (va_wsS RX2 18 yX2_spotOf wsX2_spotOf) := goodIn_app (goodIn_of _ (by decide +kernel)) ggX2_learn_X2_spotOf
theorem dX2_learn_0 : decode cX2_learn 0 = .ok (.iload_n 1, 1) := by decide +kernel
theorem dX2_learn_1 : decode cX2_learn 1 = .ok (.iload_n 2, 1) := by decide +kernel
theorem dX2_learn_2 : decode cX2_learn 2 = .ok (.invokestatic 18, 3) := by decide +kernel
theorem dX2_learn_5 : decode cX2_learn 5 = .ok (.istore 4, 2) := by decide +kernel
theorem dX2_learn_7 : decode cX2_learn 7 = .ok (.iload 4, 2) := by decide +kernel
theorem dX2_learn_9 : decode cX2_learn 9 = .ok (.iconst (-1), 1) := by decide +kernel
theorem dX2_learn_10 : decode cX2_learn 10 = .ok (.if_icmp .eq 19, 3) := by decide +kernel
theorem dX2_learn_13 : decode cX2_learn 13 = .ok (.aload_n 0, 1) := by decide +kernel
theorem dX2_learn_14 : decode cX2_learn 14 = .ok (.getfield 9, 3) := by decide +kernel
theorem dX2_learn_17 : decode cX2_learn 17 = .ok (.iload 4, 2) := by decide +kernel
theorem dX2_learn_19 : decode cX2_learn 19 = .ok (.iload_n 3, 1) := by decide +kernel
theorem dX2_learn_20 : decode cX2_learn 20 = .ok (.iastore, 1) := by decide +kernel
theorem dX2_learn_21 : decode cX2_learn 21 = .ok (.aload_n 0, 1) := by decide +kernel
theorem dX2_learn_22 : decode cX2_learn 22 = .ok (.getfield 15, 3) := by decide +kernel
theorem dX2_learn_25 : decode cX2_learn 25 = .ok (.iload 4, 2) := by decide +kernel
theorem dX2_learn_27 : decode cX2_learn 27 = .ok (.iconst 3, 1) := by decide +kernel
theorem dX2_learn_28 : decode cX2_learn 28 = .ok (.iastore, 1) := by decide +kernel
theorem dX2_learn_29 : decode cX2_learn 29 = .ok (.return_, 1) := by decide +kernel
set_option maxRecDepth 20000 in
theorem ggX2_confirm_X2_spotOf : GoodIn wsX2_confirm wsX2_spotOf := goodIn_r _ [10] (by decide +kernel) (by decide +kernel)
set_option maxRecDepth 20000 in
theorem gX2_confirm_X2_spotOf : GoodIn wsX2_confirm (va_wsS RX2 18 yX2_spotOf wsX2_spotOf) := goodIn_app (goodIn_of _ (by decide +kernel)) ggX2_confirm_X2_spotOf
set_option maxRecDepth 20000 in
theorem ggX2_confirm_X2_learn : GoodIn wsX2_confirm wsX2_learn := goodIn_r _ [14, 2, 1, 7, 8, 9, 10, 15, 16] (by decide +kernel) (by decide +kernel)
set_option maxRecDepth 20000 in
theorem gX2_confirm_X2_learn : GoodIn wsX2_confirm (wsV RX2 27 RX2 yX2_learn wsX2_learn) := goodIn_app (goodIn_of _ (by decide +kernel)) ggX2_confirm_X2_learn
theorem dX2_confirm_0 : decode cX2_confirm 0 = .ok (.iload_n 1, 1) := by decide +kernel
theorem dX2_confirm_1 : decode cX2_confirm 1 = .ok (.iload_n 2, 1) := by decide +kernel
theorem dX2_confirm_2 : decode cX2_confirm 2 = .ok (.invokestatic 18, 3) := by decide +kernel
theorem dX2_confirm_5 : decode cX2_confirm 5 = .ok (.istore 4, 2) := by decide +kernel
theorem dX2_confirm_7 : decode cX2_confirm 7 = .ok (.iload 4, 2) := by decide +kernel
theorem dX2_confirm_9 : decode cX2_confirm 9 = .ok (.iconst (-1), 1) := by decide +kernel
theorem dX2_confirm_10 : decode cX2_confirm 10 = .ok (.if_icmp .eq 48, 3) := by decide +kernel
theorem dX2_confirm_13 : decode cX2_confirm 13 = .ok (.aload_n 0, 1) := by decide +kernel
theorem dX2_confirm_14 : decode cX2_confirm 14 = .ok (.getfield 15, 3) := by decide +kernel
theorem dX2_confirm_17 : decode cX2_confirm 17 = .ok (.iload 4, 2) := by decide +kernel
theorem dX2_confirm_19 : decode cX2_confirm 19 = .ok (.iaload, 1) := by decide +kernel
theorem dX2_confirm_20 : decode cX2_confirm 20 = .ok (.ifCond .le 38, 3) := by decide +kernel
theorem dX2_confirm_23 : decode cX2_confirm 23 = .ok (.aload_n 0, 1) := by decide +kernel
theorem dX2_confirm_24 : decode cX2_confirm 24 = .ok (.getfield 9, 3) := by decide +kernel
theorem dX2_confirm_27 : decode cX2_confirm 27 = .ok (.iload 4, 2) := by decide +kernel
theorem dX2_confirm_29 : decode cX2_confirm 29 = .ok (.iaload, 1) := by decide +kernel
theorem dX2_confirm_30 : decode cX2_confirm 30 = .ok (.iload_n 3, 1) := by decide +kernel
theorem dX2_confirm_31 : decode cX2_confirm 31 = .ok (.if_icmp .ne 27, 3) := by decide +kernel
theorem dX2_confirm_34 : decode cX2_confirm 34 = .ok (.aload_n 0, 1) := by decide +kernel
theorem dX2_confirm_35 : decode cX2_confirm 35 = .ok (.getfield 15, 3) := by decide +kernel
theorem dX2_confirm_38 : decode cX2_confirm 38 = .ok (.iload 4, 2) := by decide +kernel
theorem dX2_confirm_40 : decode cX2_confirm 40 = .ok (.bipush 9, 2) := by decide +kernel
theorem dX2_confirm_42 : decode cX2_confirm 42 = .ok (.aload_n 0, 1) := by decide +kernel
theorem dX2_confirm_43 : decode cX2_confirm 43 = .ok (.getfield 15, 3) := by decide +kernel
theorem dX2_confirm_46 : decode cX2_confirm 46 = .ok (.iload 4, 2) := by decide +kernel
theorem dX2_confirm_48 : decode cX2_confirm 48 = .ok (.iaload, 1) := by decide +kernel
theorem dX2_confirm_49 : decode cX2_confirm 49 = .ok (.iconst 3, 1) := by decide +kernel
theorem dX2_confirm_50 : decode cX2_confirm 50 = .ok (.iadd, 1) := by decide +kernel
theorem dX2_confirm_51 : decode cX2_confirm 51 = .ok (.invokestatic 22, 3) := by decide +kernel
theorem dX2_confirm_54 : decode cX2_confirm 54 = .ok (.iastore, 1) := by decide +kernel
theorem dX2_confirm_55 : decode cX2_confirm 55 = .ok (.goto 10, 3) := by decide +kernel
theorem dX2_confirm_58 : decode cX2_confirm 58 = .ok (.aload_n 0, 1) := by decide +kernel
theorem dX2_confirm_59 : decode cX2_confirm 59 = .ok (.iload_n 1, 1) := by decide +kernel
theorem dX2_confirm_60 : decode cX2_confirm 60 = .ok (.iload_n 2, 1) := by decide +kernel
theorem dX2_confirm_61 : decode cX2_confirm 61 = .ok (.iload_n 3, 1) := by decide +kernel
theorem dX2_confirm_62 : decode cX2_confirm 62 = .ok (.invokevirtual 27, 3) := by decide +kernel
theorem dX2_confirm_65 : decode cX2_confirm 65 = .ok (.return_, 1) := by decide +kernel
theorem dX2_fade_0 : decode cX2_fade 0 = .ok (.iconst 0, 1) := by decide +kernel
theorem dX2_fade_1 : decode cX2_fade 1 = .ok (.istore_n 2, 1) := by decide +kernel
theorem dX2_fade_2 : decode cX2_fade 2 = .ok (.iconst 0, 1) := by decide +kernel
theorem dX2_fade_3 : decode cX2_fade 3 = .ok (.istore_n 3, 1) := by decide +kernel
theorem dX2_fade_4 : decode cX2_fade 4 = .ok (.iload_n 3, 1) := by decide +kernel
theorem dX2_fade_5 : decode cX2_fade 5 = .ok (.aload_n 0, 1) := by decide +kernel
theorem dX2_fade_6 : decode cX2_fade 6 = .ok (.getfield 15, 3) := by decide +kernel
theorem dX2_fade_9 : decode cX2_fade 9 = .ok (.arraylength, 1) := by decide +kernel
theorem dX2_fade_10 : decode cX2_fade 10 = .ok (.if_icmp .ge 60, 3) := by decide +kernel
theorem dX2_fade_13 : decode cX2_fade 13 = .ok (.aload_n 0, 1) := by decide +kernel
theorem dX2_fade_14 : decode cX2_fade 14 = .ok (.getfield 15, 3) := by decide +kernel
theorem dX2_fade_17 : decode cX2_fade 17 = .ok (.iload_n 3, 1) := by decide +kernel
theorem dX2_fade_18 : decode cX2_fade 18 = .ok (.iaload, 1) := by decide +kernel
theorem dX2_fade_19 : decode cX2_fade 19 = .ok (.ifCond .le 7, 3) := by decide +kernel
theorem dX2_fade_22 : decode cX2_fade 22 = .ok (.iconst 1, 1) := by decide +kernel
theorem dX2_fade_23 : decode cX2_fade 23 = .ok (.goto 4, 3) := by decide +kernel
theorem dX2_fade_26 : decode cX2_fade 26 = .ok (.iconst 0, 1) := by decide +kernel
theorem dX2_fade_27 : decode cX2_fade 27 = .ok (.istore 4, 2) := by decide +kernel
theorem dX2_fade_29 : decode cX2_fade 29 = .ok (.aload_n 0, 1) := by decide +kernel
theorem dX2_fade_30 : decode cX2_fade 30 = .ok (.getfield 15, 3) := by decide +kernel
theorem dX2_fade_33 : decode cX2_fade 33 = .ok (.iload_n 3, 1) := by decide +kernel
theorem dX2_fade_34 : decode cX2_fade 34 = .ok (.iconst 0, 1) := by decide +kernel
theorem dX2_fade_35 : decode cX2_fade 35 = .ok (.aload_n 0, 1) := by decide +kernel
theorem dX2_fade_36 : decode cX2_fade 36 = .ok (.getfield 15, 3) := by decide +kernel
theorem dX2_fade_39 : decode cX2_fade 39 = .ok (.iload_n 3, 1) := by decide +kernel
theorem dX2_fade_40 : decode cX2_fade 40 = .ok (.iaload, 1) := by decide +kernel
theorem dX2_fade_41 : decode cX2_fade 41 = .ok (.iload_n 1, 1) := by decide +kernel
theorem dX2_fade_42 : decode cX2_fade 42 = .ok (.isub, 1) := by decide +kernel
theorem dX2_fade_43 : decode cX2_fade 43 = .ok (.invokestatic 31, 3) := by decide +kernel
theorem dX2_fade_46 : decode cX2_fade 46 = .ok (.iastore, 1) := by decide +kernel
theorem dX2_fade_47 : decode cX2_fade 47 = .ok (.iload 4, 2) := by decide +kernel
theorem dX2_fade_49 : decode cX2_fade 49 = .ok (.ifCond .eq 15, 3) := by decide +kernel
theorem dX2_fade_52 : decode cX2_fade 52 = .ok (.aload_n 0, 1) := by decide +kernel
theorem dX2_fade_53 : decode cX2_fade 53 = .ok (.getfield 15, 3) := by decide +kernel
theorem dX2_fade_56 : decode cX2_fade 56 = .ok (.iload_n 3, 1) := by decide +kernel
theorem dX2_fade_57 : decode cX2_fade 57 = .ok (.iaload, 1) := by decide +kernel
theorem dX2_fade_58 : decode cX2_fade 58 = .ok (.ifCond .ne 6, 3) := by decide +kernel
theorem dX2_fade_61 : decode cX2_fade 61 = .ok (.iinc 2 1, 3) := by decide +kernel
theorem dX2_fade_64 : decode cX2_fade 64 = .ok (.iinc 3 1, 3) := by decide +kernel
theorem dX2_fade_67 : decode cX2_fade 67 = .ok (.goto (-63), 3) := by decide +kernel
theorem dX2_fade_70 : decode cX2_fade 70 = .ok (.iload_n 2, 1) := by decide +kernel
theorem dX2_fade_71 : decode cX2_fade 71 = .ok (.ireturn, 1) := by decide +kernel
theorem dX2_copyFrom_0 : decode cX2_copyFrom 0 = .ok (.aload_n 1, 1) := by decide +kernel
theorem dX2_copyFrom_1 : decode cX2_copyFrom 1 = .ok (.getfield 9, 3) := by decide +kernel
theorem dX2_copyFrom_4 : decode cX2_copyFrom 4 = .ok (.iconst 0, 1) := by decide +kernel
theorem dX2_copyFrom_5 : decode cX2_copyFrom 5 = .ok (.aload_n 0, 1) := by decide +kernel
theorem dX2_copyFrom_6 : decode cX2_copyFrom 6 = .ok (.getfield 9, 3) := by decide +kernel
theorem dX2_copyFrom_9 : decode cX2_copyFrom 9 = .ok (.iconst 0, 1) := by decide +kernel
theorem dX2_copyFrom_10 : decode cX2_copyFrom 10 = .ok (.aload_n 0, 1) := by decide +kernel
theorem dX2_copyFrom_11 : decode cX2_copyFrom 11 = .ok (.getfield 9, 3) := by decide +kernel
theorem dX2_copyFrom_14 : decode cX2_copyFrom 14 = .ok (.arraylength, 1) := by decide +kernel
theorem dX2_copyFrom_15 : decode cX2_copyFrom 15 = .ok (.invokestatic 34, 3) := by decide +kernel
theorem dX2_copyFrom_18 : decode cX2_copyFrom 18 = .ok (.aload_n 1, 1) := by decide +kernel
theorem dX2_copyFrom_19 : decode cX2_copyFrom 19 = .ok (.getfield 15, 3) := by decide +kernel
theorem dX2_copyFrom_22 : decode cX2_copyFrom 22 = .ok (.iconst 0, 1) := by decide +kernel
theorem dX2_copyFrom_23 : decode cX2_copyFrom 23 = .ok (.aload_n 0, 1) := by decide +kernel
theorem dX2_copyFrom_24 : decode cX2_copyFrom 24 = .ok (.getfield 15, 3) := by decide +kernel
theorem dX2_copyFrom_27 : decode cX2_copyFrom 27 = .ok (.iconst 0, 1) := by decide +kernel
theorem dX2_copyFrom_28 : decode cX2_copyFrom 28 = .ok (.aload_n 0, 1) := by decide +kernel
theorem dX2_copyFrom_29 : decode cX2_copyFrom 29 = .ok (.getfield 15, 3) := by decide +kernel
theorem dX2_copyFrom_32 : decode cX2_copyFrom 32 = .ok (.arraylength, 1) := by decide +kernel
theorem dX2_copyFrom_33 : decode cX2_copyFrom 33 = .ok (.invokestatic 34, 3) := by decide +kernel
theorem dX2_copyFrom_36 : decode cX2_copyFrom 36 = .ok (.return_, 1) := by decide +kernel
theorem dX2_spotOf_0 : decode cX2_spotOf 0 = .ok (.iload_n 0, 1) := by decide +kernel
theorem dX2_spotOf_1 : decode cX2_spotOf 1 = .ok (.ifCond .lt 23, 3) := by decide +kernel
theorem dX2_spotOf_4 : decode cX2_spotOf 4 = .ok (.iload_n 0, 1) := by decide +kernel
theorem dX2_spotOf_5 : decode cX2_spotOf 5 = .ok (.bipush 10, 2) := by decide +kernel
theorem dX2_spotOf_7 : decode cX2_spotOf 7 = .ok (.if_icmp .ge 17, 3) := by decide +kernel
theorem dX2_spotOf_10 : decode cX2_spotOf 10 = .ok (.iload_n 1, 1) := by decide +kernel
theorem dX2_spotOf_11 : decode cX2_spotOf 11 = .ok (.ifCond .lt 13, 3) := by decide +kernel
theorem dX2_spotOf_14 : decode cX2_spotOf 14 = .ok (.iload_n 1, 1) := by decide +kernel
theorem dX2_spotOf_15 : decode cX2_spotOf 15 = .ok (.bipush 10, 2) := by decide +kernel
theorem dX2_spotOf_17 : decode cX2_spotOf 17 = .ok (.if_icmp .ge 7, 3) := by decide +kernel
theorem dX2_spotOf_20 : decode cX2_spotOf 20 = .ok (.iconst 1, 1) := by decide +kernel
theorem dX2_spotOf_21 : decode cX2_spotOf 21 = .ok (.goto 4, 3) := by decide +kernel
theorem dX2_spotOf_24 : decode cX2_spotOf 24 = .ok (.iconst 0, 1) := by decide +kernel
theorem dX2_spotOf_25 : decode cX2_spotOf 25 = .ok (.istore_n 2, 1) := by decide +kernel
theorem dX2_spotOf_26 : decode cX2_spotOf 26 = .ok (.iload_n 2, 1) := by decide +kernel
theorem dX2_spotOf_27 : decode cX2_spotOf 27 = .ok (.ifCond .eq 12, 3) := by decide +kernel
theorem dX2_spotOf_30 : decode cX2_spotOf 30 = .ok (.iload_n 0, 1) := by decide +kernel
theorem dX2_spotOf_31 : decode cX2_spotOf 31 = .ok (.bipush 10, 2) := by decide +kernel
theorem dX2_spotOf_33 : decode cX2_spotOf 33 = .ok (.imul, 1) := by decide +kernel
theorem dX2_spotOf_34 : decode cX2_spotOf 34 = .ok (.iload_n 1, 1) := by decide +kernel
theorem dX2_spotOf_35 : decode cX2_spotOf 35 = .ok (.iadd, 1) := by decide +kernel
theorem dX2_spotOf_36 : decode cX2_spotOf 36 = .ok (.goto 4, 3) := by decide +kernel
theorem dX2_spotOf_39 : decode cX2_spotOf 39 = .ok (.iconst (-1), 1) := by decide +kernel
theorem dX2_spotOf_40 : decode cX2_spotOf 40 = .ok (.ireturn, 1) := by decide +kernel
set_option maxRecDepth 20000 in
theorem ggX3_init_X1_init : GoodIn wsX3_init wsX1_init := goodIn_r _ [14, 15, 2, 3, 16, 17, 18, 19, 20, 21, 22, 23, 24, 44, 45, 46, 47, 48, 49, 50, 51] (by decide +kernel) (by decide +kernel)
set_option maxRecDepth 20000 in
theorem gX3_init_X1_init_n11 : GoodIn wsX3_init (wsX1_init) := ggX3_init_X1_init
set_option maxRecDepth 20000 in
theorem ggX3_init_X0_init : GoodIn wsX3_init wsX0_init := goodIn_r _ [27, 28, 2, 3, 29, 30, 31, 32, 33, 16, 34, 18, 35, 36, 37, 38, 39, 40, 41, 42, 43, 70, 71, 55, 56, 57, 58, 59, 60, 61, 62, 63, 64, 65, 66, 67, 68, 69] (by decide +kernel) (by decide +kernel)
set_option maxRecDepth 20000 in
theorem gX3_init_X0_init : GoodIn wsX3_init (wsX0_init) := ggX3_init_X0_init
theorem dX3_init_0 : decode cX3_init 0 = .ok (.aload_n 0, 1) := by decide +kernel
theorem dX3_init_1 : decode cX3_init 1 = .ok (.invokespecial 3, 3) := by decide +kernel
theorem dX3_init_4 : decode cX3_init 4 = .ok (.aload_n 0, 1) := by decide +kernel
theorem dX3_init_5 : decode cX3_init 5 = .ok (.new 9, 3) := by decide +kernel
theorem dX3_init_8 : decode cX3_init 8 = .ok (.dup, 1) := by decide +kernel
theorem dX3_init_9 : decode cX3_init 9 = .ok (.invokespecial 11, 3) := by decide +kernel
theorem dX3_init_12 : decode cX3_init 12 = .ok (.putfield 12, 3) := by decide +kernel
theorem dX3_init_15 : decode cX3_init 15 = .ok (.aload_n 0, 1) := by decide +kernel
theorem dX3_init_16 : decode cX3_init 16 = .ok (.new 16, 3) := by decide +kernel
theorem dX3_init_19 : decode cX3_init 19 = .ok (.dup, 1) := by decide +kernel
theorem dX3_init_20 : decode cX3_init 20 = .ok (.aload_n 0, 1) := by decide +kernel
theorem dX3_init_21 : decode cX3_init 21 = .ok (.getfield 12, 3) := by decide +kernel
theorem dX3_init_24 : decode cX3_init 24 = .ok (.invokespecial 18, 3) := by decide +kernel
theorem dX3_init_27 : decode cX3_init 27 = .ok (.putfield 21, 3) := by decide +kernel
theorem dX3_init_30 : decode cX3_init 30 = .ok (.aload_n 0, 1) := by decide +kernel
theorem dX3_init_31 : decode cX3_init 31 = .ok (.new 16, 3) := by decide +kernel
theorem dX3_init_34 : decode cX3_init 34 = .ok (.dup, 1) := by decide +kernel
theorem dX3_init_35 : decode cX3_init 35 = .ok (.aload_n 0, 1) := by decide +kernel
theorem dX3_init_36 : decode cX3_init 36 = .ok (.getfield 12, 3) := by decide +kernel
theorem dX3_init_39 : decode cX3_init 39 = .ok (.invokespecial 18, 3) := by decide +kernel
theorem dX3_init_42 : decode cX3_init 42 = .ok (.putfield 25, 3) := by decide +kernel
theorem dX3_init_45 : decode cX3_init 45 = .ok (.return_, 1) := by decide +kernel
theorem dX3_addPlace_0 : decode cX3_addPlace 0 = .ok (.aload_n 0, 1) := by decide +kernel
theorem dX3_addPlace_1 : decode cX3_addPlace 1 = .ok (.getfield 12, 3) := by decide +kernel
theorem dX3_addPlace_4 : decode cX3_addPlace 4 = .ok (.getfield 28, 3) := by decide +kernel
theorem dX3_addPlace_7 : decode cX3_addPlace 7 = .ok (.bipush 10, 2) := by decide +kernel
theorem dX3_addPlace_9 : decode cX3_addPlace 9 = .ok (.if_icmp .lt 13, 3) := by decide +kernel
theorem dX3_addPlace_12 : decode cX3_addPlace 12 = .ok (.new 32, 3) := by decide +kernel
theorem dX3_addPlace_15 : decode cX3_addPlace 15 = .ok (.dup, 1) := by decide +kernel
theorem dX3_addPlace_16 : decode cX3_addPlace 16 = .ok (.ldc 34, 2) := by decide +kernel
theorem dX3_addPlace_18 : decode cX3_addPlace 18 = .ok (.invokespecial 36, 3) := by decide +kernel
theorem dX3_addPlace_21 : decode cX3_addPlace 21 = .ok (.athrow, 1) := by decide +kernel
theorem dX3_addPlace_22 : decode cX3_addPlace 22 = .ok (.aload_n 0, 1) := by decide +kernel
theorem dX3_addPlace_23 : decode cX3_addPlace 23 = .ok (.getfield 12, 3) := by decide +kernel
theorem dX3_addPlace_26 : decode cX3_addPlace 26 = .ok (.dup, 1) := by decide +kernel
theorem dX3_addPlace_27 : decode cX3_addPlace 27 = .ok (.getfield 28, 3) := by decide +kernel
theorem dX3_addPlace_30 : decode cX3_addPlace 30 = .ok (.iconst 1, 1) := by decide +kernel
theorem dX3_addPlace_31 : decode cX3_addPlace 31 = .ok (.iadd, 1) := by decide +kernel
theorem dX3_addPlace_32 : decode cX3_addPlace 32 = .ok (.putfield 28, 3) := by decide +kernel
theorem dX3_addPlace_35 : decode cX3_addPlace 35 = .ok (.aload_n 0, 1) := by decide +kernel
theorem dX3_addPlace_36 : decode cX3_addPlace 36 = .ok (.getfield 12, 3) := by decide +kernel
theorem dX3_addPlace_39 : decode cX3_addPlace 39 = .ok (.getfield 28, 3) := by decide +kernel
theorem dX3_addPlace_42 : decode cX3_addPlace 42 = .ok (.iconst 1, 1) := by decide +kernel
theorem dX3_addPlace_43 : decode cX3_addPlace 43 = .ok (.isub, 1) := by decide +kernel
theorem dX3_addPlace_44 : decode cX3_addPlace 44 = .ok (.ireturn, 1) := by decide +kernel
set_option maxRecDepth 20000 in
theorem ggX3_addRoad_X3_checkPlace : GoodIn wsX3_addRoad wsX3_checkPlace := goodIn_ca (goodIn_r _ [10, 11, 12, 5, 13, 14, 15, 16, 17, 18, 43, 44, 45, 46, 47, 48, 49, 50, 51, 52, 53] (by decide +kernel) (by decide +kernel)) (goodIn_sub (fun _ h => List.mem_cons_of_mem _ (List.mem_append_right _ h)) (by decide +kernel))
set_option maxRecDepth 20000 in
theorem gX3_addRoad_X3_checkPlace : GoodIn wsX3_addRoad (wsV RX3 39 RX3 yX3_checkPlace wsX3_checkPlace) := goodIn_app (goodIn_of _ (by decide +kernel)) ggX3_addRoad_X3_checkPlace
set_option maxRecDepth 20000 in
theorem ggX3_addRoad_X3_checkRange : GoodIn wsX3_addRoad wsX3_checkRange := goodIn_ca (goodIn_r _ [22, 1, 2] (by decide +kernel) (by decide +kernel)) (goodIn_sub (fun _ h => List.mem_cons_of_mem _ (List.mem_append_left _ (List.mem_append_left _ (List.mem_append_right _ h)))) (by decide +kernel))
set_option maxRecDepth 20000 in
theorem gX3_addRoad_X3_checkRange : GoodIn wsX3_addRoad (wsV RX3 48 RX3 yX3_checkRange wsX3_checkRange) := goodIn_app (goodIn_of _ (by decide +kernel)) ggX3_addRoad_X3_checkRange
set_option maxRecDepth 20000 in
theorem ggX3_addRoad_X1_isFull : GoodIn wsX3_addRoad wsX1_isFull := goodIn_r _ [26, 27, 28, 14, 15, 16, 17, 18, 46, 47, 48, 49, 50, 51, 52, 53] (by decide +kernel) (by decide +kernel)
set_option maxRecDepth 20000 in
theorem gX3_addRoad_X1_isFull : GoodIn wsX3_addRoad (wsV RX3 52 RX1 yX1_isFull wsX1_isFull) := goodIn_app (goodIn_of _ (by decide +kernel)) ggX3_addRoad_X1_isFull
set_option maxRecDepth 20000 in
theorem ggX3_addRoad_X1_join : GoodIn wsX3_addRoad wsX1_join := goodIn_r _ [32, 27, 33, 34, 35, 16, 36, 37, 38, 39, 40, 41, 9, 42, 46, 47, 48, 49, 50, 51, 52, 53] (by decide +kernel) (by decide +kernel)
set_option maxRecDepth 20000 in
theorem gX3_addRoad_X1_join : GoodIn wsX3_addRoad (wsV RX3 58 RX1 yX1_join wsX1_join) := goodIn_app (goodIn_of _ (by decide +kernel)) ggX3_addRoad_X1_join
theorem dX3_addRoad_0 : decode cX3_addRoad 0 = .ok (.aload_n 0, 1) := by decide +kernel
theorem dX3_addRoad_1 : decode cX3_addRoad 1 = .ok (.iload_n 1, 1) := by decide +kernel
theorem dX3_addRoad_2 : decode cX3_addRoad 2 = .ok (.invokevirtual 39, 3) := by decide +kernel
theorem dX3_addRoad_5 : decode cX3_addRoad 5 = .ok (.aload_n 0, 1) := by decide +kernel
theorem dX3_addRoad_6 : decode cX3_addRoad 6 = .ok (.iload_n 2, 1) := by decide +kernel
theorem dX3_addRoad_7 : decode cX3_addRoad 7 = .ok (.invokevirtual 39, 3) := by decide +kernel
theorem dX3_addRoad_10 : decode cX3_addRoad 10 = .ok (.iload_n 1, 1) := by decide +kernel
theorem dX3_addRoad_11 : decode cX3_addRoad 11 = .ok (.iload_n 2, 1) := by decide +kernel
theorem dX3_addRoad_12 : decode cX3_addRoad 12 = .ok (.if_icmp .ne 13, 3) := by decide +kernel
theorem dX3_addRoad_15 : decode cX3_addRoad 15 = .ok (.new 43, 3) := by decide +kernel
theorem dX3_addRoad_18 : decode cX3_addRoad 18 = .ok (.dup, 1) := by decide +kernel
theorem dX3_addRoad_19 : decode cX3_addRoad 19 = .ok (.ldc 45, 2) := by decide +kernel
theorem dX3_addRoad_21 : decode cX3_addRoad 21 = .ok (.invokespecial 47, 3) := by decide +kernel
theorem dX3_addRoad_24 : decode cX3_addRoad 24 = .ok (.athrow, 1) := by decide +kernel
theorem dX3_addRoad_25 : decode cX3_addRoad 25 = .ok (.aload_n 0, 1) := by decide +kernel
theorem dX3_addRoad_26 : decode cX3_addRoad 26 = .ok (.iload_n 3, 1) := by decide +kernel
theorem dX3_addRoad_27 : decode cX3_addRoad 27 = .ok (.bipush 9, 2) := by decide +kernel
theorem dX3_addRoad_29 : decode cX3_addRoad 29 = .ok (.invokevirtual 48, 3) := by decide +kernel
theorem dX3_addRoad_32 : decode cX3_addRoad 32 = .ok (.aload_n 0, 1) := by decide +kernel
theorem dX3_addRoad_33 : decode cX3_addRoad 33 = .ok (.getfield 12, 3) := by decide +kernel
theorem dX3_addRoad_36 : decode cX3_addRoad 36 = .ok (.iload_n 1, 1) := by decide +kernel
theorem dX3_addRoad_37 : decode cX3_addRoad 37 = .ok (.invokevirtual 52, 3) := by decide +kernel
theorem dX3_addRoad_40 : decode cX3_addRoad 40 = .ok (.ifCond .ne 14, 3) := by decide +kernel
theorem dX3_addRoad_43 : decode cX3_addRoad 43 = .ok (.aload_n 0, 1) := by decide +kernel
theorem dX3_addRoad_44 : decode cX3_addRoad 44 = .ok (.getfield 12, 3) := by decide +kernel
theorem dX3_addRoad_47 : decode cX3_addRoad 47 = .ok (.iload_n 2, 1) := by decide +kernel
theorem dX3_addRoad_48 : decode cX3_addRoad 48 = .ok (.invokevirtual 52, 3) := by decide +kernel
theorem dX3_addRoad_51 : decode cX3_addRoad 51 = .ok (.ifCond .eq 13, 3) := by decide +kernel
theorem dX3_addRoad_54 : decode cX3_addRoad 54 = .ok (.new 32, 3) := by decide +kernel
theorem dX3_addRoad_57 : decode cX3_addRoad 57 = .ok (.dup, 1) := by decide +kernel
theorem dX3_addRoad_58 : decode cX3_addRoad 58 = .ok (.ldc 56, 2) := by decide +kernel
theorem dX3_addRoad_60 : decode cX3_addRoad 60 = .ok (.invokespecial 36, 3) := by decide +kernel
theorem dX3_addRoad_63 : decode cX3_addRoad 63 = .ok (.athrow, 1) := by decide +kernel
theorem dX3_addRoad_64 : decode cX3_addRoad 64 = .ok (.aload_n 0, 1) := by decide +kernel
theorem dX3_addRoad_65 : decode cX3_addRoad 65 = .ok (.getfield 12, 3) := by decide +kernel
theorem dX3_addRoad_68 : decode cX3_addRoad 68 = .ok (.iload_n 1, 1) := by decide +kernel
theorem dX3_addRoad_69 : decode cX3_addRoad 69 = .ok (.iload_n 2, 1) := by decide +kernel
theorem dX3_addRoad_70 : decode cX3_addRoad 70 = .ok (.iload_n 3, 1) := by decide +kernel
theorem dX3_addRoad_71 : decode cX3_addRoad 71 = .ok (.invokevirtual 58, 3) := by decide +kernel
theorem dX3_addRoad_74 : decode cX3_addRoad 74 = .ok (.ireturn, 1) := by decide +kernel
set_option maxRecDepth 20000 in
theorem ggX3_turnRoad_X3_checkedEnd : GoodIn wsX3_turnRoad wsX3_checkedEnd := goodIn_ca (goodIn_r _ [6, 7, 8, 1, 9, 10, 11, 12, 13, 14, 15, 16, 17, 18, 19, 28, 29, 30, 31, 32, 33, 34, 35, 36, 37, 38] (by decide +kernel) (by decide +kernel)) (goodIn_sub (fun _ h => List.mem_cons_of_mem _ (List.mem_append_right _ h)) (by decide +kernel))
set_option maxRecDepth 20000 in
theorem gX3_turnRoad_X3_checkedEnd : GoodIn wsX3_turnRoad (wsV RX3 62 RX3 yX3_checkedEnd wsX3_checkedEnd) := goodIn_app (goodIn_of _ (by decide +kernel)) ggX3_turnRoad_X3_checkedEnd
set_option maxRecDepth 20000 in
theorem ggX3_turnRoad_X1_turnEnd : GoodIn wsX3_turnRoad wsX1_turnEnd := goodIn_r _ [23, 24, 25, 26, 5, 27, 31, 32, 33, 34, 35, 36, 37, 38] (by decide +kernel) (by decide +kernel)
set_option maxRecDepth 20000 in
theorem gX3_turnRoad_X1_turnEnd : GoodIn wsX3_turnRoad (wsV RX3 66 RX1 yX1_turnEnd wsX1_turnEnd) := goodIn_app (goodIn_of _ (by decide +kernel)) ggX3_turnRoad_X1_turnEnd
theorem dX3_turnRoad_0 : decode cX3_turnRoad 0 = .ok (.aload_n 0, 1) := by decide +kernel
theorem dX3_turnRoad_1 : decode cX3_turnRoad 1 = .ok (.getfield 12, 3) := by decide +kernel
theorem dX3_turnRoad_4 : decode cX3_turnRoad 4 = .ok (.aload_n 0, 1) := by decide +kernel
theorem dX3_turnRoad_5 : decode cX3_turnRoad 5 = .ok (.iload_n 1, 1) := by decide +kernel
theorem dX3_turnRoad_6 : decode cX3_turnRoad 6 = .ok (.iload_n 2, 1) := by decide +kernel
theorem dX3_turnRoad_7 : decode cX3_turnRoad 7 = .ok (.invokevirtual 62, 3) := by decide +kernel
theorem dX3_turnRoad_10 : decode cX3_turnRoad 10 = .ok (.invokevirtual 66, 3) := by decide +kernel
theorem dX3_turnRoad_13 : decode cX3_turnRoad 13 = .ok (.ireturn, 1) := by decide +kernel
set_option maxRecDepth 20000 in
theorem ggX3_turnShepherd_X3_checkPlace : GoodIn wsX3_turnShepherd wsX3_checkPlace := goodIn_ca (goodIn_r _ [6, 7, 8, 1, 9, 10, 11, 12, 13, 14, 15, 16, 17, 18, 19, 20, 21, 22, 23, 24, 25] (by decide +kernel) (by decide +kernel)) (goodIn_sub (fun _ h => List.mem_cons_of_mem _ (List.mem_append_right _ h)) (by decide +kernel))
set_option maxRecDepth 20000 in
theorem gX3_turnShepherd_X3_checkPlace : GoodIn wsX3_turnShepherd (wsV RX3 39 RX3 yX3_checkPlace wsX3_checkPlace) := goodIn_app (goodIn_of _ (by decide +kernel)) ggX3_turnShepherd_X3_checkPlace
theorem dX3_turnShepherd_0 : decode cX3_turnShepherd 0 = .ok (.aload_n 0, 1) := by decide +kernel
theorem dX3_turnShepherd_1 : decode cX3_turnShepherd 1 = .ok (.iload_n 1, 1) := by decide +kernel
theorem dX3_turnShepherd_2 : decode cX3_turnShepherd 2 = .ok (.invokevirtual 39, 3) := by decide +kernel
theorem dX3_turnShepherd_5 : decode cX3_turnShepherd 5 = .ok (.aload_n 0, 1) := by decide +kernel
theorem dX3_turnShepherd_6 : decode cX3_turnShepherd 6 = .ok (.getfield 12, 3) := by decide +kernel
theorem dX3_turnShepherd_9 : decode cX3_turnShepherd 9 = .ok (.getfield 69, 3) := by decide +kernel
theorem dX3_turnShepherd_12 : decode cX3_turnShepherd 12 = .ok (.iload_n 1, 1) := by decide +kernel
theorem dX3_turnShepherd_13 : decode cX3_turnShepherd 13 = .ok (.aload_n 0, 1) := by decide +kernel
theorem dX3_turnShepherd_14 : decode cX3_turnShepherd 14 = .ok (.getfield 12, 3) := by decide +kernel
theorem dX3_turnShepherd_17 : decode cX3_turnShepherd 17 = .ok (.getfield 69, 3) := by decide +kernel
theorem dX3_turnShepherd_20 : decode cX3_turnShepherd 20 = .ok (.iload_n 1, 1) := by decide +kernel
theorem dX3_turnShepherd_21 : decode cX3_turnShepherd 21 = .ok (.baload, 1) := by decide +kernel
theorem dX3_turnShepherd_22 : decode cX3_turnShepherd 22 = .ok (.ifCond .ne 7, 3) := by decide +kernel
theorem dX3_turnShepherd_25 : decode cX3_turnShepherd 25 = .ok (.iconst 1, 1) := by decide +kernel
theorem dX3_turnShepherd_26 : decode cX3_turnShepherd 26 = .ok (.goto 4, 3) := by decide +kernel
theorem dX3_turnShepherd_29 : decode cX3_turnShepherd 29 = .ok (.iconst 0, 1) := by decide +kernel
theorem dX3_turnShepherd_30 : decode cX3_turnShepherd 30 = .ok (.bastore, 1) := by decide +kernel
theorem dX3_turnShepherd_31 : decode cX3_turnShepherd 31 = .ok (.aload_n 0, 1) := by decide +kernel
theorem dX3_turnShepherd_32 : decode cX3_turnShepherd 32 = .ok (.getfield 12, 3) := by decide +kernel
theorem dX3_turnShepherd_35 : decode cX3_turnShepherd 35 = .ok (.getfield 69, 3) := by decide +kernel
theorem dX3_turnShepherd_38 : decode cX3_turnShepherd 38 = .ok (.iload_n 1, 1) := by decide +kernel
theorem dX3_turnShepherd_39 : decode cX3_turnShepherd 39 = .ok (.baload, 1) := by decide +kernel
theorem dX3_turnShepherd_40 : decode cX3_turnShepherd 40 = .ok (.ireturn, 1) := by decide +kernel
set_option maxRecDepth 20000 in
theorem ggX3_pay_X3_checkRange : GoodIn wsX3_pay wsX3_checkRange := goodIn_ca (goodIn_r _ [10, 11, 12] (by decide +kernel) (by decide +kernel)) (goodIn_sub (fun _ h => List.mem_cons_of_mem _ (List.mem_append_right _ h)) (by decide +kernel))
set_option maxRecDepth 20000 in
theorem gX3_pay_X3_checkRange : GoodIn wsX3_pay (wsV RX3 48 RX3 yX3_checkRange wsX3_checkRange) := goodIn_app (goodIn_of _ (by decide +kernel)) ggX3_pay_X3_checkRange
theorem dX3_pay_0 : decode cX3_pay 0 = .ok (.aload_n 0, 1) := by decide +kernel
theorem dX3_pay_1 : decode cX3_pay 1 = .ok (.iload_n 1, 1) := by decide +kernel
theorem dX3_pay_2 : decode cX3_pay 2 = .ok (.bipush 99, 2) := by decide +kernel
theorem dX3_pay_4 : decode cX3_pay 4 = .ok (.invokevirtual 48, 3) := by decide +kernel
theorem dX3_pay_7 : decode cX3_pay 7 = .ok (.aload_n 0, 1) := by decide +kernel
theorem dX3_pay_8 : decode cX3_pay 8 = .ok (.getfield 21, 3) := by decide +kernel
theorem dX3_pay_11 : decode cX3_pay 11 = .ok (.bipush 99, 2) := by decide +kernel
theorem dX3_pay_13 : decode cX3_pay 13 = .ok (.aload_n 0, 1) := by decide +kernel
theorem dX3_pay_14 : decode cX3_pay 14 = .ok (.getfield 21, 3) := by decide +kernel
theorem dX3_pay_17 : decode cX3_pay 17 = .ok (.getfield 73, 3) := by decide +kernel
theorem dX3_pay_20 : decode cX3_pay 20 = .ok (.iload_n 1, 1) := by decide +kernel
theorem dX3_pay_21 : decode cX3_pay 21 = .ok (.iadd, 1) := by decide +kernel
theorem dX3_pay_22 : decode cX3_pay 22 = .ok (.invokestatic 76, 3) := by decide +kernel
theorem dX3_pay_25 : decode cX3_pay 25 = .ok (.putfield 73, 3) := by decide +kernel
theorem dX3_pay_28 : decode cX3_pay 28 = .ok (.aload_n 0, 1) := by decide +kernel
theorem dX3_pay_29 : decode cX3_pay 29 = .ok (.getfield 21, 3) := by decide +kernel
theorem dX3_pay_32 : decode cX3_pay 32 = .ok (.getfield 73, 3) := by decide +kernel
theorem dX3_pay_35 : decode cX3_pay 35 = .ok (.ireturn, 1) := by decide +kernel
set_option maxRecDepth 20000 in
theorem ggX3_beginErrand_X3_checkPlace : GoodIn wsX3_beginErrand wsX3_checkPlace := goodIn_ca (goodIn_r _ [7, 8, 9, 1, 10, 11, 12, 13, 14, 15, 68, 69, 70, 86, 87, 88, 89, 90, 91, 92, 93] (by decide +kernel) (by decide +kernel)) (goodIn_sub (fun _ h => List.mem_cons_of_mem _ (List.mem_append_left _ (List.mem_append_right _ h))) (by decide +kernel))
set_option maxRecDepth 20000 in
theorem gX3_beginErrand_X3_checkPlace : GoodIn wsX3_beginErrand (wsV RX3 39 RX3 yX3_checkPlace wsX3_checkPlace) := goodIn_app (goodIn_of _ (by decide +kernel)) ggX3_beginErrand_X3_checkPlace
set_option maxRecDepth 20000 in
theorem ggX3_beginErrand_X3_checkIdle : GoodIn wsX3_beginErrand wsX3_checkIdle := goodIn_ca (goodIn_r _ [19, 20, 21, 2, 22, 23, 24, 25, 26, 27, 68, 69, 70, 71, 72, 73, 74, 75, 76, 77, 78, 79, 80, 81, 82, 83, 84, 85] (by decide +kernel) (by decide +kernel)) (goodIn_sub (fun _ h => List.mem_cons_of_mem _ (List.mem_append_right _ h)) (by decide +kernel))
set_option maxRecDepth 20000 in
theorem gX3_beginErrand_X3_checkIdle : GoodIn wsX3_beginErrand (wsV RX3 81 RX3 yX3_checkIdle wsX3_checkIdle) := goodIn_app (goodIn_of _ (by decide +kernel)) ggX3_beginErrand_X3_checkIdle
set_option maxRecDepth 20000 in
theorem ggX3_beginErrand_X1_shortest : GoodIn wsX3_beginErrand wsX1_shortest := goodIn_r _ [31, 32, 33, 34, 35, 36, 13, 37, 38, 39, 40, 41, 42, 11, 12, 14, 15, 43, 44, 45, 46, 47, 48, 49, 50, 6, 51, 86, 87, 88, 89, 90, 91, 92, 93] (by decide +kernel) (by decide +kernel)
set_option maxRecDepth 20000 in
theorem gX3_beginErrand_X1_shortest : GoodIn wsX3_beginErrand (wsV RX3 87 RX1 yX1_shortest wsX1_shortest) := goodIn_app (goodIn_of _ (by decide +kernel)) ggX3_beginErrand_X1_shortest
set_option maxRecDepth 20000 in
theorem ggX3_beginErrand_X0_begin : GoodIn wsX3_beginErrand wsX0_begin := goodIn_r _ [55, 56, 57, 58, 27, 59, 60, 61, 62, 25, 63, 64, 65, 66, 67, 71, 72, 73, 74, 75, 76, 77, 78, 79, 80, 81, 82, 83, 84, 85] (by decide +kernel) (by decide +kernel)
set_option maxRecDepth 20000 in
theorem gX3_beginErrand_X0_begin : GoodIn wsX3_beginErrand (wsV RX3 90 RX0 yX0_begin wsX0_begin) := goodIn_app (goodIn_of _ (by decide +kernel)) ggX3_beginErrand_X0_begin
theorem dX3_beginErrand_0 : decode cX3_beginErrand 0 = .ok (.aload_n 0, 1) := by decide +kernel
theorem dX3_beginErrand_1 : decode cX3_beginErrand 1 = .ok (.iload_n 1, 1) := by decide +kernel
theorem dX3_beginErrand_2 : decode cX3_beginErrand 2 = .ok (.invokevirtual 39, 3) := by decide +kernel
theorem dX3_beginErrand_5 : decode cX3_beginErrand 5 = .ok (.aload_n 0, 1) := by decide +kernel
theorem dX3_beginErrand_6 : decode cX3_beginErrand 6 = .ok (.invokevirtual 81, 3) := by decide +kernel
theorem dX3_beginErrand_9 : decode cX3_beginErrand 9 = .ok (.aload_n 0, 1) := by decide +kernel
theorem dX3_beginErrand_10 : decode cX3_beginErrand 10 = .ok (.getfield 12, 3) := by decide +kernel
theorem dX3_beginErrand_13 : decode cX3_beginErrand 13 = .ok (.aload_n 0, 1) := by decide +kernel
theorem dX3_beginErrand_14 : decode cX3_beginErrand 14 = .ok (.getfield 21, 3) := by decide +kernel
theorem dX3_beginErrand_17 : decode cX3_beginErrand 17 = .ok (.getfield 84, 3) := by decide +kernel
theorem dX3_beginErrand_20 : decode cX3_beginErrand 20 = .ok (.iload_n 1, 1) := by decide +kernel
theorem dX3_beginErrand_21 : decode cX3_beginErrand 21 = .ok (.invokevirtual 87, 3) := by decide +kernel
theorem dX3_beginErrand_24 : decode cX3_beginErrand 24 = .ok (.istore_n 2, 1) := by decide +kernel
theorem dX3_beginErrand_25 : decode cX3_beginErrand 25 = .ok (.aload_n 0, 1) := by decide +kernel
theorem dX3_beginErrand_26 : decode cX3_beginErrand 26 = .ok (.getfield 21, 3) := by decide +kernel
theorem dX3_beginErrand_29 : decode cX3_beginErrand 29 = .ok (.iload_n 1, 1) := by decide +kernel
theorem dX3_beginErrand_30 : decode cX3_beginErrand 30 = .ok (.invokevirtual 90, 3) := by decide +kernel
theorem dX3_beginErrand_33 : decode cX3_beginErrand 33 = .ok (.iload_n 2, 1) := by decide +kernel
theorem dX3_beginErrand_34 : decode cX3_beginErrand 34 = .ok (.ireturn, 1) := by decide +kernel
set_option maxRecDepth 20000 in
theorem ggX3_goOn_X3_checkRange : GoodIn wsX3_goOn wsX3_checkRange := goodIn_ca (goodIn_r _ [6, 7, 8] (by decide +kernel) (by decide +kernel)) (goodIn_sub (fun _ h => List.mem_cons_of_mem _ (List.mem_append_left _ (List.mem_append_right _ h))) (by decide +kernel))
set_option maxRecDepth 20000 in
theorem gX3_goOn_X3_checkRange : GoodIn wsX3_goOn (wsV RX3 48 RX3 yX3_checkRange wsX3_checkRange) := goodIn_app (goodIn_of _ (by decide +kernel)) ggX3_goOn_X3_checkRange
set_option maxRecDepth 20000 in
theorem ggX3_goOn_X3_checkUnderway : GoodIn wsX3_goOn wsX3_checkUnderway := goodIn_ca (goodIn_r _ [12, 13, 14, 1, 15, 16, 17, 18, 19, 20, 142, 143, 144, 145, 146, 147, 148, 149, 150, 151, 152, 153, 154, 155, 156, 157, 158, 159] (by decide +kernel) (by decide +kernel)) (goodIn_sub (fun _ h => List.mem_cons_of_mem _ (List.mem_append_right _ h)) (by decide +kernel))
set_option maxRecDepth 20000 in
theorem gX3_goOn_X3_checkUnderway : GoodIn wsX3_goOn (wsV RX3 93 RX3 yX3_checkUnderway wsX3_checkUnderway) := goodIn_app (goodIn_of _ (by decide +kernel)) ggX3_goOn_X3_checkUnderway
set_option maxRecDepth 20000 in
theorem ggX3_goOn_X0_isUnderway : GoodIn wsX3_goOn wsX0_isUnderway := goodIn_r _ [19, 20, 145, 146, 147, 148, 149, 150, 151, 152, 153, 154, 155, 156, 157, 158, 159] (by decide +kernel) (by decide +kernel)
set_option maxRecDepth 20000 in
theorem gX3_goOn_X0_isUnderway : GoodIn wsX3_goOn (wsV RX3 96 RX0 yX0_isUnderway wsX0_isUnderway) := goodIn_app (goodIn_of _ (by decide +kernel)) ggX3_goOn_X0_isUnderway
set_option maxRecDepth 20000 in
theorem ggX3_goOn_X0_step : GoodIn wsX3_goOn wsX0_step := goodIn_r _ [24, 25, 26, 27, 20, 28, 29, 30, 31, 18, 32, 33, 34, 35, 36, 37, 38, 39, 40, 41, 42, 43, 44, 45, 46, 47, 48, 49, 50, 51, 52, 53, 54, 55, 56, 57, 58, 59, 60, 61, 5, 62, 63, 64, 65, 66, 67, 68, 69, 70, 71, 72, 73, 74, 75, 76, 77, 78, 79, 80, 81, 82, 83, 84, 85, 86, 87, 88, 89, 90, 91, 92, 93, 94, 95, 96, 97, 98, 99, 100, 101, 102, 103, 104, 105, 106, 107, 108, 109, 110, 111, 112, 113, 114, 115, 116, 117, 118, 119, 120, 121, 122, 123, 124, 125, 126, 127, 128, 129, 130, 131, 132, 133, 134, 135, 136, 137, 138, 139, 140, 141, 145, 146, 147, 148, 149, 150, 151, 152, 153, 154, 155, 156, 157, 158, 159, 160, 161, 162, 163, 164, 165, 166, 167, 168, 169] (by decide +kernel) (by decide +kernel)
set_option maxRecDepth 20000 in
theorem gX3_goOn_X0_step : GoodIn wsX3_goOn (wsV RX3 100 RX0 yX0_step wsX0_step) := goodIn_app (goodIn_of _ (by decide +kernel)) ggX3_goOn_X0_step
theorem dX3_goOn_0 : decode cX3_goOn 0 = .ok (.aload_n 0, 1) := by decide +kernel
theorem dX3_goOn_1 : decode cX3_goOn 1 = .ok (.iload_n 1, 1) := by decide +kernel
theorem dX3_goOn_2 : decode cX3_goOn 2 = .ok (.bipush 100, 2) := by decide +kernel
theorem dX3_goOn_4 : decode cX3_goOn 4 = .ok (.invokevirtual 48, 3) := by decide +kernel
theorem dX3_goOn_7 : decode cX3_goOn 7 = .ok (.aload_n 0, 1) := by decide +kernel
theorem dX3_goOn_8 : decode cX3_goOn 8 = .ok (.invokevirtual 93, 3) := by decide +kernel
theorem dX3_goOn_11 : decode cX3_goOn 11 = .ok (.iconst 0, 1) := by decide +kernel
theorem dX3_goOn_12 : decode cX3_goOn 12 = .ok (.istore_n 2, 1) := by decide +kernel
theorem dX3_goOn_13 : decode cX3_goOn 13 = .ok (.iload_n 2, 1) := by decide +kernel
theorem dX3_goOn_14 : decode cX3_goOn 14 = .ok (.iload_n 1, 1) := by decide +kernel
theorem dX3_goOn_15 : decode cX3_goOn 15 = .ok (.if_icmp .ge 29, 3) := by decide +kernel
theorem dX3_goOn_18 : decode cX3_goOn 18 = .ok (.aload_n 0, 1) := by decide +kernel
theorem dX3_goOn_19 : decode cX3_goOn 19 = .ok (.getfield 21, 3) := by decide +kernel
theorem dX3_goOn_22 : decode cX3_goOn 22 = .ok (.invokevirtual 96, 3) := by decide +kernel
theorem dX3_goOn_25 : decode cX3_goOn 25 = .ok (.ifCond .eq 19, 3) := by decide +kernel
theorem dX3_goOn_28 : decode cX3_goOn 28 = .ok (.aload_n 0, 1) := by decide +kernel
theorem dX3_goOn_29 : decode cX3_goOn 29 = .ok (.getfield 21, 3) := by decide +kernel
theorem dX3_goOn_32 : decode cX3_goOn 32 = .ok (.invokevirtual 100, 3) := by decide +kernel
theorem dX3_goOn_35 : decode cX3_goOn 35 = .ok (.ifCond .eq 9, 3) := by decide +kernel
theorem dX3_goOn_38 : decode cX3_goOn 38 = .ok (.iinc 2 1, 3) := by decide +kernel
theorem dX3_goOn_41 : decode cX3_goOn 41 = .ok (.goto (-28), 3) := by decide +kernel
theorem dX3_goOn_44 : decode cX3_goOn 44 = .ok (.iload_n 2, 1) := by decide +kernel
theorem dX3_goOn_45 : decode cX3_goOn 45 = .ok (.ireturn, 1) := by decide +kernel
set_option maxRecDepth 20000 in
theorem ggX3_giveUp_X3_checkUnderway : GoodIn wsX3_giveUp wsX3_checkUnderway := goodIn_ca (goodIn_r _ [6, 7, 8, 1, 9, 10, 11, 12, 13, 14, 20, 21, 22, 23, 24, 25, 26, 27, 28, 29, 30, 31, 32, 33, 34, 35, 36, 37] (by decide +kernel) (by decide +kernel)) (goodIn_sub (fun _ h => List.mem_cons_of_mem _ (List.mem_append_right _ h)) (by decide +kernel))
set_option maxRecDepth 20000 in
theorem gX3_giveUp_X3_checkUnderway : GoodIn wsX3_giveUp (wsV RX3 93 RX3 yX3_checkUnderway wsX3_checkUnderway) := goodIn_app (goodIn_of _ (by decide +kernel)) ggX3_giveUp_X3_checkUnderway
set_option maxRecDepth 20000 in
theorem ggX3_giveUp_X0_endErrand : GoodIn wsX3_giveUp wsX0_endErrand := goodIn_r _ [18, 14, 19, 23, 24, 25, 26, 27, 28, 29, 30, 31, 32, 33, 34, 35, 36, 37] (by decide +kernel) (by decide +kernel)
set_option maxRecDepth 20000 in
theorem gX3_giveUp_X0_endErrand : GoodIn wsX3_giveUp (wsV RX3 106 RX0 yX0_endErrand wsX0_endErrand) := goodIn_app (goodIn_of _ (by decide +kernel)) ggX3_giveUp_X0_endErrand
theorem dX3_giveUp_0 : decode cX3_giveUp 0 = .ok (.aload_n 0, 1) := by decide +kernel
theorem dX3_giveUp_1 : decode cX3_giveUp 1 = .ok (.invokevirtual 93, 3) := by decide +kernel
theorem dX3_giveUp_4 : decode cX3_giveUp 4 = .ok (.aload_n 0, 1) := by decide +kernel
theorem dX3_giveUp_5 : decode cX3_giveUp 5 = .ok (.getfield 21, 3) := by decide +kernel
theorem dX3_giveUp_8 : decode cX3_giveUp 8 = .ok (.getfield 103, 3) := by decide +kernel
theorem dX3_giveUp_11 : decode cX3_giveUp 11 = .ok (.istore_n 1, 1) := by decide +kernel
theorem dX3_giveUp_12 : decode cX3_giveUp 12 = .ok (.aload_n 0, 1) := by decide +kernel
theorem dX3_giveUp_13 : decode cX3_giveUp 13 = .ok (.getfield 21, 3) := by decide +kernel
theorem dX3_giveUp_16 : decode cX3_giveUp 16 = .ok (.invokevirtual 106, 3) := by decide +kernel
theorem dX3_giveUp_19 : decode cX3_giveUp 19 = .ok (.iload_n 1, 1) := by decide +kernel
theorem dX3_giveUp_20 : decode cX3_giveUp 20 = .ok (.ireturn, 1) := by decide +kernel
set_option maxRecDepth 20000 in
theorem ggX3_sleep_X3_checkRange : GoodIn wsX3_sleep wsX3_checkRange := goodIn_ca (goodIn_r _ [6, 7, 8] (by decide +kernel) (by decide +kernel)) (goodIn_sub (fun _ h => List.mem_cons_of_mem _ (List.mem_append_right _ h)) (by decide +kernel))
set_option maxRecDepth 20000 in
theorem gX3_sleep_X3_checkRange : GoodIn wsX3_sleep (wsV RX3 48 RX3 yX3_checkRange wsX3_checkRange) := goodIn_app (goodIn_of _ (by decide +kernel)) ggX3_sleep_X3_checkRange
set_option maxRecDepth 20000 in
theorem ggX3_sleep_X2_fade : GoodIn wsX3_sleep wsX2_fade := goodIn_r _ [13, 14, 15, 16, 17, 18, 37, 38] (by decide +kernel) (by decide +kernel)
set_option maxRecDepth 20000 in
theorem gX3_sleep_X2_fade : GoodIn wsX3_sleep (wsV RX3 113 RX2 yX2_fade wsX2_fade) := goodIn_app (goodIn_of _ (by decide +kernel)) ggX3_sleep_X2_fade
theorem dX3_sleep_0 : decode cX3_sleep 0 = .ok (.aload_n 0, 1) := by decide +kernel
theorem dX3_sleep_1 : decode cX3_sleep 1 = .ok (.iload_n 1, 1) := by decide +kernel
theorem dX3_sleep_2 : decode cX3_sleep 2 = .ok (.bipush 9, 2) := by decide +kernel
theorem dX3_sleep_4 : decode cX3_sleep 4 = .ok (.invokevirtual 48, 3) := by decide +kernel
theorem dX3_sleep_7 : decode cX3_sleep 7 = .ok (.aload_n 0, 1) := by decide +kernel
theorem dX3_sleep_8 : decode cX3_sleep 8 = .ok (.getfield 21, 3) := by decide +kernel
theorem dX3_sleep_11 : decode cX3_sleep 11 = .ok (.getfield 109, 3) := by decide +kernel
theorem dX3_sleep_14 : decode cX3_sleep 14 = .ok (.iload_n 1, 1) := by decide +kernel
theorem dX3_sleep_15 : decode cX3_sleep 15 = .ok (.invokevirtual 113, 3) := by decide +kernel
theorem dX3_sleep_18 : decode cX3_sleep 18 = .ok (.ireturn, 1) := by decide +kernel
theorem dX3_places_0 : decode cX3_places 0 = .ok (.aload_n 0, 1) := by decide +kernel
theorem dX3_places_1 : decode cX3_places 1 = .ok (.getfield 12, 3) := by decide +kernel
theorem dX3_places_4 : decode cX3_places 4 = .ok (.getfield 28, 3) := by decide +kernel
theorem dX3_places_7 : decode cX3_places 7 = .ok (.ireturn, 1) := by decide +kernel
set_option maxRecDepth 20000 in
theorem ggX3_exitsOf_X3_checkPlace : GoodIn wsX3_exitsOf wsX3_checkPlace := goodIn_ca (goodIn_r _ [6, 7, 8, 1, 9, 10, 11, 12, 13, 14, 15, 16, 17, 18, 19, 20, 21, 22, 23, 24, 25] (by decide +kernel) (by decide +kernel)) (goodIn_sub (fun _ h => List.mem_cons_of_mem _ (List.mem_append_right _ h)) (by decide +kernel))
set_option maxRecDepth 20000 in
theorem gX3_exitsOf_X3_checkPlace : GoodIn wsX3_exitsOf (wsV RX3 39 RX3 yX3_checkPlace wsX3_checkPlace) := goodIn_app (goodIn_of _ (by decide +kernel)) ggX3_exitsOf_X3_checkPlace
theorem dX3_exitsOf_0 : decode cX3_exitsOf 0 = .ok (.aload_n 0, 1) := by decide +kernel
theorem dX3_exitsOf_1 : decode cX3_exitsOf 1 = .ok (.iload_n 1, 1) := by decide +kernel
theorem dX3_exitsOf_2 : decode cX3_exitsOf 2 = .ok (.invokevirtual 39, 3) := by decide +kernel
theorem dX3_exitsOf_5 : decode cX3_exitsOf 5 = .ok (.aload_n 0, 1) := by decide +kernel
theorem dX3_exitsOf_6 : decode cX3_exitsOf 6 = .ok (.getfield 12, 3) := by decide +kernel
theorem dX3_exitsOf_9 : decode cX3_exitsOf 9 = .ok (.getfield 119, 3) := by decide +kernel
theorem dX3_exitsOf_12 : decode cX3_exitsOf 12 = .ok (.iload_n 1, 1) := by decide +kernel
theorem dX3_exitsOf_13 : decode cX3_exitsOf 13 = .ok (.iaload, 1) := by decide +kernel
theorem dX3_exitsOf_14 : decode cX3_exitsOf 14 = .ok (.ireturn, 1) := by decide +kernel
set_option maxRecDepth 20000 in
theorem ggX3_leadsTo_X3_checkedEnd : GoodIn wsX3_leadsTo wsX3_checkedEnd := goodIn_ca (goodIn_r _ [6, 7, 8, 1, 9, 10, 11, 12, 13, 14, 15, 16, 17, 18, 19, 27, 28, 29, 30, 31, 32, 33, 34, 35, 36, 37] (by decide +kernel) (by decide +kernel)) (goodIn_sub (fun _ h => List.mem_cons_of_mem _ (List.mem_append_right _ h)) (by decide +kernel))
set_option maxRecDepth 20000 in
theorem gX3_leadsTo_X3_checkedEnd : GoodIn wsX3_leadsTo (wsV RX3 62 RX3 yX3_checkedEnd wsX3_checkedEnd) := goodIn_app (goodIn_of _ (by decide +kernel)) ggX3_leadsTo_X3_checkedEnd
set_option maxRecDepth 20000 in
theorem ggX3_leadsTo_X1_beyond : GoodIn wsX3_leadsTo wsX1_beyond := goodIn_r _ [23, 24, 25, 5, 26, 30, 31, 32, 33, 34, 35, 36, 37] (by decide +kernel) (by decide +kernel)
set_option maxRecDepth 20000 in
theorem gX3_leadsTo_X1_beyond : GoodIn wsX3_leadsTo (wsV RX3 123 RX1 yX1_beyond wsX1_beyond) := goodIn_app (goodIn_of _ (by decide +kernel)) ggX3_leadsTo_X1_beyond
theorem dX3_leadsTo_0 : decode cX3_leadsTo 0 = .ok (.aload_n 0, 1) := by decide +kernel
theorem dX3_leadsTo_1 : decode cX3_leadsTo 1 = .ok (.getfield 12, 3) := by decide +kernel
theorem dX3_leadsTo_4 : decode cX3_leadsTo 4 = .ok (.aload_n 0, 1) := by decide +kernel
theorem dX3_leadsTo_5 : decode cX3_leadsTo 5 = .ok (.iload_n 1, 1) := by decide +kernel
theorem dX3_leadsTo_6 : decode cX3_leadsTo 6 = .ok (.iload_n 2, 1) := by decide +kernel
theorem dX3_leadsTo_7 : decode cX3_leadsTo 7 = .ok (.invokevirtual 62, 3) := by decide +kernel
theorem dX3_leadsTo_10 : decode cX3_leadsTo 10 = .ok (.invokevirtual 123, 3) := by decide +kernel
theorem dX3_leadsTo_13 : decode cX3_leadsTo 13 = .ok (.ireturn, 1) := by decide +kernel
set_option maxRecDepth 20000 in
theorem ggX3_milesOf_X3_checkedEnd : GoodIn wsX3_milesOf wsX3_checkedEnd := goodIn_ca (goodIn_r _ [6, 7, 8, 1, 9, 10, 11, 12, 13, 14, 15, 16, 17, 18, 19, 27, 28, 29, 30, 31, 32, 33, 34, 35, 36, 37] (by decide +kernel) (by decide +kernel)) (goodIn_sub (fun _ h => List.mem_cons_of_mem _ (List.mem_append_right _ h)) (by decide +kernel))
set_option maxRecDepth 20000 in
theorem gX3_milesOf_X3_checkedEnd : GoodIn wsX3_milesOf (wsV RX3 62 RX3 yX3_checkedEnd wsX3_checkedEnd) := goodIn_app (goodIn_of _ (by decide +kernel)) ggX3_milesOf_X3_checkedEnd
set_option maxRecDepth 20000 in
theorem ggX3_milesOf_X1_milesAt : GoodIn wsX3_milesOf wsX1_milesAt := goodIn_r _ [23, 24, 25, 5, 26, 30, 31, 32, 33, 34, 35, 36, 37] (by decide +kernel) (by decide +kernel)
set_option maxRecDepth 20000 in
theorem gX3_milesOf_X1_milesAt : GoodIn wsX3_milesOf (wsV RX3 126 RX1 yX1_milesAt wsX1_milesAt) := goodIn_app (goodIn_of _ (by decide +kernel)) ggX3_milesOf_X1_milesAt
theorem dX3_milesOf_0 : decode cX3_milesOf 0 = .ok (.aload_n 0, 1) := by decide +kernel
theorem dX3_milesOf_1 : decode cX3_milesOf 1 = .ok (.getfield 12, 3) := by decide +kernel
theorem dX3_milesOf_4 : decode cX3_milesOf 4 = .ok (.aload_n 0, 1) := by decide +kernel
theorem dX3_milesOf_5 : decode cX3_milesOf 5 = .ok (.iload_n 1, 1) := by decide +kernel
theorem dX3_milesOf_6 : decode cX3_milesOf 6 = .ok (.iload_n 2, 1) := by decide +kernel
theorem dX3_milesOf_7 : decode cX3_milesOf 7 = .ok (.invokevirtual 62, 3) := by decide +kernel
theorem dX3_milesOf_10 : decode cX3_milesOf 10 = .ok (.invokevirtual 126, 3) := by decide +kernel
theorem dX3_milesOf_13 : decode cX3_milesOf 13 = .ok (.ireturn, 1) := by decide +kernel
set_option maxRecDepth 20000 in
theorem ggX3_isOpen_X3_checkedEnd : GoodIn wsX3_isOpen wsX3_checkedEnd := goodIn_ca (goodIn_r _ [6, 7, 8, 1, 9, 10, 11, 12, 13, 14, 15, 16, 17, 18, 19, 27, 28, 29, 30, 31, 32, 33, 34, 35, 36, 37] (by decide +kernel) (by decide +kernel)) (goodIn_sub (fun _ h => List.mem_cons_of_mem _ (List.mem_append_right _ h)) (by decide +kernel))
set_option maxRecDepth 20000 in
theorem gX3_isOpen_X3_checkedEnd : GoodIn wsX3_isOpen (wsV RX3 62 RX3 yX3_checkedEnd wsX3_checkedEnd) := goodIn_app (goodIn_of _ (by decide +kernel)) ggX3_isOpen_X3_checkedEnd
set_option maxRecDepth 20000 in
theorem ggX3_isOpen_X1_opensAt : GoodIn wsX3_isOpen wsX1_opensAt := goodIn_r _ [23, 24, 25, 5, 26, 30, 31, 32, 33, 34, 35, 36, 37] (by decide +kernel) (by decide +kernel)
set_option maxRecDepth 20000 in
theorem gX3_isOpen_X1_opensAt : GoodIn wsX3_isOpen (wsV RX3 129 RX1 yX1_opensAt wsX1_opensAt) := goodIn_app (goodIn_of _ (by decide +kernel)) ggX3_isOpen_X1_opensAt
theorem dX3_isOpen_0 : decode cX3_isOpen 0 = .ok (.aload_n 0, 1) := by decide +kernel
theorem dX3_isOpen_1 : decode cX3_isOpen 1 = .ok (.getfield 12, 3) := by decide +kernel
theorem dX3_isOpen_4 : decode cX3_isOpen 4 = .ok (.aload_n 0, 1) := by decide +kernel
theorem dX3_isOpen_5 : decode cX3_isOpen 5 = .ok (.iload_n 1, 1) := by decide +kernel
theorem dX3_isOpen_6 : decode cX3_isOpen 6 = .ok (.iload_n 2, 1) := by decide +kernel
theorem dX3_isOpen_7 : decode cX3_isOpen 7 = .ok (.invokevirtual 62, 3) := by decide +kernel
theorem dX3_isOpen_10 : decode cX3_isOpen 10 = .ok (.invokevirtual 129, 3) := by decide +kernel
theorem dX3_isOpen_13 : decode cX3_isOpen 13 = .ok (.ireturn, 1) := by decide +kernel
set_option maxRecDepth 20000 in
theorem ggX3_hasShepherd_X3_checkPlace : GoodIn wsX3_hasShepherd wsX3_checkPlace := goodIn_ca (goodIn_r _ [6, 7, 8, 1, 9, 10, 11, 12, 13, 14, 15, 16, 17, 18, 19, 20, 21, 22, 23, 24, 25] (by decide +kernel) (by decide +kernel)) (goodIn_sub (fun _ h => List.mem_cons_of_mem _ (List.mem_append_right _ h)) (by decide +kernel))
set_option maxRecDepth 20000 in
theorem gX3_hasShepherd_X3_checkPlace : GoodIn wsX3_hasShepherd (wsV RX3 39 RX3 yX3_checkPlace wsX3_checkPlace) := goodIn_app (goodIn_of _ (by decide +kernel)) ggX3_hasShepherd_X3_checkPlace
theorem dX3_hasShepherd_0 : decode cX3_hasShepherd 0 = .ok (.aload_n 0, 1) := by decide +kernel
theorem dX3_hasShepherd_1 : decode cX3_hasShepherd 1 = .ok (.iload_n 1, 1) := by decide +kernel
theorem dX3_hasShepherd_2 : decode cX3_hasShepherd 2 = .ok (.invokevirtual 39, 3) := by decide +kernel
theorem dX3_hasShepherd_5 : decode cX3_hasShepherd 5 = .ok (.aload_n 0, 1) := by decide +kernel
theorem dX3_hasShepherd_6 : decode cX3_hasShepherd 6 = .ok (.getfield 12, 3) := by decide +kernel
theorem dX3_hasShepherd_9 : decode cX3_hasShepherd 9 = .ok (.getfield 69, 3) := by decide +kernel
theorem dX3_hasShepherd_12 : decode cX3_hasShepherd 12 = .ok (.iload_n 1, 1) := by decide +kernel
theorem dX3_hasShepherd_13 : decode cX3_hasShepherd 13 = .ok (.baload, 1) := by decide +kernel
theorem dX3_hasShepherd_14 : decode cX3_hasShepherd 14 = .ok (.ireturn, 1) := by decide +kernel
set_option maxRecDepth 20000 in
theorem ggX3_distance_X3_checkPlace : GoodIn wsX3_distance wsX3_checkPlace := goodIn_ca (goodIn_r _ [6, 7, 8, 1, 9, 10, 11, 12, 13, 14, 39, 40, 41, 42, 43, 44, 45, 46, 47, 48, 49] (by decide +kernel) (by decide +kernel)) (goodIn_sub (fun _ h => List.mem_cons_of_mem _ (List.mem_append_right _ h)) (by decide +kernel))
set_option maxRecDepth 20000 in
theorem gX3_distance_X3_checkPlace : GoodIn wsX3_distance (wsV RX3 39 RX3 yX3_checkPlace wsX3_checkPlace) := goodIn_app (goodIn_of _ (by decide +kernel)) ggX3_distance_X3_checkPlace
set_option maxRecDepth 20000 in
theorem ggX3_distance_X1_shortest : GoodIn wsX3_distance wsX1_shortest := goodIn_r _ [18, 19, 20, 21, 22, 23, 12, 24, 25, 26, 27, 28, 29, 10, 11, 13, 14, 30, 31, 32, 33, 34, 35, 36, 37, 5, 38, 42, 43, 44, 45, 46, 47, 48, 49] (by decide +kernel) (by decide +kernel)
set_option maxRecDepth 20000 in
theorem gX3_distance_X1_shortest : GoodIn wsX3_distance (wsV RX3 87 RX1 yX1_shortest wsX1_shortest) := goodIn_app (goodIn_of _ (by decide +kernel)) ggX3_distance_X1_shortest
theorem dX3_distance_0 : decode cX3_distance 0 = .ok (.aload_n 0, 1) := by decide +kernel
theorem dX3_distance_1 : decode cX3_distance 1 = .ok (.iload_n 1, 1) := by decide +kernel
theorem dX3_distance_2 : decode cX3_distance 2 = .ok (.invokevirtual 39, 3) := by decide +kernel
theorem dX3_distance_5 : decode cX3_distance 5 = .ok (.aload_n 0, 1) := by decide +kernel
theorem dX3_distance_6 : decode cX3_distance 6 = .ok (.iload_n 2, 1) := by decide +kernel
theorem dX3_distance_7 : decode cX3_distance 7 = .ok (.invokevirtual 39, 3) := by decide +kernel
theorem dX3_distance_10 : decode cX3_distance 10 = .ok (.aload_n 0, 1) := by decide +kernel
theorem dX3_distance_11 : decode cX3_distance 11 = .ok (.getfield 12, 3) := by decide +kernel
theorem dX3_distance_14 : decode cX3_distance 14 = .ok (.iload_n 1, 1) := by decide +kernel
theorem dX3_distance_15 : decode cX3_distance 15 = .ok (.iload_n 2, 1) := by decide +kernel
theorem dX3_distance_16 : decode cX3_distance 16 = .ok (.invokevirtual 87, 3) := by decide +kernel
theorem dX3_distance_19 : decode cX3_distance 19 = .ok (.ireturn, 1) := by decide +kernel
theorem dX3_whereIs_0 : decode cX3_whereIs 0 = .ok (.aload_n 0, 1) := by decide +kernel
theorem dX3_whereIs_1 : decode cX3_whereIs 1 = .ok (.getfield 12, 3) := by decide +kernel
theorem dX3_whereIs_4 : decode cX3_whereIs 4 = .ok (.getfield 28, 3) := by decide +kernel
theorem dX3_whereIs_7 : decode cX3_whereIs 7 = .ok (.ifCond .ne 7, 3) := by decide +kernel
theorem dX3_whereIs_10 : decode cX3_whereIs 10 = .ok (.iconst (-1), 1) := by decide +kernel
theorem dX3_whereIs_11 : decode cX3_whereIs 11 = .ok (.goto 10, 3) := by decide +kernel
theorem dX3_whereIs_14 : decode cX3_whereIs 14 = .ok (.aload_n 0, 1) := by decide +kernel
theorem dX3_whereIs_15 : decode cX3_whereIs 15 = .ok (.getfield 21, 3) := by decide +kernel
theorem dX3_whereIs_18 : decode cX3_whereIs 18 = .ok (.getfield 84, 3) := by decide +kernel
theorem dX3_whereIs_21 : decode cX3_whereIs 21 = .ok (.ireturn, 1) := by decide +kernel
theorem dX3_coins_0 : decode cX3_coins 0 = .ok (.aload_n 0, 1) := by decide +kernel
theorem dX3_coins_1 : decode cX3_coins 1 = .ok (.getfield 21, 3) := by decide +kernel
theorem dX3_coins_4 : decode cX3_coins 4 = .ok (.getfield 73, 3) := by decide +kernel
theorem dX3_coins_7 : decode cX3_coins 7 = .ok (.ireturn, 1) := by decide +kernel
theorem dX3_goal_0 : decode cX3_goal 0 = .ok (.aload_n 0, 1) := by decide +kernel
theorem dX3_goal_1 : decode cX3_goal 1 = .ok (.getfield 21, 3) := by decide +kernel
theorem dX3_goal_4 : decode cX3_goal 4 = .ok (.getfield 132, 3) := by decide +kernel
theorem dX3_goal_7 : decode cX3_goal 7 = .ok (.ireturn, 1) := by decide +kernel
theorem dX3_wayLength_0 : decode cX3_wayLength 0 = .ok (.aload_n 0, 1) := by decide +kernel
theorem dX3_wayLength_1 : decode cX3_wayLength 1 = .ok (.getfield 21, 3) := by decide +kernel
theorem dX3_wayLength_4 : decode cX3_wayLength 4 = .ok (.getfield 103, 3) := by decide +kernel
theorem dX3_wayLength_7 : decode cX3_wayLength 7 = .ok (.ireturn, 1) := by decide +kernel
set_option maxRecDepth 20000 in
theorem ggX3_isTried_X3_checkedEnd : GoodIn wsX3_isTried wsX3_checkedEnd := goodIn_ca (goodIn_r _ [6, 7, 8, 9, 10, 11, 12, 13, 14, 15, 16, 17, 18, 19, 20, 34, 35, 36, 37, 38, 39, 40, 41, 42, 43, 44] (by decide +kernel) (by decide +kernel)) (goodIn_sub (fun _ h => List.mem_cons_of_mem _ (List.mem_append_right _ h)) (by decide +kernel))
set_option maxRecDepth 20000 in
theorem gX3_isTried_X3_checkedEnd : GoodIn wsX3_isTried (wsV RX3 62 RX3 yX3_checkedEnd wsX3_checkedEnd) := goodIn_app (goodIn_of _ (by decide +kernel)) ggX3_isTried_X3_checkedEnd
set_option maxRecDepth 20000 in
theorem ggX3_isTried_X0_isUnderway : GoodIn wsX3_isTried wsX0_isUnderway := goodIn_r _ [25, 26, 45, 46, 47, 48, 49, 50, 51, 52, 53, 54, 55, 56, 57, 58, 59] (by decide +kernel) (by decide +kernel)
set_option maxRecDepth 20000 in
theorem gX3_isTried_X0_isUnderway : GoodIn wsX3_isTried (wsV RX3 96 RX0 yX0_isUnderway wsX0_isUnderway) := goodIn_app (goodIn_of _ (by decide +kernel)) ggX3_isTried_X0_isUnderway
set_option maxRecDepth 20000 in
theorem ggX3_isTried_X0_hasTried : GoodIn wsX3_isTried wsX0_hasTried := goodIn_r _ [30, 31, 32, 5, 33, 45, 46, 47, 48, 49, 50, 51, 52, 53, 54, 55, 56, 57, 58, 59] (by decide +kernel) (by decide +kernel)
set_option maxRecDepth 20000 in
theorem gX3_isTried_X0_hasTried : GoodIn wsX3_isTried (wsV RX3 135 RX0 yX0_hasTried wsX0_hasTried) := goodIn_app (goodIn_of _ (by decide +kernel)) ggX3_isTried_X0_hasTried
theorem dX3_isTried_0 : decode cX3_isTried 0 = .ok (.aload_n 0, 1) := by decide +kernel
theorem dX3_isTried_1 : decode cX3_isTried 1 = .ok (.iload_n 1, 1) := by decide +kernel
theorem dX3_isTried_2 : decode cX3_isTried 2 = .ok (.iload_n 2, 1) := by decide +kernel
theorem dX3_isTried_3 : decode cX3_isTried 3 = .ok (.invokevirtual 62, 3) := by decide +kernel
theorem dX3_isTried_6 : decode cX3_isTried 6 = .ok (.istore_n 3, 1) := by decide +kernel
theorem dX3_isTried_7 : decode cX3_isTried 7 = .ok (.aload_n 0, 1) := by decide +kernel
theorem dX3_isTried_8 : decode cX3_isTried 8 = .ok (.getfield 21, 3) := by decide +kernel
theorem dX3_isTried_11 : decode cX3_isTried 11 = .ok (.invokevirtual 96, 3) := by decide +kernel
theorem dX3_isTried_14 : decode cX3_isTried 14 = .ok (.ifCond .eq 18, 3) := by decide +kernel
theorem dX3_isTried_17 : decode cX3_isTried 17 = .ok (.aload_n 0, 1) := by decide +kernel
theorem dX3_isTried_18 : decode cX3_isTried 18 = .ok (.getfield 21, 3) := by decide +kernel
theorem dX3_isTried_21 : decode cX3_isTried 21 = .ok (.iload_n 3, 1) := by decide +kernel
theorem dX3_isTried_22 : decode cX3_isTried 22 = .ok (.invokevirtual 135, 3) := by decide +kernel
theorem dX3_isTried_25 : decode cX3_isTried 25 = .ok (.ifCond .eq 7, 3) := by decide +kernel
theorem dX3_isTried_28 : decode cX3_isTried 28 = .ok (.iconst 1, 1) := by decide +kernel
theorem dX3_isTried_29 : decode cX3_isTried 29 = .ok (.goto 4, 3) := by decide +kernel
theorem dX3_isTried_32 : decode cX3_isTried 32 = .ok (.iconst 0, 1) := by decide +kernel
theorem dX3_isTried_33 : decode cX3_isTried 33 = .ok (.ireturn, 1) := by decide +kernel
set_option maxRecDepth 20000 in
theorem ggX3_remembered_X3_checkPlace : GoodIn wsX3_remembered wsX3_checkPlace := goodIn_ca (goodIn_r _ [6, 7, 8, 9, 10, 11, 12, 13, 14, 15, 26, 27, 28, 44, 45, 46, 47, 48, 49, 50, 51] (by decide +kernel) (by decide +kernel)) (goodIn_sub (fun _ h => List.mem_cons_of_mem _ (List.mem_append_right _ h)) (by decide +kernel))
set_option maxRecDepth 20000 in
theorem gX3_remembered_X3_checkPlace : GoodIn wsX3_remembered (wsV RX3 39 RX3 yX3_checkPlace wsX3_checkPlace) := goodIn_app (goodIn_of _ (by decide +kernel)) ggX3_remembered_X3_checkPlace
set_option maxRecDepth 20000 in
theorem ggX3_remembered_X2_exitFor : GoodIn wsX3_remembered wsX2_exitFor := goodIn_r _ [20, 21, 22, 23, 24, 19, 25, 52, 53] (by decide +kernel) (by decide +kernel)
set_option maxRecDepth 20000 in
theorem gX3_remembered_X2_exitFor : GoodIn wsX3_remembered (wsV RX3 138 RX2 yX2_exitFor wsX2_exitFor) := goodIn_app (goodIn_of _ (by decide +kernel)) ggX3_remembered_X2_exitFor
theorem dX3_remembered_0 : decode cX3_remembered 0 = .ok (.aload_n 0, 1) := by decide +kernel
theorem dX3_remembered_1 : decode cX3_remembered 1 = .ok (.iload_n 1, 1) := by decide +kernel
theorem dX3_remembered_2 : decode cX3_remembered 2 = .ok (.invokevirtual 39, 3) := by decide +kernel
theorem dX3_remembered_5 : decode cX3_remembered 5 = .ok (.aload_n 0, 1) := by decide +kernel
theorem dX3_remembered_6 : decode cX3_remembered 6 = .ok (.iload_n 2, 1) := by decide +kernel
theorem dX3_remembered_7 : decode cX3_remembered 7 = .ok (.invokevirtual 39, 3) := by decide +kernel
theorem dX3_remembered_10 : decode cX3_remembered 10 = .ok (.aload_n 0, 1) := by decide +kernel
theorem dX3_remembered_11 : decode cX3_remembered 11 = .ok (.getfield 21, 3) := by decide +kernel
theorem dX3_remembered_14 : decode cX3_remembered 14 = .ok (.getfield 109, 3) := by decide +kernel
theorem dX3_remembered_17 : decode cX3_remembered 17 = .ok (.iload_n 1, 1) := by decide +kernel
theorem dX3_remembered_18 : decode cX3_remembered 18 = .ok (.iload_n 2, 1) := by decide +kernel
theorem dX3_remembered_19 : decode cX3_remembered 19 = .ok (.invokevirtual 138, 3) := by decide +kernel
theorem dX3_remembered_22 : decode cX3_remembered 22 = .ok (.ireturn, 1) := by decide +kernel
set_option maxRecDepth 20000 in
theorem ggX3_strength_X3_checkPlace : GoodIn wsX3_strength wsX3_checkPlace := goodIn_ca (goodIn_r _ [6, 7, 8, 9, 10, 11, 12, 13, 14, 15, 25, 26, 27, 43, 44, 45, 46, 47, 48, 49, 50] (by decide +kernel) (by decide +kernel)) (goodIn_sub (fun _ h => List.mem_cons_of_mem _ (List.mem_append_right _ h)) (by decide +kernel))
set_option maxRecDepth 20000 in
theorem gX3_strength_X3_checkPlace : GoodIn wsX3_strength (wsV RX3 39 RX3 yX3_checkPlace wsX3_checkPlace) := goodIn_app (goodIn_of _ (by decide +kernel)) ggX3_strength_X3_checkPlace
set_option maxRecDepth 20000 in
theorem ggX3_strength_X2_strengthFor : GoodIn wsX3_strength wsX2_strengthFor := goodIn_r _ [20, 21, 22, 23, 19, 24, 51, 52] (by decide +kernel) (by decide +kernel)
set_option maxRecDepth 20000 in
theorem gX3_strength_X2_strengthFor : GoodIn wsX3_strength (wsV RX3 141 RX2 yX2_strengthFor wsX2_strengthFor) := goodIn_app (goodIn_of _ (by decide +kernel)) ggX3_strength_X2_strengthFor
theorem dX3_strength_0 : decode cX3_strength 0 = .ok (.aload_n 0, 1) := by decide +kernel
theorem dX3_strength_1 : decode cX3_strength 1 = .ok (.iload_n 1, 1) := by decide +kernel
theorem dX3_strength_2 : decode cX3_strength 2 = .ok (.invokevirtual 39, 3) := by decide +kernel
theorem dX3_strength_5 : decode cX3_strength 5 = .ok (.aload_n 0, 1) := by decide +kernel
theorem dX3_strength_6 : decode cX3_strength 6 = .ok (.iload_n 2, 1) := by decide +kernel
theorem dX3_strength_7 : decode cX3_strength 7 = .ok (.invokevirtual 39, 3) := by decide +kernel
theorem dX3_strength_10 : decode cX3_strength 10 = .ok (.aload_n 0, 1) := by decide +kernel
theorem dX3_strength_11 : decode cX3_strength 11 = .ok (.getfield 21, 3) := by decide +kernel
theorem dX3_strength_14 : decode cX3_strength 14 = .ok (.getfield 109, 3) := by decide +kernel
theorem dX3_strength_17 : decode cX3_strength 17 = .ok (.iload_n 1, 1) := by decide +kernel
theorem dX3_strength_18 : decode cX3_strength 18 = .ok (.iload_n 2, 1) := by decide +kernel
theorem dX3_strength_19 : decode cX3_strength 19 = .ok (.invokevirtual 141, 3) := by decide +kernel
theorem dX3_strength_22 : decode cX3_strength 22 = .ok (.ireturn, 1) := by decide +kernel
set_option maxRecDepth 20000 in
theorem ggX3_knowsWay_X3_checkPlace : GoodIn wsX3_knowsWay wsX3_checkPlace := goodIn_ca (goodIn_r _ [6, 7, 8, 9, 10, 11, 12, 13, 14, 15, 52, 53, 54, 55, 56, 57, 58, 59, 60, 61, 62] (by decide +kernel) (by decide +kernel)) (goodIn_sub (fun _ h => List.mem_cons_of_mem _ (List.mem_append_right _ h)) (by decide +kernel))
set_option maxRecDepth 20000 in
theorem gX3_knowsWay_X3_checkPlace : GoodIn wsX3_knowsWay (wsV RX3 39 RX3 yX3_checkPlace wsX3_checkPlace) := goodIn_app (goodIn_of _ (by decide +kernel)) ggX3_knowsWay_X3_checkPlace
set_option maxRecDepth 20000 in
theorem ggX3_knowsWay_X0_findsByMemory : GoodIn wsX3_knowsWay wsX0_findsByMemory := goodIn_r _ [20, 21, 22, 23, 24, 25, 26, 27, 28, 29, 30, 31, 32, 33, 34, 35, 36, 13, 37, 38, 39, 11, 12, 14, 15, 40, 41, 42, 43, 44, 45, 5, 46, 47, 48, 49, 50, 51, 63, 64, 65, 66, 67, 68, 69, 70, 71, 72, 73, 74, 75, 76, 77, 78, 79, 55, 56, 57, 58, 59, 60, 61, 62] (by decide +kernel) (by decide +kernel)
set_option maxRecDepth 20000 in
theorem gX3_knowsWay_X0_findsByMemory : GoodIn wsX3_knowsWay (wsV RX3 144 RX0 yX0_findsByMemory wsX0_findsByMemory) := goodIn_app (goodIn_of _ (by decide +kernel)) ggX3_knowsWay_X0_findsByMemory
theorem dX3_knowsWay_0 : decode cX3_knowsWay 0 = .ok (.aload_n 0, 1) := by decide +kernel
theorem dX3_knowsWay_1 : decode cX3_knowsWay 1 = .ok (.iload_n 1, 1) := by decide +kernel
theorem dX3_knowsWay_2 : decode cX3_knowsWay 2 = .ok (.invokevirtual 39, 3) := by decide +kernel
theorem dX3_knowsWay_5 : decode cX3_knowsWay 5 = .ok (.aload_n 0, 1) := by decide +kernel
theorem dX3_knowsWay_6 : decode cX3_knowsWay 6 = .ok (.getfield 21, 3) := by decide +kernel
theorem dX3_knowsWay_9 : decode cX3_knowsWay 9 = .ok (.iload_n 1, 1) := by decide +kernel
theorem dX3_knowsWay_10 : decode cX3_knowsWay 10 = .ok (.invokevirtual 144, 3) := by decide +kernel
theorem dX3_knowsWay_13 : decode cX3_knowsWay 13 = .ok (.ireturn, 1) := by decide +kernel
theorem dX3_milesWalked_0 : decode cX3_milesWalked 0 = .ok (.aload_n 0, 1) := by decide +kernel
theorem dX3_milesWalked_1 : decode cX3_milesWalked 1 = .ok (.getfield 21, 3) := by decide +kernel
theorem dX3_milesWalked_4 : decode cX3_milesWalked 4 = .ok (.getfield 147, 3) := by decide +kernel
theorem dX3_milesWalked_7 : decode cX3_milesWalked 7 = .ok (.ireturn, 1) := by decide +kernel
theorem dX3_milesDoubled_0 : decode cX3_milesDoubled 0 = .ok (.aload_n 0, 1) := by decide +kernel
theorem dX3_milesDoubled_1 : decode cX3_milesDoubled 1 = .ok (.getfield 21, 3) := by decide +kernel
theorem dX3_milesDoubled_4 : decode cX3_milesDoubled 4 = .ok (.getfield 150, 3) := by decide +kernel
theorem dX3_milesDoubled_7 : decode cX3_milesDoubled 7 = .ok (.ireturn, 1) := by decide +kernel
theorem dX3_errandsDone_0 : decode cX3_errandsDone 0 = .ok (.aload_n 0, 1) := by decide +kernel
theorem dX3_errandsDone_1 : decode cX3_errandsDone 1 = .ok (.getfield 21, 3) := by decide +kernel
theorem dX3_errandsDone_4 : decode cX3_errandsDone 4 = .ok (.getfield 153, 3) := by decide +kernel
theorem dX3_errandsDone_7 : decode cX3_errandsDone 7 = .ok (.ireturn, 1) := by decide +kernel
theorem dX3_errandsInVain_0 : decode cX3_errandsInVain 0 = .ok (.aload_n 0, 1) := by decide +kernel
theorem dX3_errandsInVain_1 : decode cX3_errandsInVain 1 = .ok (.getfield 21, 3) := by decide +kernel
theorem dX3_errandsInVain_4 : decode cX3_errandsInVain 4 = .ok (.getfield 156, 3) := by decide +kernel
theorem dX3_errandsInVain_7 : decode cX3_errandsInVain 7 = .ok (.ireturn, 1) := by decide +kernel
theorem dX3_asked_0 : decode cX3_asked 0 = .ok (.aload_n 0, 1) := by decide +kernel
theorem dX3_asked_1 : decode cX3_asked 1 = .ok (.getfield 21, 3) := by decide +kernel
theorem dX3_asked_4 : decode cX3_asked 4 = .ok (.getfield 159, 3) := by decide +kernel
theorem dX3_asked_7 : decode cX3_asked 7 = .ok (.ireturn, 1) := by decide +kernel
set_option maxRecDepth 20000 in
theorem ggX3_wouldWalk_X3_checkPlace : GoodIn wsX3_wouldWalk wsX3_checkPlace := goodIn_ca (goodIn_r _ [5, 6, 7, 8, 9, 10, 11, 12, 13, 14, 168, 169, 170, 171, 172, 173, 174, 175, 176, 177, 178] (by decide +kernel) (by decide +kernel)) (goodIn_sub (fun _ h => List.mem_cons_of_mem _ (List.mem_append_left _ (List.mem_append_right _ h))) (by decide +kernel))
set_option maxRecDepth 20000 in
theorem gX3_wouldWalk_X3_checkPlace : GoodIn wsX3_wouldWalk (wsV RX3 39 RX3 yX3_checkPlace wsX3_checkPlace) := goodIn_app (goodIn_of _ (by decide +kernel)) ggX3_wouldWalk_X3_checkPlace
set_option maxRecDepth 20000 in
theorem ggX3_wouldWalk_X3_checkIdle : GoodIn wsX3_wouldWalk wsX3_checkIdle := goodIn_ca (goodIn_r _ [18, 19, 20, 21, 22, 23, 24, 25, 26, 27, 168, 169, 170, 179, 180, 181, 182, 183, 184, 185, 186, 187, 188, 189, 190, 191, 192, 193] (by decide +kernel) (by decide +kernel)) (goodIn_sub (fun _ h => List.mem_cons_of_mem _ (List.mem_append_right _ h)) (by decide +kernel))
set_option maxRecDepth 20000 in
theorem gX3_wouldWalk_X3_checkIdle : GoodIn wsX3_wouldWalk (wsV RX3 81 RX3 yX3_checkIdle wsX3_checkIdle) := goodIn_app (goodIn_of _ (by decide +kernel)) ggX3_wouldWalk_X3_checkIdle
set_option maxRecDepth 20000 in
theorem ggX3_wouldWalk_X3_trialMiles : GoodIn wsX3_wouldWalk wsX3_trialMiles := goodIn_r _ [31, 32, 21, 33, 34, 35, 25, 36, 37, 38, 39, 40, 41, 42, 43, 44, 45, 46, 47, 48, 49, 50, 51, 52, 53, 54, 55, 56, 57, 58, 59, 60, 27, 61, 62, 63, 64, 65, 66, 67, 68, 22, 23, 24, 26, 69, 70, 71, 72, 73, 74, 75, 76, 77, 78, 79, 80, 81, 82, 83, 84, 85, 86, 87, 12, 88, 89, 90, 10, 11, 13, 14, 91, 92, 93, 94, 95, 4, 96, 97, 98, 99, 100, 101, 102, 103, 104, 105, 106, 107, 108, 109, 110, 111, 112, 113, 114, 115, 116, 117, 118, 119, 120, 121, 122, 123, 124, 125, 126, 127, 128, 129, 130, 131, 132, 133, 134, 135, 136, 137, 138, 139, 140, 141, 142, 143, 144, 145, 146, 147, 148, 149, 150, 151, 152, 153, 154, 155, 156, 157, 158, 159, 160, 161, 162, 163, 164, 165, 166, 167, 168, 169, 170, 179, 180, 181, 182, 183, 184, 185, 186, 187, 188, 189, 190, 191, 192, 193, 194, 195, 171, 172, 173, 174, 175, 176, 177, 178] (by decide +kernel) (by decide +kernel)
set_option maxRecDepth 20000 in
theorem gX3_wouldWalk_X3_trialMiles : GoodIn wsX3_wouldWalk (wsV RX3 162 RX3 yX3_trialMiles wsX3_trialMiles) := goodIn_app (goodIn_of _ (by decide +kernel)) ggX3_wouldWalk_X3_trialMiles
theorem dX3_wouldWalk_0 : decode cX3_wouldWalk 0 = .ok (.aload_n 0, 1) := by decide +kernel
theorem dX3_wouldWalk_1 : decode cX3_wouldWalk 1 = .ok (.iload_n 1, 1) := by decide +kernel
theorem dX3_wouldWalk_2 : decode cX3_wouldWalk 2 = .ok (.invokevirtual 39, 3) := by decide +kernel
theorem dX3_wouldWalk_5 : decode cX3_wouldWalk 5 = .ok (.aload_n 0, 1) := by decide +kernel
theorem dX3_wouldWalk_6 : decode cX3_wouldWalk 6 = .ok (.invokevirtual 81, 3) := by decide +kernel
theorem dX3_wouldWalk_9 : decode cX3_wouldWalk 9 = .ok (.aload_n 0, 1) := by decide +kernel
theorem dX3_wouldWalk_10 : decode cX3_wouldWalk 10 = .ok (.iload_n 1, 1) := by decide +kernel
theorem dX3_wouldWalk_11 : decode cX3_wouldWalk 11 = .ok (.iconst (-1), 1) := by decide +kernel
theorem dX3_wouldWalk_12 : decode cX3_wouldWalk 12 = .ok (.invokevirtual 162, 3) := by decide +kernel
theorem dX3_wouldWalk_15 : decode cX3_wouldWalk 15 = .ok (.ireturn, 1) := by decide +kernel
set_option maxRecDepth 20000 in
theorem ggX3_bestShepherd_X3_checkPlace : GoodIn wsX3_bestShepherd wsX3_checkPlace := goodIn_ca (goodIn_r _ [6, 7, 8, 1, 9, 10, 11, 12, 13, 14, 168, 169, 170, 171, 172, 173, 174, 175, 176, 177, 178] (by decide +kernel) (by decide +kernel)) (goodIn_sub (fun _ h => List.mem_cons_of_mem _ (List.mem_append_left _ (List.mem_append_right _ h))) (by decide +kernel))
set_option maxRecDepth 20000 in
theorem gX3_bestShepherd_X3_checkPlace : GoodIn wsX3_bestShepherd (wsV RX3 39 RX3 yX3_checkPlace wsX3_checkPlace) := goodIn_app (goodIn_of _ (by decide +kernel)) ggX3_bestShepherd_X3_checkPlace
set_option maxRecDepth 20000 in
theorem ggX3_bestShepherd_X3_checkIdle : GoodIn wsX3_bestShepherd wsX3_checkIdle := goodIn_ca (goodIn_r _ [18, 19, 20, 21, 22, 23, 24, 25, 26, 27, 168, 169, 170, 179, 180, 181, 182, 183, 184, 185, 186, 187, 188, 189, 190, 191, 192, 193] (by decide +kernel) (by decide +kernel)) (goodIn_sub (fun _ h => List.mem_cons_of_mem _ (List.mem_append_right _ h)) (by decide +kernel))
set_option maxRecDepth 20000 in
theorem gX3_bestShepherd_X3_checkIdle : GoodIn wsX3_bestShepherd (wsV RX3 81 RX3 yX3_checkIdle wsX3_checkIdle) := goodIn_app (goodIn_of _ (by decide +kernel)) ggX3_bestShepherd_X3_checkIdle
set_option maxRecDepth 20000 in
theorem ggX3_bestShepherd_X3_trialMiles : GoodIn wsX3_bestShepherd wsX3_trialMiles := goodIn_r _ [31, 32, 21, 33, 34, 35, 25, 36, 37, 38, 39, 40, 41, 42, 43, 44, 45, 46, 47, 48, 49, 50, 51, 52, 53, 54, 55, 56, 57, 58, 59, 60, 27, 61, 62, 63, 64, 65, 66, 67, 68, 22, 23, 24, 26, 69, 70, 71, 72, 73, 74, 75, 76, 77, 78, 79, 80, 81, 82, 83, 84, 85, 86, 87, 12, 88, 89, 90, 10, 11, 13, 14, 91, 92, 93, 94, 95, 5, 96, 97, 98, 99, 100, 101, 102, 103, 104, 105, 106, 107, 108, 109, 110, 111, 112, 113, 114, 115, 116, 117, 118, 119, 120, 121, 122, 123, 124, 125, 126, 127, 128, 129, 130, 131, 132, 133, 134, 135, 136, 137, 138, 139, 140, 141, 142, 143, 144, 145, 146, 147, 148, 149, 150, 151, 152, 153, 154, 155, 156, 157, 158, 159, 160, 161, 162, 163, 164, 165, 166, 167, 168, 169, 170, 179, 180, 181, 182, 183, 184, 185, 186, 187, 188, 189, 190, 191, 192, 193, 194, 195, 171, 172, 173, 174, 175, 176, 177, 178] (by decide +kernel) (by decide +kernel)
set_option maxRecDepth 20000 in
theorem gX3_bestShepherd_X3_trialMiles : GoodIn wsX3_bestShepherd (wsV RX3 162 RX3 yX3_trialMiles wsX3_trialMiles) := goodIn_app (goodIn_of _ (by decide +kernel)) ggX3_bestShepherd_X3_trialMiles
theorem dX3_bestShepherd_0 : decode cX3_bestShepherd 0 = .ok (.aload_n 0, 1) := by decide +kernel
theorem dX3_bestShepherd_1 : decode cX3_bestShepherd 1 = .ok (.iload_n 1, 1) := by decide +kernel
theorem dX3_bestShepherd_2 : decode cX3_bestShepherd 2 = .ok (.invokevirtual 39, 3) := by decide +kernel
theorem dX3_bestShepherd_5 : decode cX3_bestShepherd 5 = .ok (.aload_n 0, 1) := by decide +kernel
theorem dX3_bestShepherd_6 : decode cX3_bestShepherd 6 = .ok (.invokevirtual 81, 3) := by decide +kernel
theorem dX3_bestShepherd_9 : decode cX3_bestShepherd 9 = .ok (.aload_n 0, 1) := by decide +kernel
theorem dX3_bestShepherd_10 : decode cX3_bestShepherd 10 = .ok (.iload_n 1, 1) := by decide +kernel
theorem dX3_bestShepherd_11 : decode cX3_bestShepherd 11 = .ok (.iconst (-1), 1) := by decide +kernel
theorem dX3_bestShepherd_12 : decode cX3_bestShepherd 12 = .ok (.invokevirtual 162, 3) := by decide +kernel
theorem dX3_bestShepherd_15 : decode cX3_bestShepherd 15 = .ok (.istore_n 2, 1) := by decide +kernel
theorem dX3_bestShepherd_16 : decode cX3_bestShepherd 16 = .ok (.iconst (-1), 1) := by decide +kernel
theorem dX3_bestShepherd_17 : decode cX3_bestShepherd 17 = .ok (.istore_n 3, 1) := by decide +kernel
theorem dX3_bestShepherd_18 : decode cX3_bestShepherd 18 = .ok (.iconst 0, 1) := by decide +kernel
theorem dX3_bestShepherd_19 : decode cX3_bestShepherd 19 = .ok (.istore 4, 2) := by decide +kernel
theorem dX3_bestShepherd_21 : decode cX3_bestShepherd 21 = .ok (.iload 4, 2) := by decide +kernel
theorem dX3_bestShepherd_23 : decode cX3_bestShepherd 23 = .ok (.aload_n 0, 1) := by decide +kernel
theorem dX3_bestShepherd_24 : decode cX3_bestShepherd 24 = .ok (.getfield 12, 3) := by decide +kernel
theorem dX3_bestShepherd_27 : decode cX3_bestShepherd 27 = .ok (.getfield 28, 3) := by decide +kernel
theorem dX3_bestShepherd_30 : decode cX3_bestShepherd 30 = .ok (.if_icmp .ge 58, 3) := by decide +kernel
theorem dX3_bestShepherd_33 : decode cX3_bestShepherd 33 = .ok (.aload_n 0, 1) := by decide +kernel
theorem dX3_bestShepherd_34 : decode cX3_bestShepherd 34 = .ok (.getfield 12, 3) := by decide +kernel
theorem dX3_bestShepherd_37 : decode cX3_bestShepherd 37 = .ok (.getfield 69, 3) := by decide +kernel
theorem dX3_bestShepherd_40 : decode cX3_bestShepherd 40 = .ok (.iload 4, 2) := by decide +kernel
theorem dX3_bestShepherd_42 : decode cX3_bestShepherd 42 = .ok (.baload, 1) := by decide +kernel
theorem dX3_bestShepherd_43 : decode cX3_bestShepherd 43 = .ok (.ifCond .eq 7, 3) := by decide +kernel
theorem dX3_bestShepherd_46 : decode cX3_bestShepherd 46 = .ok (.iconst (-1), 1) := by decide +kernel
theorem dX3_bestShepherd_47 : decode cX3_bestShepherd 47 = .ok (.goto 10, 3) := by decide +kernel
theorem dX3_bestShepherd_50 : decode cX3_bestShepherd 50 = .ok (.aload_n 0, 1) := by decide +kernel
theorem dX3_bestShepherd_51 : decode cX3_bestShepherd 51 = .ok (.iload_n 1, 1) := by decide +kernel
theorem dX3_bestShepherd_52 : decode cX3_bestShepherd 52 = .ok (.iload 4, 2) := by decide +kernel
theorem dX3_bestShepherd_54 : decode cX3_bestShepherd 54 = .ok (.invokevirtual 162, 3) := by decide +kernel
theorem dX3_bestShepherd_57 : decode cX3_bestShepherd 57 = .ok (.istore 5, 2) := by decide +kernel
theorem dX3_bestShepherd_59 : decode cX3_bestShepherd 59 = .ok (.iload 5, 2) := by decide +kernel
theorem dX3_bestShepherd_61 : decode cX3_bestShepherd 61 = .ok (.iconst (-1), 1) := by decide +kernel
theorem dX3_bestShepherd_62 : decode cX3_bestShepherd 62 = .ok (.if_icmp .eq 20, 3) := by decide +kernel
theorem dX3_bestShepherd_65 : decode cX3_bestShepherd 65 = .ok (.iload_n 2, 1) := by decide +kernel
theorem dX3_bestShepherd_66 : decode cX3_bestShepherd 66 = .ok (.iconst (-1), 1) := by decide +kernel
theorem dX3_bestShepherd_67 : decode cX3_bestShepherd 67 = .ok (.if_icmp .eq 9, 3) := by decide +kernel
theorem dX3_bestShepherd_70 : decode cX3_bestShepherd 70 = .ok (.iload 5, 2) := by decide +kernel
theorem dX3_bestShepherd_72 : decode cX3_bestShepherd 72 = .ok (.iload_n 2, 1) := by decide +kernel
theorem dX3_bestShepherd_73 : decode cX3_bestShepherd 73 = .ok (.if_icmp .ge 9, 3) := by decide +kernel
theorem dX3_bestShepherd_76 : decode cX3_bestShepherd 76 = .ok (.iload 5, 2) := by decide +kernel
theorem dX3_bestShepherd_78 : decode cX3_bestShepherd 78 = .ok (.istore_n 2, 1) := by decide +kernel
theorem dX3_bestShepherd_79 : decode cX3_bestShepherd 79 = .ok (.iload 4, 2) := by decide +kernel
theorem dX3_bestShepherd_81 : decode cX3_bestShepherd 81 = .ok (.istore_n 3, 1) := by decide +kernel
theorem dX3_bestShepherd_82 : decode cX3_bestShepherd 82 = .ok (.iinc 4 1, 3) := by decide +kernel
theorem dX3_bestShepherd_85 : decode cX3_bestShepherd 85 = .ok (.goto (-64), 3) := by decide +kernel
theorem dX3_bestShepherd_88 : decode cX3_bestShepherd 88 = .ok (.iload_n 3, 1) := by decide +kernel
theorem dX3_bestShepherd_89 : decode cX3_bestShepherd 89 = .ok (.ireturn, 1) := by decide +kernel
theorem dX3_meanMiles_0 : decode cX3_meanMiles 0 = .ok (.aload_n 0, 1) := by decide +kernel
theorem dX3_meanMiles_1 : decode cX3_meanMiles 1 = .ok (.getfield 21, 3) := by decide +kernel
theorem dX3_meanMiles_4 : decode cX3_meanMiles 4 = .ok (.getfield 153, 3) := by decide +kernel
theorem dX3_meanMiles_7 : decode cX3_meanMiles 7 = .ok (.aload_n 0, 1) := by decide +kernel
theorem dX3_meanMiles_8 : decode cX3_meanMiles 8 = .ok (.getfield 21, 3) := by decide +kernel
theorem dX3_meanMiles_11 : decode cX3_meanMiles 11 = .ok (.getfield 156, 3) := by decide +kernel
theorem dX3_meanMiles_14 : decode cX3_meanMiles 14 = .ok (.iadd, 1) := by decide +kernel
theorem dX3_meanMiles_15 : decode cX3_meanMiles 15 = .ok (.istore_n 1, 1) := by decide +kernel
theorem dX3_meanMiles_16 : decode cX3_meanMiles 16 = .ok (.iload_n 1, 1) := by decide +kernel
theorem dX3_meanMiles_17 : decode cX3_meanMiles 17 = .ok (.ifCond .ne 7, 3) := by decide +kernel
theorem dX3_meanMiles_20 : decode cX3_meanMiles 20 = .ok (.dconst 0, 1) := by decide +kernel
theorem dX3_meanMiles_21 : decode cX3_meanMiles 21 = .ok (.goto 14, 3) := by decide +kernel
theorem dX3_meanMiles_24 : decode cX3_meanMiles 24 = .ok (.aload_n 0, 1) := by decide +kernel
theorem dX3_meanMiles_25 : decode cX3_meanMiles 25 = .ok (.getfield 21, 3) := by decide +kernel
theorem dX3_meanMiles_28 : decode cX3_meanMiles 28 = .ok (.getfield 147, 3) := by decide +kernel
theorem dX3_meanMiles_31 : decode cX3_meanMiles 31 = .ok (.i2d, 1) := by decide +kernel
theorem dX3_meanMiles_32 : decode cX3_meanMiles 32 = .ok (.iload_n 1, 1) := by decide +kernel
theorem dX3_meanMiles_33 : decode cX3_meanMiles 33 = .ok (.i2d, 1) := by decide +kernel
theorem dX3_meanMiles_34 : decode cX3_meanMiles 34 = .ok (.ddiv, 1) := by decide +kernel
theorem dX3_meanMiles_35 : decode cX3_meanMiles 35 = .ok (.dreturn, 1) := by decide +kernel
set_option maxRecDepth 20000 in
theorem ggX3_digest_X3_places : GoodIn wsX3_digest wsX3_places := goodIn_r _ [6, 7, 156, 157, 158, 159, 160, 161, 162, 163, 164, 165, 166] (by decide +kernel) (by decide +kernel)
set_option maxRecDepth 20000 in
theorem gX3_digest_X3_places : GoodIn wsX3_digest (wsV RX3 167 RX3 yX3_places wsX3_places) := goodIn_app (goodIn_of _ (by decide +kernel)) ggX3_digest_X3_places
set_option maxRecDepth 20000 in
theorem ggX3_digest_X3_mix : GoodIn wsX3_digest wsX3_mix := goodIn_r _ [10, 11] (by decide +kernel) (by decide +kernel)
set_option maxRecDepth 20000 in
theorem gX3_digest_X3_mix : GoodIn wsX3_digest (va_wsS RX3 170 yX3_mix wsX3_mix) := goodIn_app (goodIn_of _ (by decide +kernel)) ggX3_digest_X3_mix
set_option maxRecDepth 20000 in
theorem ggX3_digest_X3_whereIs : GoodIn wsX3_digest wsX3_whereIs := goodIn_r _ [15, 7, 16, 156, 157, 158, 159, 160, 161, 162, 163, 164, 165, 166, 167, 168, 169, 170, 171, 172, 173, 174, 175, 176, 177, 178, 179, 180, 181] (by decide +kernel) (by decide +kernel)
set_option maxRecDepth 20000 in
theorem gX3_digest_X3_whereIs : GoodIn wsX3_digest (wsV RX3 174 RX3 yX3_whereIs wsX3_whereIs) := goodIn_app (goodIn_of _ (by decide +kernel)) ggX3_digest_X3_whereIs
set_option maxRecDepth 20000 in
theorem ggX3_digest_X3_coins : GoodIn wsX3_digest wsX3_coins := goodIn_r _ [20, 16, 156, 157, 158, 167, 168, 169, 170, 171, 172, 173, 174, 175, 176, 177, 178, 179, 180, 181] (by decide +kernel) (by decide +kernel)
set_option maxRecDepth 20000 in
theorem gX3_digest_X3_coins : GoodIn wsX3_digest (wsV RX3 177 RX3 yX3_coins wsX3_coins) := goodIn_app (goodIn_of _ (by decide +kernel)) ggX3_digest_X3_coins
set_option maxRecDepth 20000 in
theorem ggX3_digest_X3_goal : GoodIn wsX3_digest wsX3_goal := goodIn_r _ [24, 16, 156, 157, 158, 167, 168, 169, 170, 171, 172, 173, 174, 175, 176, 177, 178, 179, 180, 181] (by decide +kernel) (by decide +kernel)
set_option maxRecDepth 20000 in
theorem gX3_digest_X3_goal : GoodIn wsX3_digest (wsV RX3 179 RX3 yX3_goal wsX3_goal) := goodIn_app (goodIn_of _ (by decide +kernel)) ggX3_digest_X3_goal
set_option maxRecDepth 20000 in
theorem ggX3_digest_X3_wayLength : GoodIn wsX3_digest wsX3_wayLength := goodIn_r _ [28, 16, 156, 157, 158, 167, 168, 169, 170, 171, 172, 173, 174, 175, 176, 177, 178, 179, 180, 181] (by decide +kernel) (by decide +kernel)
set_option maxRecDepth 20000 in
theorem gX3_digest_X3_wayLength : GoodIn wsX3_digest (wsV RX3 181 RX3 yX3_wayLength wsX3_wayLength) := goodIn_app (goodIn_of _ (by decide +kernel)) ggX3_digest_X3_wayLength
set_option maxRecDepth 20000 in
theorem ggX3_digest_X3_milesWalked : GoodIn wsX3_digest wsX3_milesWalked := goodIn_r _ [32, 16, 156, 157, 158, 167, 168, 169, 170, 171, 172, 173, 174, 175, 176, 177, 178, 179, 180, 181] (by decide +kernel) (by decide +kernel)
set_option maxRecDepth 20000 in
theorem gX3_digest_X3_milesWalked : GoodIn wsX3_digest (wsV RX3 183 RX3 yX3_milesWalked wsX3_milesWalked) := goodIn_app (goodIn_of _ (by decide +kernel)) ggX3_digest_X3_milesWalked
set_option maxRecDepth 20000 in
theorem ggX3_digest_X3_milesDoubled : GoodIn wsX3_digest wsX3_milesDoubled := goodIn_r _ [36, 16, 156, 157, 158, 167, 168, 169, 170, 171, 172, 173, 174, 175, 176, 177, 178, 179, 180, 181] (by decide +kernel) (by decide +kernel)
set_option maxRecDepth 20000 in
theorem gX3_digest_X3_milesDoubled : GoodIn wsX3_digest (wsV RX3 186 RX3 yX3_milesDoubled wsX3_milesDoubled) := goodIn_app (goodIn_of _ (by decide +kernel)) ggX3_digest_X3_milesDoubled
set_option maxRecDepth 20000 in
theorem ggX3_digest_X3_errandsDone : GoodIn wsX3_digest wsX3_errandsDone := goodIn_r _ [40, 16, 156, 157, 158, 167, 168, 169, 170, 171, 172, 173, 174, 175, 176, 177, 178, 179, 180, 181] (by decide +kernel) (by decide +kernel)
set_option maxRecDepth 20000 in
theorem gX3_digest_X3_errandsDone : GoodIn wsX3_digest (wsV RX3 189 RX3 yX3_errandsDone wsX3_errandsDone) := goodIn_app (goodIn_of _ (by decide +kernel)) ggX3_digest_X3_errandsDone
set_option maxRecDepth 20000 in
theorem ggX3_digest_X3_errandsInVain : GoodIn wsX3_digest wsX3_errandsInVain := goodIn_r _ [44, 16, 156, 157, 158, 167, 168, 169, 170, 171, 172, 173, 174, 175, 176, 177, 178, 179, 180, 181] (by decide +kernel) (by decide +kernel)
set_option maxRecDepth 20000 in
theorem gX3_digest_X3_errandsInVain : GoodIn wsX3_digest (wsV RX3 192 RX3 yX3_errandsInVain wsX3_errandsInVain) := goodIn_app (goodIn_of _ (by decide +kernel)) ggX3_digest_X3_errandsInVain
set_option maxRecDepth 20000 in
theorem ggX3_digest_X3_asked : GoodIn wsX3_digest wsX3_asked := goodIn_r _ [48, 16, 156, 157, 158, 167, 168, 169, 170, 171, 172, 173, 174, 175, 176, 177, 178, 179, 180, 181] (by decide +kernel) (by decide +kernel)
set_option maxRecDepth 20000 in
theorem gX3_digest_X3_asked : GoodIn wsX3_digest (wsV RX3 195 RX3 yX3_asked wsX3_asked) := goodIn_app (goodIn_of _ (by decide +kernel)) ggX3_digest_X3_asked
set_option maxRecDepth 20000 in
theorem ggX3_digest_X3_mixPlaces : GoodIn wsX3_digest wsX3_mixPlaces := goodIn_ca (goodIn_r _ [52, 7, 53, 54, 55, 5, 56, 57, 58, 59, 60, 61, 62, 63, 64, 65, 66, 67, 68, 69, 70, 71, 8, 9, 10, 11, 72, 73, 74, 75, 76, 77, 78, 79, 80, 81, 82, 83, 84, 85, 86, 87, 88, 89, 90, 91, 92, 93, 94, 95, 96, 97, 98, 99, 100, 101, 102, 103, 104, 105, 106, 107, 108, 109, 110, 111, 112, 113, 114, 115, 116, 117, 118, 16, 119, 120, 121, 122, 123, 124, 125, 126, 127, 128, 129, 156, 157, 158, 159, 160, 161, 162, 163, 164, 165, 166, 167, 168, 169, 170, 171, 172, 173, 174, 175, 176, 177, 178, 179, 180, 181] (by decide +kernel) (by decide +kernel)) (goodIn_sub (fun _ h => List.mem_cons_of_mem _ (List.mem_append_right _ h)) (by decide +kernel))
set_option maxRecDepth 20000 in
theorem gX3_digest_X3_mixPlaces : GoodIn wsX3_digest (wsV RX3 198 RX3 yX3_mixPlaces wsX3_mixPlaces) := goodIn_app (goodIn_of _ (by decide +kernel)) ggX3_digest_X3_mixPlaces
set_option maxRecDepth 20000 in
theorem ggX3_digest_X3_mixMemory : GoodIn wsX3_digest wsX3_mixMemory := goodIn_ca (goodIn_r _ [133, 7, 134, 135, 136, 5, 137, 16, 57, 58, 59, 60, 61, 62, 63, 64, 65, 66, 67, 68, 138, 139, 140, 141, 142, 143, 144, 145, 146, 147, 8, 9, 10, 11, 148, 149, 150, 151, 152, 153, 154, 155, 156, 157, 158, 159, 160, 161, 162, 163, 164, 165, 166, 167, 168, 169, 170, 171, 172, 173, 174, 175, 176, 177, 178, 179, 180, 181, 182, 183] (by decide +kernel) (by decide +kernel)) (goodIn_sub (fun _ h => List.mem_cons_of_mem _ (List.mem_append_right _ h)) (by decide +kernel))
set_option maxRecDepth 20000 in
theorem gX3_digest_X3_mixMemory : GoodIn wsX3_digest (wsV RX3 202 RX3 yX3_mixMemory wsX3_mixMemory) := goodIn_app (goodIn_of _ (by decide +kernel)) ggX3_digest_X3_mixMemory
theorem dX3_digest_0 : decode cX3_digest 0 = .ok (.ldc2_w 165, 3) := by decide +kernel
theorem dX3_digest_3 : decode cX3_digest 3 = .ok (.lstore_n 1, 1) := by decide +kernel
theorem dX3_digest_4 : decode cX3_digest 4 = .ok (.lload_n 1, 1) := by decide +kernel
theorem dX3_digest_5 : decode cX3_digest 5 = .ok (.aload_n 0, 1) := by decide +kernel
theorem dX3_digest_6 : decode cX3_digest 6 = .ok (.invokevirtual 167, 3) := by decide +kernel
theorem dX3_digest_9 : decode cX3_digest 9 = .ok (.i2l, 1) := by decide +kernel
theorem dX3_digest_10 : decode cX3_digest 10 = .ok (.invokestatic 170, 3) := by decide +kernel
theorem dX3_digest_13 : decode cX3_digest 13 = .ok (.lstore_n 1, 1) := by decide +kernel
theorem dX3_digest_14 : decode cX3_digest 14 = .ok (.lload_n 1, 1) := by decide +kernel
theorem dX3_digest_15 : decode cX3_digest 15 = .ok (.aload_n 0, 1) := by decide +kernel
theorem dX3_digest_16 : decode cX3_digest 16 = .ok (.invokevirtual 174, 3) := by decide +kernel
theorem dX3_digest_19 : decode cX3_digest 19 = .ok (.i2l, 1) := by decide +kernel
theorem dX3_digest_20 : decode cX3_digest 20 = .ok (.invokestatic 170, 3) := by decide +kernel
theorem dX3_digest_23 : decode cX3_digest 23 = .ok (.lstore_n 1, 1) := by decide +kernel
theorem dX3_digest_24 : decode cX3_digest 24 = .ok (.lload_n 1, 1) := by decide +kernel
theorem dX3_digest_25 : decode cX3_digest 25 = .ok (.aload_n 0, 1) := by decide +kernel
theorem dX3_digest_26 : decode cX3_digest 26 = .ok (.invokevirtual 177, 3) := by decide +kernel
theorem dX3_digest_29 : decode cX3_digest 29 = .ok (.i2l, 1) := by decide +kernel
theorem dX3_digest_30 : decode cX3_digest 30 = .ok (.invokestatic 170, 3) := by decide +kernel
theorem dX3_digest_33 : decode cX3_digest 33 = .ok (.lstore_n 1, 1) := by decide +kernel
theorem dX3_digest_34 : decode cX3_digest 34 = .ok (.lload_n 1, 1) := by decide +kernel
theorem dX3_digest_35 : decode cX3_digest 35 = .ok (.aload_n 0, 1) := by decide +kernel
theorem dX3_digest_36 : decode cX3_digest 36 = .ok (.invokevirtual 179, 3) := by decide +kernel
theorem dX3_digest_39 : decode cX3_digest 39 = .ok (.i2l, 1) := by decide +kernel
theorem dX3_digest_40 : decode cX3_digest 40 = .ok (.invokestatic 170, 3) := by decide +kernel
theorem dX3_digest_43 : decode cX3_digest 43 = .ok (.lstore_n 1, 1) := by decide +kernel
theorem dX3_digest_44 : decode cX3_digest 44 = .ok (.lload_n 1, 1) := by decide +kernel
theorem dX3_digest_45 : decode cX3_digest 45 = .ok (.aload_n 0, 1) := by decide +kernel
theorem dX3_digest_46 : decode cX3_digest 46 = .ok (.invokevirtual 181, 3) := by decide +kernel
theorem dX3_digest_49 : decode cX3_digest 49 = .ok (.i2l, 1) := by decide +kernel
theorem dX3_digest_50 : decode cX3_digest 50 = .ok (.invokestatic 170, 3) := by decide +kernel
theorem dX3_digest_53 : decode cX3_digest 53 = .ok (.lstore_n 1, 1) := by decide +kernel
theorem dX3_digest_54 : decode cX3_digest 54 = .ok (.lload_n 1, 1) := by decide +kernel
theorem dX3_digest_55 : decode cX3_digest 55 = .ok (.aload_n 0, 1) := by decide +kernel
theorem dX3_digest_56 : decode cX3_digest 56 = .ok (.invokevirtual 183, 3) := by decide +kernel
theorem dX3_digest_59 : decode cX3_digest 59 = .ok (.i2l, 1) := by decide +kernel
theorem dX3_digest_60 : decode cX3_digest 60 = .ok (.invokestatic 170, 3) := by decide +kernel
theorem dX3_digest_63 : decode cX3_digest 63 = .ok (.lstore_n 1, 1) := by decide +kernel
theorem dX3_digest_64 : decode cX3_digest 64 = .ok (.lload_n 1, 1) := by decide +kernel
theorem dX3_digest_65 : decode cX3_digest 65 = .ok (.aload_n 0, 1) := by decide +kernel
theorem dX3_digest_66 : decode cX3_digest 66 = .ok (.invokevirtual 186, 3) := by decide +kernel
theorem dX3_digest_69 : decode cX3_digest 69 = .ok (.i2l, 1) := by decide +kernel
theorem dX3_digest_70 : decode cX3_digest 70 = .ok (.invokestatic 170, 3) := by decide +kernel
theorem dX3_digest_73 : decode cX3_digest 73 = .ok (.lstore_n 1, 1) := by decide +kernel
theorem dX3_digest_74 : decode cX3_digest 74 = .ok (.lload_n 1, 1) := by decide +kernel
theorem dX3_digest_75 : decode cX3_digest 75 = .ok (.aload_n 0, 1) := by decide +kernel
theorem dX3_digest_76 : decode cX3_digest 76 = .ok (.invokevirtual 189, 3) := by decide +kernel
theorem dX3_digest_79 : decode cX3_digest 79 = .ok (.i2l, 1) := by decide +kernel
theorem dX3_digest_80 : decode cX3_digest 80 = .ok (.invokestatic 170, 3) := by decide +kernel
theorem dX3_digest_83 : decode cX3_digest 83 = .ok (.lstore_n 1, 1) := by decide +kernel
theorem dX3_digest_84 : decode cX3_digest 84 = .ok (.lload_n 1, 1) := by decide +kernel
theorem dX3_digest_85 : decode cX3_digest 85 = .ok (.aload_n 0, 1) := by decide +kernel
theorem dX3_digest_86 : decode cX3_digest 86 = .ok (.invokevirtual 192, 3) := by decide +kernel
theorem dX3_digest_89 : decode cX3_digest 89 = .ok (.i2l, 1) := by decide +kernel
theorem dX3_digest_90 : decode cX3_digest 90 = .ok (.invokestatic 170, 3) := by decide +kernel
theorem dX3_digest_93 : decode cX3_digest 93 = .ok (.lstore_n 1, 1) := by decide +kernel
theorem dX3_digest_94 : decode cX3_digest 94 = .ok (.lload_n 1, 1) := by decide +kernel
theorem dX3_digest_95 : decode cX3_digest 95 = .ok (.aload_n 0, 1) := by decide +kernel
theorem dX3_digest_96 : decode cX3_digest 96 = .ok (.invokevirtual 195, 3) := by decide +kernel
theorem dX3_digest_99 : decode cX3_digest 99 = .ok (.i2l, 1) := by decide +kernel
theorem dX3_digest_100 : decode cX3_digest 100 = .ok (.invokestatic 170, 3) := by decide +kernel
theorem dX3_digest_103 : decode cX3_digest 103 = .ok (.lstore_n 1, 1) := by decide +kernel
theorem dX3_digest_104 : decode cX3_digest 104 = .ok (.aload_n 0, 1) := by decide +kernel
theorem dX3_digest_105 : decode cX3_digest 105 = .ok (.aload_n 0, 1) := by decide +kernel
theorem dX3_digest_106 : decode cX3_digest 106 = .ok (.lload_n 1, 1) := by decide +kernel
theorem dX3_digest_107 : decode cX3_digest 107 = .ok (.invokevirtual 198, 3) := by decide +kernel
theorem dX3_digest_110 : decode cX3_digest 110 = .ok (.invokevirtual 202, 3) := by decide +kernel
theorem dX3_digest_113 : decode cX3_digest 113 = .ok (.lreturn, 1) := by decide +kernel
set_option maxRecDepth 20000 in
theorem ggX3_checkPlace_X1_isPlace : GoodIn wsX3_checkPlace wsX1_isPlace := goodIn_r _ [8, 9, 13, 14, 15, 16, 17, 18, 19, 20] (by decide +kernel) (by decide +kernel)
set_option maxRecDepth 20000 in
theorem gX3_checkPlace_X1_isPlace : GoodIn wsX3_checkPlace (wsV RX3 205 RX1 yX1_isPlace wsX1_isPlace) := goodIn_app (goodIn_of _ (by decide +kernel)) ggX3_checkPlace_X1_isPlace
theorem dX3_checkPlace_0 : decode cX3_checkPlace 0 = .ok (.aload_n 0, 1) := by decide +kernel
theorem dX3_checkPlace_1 : decode cX3_checkPlace 1 = .ok (.getfield 12, 3) := by decide +kernel
theorem dX3_checkPlace_4 : decode cX3_checkPlace 4 = .ok (.iload_n 1, 1) := by decide +kernel
theorem dX3_checkPlace_5 : decode cX3_checkPlace 5 = .ok (.invokevirtual 205, 3) := by decide +kernel
theorem dX3_checkPlace_8 : decode cX3_checkPlace 8 = .ok (.ifCond .ne 13, 3) := by decide +kernel
theorem dX3_checkPlace_11 : decode cX3_checkPlace 11 = .ok (.new 208, 3) := by decide +kernel
theorem dX3_checkPlace_14 : decode cX3_checkPlace 14 = .ok (.dup, 1) := by decide +kernel
theorem dX3_checkPlace_15 : decode cX3_checkPlace 15 = .ok (.ldc 210, 2) := by decide +kernel
theorem dX3_checkPlace_17 : decode cX3_checkPlace 17 = .ok (.invokespecial 212, 3) := by decide +kernel
theorem dX3_checkPlace_20 : decode cX3_checkPlace 20 = .ok (.athrow, 1) := by decide +kernel
theorem dX3_checkPlace_21 : decode cX3_checkPlace 21 = .ok (.return_, 1) := by decide +kernel
set_option maxRecDepth 20000 in
theorem ggX3_checkedEnd_X1_endAt : GoodIn wsX3_checkedEnd wsX1_endAt := goodIn_r _ [8, 9, 10, 11, 12, 7, 13, 14, 18, 19, 20, 21, 22, 23, 24, 25] (by decide +kernel) (by decide +kernel)
set_option maxRecDepth 20000 in
theorem gX3_checkedEnd_X1_endAt : GoodIn wsX3_checkedEnd (wsV RX3 213 RX1 yX1_endAt wsX1_endAt) := goodIn_app (goodIn_of _ (by decide +kernel)) ggX3_checkedEnd_X1_endAt
theorem dX3_checkedEnd_0 : decode cX3_checkedEnd 0 = .ok (.aload_n 0, 1) := by decide +kernel
theorem dX3_checkedEnd_1 : decode cX3_checkedEnd 1 = .ok (.getfield 12, 3) := by decide +kernel
theorem dX3_checkedEnd_4 : decode cX3_checkedEnd 4 = .ok (.iload_n 1, 1) := by decide +kernel
theorem dX3_checkedEnd_5 : decode cX3_checkedEnd 5 = .ok (.iload_n 2, 1) := by decide +kernel
theorem dX3_checkedEnd_6 : decode cX3_checkedEnd 6 = .ok (.invokevirtual 213, 3) := by decide +kernel
theorem dX3_checkedEnd_9 : decode cX3_checkedEnd 9 = .ok (.istore_n 3, 1) := by decide +kernel
theorem dX3_checkedEnd_10 : decode cX3_checkedEnd 10 = .ok (.iload_n 3, 1) := by decide +kernel
theorem dX3_checkedEnd_11 : decode cX3_checkedEnd 11 = .ok (.iconst (-1), 1) := by decide +kernel
theorem dX3_checkedEnd_12 : decode cX3_checkedEnd 12 = .ok (.if_icmp .ne 13, 3) := by decide +kernel
theorem dX3_checkedEnd_15 : decode cX3_checkedEnd 15 = .ok (.new 208, 3) := by decide +kernel
theorem dX3_checkedEnd_18 : decode cX3_checkedEnd 18 = .ok (.dup, 1) := by decide +kernel
theorem dX3_checkedEnd_19 : decode cX3_checkedEnd 19 = .ok (.ldc 216, 2) := by decide +kernel
theorem dX3_checkedEnd_21 : decode cX3_checkedEnd 21 = .ok (.invokespecial 212, 3) := by decide +kernel
theorem dX3_checkedEnd_24 : decode cX3_checkedEnd 24 = .ok (.athrow, 1) := by decide +kernel
theorem dX3_checkedEnd_25 : decode cX3_checkedEnd 25 = .ok (.iload_n 3, 1) := by decide +kernel
theorem dX3_checkedEnd_26 : decode cX3_checkedEnd 26 = .ok (.ireturn, 1) := by decide +kernel
theorem dX3_checkRange_0 : decode cX3_checkRange 0 = .ok (.iload_n 1, 1) := by decide +kernel
theorem dX3_checkRange_1 : decode cX3_checkRange 1 = .ok (.iconst 1, 1) := by decide +kernel
theorem dX3_checkRange_2 : decode cX3_checkRange 2 = .ok (.if_icmp .lt 8, 3) := by decide +kernel
theorem dX3_checkRange_5 : decode cX3_checkRange 5 = .ok (.iload_n 1, 1) := by decide +kernel
theorem dX3_checkRange_6 : decode cX3_checkRange 6 = .ok (.iload_n 2, 1) := by decide +kernel
theorem dX3_checkRange_7 : decode cX3_checkRange 7 = .ok (.if_icmp .le 13, 3) := by decide +kernel
theorem dX3_checkRange_10 : decode cX3_checkRange 10 = .ok (.new 43, 3) := by decide +kernel
theorem dX3_checkRange_13 : decode cX3_checkRange 13 = .ok (.dup, 1) := by decide +kernel
theorem dX3_checkRange_14 : decode cX3_checkRange 14 = .ok (.ldc 218, 2) := by decide +kernel
theorem dX3_checkRange_16 : decode cX3_checkRange 16 = .ok (.invokespecial 47, 3) := by decide +kernel
theorem dX3_checkRange_19 : decode cX3_checkRange 19 = .ok (.athrow, 1) := by decide +kernel
theorem dX3_checkRange_20 : decode cX3_checkRange 20 = .ok (.return_, 1) := by decide +kernel
set_option maxRecDepth 20000 in
theorem ggX3_checkIdle_X0_isUnderway : GoodIn wsX3_checkIdle wsX0_isUnderway := goodIn_r _ [8, 9, 13, 14, 15, 16, 17, 18, 19, 20, 21, 22, 23, 24, 25, 26, 27] (by decide +kernel) (by decide +kernel)
set_option maxRecDepth 20000 in
theorem gX3_checkIdle_X0_isUnderway : GoodIn wsX3_checkIdle (wsV RX3 96 RX0 yX0_isUnderway wsX0_isUnderway) := goodIn_app (goodIn_of _ (by decide +kernel)) ggX3_checkIdle_X0_isUnderway
theorem dX3_checkIdle_0 : decode cX3_checkIdle 0 = .ok (.aload_n 0, 1) := by decide +kernel
theorem dX3_checkIdle_1 : decode cX3_checkIdle 1 = .ok (.getfield 21, 3) := by decide +kernel
theorem dX3_checkIdle_4 : decode cX3_checkIdle 4 = .ok (.invokevirtual 96, 3) := by decide +kernel
theorem dX3_checkIdle_7 : decode cX3_checkIdle 7 = .ok (.ifCond .eq 13, 3) := by decide +kernel
theorem dX3_checkIdle_10 : decode cX3_checkIdle 10 = .ok (.new 32, 3) := by decide +kernel
theorem dX3_checkIdle_13 : decode cX3_checkIdle 13 = .ok (.dup, 1) := by decide +kernel
theorem dX3_checkIdle_14 : decode cX3_checkIdle 14 = .ok (.ldc 220, 2) := by decide +kernel
theorem dX3_checkIdle_16 : decode cX3_checkIdle 16 = .ok (.invokespecial 36, 3) := by decide +kernel
theorem dX3_checkIdle_19 : decode cX3_checkIdle 19 = .ok (.athrow, 1) := by decide +kernel
theorem dX3_checkIdle_20 : decode cX3_checkIdle 20 = .ok (.return_, 1) := by decide +kernel
set_option maxRecDepth 20000 in
theorem ggX3_checkUnderway_X0_isUnderway : GoodIn wsX3_checkUnderway wsX0_isUnderway := goodIn_r _ [8, 9, 13, 14, 15, 16, 17, 18, 19, 20, 21, 22, 23, 24, 25, 26, 27] (by decide +kernel) (by decide +kernel)
set_option maxRecDepth 20000 in
theorem gX3_checkUnderway_X0_isUnderway : GoodIn wsX3_checkUnderway (wsV RX3 96 RX0 yX0_isUnderway wsX0_isUnderway) := goodIn_app (goodIn_of _ (by decide +kernel)) ggX3_checkUnderway_X0_isUnderway
theorem dX3_checkUnderway_0 : decode cX3_checkUnderway 0 = .ok (.aload_n 0, 1) := by decide +kernel
theorem dX3_checkUnderway_1 : decode cX3_checkUnderway 1 = .ok (.getfield 21, 3) := by decide +kernel
theorem dX3_checkUnderway_4 : decode cX3_checkUnderway 4 = .ok (.invokevirtual 96, 3) := by decide +kernel
theorem dX3_checkUnderway_7 : decode cX3_checkUnderway 7 = .ok (.ifCond .ne 13, 3) := by decide +kernel
theorem dX3_checkUnderway_10 : decode cX3_checkUnderway 10 = .ok (.new 32, 3) := by decide +kernel
theorem dX3_checkUnderway_13 : decode cX3_checkUnderway 13 = .ok (.dup, 1) := by decide +kernel
theorem dX3_checkUnderway_14 : decode cX3_checkUnderway 14 = .ok (.ldc 222, 2) := by decide +kernel
theorem dX3_checkUnderway_16 : decode cX3_checkUnderway 16 = .ok (.invokespecial 36, 3) := by decide +kernel
theorem dX3_checkUnderway_19 : decode cX3_checkUnderway 19 = .ok (.athrow, 1) := by decide +kernel
theorem dX3_checkUnderway_20 : decode cX3_checkUnderway 20 = .ok (.return_, 1) := by decide +kernel
set_option maxRecDepth 20000 in
theorem ggX3_trialMiles_X0_startLike : GoodIn wsX3_trialMiles wsX0_startLike := goodIn_r _ [7, 8, 9, 10, 11, 12, 13, 14, 15, 16, 17, 18, 19, 20, 21, 22, 23, 24, 153, 154, 155, 156, 157, 158, 159, 160, 161, 162, 163, 164, 165, 166, 167, 168, 169] (by decide +kernel) (by decide +kernel)
set_option maxRecDepth 20000 in
theorem gX3_trialMiles_X0_startLike : GoodIn wsX3_trialMiles (wsV RX3 224 RX0 yX0_startLike wsX0_startLike) := goodIn_app (goodIn_of _ (by decide +kernel)) ggX3_trialMiles_X0_startLike
set_option maxRecDepth 20000 in
theorem ggX3_trialMiles_X0_begin : GoodIn wsX3_trialMiles wsX0_begin := goodIn_r _ [28, 29, 30, 31, 32, 8, 33, 34, 35, 6, 36, 37, 38, 39, 40, 153, 154, 155, 156, 157, 158, 159, 160, 161, 162, 163, 164, 165, 166, 167] (by decide +kernel) (by decide +kernel)
set_option maxRecDepth 20000 in
theorem gX3_trialMiles_X0_begin : GoodIn wsX3_trialMiles (wsV RX3 90 RX0 yX0_begin wsX0_begin) := goodIn_app (goodIn_of _ (by decide +kernel)) ggX3_trialMiles_X0_begin
set_option maxRecDepth 20000 in
theorem ggX3_trialMiles_X0_isUnderway : GoodIn wsX3_trialMiles wsX0_isUnderway := goodIn_r _ [44, 32, 153, 154, 155, 156, 157, 158, 159, 160, 161, 162, 163, 164, 165, 166, 167] (by decide +kernel) (by decide +kernel)
set_option maxRecDepth 20000 in
theorem gX3_trialMiles_X0_isUnderway : GoodIn wsX3_trialMiles (wsV RX3 96 RX0 yX0_isUnderway wsX0_isUnderway) := goodIn_app (goodIn_of _ (by decide +kernel)) ggX3_trialMiles_X0_isUnderway
set_option maxRecDepth 20000 in
theorem ggX3_trialMiles_X0_step : GoodIn wsX3_trialMiles wsX0_step := goodIn_r _ [48, 31, 13, 8, 32, 33, 49, 50, 51, 6, 52, 53, 10, 54, 55, 56, 17, 57, 24, 19, 58, 59, 60, 61, 62, 63, 64, 65, 66, 67, 68, 69, 70, 71, 72, 73, 74, 75, 29, 76, 77, 78, 79, 80, 81, 82, 11, 30, 9, 83, 84, 85, 86, 87, 88, 89, 90, 91, 92, 93, 94, 95, 96, 97, 98, 99, 100, 101, 102, 103, 104, 105, 106, 107, 108, 109, 110, 111, 112, 113, 114, 115, 116, 117, 118, 119, 120, 121, 122, 12, 123, 124, 125, 126, 127, 128, 129, 130, 131, 132, 133, 134, 135, 136, 37, 38, 39, 40, 137, 138, 139, 140, 141, 142, 143, 144, 145, 146, 147, 148, 149, 153, 154, 155, 156, 157, 158, 159, 160, 161, 162, 163, 164, 165, 166, 167, 168, 169, 170, 171, 172, 173, 174, 175, 176, 177] (by decide +kernel) (by decide +kernel)
set_option maxRecDepth 20000 in
theorem gX3_trialMiles_X0_step : GoodIn wsX3_trialMiles (wsV RX3 100 RX0 yX0_step wsX0_step) := goodIn_app (goodIn_of _ (by decide +kernel)) ggX3_trialMiles_X0_step
theorem dX3_trialMiles_0 : decode cX3_trialMiles 0 = .ok (.aload_n 0, 1) := by decide +kernel
theorem dX3_trialMiles_1 : decode cX3_trialMiles 1 = .ok (.getfield 25, 3) := by decide +kernel
theorem dX3_trialMiles_4 : decode cX3_trialMiles 4 = .ok (.aload_n 0, 1) := by decide +kernel
theorem dX3_trialMiles_5 : decode cX3_trialMiles 5 = .ok (.getfield 21, 3) := by decide +kernel
theorem dX3_trialMiles_8 : decode cX3_trialMiles 8 = .ok (.iload_n 2, 1) := by decide +kernel
theorem dX3_trialMiles_9 : decode cX3_trialMiles 9 = .ok (.invokevirtual 224, 3) := by decide +kernel
theorem dX3_trialMiles_12 : decode cX3_trialMiles 12 = .ok (.aload_n 0, 1) := by decide +kernel
theorem dX3_trialMiles_13 : decode cX3_trialMiles 13 = .ok (.getfield 25, 3) := by decide +kernel
theorem dX3_trialMiles_16 : decode cX3_trialMiles 16 = .ok (.iload_n 1, 1) := by decide +kernel
theorem dX3_trialMiles_17 : decode cX3_trialMiles 17 = .ok (.invokevirtual 90, 3) := by decide +kernel
theorem dX3_trialMiles_20 : decode cX3_trialMiles 20 = .ok (.iconst 0, 1) := by decide +kernel
theorem dX3_trialMiles_21 : decode cX3_trialMiles 21 = .ok (.istore_n 3, 1) := by decide +kernel
theorem dX3_trialMiles_22 : decode cX3_trialMiles 22 = .ok (.iload_n 3, 1) := by decide +kernel
theorem dX3_trialMiles_23 : decode cX3_trialMiles 23 = .ok (.sipush 1000, 3) := by decide +kernel
theorem dX3_trialMiles_26 : decode cX3_trialMiles 26 = .ok (.if_icmp .ge 27, 3) := by decide +kernel
theorem dX3_trialMiles_29 : decode cX3_trialMiles 29 = .ok (.aload_n 0, 1) := by decide +kernel
theorem dX3_trialMiles_30 : decode cX3_trialMiles 30 = .ok (.getfield 25, 3) := by decide +kernel
theorem dX3_trialMiles_33 : decode cX3_trialMiles 33 = .ok (.invokevirtual 96, 3) := by decide +kernel
theorem dX3_trialMiles_36 : decode cX3_trialMiles 36 = .ok (.ifCond .eq 17, 3) := by decide +kernel
theorem dX3_trialMiles_39 : decode cX3_trialMiles 39 = .ok (.aload_n 0, 1) := by decide +kernel
theorem dX3_trialMiles_40 : decode cX3_trialMiles 40 = .ok (.getfield 25, 3) := by decide +kernel
theorem dX3_trialMiles_43 : decode cX3_trialMiles 43 = .ok (.invokevirtual 100, 3) := by decide +kernel
theorem dX3_trialMiles_46 : decode cX3_trialMiles 46 = .ok (.pop, 1) := by decide +kernel
theorem dX3_trialMiles_47 : decode cX3_trialMiles 47 = .ok (.iinc 3 1, 3) := by decide +kernel
theorem dX3_trialMiles_50 : decode cX3_trialMiles 50 = .ok (.goto (-28), 3) := by decide +kernel
theorem dX3_trialMiles_53 : decode cX3_trialMiles 53 = .ok (.aload_n 0, 1) := by decide +kernel
theorem dX3_trialMiles_54 : decode cX3_trialMiles 54 = .ok (.getfield 25, 3) := by decide +kernel
theorem dX3_trialMiles_57 : decode cX3_trialMiles 57 = .ok (.getfield 156, 3) := by decide +kernel
theorem dX3_trialMiles_60 : decode cX3_trialMiles 60 = .ok (.ifCond .le 7, 3) := by decide +kernel
theorem dX3_trialMiles_63 : decode cX3_trialMiles 63 = .ok (.iconst (-1), 1) := by decide +kernel
theorem dX3_trialMiles_64 : decode cX3_trialMiles 64 = .ok (.goto 10, 3) := by decide +kernel
theorem dX3_trialMiles_67 : decode cX3_trialMiles 67 = .ok (.aload_n 0, 1) := by decide +kernel
theorem dX3_trialMiles_68 : decode cX3_trialMiles 68 = .ok (.getfield 25, 3) := by decide +kernel
theorem dX3_trialMiles_71 : decode cX3_trialMiles 71 = .ok (.getfield 147, 3) := by decide +kernel
theorem dX3_trialMiles_74 : decode cX3_trialMiles 74 = .ok (.ireturn, 1) := by decide +kernel
theorem dX3_mix_0 : decode cX3_mix 0 = .ok (.lload_n 0, 1) := by decide +kernel
theorem dX3_mix_1 : decode cX3_mix 1 = .ok (.ldc2_w 228, 3) := by decide +kernel
theorem dX3_mix_4 : decode cX3_mix 4 = .ok (.lmul, 1) := by decide +kernel
theorem dX3_mix_5 : decode cX3_mix 5 = .ok (.lload_n 2, 1) := by decide +kernel
theorem dX3_mix_6 : decode cX3_mix 6 = .ok (.ladd, 1) := by decide +kernel
theorem dX3_mix_7 : decode cX3_mix 7 = .ok (.lreturn, 1) := by decide +kernel
set_option maxRecDepth 20000 in
theorem ggX3_mixFlag_X3_mix : GoodIn wsX3_mixFlag wsX3_mix := goodIn_r _ [4, 5] (by decide +kernel) (by decide +kernel)
set_option maxRecDepth 20000 in
theorem gX3_mixFlag_X3_mix : GoodIn wsX3_mixFlag (va_wsS RX3 170 yX3_mix wsX3_mix) := goodIn_app (goodIn_of _ (by decide +kernel)) ggX3_mixFlag_X3_mix
theorem dX3_mixFlag_0 : decode cX3_mixFlag 0 = .ok (.lload_n 0, 1) := by decide +kernel
theorem dX3_mixFlag_1 : decode cX3_mixFlag 1 = .ok (.iload_n 2, 1) := by decide +kernel
theorem dX3_mixFlag_2 : decode cX3_mixFlag 2 = .ok (.ifCond .eq 7, 3) := by decide +kernel
theorem dX3_mixFlag_5 : decode cX3_mixFlag 5 = .ok (.lconst 1, 1) := by decide +kernel
theorem dX3_mixFlag_6 : decode cX3_mixFlag 6 = .ok (.goto 4, 3) := by decide +kernel
theorem dX3_mixFlag_9 : decode cX3_mixFlag 9 = .ok (.lconst 0, 1) := by decide +kernel
theorem dX3_mixFlag_10 : decode cX3_mixFlag 10 = .ok (.invokestatic 170, 3) := by decide +kernel
theorem dX3_mixFlag_13 : decode cX3_mixFlag 13 = .ok (.lreturn, 1) := by decide +kernel
set_option maxRecDepth 20000 in
theorem ggX3_mixPlaces_X3_hasShepherd : GoodIn wsX3_mixPlaces wsX3_hasShepherd := goodIn_ca (goodIn_r _ [6, 1, 7, 8, 9, 5, 10, 11, 12, 13, 14, 15, 16, 17, 18, 85, 86, 87, 88, 89, 90, 91, 92, 93, 94, 95] (by decide +kernel) (by decide +kernel)) (goodIn_sub (fun _ h => List.mem_cons_of_mem _ (List.mem_append_right _ h)) (by decide +kernel))
set_option maxRecDepth 20000 in
theorem gX3_mixPlaces_X3_hasShepherd : GoodIn wsX3_mixPlaces (wsV RX3 230 RX3 yX3_hasShepherd wsX3_hasShepherd) := goodIn_app (goodIn_of _ (by decide +kernel)) ggX3_mixPlaces_X3_hasShepherd
set_option maxRecDepth 20000 in
theorem ggX3_mixPlaces_X3_mixFlag : GoodIn wsX3_mixPlaces wsX3_mixFlag := goodIn_r _ [21, 22, 23, 5, 24, 25] (by decide +kernel) (by decide +kernel)
set_option maxRecDepth 20000 in
theorem gX3_mixPlaces_X3_mixFlag : GoodIn wsX3_mixPlaces (va_wsS RX3 233 yX3_mixFlag wsX3_mixFlag) := goodIn_app (goodIn_of _ (by decide +kernel)) ggX3_mixPlaces_X3_mixFlag
set_option maxRecDepth 20000 in
theorem ggX3_mixPlaces_X3_exitsOf : GoodIn wsX3_mixPlaces wsX3_exitsOf := goodIn_ca (goodIn_r _ [29, 1, 7, 8, 9, 5, 10, 11, 12, 13, 14, 15, 16, 17, 18, 85, 86, 87, 88, 89, 90, 91, 92, 93, 94, 95] (by decide +kernel) (by decide +kernel)) (goodIn_sub (fun _ h => List.mem_cons_of_mem _ (List.mem_append_right _ h)) (by decide +kernel))
set_option maxRecDepth 20000 in
theorem gX3_mixPlaces_X3_exitsOf : GoodIn wsX3_mixPlaces (wsV RX3 237 RX3 yX3_exitsOf wsX3_exitsOf) := goodIn_app (goodIn_of _ (by decide +kernel)) ggX3_mixPlaces_X3_exitsOf
set_option maxRecDepth 20000 in
theorem ggX3_mixPlaces_X3_mix : GoodIn wsX3_mixPlaces wsX3_mix := goodIn_r _ [24, 25] (by decide +kernel) (by decide +kernel)
set_option maxRecDepth 20000 in
theorem gX3_mixPlaces_X3_mix : GoodIn wsX3_mixPlaces (va_wsS RX3 170 yX3_mix wsX3_mix) := goodIn_app (goodIn_of _ (by decide +kernel)) ggX3_mixPlaces_X3_mix
set_option maxRecDepth 20000 in
theorem ggX3_mixPlaces_X3_leadsTo : GoodIn wsX3_mixPlaces wsX3_leadsTo := goodIn_ca (goodIn_r _ [33, 1, 34, 35, 36, 5, 37, 11, 12, 38, 39, 40, 16, 41, 42, 43, 14, 15, 17, 18, 44, 45, 46, 47, 48, 49, 50, 85, 86, 87, 88, 89, 90, 91, 92, 93, 94, 95] (by decide +kernel) (by decide +kernel)) (goodIn_sub (fun _ h => List.mem_cons_of_mem _ (List.mem_append_right _ h)) (by decide +kernel))
set_option maxRecDepth 20000 in
theorem gX3_mixPlaces_X3_leadsTo : GoodIn wsX3_mixPlaces (wsV RX3 240 RX3 yX3_leadsTo wsX3_leadsTo) := goodIn_app (goodIn_of _ (by decide +kernel)) ggX3_mixPlaces_X3_leadsTo
set_option maxRecDepth 20000 in
theorem ggX3_mixPlaces_X3_milesOf : GoodIn wsX3_mixPlaces wsX3_milesOf := goodIn_ca (goodIn_r _ [54, 1, 34, 35, 36, 5, 37, 11, 12, 38, 39, 40, 16, 41, 42, 43, 14, 15, 17, 18, 55, 56, 57, 58, 59, 49, 50, 85, 86, 87, 88, 89, 90, 91, 92, 93, 94, 95] (by decide +kernel) (by decide +kernel)) (goodIn_sub (fun _ h => List.mem_cons_of_mem _ (List.mem_append_right _ h)) (by decide +kernel))
set_option maxRecDepth 20000 in
theorem gX3_mixPlaces_X3_milesOf : GoodIn wsX3_mixPlaces (wsV RX3 243 RX3 yX3_milesOf wsX3_milesOf) := goodIn_app (goodIn_of _ (by decide +kernel)) ggX3_mixPlaces_X3_milesOf
set_option maxRecDepth 20000 in
theorem ggX3_mixPlaces_X3_isOpen : GoodIn wsX3_mixPlaces wsX3_isOpen := goodIn_ca (goodIn_r _ [63, 1, 34, 35, 36, 5, 37, 11, 12, 38, 39, 40, 16, 41, 42, 43, 14, 15, 17, 18, 64, 65, 66, 67, 68, 49, 50, 85, 86, 87, 88, 89, 90, 91, 92, 93, 94, 95] (by decide +kernel) (by decide +kernel)) (goodIn_sub (fun _ h => List.mem_cons_of_mem _ (List.mem_append_right _ h)) (by decide +kernel))
set_option maxRecDepth 20000 in
theorem gX3_mixPlaces_X3_isOpen : GoodIn wsX3_mixPlaces (wsV RX3 246 RX3 yX3_isOpen wsX3_isOpen) := goodIn_app (goodIn_of _ (by decide +kernel)) ggX3_mixPlaces_X3_isOpen
set_option maxRecDepth 20000 in
theorem ggX3_mixPlaces_X3_isTried : GoodIn wsX3_mixPlaces wsX3_isTried := goodIn_ca (goodIn_r _ [72, 73, 34, 35, 36, 5, 37, 11, 12, 1, 38, 39, 40, 16, 41, 42, 43, 14, 15, 17, 18, 74, 75, 76, 77, 78, 79, 80, 81, 82, 83, 84, 49, 50, 85, 86, 87, 88, 89, 90, 91, 92, 93, 94, 95, 96, 97, 98, 99, 100, 101, 102, 103, 104, 105, 106, 107, 108, 109, 110] (by decide +kernel) (by decide +kernel)) (goodIn_sub (fun _ h => List.mem_cons_of_mem _ (List.mem_append_right _ h)) (by decide +kernel))
set_option maxRecDepth 20000 in
theorem gX3_mixPlaces_X3_isTried : GoodIn wsX3_mixPlaces (wsV RX3 250 RX3 yX3_isTried wsX3_isTried) := goodIn_app (goodIn_of _ (by decide +kernel)) ggX3_mixPlaces_X3_isTried
theorem dX3_mixPlaces_0 : decode cX3_mixPlaces 0 = .ok (.lload_n 1, 1) := by decide +kernel
theorem dX3_mixPlaces_1 : decode cX3_mixPlaces 1 = .ok (.lstore_n 3, 1) := by decide +kernel
theorem dX3_mixPlaces_2 : decode cX3_mixPlaces 2 = .ok (.iconst 0, 1) := by decide +kernel
theorem dX3_mixPlaces_3 : decode cX3_mixPlaces 3 = .ok (.istore 5, 2) := by decide +kernel
theorem dX3_mixPlaces_5 : decode cX3_mixPlaces 5 = .ok (.iload 5, 2) := by decide +kernel
theorem dX3_mixPlaces_7 : decode cX3_mixPlaces 7 = .ok (.aload_n 0, 1) := by decide +kernel
theorem dX3_mixPlaces_8 : decode cX3_mixPlaces 8 = .ok (.getfield 12, 3) := by decide +kernel
theorem dX3_mixPlaces_11 : decode cX3_mixPlaces 11 = .ok (.getfield 28, 3) := by decide +kernel
theorem dX3_mixPlaces_14 : decode cX3_mixPlaces 14 = .ok (.if_icmp .ge 106, 3) := by decide +kernel
theorem dX3_mixPlaces_17 : decode cX3_mixPlaces 17 = .ok (.lload_n 3, 1) := by decide +kernel
theorem dX3_mixPlaces_18 : decode cX3_mixPlaces 18 = .ok (.aload_n 0, 1) := by decide +kernel
theorem dX3_mixPlaces_19 : decode cX3_mixPlaces 19 = .ok (.iload 5, 2) := by decide +kernel
theorem dX3_mixPlaces_21 : decode cX3_mixPlaces 21 = .ok (.invokevirtual 230, 3) := by decide +kernel
theorem dX3_mixPlaces_24 : decode cX3_mixPlaces 24 = .ok (.invokestatic 233, 3) := by decide +kernel
theorem dX3_mixPlaces_27 : decode cX3_mixPlaces 27 = .ok (.lstore_n 3, 1) := by decide +kernel
theorem dX3_mixPlaces_28 : decode cX3_mixPlaces 28 = .ok (.lload_n 3, 1) := by decide +kernel
theorem dX3_mixPlaces_29 : decode cX3_mixPlaces 29 = .ok (.aload_n 0, 1) := by decide +kernel
theorem dX3_mixPlaces_30 : decode cX3_mixPlaces 30 = .ok (.iload 5, 2) := by decide +kernel
theorem dX3_mixPlaces_32 : decode cX3_mixPlaces 32 = .ok (.invokevirtual 237, 3) := by decide +kernel
theorem dX3_mixPlaces_35 : decode cX3_mixPlaces 35 = .ok (.i2l, 1) := by decide +kernel
theorem dX3_mixPlaces_36 : decode cX3_mixPlaces 36 = .ok (.invokestatic 170, 3) := by decide +kernel
theorem dX3_mixPlaces_39 : decode cX3_mixPlaces 39 = .ok (.lstore_n 3, 1) := by decide +kernel
theorem dX3_mixPlaces_40 : decode cX3_mixPlaces 40 = .ok (.iconst 0, 1) := by decide +kernel
theorem dX3_mixPlaces_41 : decode cX3_mixPlaces 41 = .ok (.istore 6, 2) := by decide +kernel
theorem dX3_mixPlaces_43 : decode cX3_mixPlaces 43 = .ok (.iload 6, 2) := by decide +kernel
theorem dX3_mixPlaces_45 : decode cX3_mixPlaces 45 = .ok (.aload_n 0, 1) := by decide +kernel
theorem dX3_mixPlaces_46 : decode cX3_mixPlaces 46 = .ok (.iload 5, 2) := by decide +kernel
theorem dX3_mixPlaces_48 : decode cX3_mixPlaces 48 = .ok (.invokevirtual 237, 3) := by decide +kernel
theorem dX3_mixPlaces_51 : decode cX3_mixPlaces 51 = .ok (.if_icmp .ge 63, 3) := by decide +kernel
theorem dX3_mixPlaces_54 : decode cX3_mixPlaces 54 = .ok (.lload_n 3, 1) := by decide +kernel
theorem dX3_mixPlaces_55 : decode cX3_mixPlaces 55 = .ok (.aload_n 0, 1) := by decide +kernel
theorem dX3_mixPlaces_56 : decode cX3_mixPlaces 56 = .ok (.iload 5, 2) := by decide +kernel
theorem dX3_mixPlaces_58 : decode cX3_mixPlaces 58 = .ok (.iload 6, 2) := by decide +kernel
theorem dX3_mixPlaces_60 : decode cX3_mixPlaces 60 = .ok (.invokevirtual 240, 3) := by decide +kernel
theorem dX3_mixPlaces_63 : decode cX3_mixPlaces 63 = .ok (.i2l, 1) := by decide +kernel
theorem dX3_mixPlaces_64 : decode cX3_mixPlaces 64 = .ok (.invokestatic 170, 3) := by decide +kernel
theorem dX3_mixPlaces_67 : decode cX3_mixPlaces 67 = .ok (.lstore_n 3, 1) := by decide +kernel
theorem dX3_mixPlaces_68 : decode cX3_mixPlaces 68 = .ok (.lload_n 3, 1) := by decide +kernel
theorem dX3_mixPlaces_69 : decode cX3_mixPlaces 69 = .ok (.aload_n 0, 1) := by decide +kernel
theorem dX3_mixPlaces_70 : decode cX3_mixPlaces 70 = .ok (.iload 5, 2) := by decide +kernel
theorem dX3_mixPlaces_72 : decode cX3_mixPlaces 72 = .ok (.iload 6, 2) := by decide +kernel
theorem dX3_mixPlaces_74 : decode cX3_mixPlaces 74 = .ok (.invokevirtual 243, 3) := by decide +kernel
theorem dX3_mixPlaces_77 : decode cX3_mixPlaces 77 = .ok (.i2l, 1) := by decide +kernel
theorem dX3_mixPlaces_78 : decode cX3_mixPlaces 78 = .ok (.invokestatic 170, 3) := by decide +kernel
theorem dX3_mixPlaces_81 : decode cX3_mixPlaces 81 = .ok (.lstore_n 3, 1) := by decide +kernel
theorem dX3_mixPlaces_82 : decode cX3_mixPlaces 82 = .ok (.lload_n 3, 1) := by decide +kernel
theorem dX3_mixPlaces_83 : decode cX3_mixPlaces 83 = .ok (.aload_n 0, 1) := by decide +kernel
theorem dX3_mixPlaces_84 : decode cX3_mixPlaces 84 = .ok (.iload 5, 2) := by decide +kernel
theorem dX3_mixPlaces_86 : decode cX3_mixPlaces 86 = .ok (.iload 6, 2) := by decide +kernel
theorem dX3_mixPlaces_88 : decode cX3_mixPlaces 88 = .ok (.invokevirtual 246, 3) := by decide +kernel
theorem dX3_mixPlaces_91 : decode cX3_mixPlaces 91 = .ok (.invokestatic 233, 3) := by decide +kernel
theorem dX3_mixPlaces_94 : decode cX3_mixPlaces 94 = .ok (.lstore_n 3, 1) := by decide +kernel
theorem dX3_mixPlaces_95 : decode cX3_mixPlaces 95 = .ok (.lload_n 3, 1) := by decide +kernel
theorem dX3_mixPlaces_96 : decode cX3_mixPlaces 96 = .ok (.aload_n 0, 1) := by decide +kernel
theorem dX3_mixPlaces_97 : decode cX3_mixPlaces 97 = .ok (.iload 5, 2) := by decide +kernel
theorem dX3_mixPlaces_99 : decode cX3_mixPlaces 99 = .ok (.iload 6, 2) := by decide +kernel
theorem dX3_mixPlaces_101 : decode cX3_mixPlaces 101 = .ok (.invokevirtual 250, 3) := by decide +kernel
theorem dX3_mixPlaces_104 : decode cX3_mixPlaces 104 = .ok (.invokestatic 233, 3) := by decide +kernel
theorem dX3_mixPlaces_107 : decode cX3_mixPlaces 107 = .ok (.lstore_n 3, 1) := by decide +kernel
theorem dX3_mixPlaces_108 : decode cX3_mixPlaces 108 = .ok (.iinc 6 1, 3) := by decide +kernel
theorem dX3_mixPlaces_111 : decode cX3_mixPlaces 111 = .ok (.goto (-68), 3) := by decide +kernel
theorem dX3_mixPlaces_114 : decode cX3_mixPlaces 114 = .ok (.iinc 5 1, 3) := by decide +kernel
theorem dX3_mixPlaces_117 : decode cX3_mixPlaces 117 = .ok (.goto (-112), 3) := by decide +kernel
theorem dX3_mixPlaces_120 : decode cX3_mixPlaces 120 = .ok (.lload_n 3, 1) := by decide +kernel
theorem dX3_mixPlaces_121 : decode cX3_mixPlaces 121 = .ok (.lreturn, 1) := by decide +kernel
set_option maxRecDepth 20000 in
theorem ggX3_mixMemory_X3_remembered : GoodIn wsX3_mixMemory wsX3_remembered := goodIn_ca (goodIn_r _ [6, 7, 8, 9, 10, 5, 11, 12, 13, 1, 14, 15, 16, 17, 18, 19, 20, 21, 22, 23, 24, 25, 26, 27, 28, 29, 42, 43, 44, 53, 54, 55, 56, 57, 58, 59, 60, 61, 62, 63, 64, 65, 66, 67, 45, 46, 47, 48, 49, 50, 51, 52, 68, 69] (by decide +kernel) (by decide +kernel)) (goodIn_sub (fun _ h => List.mem_cons_of_mem _ (List.mem_append_right _ h)) (by decide +kernel))
set_option maxRecDepth 20000 in
theorem gX3_mixMemory_X3_remembered : GoodIn wsX3_mixMemory (wsV RX3 253 RX3 yX3_remembered wsX3_remembered) := goodIn_app (goodIn_of _ (by decide +kernel)) ggX3_mixMemory_X3_remembered
set_option maxRecDepth 20000 in
theorem ggX3_mixMemory_X3_mix : GoodIn wsX3_mixMemory wsX3_mix := goodIn_r _ [32, 33] (by decide +kernel) (by decide +kernel)
set_option maxRecDepth 20000 in
theorem gX3_mixMemory_X3_mix : GoodIn wsX3_mixMemory (va_wsS RX3 170 yX3_mix wsX3_mix) := goodIn_app (goodIn_of _ (by decide +kernel)) ggX3_mixMemory_X3_mix
set_option maxRecDepth 20000 in
theorem ggX3_mixMemory_X3_strength : GoodIn wsX3_mixMemory wsX3_strength := goodIn_ca (goodIn_r _ [37, 7, 8, 9, 10, 5, 11, 12, 13, 1, 14, 15, 16, 17, 18, 19, 38, 39, 40, 23, 41, 25, 27, 28, 29, 42, 43, 44, 53, 54, 55, 56, 57, 58, 59, 60, 61, 62, 63, 64, 65, 66, 67, 45, 46, 47, 48, 49, 50, 51, 52, 68, 69] (by decide +kernel) (by decide +kernel)) (goodIn_sub (fun _ h => List.mem_cons_of_mem _ (List.mem_append_right _ h)) (by decide +kernel))
set_option maxRecDepth 20000 in
theorem gX3_mixMemory_X3_strength : GoodIn wsX3_mixMemory (wsV RX3 256 RX3 yX3_strength wsX3_strength) := goodIn_app (goodIn_of _ (by decide +kernel)) ggX3_mixMemory_X3_strength
theorem dX3_mixMemory_0 : decode cX3_mixMemory 0 = .ok (.lload_n 1, 1) := by decide +kernel
theorem dX3_mixMemory_1 : decode cX3_mixMemory 1 = .ok (.lstore_n 3, 1) := by decide +kernel
theorem dX3_mixMemory_2 : decode cX3_mixMemory 2 = .ok (.iconst 0, 1) := by decide +kernel
theorem dX3_mixMemory_3 : decode cX3_mixMemory 3 = .ok (.istore 5, 2) := by decide +kernel
theorem dX3_mixMemory_5 : decode cX3_mixMemory 5 = .ok (.iload 5, 2) := by decide +kernel
theorem dX3_mixMemory_7 : decode cX3_mixMemory 7 = .ok (.aload_n 0, 1) := by decide +kernel
theorem dX3_mixMemory_8 : decode cX3_mixMemory 8 = .ok (.getfield 12, 3) := by decide +kernel
theorem dX3_mixMemory_11 : decode cX3_mixMemory 11 = .ok (.getfield 28, 3) := by decide +kernel
theorem dX3_mixMemory_14 : decode cX3_mixMemory 14 = .ok (.if_icmp .ge 58, 3) := by decide +kernel
theorem dX3_mixMemory_17 : decode cX3_mixMemory 17 = .ok (.iconst 0, 1) := by decide +kernel
theorem dX3_mixMemory_18 : decode cX3_mixMemory 18 = .ok (.istore 6, 2) := by decide +kernel
theorem dX3_mixMemory_20 : decode cX3_mixMemory 20 = .ok (.iload 6, 2) := by decide +kernel
theorem dX3_mixMemory_22 : decode cX3_mixMemory 22 = .ok (.aload_n 0, 1) := by decide +kernel
theorem dX3_mixMemory_23 : decode cX3_mixMemory 23 = .ok (.getfield 12, 3) := by decide +kernel
theorem dX3_mixMemory_26 : decode cX3_mixMemory 26 = .ok (.getfield 28, 3) := by decide +kernel
theorem dX3_mixMemory_29 : decode cX3_mixMemory 29 = .ok (.if_icmp .ge 37, 3) := by decide +kernel
theorem dX3_mixMemory_32 : decode cX3_mixMemory 32 = .ok (.lload_n 3, 1) := by decide +kernel
theorem dX3_mixMemory_33 : decode cX3_mixMemory 33 = .ok (.aload_n 0, 1) := by decide +kernel
theorem dX3_mixMemory_34 : decode cX3_mixMemory 34 = .ok (.iload 5, 2) := by decide +kernel
theorem dX3_mixMemory_36 : decode cX3_mixMemory 36 = .ok (.iload 6, 2) := by decide +kernel
theorem dX3_mixMemory_38 : decode cX3_mixMemory 38 = .ok (.invokevirtual 253, 3) := by decide +kernel
theorem dX3_mixMemory_41 : decode cX3_mixMemory 41 = .ok (.i2l, 1) := by decide +kernel
theorem dX3_mixMemory_42 : decode cX3_mixMemory 42 = .ok (.invokestatic 170, 3) := by decide +kernel
theorem dX3_mixMemory_45 : decode cX3_mixMemory 45 = .ok (.lstore_n 3, 1) := by decide +kernel
theorem dX3_mixMemory_46 : decode cX3_mixMemory 46 = .ok (.lload_n 3, 1) := by decide +kernel
theorem dX3_mixMemory_47 : decode cX3_mixMemory 47 = .ok (.aload_n 0, 1) := by decide +kernel
theorem dX3_mixMemory_48 : decode cX3_mixMemory 48 = .ok (.iload 5, 2) := by decide +kernel
theorem dX3_mixMemory_50 : decode cX3_mixMemory 50 = .ok (.iload 6, 2) := by decide +kernel
theorem dX3_mixMemory_52 : decode cX3_mixMemory 52 = .ok (.invokevirtual 256, 3) := by decide +kernel
theorem dX3_mixMemory_55 : decode cX3_mixMemory 55 = .ok (.i2l, 1) := by decide +kernel
theorem dX3_mixMemory_56 : decode cX3_mixMemory 56 = .ok (.invokestatic 170, 3) := by decide +kernel
theorem dX3_mixMemory_59 : decode cX3_mixMemory 59 = .ok (.lstore_n 3, 1) := by decide +kernel
theorem dX3_mixMemory_60 : decode cX3_mixMemory 60 = .ok (.iinc 6 1, 3) := by decide +kernel
theorem dX3_mixMemory_63 : decode cX3_mixMemory 63 = .ok (.goto (-43), 3) := by decide +kernel
theorem dX3_mixMemory_66 : decode cX3_mixMemory 66 = .ok (.iinc 5 1, 3) := by decide +kernel
theorem dX3_mixMemory_69 : decode cX3_mixMemory 69 = .ok (.goto (-64), 3) := by decide +kernel
theorem dX3_mixMemory_72 : decode cX3_mixMemory 72 = .ok (.lload_n 3, 1) := by decide +kernel
theorem dX3_mixMemory_73 : decode cX3_mixMemory 73 = .ok (.lreturn, 1) := by decide +kernel
theorem dX3_isEnd_0 : decode cX3_isEnd 0 = .ok (.iload_n 0, 1) := by decide +kernel
theorem dX3_isEnd_1 : decode cX3_isEnd 1 = .ok (.ifCond .lt 13, 3) := by decide +kernel
theorem dX3_isEnd_4 : decode cX3_isEnd 4 = .ok (.iload_n 0, 1) := by decide +kernel
theorem dX3_isEnd_5 : decode cX3_isEnd 5 = .ok (.bipush 40, 2) := by decide +kernel
theorem dX3_isEnd_7 : decode cX3_isEnd 7 = .ok (.if_icmp .ge 7, 3) := by decide +kernel
theorem dX3_isEnd_10 : decode cX3_isEnd 10 = .ok (.iconst 1, 1) := by decide +kernel
theorem dX3_isEnd_11 : decode cX3_isEnd 11 = .ok (.goto 4, 3) := by decide +kernel
theorem dX3_isEnd_14 : decode cX3_isEnd 14 = .ok (.iconst 0, 1) := by decide +kernel
theorem dX3_isEnd_15 : decode cX3_isEnd 15 = .ok (.ireturn, 1) := by decide +kernel
theorem dX3_placeOfEnd_0 : decode cX3_placeOfEnd 0 = .ok (.iload_n 0, 1) := by decide +kernel
theorem dX3_placeOfEnd_1 : decode cX3_placeOfEnd 1 = .ok (.iconst 4, 1) := by decide +kernel
theorem dX3_placeOfEnd_2 : decode cX3_placeOfEnd 2 = .ok (.idiv, 1) := by decide +kernel
theorem dX3_placeOfEnd_3 : decode cX3_placeOfEnd 3 = .ok (.ireturn, 1) := by decide +kernel
theorem dX3_exitOfEnd_0 : decode cX3_exitOfEnd 0 = .ok (.iload_n 0, 1) := by decide +kernel
theorem dX3_exitOfEnd_1 : decode cX3_exitOfEnd 1 = .ok (.iconst 4, 1) := by decide +kernel
theorem dX3_exitOfEnd_2 : decode cX3_exitOfEnd 2 = .ok (.irem, 1) := by decide +kernel
theorem dX3_exitOfEnd_3 : decode cX3_exitOfEnd 3 = .ok (.ireturn, 1) := by decide +kernel
theorem dX4_init_0 : decode cX4_init 0 = .ok (.aload_n 0, 1) := by decide +kernel
theorem dX4_init_1 : decode cX4_init 1 = .ok (.invokespecial 3, 3) := by decide +kernel
theorem dX4_init_4 : decode cX4_init 4 = .ok (.aload_n 0, 1) := by decide +kernel
theorem dX4_init_5 : decode cX4_init 5 = .ok (.iconst (-1), 1) := by decide +kernel
theorem dX4_init_6 : decode cX4_init 6 = .ok (.putfield 9, 3) := by decide +kernel
theorem dX4_init_9 : decode cX4_init 9 = .ok (.aload_n 0, 1) := by decide +kernel
theorem dX4_init_10 : decode cX4_init 10 = .ok (.iconst (-1), 1) := by decide +kernel
theorem dX4_init_11 : decode cX4_init 11 = .ok (.putfield 15, 3) := by decide +kernel
theorem dX4_init_14 : decode cX4_init 14 = .ok (.aload_n 0, 1) := by decide +kernel
theorem dX4_init_15 : decode cX4_init 15 = .ok (.bipush 20, 2) := by decide +kernel
theorem dX4_init_17 : decode cX4_init 17 = .ok (.newarray .boolean, 2) := by decide +kernel
theorem dX4_init_19 : decode cX4_init 19 = .ok (.putfield 18, 3) := by decide +kernel
theorem dX4_init_22 : decode cX4_init 22 = .ok (.aload_n 0, 1) := by decide +kernel
theorem dX4_init_23 : decode cX4_init 23 = .ok (.bipush 10, 2) := by decide +kernel
theorem dX4_init_25 : decode cX4_init 25 = .ok (.newarray .boolean, 2) := by decide +kernel
theorem dX4_init_27 : decode cX4_init 27 = .ok (.putfield 22, 3) := by decide +kernel
theorem dX4_init_30 : decode cX4_init 30 = .ok (.aload_n 0, 1) := by decide +kernel
theorem dX4_init_31 : decode cX4_init 31 = .ok (.bipush 40, 2) := by decide +kernel
theorem dX4_init_33 : decode cX4_init 33 = .ok (.newarray .int, 2) := by decide +kernel
theorem dX4_init_35 : decode cX4_init 35 = .ok (.putfield 25, 3) := by decide +kernel
theorem dX4_init_38 : decode cX4_init 38 = .ok (.aload_n 0, 1) := by decide +kernel
theorem dX4_init_39 : decode cX4_init 39 = .ok (.bipush 100, 2) := by decide +kernel
theorem dX4_init_41 : decode cX4_init 41 = .ok (.newarray .int, 2) := by decide +kernel
theorem dX4_init_43 : decode cX4_init 43 = .ok (.putfield 29, 3) := by decide +kernel
theorem dX4_init_46 : decode cX4_init 46 = .ok (.aload_n 0, 1) := by decide +kernel
theorem dX4_init_47 : decode cX4_init 47 = .ok (.bipush 100, 2) := by decide +kernel
theorem dX4_init_49 : decode cX4_init 49 = .ok (.newarray .int, 2) := by decide +kernel
theorem dX4_init_51 : decode cX4_init 51 = .ok (.putfield 32, 3) := by decide +kernel
theorem dX4_init_54 : decode cX4_init 54 = .ok (.iconst 0, 1) := by decide +kernel
theorem dX4_init_55 : decode cX4_init 55 = .ok (.istore_n 1, 1) := by decide +kernel
theorem dX4_init_56 : decode cX4_init 56 = .ok (.iload_n 1, 1) := by decide +kernel
theorem dX4_init_57 : decode cX4_init 57 = .ok (.bipush 100, 2) := by decide +kernel
theorem dX4_init_59 : decode cX4_init 59 = .ok (.if_icmp .ge 16, 3) := by decide +kernel
theorem dX4_init_62 : decode cX4_init 62 = .ok (.aload_n 0, 1) := by decide +kernel
theorem dX4_init_63 : decode cX4_init 63 = .ok (.getfield 29, 3) := by decide +kernel
theorem dX4_init_66 : decode cX4_init 66 = .ok (.iload_n 1, 1) := by decide +kernel
theorem dX4_init_67 : decode cX4_init 67 = .ok (.iconst (-1), 1) := by decide +kernel
theorem dX4_init_68 : decode cX4_init 68 = .ok (.iastore, 1) := by decide +kernel
theorem dX4_init_69 : decode cX4_init 69 = .ok (.iinc 1 1, 3) := by decide +kernel
theorem dX4_init_72 : decode cX4_init 72 = .ok (.goto (-16), 3) := by decide +kernel
theorem dX4_init_75 : decode cX4_init 75 = .ok (.return_, 1) := by decide +kernel
theorem dX4_become_0 : decode cX4_become 0 = .ok (.aload_n 0, 1) := by decide +kernel
theorem dX4_become_1 : decode cX4_become 1 = .ok (.aload_n 1, 1) := by decide +kernel
theorem dX4_become_2 : decode cX4_become 2 = .ok (.getfield 9, 3) := by decide +kernel
theorem dX4_become_5 : decode cX4_become 5 = .ok (.putfield 9, 3) := by decide +kernel
theorem dX4_become_8 : decode cX4_become 8 = .ok (.aload_n 0, 1) := by decide +kernel
theorem dX4_become_9 : decode cX4_become 9 = .ok (.aload_n 1, 1) := by decide +kernel
theorem dX4_become_10 : decode cX4_become 10 = .ok (.getfield 35, 3) := by decide +kernel
theorem dX4_become_13 : decode cX4_become 13 = .ok (.putfield 35, 3) := by decide +kernel
theorem dX4_become_16 : decode cX4_become 16 = .ok (.aload_n 0, 1) := by decide +kernel
theorem dX4_become_17 : decode cX4_become 17 = .ok (.aload_n 1, 1) := by decide +kernel
theorem dX4_become_18 : decode cX4_become 18 = .ok (.getfield 15, 3) := by decide +kernel
theorem dX4_become_21 : decode cX4_become 21 = .ok (.putfield 15, 3) := by decide +kernel
theorem dX4_become_24 : decode cX4_become 24 = .ok (.aload_n 0, 1) := by decide +kernel
theorem dX4_become_25 : decode cX4_become 25 = .ok (.aload_n 1, 1) := by decide +kernel
theorem dX4_become_26 : decode cX4_become 26 = .ok (.getfield 38, 3) := by decide +kernel
theorem dX4_become_29 : decode cX4_become 29 = .ok (.putfield 38, 3) := by decide +kernel
theorem dX4_become_32 : decode cX4_become 32 = .ok (.aload_n 0, 1) := by decide +kernel
theorem dX4_become_33 : decode cX4_become 33 = .ok (.aload_n 1, 1) := by decide +kernel
theorem dX4_become_34 : decode cX4_become 34 = .ok (.getfield 41, 3) := by decide +kernel
theorem dX4_become_37 : decode cX4_become 37 = .ok (.putfield 41, 3) := by decide +kernel
theorem dX4_become_40 : decode cX4_become 40 = .ok (.aload_n 0, 1) := by decide +kernel
theorem dX4_become_41 : decode cX4_become 41 = .ok (.aload_n 1, 1) := by decide +kernel
theorem dX4_become_42 : decode cX4_become 42 = .ok (.getfield 44, 3) := by decide +kernel
theorem dX4_become_45 : decode cX4_become 45 = .ok (.putfield 44, 3) := by decide +kernel
theorem dX4_become_48 : decode cX4_become 48 = .ok (.aload_n 0, 1) := by decide +kernel
theorem dX4_become_49 : decode cX4_become 49 = .ok (.aload_n 1, 1) := by decide +kernel
theorem dX4_become_50 : decode cX4_become 50 = .ok (.getfield 47, 3) := by decide +kernel
theorem dX4_become_53 : decode cX4_become 53 = .ok (.putfield 47, 3) := by decide +kernel
theorem dX4_become_56 : decode cX4_become 56 = .ok (.aload_n 0, 1) := by decide +kernel
theorem dX4_become_57 : decode cX4_become 57 = .ok (.aload_n 1, 1) := by decide +kernel
theorem dX4_become_58 : decode cX4_become 58 = .ok (.getfield 50, 3) := by decide +kernel
theorem dX4_become_61 : decode cX4_become 61 = .ok (.putfield 50, 3) := by decide +kernel
theorem dX4_become_64 : decode cX4_become 64 = .ok (.aload_n 0, 1) := by decide +kernel
theorem dX4_become_65 : decode cX4_become 65 = .ok (.aload_n 1, 1) := by decide +kernel
theorem dX4_become_66 : decode cX4_become 66 = .ok (.getfield 53, 3) := by decide +kernel
theorem dX4_become_69 : decode cX4_become 69 = .ok (.putfield 53, 3) := by decide +kernel
theorem dX4_become_72 : decode cX4_become 72 = .ok (.aload_n 1, 1) := by decide +kernel
theorem dX4_become_73 : decode cX4_become 73 = .ok (.getfield 18, 3) := by decide +kernel
theorem dX4_become_76 : decode cX4_become 76 = .ok (.iconst 0, 1) := by decide +kernel
theorem dX4_become_77 : decode cX4_become 77 = .ok (.aload_n 0, 1) := by decide +kernel
theorem dX4_become_78 : decode cX4_become 78 = .ok (.getfield 18, 3) := by decide +kernel
theorem dX4_become_81 : decode cX4_become 81 = .ok (.iconst 0, 1) := by decide +kernel
theorem dX4_become_82 : decode cX4_become 82 = .ok (.bipush 20, 2) := by decide +kernel
theorem dX4_become_84 : decode cX4_become 84 = .ok (.invokestatic 56, 3) := by decide +kernel
theorem dX4_become_87 : decode cX4_become 87 = .ok (.aload_n 1, 1) := by decide +kernel
theorem dX4_become_88 : decode cX4_become 88 = .ok (.getfield 22, 3) := by decide +kernel
theorem dX4_become_91 : decode cX4_become 91 = .ok (.iconst 0, 1) := by decide +kernel
theorem dX4_become_92 : decode cX4_become 92 = .ok (.aload_n 0, 1) := by decide +kernel
theorem dX4_become_93 : decode cX4_become 93 = .ok (.getfield 22, 3) := by decide +kernel
theorem dX4_become_96 : decode cX4_become 96 = .ok (.iconst 0, 1) := by decide +kernel
theorem dX4_become_97 : decode cX4_become 97 = .ok (.bipush 10, 2) := by decide +kernel
theorem dX4_become_99 : decode cX4_become 99 = .ok (.invokestatic 56, 3) := by decide +kernel
theorem dX4_become_102 : decode cX4_become 102 = .ok (.aload_n 1, 1) := by decide +kernel
theorem dX4_become_103 : decode cX4_become 103 = .ok (.getfield 25, 3) := by decide +kernel
theorem dX4_become_106 : decode cX4_become 106 = .ok (.iconst 0, 1) := by decide +kernel
theorem dX4_become_107 : decode cX4_become 107 = .ok (.aload_n 0, 1) := by decide +kernel
theorem dX4_become_108 : decode cX4_become 108 = .ok (.getfield 25, 3) := by decide +kernel
theorem dX4_become_111 : decode cX4_become 111 = .ok (.iconst 0, 1) := by decide +kernel
theorem dX4_become_112 : decode cX4_become 112 = .ok (.bipush 40, 2) := by decide +kernel
theorem dX4_become_114 : decode cX4_become 114 = .ok (.invokestatic 56, 3) := by decide +kernel
theorem dX4_become_117 : decode cX4_become 117 = .ok (.aload_n 1, 1) := by decide +kernel
theorem dX4_become_118 : decode cX4_become 118 = .ok (.getfield 29, 3) := by decide +kernel
theorem dX4_become_121 : decode cX4_become 121 = .ok (.iconst 0, 1) := by decide +kernel
theorem dX4_become_122 : decode cX4_become 122 = .ok (.aload_n 0, 1) := by decide +kernel
theorem dX4_become_123 : decode cX4_become 123 = .ok (.getfield 29, 3) := by decide +kernel
theorem dX4_become_126 : decode cX4_become 126 = .ok (.iconst 0, 1) := by decide +kernel
theorem dX4_become_127 : decode cX4_become 127 = .ok (.bipush 100, 2) := by decide +kernel
theorem dX4_become_129 : decode cX4_become 129 = .ok (.invokestatic 56, 3) := by decide +kernel
theorem dX4_become_132 : decode cX4_become 132 = .ok (.aload_n 1, 1) := by decide +kernel
theorem dX4_become_133 : decode cX4_become 133 = .ok (.getfield 32, 3) := by decide +kernel
theorem dX4_become_136 : decode cX4_become 136 = .ok (.iconst 0, 1) := by decide +kernel
theorem dX4_become_137 : decode cX4_become 137 = .ok (.aload_n 0, 1) := by decide +kernel
theorem dX4_become_138 : decode cX4_become 138 = .ok (.getfield 32, 3) := by decide +kernel
theorem dX4_become_141 : decode cX4_become 141 = .ok (.iconst 0, 1) := by decide +kernel
theorem dX4_become_142 : decode cX4_become 142 = .ok (.bipush 100, 2) := by decide +kernel
theorem dX4_become_144 : decode cX4_become 144 = .ok (.invokestatic 56, 3) := by decide +kernel
theorem dX4_become_147 : decode cX4_become 147 = .ok (.return_, 1) := by decide +kernel
theorem dX4_begin_0 : decode cX4_begin 0 = .ok (.aload_n 0, 1) := by decide +kernel
theorem dX4_begin_1 : decode cX4_begin 1 = .ok (.iload_n 1, 1) := by decide +kernel
theorem dX4_begin_2 : decode cX4_begin 2 = .ok (.putfield 15, 3) := by decide +kernel
theorem dX4_begin_5 : decode cX4_begin 5 = .ok (.aload_n 0, 1) := by decide +kernel
theorem dX4_begin_6 : decode cX4_begin 6 = .ok (.iconst 0, 1) := by decide +kernel
theorem dX4_begin_7 : decode cX4_begin 7 = .ok (.putfield 38, 3) := by decide +kernel
theorem dX4_begin_10 : decode cX4_begin 10 = .ok (.iconst 0, 1) := by decide +kernel
theorem dX4_begin_11 : decode cX4_begin 11 = .ok (.istore_n 2, 1) := by decide +kernel
theorem dX4_begin_12 : decode cX4_begin 12 = .ok (.iload_n 2, 1) := by decide +kernel
theorem dX4_begin_13 : decode cX4_begin 13 = .ok (.bipush 20, 2) := by decide +kernel
theorem dX4_begin_15 : decode cX4_begin 15 = .ok (.if_icmp .ge 16, 3) := by decide +kernel
theorem dX4_begin_18 : decode cX4_begin 18 = .ok (.aload_n 0, 1) := by decide +kernel
theorem dX4_begin_19 : decode cX4_begin 19 = .ok (.getfield 18, 3) := by decide +kernel
theorem dX4_begin_22 : decode cX4_begin 22 = .ok (.iload_n 2, 1) := by decide +kernel
theorem dX4_begin_23 : decode cX4_begin 23 = .ok (.iconst 0, 1) := by decide +kernel
theorem dX4_begin_24 : decode cX4_begin 24 = .ok (.bastore, 1) := by decide +kernel
theorem dX4_begin_25 : decode cX4_begin 25 = .ok (.iinc 2 1, 3) := by decide +kernel
theorem dX4_begin_28 : decode cX4_begin 28 = .ok (.goto (-16), 3) := by decide +kernel
theorem dX4_begin_31 : decode cX4_begin 31 = .ok (.iconst 0, 1) := by decide +kernel
theorem dX4_begin_32 : decode cX4_begin 32 = .ok (.istore_n 2, 1) := by decide +kernel
theorem dX4_begin_33 : decode cX4_begin 33 = .ok (.iload_n 2, 1) := by decide +kernel
theorem dX4_begin_34 : decode cX4_begin 34 = .ok (.bipush 10, 2) := by decide +kernel
theorem dX4_begin_36 : decode cX4_begin 36 = .ok (.if_icmp .ge 16, 3) := by decide +kernel
theorem dX4_begin_39 : decode cX4_begin 39 = .ok (.aload_n 0, 1) := by decide +kernel
theorem dX4_begin_40 : decode cX4_begin 40 = .ok (.getfield 22, 3) := by decide +kernel
theorem dX4_begin_43 : decode cX4_begin 43 = .ok (.iload_n 2, 1) := by decide +kernel
theorem dX4_begin_44 : decode cX4_begin 44 = .ok (.iconst 0, 1) := by decide +kernel
theorem dX4_begin_45 : decode cX4_begin 45 = .ok (.bastore, 1) := by decide +kernel
theorem dX4_begin_46 : decode cX4_begin 46 = .ok (.iinc 2 1, 3) := by decide +kernel
theorem dX4_begin_49 : decode cX4_begin 49 = .ok (.goto (-16), 3) := by decide +kernel
theorem dX4_begin_52 : decode cX4_begin 52 = .ok (.return_, 1) := by decide +kernel
set_option maxRecDepth 20000 in
theorem ggX4_end_X4_begin : GoodIn wsX4_end wsX4_begin := goodIn_r _ [5, 6, 7, 8, 9, 10, 11, 12, 13, 14, 15, 16, 17, 18, 19, 20, 21, 22, 23] (by decide +kernel) (by decide +kernel)
set_option maxRecDepth 20000 in
theorem gX4_end_X4_begin : GoodIn wsX4_end (wsV RX4 62 RX4 yX4_begin wsX4_begin) := goodIn_app (goodIn_of _ (by decide +kernel)) ggX4_end_X4_begin
theorem dX4_end_0 : decode cX4_end 0 = .ok (.aload_n 0, 1) := by decide +kernel
theorem dX4_end_1 : decode cX4_end 1 = .ok (.iconst (-1), 1) := by decide +kernel
theorem dX4_end_2 : decode cX4_end 2 = .ok (.invokevirtual 62, 3) := by decide +kernel
theorem dX4_end_5 : decode cX4_end 5 = .ok (.return_, 1) := by decide +kernel
theorem dX4_remembered_0 : decode cX4_remembered 0 = .ok (.aload_n 0, 1) := by decide +kernel
theorem dX4_remembered_1 : decode cX4_remembered 1 = .ok (.getfield 29, 3) := by decide +kernel
theorem dX4_remembered_4 : decode cX4_remembered 4 = .ok (.bipush 10, 2) := by decide +kernel
theorem dX4_remembered_6 : decode cX4_remembered 6 = .ok (.aload_n 0, 1) := by decide +kernel
theorem dX4_remembered_7 : decode cX4_remembered 7 = .ok (.getfield 15, 3) := by decide +kernel
theorem dX4_remembered_10 : decode cX4_remembered 10 = .ok (.imul, 1) := by decide +kernel
theorem dX4_remembered_11 : decode cX4_remembered 11 = .ok (.iload_n 1, 1) := by decide +kernel
theorem dX4_remembered_12 : decode cX4_remembered 12 = .ok (.iadd, 1) := by decide +kernel
theorem dX4_remembered_13 : decode cX4_remembered 13 = .ok (.iaload, 1) := by decide +kernel
theorem dX4_remembered_14 : decode cX4_remembered 14 = .ok (.ireturn, 1) := by decide +kernel
theorem dX4_remember_0 : decode cX4_remember 0 = .ok (.aload_n 0, 1) := by decide +kernel
theorem dX4_remember_1 : decode cX4_remember 1 = .ok (.getfield 29, 3) := by decide +kernel
theorem dX4_remember_4 : decode cX4_remember 4 = .ok (.bipush 10, 2) := by decide +kernel
theorem dX4_remember_6 : decode cX4_remember 6 = .ok (.aload_n 0, 1) := by decide +kernel
theorem dX4_remember_7 : decode cX4_remember 7 = .ok (.getfield 15, 3) := by decide +kernel
theorem dX4_remember_10 : decode cX4_remember 10 = .ok (.imul, 1) := by decide +kernel
theorem dX4_remember_11 : decode cX4_remember 11 = .ok (.iload_n 1, 1) := by decide +kernel
theorem dX4_remember_12 : decode cX4_remember 12 = .ok (.iadd, 1) := by decide +kernel
theorem dX4_remember_13 : decode cX4_remember 13 = .ok (.iload_n 2, 1) := by decide +kernel
theorem dX4_remember_14 : decode cX4_remember 14 = .ok (.iastore, 1) := by decide +kernel
theorem dX4_remember_15 : decode cX4_remember 15 = .ok (.aload_n 0, 1) := by decide +kernel
theorem dX4_remember_16 : decode cX4_remember 16 = .ok (.getfield 32, 3) := by decide +kernel
theorem dX4_remember_19 : decode cX4_remember 19 = .ok (.bipush 10, 2) := by decide +kernel
theorem dX4_remember_21 : decode cX4_remember 21 = .ok (.aload_n 0, 1) := by decide +kernel
theorem dX4_remember_22 : decode cX4_remember 22 = .ok (.getfield 15, 3) := by decide +kernel
theorem dX4_remember_25 : decode cX4_remember 25 = .ok (.imul, 1) := by decide +kernel
theorem dX4_remember_26 : decode cX4_remember 26 = .ok (.iload_n 1, 1) := by decide +kernel
theorem dX4_remember_27 : decode cX4_remember 27 = .ok (.iadd, 1) := by decide +kernel
theorem dX4_remember_28 : decode cX4_remember 28 = .ok (.iload_n 3, 1) := by decide +kernel
theorem dX4_remember_29 : decode cX4_remember 29 = .ok (.iastore, 1) := by decide +kernel
theorem dX4_remember_30 : decode cX4_remember 30 = .ok (.return_, 1) := by decide +kernel
set_option maxRecDepth 20000 in
theorem ggX5_init_X4_init : GoodIn wsX5_init wsX4_init := goodIn_r _ [20, 21, 2, 3, 22, 23, 9, 24, 25, 4, 26, 27, 28, 41, 42, 43, 44, 45, 46, 47, 48, 49, 50, 51, 52, 53, 54] (by decide +kernel) (by decide +kernel)
set_option maxRecDepth 20000 in
theorem gX5_init_X4_init : GoodIn wsX5_init (wsX4_init) := ggX5_init_X4_init
theorem dX5_init_0 : decode cX5_init 0 = .ok (.aload_n 0, 1) := by decide +kernel
theorem dX5_init_1 : decode cX5_init 1 = .ok (.invokespecial 1, 3) := by decide +kernel
theorem dX5_init_4 : decode cX5_init 4 = .ok (.aload_n 0, 1) := by decide +kernel
theorem dX5_init_5 : decode cX5_init 5 = .ok (.bipush 10, 2) := by decide +kernel
theorem dX5_init_7 : decode cX5_init 7 = .ok (.newarray .int, 2) := by decide +kernel
theorem dX5_init_9 : decode cX5_init 9 = .ok (.putfield 9, 3) := by decide +kernel
theorem dX5_init_12 : decode cX5_init 12 = .ok (.aload_n 0, 1) := by decide +kernel
theorem dX5_init_13 : decode cX5_init 13 = .ok (.bipush 40, 2) := by decide +kernel
theorem dX5_init_15 : decode cX5_init 15 = .ok (.newarray .int, 2) := by decide +kernel
theorem dX5_init_17 : decode cX5_init 17 = .ok (.putfield 13, 3) := by decide +kernel
theorem dX5_init_20 : decode cX5_init 20 = .ok (.aload_n 0, 1) := by decide +kernel
theorem dX5_init_21 : decode cX5_init 21 = .ok (.bipush 40, 2) := by decide +kernel
theorem dX5_init_23 : decode cX5_init 23 = .ok (.newarray .int, 2) := by decide +kernel
theorem dX5_init_25 : decode cX5_init 25 = .ok (.putfield 16, 3) := by decide +kernel
theorem dX5_init_28 : decode cX5_init 28 = .ok (.aload_n 0, 1) := by decide +kernel
theorem dX5_init_29 : decode cX5_init 29 = .ok (.bipush 20, 2) := by decide +kernel
theorem dX5_init_31 : decode cX5_init 31 = .ok (.newarray .int, 2) := by decide +kernel
theorem dX5_init_33 : decode cX5_init 33 = .ok (.putfield 19, 3) := by decide +kernel
theorem dX5_init_36 : decode cX5_init 36 = .ok (.aload_n 0, 1) := by decide +kernel
theorem dX5_init_37 : decode cX5_init 37 = .ok (.bipush 20, 2) := by decide +kernel
theorem dX5_init_39 : decode cX5_init 39 = .ok (.newarray .boolean, 2) := by decide +kernel
theorem dX5_init_41 : decode cX5_init 41 = .ok (.putfield 22, 3) := by decide +kernel
theorem dX5_init_44 : decode cX5_init 44 = .ok (.aload_n 0, 1) := by decide +kernel
theorem dX5_init_45 : decode cX5_init 45 = .ok (.bipush 10, 2) := by decide +kernel
theorem dX5_init_47 : decode cX5_init 47 = .ok (.newarray .boolean, 2) := by decide +kernel
theorem dX5_init_49 : decode cX5_init 49 = .ok (.putfield 26, 3) := by decide +kernel
theorem dX5_init_52 : decode cX5_init 52 = .ok (.aload_n 0, 1) := by decide +kernel
theorem dX5_init_53 : decode cX5_init 53 = .ok (.bipush 10, 2) := by decide +kernel
theorem dX5_init_55 : decode cX5_init 55 = .ok (.newarray .int, 2) := by decide +kernel
theorem dX5_init_57 : decode cX5_init 57 = .ok (.putfield 29, 3) := by decide +kernel
theorem dX5_init_60 : decode cX5_init 60 = .ok (.aload_n 0, 1) := by decide +kernel
theorem dX5_init_61 : decode cX5_init 61 = .ok (.new 32, 3) := by decide +kernel
theorem dX5_init_64 : decode cX5_init 64 = .ok (.dup, 1) := by decide +kernel
theorem dX5_init_65 : decode cX5_init 65 = .ok (.invokespecial 34, 3) := by decide +kernel
theorem dX5_init_68 : decode cX5_init 68 = .ok (.putfield 35, 3) := by decide +kernel
theorem dX5_init_71 : decode cX5_init 71 = .ok (.aload_n 0, 1) := by decide +kernel
theorem dX5_init_72 : decode cX5_init 72 = .ok (.new 32, 3) := by decide +kernel
theorem dX5_init_75 : decode cX5_init 75 = .ok (.dup, 1) := by decide +kernel
theorem dX5_init_76 : decode cX5_init 76 = .ok (.invokespecial 34, 3) := by decide +kernel
theorem dX5_init_79 : decode cX5_init 79 = .ok (.putfield 39, 3) := by decide +kernel
theorem dX5_init_82 : decode cX5_init 82 = .ok (.return_, 1) := by decide +kernel
theorem dX5_thrown_0 : decode cX5_thrown 0 = .ok (.aload_n 0, 1) := by decide +kernel
theorem dX5_thrown_1 : decode cX5_thrown 1 = .ok (.getfield 42, 3) := by decide +kernel
theorem dX5_thrown_4 : decode cX5_thrown 4 = .ok (.ireturn, 1) := by decide +kernel
theorem dX5_no_0 : decode cX5_no 0 = .ok (.aload_n 0, 1) := by decide +kernel
theorem dX5_no_1 : decode cX5_no 1 = .ok (.iload_n 1, 1) := by decide +kernel
theorem dX5_no_2 : decode cX5_no 2 = .ok (.putfield 42, 3) := by decide +kernel
theorem dX5_no_5 : decode cX5_no 5 = .ok (.iconst 0, 1) := by decide +kernel
theorem dX5_no_6 : decode cX5_no 6 = .ok (.ireturn, 1) := by decide +kernel
theorem dX5_isNot_0 : decode cX5_isNot 0 = .ok (.aload_n 0, 1) := by decide +kernel
theorem dX5_isNot_1 : decode cX5_isNot 1 = .ok (.iload_n 1, 1) := by decide +kernel
theorem dX5_isNot_2 : decode cX5_isNot 2 = .ok (.putfield 42, 3) := by decide +kernel
theorem dX5_isNot_5 : decode cX5_isNot 5 = .ok (.iconst 0, 1) := by decide +kernel
theorem dX5_isNot_6 : decode cX5_isNot 6 = .ok (.ireturn, 1) := by decide +kernel
theorem dX5_isIn_0 : decode cX5_isIn 0 = .ok (.iload_n 0, 1) := by decide +kernel
theorem dX5_isIn_1 : decode cX5_isIn 1 = .ok (.iload_n 1, 1) := by decide +kernel
theorem dX5_isIn_2 : decode cX5_isIn 2 = .ok (.if_icmp .lt 12, 3) := by decide +kernel
theorem dX5_isIn_5 : decode cX5_isIn 5 = .ok (.iload_n 0, 1) := by decide +kernel
theorem dX5_isIn_6 : decode cX5_isIn 6 = .ok (.iload_n 2, 1) := by decide +kernel
theorem dX5_isIn_7 : decode cX5_isIn 7 = .ok (.if_icmp .gt 7, 3) := by decide +kernel
theorem dX5_isIn_10 : decode cX5_isIn 10 = .ok (.iconst 1, 1) := by decide +kernel
theorem dX5_isIn_11 : decode cX5_isIn 11 = .ok (.goto 4, 3) := by decide +kernel
theorem dX5_isIn_14 : decode cX5_isIn 14 = .ok (.iconst 0, 1) := by decide +kernel
theorem dX5_isIn_15 : decode cX5_isIn 15 = .ok (.ireturn, 1) := by decide +kernel
set_option maxRecDepth 20000 in
theorem ggX5_isPlace_X5_isIn : GoodIn wsX5_isPlace wsX5_isIn := goodIn_r _ [5] (by decide +kernel) (by decide +kernel)
set_option maxRecDepth 20000 in
theorem gX5_isPlace_X5_isIn : GoodIn wsX5_isPlace (va_wsS RX5 49 yX5_isIn wsX5_isIn) := goodIn_app (goodIn_of _ (by decide +kernel)) ggX5_isPlace_X5_isIn
theorem dX5_isPlace_0 : decode cX5_isPlace 0 = .ok (.iload_n 1, 1) := by decide +kernel
theorem dX5_isPlace_1 : decode cX5_isPlace 1 = .ok (.iconst 0, 1) := by decide +kernel
theorem dX5_isPlace_2 : decode cX5_isPlace 2 = .ok (.aload_n 0, 1) := by decide +kernel
theorem dX5_isPlace_3 : decode cX5_isPlace 3 = .ok (.getfield 46, 3) := by decide +kernel
theorem dX5_isPlace_6 : decode cX5_isPlace 6 = .ok (.iconst 1, 1) := by decide +kernel
theorem dX5_isPlace_7 : decode cX5_isPlace 7 = .ok (.isub, 1) := by decide +kernel
theorem dX5_isPlace_8 : decode cX5_isPlace 8 = .ok (.invokestatic 49, 3) := by decide +kernel
theorem dX5_isPlace_11 : decode cX5_isPlace 11 = .ok (.ireturn, 1) := by decide +kernel
set_option maxRecDepth 20000 in
theorem ggX5_isExit_X5_isPlace : GoodIn wsX5_isExit wsX5_isPlace := goodIn_r _ [6, 7, 8, 9, 5, 10, 11, 12, 13, 14, 15, 16, 17, 18, 19, 20, 21, 22] (by decide +kernel) (by decide +kernel)
set_option maxRecDepth 20000 in
theorem gX5_isExit_X5_isPlace : GoodIn wsX5_isExit (wsV RX5 53 RX5 yX5_isPlace wsX5_isPlace) := goodIn_app (goodIn_of _ (by decide +kernel)) ggX5_isExit_X5_isPlace
set_option maxRecDepth 20000 in
theorem ggX5_isExit_X5_isIn : GoodIn wsX5_isExit wsX5_isIn := goodIn_r _ [10] (by decide +kernel) (by decide +kernel)
set_option maxRecDepth 20000 in
theorem gX5_isExit_X5_isIn : GoodIn wsX5_isExit (va_wsS RX5 49 yX5_isIn wsX5_isIn) := goodIn_app (goodIn_of _ (by decide +kernel)) ggX5_isExit_X5_isIn
theorem dX5_isExit_0 : decode cX5_isExit 0 = .ok (.aload_n 0, 1) := by decide +kernel
theorem dX5_isExit_1 : decode cX5_isExit 1 = .ok (.iload_n 1, 1) := by decide +kernel
theorem dX5_isExit_2 : decode cX5_isExit 2 = .ok (.invokevirtual 53, 3) := by decide +kernel
theorem dX5_isExit_5 : decode cX5_isExit 5 = .ok (.ifCond .eq 23, 3) := by decide +kernel
theorem dX5_isExit_8 : decode cX5_isExit 8 = .ok (.iload_n 2, 1) := by decide +kernel
theorem dX5_isExit_9 : decode cX5_isExit 9 = .ok (.iconst 0, 1) := by decide +kernel
theorem dX5_isExit_10 : decode cX5_isExit 10 = .ok (.aload_n 0, 1) := by decide +kernel
theorem dX5_isExit_11 : decode cX5_isExit 11 = .ok (.getfield 9, 3) := by decide +kernel
theorem dX5_isExit_14 : decode cX5_isExit 14 = .ok (.iload_n 1, 1) := by decide +kernel
theorem dX5_isExit_15 : decode cX5_isExit 15 = .ok (.iaload, 1) := by decide +kernel
theorem dX5_isExit_16 : decode cX5_isExit 16 = .ok (.iconst 1, 1) := by decide +kernel
theorem dX5_isExit_17 : decode cX5_isExit 17 = .ok (.isub, 1) := by decide +kernel
theorem dX5_isExit_18 : decode cX5_isExit 18 = .ok (.invokestatic 49, 3) := by decide +kernel
theorem dX5_isExit_21 : decode cX5_isExit 21 = .ok (.ifCond .eq 7, 3) := by decide +kernel
theorem dX5_isExit_24 : decode cX5_isExit 24 = .ok (.iconst 1, 1) := by decide +kernel
theorem dX5_isExit_25 : decode cX5_isExit 25 = .ok (.goto 4, 3) := by decide +kernel
theorem dX5_isExit_28 : decode cX5_isExit 28 = .ok (.iconst 0, 1) := by decide +kernel
theorem dX5_isExit_29 : decode cX5_isExit 29 = .ok (.ireturn, 1) := by decide +kernel
set_option maxRecDepth 20000 in
theorem ggX5_addPlace_X5_no : GoodIn wsX5_addPlace wsX5_no := goodIn_r _ [8, 1, 9, 10, 11, 12, 13, 14, 15, 16, 17, 18, 19, 20] (by decide +kernel) (by decide +kernel)
set_option maxRecDepth 20000 in
theorem gX5_addPlace_X5_no : GoodIn wsX5_addPlace (wsV RX5 57 RX5 yX5_no wsX5_no) := goodIn_app (goodIn_of _ (by decide +kernel)) ggX5_addPlace_X5_no
theorem dX5_addPlace_0 : decode cX5_addPlace 0 = .ok (.aload_n 0, 1) := by decide +kernel
theorem dX5_addPlace_1 : decode cX5_addPlace 1 = .ok (.iconst 0, 1) := by decide +kernel
theorem dX5_addPlace_2 : decode cX5_addPlace 2 = .ok (.putfield 42, 3) := by decide +kernel
theorem dX5_addPlace_5 : decode cX5_addPlace 5 = .ok (.aload_n 0, 1) := by decide +kernel
theorem dX5_addPlace_6 : decode cX5_addPlace 6 = .ok (.getfield 46, 3) := by decide +kernel
theorem dX5_addPlace_9 : decode cX5_addPlace 9 = .ok (.bipush 10, 2) := by decide +kernel
theorem dX5_addPlace_11 : decode cX5_addPlace 11 = .ok (.if_icmp .ne 9, 3) := by decide +kernel
theorem dX5_addPlace_14 : decode cX5_addPlace 14 = .ok (.aload_n 0, 1) := by decide +kernel
theorem dX5_addPlace_15 : decode cX5_addPlace 15 = .ok (.iconst 1, 1) := by decide +kernel
theorem dX5_addPlace_16 : decode cX5_addPlace 16 = .ok (.invokevirtual 57, 3) := by decide +kernel
theorem dX5_addPlace_19 : decode cX5_addPlace 19 = .ok (.ireturn, 1) := by decide +kernel
theorem dX5_addPlace_20 : decode cX5_addPlace 20 = .ok (.aload_n 0, 1) := by decide +kernel
theorem dX5_addPlace_21 : decode cX5_addPlace 21 = .ok (.getfield 46, 3) := by decide +kernel
theorem dX5_addPlace_24 : decode cX5_addPlace 24 = .ok (.ifCond .ne 11, 3) := by decide +kernel
theorem dX5_addPlace_27 : decode cX5_addPlace 27 = .ok (.aload_n 0, 1) := by decide +kernel
theorem dX5_addPlace_28 : decode cX5_addPlace 28 = .ok (.getfield 35, 3) := by decide +kernel
theorem dX5_addPlace_31 : decode cX5_addPlace 31 = .ok (.iconst 0, 1) := by decide +kernel
theorem dX5_addPlace_32 : decode cX5_addPlace 32 = .ok (.putfield 61, 3) := by decide +kernel
theorem dX5_addPlace_35 : decode cX5_addPlace 35 = .ok (.aload_n 0, 1) := by decide +kernel
theorem dX5_addPlace_36 : decode cX5_addPlace 36 = .ok (.dup, 1) := by decide +kernel
theorem dX5_addPlace_37 : decode cX5_addPlace 37 = .ok (.getfield 46, 3) := by decide +kernel
theorem dX5_addPlace_40 : decode cX5_addPlace 40 = .ok (.iconst 1, 1) := by decide +kernel
theorem dX5_addPlace_41 : decode cX5_addPlace 41 = .ok (.iadd, 1) := by decide +kernel
theorem dX5_addPlace_42 : decode cX5_addPlace 42 = .ok (.putfield 46, 3) := by decide +kernel
theorem dX5_addPlace_45 : decode cX5_addPlace 45 = .ok (.aload_n 0, 1) := by decide +kernel
theorem dX5_addPlace_46 : decode cX5_addPlace 46 = .ok (.getfield 46, 3) := by decide +kernel
theorem dX5_addPlace_49 : decode cX5_addPlace 49 = .ok (.iconst 1, 1) := by decide +kernel
theorem dX5_addPlace_50 : decode cX5_addPlace 50 = .ok (.isub, 1) := by decide +kernel
theorem dX5_addPlace_51 : decode cX5_addPlace 51 = .ok (.ireturn, 1) := by decide +kernel
theorem dX5_addExit_0 : decode cX5_addExit 0 = .ok (.aload_n 0, 1) := by decide +kernel
theorem dX5_addExit_1 : decode cX5_addExit 1 = .ok (.getfield 13, 3) := by decide +kernel
theorem dX5_addExit_4 : decode cX5_addExit 4 = .ok (.iconst 4, 1) := by decide +kernel
theorem dX5_addExit_5 : decode cX5_addExit 5 = .ok (.iload_n 1, 1) := by decide +kernel
theorem dX5_addExit_6 : decode cX5_addExit 6 = .ok (.imul, 1) := by decide +kernel
theorem dX5_addExit_7 : decode cX5_addExit 7 = .ok (.aload_n 0, 1) := by decide +kernel
theorem dX5_addExit_8 : decode cX5_addExit 8 = .ok (.getfield 9, 3) := by decide +kernel
theorem dX5_addExit_11 : decode cX5_addExit 11 = .ok (.iload_n 1, 1) := by decide +kernel
theorem dX5_addExit_12 : decode cX5_addExit 12 = .ok (.iaload, 1) := by decide +kernel
theorem dX5_addExit_13 : decode cX5_addExit 13 = .ok (.iadd, 1) := by decide +kernel
theorem dX5_addExit_14 : decode cX5_addExit 14 = .ok (.aload_n 0, 1) := by decide +kernel
theorem dX5_addExit_15 : decode cX5_addExit 15 = .ok (.getfield 64, 3) := by decide +kernel
theorem dX5_addExit_18 : decode cX5_addExit 18 = .ok (.iastore, 1) := by decide +kernel
theorem dX5_addExit_19 : decode cX5_addExit 19 = .ok (.aload_n 0, 1) := by decide +kernel
theorem dX5_addExit_20 : decode cX5_addExit 20 = .ok (.getfield 16, 3) := by decide +kernel
theorem dX5_addExit_23 : decode cX5_addExit 23 = .ok (.iconst 4, 1) := by decide +kernel
theorem dX5_addExit_24 : decode cX5_addExit 24 = .ok (.iload_n 1, 1) := by decide +kernel
theorem dX5_addExit_25 : decode cX5_addExit 25 = .ok (.imul, 1) := by decide +kernel
theorem dX5_addExit_26 : decode cX5_addExit 26 = .ok (.aload_n 0, 1) := by decide +kernel
theorem dX5_addExit_27 : decode cX5_addExit 27 = .ok (.getfield 9, 3) := by decide +kernel
theorem dX5_addExit_30 : decode cX5_addExit 30 = .ok (.iload_n 1, 1) := by decide +kernel
theorem dX5_addExit_31 : decode cX5_addExit 31 = .ok (.iaload, 1) := by decide +kernel
theorem dX5_addExit_32 : decode cX5_addExit 32 = .ok (.iadd, 1) := by decide +kernel
theorem dX5_addExit_33 : decode cX5_addExit 33 = .ok (.iload_n 2, 1) := by decide +kernel
theorem dX5_addExit_34 : decode cX5_addExit 34 = .ok (.iastore, 1) := by decide +kernel
theorem dX5_addExit_35 : decode cX5_addExit 35 = .ok (.aload_n 0, 1) := by decide +kernel
theorem dX5_addExit_36 : decode cX5_addExit 36 = .ok (.getfield 9, 3) := by decide +kernel
theorem dX5_addExit_39 : decode cX5_addExit 39 = .ok (.iload_n 1, 1) := by decide +kernel
theorem dX5_addExit_40 : decode cX5_addExit 40 = .ok (.dup2, 1) := by decide +kernel
theorem dX5_addExit_41 : decode cX5_addExit 41 = .ok (.iaload, 1) := by decide +kernel
theorem dX5_addExit_42 : decode cX5_addExit 42 = .ok (.iconst 1, 1) := by decide +kernel
theorem dX5_addExit_43 : decode cX5_addExit 43 = .ok (.iadd, 1) := by decide +kernel
theorem dX5_addExit_44 : decode cX5_addExit 44 = .ok (.iastore, 1) := by decide +kernel
theorem dX5_addExit_45 : decode cX5_addExit 45 = .ok (.return_, 1) := by decide +kernel
set_option maxRecDepth 20000 in
theorem ggX5_addRoad_X5_isPlace : GoodIn wsX5_addRoad wsX5_isPlace := goodIn_r _ [11, 12, 13, 14, 10, 15, 26, 27, 28, 29, 30, 31, 32, 33, 34, 35, 36, 37] (by decide +kernel) (by decide +kernel)
set_option maxRecDepth 20000 in
theorem gX5_addRoad_X5_isPlace : GoodIn wsX5_addRoad (wsV RX5 53 RX5 yX5_isPlace wsX5_isPlace) := goodIn_app (goodIn_of _ (by decide +kernel)) ggX5_addRoad_X5_isPlace
set_option maxRecDepth 20000 in
theorem ggX5_addRoad_X5_no : GoodIn wsX5_addRoad wsX5_no := goodIn_r _ [19, 1, 26, 27, 28, 29, 30, 31, 32, 33, 34, 35, 36, 37] (by decide +kernel) (by decide +kernel)
set_option maxRecDepth 20000 in
theorem gX5_addRoad_X5_no : GoodIn wsX5_addRoad (wsV RX5 57 RX5 yX5_no wsX5_no) := goodIn_app (goodIn_of _ (by decide +kernel)) ggX5_addRoad_X5_no
set_option maxRecDepth 20000 in
theorem ggX5_addRoad_X5_isIn : GoodIn wsX5_addRoad wsX5_isIn := goodIn_r _ [15] (by decide +kernel) (by decide +kernel)
set_option maxRecDepth 20000 in
theorem gX5_addRoad_X5_isIn : GoodIn wsX5_addRoad (va_wsS RX5 49 yX5_isIn wsX5_isIn) := goodIn_app (goodIn_of _ (by decide +kernel)) ggX5_addRoad_X5_isIn
set_option maxRecDepth 20000 in
theorem ggX5_addRoad_X5_addExit : GoodIn wsX5_addRoad wsX5_addExit := goodIn_r _ [23, 24, 2, 4, 25, 26, 27, 28, 29, 30, 31, 32, 33, 34, 35, 36, 37] (by decide +kernel) (by decide +kernel)
set_option maxRecDepth 20000 in
theorem gX5_addRoad_X5_addExit : GoodIn wsX5_addRoad (wsV RX5 70 RX5 yX5_addExit wsX5_addExit) := goodIn_app (goodIn_of _ (by decide +kernel)) ggX5_addRoad_X5_addExit
theorem dX5_addRoad_0 : decode cX5_addRoad 0 = .ok (.aload_n 0, 1) := by decide +kernel
theorem dX5_addRoad_1 : decode cX5_addRoad 1 = .ok (.iconst 0, 1) := by decide +kernel
theorem dX5_addRoad_2 : decode cX5_addRoad 2 = .ok (.putfield 42, 3) := by decide +kernel
theorem dX5_addRoad_5 : decode cX5_addRoad 5 = .ok (.aload_n 0, 1) := by decide +kernel
theorem dX5_addRoad_6 : decode cX5_addRoad 6 = .ok (.iload_n 1, 1) := by decide +kernel
theorem dX5_addRoad_7 : decode cX5_addRoad 7 = .ok (.invokevirtual 53, 3) := by decide +kernel
theorem dX5_addRoad_10 : decode cX5_addRoad 10 = .ok (.ifCond .eq 11, 3) := by decide +kernel
theorem dX5_addRoad_13 : decode cX5_addRoad 13 = .ok (.aload_n 0, 1) := by decide +kernel
theorem dX5_addRoad_14 : decode cX5_addRoad 14 = .ok (.iload_n 2, 1) := by decide +kernel
theorem dX5_addRoad_15 : decode cX5_addRoad 15 = .ok (.invokevirtual 53, 3) := by decide +kernel
theorem dX5_addRoad_18 : decode cX5_addRoad 18 = .ok (.ifCond .ne 9, 3) := by decide +kernel
theorem dX5_addRoad_21 : decode cX5_addRoad 21 = .ok (.aload_n 0, 1) := by decide +kernel
theorem dX5_addRoad_22 : decode cX5_addRoad 22 = .ok (.iconst 1, 1) := by decide +kernel
theorem dX5_addRoad_23 : decode cX5_addRoad 23 = .ok (.invokevirtual 57, 3) := by decide +kernel
theorem dX5_addRoad_26 : decode cX5_addRoad 26 = .ok (.ireturn, 1) := by decide +kernel
theorem dX5_addRoad_27 : decode cX5_addRoad 27 = .ok (.iload_n 1, 1) := by decide +kernel
theorem dX5_addRoad_28 : decode cX5_addRoad 28 = .ok (.iload_n 2, 1) := by decide +kernel
theorem dX5_addRoad_29 : decode cX5_addRoad 29 = .ok (.if_icmp .eq 13, 3) := by decide +kernel
theorem dX5_addRoad_32 : decode cX5_addRoad 32 = .ok (.iload_n 3, 1) := by decide +kernel
theorem dX5_addRoad_33 : decode cX5_addRoad 33 = .ok (.iconst 1, 1) := by decide +kernel
theorem dX5_addRoad_34 : decode cX5_addRoad 34 = .ok (.bipush 9, 2) := by decide +kernel
theorem dX5_addRoad_36 : decode cX5_addRoad 36 = .ok (.invokestatic 49, 3) := by decide +kernel
theorem dX5_addRoad_39 : decode cX5_addRoad 39 = .ok (.ifCond .ne 9, 3) := by decide +kernel
theorem dX5_addRoad_42 : decode cX5_addRoad 42 = .ok (.aload_n 0, 1) := by decide +kernel
theorem dX5_addRoad_43 : decode cX5_addRoad 43 = .ok (.iconst 2, 1) := by decide +kernel
theorem dX5_addRoad_44 : decode cX5_addRoad 44 = .ok (.invokevirtual 57, 3) := by decide +kernel
theorem dX5_addRoad_47 : decode cX5_addRoad 47 = .ok (.ireturn, 1) := by decide +kernel
theorem dX5_addRoad_48 : decode cX5_addRoad 48 = .ok (.aload_n 0, 1) := by decide +kernel
theorem dX5_addRoad_49 : decode cX5_addRoad 49 = .ok (.getfield 9, 3) := by decide +kernel
theorem dX5_addRoad_52 : decode cX5_addRoad 52 = .ok (.iload_n 1, 1) := by decide +kernel
theorem dX5_addRoad_53 : decode cX5_addRoad 53 = .ok (.iaload, 1) := by decide +kernel
theorem dX5_addRoad_54 : decode cX5_addRoad 54 = .ok (.iconst 4, 1) := by decide +kernel
theorem dX5_addRoad_55 : decode cX5_addRoad 55 = .ok (.if_icmp .eq 13, 3) := by decide +kernel
theorem dX5_addRoad_58 : decode cX5_addRoad 58 = .ok (.aload_n 0, 1) := by decide +kernel
theorem dX5_addRoad_59 : decode cX5_addRoad 59 = .ok (.getfield 9, 3) := by decide +kernel
theorem dX5_addRoad_62 : decode cX5_addRoad 62 = .ok (.iload_n 2, 1) := by decide +kernel
theorem dX5_addRoad_63 : decode cX5_addRoad 63 = .ok (.iaload, 1) := by decide +kernel
theorem dX5_addRoad_64 : decode cX5_addRoad 64 = .ok (.iconst 4, 1) := by decide +kernel
theorem dX5_addRoad_65 : decode cX5_addRoad 65 = .ok (.if_icmp .ne 9, 3) := by decide +kernel
theorem dX5_addRoad_68 : decode cX5_addRoad 68 = .ok (.aload_n 0, 1) := by decide +kernel
theorem dX5_addRoad_69 : decode cX5_addRoad 69 = .ok (.iconst 3, 1) := by decide +kernel
theorem dX5_addRoad_70 : decode cX5_addRoad 70 = .ok (.invokevirtual 57, 3) := by decide +kernel
theorem dX5_addRoad_73 : decode cX5_addRoad 73 = .ok (.ireturn, 1) := by decide +kernel
theorem dX5_addRoad_74 : decode cX5_addRoad 74 = .ok (.aload_n 0, 1) := by decide +kernel
theorem dX5_addRoad_75 : decode cX5_addRoad 75 = .ok (.getfield 19, 3) := by decide +kernel
theorem dX5_addRoad_78 : decode cX5_addRoad 78 = .ok (.aload_n 0, 1) := by decide +kernel
theorem dX5_addRoad_79 : decode cX5_addRoad 79 = .ok (.getfield 64, 3) := by decide +kernel
theorem dX5_addRoad_82 : decode cX5_addRoad 82 = .ok (.iload_n 3, 1) := by decide +kernel
theorem dX5_addRoad_83 : decode cX5_addRoad 83 = .ok (.iastore, 1) := by decide +kernel
theorem dX5_addRoad_84 : decode cX5_addRoad 84 = .ok (.aload_n 0, 1) := by decide +kernel
theorem dX5_addRoad_85 : decode cX5_addRoad 85 = .ok (.getfield 22, 3) := by decide +kernel
theorem dX5_addRoad_88 : decode cX5_addRoad 88 = .ok (.aload_n 0, 1) := by decide +kernel
theorem dX5_addRoad_89 : decode cX5_addRoad 89 = .ok (.getfield 64, 3) := by decide +kernel
theorem dX5_addRoad_92 : decode cX5_addRoad 92 = .ok (.iconst 0, 1) := by decide +kernel
theorem dX5_addRoad_93 : decode cX5_addRoad 93 = .ok (.bastore, 1) := by decide +kernel
theorem dX5_addRoad_94 : decode cX5_addRoad 94 = .ok (.aload_n 0, 1) := by decide +kernel
theorem dX5_addRoad_95 : decode cX5_addRoad 95 = .ok (.getfield 35, 3) := by decide +kernel
theorem dX5_addRoad_98 : decode cX5_addRoad 98 = .ok (.getfield 67, 3) := by decide +kernel
theorem dX5_addRoad_101 : decode cX5_addRoad 101 = .ok (.aload_n 0, 1) := by decide +kernel
theorem dX5_addRoad_102 : decode cX5_addRoad 102 = .ok (.getfield 64, 3) := by decide +kernel
theorem dX5_addRoad_105 : decode cX5_addRoad 105 = .ok (.iconst 0, 1) := by decide +kernel
theorem dX5_addRoad_106 : decode cX5_addRoad 106 = .ok (.bastore, 1) := by decide +kernel
theorem dX5_addRoad_107 : decode cX5_addRoad 107 = .ok (.aload_n 0, 1) := by decide +kernel
theorem dX5_addRoad_108 : decode cX5_addRoad 108 = .ok (.iload_n 1, 1) := by decide +kernel
theorem dX5_addRoad_109 : decode cX5_addRoad 109 = .ok (.iload_n 2, 1) := by decide +kernel
theorem dX5_addRoad_110 : decode cX5_addRoad 110 = .ok (.invokevirtual 70, 3) := by decide +kernel
theorem dX5_addRoad_113 : decode cX5_addRoad 113 = .ok (.aload_n 0, 1) := by decide +kernel
theorem dX5_addRoad_114 : decode cX5_addRoad 114 = .ok (.iload_n 2, 1) := by decide +kernel
theorem dX5_addRoad_115 : decode cX5_addRoad 115 = .ok (.iload_n 1, 1) := by decide +kernel
theorem dX5_addRoad_116 : decode cX5_addRoad 116 = .ok (.invokevirtual 70, 3) := by decide +kernel
theorem dX5_addRoad_119 : decode cX5_addRoad 119 = .ok (.aload_n 0, 1) := by decide +kernel
theorem dX5_addRoad_120 : decode cX5_addRoad 120 = .ok (.dup, 1) := by decide +kernel
theorem dX5_addRoad_121 : decode cX5_addRoad 121 = .ok (.getfield 64, 3) := by decide +kernel
theorem dX5_addRoad_124 : decode cX5_addRoad 124 = .ok (.iconst 1, 1) := by decide +kernel
theorem dX5_addRoad_125 : decode cX5_addRoad 125 = .ok (.iadd, 1) := by decide +kernel
theorem dX5_addRoad_126 : decode cX5_addRoad 126 = .ok (.putfield 64, 3) := by decide +kernel
theorem dX5_addRoad_129 : decode cX5_addRoad 129 = .ok (.aload_n 0, 1) := by decide +kernel
theorem dX5_addRoad_130 : decode cX5_addRoad 130 = .ok (.getfield 9, 3) := by decide +kernel
theorem dX5_addRoad_133 : decode cX5_addRoad 133 = .ok (.iload_n 1, 1) := by decide +kernel
theorem dX5_addRoad_134 : decode cX5_addRoad 134 = .ok (.iaload, 1) := by decide +kernel
theorem dX5_addRoad_135 : decode cX5_addRoad 135 = .ok (.iconst 1, 1) := by decide +kernel
theorem dX5_addRoad_136 : decode cX5_addRoad 136 = .ok (.isub, 1) := by decide +kernel
theorem dX5_addRoad_137 : decode cX5_addRoad 137 = .ok (.ireturn, 1) := by decide +kernel
set_option maxRecDepth 20000 in
theorem ggX5_turnRoad_X5_isExit : GoodIn wsX5_turnRoad wsX5_isExit := goodIn_r _ [8, 9, 10, 11, 12, 7, 13, 14, 15, 16, 17, 22, 23, 24, 25, 26, 27, 28, 29, 30, 31, 32, 33] (by decide +kernel) (by decide +kernel)
set_option maxRecDepth 20000 in
theorem gX5_turnRoad_X5_isExit : GoodIn wsX5_turnRoad (wsV RX5 74 RX5 yX5_isExit wsX5_isExit) := goodIn_app (goodIn_of _ (by decide +kernel)) ggX5_turnRoad_X5_isExit
set_option maxRecDepth 20000 in
theorem ggX5_turnRoad_X5_isNot : GoodIn wsX5_turnRoad wsX5_isNot := goodIn_r _ [21, 1, 22, 23, 24, 25, 26, 27, 28, 29, 30, 31, 32, 33] (by decide +kernel) (by decide +kernel)
set_option maxRecDepth 20000 in
theorem gX5_turnRoad_X5_isNot : GoodIn wsX5_turnRoad (wsV RX5 78 RX5 yX5_isNot wsX5_isNot) := goodIn_app (goodIn_of _ (by decide +kernel)) ggX5_turnRoad_X5_isNot
theorem dX5_turnRoad_0 : decode cX5_turnRoad 0 = .ok (.aload_n 0, 1) := by decide +kernel
theorem dX5_turnRoad_1 : decode cX5_turnRoad 1 = .ok (.iconst 0, 1) := by decide +kernel
theorem dX5_turnRoad_2 : decode cX5_turnRoad 2 = .ok (.putfield 42, 3) := by decide +kernel
theorem dX5_turnRoad_5 : decode cX5_turnRoad 5 = .ok (.aload_n 0, 1) := by decide +kernel
theorem dX5_turnRoad_6 : decode cX5_turnRoad 6 = .ok (.iload_n 1, 1) := by decide +kernel
theorem dX5_turnRoad_7 : decode cX5_turnRoad 7 = .ok (.iload_n 2, 1) := by decide +kernel
theorem dX5_turnRoad_8 : decode cX5_turnRoad 8 = .ok (.invokevirtual 74, 3) := by decide +kernel
theorem dX5_turnRoad_11 : decode cX5_turnRoad 11 = .ok (.ifCond .ne 9, 3) := by decide +kernel
theorem dX5_turnRoad_14 : decode cX5_turnRoad 14 = .ok (.aload_n 0, 1) := by decide +kernel
theorem dX5_turnRoad_15 : decode cX5_turnRoad 15 = .ok (.iconst 1, 1) := by decide +kernel
theorem dX5_turnRoad_16 : decode cX5_turnRoad 16 = .ok (.invokevirtual 78, 3) := by decide +kernel
theorem dX5_turnRoad_19 : decode cX5_turnRoad 19 = .ok (.ireturn, 1) := by decide +kernel
theorem dX5_turnRoad_20 : decode cX5_turnRoad 20 = .ok (.aload_n 0, 1) := by decide +kernel
theorem dX5_turnRoad_21 : decode cX5_turnRoad 21 = .ok (.getfield 13, 3) := by decide +kernel
theorem dX5_turnRoad_24 : decode cX5_turnRoad 24 = .ok (.iconst 4, 1) := by decide +kernel
theorem dX5_turnRoad_25 : decode cX5_turnRoad 25 = .ok (.iload_n 1, 1) := by decide +kernel
theorem dX5_turnRoad_26 : decode cX5_turnRoad 26 = .ok (.imul, 1) := by decide +kernel
theorem dX5_turnRoad_27 : decode cX5_turnRoad 27 = .ok (.iload_n 2, 1) := by decide +kernel
theorem dX5_turnRoad_28 : decode cX5_turnRoad 28 = .ok (.iadd, 1) := by decide +kernel
theorem dX5_turnRoad_29 : decode cX5_turnRoad 29 = .ok (.iaload, 1) := by decide +kernel
theorem dX5_turnRoad_30 : decode cX5_turnRoad 30 = .ok (.istore_n 3, 1) := by decide +kernel
theorem dX5_turnRoad_31 : decode cX5_turnRoad 31 = .ok (.aload_n 0, 1) := by decide +kernel
theorem dX5_turnRoad_32 : decode cX5_turnRoad 32 = .ok (.getfield 22, 3) := by decide +kernel
theorem dX5_turnRoad_35 : decode cX5_turnRoad 35 = .ok (.iload_n 3, 1) := by decide +kernel
theorem dX5_turnRoad_36 : decode cX5_turnRoad 36 = .ok (.aload_n 0, 1) := by decide +kernel
theorem dX5_turnRoad_37 : decode cX5_turnRoad 37 = .ok (.getfield 22, 3) := by decide +kernel
theorem dX5_turnRoad_40 : decode cX5_turnRoad 40 = .ok (.iload_n 3, 1) := by decide +kernel
theorem dX5_turnRoad_41 : decode cX5_turnRoad 41 = .ok (.baload, 1) := by decide +kernel
theorem dX5_turnRoad_42 : decode cX5_turnRoad 42 = .ok (.ifCond .ne 7, 3) := by decide +kernel
theorem dX5_turnRoad_45 : decode cX5_turnRoad 45 = .ok (.iconst 1, 1) := by decide +kernel
theorem dX5_turnRoad_46 : decode cX5_turnRoad 46 = .ok (.goto 4, 3) := by decide +kernel
theorem dX5_turnRoad_49 : decode cX5_turnRoad 49 = .ok (.iconst 0, 1) := by decide +kernel
theorem dX5_turnRoad_50 : decode cX5_turnRoad 50 = .ok (.bastore, 1) := by decide +kernel
theorem dX5_turnRoad_51 : decode cX5_turnRoad 51 = .ok (.aload_n 0, 1) := by decide +kernel
theorem dX5_turnRoad_52 : decode cX5_turnRoad 52 = .ok (.getfield 22, 3) := by decide +kernel
theorem dX5_turnRoad_55 : decode cX5_turnRoad 55 = .ok (.iload_n 3, 1) := by decide +kernel
theorem dX5_turnRoad_56 : decode cX5_turnRoad 56 = .ok (.baload, 1) := by decide +kernel
theorem dX5_turnRoad_57 : decode cX5_turnRoad 57 = .ok (.ifCond .ne 7, 3) := by decide +kernel
theorem dX5_turnRoad_60 : decode cX5_turnRoad 60 = .ok (.iconst 1, 1) := by decide +kernel
theorem dX5_turnRoad_61 : decode cX5_turnRoad 61 = .ok (.goto 4, 3) := by decide +kernel
theorem dX5_turnRoad_64 : decode cX5_turnRoad 64 = .ok (.iconst 0, 1) := by decide +kernel
theorem dX5_turnRoad_65 : decode cX5_turnRoad 65 = .ok (.ireturn, 1) := by decide +kernel
set_option maxRecDepth 20000 in
theorem ggX5_turnShepherd_X5_isPlace : GoodIn wsX5_turnShepherd wsX5_isPlace := goodIn_r _ [7, 8, 9, 10, 6, 11, 16, 17, 18, 19, 20, 21, 22, 23, 24, 25, 26, 27] (by decide +kernel) (by decide +kernel)
set_option maxRecDepth 20000 in
theorem gX5_turnShepherd_X5_isPlace : GoodIn wsX5_turnShepherd (wsV RX5 53 RX5 yX5_isPlace wsX5_isPlace) := goodIn_app (goodIn_of _ (by decide +kernel)) ggX5_turnShepherd_X5_isPlace
set_option maxRecDepth 20000 in
theorem ggX5_turnShepherd_X5_isNot : GoodIn wsX5_turnShepherd wsX5_isNot := goodIn_r _ [15, 1, 16, 17, 18, 19, 20, 21, 22, 23, 24, 25, 26, 27] (by decide +kernel) (by decide +kernel)
set_option maxRecDepth 20000 in
theorem gX5_turnShepherd_X5_isNot : GoodIn wsX5_turnShepherd (wsV RX5 78 RX5 yX5_isNot wsX5_isNot) := goodIn_app (goodIn_of _ (by decide +kernel)) ggX5_turnShepherd_X5_isNot
theorem dX5_turnShepherd_0 : decode cX5_turnShepherd 0 = .ok (.aload_n 0, 1) := by decide +kernel
theorem dX5_turnShepherd_1 : decode cX5_turnShepherd 1 = .ok (.iconst 0, 1) := by decide +kernel
theorem dX5_turnShepherd_2 : decode cX5_turnShepherd 2 = .ok (.putfield 42, 3) := by decide +kernel
theorem dX5_turnShepherd_5 : decode cX5_turnShepherd 5 = .ok (.aload_n 0, 1) := by decide +kernel
theorem dX5_turnShepherd_6 : decode cX5_turnShepherd 6 = .ok (.iload_n 1, 1) := by decide +kernel
theorem dX5_turnShepherd_7 : decode cX5_turnShepherd 7 = .ok (.invokevirtual 53, 3) := by decide +kernel
theorem dX5_turnShepherd_10 : decode cX5_turnShepherd 10 = .ok (.ifCond .ne 9, 3) := by decide +kernel
theorem dX5_turnShepherd_13 : decode cX5_turnShepherd 13 = .ok (.aload_n 0, 1) := by decide +kernel
theorem dX5_turnShepherd_14 : decode cX5_turnShepherd 14 = .ok (.iconst 1, 1) := by decide +kernel
theorem dX5_turnShepherd_15 : decode cX5_turnShepherd 15 = .ok (.invokevirtual 78, 3) := by decide +kernel
theorem dX5_turnShepherd_18 : decode cX5_turnShepherd 18 = .ok (.ireturn, 1) := by decide +kernel
theorem dX5_turnShepherd_19 : decode cX5_turnShepherd 19 = .ok (.aload_n 0, 1) := by decide +kernel
theorem dX5_turnShepherd_20 : decode cX5_turnShepherd 20 = .ok (.getfield 26, 3) := by decide +kernel
theorem dX5_turnShepherd_23 : decode cX5_turnShepherd 23 = .ok (.iload_n 1, 1) := by decide +kernel
theorem dX5_turnShepherd_24 : decode cX5_turnShepherd 24 = .ok (.aload_n 0, 1) := by decide +kernel
theorem dX5_turnShepherd_25 : decode cX5_turnShepherd 25 = .ok (.getfield 26, 3) := by decide +kernel
theorem dX5_turnShepherd_28 : decode cX5_turnShepherd 28 = .ok (.iload_n 1, 1) := by decide +kernel
theorem dX5_turnShepherd_29 : decode cX5_turnShepherd 29 = .ok (.baload, 1) := by decide +kernel
theorem dX5_turnShepherd_30 : decode cX5_turnShepherd 30 = .ok (.ifCond .ne 7, 3) := by decide +kernel
theorem dX5_turnShepherd_33 : decode cX5_turnShepherd 33 = .ok (.iconst 1, 1) := by decide +kernel
theorem dX5_turnShepherd_34 : decode cX5_turnShepherd 34 = .ok (.goto 4, 3) := by decide +kernel
theorem dX5_turnShepherd_37 : decode cX5_turnShepherd 37 = .ok (.iconst 0, 1) := by decide +kernel
theorem dX5_turnShepherd_38 : decode cX5_turnShepherd 38 = .ok (.bastore, 1) := by decide +kernel
theorem dX5_turnShepherd_39 : decode cX5_turnShepherd 39 = .ok (.aload_n 0, 1) := by decide +kernel
theorem dX5_turnShepherd_40 : decode cX5_turnShepherd 40 = .ok (.getfield 26, 3) := by decide +kernel
theorem dX5_turnShepherd_43 : decode cX5_turnShepherd 43 = .ok (.iload_n 1, 1) := by decide +kernel
theorem dX5_turnShepherd_44 : decode cX5_turnShepherd 44 = .ok (.baload, 1) := by decide +kernel
theorem dX5_turnShepherd_45 : decode cX5_turnShepherd 45 = .ok (.ireturn, 1) := by decide +kernel
theorem dX5_measure_0 : decode cX5_measure 0 = .ok (.iconst 0, 1) := by decide +kernel
theorem dX5_measure_1 : decode cX5_measure 1 = .ok (.istore_n 2, 1) := by decide +kernel
theorem dX5_measure_2 : decode cX5_measure 2 = .ok (.iload_n 2, 1) := by decide +kernel
theorem dX5_measure_3 : decode cX5_measure 3 = .ok (.aload_n 0, 1) := by decide +kernel
theorem dX5_measure_4 : decode cX5_measure 4 = .ok (.getfield 46, 3) := by decide +kernel
theorem dX5_measure_7 : decode cX5_measure 7 = .ok (.if_icmp .ge 27, 3) := by decide +kernel
theorem dX5_measure_10 : decode cX5_measure 10 = .ok (.aload_n 0, 1) := by decide +kernel
theorem dX5_measure_11 : decode cX5_measure 11 = .ok (.getfield 29, 3) := by decide +kernel
theorem dX5_measure_14 : decode cX5_measure 14 = .ok (.iload_n 2, 1) := by decide +kernel
theorem dX5_measure_15 : decode cX5_measure 15 = .ok (.iload_n 2, 1) := by decide +kernel
theorem dX5_measure_16 : decode cX5_measure 16 = .ok (.iload_n 1, 1) := by decide +kernel
theorem dX5_measure_17 : decode cX5_measure 17 = .ok (.if_icmp .ne 7, 3) := by decide +kernel
theorem dX5_measure_20 : decode cX5_measure 20 = .ok (.iconst 0, 1) := by decide +kernel
theorem dX5_measure_21 : decode cX5_measure 21 = .ok (.goto 6, 3) := by decide +kernel
theorem dX5_measure_24 : decode cX5_measure 24 = .ok (.sipush 9999, 3) := by decide +kernel
theorem dX5_measure_27 : decode cX5_measure 27 = .ok (.iastore, 1) := by decide +kernel
theorem dX5_measure_28 : decode cX5_measure 28 = .ok (.iinc 2 1, 3) := by decide +kernel
theorem dX5_measure_31 : decode cX5_measure 31 = .ok (.goto (-29), 3) := by decide +kernel
theorem dX5_measure_34 : decode cX5_measure 34 = .ok (.iconst 1, 1) := by decide +kernel
theorem dX5_measure_35 : decode cX5_measure 35 = .ok (.istore_n 2, 1) := by decide +kernel
theorem dX5_measure_36 : decode cX5_measure 36 = .ok (.iload_n 2, 1) := by decide +kernel
theorem dX5_measure_37 : decode cX5_measure 37 = .ok (.ifCond .eq 126, 3) := by decide +kernel
theorem dX5_measure_40 : decode cX5_measure 40 = .ok (.iconst 0, 1) := by decide +kernel
theorem dX5_measure_41 : decode cX5_measure 41 = .ok (.istore_n 2, 1) := by decide +kernel
theorem dX5_measure_42 : decode cX5_measure 42 = .ok (.iconst 0, 1) := by decide +kernel
theorem dX5_measure_43 : decode cX5_measure 43 = .ok (.istore_n 3, 1) := by decide +kernel
theorem dX5_measure_44 : decode cX5_measure 44 = .ok (.iload_n 3, 1) := by decide +kernel
theorem dX5_measure_45 : decode cX5_measure 45 = .ok (.iconst 4, 1) := by decide +kernel
theorem dX5_measure_46 : decode cX5_measure 46 = .ok (.aload_n 0, 1) := by decide +kernel
theorem dX5_measure_47 : decode cX5_measure 47 = .ok (.getfield 46, 3) := by decide +kernel
theorem dX5_measure_50 : decode cX5_measure 50 = .ok (.imul, 1) := by decide +kernel
theorem dX5_measure_51 : decode cX5_measure 51 = .ok (.if_icmp .ge 109, 3) := by decide +kernel
theorem dX5_measure_54 : decode cX5_measure 54 = .ok (.iload_n 3, 1) := by decide +kernel
theorem dX5_measure_55 : decode cX5_measure 55 = .ok (.iconst 4, 1) := by decide +kernel
theorem dX5_measure_56 : decode cX5_measure 56 = .ok (.idiv, 1) := by decide +kernel
theorem dX5_measure_57 : decode cX5_measure 57 = .ok (.istore 4, 2) := by decide +kernel
theorem dX5_measure_59 : decode cX5_measure 59 = .ok (.iload_n 3, 1) := by decide +kernel
theorem dX5_measure_60 : decode cX5_measure 60 = .ok (.iconst 4, 1) := by decide +kernel
theorem dX5_measure_61 : decode cX5_measure 61 = .ok (.irem, 1) := by decide +kernel
theorem dX5_measure_62 : decode cX5_measure 62 = .ok (.aload_n 0, 1) := by decide +kernel
theorem dX5_measure_63 : decode cX5_measure 63 = .ok (.getfield 9, 3) := by decide +kernel
theorem dX5_measure_66 : decode cX5_measure 66 = .ok (.iload 4, 2) := by decide +kernel
theorem dX5_measure_68 : decode cX5_measure 68 = .ok (.iaload, 1) := by decide +kernel
theorem dX5_measure_69 : decode cX5_measure 69 = .ok (.if_icmp .ge 85, 3) := by decide +kernel
theorem dX5_measure_72 : decode cX5_measure 72 = .ok (.aload_n 0, 1) := by decide +kernel
theorem dX5_measure_73 : decode cX5_measure 73 = .ok (.getfield 22, 3) := by decide +kernel
theorem dX5_measure_76 : decode cX5_measure 76 = .ok (.aload_n 0, 1) := by decide +kernel
theorem dX5_measure_77 : decode cX5_measure 77 = .ok (.getfield 13, 3) := by decide +kernel
theorem dX5_measure_80 : decode cX5_measure 80 = .ok (.iload_n 3, 1) := by decide +kernel
theorem dX5_measure_81 : decode cX5_measure 81 = .ok (.iaload, 1) := by decide +kernel
theorem dX5_measure_82 : decode cX5_measure 82 = .ok (.baload, 1) := by decide +kernel
theorem dX5_measure_83 : decode cX5_measure 83 = .ok (.ifCond .ne 71, 3) := by decide +kernel
theorem dX5_measure_86 : decode cX5_measure 86 = .ok (.aload_n 0, 1) := by decide +kernel
theorem dX5_measure_87 : decode cX5_measure 87 = .ok (.getfield 29, 3) := by decide +kernel
theorem dX5_measure_90 : decode cX5_measure 90 = .ok (.aload_n 0, 1) := by decide +kernel
theorem dX5_measure_91 : decode cX5_measure 91 = .ok (.getfield 16, 3) := by decide +kernel
theorem dX5_measure_94 : decode cX5_measure 94 = .ok (.iload_n 3, 1) := by decide +kernel
theorem dX5_measure_95 : decode cX5_measure 95 = .ok (.iaload, 1) := by decide +kernel
theorem dX5_measure_96 : decode cX5_measure 96 = .ok (.iaload, 1) := by decide +kernel
theorem dX5_measure_97 : decode cX5_measure 97 = .ok (.aload_n 0, 1) := by decide +kernel
theorem dX5_measure_98 : decode cX5_measure 98 = .ok (.getfield 19, 3) := by decide +kernel
theorem dX5_measure_101 : decode cX5_measure 101 = .ok (.aload_n 0, 1) := by decide +kernel
theorem dX5_measure_102 : decode cX5_measure 102 = .ok (.getfield 13, 3) := by decide +kernel
theorem dX5_measure_105 : decode cX5_measure 105 = .ok (.iload_n 3, 1) := by decide +kernel
theorem dX5_measure_106 : decode cX5_measure 106 = .ok (.iaload, 1) := by decide +kernel
theorem dX5_measure_107 : decode cX5_measure 107 = .ok (.iaload, 1) := by decide +kernel
theorem dX5_measure_108 : decode cX5_measure 108 = .ok (.iadd, 1) := by decide +kernel
theorem dX5_measure_109 : decode cX5_measure 109 = .ok (.aload_n 0, 1) := by decide +kernel
theorem dX5_measure_110 : decode cX5_measure 110 = .ok (.getfield 29, 3) := by decide +kernel
theorem dX5_measure_113 : decode cX5_measure 113 = .ok (.iload 4, 2) := by decide +kernel
theorem dX5_measure_115 : decode cX5_measure 115 = .ok (.iaload, 1) := by decide +kernel
theorem dX5_measure_116 : decode cX5_measure 116 = .ok (.if_icmp .lt 6, 3) := by decide +kernel
theorem dX5_measure_119 : decode cX5_measure 119 = .ok (.goto 35, 3) := by decide +kernel
theorem dX5_measure_122 : decode cX5_measure 122 = .ok (.aload_n 0, 1) := by decide +kernel
theorem dX5_measure_123 : decode cX5_measure 123 = .ok (.getfield 29, 3) := by decide +kernel
theorem dX5_measure_126 : decode cX5_measure 126 = .ok (.iload 4, 2) := by decide +kernel
theorem dX5_measure_128 : decode cX5_measure 128 = .ok (.aload_n 0, 1) := by decide +kernel
theorem dX5_measure_129 : decode cX5_measure 129 = .ok (.getfield 29, 3) := by decide +kernel
theorem dX5_measure_132 : decode cX5_measure 132 = .ok (.aload_n 0, 1) := by decide +kernel
theorem dX5_measure_133 : decode cX5_measure 133 = .ok (.getfield 16, 3) := by decide +kernel
theorem dX5_measure_136 : decode cX5_measure 136 = .ok (.iload_n 3, 1) := by decide +kernel
theorem dX5_measure_137 : decode cX5_measure 137 = .ok (.iaload, 1) := by decide +kernel
theorem dX5_measure_138 : decode cX5_measure 138 = .ok (.iaload, 1) := by decide +kernel
theorem dX5_measure_139 : decode cX5_measure 139 = .ok (.aload_n 0, 1) := by decide +kernel
theorem dX5_measure_140 : decode cX5_measure 140 = .ok (.getfield 19, 3) := by decide +kernel
theorem dX5_measure_143 : decode cX5_measure 143 = .ok (.aload_n 0, 1) := by decide +kernel
theorem dX5_measure_144 : decode cX5_measure 144 = .ok (.getfield 13, 3) := by decide +kernel
theorem dX5_measure_147 : decode cX5_measure 147 = .ok (.iload_n 3, 1) := by decide +kernel
theorem dX5_measure_148 : decode cX5_measure 148 = .ok (.iaload, 1) := by decide +kernel
theorem dX5_measure_149 : decode cX5_measure 149 = .ok (.iaload, 1) := by decide +kernel
theorem dX5_measure_150 : decode cX5_measure 150 = .ok (.iadd, 1) := by decide +kernel
theorem dX5_measure_151 : decode cX5_measure 151 = .ok (.iastore, 1) := by decide +kernel
theorem dX5_measure_152 : decode cX5_measure 152 = .ok (.iconst 1, 1) := by decide +kernel
theorem dX5_measure_153 : decode cX5_measure 153 = .ok (.istore_n 2, 1) := by decide +kernel
theorem dX5_measure_154 : decode cX5_measure 154 = .ok (.iinc 3 1, 3) := by decide +kernel
theorem dX5_measure_157 : decode cX5_measure 157 = .ok (.goto (-113), 3) := by decide +kernel
theorem dX5_measure_160 : decode cX5_measure 160 = .ok (.goto (-124), 3) := by decide +kernel
theorem dX5_measure_163 : decode cX5_measure 163 = .ok (.return_, 1) := by decide +kernel
theorem dX5_canTake_0 : decode cX5_canTake 0 = .ok (.aload_n 0, 1) := by decide +kernel
theorem dX5_canTake_1 : decode cX5_canTake 1 = .ok (.getfield 22, 3) := by decide +kernel
theorem dX5_canTake_4 : decode cX5_canTake 4 = .ok (.aload_n 0, 1) := by decide +kernel
theorem dX5_canTake_5 : decode cX5_canTake 5 = .ok (.getfield 13, 3) := by decide +kernel
theorem dX5_canTake_8 : decode cX5_canTake 8 = .ok (.iload_n 2, 1) := by decide +kernel
theorem dX5_canTake_9 : decode cX5_canTake 9 = .ok (.iaload, 1) := by decide +kernel
theorem dX5_canTake_10 : decode cX5_canTake 10 = .ok (.baload, 1) := by decide +kernel
theorem dX5_canTake_11 : decode cX5_canTake 11 = .ok (.ifCond .ne 21, 3) := by decide +kernel
theorem dX5_canTake_14 : decode cX5_canTake 14 = .ok (.aload_n 1, 1) := by decide +kernel
theorem dX5_canTake_15 : decode cX5_canTake 15 = .ok (.getfield 67, 3) := by decide +kernel
theorem dX5_canTake_18 : decode cX5_canTake 18 = .ok (.aload_n 0, 1) := by decide +kernel
theorem dX5_canTake_19 : decode cX5_canTake 19 = .ok (.getfield 13, 3) := by decide +kernel
theorem dX5_canTake_22 : decode cX5_canTake 22 = .ok (.iload_n 2, 1) := by decide +kernel
theorem dX5_canTake_23 : decode cX5_canTake 23 = .ok (.iaload, 1) := by decide +kernel
theorem dX5_canTake_24 : decode cX5_canTake 24 = .ok (.baload, 1) := by decide +kernel
theorem dX5_canTake_25 : decode cX5_canTake 25 = .ok (.ifCond .ne 7, 3) := by decide +kernel
theorem dX5_canTake_28 : decode cX5_canTake 28 = .ok (.iconst 1, 1) := by decide +kernel
theorem dX5_canTake_29 : decode cX5_canTake 29 = .ok (.goto 4, 3) := by decide +kernel
theorem dX5_canTake_32 : decode cX5_canTake 32 = .ok (.iconst 0, 1) := by decide +kernel
theorem dX5_canTake_33 : decode cX5_canTake 33 = .ok (.ireturn, 1) := by decide +kernel
theorem dX5_take_0 : decode cX5_take 0 = .ok (.aload_n 1, 1) := by decide +kernel
theorem dX5_take_1 : decode cX5_take 1 = .ok (.getfield 67, 3) := by decide +kernel
theorem dX5_take_4 : decode cX5_take 4 = .ok (.aload_n 0, 1) := by decide +kernel
theorem dX5_take_5 : decode cX5_take 5 = .ok (.getfield 13, 3) := by decide +kernel
theorem dX5_take_8 : decode cX5_take 8 = .ok (.iload_n 2, 1) := by decide +kernel
theorem dX5_take_9 : decode cX5_take 9 = .ok (.iaload, 1) := by decide +kernel
theorem dX5_take_10 : decode cX5_take 10 = .ok (.iconst 1, 1) := by decide +kernel
theorem dX5_take_11 : decode cX5_take 11 = .ok (.bastore, 1) := by decide +kernel
theorem dX5_take_12 : decode cX5_take 12 = .ok (.aload_n 1, 1) := by decide +kernel
theorem dX5_take_13 : decode cX5_take 13 = .ok (.getfield 81, 3) := by decide +kernel
theorem dX5_take_16 : decode cX5_take 16 = .ok (.aload_n 1, 1) := by decide +kernel
theorem dX5_take_17 : decode cX5_take 17 = .ok (.getfield 84, 3) := by decide +kernel
theorem dX5_take_20 : decode cX5_take 20 = .ok (.iload_n 2, 1) := by decide +kernel
theorem dX5_take_21 : decode cX5_take 21 = .ok (.iastore, 1) := by decide +kernel
theorem dX5_take_22 : decode cX5_take 22 = .ok (.aload_n 1, 1) := by decide +kernel
theorem dX5_take_23 : decode cX5_take 23 = .ok (.dup, 1) := by decide +kernel
theorem dX5_take_24 : decode cX5_take 24 = .ok (.getfield 84, 3) := by decide +kernel
theorem dX5_take_27 : decode cX5_take 27 = .ok (.iconst 1, 1) := by decide +kernel
theorem dX5_take_28 : decode cX5_take 28 = .ok (.iadd, 1) := by decide +kernel
theorem dX5_take_29 : decode cX5_take 29 = .ok (.putfield 84, 3) := by decide +kernel
theorem dX5_take_32 : decode cX5_take 32 = .ok (.aload_n 1, 1) := by decide +kernel
theorem dX5_take_33 : decode cX5_take 33 = .ok (.aload_n 0, 1) := by decide +kernel
theorem dX5_take_34 : decode cX5_take 34 = .ok (.getfield 16, 3) := by decide +kernel
theorem dX5_take_37 : decode cX5_take 37 = .ok (.iload_n 2, 1) := by decide +kernel
theorem dX5_take_38 : decode cX5_take 38 = .ok (.iaload, 1) := by decide +kernel
theorem dX5_take_39 : decode cX5_take 39 = .ok (.putfield 61, 3) := by decide +kernel
theorem dX5_take_42 : decode cX5_take 42 = .ok (.aload_n 1, 1) := by decide +kernel
theorem dX5_take_43 : decode cX5_take 43 = .ok (.dup, 1) := by decide +kernel
theorem dX5_take_44 : decode cX5_take 44 = .ok (.getfield 87, 3) := by decide +kernel
theorem dX5_take_47 : decode cX5_take 47 = .ok (.aload_n 0, 1) := by decide +kernel
theorem dX5_take_48 : decode cX5_take 48 = .ok (.getfield 19, 3) := by decide +kernel
theorem dX5_take_51 : decode cX5_take 51 = .ok (.aload_n 0, 1) := by decide +kernel
theorem dX5_take_52 : decode cX5_take 52 = .ok (.getfield 13, 3) := by decide +kernel
theorem dX5_take_55 : decode cX5_take 55 = .ok (.iload_n 2, 1) := by decide +kernel
theorem dX5_take_56 : decode cX5_take 56 = .ok (.iaload, 1) := by decide +kernel
theorem dX5_take_57 : decode cX5_take 57 = .ok (.iaload, 1) := by decide +kernel
theorem dX5_take_58 : decode cX5_take 58 = .ok (.iadd, 1) := by decide +kernel
theorem dX5_take_59 : decode cX5_take 59 = .ok (.putfield 87, 3) := by decide +kernel
theorem dX5_take_62 : decode cX5_take 62 = .ok (.return_, 1) := by decide +kernel
set_option maxRecDepth 20000 in
theorem ggX5_toldExit_X5_measure : GoodIn wsX5_toldExit wsX5_measure := goodIn_r _ [11, 12, 4, 1, 2, 3, 5, 6, 13, 14, 15, 16, 17, 18, 19, 20, 21, 22, 23, 24] (by decide +kernel) (by decide +kernel)
set_option maxRecDepth 20000 in
theorem gX5_toldExit_X5_measure : GoodIn wsX5_toldExit (wsV RX5 90 RX5 yX5_measure wsX5_measure) := goodIn_app (goodIn_of _ (by decide +kernel)) ggX5_toldExit_X5_measure
theorem dX5_toldExit_0 : decode cX5_toldExit 0 = .ok (.aload_n 0, 1) := by decide +kernel
theorem dX5_toldExit_1 : decode cX5_toldExit 1 = .ok (.iload_n 2, 1) := by decide +kernel
theorem dX5_toldExit_2 : decode cX5_toldExit 2 = .ok (.invokevirtual 90, 3) := by decide +kernel
theorem dX5_toldExit_5 : decode cX5_toldExit 5 = .ok (.iconst (-1), 1) := by decide +kernel
theorem dX5_toldExit_6 : decode cX5_toldExit 6 = .ok (.istore_n 3, 1) := by decide +kernel
theorem dX5_toldExit_7 : decode cX5_toldExit 7 = .ok (.sipush 9999, 3) := by decide +kernel
theorem dX5_toldExit_10 : decode cX5_toldExit 10 = .ok (.istore 4, 2) := by decide +kernel
theorem dX5_toldExit_12 : decode cX5_toldExit 12 = .ok (.iconst 0, 1) := by decide +kernel
theorem dX5_toldExit_13 : decode cX5_toldExit 13 = .ok (.istore 5, 2) := by decide +kernel
theorem dX5_toldExit_15 : decode cX5_toldExit 15 = .ok (.iload 5, 2) := by decide +kernel
theorem dX5_toldExit_17 : decode cX5_toldExit 17 = .ok (.aload_n 0, 1) := by decide +kernel
theorem dX5_toldExit_18 : decode cX5_toldExit 18 = .ok (.getfield 9, 3) := by decide +kernel
theorem dX5_toldExit_21 : decode cX5_toldExit 21 = .ok (.iload_n 1, 1) := by decide +kernel
theorem dX5_toldExit_22 : decode cX5_toldExit 22 = .ok (.iaload, 1) := by decide +kernel
theorem dX5_toldExit_23 : decode cX5_toldExit 23 = .ok (.if_icmp .ge 95, 3) := by decide +kernel
theorem dX5_toldExit_26 : decode cX5_toldExit 26 = .ok (.iconst 4, 1) := by decide +kernel
theorem dX5_toldExit_27 : decode cX5_toldExit 27 = .ok (.iload_n 1, 1) := by decide +kernel
theorem dX5_toldExit_28 : decode cX5_toldExit 28 = .ok (.imul, 1) := by decide +kernel
theorem dX5_toldExit_29 : decode cX5_toldExit 29 = .ok (.iload 5, 2) := by decide +kernel
theorem dX5_toldExit_31 : decode cX5_toldExit 31 = .ok (.iadd, 1) := by decide +kernel
theorem dX5_toldExit_32 : decode cX5_toldExit 32 = .ok (.istore 6, 2) := by decide +kernel
theorem dX5_toldExit_34 : decode cX5_toldExit 34 = .ok (.aload_n 0, 1) := by decide +kernel
theorem dX5_toldExit_35 : decode cX5_toldExit 35 = .ok (.getfield 22, 3) := by decide +kernel
theorem dX5_toldExit_38 : decode cX5_toldExit 38 = .ok (.aload_n 0, 1) := by decide +kernel
theorem dX5_toldExit_39 : decode cX5_toldExit 39 = .ok (.getfield 13, 3) := by decide +kernel
theorem dX5_toldExit_42 : decode cX5_toldExit 42 = .ok (.iload 6, 2) := by decide +kernel
theorem dX5_toldExit_44 : decode cX5_toldExit 44 = .ok (.iaload, 1) := by decide +kernel
theorem dX5_toldExit_45 : decode cX5_toldExit 45 = .ok (.baload, 1) := by decide +kernel
theorem dX5_toldExit_46 : decode cX5_toldExit 46 = .ok (.ifCond .ne 66, 3) := by decide +kernel
theorem dX5_toldExit_49 : decode cX5_toldExit 49 = .ok (.aload_n 0, 1) := by decide +kernel
theorem dX5_toldExit_50 : decode cX5_toldExit 50 = .ok (.getfield 29, 3) := by decide +kernel
theorem dX5_toldExit_53 : decode cX5_toldExit 53 = .ok (.aload_n 0, 1) := by decide +kernel
theorem dX5_toldExit_54 : decode cX5_toldExit 54 = .ok (.getfield 16, 3) := by decide +kernel
theorem dX5_toldExit_57 : decode cX5_toldExit 57 = .ok (.iload 6, 2) := by decide +kernel
theorem dX5_toldExit_59 : decode cX5_toldExit 59 = .ok (.iaload, 1) := by decide +kernel
theorem dX5_toldExit_60 : decode cX5_toldExit 60 = .ok (.iaload, 1) := by decide +kernel
theorem dX5_toldExit_61 : decode cX5_toldExit 61 = .ok (.aload_n 0, 1) := by decide +kernel
theorem dX5_toldExit_62 : decode cX5_toldExit 62 = .ok (.getfield 19, 3) := by decide +kernel
theorem dX5_toldExit_65 : decode cX5_toldExit 65 = .ok (.aload_n 0, 1) := by decide +kernel
theorem dX5_toldExit_66 : decode cX5_toldExit 66 = .ok (.getfield 13, 3) := by decide +kernel
theorem dX5_toldExit_69 : decode cX5_toldExit 69 = .ok (.iload 6, 2) := by decide +kernel
theorem dX5_toldExit_71 : decode cX5_toldExit 71 = .ok (.iaload, 1) := by decide +kernel
theorem dX5_toldExit_72 : decode cX5_toldExit 72 = .ok (.iaload, 1) := by decide +kernel
theorem dX5_toldExit_73 : decode cX5_toldExit 73 = .ok (.iadd, 1) := by decide +kernel
theorem dX5_toldExit_74 : decode cX5_toldExit 74 = .ok (.iload 4, 2) := by decide +kernel
theorem dX5_toldExit_76 : decode cX5_toldExit 76 = .ok (.if_icmp .lt 6, 3) := by decide +kernel
theorem dX5_toldExit_79 : decode cX5_toldExit 79 = .ok (.goto 33, 3) := by decide +kernel
theorem dX5_toldExit_82 : decode cX5_toldExit 82 = .ok (.iload 5, 2) := by decide +kernel
theorem dX5_toldExit_84 : decode cX5_toldExit 84 = .ok (.istore_n 3, 1) := by decide +kernel
theorem dX5_toldExit_85 : decode cX5_toldExit 85 = .ok (.aload_n 0, 1) := by decide +kernel
theorem dX5_toldExit_86 : decode cX5_toldExit 86 = .ok (.getfield 29, 3) := by decide +kernel
theorem dX5_toldExit_89 : decode cX5_toldExit 89 = .ok (.aload_n 0, 1) := by decide +kernel
theorem dX5_toldExit_90 : decode cX5_toldExit 90 = .ok (.getfield 16, 3) := by decide +kernel
theorem dX5_toldExit_93 : decode cX5_toldExit 93 = .ok (.iload 6, 2) := by decide +kernel
theorem dX5_toldExit_95 : decode cX5_toldExit 95 = .ok (.iaload, 1) := by decide +kernel
theorem dX5_toldExit_96 : decode cX5_toldExit 96 = .ok (.iaload, 1) := by decide +kernel
theorem dX5_toldExit_97 : decode cX5_toldExit 97 = .ok (.aload_n 0, 1) := by decide +kernel
theorem dX5_toldExit_98 : decode cX5_toldExit 98 = .ok (.getfield 19, 3) := by decide +kernel
theorem dX5_toldExit_101 : decode cX5_toldExit 101 = .ok (.aload_n 0, 1) := by decide +kernel
theorem dX5_toldExit_102 : decode cX5_toldExit 102 = .ok (.getfield 13, 3) := by decide +kernel
theorem dX5_toldExit_105 : decode cX5_toldExit 105 = .ok (.iload 6, 2) := by decide +kernel
theorem dX5_toldExit_107 : decode cX5_toldExit 107 = .ok (.iaload, 1) := by decide +kernel
theorem dX5_toldExit_108 : decode cX5_toldExit 108 = .ok (.iaload, 1) := by decide +kernel
theorem dX5_toldExit_109 : decode cX5_toldExit 109 = .ok (.iadd, 1) := by decide +kernel
theorem dX5_toldExit_110 : decode cX5_toldExit 110 = .ok (.istore 4, 2) := by decide +kernel
theorem dX5_toldExit_112 : decode cX5_toldExit 112 = .ok (.iinc 5 1, 3) := by decide +kernel
theorem dX5_toldExit_115 : decode cX5_toldExit 115 = .ok (.goto (-100), 3) := by decide +kernel
theorem dX5_toldExit_118 : decode cX5_toldExit 118 = .ok (.iload_n 3, 1) := by decide +kernel
theorem dX5_toldExit_119 : decode cX5_toldExit 119 = .ok (.ireturn, 1) := by decide +kernel
set_option maxRecDepth 20000 in
theorem ggX5_asks_X5_toldExit : GoodIn wsX5_asks wsX5_toldExit := goodIn_r _ [7, 8, 9, 2, 10, 11, 12, 13, 14, 15, 6, 16, 17, 44, 45, 46, 47, 48, 49, 50, 51, 52, 53, 54, 55] (by decide +kernel) (by decide +kernel)
set_option maxRecDepth 20000 in
theorem gX5_asks_X5_toldExit : GoodIn wsX5_asks (wsV RX5 106 RX5 yX5_toldExit wsX5_toldExit) := goodIn_app (goodIn_of _ (by decide +kernel)) ggX5_asks_X5_toldExit
set_option maxRecDepth 20000 in
theorem ggX5_asks_X4_remember : GoodIn wsX5_asks wsX4_remember := goodIn_r _ [22, 23, 24, 25, 30, 31, 32, 33, 34, 35, 36, 37, 38, 39, 40, 41, 42, 43] (by decide +kernel) (by decide +kernel)
set_option maxRecDepth 20000 in
theorem gX5_asks_X4_remember : GoodIn wsX5_asks (wsV RX5 110 RX4 yX4_remember wsX4_remember) := goodIn_app (goodIn_of _ (by decide +kernel)) ggX5_asks_X4_remember
set_option maxRecDepth 20000 in
theorem ggX5_asks_X5_take : GoodIn wsX5_asks wsX5_take := goodIn_r _ [29, 2, 11, 12, 30, 31, 32, 33, 34, 35, 36, 37, 38, 39, 40, 41, 42, 43, 44, 45, 46, 47, 48, 49, 50, 51, 52, 53, 54, 55] (by decide +kernel) (by decide +kernel)
set_option maxRecDepth 20000 in
theorem gX5_asks_X5_take : GoodIn wsX5_asks (wsV RX5 114 RX5 yX5_take wsX5_take) := goodIn_app (goodIn_of _ (by decide +kernel)) ggX5_asks_X5_take
theorem dX5_asks_0 : decode cX5_asks 0 = .ok (.aload_n 1, 1) := by decide +kernel
theorem dX5_asks_1 : decode cX5_asks 1 = .ok (.getfield 61, 3) := by decide +kernel
theorem dX5_asks_4 : decode cX5_asks 4 = .ok (.istore_n 2, 1) := by decide +kernel
theorem dX5_asks_5 : decode cX5_asks 5 = .ok (.aload_n 0, 1) := by decide +kernel
theorem dX5_asks_6 : decode cX5_asks 6 = .ok (.getfield 26, 3) := by decide +kernel
theorem dX5_asks_9 : decode cX5_asks 9 = .ok (.iload_n 2, 1) := by decide +kernel
theorem dX5_asks_10 : decode cX5_asks 10 = .ok (.baload, 1) := by decide +kernel
theorem dX5_asks_11 : decode cX5_asks 11 = .ok (.ifCond .eq 19, 3) := by decide +kernel
theorem dX5_asks_14 : decode cX5_asks 14 = .ok (.aload_n 1, 1) := by decide +kernel
theorem dX5_asks_15 : decode cX5_asks 15 = .ok (.getfield 94, 3) := by decide +kernel
theorem dX5_asks_18 : decode cX5_asks 18 = .ok (.iload_n 2, 1) := by decide +kernel
theorem dX5_asks_19 : decode cX5_asks 19 = .ok (.baload, 1) := by decide +kernel
theorem dX5_asks_20 : decode cX5_asks 20 = .ok (.ifCond .ne 10, 3) := by decide +kernel
theorem dX5_asks_23 : decode cX5_asks 23 = .ok (.aload_n 1, 1) := by decide +kernel
theorem dX5_asks_24 : decode cX5_asks 24 = .ok (.getfield 97, 3) := by decide +kernel
theorem dX5_asks_27 : decode cX5_asks 27 = .ok (.ifCond .ne 5, 3) := by decide +kernel
theorem dX5_asks_30 : decode cX5_asks 30 = .ok (.iconst 0, 1) := by decide +kernel
theorem dX5_asks_31 : decode cX5_asks 31 = .ok (.ireturn, 1) := by decide +kernel
theorem dX5_asks_32 : decode cX5_asks 32 = .ok (.aload_n 1, 1) := by decide +kernel
theorem dX5_asks_33 : decode cX5_asks 33 = .ok (.dup, 1) := by decide +kernel
theorem dX5_asks_34 : decode cX5_asks 34 = .ok (.getfield 97, 3) := by decide +kernel
theorem dX5_asks_37 : decode cX5_asks 37 = .ok (.iconst 1, 1) := by decide +kernel
theorem dX5_asks_38 : decode cX5_asks 38 = .ok (.isub, 1) := by decide +kernel
theorem dX5_asks_39 : decode cX5_asks 39 = .ok (.putfield 97, 3) := by decide +kernel
theorem dX5_asks_42 : decode cX5_asks 42 = .ok (.aload_n 1, 1) := by decide +kernel
theorem dX5_asks_43 : decode cX5_asks 43 = .ok (.getfield 94, 3) := by decide +kernel
theorem dX5_asks_46 : decode cX5_asks 46 = .ok (.iload_n 2, 1) := by decide +kernel
theorem dX5_asks_47 : decode cX5_asks 47 = .ok (.iconst 1, 1) := by decide +kernel
theorem dX5_asks_48 : decode cX5_asks 48 = .ok (.bastore, 1) := by decide +kernel
theorem dX5_asks_49 : decode cX5_asks 49 = .ok (.aload_n 1, 1) := by decide +kernel
theorem dX5_asks_50 : decode cX5_asks 50 = .ok (.dup, 1) := by decide +kernel
theorem dX5_asks_51 : decode cX5_asks 51 = .ok (.getfield 100, 3) := by decide +kernel
theorem dX5_asks_54 : decode cX5_asks 54 = .ok (.iconst 1, 1) := by decide +kernel
theorem dX5_asks_55 : decode cX5_asks 55 = .ok (.iadd, 1) := by decide +kernel
theorem dX5_asks_56 : decode cX5_asks 56 = .ok (.putfield 100, 3) := by decide +kernel
theorem dX5_asks_59 : decode cX5_asks 59 = .ok (.aload_n 0, 1) := by decide +kernel
theorem dX5_asks_60 : decode cX5_asks 60 = .ok (.iload_n 2, 1) := by decide +kernel
theorem dX5_asks_61 : decode cX5_asks 61 = .ok (.aload_n 1, 1) := by decide +kernel
theorem dX5_asks_62 : decode cX5_asks 62 = .ok (.getfield 103, 3) := by decide +kernel
theorem dX5_asks_65 : decode cX5_asks 65 = .ok (.invokevirtual 106, 3) := by decide +kernel
theorem dX5_asks_68 : decode cX5_asks 68 = .ok (.istore_n 3, 1) := by decide +kernel
theorem dX5_asks_69 : decode cX5_asks 69 = .ok (.iload_n 3, 1) := by decide +kernel
theorem dX5_asks_70 : decode cX5_asks 70 = .ok (.iconst (-1), 1) := by decide +kernel
theorem dX5_asks_71 : decode cX5_asks 71 = .ok (.if_icmp .ne 5, 3) := by decide +kernel
theorem dX5_asks_74 : decode cX5_asks 74 = .ok (.iconst 0, 1) := by decide +kernel
theorem dX5_asks_75 : decode cX5_asks 75 = .ok (.ireturn, 1) := by decide +kernel
theorem dX5_asks_76 : decode cX5_asks 76 = .ok (.aload_n 1, 1) := by decide +kernel
theorem dX5_asks_77 : decode cX5_asks 77 = .ok (.iload_n 2, 1) := by decide +kernel
theorem dX5_asks_78 : decode cX5_asks 78 = .ok (.iload_n 3, 1) := by decide +kernel
theorem dX5_asks_79 : decode cX5_asks 79 = .ok (.iconst 3, 1) := by decide +kernel
theorem dX5_asks_80 : decode cX5_asks 80 = .ok (.invokevirtual 110, 3) := by decide +kernel
theorem dX5_asks_83 : decode cX5_asks 83 = .ok (.aload_n 1, 1) := by decide +kernel
theorem dX5_asks_84 : decode cX5_asks 84 = .ok (.getfield 67, 3) := by decide +kernel
theorem dX5_asks_87 : decode cX5_asks 87 = .ok (.aload_n 0, 1) := by decide +kernel
theorem dX5_asks_88 : decode cX5_asks 88 = .ok (.getfield 13, 3) := by decide +kernel
theorem dX5_asks_91 : decode cX5_asks 91 = .ok (.iconst 4, 1) := by decide +kernel
theorem dX5_asks_92 : decode cX5_asks 92 = .ok (.iload_n 2, 1) := by decide +kernel
theorem dX5_asks_93 : decode cX5_asks 93 = .ok (.imul, 1) := by decide +kernel
theorem dX5_asks_94 : decode cX5_asks 94 = .ok (.iload_n 3, 1) := by decide +kernel
theorem dX5_asks_95 : decode cX5_asks 95 = .ok (.iadd, 1) := by decide +kernel
theorem dX5_asks_96 : decode cX5_asks 96 = .ok (.iaload, 1) := by decide +kernel
theorem dX5_asks_97 : decode cX5_asks 97 = .ok (.baload, 1) := by decide +kernel
theorem dX5_asks_98 : decode cX5_asks 98 = .ok (.ifCond .eq 5, 3) := by decide +kernel
theorem dX5_asks_101 : decode cX5_asks 101 = .ok (.iconst 0, 1) := by decide +kernel
theorem dX5_asks_102 : decode cX5_asks 102 = .ok (.ireturn, 1) := by decide +kernel
theorem dX5_asks_103 : decode cX5_asks 103 = .ok (.aload_n 0, 1) := by decide +kernel
theorem dX5_asks_104 : decode cX5_asks 104 = .ok (.aload_n 1, 1) := by decide +kernel
theorem dX5_asks_105 : decode cX5_asks 105 = .ok (.iconst 4, 1) := by decide +kernel
theorem dX5_asks_106 : decode cX5_asks 106 = .ok (.iload_n 2, 1) := by decide +kernel
theorem dX5_asks_107 : decode cX5_asks 107 = .ok (.imul, 1) := by decide +kernel
theorem dX5_asks_108 : decode cX5_asks 108 = .ok (.iload_n 3, 1) := by decide +kernel
theorem dX5_asks_109 : decode cX5_asks 109 = .ok (.iadd, 1) := by decide +kernel
theorem dX5_asks_110 : decode cX5_asks 110 = .ok (.invokevirtual 114, 3) := by decide +kernel
theorem dX5_asks_113 : decode cX5_asks 113 = .ok (.iconst 1, 1) := by decide +kernel
theorem dX5_asks_114 : decode cX5_asks 114 = .ok (.ireturn, 1) := by decide +kernel
set_option maxRecDepth 20000 in
theorem ggX5_triesNext_X5_canTake : GoodIn wsX5_triesNext wsX5_canTake := goodIn_r _ [6, 7, 8, 29, 30, 31, 32, 33, 34, 35, 36, 37, 38, 39, 40, 15, 16, 17, 18, 19, 20, 21, 22, 23, 24, 25, 26, 27, 28] (by decide +kernel) (by decide +kernel)
set_option maxRecDepth 20000 in
theorem gX5_triesNext_X5_canTake : GoodIn wsX5_triesNext (wsV RX5 118 RX5 yX5_canTake wsX5_canTake) := goodIn_app (goodIn_of _ (by decide +kernel)) ggX5_triesNext_X5_canTake
set_option maxRecDepth 20000 in
theorem ggX5_triesNext_X5_take : GoodIn wsX5_triesNext wsX5_take := goodIn_r _ [12, 8, 13, 14, 15, 16, 17, 18, 19, 20, 21, 22, 23, 24, 25, 26, 27, 28, 29, 30, 31, 32, 33, 34, 35, 36, 37, 38, 39, 40] (by decide +kernel) (by decide +kernel)
set_option maxRecDepth 20000 in
theorem gX5_triesNext_X5_take : GoodIn wsX5_triesNext (wsV RX5 114 RX5 yX5_take wsX5_take) := goodIn_app (goodIn_of _ (by decide +kernel)) ggX5_triesNext_X5_take
theorem dX5_triesNext_0 : decode cX5_triesNext 0 = .ok (.aload_n 1, 1) := by decide +kernel
theorem dX5_triesNext_1 : decode cX5_triesNext 1 = .ok (.getfield 61, 3) := by decide +kernel
theorem dX5_triesNext_4 : decode cX5_triesNext 4 = .ok (.istore_n 2, 1) := by decide +kernel
theorem dX5_triesNext_5 : decode cX5_triesNext 5 = .ok (.iconst 0, 1) := by decide +kernel
theorem dX5_triesNext_6 : decode cX5_triesNext 6 = .ok (.istore_n 3, 1) := by decide +kernel
theorem dX5_triesNext_7 : decode cX5_triesNext 7 = .ok (.iload_n 3, 1) := by decide +kernel
theorem dX5_triesNext_8 : decode cX5_triesNext 8 = .ok (.aload_n 0, 1) := by decide +kernel
theorem dX5_triesNext_9 : decode cX5_triesNext 9 = .ok (.getfield 9, 3) := by decide +kernel
theorem dX5_triesNext_12 : decode cX5_triesNext 12 = .ok (.iload_n 2, 1) := by decide +kernel
theorem dX5_triesNext_13 : decode cX5_triesNext 13 = .ok (.iaload, 1) := by decide +kernel
theorem dX5_triesNext_14 : decode cX5_triesNext 14 = .ok (.if_icmp .ge 37, 3) := by decide +kernel
theorem dX5_triesNext_17 : decode cX5_triesNext 17 = .ok (.aload_n 0, 1) := by decide +kernel
theorem dX5_triesNext_18 : decode cX5_triesNext 18 = .ok (.aload_n 1, 1) := by decide +kernel
theorem dX5_triesNext_19 : decode cX5_triesNext 19 = .ok (.iconst 4, 1) := by decide +kernel
theorem dX5_triesNext_20 : decode cX5_triesNext 20 = .ok (.iload_n 2, 1) := by decide +kernel
theorem dX5_triesNext_21 : decode cX5_triesNext 21 = .ok (.imul, 1) := by decide +kernel
theorem dX5_triesNext_22 : decode cX5_triesNext 22 = .ok (.iload_n 3, 1) := by decide +kernel
theorem dX5_triesNext_23 : decode cX5_triesNext 23 = .ok (.iadd, 1) := by decide +kernel
theorem dX5_triesNext_24 : decode cX5_triesNext 24 = .ok (.invokevirtual 118, 3) := by decide +kernel
theorem dX5_triesNext_27 : decode cX5_triesNext 27 = .ok (.ifCond .ne 6, 3) := by decide +kernel
theorem dX5_triesNext_30 : decode cX5_triesNext 30 = .ok (.goto 15, 3) := by decide +kernel
theorem dX5_triesNext_33 : decode cX5_triesNext 33 = .ok (.aload_n 0, 1) := by decide +kernel
theorem dX5_triesNext_34 : decode cX5_triesNext 34 = .ok (.aload_n 1, 1) := by decide +kernel
theorem dX5_triesNext_35 : decode cX5_triesNext 35 = .ok (.iconst 4, 1) := by decide +kernel
theorem dX5_triesNext_36 : decode cX5_triesNext 36 = .ok (.iload_n 2, 1) := by decide +kernel
theorem dX5_triesNext_37 : decode cX5_triesNext 37 = .ok (.imul, 1) := by decide +kernel
theorem dX5_triesNext_38 : decode cX5_triesNext 38 = .ok (.iload_n 3, 1) := by decide +kernel
theorem dX5_triesNext_39 : decode cX5_triesNext 39 = .ok (.iadd, 1) := by decide +kernel
theorem dX5_triesNext_40 : decode cX5_triesNext 40 = .ok (.invokevirtual 114, 3) := by decide +kernel
theorem dX5_triesNext_43 : decode cX5_triesNext 43 = .ok (.iconst 1, 1) := by decide +kernel
theorem dX5_triesNext_44 : decode cX5_triesNext 44 = .ok (.ireturn, 1) := by decide +kernel
theorem dX5_triesNext_45 : decode cX5_triesNext 45 = .ok (.iinc 3 1, 3) := by decide +kernel
theorem dX5_triesNext_48 : decode cX5_triesNext 48 = .ok (.goto (-41), 3) := by decide +kernel
theorem dX5_triesNext_51 : decode cX5_triesNext 51 = .ok (.iconst 0, 1) := by decide +kernel
theorem dX5_triesNext_52 : decode cX5_triesNext 52 = .ok (.ireturn, 1) := by decide +kernel
theorem dX5_doublesBack_0 : decode cX5_doublesBack 0 = .ok (.aload_n 1, 1) := by decide +kernel
theorem dX5_doublesBack_1 : decode cX5_doublesBack 1 = .ok (.getfield 84, 3) := by decide +kernel
theorem dX5_doublesBack_4 : decode cX5_doublesBack 4 = .ok (.ifCond .ne 5, 3) := by decide +kernel
theorem dX5_doublesBack_7 : decode cX5_doublesBack 7 = .ok (.iconst 0, 1) := by decide +kernel
theorem dX5_doublesBack_8 : decode cX5_doublesBack 8 = .ok (.ireturn, 1) := by decide +kernel
theorem dX5_doublesBack_9 : decode cX5_doublesBack 9 = .ok (.aload_n 1, 1) := by decide +kernel
theorem dX5_doublesBack_10 : decode cX5_doublesBack 10 = .ok (.dup, 1) := by decide +kernel
theorem dX5_doublesBack_11 : decode cX5_doublesBack 11 = .ok (.getfield 84, 3) := by decide +kernel
theorem dX5_doublesBack_14 : decode cX5_doublesBack 14 = .ok (.iconst 1, 1) := by decide +kernel
theorem dX5_doublesBack_15 : decode cX5_doublesBack 15 = .ok (.isub, 1) := by decide +kernel
theorem dX5_doublesBack_16 : decode cX5_doublesBack 16 = .ok (.putfield 84, 3) := by decide +kernel
theorem dX5_doublesBack_19 : decode cX5_doublesBack 19 = .ok (.aload_n 1, 1) := by decide +kernel
theorem dX5_doublesBack_20 : decode cX5_doublesBack 20 = .ok (.getfield 81, 3) := by decide +kernel
theorem dX5_doublesBack_23 : decode cX5_doublesBack 23 = .ok (.aload_n 1, 1) := by decide +kernel
theorem dX5_doublesBack_24 : decode cX5_doublesBack 24 = .ok (.getfield 84, 3) := by decide +kernel
theorem dX5_doublesBack_27 : decode cX5_doublesBack 27 = .ok (.iaload, 1) := by decide +kernel
theorem dX5_doublesBack_28 : decode cX5_doublesBack 28 = .ok (.istore_n 2, 1) := by decide +kernel
theorem dX5_doublesBack_29 : decode cX5_doublesBack 29 = .ok (.aload_n 1, 1) := by decide +kernel
theorem dX5_doublesBack_30 : decode cX5_doublesBack 30 = .ok (.iload_n 2, 1) := by decide +kernel
theorem dX5_doublesBack_31 : decode cX5_doublesBack 31 = .ok (.iconst 4, 1) := by decide +kernel
theorem dX5_doublesBack_32 : decode cX5_doublesBack 32 = .ok (.idiv, 1) := by decide +kernel
theorem dX5_doublesBack_33 : decode cX5_doublesBack 33 = .ok (.putfield 61, 3) := by decide +kernel
theorem dX5_doublesBack_36 : decode cX5_doublesBack 36 = .ok (.aload_n 1, 1) := by decide +kernel
theorem dX5_doublesBack_37 : decode cX5_doublesBack 37 = .ok (.dup, 1) := by decide +kernel
theorem dX5_doublesBack_38 : decode cX5_doublesBack 38 = .ok (.getfield 87, 3) := by decide +kernel
theorem dX5_doublesBack_41 : decode cX5_doublesBack 41 = .ok (.aload_n 0, 1) := by decide +kernel
theorem dX5_doublesBack_42 : decode cX5_doublesBack 42 = .ok (.getfield 19, 3) := by decide +kernel
theorem dX5_doublesBack_45 : decode cX5_doublesBack 45 = .ok (.aload_n 0, 1) := by decide +kernel
theorem dX5_doublesBack_46 : decode cX5_doublesBack 46 = .ok (.getfield 13, 3) := by decide +kernel
theorem dX5_doublesBack_49 : decode cX5_doublesBack 49 = .ok (.iload_n 2, 1) := by decide +kernel
theorem dX5_doublesBack_50 : decode cX5_doublesBack 50 = .ok (.iaload, 1) := by decide +kernel
theorem dX5_doublesBack_51 : decode cX5_doublesBack 51 = .ok (.iaload, 1) := by decide +kernel
theorem dX5_doublesBack_52 : decode cX5_doublesBack 52 = .ok (.iadd, 1) := by decide +kernel
theorem dX5_doublesBack_53 : decode cX5_doublesBack 53 = .ok (.putfield 87, 3) := by decide +kernel
theorem dX5_doublesBack_56 : decode cX5_doublesBack 56 = .ok (.aload_n 1, 1) := by decide +kernel
theorem dX5_doublesBack_57 : decode cX5_doublesBack 57 = .ok (.dup, 1) := by decide +kernel
theorem dX5_doublesBack_58 : decode cX5_doublesBack 58 = .ok (.getfield 122, 3) := by decide +kernel
theorem dX5_doublesBack_61 : decode cX5_doublesBack 61 = .ok (.aload_n 0, 1) := by decide +kernel
theorem dX5_doublesBack_62 : decode cX5_doublesBack 62 = .ok (.getfield 19, 3) := by decide +kernel
theorem dX5_doublesBack_65 : decode cX5_doublesBack 65 = .ok (.aload_n 0, 1) := by decide +kernel
theorem dX5_doublesBack_66 : decode cX5_doublesBack 66 = .ok (.getfield 13, 3) := by decide +kernel
theorem dX5_doublesBack_69 : decode cX5_doublesBack 69 = .ok (.iload_n 2, 1) := by decide +kernel
theorem dX5_doublesBack_70 : decode cX5_doublesBack 70 = .ok (.iaload, 1) := by decide +kernel
theorem dX5_doublesBack_71 : decode cX5_doublesBack 71 = .ok (.iaload, 1) := by decide +kernel
theorem dX5_doublesBack_72 : decode cX5_doublesBack 72 = .ok (.iadd, 1) := by decide +kernel
theorem dX5_doublesBack_73 : decode cX5_doublesBack 73 = .ok (.putfield 122, 3) := by decide +kernel
theorem dX5_doublesBack_76 : decode cX5_doublesBack 76 = .ok (.iconst 1, 1) := by decide +kernel
theorem dX5_doublesBack_77 : decode cX5_doublesBack 77 = .ok (.ireturn, 1) := by decide +kernel
set_option maxRecDepth 20000 in
theorem ggX5_learn_X4_remembered : GoodIn wsX5_learn wsX4_remembered := goodIn_r _ [9, 10, 11, 17, 18, 19, 20, 21, 22, 23, 24, 25, 26, 27, 28, 29, 30] (by decide +kernel) (by decide +kernel)
set_option maxRecDepth 20000 in
theorem gX5_learn_X4_remembered : GoodIn wsX5_learn (wsV RX5 125 RX4 yX4_remembered wsX4_remembered) := goodIn_app (goodIn_of _ (by decide +kernel)) ggX5_learn_X4_remembered
set_option maxRecDepth 20000 in
theorem ggX5_learn_X4_remember : GoodIn wsX5_learn wsX4_remember := goodIn_r _ [15, 10, 11, 16, 17, 18, 19, 20, 21, 22, 23, 24, 25, 26, 27, 28, 29, 30] (by decide +kernel) (by decide +kernel)
set_option maxRecDepth 20000 in
theorem gX5_learn_X4_remember : GoodIn wsX5_learn (wsV RX5 110 RX4 yX4_remember wsX4_remember) := goodIn_app (goodIn_of _ (by decide +kernel)) ggX5_learn_X4_remember
theorem dX5_learn_0 : decode cX5_learn 0 = .ok (.iconst 0, 1) := by decide +kernel
theorem dX5_learn_1 : decode cX5_learn 1 = .ok (.istore_n 2, 1) := by decide +kernel
theorem dX5_learn_2 : decode cX5_learn 2 = .ok (.iload_n 2, 1) := by decide +kernel
theorem dX5_learn_3 : decode cX5_learn 3 = .ok (.aload_n 1, 1) := by decide +kernel
theorem dX5_learn_4 : decode cX5_learn 4 = .ok (.getfield 84, 3) := by decide +kernel
theorem dX5_learn_7 : decode cX5_learn 7 = .ok (.if_icmp .ge 82, 3) := by decide +kernel
theorem dX5_learn_10 : decode cX5_learn 10 = .ok (.aload_n 1, 1) := by decide +kernel
theorem dX5_learn_11 : decode cX5_learn 11 = .ok (.getfield 81, 3) := by decide +kernel
theorem dX5_learn_14 : decode cX5_learn 14 = .ok (.iload_n 2, 1) := by decide +kernel
theorem dX5_learn_15 : decode cX5_learn 15 = .ok (.iaload, 1) := by decide +kernel
theorem dX5_learn_16 : decode cX5_learn 16 = .ok (.iconst 4, 1) := by decide +kernel
theorem dX5_learn_17 : decode cX5_learn 17 = .ok (.idiv, 1) := by decide +kernel
theorem dX5_learn_18 : decode cX5_learn 18 = .ok (.istore_n 3, 1) := by decide +kernel
theorem dX5_learn_19 : decode cX5_learn 19 = .ok (.aload_n 1, 1) := by decide +kernel
theorem dX5_learn_20 : decode cX5_learn 20 = .ok (.getfield 81, 3) := by decide +kernel
theorem dX5_learn_23 : decode cX5_learn 23 = .ok (.iload_n 2, 1) := by decide +kernel
theorem dX5_learn_24 : decode cX5_learn 24 = .ok (.iaload, 1) := by decide +kernel
theorem dX5_learn_25 : decode cX5_learn 25 = .ok (.iconst 4, 1) := by decide +kernel
theorem dX5_learn_26 : decode cX5_learn 26 = .ok (.irem, 1) := by decide +kernel
theorem dX5_learn_27 : decode cX5_learn 27 = .ok (.istore 4, 2) := by decide +kernel
theorem dX5_learn_29 : decode cX5_learn 29 = .ok (.aload_n 1, 1) := by decide +kernel
theorem dX5_learn_30 : decode cX5_learn 30 = .ok (.iload_n 3, 1) := by decide +kernel
theorem dX5_learn_31 : decode cX5_learn 31 = .ok (.invokevirtual 125, 3) := by decide +kernel
theorem dX5_learn_34 : decode cX5_learn 34 = .ok (.iload 4, 2) := by decide +kernel
theorem dX5_learn_36 : decode cX5_learn 36 = .ok (.if_icmp .ne 7, 3) := by decide +kernel
theorem dX5_learn_39 : decode cX5_learn 39 = .ok (.iconst 1, 1) := by decide +kernel
theorem dX5_learn_40 : decode cX5_learn 40 = .ok (.goto 4, 3) := by decide +kernel
theorem dX5_learn_43 : decode cX5_learn 43 = .ok (.iconst 0, 1) := by decide +kernel
theorem dX5_learn_44 : decode cX5_learn 44 = .ok (.istore 5, 2) := by decide +kernel
theorem dX5_learn_46 : decode cX5_learn 46 = .ok (.aload_n 1, 1) := by decide +kernel
theorem dX5_learn_47 : decode cX5_learn 47 = .ok (.iload_n 3, 1) := by decide +kernel
theorem dX5_learn_48 : decode cX5_learn 48 = .ok (.iload 4, 2) := by decide +kernel
theorem dX5_learn_50 : decode cX5_learn 50 = .ok (.iload 5, 2) := by decide +kernel
theorem dX5_learn_52 : decode cX5_learn 52 = .ok (.ifCond .eq 27, 3) := by decide +kernel
theorem dX5_learn_55 : decode cX5_learn 55 = .ok (.bipush 9, 2) := by decide +kernel
theorem dX5_learn_57 : decode cX5_learn 57 = .ok (.aload_n 1, 1) := by decide +kernel
theorem dX5_learn_58 : decode cX5_learn 58 = .ok (.getfield 128, 3) := by decide +kernel
theorem dX5_learn_61 : decode cX5_learn 61 = .ok (.bipush 10, 2) := by decide +kernel
theorem dX5_learn_63 : decode cX5_learn 63 = .ok (.aload_n 1, 1) := by decide +kernel
theorem dX5_learn_64 : decode cX5_learn 64 = .ok (.getfield 103, 3) := by decide +kernel
theorem dX5_learn_67 : decode cX5_learn 67 = .ok (.imul, 1) := by decide +kernel
theorem dX5_learn_68 : decode cX5_learn 68 = .ok (.iload_n 3, 1) := by decide +kernel
theorem dX5_learn_69 : decode cX5_learn 69 = .ok (.iadd, 1) := by decide +kernel
theorem dX5_learn_70 : decode cX5_learn 70 = .ok (.iaload, 1) := by decide +kernel
theorem dX5_learn_71 : decode cX5_learn 71 = .ok (.iconst 3, 1) := by decide +kernel
theorem dX5_learn_72 : decode cX5_learn 72 = .ok (.iadd, 1) := by decide +kernel
theorem dX5_learn_73 : decode cX5_learn 73 = .ok (.invokestatic 131, 3) := by decide +kernel
theorem dX5_learn_76 : decode cX5_learn 76 = .ok (.goto 4, 3) := by decide +kernel
theorem dX5_learn_79 : decode cX5_learn 79 = .ok (.iconst 3, 1) := by decide +kernel
theorem dX5_learn_80 : decode cX5_learn 80 = .ok (.invokevirtual 110, 3) := by decide +kernel
theorem dX5_learn_83 : decode cX5_learn 83 = .ok (.iinc 2 1, 3) := by decide +kernel
theorem dX5_learn_86 : decode cX5_learn 86 = .ok (.goto (-84), 3) := by decide +kernel
theorem dX5_learn_89 : decode cX5_learn 89 = .ok (.return_, 1) := by decide +kernel
set_option maxRecDepth 20000 in
theorem ggX5_stepOn_X4_remembered : GoodIn wsX5_stepOn wsX4_remembered := goodIn_r _ [5, 6, 7, 69, 70, 71, 72, 73, 74, 75, 76, 77, 78, 79, 80, 81, 82] (by decide +kernel) (by decide +kernel)
set_option maxRecDepth 20000 in
theorem gX5_stepOn_X4_remembered : GoodIn wsX5_stepOn (wsV RX5 125 RX4 yX4_remembered wsX4_remembered) := goodIn_app (goodIn_of _ (by decide +kernel)) ggX5_stepOn_X4_remembered
set_option maxRecDepth 20000 in
theorem ggX5_stepOn_X5_canTake : GoodIn wsX5_stepOn wsX5_canTake := goodIn_r _ [12, 13, 14, 83, 84, 85, 86, 87, 88, 89, 90, 91, 92, 93, 94, 69, 70, 71, 72, 73, 74, 75, 76, 77, 78, 79, 80, 81, 82] (by decide +kernel) (by decide +kernel)
set_option maxRecDepth 20000 in
theorem gX5_stepOn_X5_canTake : GoodIn wsX5_stepOn (wsV RX5 118 RX5 yX5_canTake wsX5_canTake) := goodIn_app (goodIn_of _ (by decide +kernel)) ggX5_stepOn_X5_canTake
set_option maxRecDepth 20000 in
theorem ggX5_stepOn_X5_take : GoodIn wsX5_stepOn wsX5_take := goodIn_r _ [18, 14, 19, 20, 69, 70, 71, 72, 73, 74, 75, 76, 77, 78, 79, 80, 81, 82, 83, 84, 85, 86, 87, 88, 89, 90, 91, 92, 93, 94] (by decide +kernel) (by decide +kernel)
set_option maxRecDepth 20000 in
theorem gX5_stepOn_X5_take : GoodIn wsX5_stepOn (wsV RX5 114 RX5 yX5_take wsX5_take) := goodIn_app (goodIn_of _ (by decide +kernel)) ggX5_stepOn_X5_take
set_option maxRecDepth 20000 in
theorem ggX5_stepOn_X5_asks : GoodIn wsX5_stepOn wsX5_asks := goodIn_r _ [24, 25, 14, 26, 27, 28, 11, 29, 30, 13, 31, 19, 20, 32, 33, 34, 35, 36, 37, 38, 39, 4, 40, 6, 7, 41, 15, 16, 17, 18, 69, 70, 71, 72, 73, 74, 75, 76, 77, 78, 79, 80, 81, 82, 83, 84, 85, 86, 87, 88, 89, 90, 91, 92, 93, 94] (by decide +kernel) (by decide +kernel)
set_option maxRecDepth 20000 in
theorem gX5_stepOn_X5_asks : GoodIn wsX5_stepOn (wsV RX5 136 RX5 yX5_asks wsX5_asks) := goodIn_app (goodIn_of _ (by decide +kernel)) ggX5_stepOn_X5_asks
set_option maxRecDepth 20000 in
theorem ggX5_stepOn_X5_triesNext : GoodIn wsX5_stepOn wsX5_triesNext := goodIn_r _ [45, 30, 8, 9, 10, 11, 12, 13, 14, 15, 16, 17, 18, 19, 20, 69, 70, 71, 72, 73, 74, 75, 76, 77, 78, 79, 80, 81, 82, 83, 84, 85, 86, 87, 88, 89, 90, 91, 92, 93, 94] (by decide +kernel) (by decide +kernel)
set_option maxRecDepth 20000 in
theorem gX5_stepOn_X5_triesNext : GoodIn wsX5_stepOn (wsV RX5 140 RX5 yX5_triesNext wsX5_triesNext) := goodIn_app (goodIn_of _ (by decide +kernel)) ggX5_stepOn_X5_triesNext
set_option maxRecDepth 20000 in
theorem ggX5_stepOn_X5_doublesBack : GoodIn wsX5_stepOn wsX5_doublesBack := goodIn_r _ [49, 20, 14, 69, 70, 71, 72, 73, 74, 75, 76, 77, 78, 79, 80, 81, 82, 83, 84, 85, 86, 87, 88, 89, 90, 91, 92, 93, 94] (by decide +kernel) (by decide +kernel)
set_option maxRecDepth 20000 in
theorem gX5_stepOn_X5_doublesBack : GoodIn wsX5_stepOn (wsV RX5 143 RX5 yX5_doublesBack wsX5_doublesBack) := goodIn_app (goodIn_of _ (by decide +kernel)) ggX5_stepOn_X5_doublesBack
set_option maxRecDepth 20000 in
theorem ggX5_stepOn_X4_end : GoodIn wsX5_stepOn wsX4_end := goodIn_r _ [53, 54, 55, 56, 4, 57, 7, 58, 59, 60, 69, 70, 71, 72, 73, 74, 75, 76, 77, 78, 79, 80, 81, 82] (by decide +kernel) (by decide +kernel)
set_option maxRecDepth 20000 in
theorem gX5_stepOn_X4_end : GoodIn wsX5_stepOn (wsV RX5 149 RX4 yX4_end wsX4_end) := goodIn_app (goodIn_of _ (by decide +kernel)) ggX5_stepOn_X4_end
set_option maxRecDepth 20000 in
theorem ggX5_stepOn_X5_learn : GoodIn wsX5_stepOn wsX5_learn := goodIn_r _ [64, 65, 66, 67, 68, 1, 2, 3, 4, 5, 6, 7, 37, 38, 39, 40, 41, 69, 70, 71, 72, 73, 74, 75, 76, 77, 78, 79, 80, 81, 82] (by decide +kernel) (by decide +kernel)
set_option maxRecDepth 20000 in
theorem gX5_stepOn_X5_learn : GoodIn wsX5_stepOn (wsV RX5 152 RX5 yX5_learn wsX5_learn) := goodIn_app (goodIn_of _ (by decide +kernel)) ggX5_stepOn_X5_learn
theorem dX5_stepOn_0 : decode cX5_stepOn 0 = .ok (.aload_n 1, 1) := by decide +kernel
theorem dX5_stepOn_1 : decode cX5_stepOn 1 = .ok (.aload_n 1, 1) := by decide +kernel
theorem dX5_stepOn_2 : decode cX5_stepOn 2 = .ok (.getfield 61, 3) := by decide +kernel
theorem dX5_stepOn_5 : decode cX5_stepOn 5 = .ok (.invokevirtual 125, 3) := by decide +kernel
theorem dX5_stepOn_8 : decode cX5_stepOn 8 = .ok (.istore_n 2, 1) := by decide +kernel
theorem dX5_stepOn_9 : decode cX5_stepOn 9 = .ok (.iload_n 2, 1) := by decide +kernel
theorem dX5_stepOn_10 : decode cX5_stepOn 10 = .ok (.iconst (-1), 1) := by decide +kernel
theorem dX5_stepOn_11 : decode cX5_stepOn 11 = .ok (.if_icmp .eq 23, 3) := by decide +kernel
theorem dX5_stepOn_14 : decode cX5_stepOn 14 = .ok (.aload_n 0, 1) := by decide +kernel
theorem dX5_stepOn_15 : decode cX5_stepOn 15 = .ok (.aload_n 1, 1) := by decide +kernel
theorem dX5_stepOn_16 : decode cX5_stepOn 16 = .ok (.iconst 4, 1) := by decide +kernel
theorem dX5_stepOn_17 : decode cX5_stepOn 17 = .ok (.aload_n 1, 1) := by decide +kernel
theorem dX5_stepOn_18 : decode cX5_stepOn 18 = .ok (.getfield 61, 3) := by decide +kernel
theorem dX5_stepOn_21 : decode cX5_stepOn 21 = .ok (.imul, 1) := by decide +kernel
theorem dX5_stepOn_22 : decode cX5_stepOn 22 = .ok (.iload_n 2, 1) := by decide +kernel
theorem dX5_stepOn_23 : decode cX5_stepOn 23 = .ok (.iadd, 1) := by decide +kernel
theorem dX5_stepOn_24 : decode cX5_stepOn 24 = .ok (.invokevirtual 118, 3) := by decide +kernel
theorem dX5_stepOn_27 : decode cX5_stepOn 27 = .ok (.ifCond .eq 7, 3) := by decide +kernel
theorem dX5_stepOn_30 : decode cX5_stepOn 30 = .ok (.iconst 1, 1) := by decide +kernel
theorem dX5_stepOn_31 : decode cX5_stepOn 31 = .ok (.goto 4, 3) := by decide +kernel
theorem dX5_stepOn_34 : decode cX5_stepOn 34 = .ok (.iconst 0, 1) := by decide +kernel
theorem dX5_stepOn_35 : decode cX5_stepOn 35 = .ok (.istore_n 3, 1) := by decide +kernel
theorem dX5_stepOn_36 : decode cX5_stepOn 36 = .ok (.iload_n 3, 1) := by decide +kernel
theorem dX5_stepOn_37 : decode cX5_stepOn 37 = .ok (.ifCond .eq 19, 3) := by decide +kernel
theorem dX5_stepOn_40 : decode cX5_stepOn 40 = .ok (.aload_n 0, 1) := by decide +kernel
theorem dX5_stepOn_41 : decode cX5_stepOn 41 = .ok (.aload_n 1, 1) := by decide +kernel
theorem dX5_stepOn_42 : decode cX5_stepOn 42 = .ok (.iconst 4, 1) := by decide +kernel
theorem dX5_stepOn_43 : decode cX5_stepOn 43 = .ok (.aload_n 1, 1) := by decide +kernel
theorem dX5_stepOn_44 : decode cX5_stepOn 44 = .ok (.getfield 61, 3) := by decide +kernel
theorem dX5_stepOn_47 : decode cX5_stepOn 47 = .ok (.imul, 1) := by decide +kernel
theorem dX5_stepOn_48 : decode cX5_stepOn 48 = .ok (.iload_n 2, 1) := by decide +kernel
theorem dX5_stepOn_49 : decode cX5_stepOn 49 = .ok (.iadd, 1) := by decide +kernel
theorem dX5_stepOn_50 : decode cX5_stepOn 50 = .ok (.invokevirtual 114, 3) := by decide +kernel
theorem dX5_stepOn_53 : decode cX5_stepOn 53 = .ok (.goto 43, 3) := by decide +kernel
theorem dX5_stepOn_56 : decode cX5_stepOn 56 = .ok (.aload_n 0, 1) := by decide +kernel
theorem dX5_stepOn_57 : decode cX5_stepOn 57 = .ok (.aload_n 1, 1) := by decide +kernel
theorem dX5_stepOn_58 : decode cX5_stepOn 58 = .ok (.invokevirtual 136, 3) := by decide +kernel
theorem dX5_stepOn_61 : decode cX5_stepOn 61 = .ok (.ifCond .ne 35, 3) := by decide +kernel
theorem dX5_stepOn_64 : decode cX5_stepOn 64 = .ok (.aload_n 0, 1) := by decide +kernel
theorem dX5_stepOn_65 : decode cX5_stepOn 65 = .ok (.aload_n 1, 1) := by decide +kernel
theorem dX5_stepOn_66 : decode cX5_stepOn 66 = .ok (.invokevirtual 140, 3) := by decide +kernel
theorem dX5_stepOn_69 : decode cX5_stepOn 69 = .ok (.ifCond .ne 27, 3) := by decide +kernel
theorem dX5_stepOn_72 : decode cX5_stepOn 72 = .ok (.aload_n 0, 1) := by decide +kernel
theorem dX5_stepOn_73 : decode cX5_stepOn 73 = .ok (.aload_n 1, 1) := by decide +kernel
theorem dX5_stepOn_74 : decode cX5_stepOn 74 = .ok (.invokevirtual 143, 3) := by decide +kernel
theorem dX5_stepOn_77 : decode cX5_stepOn 77 = .ok (.ifCond .ne 19, 3) := by decide +kernel
theorem dX5_stepOn_80 : decode cX5_stepOn 80 = .ok (.aload_n 1, 1) := by decide +kernel
theorem dX5_stepOn_81 : decode cX5_stepOn 81 = .ok (.dup, 1) := by decide +kernel
theorem dX5_stepOn_82 : decode cX5_stepOn 82 = .ok (.getfield 146, 3) := by decide +kernel
theorem dX5_stepOn_85 : decode cX5_stepOn 85 = .ok (.iconst 1, 1) := by decide +kernel
theorem dX5_stepOn_86 : decode cX5_stepOn 86 = .ok (.iadd, 1) := by decide +kernel
theorem dX5_stepOn_87 : decode cX5_stepOn 87 = .ok (.putfield 146, 3) := by decide +kernel
theorem dX5_stepOn_90 : decode cX5_stepOn 90 = .ok (.aload_n 1, 1) := by decide +kernel
theorem dX5_stepOn_91 : decode cX5_stepOn 91 = .ok (.invokevirtual 149, 3) := by decide +kernel
theorem dX5_stepOn_94 : decode cX5_stepOn 94 = .ok (.iconst 0, 1) := by decide +kernel
theorem dX5_stepOn_95 : decode cX5_stepOn 95 = .ok (.ireturn, 1) := by decide +kernel
theorem dX5_stepOn_96 : decode cX5_stepOn 96 = .ok (.aload_n 1, 1) := by decide +kernel
theorem dX5_stepOn_97 : decode cX5_stepOn 97 = .ok (.getfield 61, 3) := by decide +kernel
theorem dX5_stepOn_100 : decode cX5_stepOn 100 = .ok (.aload_n 1, 1) := by decide +kernel
theorem dX5_stepOn_101 : decode cX5_stepOn 101 = .ok (.getfield 103, 3) := by decide +kernel
theorem dX5_stepOn_104 : decode cX5_stepOn 104 = .ok (.if_icmp .ne 22, 3) := by decide +kernel
theorem dX5_stepOn_107 : decode cX5_stepOn 107 = .ok (.aload_n 0, 1) := by decide +kernel
theorem dX5_stepOn_108 : decode cX5_stepOn 108 = .ok (.aload_n 1, 1) := by decide +kernel
theorem dX5_stepOn_109 : decode cX5_stepOn 109 = .ok (.invokevirtual 152, 3) := by decide +kernel
theorem dX5_stepOn_112 : decode cX5_stepOn 112 = .ok (.aload_n 1, 1) := by decide +kernel
theorem dX5_stepOn_113 : decode cX5_stepOn 113 = .ok (.dup, 1) := by decide +kernel
theorem dX5_stepOn_114 : decode cX5_stepOn 114 = .ok (.getfield 156, 3) := by decide +kernel
theorem dX5_stepOn_117 : decode cX5_stepOn 117 = .ok (.iconst 1, 1) := by decide +kernel
theorem dX5_stepOn_118 : decode cX5_stepOn 118 = .ok (.iadd, 1) := by decide +kernel
theorem dX5_stepOn_119 : decode cX5_stepOn 119 = .ok (.putfield 156, 3) := by decide +kernel
theorem dX5_stepOn_122 : decode cX5_stepOn 122 = .ok (.aload_n 1, 1) := by decide +kernel
theorem dX5_stepOn_123 : decode cX5_stepOn 123 = .ok (.invokevirtual 149, 3) := by decide +kernel
theorem dX5_stepOn_126 : decode cX5_stepOn 126 = .ok (.iconst 1, 1) := by decide +kernel
theorem dX5_stepOn_127 : decode cX5_stepOn 127 = .ok (.ireturn, 1) := by decide +kernel
set_option maxRecDepth 20000 in
theorem ggX5_stepsOn_X5_stepOn : GoodIn wsX5_stepsOn wsX5_stepOn := goodIn_r _ [5, 6, 7, 8, 9, 10, 11, 12, 13, 14, 15, 4, 16, 17, 18, 19, 20, 21, 22, 23, 24, 25, 26, 27, 28, 29, 30, 31, 32, 33, 34, 35, 36, 37, 38, 39, 40, 41, 42, 43, 44, 45, 46, 47, 48, 49, 50, 51, 52, 53, 54, 55, 56, 57, 58, 59, 60, 61, 62, 63, 64, 65, 66, 67, 68, 69, 70, 71, 72, 73, 74, 75, 76, 77, 78, 79, 80, 81, 82, 83, 84, 85, 86, 87, 88, 89, 90, 91, 92, 93, 94, 95, 96, 97, 98] (by decide +kernel) (by decide +kernel)
set_option maxRecDepth 20000 in
theorem gX5_stepsOn_X5_stepOn : GoodIn wsX5_stepsOn (wsV RX5 159 RX5 yX5_stepOn wsX5_stepOn) := goodIn_app (goodIn_of _ (by decide +kernel)) ggX5_stepsOn_X5_stepOn
theorem dX5_stepsOn_0 : decode cX5_stepsOn 0 = .ok (.iconst 0, 1) := by decide +kernel
theorem dX5_stepsOn_1 : decode cX5_stepsOn 1 = .ok (.istore_n 3, 1) := by decide +kernel
theorem dX5_stepsOn_2 : decode cX5_stepsOn 2 = .ok (.iload_n 3, 1) := by decide +kernel
theorem dX5_stepsOn_3 : decode cX5_stepsOn 3 = .ok (.iload_n 2, 1) := by decide +kernel
theorem dX5_stepsOn_4 : decode cX5_stepsOn 4 = .ok (.if_icmp .ge 25, 3) := by decide +kernel
theorem dX5_stepsOn_7 : decode cX5_stepsOn 7 = .ok (.aload_n 1, 1) := by decide +kernel
theorem dX5_stepsOn_8 : decode cX5_stepsOn 8 = .ok (.getfield 103, 3) := by decide +kernel
theorem dX5_stepsOn_11 : decode cX5_stepsOn 11 = .ok (.iconst (-1), 1) := by decide +kernel
theorem dX5_stepsOn_12 : decode cX5_stepsOn 12 = .ok (.if_icmp .eq 17, 3) := by decide +kernel
theorem dX5_stepsOn_15 : decode cX5_stepsOn 15 = .ok (.aload_n 0, 1) := by decide +kernel
theorem dX5_stepsOn_16 : decode cX5_stepsOn 16 = .ok (.aload_n 1, 1) := by decide +kernel
theorem dX5_stepsOn_17 : decode cX5_stepsOn 17 = .ok (.invokevirtual 159, 3) := by decide +kernel
theorem dX5_stepsOn_20 : decode cX5_stepsOn 20 = .ok (.ifCond .eq 9, 3) := by decide +kernel
theorem dX5_stepsOn_23 : decode cX5_stepsOn 23 = .ok (.iinc 3 1, 3) := by decide +kernel
theorem dX5_stepsOn_26 : decode cX5_stepsOn 26 = .ok (.goto (-24), 3) := by decide +kernel
theorem dX5_stepsOn_29 : decode cX5_stepsOn 29 = .ok (.iload_n 3, 1) := by decide +kernel
theorem dX5_stepsOn_30 : decode cX5_stepsOn 30 = .ok (.ireturn, 1) := by decide +kernel
set_option maxRecDepth 20000 in
theorem ggX5_pay_X5_isIn : GoodIn wsX5_pay wsX5_isIn := goodIn_r _ [10] (by decide +kernel) (by decide +kernel)
set_option maxRecDepth 20000 in
theorem gX5_pay_X5_isIn : GoodIn wsX5_pay (va_wsS RX5 49 yX5_isIn wsX5_isIn) := goodIn_app (goodIn_of _ (by decide +kernel)) ggX5_pay_X5_isIn
set_option maxRecDepth 20000 in
theorem ggX5_pay_X5_no : GoodIn wsX5_pay wsX5_no := goodIn_r _ [14, 1, 15, 16, 17, 18, 19, 20, 21, 22, 23, 24, 25, 26] (by decide +kernel) (by decide +kernel)
set_option maxRecDepth 20000 in
theorem gX5_pay_X5_no : GoodIn wsX5_pay (wsV RX5 57 RX5 yX5_no wsX5_no) := goodIn_app (goodIn_of _ (by decide +kernel)) ggX5_pay_X5_no
theorem dX5_pay_0 : decode cX5_pay 0 = .ok (.aload_n 0, 1) := by decide +kernel
theorem dX5_pay_1 : decode cX5_pay 1 = .ok (.iconst 0, 1) := by decide +kernel
theorem dX5_pay_2 : decode cX5_pay 2 = .ok (.putfield 42, 3) := by decide +kernel
theorem dX5_pay_5 : decode cX5_pay 5 = .ok (.iload_n 1, 1) := by decide +kernel
theorem dX5_pay_6 : decode cX5_pay 6 = .ok (.iconst 1, 1) := by decide +kernel
theorem dX5_pay_7 : decode cX5_pay 7 = .ok (.bipush 99, 2) := by decide +kernel
theorem dX5_pay_9 : decode cX5_pay 9 = .ok (.invokestatic 49, 3) := by decide +kernel
theorem dX5_pay_12 : decode cX5_pay 12 = .ok (.ifCond .ne 9, 3) := by decide +kernel
theorem dX5_pay_15 : decode cX5_pay 15 = .ok (.aload_n 0, 1) := by decide +kernel
theorem dX5_pay_16 : decode cX5_pay 16 = .ok (.iconst 1, 1) := by decide +kernel
theorem dX5_pay_17 : decode cX5_pay 17 = .ok (.invokevirtual 57, 3) := by decide +kernel
theorem dX5_pay_20 : decode cX5_pay 20 = .ok (.ireturn, 1) := by decide +kernel
theorem dX5_pay_21 : decode cX5_pay 21 = .ok (.aload_n 0, 1) := by decide +kernel
theorem dX5_pay_22 : decode cX5_pay 22 = .ok (.getfield 35, 3) := by decide +kernel
theorem dX5_pay_25 : decode cX5_pay 25 = .ok (.bipush 99, 2) := by decide +kernel
theorem dX5_pay_27 : decode cX5_pay 27 = .ok (.aload_n 0, 1) := by decide +kernel
theorem dX5_pay_28 : decode cX5_pay 28 = .ok (.getfield 35, 3) := by decide +kernel
theorem dX5_pay_31 : decode cX5_pay 31 = .ok (.getfield 97, 3) := by decide +kernel
theorem dX5_pay_34 : decode cX5_pay 34 = .ok (.iload_n 1, 1) := by decide +kernel
theorem dX5_pay_35 : decode cX5_pay 35 = .ok (.iadd, 1) := by decide +kernel
theorem dX5_pay_36 : decode cX5_pay 36 = .ok (.invokestatic 131, 3) := by decide +kernel
theorem dX5_pay_39 : decode cX5_pay 39 = .ok (.putfield 97, 3) := by decide +kernel
theorem dX5_pay_42 : decode cX5_pay 42 = .ok (.aload_n 0, 1) := by decide +kernel
theorem dX5_pay_43 : decode cX5_pay 43 = .ok (.getfield 35, 3) := by decide +kernel
theorem dX5_pay_46 : decode cX5_pay 46 = .ok (.getfield 97, 3) := by decide +kernel
theorem dX5_pay_49 : decode cX5_pay 49 = .ok (.ireturn, 1) := by decide +kernel
set_option maxRecDepth 20000 in
theorem ggX5_milesBetween_X5_measure : GoodIn wsX5_milesBetween wsX5_measure := goodIn_r _ [6, 7, 1, 8, 9, 10, 11, 12, 13, 14, 15, 16, 17, 18, 19, 20, 21, 22, 23, 24] (by decide +kernel) (by decide +kernel)
set_option maxRecDepth 20000 in
theorem gX5_milesBetween_X5_measure : GoodIn wsX5_milesBetween (wsV RX5 90 RX5 yX5_measure wsX5_measure) := goodIn_app (goodIn_of _ (by decide +kernel)) ggX5_milesBetween_X5_measure
theorem dX5_milesBetween_0 : decode cX5_milesBetween 0 = .ok (.aload_n 0, 1) := by decide +kernel
theorem dX5_milesBetween_1 : decode cX5_milesBetween 1 = .ok (.iload_n 2, 1) := by decide +kernel
theorem dX5_milesBetween_2 : decode cX5_milesBetween 2 = .ok (.invokevirtual 90, 3) := by decide +kernel
theorem dX5_milesBetween_5 : decode cX5_milesBetween 5 = .ok (.aload_n 0, 1) := by decide +kernel
theorem dX5_milesBetween_6 : decode cX5_milesBetween 6 = .ok (.getfield 29, 3) := by decide +kernel
theorem dX5_milesBetween_9 : decode cX5_milesBetween 9 = .ok (.iload_n 1, 1) := by decide +kernel
theorem dX5_milesBetween_10 : decode cX5_milesBetween 10 = .ok (.iaload, 1) := by decide +kernel
theorem dX5_milesBetween_11 : decode cX5_milesBetween 11 = .ok (.sipush 9999, 3) := by decide +kernel
theorem dX5_milesBetween_14 : decode cX5_milesBetween 14 = .ok (.if_icmp .ne 7, 3) := by decide +kernel
theorem dX5_milesBetween_17 : decode cX5_milesBetween 17 = .ok (.iconst (-1), 1) := by decide +kernel
theorem dX5_milesBetween_18 : decode cX5_milesBetween 18 = .ok (.goto 9, 3) := by decide +kernel
theorem dX5_milesBetween_21 : decode cX5_milesBetween 21 = .ok (.aload_n 0, 1) := by decide +kernel
theorem dX5_milesBetween_22 : decode cX5_milesBetween 22 = .ok (.getfield 29, 3) := by decide +kernel
theorem dX5_milesBetween_25 : decode cX5_milesBetween 25 = .ok (.iload_n 1, 1) := by decide +kernel
theorem dX5_milesBetween_26 : decode cX5_milesBetween 26 = .ok (.iaload, 1) := by decide +kernel
theorem dX5_milesBetween_27 : decode cX5_milesBetween 27 = .ok (.ireturn, 1) := by decide +kernel
set_option maxRecDepth 20000 in
theorem ggX5_start_X4_begin : GoodIn wsX5_start wsX4_begin := goodIn_r _ [5, 6, 7, 8, 9, 10, 11, 12, 13, 14, 15, 16, 17, 18, 19, 20, 21, 22, 23] (by decide +kernel) (by decide +kernel)
set_option maxRecDepth 20000 in
theorem gX5_start_X4_begin : GoodIn wsX5_start (wsV RX5 162 RX4 yX4_begin wsX4_begin) := goodIn_app (goodIn_of _ (by decide +kernel)) ggX5_start_X4_begin
theorem dX5_start_0 : decode cX5_start 0 = .ok (.iload_n 1, 1) := by decide +kernel
theorem dX5_start_1 : decode cX5_start 1 = .ok (.aload_n 0, 1) := by decide +kernel
theorem dX5_start_2 : decode cX5_start 2 = .ok (.getfield 61, 3) := by decide +kernel
theorem dX5_start_5 : decode cX5_start 5 = .ok (.if_icmp .ne 16, 3) := by decide +kernel
theorem dX5_start_8 : decode cX5_start 8 = .ok (.aload_n 0, 1) := by decide +kernel
theorem dX5_start_9 : decode cX5_start 9 = .ok (.dup, 1) := by decide +kernel
theorem dX5_start_10 : decode cX5_start 10 = .ok (.getfield 156, 3) := by decide +kernel
theorem dX5_start_13 : decode cX5_start 13 = .ok (.iconst 1, 1) := by decide +kernel
theorem dX5_start_14 : decode cX5_start 14 = .ok (.iadd, 1) := by decide +kernel
theorem dX5_start_15 : decode cX5_start 15 = .ok (.putfield 156, 3) := by decide +kernel
theorem dX5_start_18 : decode cX5_start 18 = .ok (.goto 8, 3) := by decide +kernel
theorem dX5_start_21 : decode cX5_start 21 = .ok (.aload_n 0, 1) := by decide +kernel
theorem dX5_start_22 : decode cX5_start 22 = .ok (.iload_n 1, 1) := by decide +kernel
theorem dX5_start_23 : decode cX5_start 23 = .ok (.invokevirtual 162, 3) := by decide +kernel
theorem dX5_start_26 : decode cX5_start 26 = .ok (.return_, 1) := by decide +kernel
set_option maxRecDepth 20000 in
theorem ggX5_beginErrand_X5_isPlace : GoodIn wsX5_beginErrand wsX5_isPlace := goodIn_r _ [7, 8, 9, 10, 6, 11, 42, 43, 44, 45, 46, 47, 48, 49, 50, 51, 52, 53] (by decide +kernel) (by decide +kernel)
set_option maxRecDepth 20000 in
theorem gX5_beginErrand_X5_isPlace : GoodIn wsX5_beginErrand (wsV RX5 53 RX5 yX5_isPlace wsX5_isPlace) := goodIn_app (goodIn_of _ (by decide +kernel)) ggX5_beginErrand_X5_isPlace
set_option maxRecDepth 20000 in
theorem ggX5_beginErrand_X5_no : GoodIn wsX5_beginErrand wsX5_no := goodIn_r _ [15, 1, 42, 43, 44, 45, 46, 47, 48, 49, 50, 51, 52, 53] (by decide +kernel) (by decide +kernel)
set_option maxRecDepth 20000 in
theorem gX5_beginErrand_X5_no : GoodIn wsX5_beginErrand (wsV RX5 57 RX5 yX5_no wsX5_no) := goodIn_app (goodIn_of _ (by decide +kernel)) ggX5_beginErrand_X5_no
set_option maxRecDepth 20000 in
theorem ggX5_beginErrand_X5_start : GoodIn wsX5_beginErrand wsX5_start := goodIn_r _ [18, 19, 20, 21, 22, 23, 24, 25, 26, 27, 54, 55, 56, 57, 58, 59, 60, 61, 62, 63, 64, 65, 66, 67] (by decide +kernel) (by decide +kernel)
set_option maxRecDepth 20000 in
theorem gX5_beginErrand_X5_start : GoodIn wsX5_beginErrand (va_wsS RX5 165 yX5_start wsX5_start) := goodIn_app (goodIn_of _ (by decide +kernel)) ggX5_beginErrand_X5_start
set_option maxRecDepth 20000 in
theorem ggX5_beginErrand_X5_milesBetween : GoodIn wsX5_beginErrand wsX5_milesBetween := goodIn_r _ [31, 32, 33, 34, 35, 6, 36, 8, 37, 38, 39, 40, 41, 42, 43, 44, 45, 46, 47, 48, 49, 50, 51, 52, 53] (by decide +kernel) (by decide +kernel)
set_option maxRecDepth 20000 in
theorem gX5_beginErrand_X5_milesBetween : GoodIn wsX5_beginErrand (wsV RX5 168 RX5 yX5_milesBetween wsX5_milesBetween) := goodIn_app (goodIn_of _ (by decide +kernel)) ggX5_beginErrand_X5_milesBetween
theorem dX5_beginErrand_0 : decode cX5_beginErrand 0 = .ok (.aload_n 0, 1) := by decide +kernel
theorem dX5_beginErrand_1 : decode cX5_beginErrand 1 = .ok (.iconst 0, 1) := by decide +kernel
theorem dX5_beginErrand_2 : decode cX5_beginErrand 2 = .ok (.putfield 42, 3) := by decide +kernel
theorem dX5_beginErrand_5 : decode cX5_beginErrand 5 = .ok (.aload_n 0, 1) := by decide +kernel
theorem dX5_beginErrand_6 : decode cX5_beginErrand 6 = .ok (.iload_n 1, 1) := by decide +kernel
theorem dX5_beginErrand_7 : decode cX5_beginErrand 7 = .ok (.invokevirtual 53, 3) := by decide +kernel
theorem dX5_beginErrand_10 : decode cX5_beginErrand 10 = .ok (.ifCond .ne 9, 3) := by decide +kernel
theorem dX5_beginErrand_13 : decode cX5_beginErrand 13 = .ok (.aload_n 0, 1) := by decide +kernel
theorem dX5_beginErrand_14 : decode cX5_beginErrand 14 = .ok (.iconst 1, 1) := by decide +kernel
theorem dX5_beginErrand_15 : decode cX5_beginErrand 15 = .ok (.invokevirtual 57, 3) := by decide +kernel
theorem dX5_beginErrand_18 : decode cX5_beginErrand 18 = .ok (.ireturn, 1) := by decide +kernel
theorem dX5_beginErrand_19 : decode cX5_beginErrand 19 = .ok (.aload_n 0, 1) := by decide +kernel
theorem dX5_beginErrand_20 : decode cX5_beginErrand 20 = .ok (.getfield 35, 3) := by decide +kernel
theorem dX5_beginErrand_23 : decode cX5_beginErrand 23 = .ok (.getfield 103, 3) := by decide +kernel
theorem dX5_beginErrand_26 : decode cX5_beginErrand 26 = .ok (.iconst (-1), 1) := by decide +kernel
theorem dX5_beginErrand_27 : decode cX5_beginErrand 27 = .ok (.if_icmp .eq 9, 3) := by decide +kernel
theorem dX5_beginErrand_30 : decode cX5_beginErrand 30 = .ok (.aload_n 0, 1) := by decide +kernel
theorem dX5_beginErrand_31 : decode cX5_beginErrand 31 = .ok (.iconst 2, 1) := by decide +kernel
theorem dX5_beginErrand_32 : decode cX5_beginErrand 32 = .ok (.invokevirtual 57, 3) := by decide +kernel
theorem dX5_beginErrand_35 : decode cX5_beginErrand 35 = .ok (.ireturn, 1) := by decide +kernel
theorem dX5_beginErrand_36 : decode cX5_beginErrand 36 = .ok (.aload_n 0, 1) := by decide +kernel
theorem dX5_beginErrand_37 : decode cX5_beginErrand 37 = .ok (.getfield 35, 3) := by decide +kernel
theorem dX5_beginErrand_40 : decode cX5_beginErrand 40 = .ok (.iload_n 1, 1) := by decide +kernel
theorem dX5_beginErrand_41 : decode cX5_beginErrand 41 = .ok (.invokestatic 165, 3) := by decide +kernel
theorem dX5_beginErrand_44 : decode cX5_beginErrand 44 = .ok (.aload_n 0, 1) := by decide +kernel
theorem dX5_beginErrand_45 : decode cX5_beginErrand 45 = .ok (.aload_n 0, 1) := by decide +kernel
theorem dX5_beginErrand_46 : decode cX5_beginErrand 46 = .ok (.getfield 35, 3) := by decide +kernel
theorem dX5_beginErrand_49 : decode cX5_beginErrand 49 = .ok (.getfield 61, 3) := by decide +kernel
theorem dX5_beginErrand_52 : decode cX5_beginErrand 52 = .ok (.iload_n 1, 1) := by decide +kernel
theorem dX5_beginErrand_53 : decode cX5_beginErrand 53 = .ok (.invokevirtual 168, 3) := by decide +kernel
theorem dX5_beginErrand_56 : decode cX5_beginErrand 56 = .ok (.ireturn, 1) := by decide +kernel
set_option maxRecDepth 20000 in
theorem ggX5_goOn_X5_isIn : GoodIn wsX5_goOn wsX5_isIn := goodIn_r _ [6] (by decide +kernel) (by decide +kernel)
set_option maxRecDepth 20000 in
theorem gX5_goOn_X5_isIn : GoodIn wsX5_goOn (va_wsS RX5 49 yX5_isIn wsX5_isIn) := goodIn_app (goodIn_of _ (by decide +kernel)) ggX5_goOn_X5_isIn
set_option maxRecDepth 20000 in
theorem ggX5_goOn_X5_no : GoodIn wsX5_goOn wsX5_no := goodIn_r _ [10, 1, 86, 87, 88, 89, 90, 91, 92, 93, 94, 95, 96, 97] (by decide +kernel) (by decide +kernel)
set_option maxRecDepth 20000 in
theorem gX5_goOn_X5_no : GoodIn wsX5_goOn (wsV RX5 57 RX5 yX5_no wsX5_no) := goodIn_app (goodIn_of _ (by decide +kernel)) ggX5_goOn_X5_no
set_option maxRecDepth 20000 in
theorem ggX5_goOn_X5_stepsOn : GoodIn wsX5_goOn wsX5_stepsOn := goodIn_r _ [14, 15, 16, 17, 5, 18, 19, 20, 21, 22, 23, 24, 25, 26, 27, 28, 29, 30, 31, 32, 33, 34, 35, 36, 37, 38, 39, 40, 41, 42, 43, 44, 45, 46, 47, 48, 49, 50, 51, 52, 53, 54, 55, 56, 57, 58, 59, 60, 61, 62, 63, 64, 65, 66, 67, 68, 69, 70, 71, 72, 73, 74, 75, 76, 77, 78, 79, 80, 81, 82, 83, 84, 85, 98, 99, 100, 101, 102, 103, 104, 105, 106, 107, 108, 109, 110, 111, 86, 87, 88, 89, 90, 91, 92, 93, 94, 95, 96, 97] (by decide +kernel) (by decide +kernel)
set_option maxRecDepth 20000 in
theorem gX5_goOn_X5_stepsOn : GoodIn wsX5_goOn (wsV RX5 171 RX5 yX5_stepsOn wsX5_stepsOn) := goodIn_app (goodIn_of _ (by decide +kernel)) ggX5_goOn_X5_stepsOn
theorem dX5_goOn_0 : decode cX5_goOn 0 = .ok (.aload_n 0, 1) := by decide +kernel
theorem dX5_goOn_1 : decode cX5_goOn 1 = .ok (.iconst 0, 1) := by decide +kernel
theorem dX5_goOn_2 : decode cX5_goOn 2 = .ok (.putfield 42, 3) := by decide +kernel
theorem dX5_goOn_5 : decode cX5_goOn 5 = .ok (.iload_n 1, 1) := by decide +kernel
theorem dX5_goOn_6 : decode cX5_goOn 6 = .ok (.iconst 1, 1) := by decide +kernel
theorem dX5_goOn_7 : decode cX5_goOn 7 = .ok (.bipush 100, 2) := by decide +kernel
theorem dX5_goOn_9 : decode cX5_goOn 9 = .ok (.invokestatic 49, 3) := by decide +kernel
theorem dX5_goOn_12 : decode cX5_goOn 12 = .ok (.ifCond .ne 9, 3) := by decide +kernel
theorem dX5_goOn_15 : decode cX5_goOn 15 = .ok (.aload_n 0, 1) := by decide +kernel
theorem dX5_goOn_16 : decode cX5_goOn 16 = .ok (.iconst 1, 1) := by decide +kernel
theorem dX5_goOn_17 : decode cX5_goOn 17 = .ok (.invokevirtual 57, 3) := by decide +kernel
theorem dX5_goOn_20 : decode cX5_goOn 20 = .ok (.ireturn, 1) := by decide +kernel
theorem dX5_goOn_21 : decode cX5_goOn 21 = .ok (.aload_n 0, 1) := by decide +kernel
theorem dX5_goOn_22 : decode cX5_goOn 22 = .ok (.getfield 35, 3) := by decide +kernel
theorem dX5_goOn_25 : decode cX5_goOn 25 = .ok (.getfield 103, 3) := by decide +kernel
theorem dX5_goOn_28 : decode cX5_goOn 28 = .ok (.iconst (-1), 1) := by decide +kernel
theorem dX5_goOn_29 : decode cX5_goOn 29 = .ok (.if_icmp .ne 11, 3) := by decide +kernel
theorem dX5_goOn_32 : decode cX5_goOn 32 = .ok (.aload_n 0, 1) := by decide +kernel
theorem dX5_goOn_33 : decode cX5_goOn 33 = .ok (.iconst 2, 1) := by decide +kernel
theorem dX5_goOn_34 : decode cX5_goOn 34 = .ok (.invokevirtual 57, 3) := by decide +kernel
theorem dX5_goOn_37 : decode cX5_goOn 37 = .ok (.goto 12, 3) := by decide +kernel
theorem dX5_goOn_40 : decode cX5_goOn 40 = .ok (.aload_n 0, 1) := by decide +kernel
theorem dX5_goOn_41 : decode cX5_goOn 41 = .ok (.aload_n 0, 1) := by decide +kernel
theorem dX5_goOn_42 : decode cX5_goOn 42 = .ok (.getfield 35, 3) := by decide +kernel
theorem dX5_goOn_45 : decode cX5_goOn 45 = .ok (.iload_n 1, 1) := by decide +kernel
theorem dX5_goOn_46 : decode cX5_goOn 46 = .ok (.invokevirtual 171, 3) := by decide +kernel
theorem dX5_goOn_49 : decode cX5_goOn 49 = .ok (.ireturn, 1) := by decide +kernel
set_option maxRecDepth 20000 in
theorem ggX5_giveUp_X5_no : GoodIn wsX5_giveUp wsX5_no := goodIn_r _ [7, 1, 21, 22, 23, 24, 25, 26, 27, 28, 29, 30, 31, 32] (by decide +kernel) (by decide +kernel)
set_option maxRecDepth 20000 in
theorem gX5_giveUp_X5_no : GoodIn wsX5_giveUp (wsV RX5 57 RX5 yX5_no wsX5_no) := goodIn_app (goodIn_of _ (by decide +kernel)) ggX5_giveUp_X5_no
set_option maxRecDepth 20000 in
theorem ggX5_giveUp_X4_end : GoodIn wsX5_giveUp wsX4_end := goodIn_r _ [12, 13, 14, 15, 11, 16, 17, 18, 19, 20, 33, 34, 35, 36, 37, 38, 39, 40, 41, 42, 43, 44, 45, 46] (by decide +kernel) (by decide +kernel)
set_option maxRecDepth 20000 in
theorem gX5_giveUp_X4_end : GoodIn wsX5_giveUp (wsV RX5 149 RX4 yX4_end wsX4_end) := goodIn_app (goodIn_of _ (by decide +kernel)) ggX5_giveUp_X4_end
theorem dX5_giveUp_0 : decode cX5_giveUp 0 = .ok (.aload_n 0, 1) := by decide +kernel
theorem dX5_giveUp_1 : decode cX5_giveUp 1 = .ok (.iconst 0, 1) := by decide +kernel
theorem dX5_giveUp_2 : decode cX5_giveUp 2 = .ok (.putfield 42, 3) := by decide +kernel
theorem dX5_giveUp_5 : decode cX5_giveUp 5 = .ok (.aload_n 0, 1) := by decide +kernel
theorem dX5_giveUp_6 : decode cX5_giveUp 6 = .ok (.getfield 35, 3) := by decide +kernel
theorem dX5_giveUp_9 : decode cX5_giveUp 9 = .ok (.getfield 103, 3) := by decide +kernel
theorem dX5_giveUp_12 : decode cX5_giveUp 12 = .ok (.iconst (-1), 1) := by decide +kernel
theorem dX5_giveUp_13 : decode cX5_giveUp 13 = .ok (.if_icmp .ne 9, 3) := by decide +kernel
theorem dX5_giveUp_16 : decode cX5_giveUp 16 = .ok (.aload_n 0, 1) := by decide +kernel
theorem dX5_giveUp_17 : decode cX5_giveUp 17 = .ok (.iconst 1, 1) := by decide +kernel
theorem dX5_giveUp_18 : decode cX5_giveUp 18 = .ok (.invokevirtual 57, 3) := by decide +kernel
theorem dX5_giveUp_21 : decode cX5_giveUp 21 = .ok (.ireturn, 1) := by decide +kernel
theorem dX5_giveUp_22 : decode cX5_giveUp 22 = .ok (.aload_n 0, 1) := by decide +kernel
theorem dX5_giveUp_23 : decode cX5_giveUp 23 = .ok (.getfield 35, 3) := by decide +kernel
theorem dX5_giveUp_26 : decode cX5_giveUp 26 = .ok (.getfield 84, 3) := by decide +kernel
theorem dX5_giveUp_29 : decode cX5_giveUp 29 = .ok (.istore_n 1, 1) := by decide +kernel
theorem dX5_giveUp_30 : decode cX5_giveUp 30 = .ok (.aload_n 0, 1) := by decide +kernel
theorem dX5_giveUp_31 : decode cX5_giveUp 31 = .ok (.getfield 35, 3) := by decide +kernel
theorem dX5_giveUp_34 : decode cX5_giveUp 34 = .ok (.invokevirtual 149, 3) := by decide +kernel
theorem dX5_giveUp_37 : decode cX5_giveUp 37 = .ok (.iload_n 1, 1) := by decide +kernel
theorem dX5_giveUp_38 : decode cX5_giveUp 38 = .ok (.ireturn, 1) := by decide +kernel
theorem dX5_night_0 : decode cX5_night 0 = .ok (.iconst 0, 1) := by decide +kernel
theorem dX5_night_1 : decode cX5_night 1 = .ok (.istore_n 1, 1) := by decide +kernel
theorem dX5_night_2 : decode cX5_night 2 = .ok (.iconst 0, 1) := by decide +kernel
theorem dX5_night_3 : decode cX5_night 3 = .ok (.istore_n 2, 1) := by decide +kernel
theorem dX5_night_4 : decode cX5_night 4 = .ok (.iload_n 2, 1) := by decide +kernel
theorem dX5_night_5 : decode cX5_night 5 = .ok (.bipush 100, 2) := by decide +kernel
theorem dX5_night_7 : decode cX5_night 7 = .ok (.if_icmp .ge 66, 3) := by decide +kernel
theorem dX5_night_10 : decode cX5_night 10 = .ok (.aload_n 0, 1) := by decide +kernel
theorem dX5_night_11 : decode cX5_night 11 = .ok (.getfield 35, 3) := by decide +kernel
theorem dX5_night_14 : decode cX5_night 14 = .ok (.getfield 175, 3) := by decide +kernel
theorem dX5_night_17 : decode cX5_night 17 = .ok (.iload_n 2, 1) := by decide +kernel
theorem dX5_night_18 : decode cX5_night 18 = .ok (.iaload, 1) := by decide +kernel
theorem dX5_night_19 : decode cX5_night 19 = .ok (.iconst (-1), 1) := by decide +kernel
theorem dX5_night_20 : decode cX5_night 20 = .ok (.if_icmp .ne 6, 3) := by decide +kernel
theorem dX5_night_23 : decode cX5_night 23 = .ok (.goto 44, 3) := by decide +kernel
theorem dX5_night_26 : decode cX5_night 26 = .ok (.aload_n 0, 1) := by decide +kernel
theorem dX5_night_27 : decode cX5_night 27 = .ok (.getfield 35, 3) := by decide +kernel
theorem dX5_night_30 : decode cX5_night 30 = .ok (.getfield 128, 3) := by decide +kernel
theorem dX5_night_33 : decode cX5_night 33 = .ok (.iload_n 2, 1) := by decide +kernel
theorem dX5_night_34 : decode cX5_night 34 = .ok (.dup2, 1) := by decide +kernel
theorem dX5_night_35 : decode cX5_night 35 = .ok (.iaload, 1) := by decide +kernel
theorem dX5_night_36 : decode cX5_night 36 = .ok (.iconst 1, 1) := by decide +kernel
theorem dX5_night_37 : decode cX5_night 37 = .ok (.isub, 1) := by decide +kernel
theorem dX5_night_38 : decode cX5_night 38 = .ok (.iastore, 1) := by decide +kernel
theorem dX5_night_39 : decode cX5_night 39 = .ok (.aload_n 0, 1) := by decide +kernel
theorem dX5_night_40 : decode cX5_night 40 = .ok (.getfield 35, 3) := by decide +kernel
theorem dX5_night_43 : decode cX5_night 43 = .ok (.getfield 128, 3) := by decide +kernel
theorem dX5_night_46 : decode cX5_night 46 = .ok (.iload_n 2, 1) := by decide +kernel
theorem dX5_night_47 : decode cX5_night 47 = .ok (.iaload, 1) := by decide +kernel
theorem dX5_night_48 : decode cX5_night 48 = .ok (.ifCond .le 6, 3) := by decide +kernel
theorem dX5_night_51 : decode cX5_night 51 = .ok (.goto 16, 3) := by decide +kernel
theorem dX5_night_54 : decode cX5_night 54 = .ok (.aload_n 0, 1) := by decide +kernel
theorem dX5_night_55 : decode cX5_night 55 = .ok (.getfield 35, 3) := by decide +kernel
theorem dX5_night_58 : decode cX5_night 58 = .ok (.getfield 175, 3) := by decide +kernel
theorem dX5_night_61 : decode cX5_night 61 = .ok (.iload_n 2, 1) := by decide +kernel
theorem dX5_night_62 : decode cX5_night 62 = .ok (.iconst (-1), 1) := by decide +kernel
theorem dX5_night_63 : decode cX5_night 63 = .ok (.iastore, 1) := by decide +kernel
theorem dX5_night_64 : decode cX5_night 64 = .ok (.iinc 1 1, 3) := by decide +kernel
theorem dX5_night_67 : decode cX5_night 67 = .ok (.iinc 2 1, 3) := by decide +kernel
theorem dX5_night_70 : decode cX5_night 70 = .ok (.goto (-66), 3) := by decide +kernel
theorem dX5_night_73 : decode cX5_night 73 = .ok (.iload_n 1, 1) := by decide +kernel
theorem dX5_night_74 : decode cX5_night 74 = .ok (.ireturn, 1) := by decide +kernel
set_option maxRecDepth 20000 in
theorem ggX5_sleep_X5_isIn : GoodIn wsX5_sleep wsX5_isIn := goodIn_r _ [5] (by decide +kernel) (by decide +kernel)
set_option maxRecDepth 20000 in
theorem gX5_sleep_X5_isIn : GoodIn wsX5_sleep (va_wsS RX5 49 yX5_isIn wsX5_isIn) := goodIn_app (goodIn_of _ (by decide +kernel)) ggX5_sleep_X5_isIn
set_option maxRecDepth 20000 in
theorem ggX5_sleep_X5_no : GoodIn wsX5_sleep wsX5_no := goodIn_r _ [9, 1, 15, 16, 17, 18, 19, 20, 21, 22, 23, 24, 25, 26] (by decide +kernel) (by decide +kernel)
set_option maxRecDepth 20000 in
theorem gX5_sleep_X5_no : GoodIn wsX5_sleep (wsV RX5 57 RX5 yX5_no wsX5_no) := goodIn_app (goodIn_of _ (by decide +kernel)) ggX5_sleep_X5_no
set_option maxRecDepth 20000 in
theorem ggX5_sleep_X5_night : GoodIn wsX5_sleep wsX5_night := goodIn_r _ [13, 14, 15, 16, 17, 18, 19, 20, 21, 22, 23, 24, 25, 26, 27, 28, 29, 30, 31, 32, 33, 34, 35, 36, 37, 38, 39, 40] (by decide +kernel) (by decide +kernel)
set_option maxRecDepth 20000 in
theorem gX5_sleep_X5_night : GoodIn wsX5_sleep (wsV RX5 178 RX5 yX5_night wsX5_night) := goodIn_app (goodIn_of _ (by decide +kernel)) ggX5_sleep_X5_night
theorem dX5_sleep_0 : decode cX5_sleep 0 = .ok (.aload_n 0, 1) := by decide +kernel
theorem dX5_sleep_1 : decode cX5_sleep 1 = .ok (.iconst 0, 1) := by decide +kernel
theorem dX5_sleep_2 : decode cX5_sleep 2 = .ok (.putfield 42, 3) := by decide +kernel
theorem dX5_sleep_5 : decode cX5_sleep 5 = .ok (.iload_n 1, 1) := by decide +kernel
theorem dX5_sleep_6 : decode cX5_sleep 6 = .ok (.iconst 1, 1) := by decide +kernel
theorem dX5_sleep_7 : decode cX5_sleep 7 = .ok (.bipush 9, 2) := by decide +kernel
theorem dX5_sleep_9 : decode cX5_sleep 9 = .ok (.invokestatic 49, 3) := by decide +kernel
theorem dX5_sleep_12 : decode cX5_sleep 12 = .ok (.ifCond .ne 9, 3) := by decide +kernel
theorem dX5_sleep_15 : decode cX5_sleep 15 = .ok (.aload_n 0, 1) := by decide +kernel
theorem dX5_sleep_16 : decode cX5_sleep 16 = .ok (.iconst 1, 1) := by decide +kernel
theorem dX5_sleep_17 : decode cX5_sleep 17 = .ok (.invokevirtual 57, 3) := by decide +kernel
theorem dX5_sleep_20 : decode cX5_sleep 20 = .ok (.ireturn, 1) := by decide +kernel
theorem dX5_sleep_21 : decode cX5_sleep 21 = .ok (.iconst 0, 1) := by decide +kernel
theorem dX5_sleep_22 : decode cX5_sleep 22 = .ok (.istore_n 2, 1) := by decide +kernel
theorem dX5_sleep_23 : decode cX5_sleep 23 = .ok (.iconst 0, 1) := by decide +kernel
theorem dX5_sleep_24 : decode cX5_sleep 24 = .ok (.istore_n 3, 1) := by decide +kernel
theorem dX5_sleep_25 : decode cX5_sleep 25 = .ok (.iload_n 3, 1) := by decide +kernel
theorem dX5_sleep_26 : decode cX5_sleep 26 = .ok (.iload_n 1, 1) := by decide +kernel
theorem dX5_sleep_27 : decode cX5_sleep 27 = .ok (.if_icmp .ge 16, 3) := by decide +kernel
theorem dX5_sleep_30 : decode cX5_sleep 30 = .ok (.iload_n 2, 1) := by decide +kernel
theorem dX5_sleep_31 : decode cX5_sleep 31 = .ok (.aload_n 0, 1) := by decide +kernel
theorem dX5_sleep_32 : decode cX5_sleep 32 = .ok (.invokevirtual 178, 3) := by decide +kernel
theorem dX5_sleep_35 : decode cX5_sleep 35 = .ok (.iadd, 1) := by decide +kernel
theorem dX5_sleep_36 : decode cX5_sleep 36 = .ok (.istore_n 2, 1) := by decide +kernel
theorem dX5_sleep_37 : decode cX5_sleep 37 = .ok (.iinc 3 1, 3) := by decide +kernel
theorem dX5_sleep_40 : decode cX5_sleep 40 = .ok (.goto (-15), 3) := by decide +kernel
theorem dX5_sleep_43 : decode cX5_sleep 43 = .ok (.iload_n 2, 1) := by decide +kernel
theorem dX5_sleep_44 : decode cX5_sleep 44 = .ok (.ireturn, 1) := by decide +kernel
theorem dX5_ok_0 : decode cX5_ok 0 = .ok (.aload_n 0, 1) := by decide +kernel
theorem dX5_ok_1 : decode cX5_ok 1 = .ok (.iconst 0, 1) := by decide +kernel
theorem dX5_ok_2 : decode cX5_ok 2 = .ok (.putfield 42, 3) := by decide +kernel
theorem dX5_ok_5 : decode cX5_ok 5 = .ok (.iload_n 1, 1) := by decide +kernel
theorem dX5_ok_6 : decode cX5_ok 6 = .ok (.ireturn, 1) := by decide +kernel
set_option maxRecDepth 20000 in
theorem ggX5_places_X5_ok : GoodIn wsX5_places wsX5_ok := goodIn_r _ [6, 7, 8, 9, 10, 11, 12, 13, 14, 15, 16, 17, 18, 19] (by decide +kernel) (by decide +kernel)
set_option maxRecDepth 20000 in
theorem gX5_places_X5_ok : GoodIn wsX5_places (wsV RX5 182 RX5 yX5_ok wsX5_ok) := goodIn_app (goodIn_of _ (by decide +kernel)) ggX5_places_X5_ok
theorem dX5_places_0 : decode cX5_places 0 = .ok (.aload_n 0, 1) := by decide +kernel
theorem dX5_places_1 : decode cX5_places 1 = .ok (.aload_n 0, 1) := by decide +kernel
theorem dX5_places_2 : decode cX5_places 2 = .ok (.getfield 46, 3) := by decide +kernel
theorem dX5_places_5 : decode cX5_places 5 = .ok (.invokevirtual 182, 3) := by decide +kernel
theorem dX5_places_8 : decode cX5_places 8 = .ok (.ireturn, 1) := by decide +kernel
set_option maxRecDepth 20000 in
theorem ggX5_exitsOf_X5_isPlace : GoodIn wsX5_exitsOf wsX5_isPlace := goodIn_r _ [7, 8, 9, 10, 6, 11, 16, 17, 18, 19, 20, 21, 22, 23, 24, 25, 26, 27] (by decide +kernel) (by decide +kernel)
set_option maxRecDepth 20000 in
theorem gX5_exitsOf_X5_isPlace : GoodIn wsX5_exitsOf (wsV RX5 53 RX5 yX5_isPlace wsX5_isPlace) := goodIn_app (goodIn_of _ (by decide +kernel)) ggX5_exitsOf_X5_isPlace
set_option maxRecDepth 20000 in
theorem ggX5_exitsOf_X5_no : GoodIn wsX5_exitsOf wsX5_no := goodIn_r _ [15, 1, 16, 17, 18, 19, 20, 21, 22, 23, 24, 25, 26, 27] (by decide +kernel) (by decide +kernel)
set_option maxRecDepth 20000 in
theorem gX5_exitsOf_X5_no : GoodIn wsX5_exitsOf (wsV RX5 57 RX5 yX5_no wsX5_no) := goodIn_app (goodIn_of _ (by decide +kernel)) ggX5_exitsOf_X5_no
theorem dX5_exitsOf_0 : decode cX5_exitsOf 0 = .ok (.aload_n 0, 1) := by decide +kernel
theorem dX5_exitsOf_1 : decode cX5_exitsOf 1 = .ok (.iconst 0, 1) := by decide +kernel
theorem dX5_exitsOf_2 : decode cX5_exitsOf 2 = .ok (.putfield 42, 3) := by decide +kernel
theorem dX5_exitsOf_5 : decode cX5_exitsOf 5 = .ok (.aload_n 0, 1) := by decide +kernel
theorem dX5_exitsOf_6 : decode cX5_exitsOf 6 = .ok (.iload_n 1, 1) := by decide +kernel
theorem dX5_exitsOf_7 : decode cX5_exitsOf 7 = .ok (.invokevirtual 53, 3) := by decide +kernel
theorem dX5_exitsOf_10 : decode cX5_exitsOf 10 = .ok (.ifCond .eq 12, 3) := by decide +kernel
theorem dX5_exitsOf_13 : decode cX5_exitsOf 13 = .ok (.aload_n 0, 1) := by decide +kernel
theorem dX5_exitsOf_14 : decode cX5_exitsOf 14 = .ok (.getfield 9, 3) := by decide +kernel
theorem dX5_exitsOf_17 : decode cX5_exitsOf 17 = .ok (.iload_n 1, 1) := by decide +kernel
theorem dX5_exitsOf_18 : decode cX5_exitsOf 18 = .ok (.iaload, 1) := by decide +kernel
theorem dX5_exitsOf_19 : decode cX5_exitsOf 19 = .ok (.goto 8, 3) := by decide +kernel
theorem dX5_exitsOf_22 : decode cX5_exitsOf 22 = .ok (.aload_n 0, 1) := by decide +kernel
theorem dX5_exitsOf_23 : decode cX5_exitsOf 23 = .ok (.iconst 1, 1) := by decide +kernel
theorem dX5_exitsOf_24 : decode cX5_exitsOf 24 = .ok (.invokevirtual 57, 3) := by decide +kernel
theorem dX5_exitsOf_27 : decode cX5_exitsOf 27 = .ok (.ireturn, 1) := by decide +kernel
set_option maxRecDepth 20000 in
theorem ggX5_leadsTo_X5_isExit : GoodIn wsX5_leadsTo wsX5_isExit := goodIn_r _ [7, 8, 9, 10, 11, 6, 12, 13, 14, 15, 16, 21, 22, 23, 24, 25, 26, 27, 28, 29, 30, 31, 32] (by decide +kernel) (by decide +kernel)
set_option maxRecDepth 20000 in
theorem gX5_leadsTo_X5_isExit : GoodIn wsX5_leadsTo (wsV RX5 74 RX5 yX5_isExit wsX5_isExit) := goodIn_app (goodIn_of _ (by decide +kernel)) ggX5_leadsTo_X5_isExit
set_option maxRecDepth 20000 in
theorem ggX5_leadsTo_X5_no : GoodIn wsX5_leadsTo wsX5_no := goodIn_r _ [20, 1, 21, 22, 23, 24, 25, 26, 27, 28, 29, 30, 31, 32] (by decide +kernel) (by decide +kernel)
set_option maxRecDepth 20000 in
theorem gX5_leadsTo_X5_no : GoodIn wsX5_leadsTo (wsV RX5 57 RX5 yX5_no wsX5_no) := goodIn_app (goodIn_of _ (by decide +kernel)) ggX5_leadsTo_X5_no
theorem dX5_leadsTo_0 : decode cX5_leadsTo 0 = .ok (.aload_n 0, 1) := by decide +kernel
theorem dX5_leadsTo_1 : decode cX5_leadsTo 1 = .ok (.iconst 0, 1) := by decide +kernel
theorem dX5_leadsTo_2 : decode cX5_leadsTo 2 = .ok (.putfield 42, 3) := by decide +kernel
theorem dX5_leadsTo_5 : decode cX5_leadsTo 5 = .ok (.aload_n 0, 1) := by decide +kernel
theorem dX5_leadsTo_6 : decode cX5_leadsTo 6 = .ok (.iload_n 1, 1) := by decide +kernel
theorem dX5_leadsTo_7 : decode cX5_leadsTo 7 = .ok (.iload_n 2, 1) := by decide +kernel
theorem dX5_leadsTo_8 : decode cX5_leadsTo 8 = .ok (.invokevirtual 74, 3) := by decide +kernel
theorem dX5_leadsTo_11 : decode cX5_leadsTo 11 = .ok (.ifCond .eq 16, 3) := by decide +kernel
theorem dX5_leadsTo_14 : decode cX5_leadsTo 14 = .ok (.aload_n 0, 1) := by decide +kernel
theorem dX5_leadsTo_15 : decode cX5_leadsTo 15 = .ok (.getfield 16, 3) := by decide +kernel
theorem dX5_leadsTo_18 : decode cX5_leadsTo 18 = .ok (.iconst 4, 1) := by decide +kernel
theorem dX5_leadsTo_19 : decode cX5_leadsTo 19 = .ok (.iload_n 1, 1) := by decide +kernel
theorem dX5_leadsTo_20 : decode cX5_leadsTo 20 = .ok (.imul, 1) := by decide +kernel
theorem dX5_leadsTo_21 : decode cX5_leadsTo 21 = .ok (.iload_n 2, 1) := by decide +kernel
theorem dX5_leadsTo_22 : decode cX5_leadsTo 22 = .ok (.iadd, 1) := by decide +kernel
theorem dX5_leadsTo_23 : decode cX5_leadsTo 23 = .ok (.iaload, 1) := by decide +kernel
theorem dX5_leadsTo_24 : decode cX5_leadsTo 24 = .ok (.goto 8, 3) := by decide +kernel
theorem dX5_leadsTo_27 : decode cX5_leadsTo 27 = .ok (.aload_n 0, 1) := by decide +kernel
theorem dX5_leadsTo_28 : decode cX5_leadsTo 28 = .ok (.iconst 1, 1) := by decide +kernel
theorem dX5_leadsTo_29 : decode cX5_leadsTo 29 = .ok (.invokevirtual 57, 3) := by decide +kernel
theorem dX5_leadsTo_32 : decode cX5_leadsTo 32 = .ok (.ireturn, 1) := by decide +kernel
set_option maxRecDepth 20000 in
theorem ggX5_milesOf_X5_isExit : GoodIn wsX5_milesOf wsX5_isExit := goodIn_r _ [8, 9, 10, 11, 12, 7, 13, 14, 15, 16, 17, 22, 23, 24, 25, 26, 27, 28, 29, 30, 31, 32, 33] (by decide +kernel) (by decide +kernel)
set_option maxRecDepth 20000 in
theorem gX5_milesOf_X5_isExit : GoodIn wsX5_milesOf (wsV RX5 74 RX5 yX5_isExit wsX5_isExit) := goodIn_app (goodIn_of _ (by decide +kernel)) ggX5_milesOf_X5_isExit
set_option maxRecDepth 20000 in
theorem ggX5_milesOf_X5_no : GoodIn wsX5_milesOf wsX5_no := goodIn_r _ [21, 1, 22, 23, 24, 25, 26, 27, 28, 29, 30, 31, 32, 33] (by decide +kernel) (by decide +kernel)
set_option maxRecDepth 20000 in
theorem gX5_milesOf_X5_no : GoodIn wsX5_milesOf (wsV RX5 57 RX5 yX5_no wsX5_no) := goodIn_app (goodIn_of _ (by decide +kernel)) ggX5_milesOf_X5_no
theorem dX5_milesOf_0 : decode cX5_milesOf 0 = .ok (.aload_n 0, 1) := by decide +kernel
theorem dX5_milesOf_1 : decode cX5_milesOf 1 = .ok (.iconst 0, 1) := by decide +kernel
theorem dX5_milesOf_2 : decode cX5_milesOf 2 = .ok (.putfield 42, 3) := by decide +kernel
theorem dX5_milesOf_5 : decode cX5_milesOf 5 = .ok (.aload_n 0, 1) := by decide +kernel
theorem dX5_milesOf_6 : decode cX5_milesOf 6 = .ok (.iload_n 1, 1) := by decide +kernel
theorem dX5_milesOf_7 : decode cX5_milesOf 7 = .ok (.iload_n 2, 1) := by decide +kernel
theorem dX5_milesOf_8 : decode cX5_milesOf 8 = .ok (.invokevirtual 74, 3) := by decide +kernel
theorem dX5_milesOf_11 : decode cX5_milesOf 11 = .ok (.ifCond .eq 21, 3) := by decide +kernel
theorem dX5_milesOf_14 : decode cX5_milesOf 14 = .ok (.aload_n 0, 1) := by decide +kernel
theorem dX5_milesOf_15 : decode cX5_milesOf 15 = .ok (.getfield 19, 3) := by decide +kernel
theorem dX5_milesOf_18 : decode cX5_milesOf 18 = .ok (.aload_n 0, 1) := by decide +kernel
theorem dX5_milesOf_19 : decode cX5_milesOf 19 = .ok (.getfield 13, 3) := by decide +kernel
theorem dX5_milesOf_22 : decode cX5_milesOf 22 = .ok (.iconst 4, 1) := by decide +kernel
theorem dX5_milesOf_23 : decode cX5_milesOf 23 = .ok (.iload_n 1, 1) := by decide +kernel
theorem dX5_milesOf_24 : decode cX5_milesOf 24 = .ok (.imul, 1) := by decide +kernel
theorem dX5_milesOf_25 : decode cX5_milesOf 25 = .ok (.iload_n 2, 1) := by decide +kernel
theorem dX5_milesOf_26 : decode cX5_milesOf 26 = .ok (.iadd, 1) := by decide +kernel
theorem dX5_milesOf_27 : decode cX5_milesOf 27 = .ok (.iaload, 1) := by decide +kernel
theorem dX5_milesOf_28 : decode cX5_milesOf 28 = .ok (.iaload, 1) := by decide +kernel
theorem dX5_milesOf_29 : decode cX5_milesOf 29 = .ok (.goto 8, 3) := by decide +kernel
theorem dX5_milesOf_32 : decode cX5_milesOf 32 = .ok (.aload_n 0, 1) := by decide +kernel
theorem dX5_milesOf_33 : decode cX5_milesOf 33 = .ok (.iconst 1, 1) := by decide +kernel
theorem dX5_milesOf_34 : decode cX5_milesOf 34 = .ok (.invokevirtual 57, 3) := by decide +kernel
theorem dX5_milesOf_37 : decode cX5_milesOf 37 = .ok (.ireturn, 1) := by decide +kernel
set_option maxRecDepth 20000 in
theorem ggX5_isOpen_X5_isExit : GoodIn wsX5_isOpen wsX5_isExit := goodIn_r _ [8, 9, 10, 11, 12, 7, 13, 14, 15, 16, 17, 22, 23, 24, 25, 26, 27, 28, 29, 30, 31, 32, 33] (by decide +kernel) (by decide +kernel)
set_option maxRecDepth 20000 in
theorem gX5_isOpen_X5_isExit : GoodIn wsX5_isOpen (wsV RX5 74 RX5 yX5_isExit wsX5_isExit) := goodIn_app (goodIn_of _ (by decide +kernel)) ggX5_isOpen_X5_isExit
set_option maxRecDepth 20000 in
theorem ggX5_isOpen_X5_isNot : GoodIn wsX5_isOpen wsX5_isNot := goodIn_r _ [21, 1, 22, 23, 24, 25, 26, 27, 28, 29, 30, 31, 32, 33] (by decide +kernel) (by decide +kernel)
set_option maxRecDepth 20000 in
theorem gX5_isOpen_X5_isNot : GoodIn wsX5_isOpen (wsV RX5 78 RX5 yX5_isNot wsX5_isNot) := goodIn_app (goodIn_of _ (by decide +kernel)) ggX5_isOpen_X5_isNot
theorem dX5_isOpen_0 : decode cX5_isOpen 0 = .ok (.aload_n 0, 1) := by decide +kernel
theorem dX5_isOpen_1 : decode cX5_isOpen 1 = .ok (.iconst 0, 1) := by decide +kernel
theorem dX5_isOpen_2 : decode cX5_isOpen 2 = .ok (.putfield 42, 3) := by decide +kernel
theorem dX5_isOpen_5 : decode cX5_isOpen 5 = .ok (.aload_n 0, 1) := by decide +kernel
theorem dX5_isOpen_6 : decode cX5_isOpen 6 = .ok (.iload_n 1, 1) := by decide +kernel
theorem dX5_isOpen_7 : decode cX5_isOpen 7 = .ok (.iload_n 2, 1) := by decide +kernel
theorem dX5_isOpen_8 : decode cX5_isOpen 8 = .ok (.invokevirtual 74, 3) := by decide +kernel
theorem dX5_isOpen_11 : decode cX5_isOpen 11 = .ok (.ifCond .eq 29, 3) := by decide +kernel
theorem dX5_isOpen_14 : decode cX5_isOpen 14 = .ok (.aload_n 0, 1) := by decide +kernel
theorem dX5_isOpen_15 : decode cX5_isOpen 15 = .ok (.getfield 22, 3) := by decide +kernel
theorem dX5_isOpen_18 : decode cX5_isOpen 18 = .ok (.aload_n 0, 1) := by decide +kernel
theorem dX5_isOpen_19 : decode cX5_isOpen 19 = .ok (.getfield 13, 3) := by decide +kernel
theorem dX5_isOpen_22 : decode cX5_isOpen 22 = .ok (.iconst 4, 1) := by decide +kernel
theorem dX5_isOpen_23 : decode cX5_isOpen 23 = .ok (.iload_n 1, 1) := by decide +kernel
theorem dX5_isOpen_24 : decode cX5_isOpen 24 = .ok (.imul, 1) := by decide +kernel
theorem dX5_isOpen_25 : decode cX5_isOpen 25 = .ok (.iload_n 2, 1) := by decide +kernel
theorem dX5_isOpen_26 : decode cX5_isOpen 26 = .ok (.iadd, 1) := by decide +kernel
theorem dX5_isOpen_27 : decode cX5_isOpen 27 = .ok (.iaload, 1) := by decide +kernel
theorem dX5_isOpen_28 : decode cX5_isOpen 28 = .ok (.baload, 1) := by decide +kernel
theorem dX5_isOpen_29 : decode cX5_isOpen 29 = .ok (.ifCond .ne 7, 3) := by decide +kernel
theorem dX5_isOpen_32 : decode cX5_isOpen 32 = .ok (.iconst 1, 1) := by decide +kernel
theorem dX5_isOpen_33 : decode cX5_isOpen 33 = .ok (.goto 12, 3) := by decide +kernel
theorem dX5_isOpen_36 : decode cX5_isOpen 36 = .ok (.iconst 0, 1) := by decide +kernel
theorem dX5_isOpen_37 : decode cX5_isOpen 37 = .ok (.goto 8, 3) := by decide +kernel
theorem dX5_isOpen_40 : decode cX5_isOpen 40 = .ok (.aload_n 0, 1) := by decide +kernel
theorem dX5_isOpen_41 : decode cX5_isOpen 41 = .ok (.iconst 1, 1) := by decide +kernel
theorem dX5_isOpen_42 : decode cX5_isOpen 42 = .ok (.invokevirtual 78, 3) := by decide +kernel
theorem dX5_isOpen_45 : decode cX5_isOpen 45 = .ok (.ireturn, 1) := by decide +kernel
set_option maxRecDepth 20000 in
theorem ggX5_hasShepherd_X5_isPlace : GoodIn wsX5_hasShepherd wsX5_isPlace := goodIn_r _ [7, 8, 9, 10, 6, 11, 16, 17, 18, 19, 20, 21, 22, 23, 24, 25, 26, 27] (by decide +kernel) (by decide +kernel)
set_option maxRecDepth 20000 in
theorem gX5_hasShepherd_X5_isPlace : GoodIn wsX5_hasShepherd (wsV RX5 53 RX5 yX5_isPlace wsX5_isPlace) := goodIn_app (goodIn_of _ (by decide +kernel)) ggX5_hasShepherd_X5_isPlace
set_option maxRecDepth 20000 in
theorem ggX5_hasShepherd_X5_isNot : GoodIn wsX5_hasShepherd wsX5_isNot := goodIn_r _ [15, 1, 16, 17, 18, 19, 20, 21, 22, 23, 24, 25, 26, 27] (by decide +kernel) (by decide +kernel)
set_option maxRecDepth 20000 in
theorem gX5_hasShepherd_X5_isNot : GoodIn wsX5_hasShepherd (wsV RX5 78 RX5 yX5_isNot wsX5_isNot) := goodIn_app (goodIn_of _ (by decide +kernel)) ggX5_hasShepherd_X5_isNot
theorem dX5_hasShepherd_0 : decode cX5_hasShepherd 0 = .ok (.aload_n 0, 1) := by decide +kernel
theorem dX5_hasShepherd_1 : decode cX5_hasShepherd 1 = .ok (.iconst 0, 1) := by decide +kernel
theorem dX5_hasShepherd_2 : decode cX5_hasShepherd 2 = .ok (.putfield 42, 3) := by decide +kernel
theorem dX5_hasShepherd_5 : decode cX5_hasShepherd 5 = .ok (.aload_n 0, 1) := by decide +kernel
theorem dX5_hasShepherd_6 : decode cX5_hasShepherd 6 = .ok (.iload_n 1, 1) := by decide +kernel
theorem dX5_hasShepherd_7 : decode cX5_hasShepherd 7 = .ok (.invokevirtual 53, 3) := by decide +kernel
theorem dX5_hasShepherd_10 : decode cX5_hasShepherd 10 = .ok (.ifCond .eq 12, 3) := by decide +kernel
theorem dX5_hasShepherd_13 : decode cX5_hasShepherd 13 = .ok (.aload_n 0, 1) := by decide +kernel
theorem dX5_hasShepherd_14 : decode cX5_hasShepherd 14 = .ok (.getfield 26, 3) := by decide +kernel
theorem dX5_hasShepherd_17 : decode cX5_hasShepherd 17 = .ok (.iload_n 1, 1) := by decide +kernel
theorem dX5_hasShepherd_18 : decode cX5_hasShepherd 18 = .ok (.baload, 1) := by decide +kernel
theorem dX5_hasShepherd_19 : decode cX5_hasShepherd 19 = .ok (.goto 8, 3) := by decide +kernel
theorem dX5_hasShepherd_22 : decode cX5_hasShepherd 22 = .ok (.aload_n 0, 1) := by decide +kernel
theorem dX5_hasShepherd_23 : decode cX5_hasShepherd 23 = .ok (.iconst 1, 1) := by decide +kernel
theorem dX5_hasShepherd_24 : decode cX5_hasShepherd 24 = .ok (.invokevirtual 78, 3) := by decide +kernel
theorem dX5_hasShepherd_27 : decode cX5_hasShepherd 27 = .ok (.ireturn, 1) := by decide +kernel
set_option maxRecDepth 20000 in
theorem ggX5_distance_X5_isPlace : GoodIn wsX5_distance wsX5_isPlace := goodIn_r _ [6, 7, 8, 9, 5, 10, 29, 30, 31, 32, 33, 34, 35, 36, 37, 38, 39, 40] (by decide +kernel) (by decide +kernel)
set_option maxRecDepth 20000 in
theorem gX5_distance_X5_isPlace : GoodIn wsX5_distance (wsV RX5 53 RX5 yX5_isPlace wsX5_isPlace) := goodIn_app (goodIn_of _ (by decide +kernel)) ggX5_distance_X5_isPlace
set_option maxRecDepth 20000 in
theorem ggX5_distance_X5_milesBetween : GoodIn wsX5_distance wsX5_milesBetween := goodIn_r _ [14, 15, 16, 17, 18, 5, 19, 7, 20, 21, 22, 23, 24, 29, 30, 31, 32, 33, 34, 35, 36, 37, 38, 39, 40] (by decide +kernel) (by decide +kernel)
set_option maxRecDepth 20000 in
theorem gX5_distance_X5_milesBetween : GoodIn wsX5_distance (wsV RX5 168 RX5 yX5_milesBetween wsX5_milesBetween) := goodIn_app (goodIn_of _ (by decide +kernel)) ggX5_distance_X5_milesBetween
set_option maxRecDepth 20000 in
theorem ggX5_distance_X5_no : GoodIn wsX5_distance wsX5_no := goodIn_r _ [28, 1, 29, 30, 31, 32, 33, 34, 35, 36, 37, 38, 39, 40] (by decide +kernel) (by decide +kernel)
set_option maxRecDepth 20000 in
theorem gX5_distance_X5_no : GoodIn wsX5_distance (wsV RX5 57 RX5 yX5_no wsX5_no) := goodIn_app (goodIn_of _ (by decide +kernel)) ggX5_distance_X5_no
theorem dX5_distance_0 : decode cX5_distance 0 = .ok (.aload_n 0, 1) := by decide +kernel
theorem dX5_distance_1 : decode cX5_distance 1 = .ok (.iconst 0, 1) := by decide +kernel
theorem dX5_distance_2 : decode cX5_distance 2 = .ok (.putfield 42, 3) := by decide +kernel
theorem dX5_distance_5 : decode cX5_distance 5 = .ok (.aload_n 0, 1) := by decide +kernel
theorem dX5_distance_6 : decode cX5_distance 6 = .ok (.iload_n 1, 1) := by decide +kernel
theorem dX5_distance_7 : decode cX5_distance 7 = .ok (.invokevirtual 53, 3) := by decide +kernel
theorem dX5_distance_10 : decode cX5_distance 10 = .ok (.ifCond .eq 20, 3) := by decide +kernel
theorem dX5_distance_13 : decode cX5_distance 13 = .ok (.aload_n 0, 1) := by decide +kernel
theorem dX5_distance_14 : decode cX5_distance 14 = .ok (.iload_n 2, 1) := by decide +kernel
theorem dX5_distance_15 : decode cX5_distance 15 = .ok (.invokevirtual 53, 3) := by decide +kernel
theorem dX5_distance_18 : decode cX5_distance 18 = .ok (.ifCond .eq 12, 3) := by decide +kernel
theorem dX5_distance_21 : decode cX5_distance 21 = .ok (.aload_n 0, 1) := by decide +kernel
theorem dX5_distance_22 : decode cX5_distance 22 = .ok (.iload_n 1, 1) := by decide +kernel
theorem dX5_distance_23 : decode cX5_distance 23 = .ok (.iload_n 2, 1) := by decide +kernel
theorem dX5_distance_24 : decode cX5_distance 24 = .ok (.invokevirtual 168, 3) := by decide +kernel
theorem dX5_distance_27 : decode cX5_distance 27 = .ok (.goto 8, 3) := by decide +kernel
theorem dX5_distance_30 : decode cX5_distance 30 = .ok (.aload_n 0, 1) := by decide +kernel
theorem dX5_distance_31 : decode cX5_distance 31 = .ok (.iconst 1, 1) := by decide +kernel
theorem dX5_distance_32 : decode cX5_distance 32 = .ok (.invokevirtual 57, 3) := by decide +kernel
theorem dX5_distance_35 : decode cX5_distance 35 = .ok (.ireturn, 1) := by decide +kernel
set_option maxRecDepth 20000 in
theorem ggX5_whereIs_X5_ok : GoodIn wsX5_whereIs wsX5_ok := goodIn_r _ [6, 7, 8, 9, 10, 11, 12, 13, 14, 15, 16, 17, 18, 19] (by decide +kernel) (by decide +kernel)
set_option maxRecDepth 20000 in
theorem gX5_whereIs_X5_ok : GoodIn wsX5_whereIs (wsV RX5 182 RX5 yX5_ok wsX5_ok) := goodIn_app (goodIn_of _ (by decide +kernel)) ggX5_whereIs_X5_ok
theorem dX5_whereIs_0 : decode cX5_whereIs 0 = .ok (.aload_n 0, 1) := by decide +kernel
theorem dX5_whereIs_1 : decode cX5_whereIs 1 = .ok (.aload_n 0, 1) := by decide +kernel
theorem dX5_whereIs_2 : decode cX5_whereIs 2 = .ok (.getfield 35, 3) := by decide +kernel
theorem dX5_whereIs_5 : decode cX5_whereIs 5 = .ok (.getfield 61, 3) := by decide +kernel
theorem dX5_whereIs_8 : decode cX5_whereIs 8 = .ok (.invokevirtual 182, 3) := by decide +kernel
theorem dX5_whereIs_11 : decode cX5_whereIs 11 = .ok (.ireturn, 1) := by decide +kernel
set_option maxRecDepth 20000 in
theorem ggX5_coins_X5_ok : GoodIn wsX5_coins wsX5_ok := goodIn_r _ [6, 7, 8, 9, 10, 11, 12, 13, 14, 15, 16, 17, 18, 19] (by decide +kernel) (by decide +kernel)
set_option maxRecDepth 20000 in
theorem gX5_coins_X5_ok : GoodIn wsX5_coins (wsV RX5 182 RX5 yX5_ok wsX5_ok) := goodIn_app (goodIn_of _ (by decide +kernel)) ggX5_coins_X5_ok
theorem dX5_coins_0 : decode cX5_coins 0 = .ok (.aload_n 0, 1) := by decide +kernel
theorem dX5_coins_1 : decode cX5_coins 1 = .ok (.aload_n 0, 1) := by decide +kernel
theorem dX5_coins_2 : decode cX5_coins 2 = .ok (.getfield 35, 3) := by decide +kernel
theorem dX5_coins_5 : decode cX5_coins 5 = .ok (.getfield 97, 3) := by decide +kernel
theorem dX5_coins_8 : decode cX5_coins 8 = .ok (.invokevirtual 182, 3) := by decide +kernel
theorem dX5_coins_11 : decode cX5_coins 11 = .ok (.ireturn, 1) := by decide +kernel
set_option maxRecDepth 20000 in
theorem ggX5_goal_X5_ok : GoodIn wsX5_goal wsX5_ok := goodIn_r _ [6, 7, 8, 9, 10, 11, 12, 13, 14, 15, 16, 17, 18, 19] (by decide +kernel) (by decide +kernel)
set_option maxRecDepth 20000 in
theorem gX5_goal_X5_ok : GoodIn wsX5_goal (wsV RX5 182 RX5 yX5_ok wsX5_ok) := goodIn_app (goodIn_of _ (by decide +kernel)) ggX5_goal_X5_ok
theorem dX5_goal_0 : decode cX5_goal 0 = .ok (.aload_n 0, 1) := by decide +kernel
theorem dX5_goal_1 : decode cX5_goal 1 = .ok (.aload_n 0, 1) := by decide +kernel
theorem dX5_goal_2 : decode cX5_goal 2 = .ok (.getfield 35, 3) := by decide +kernel
theorem dX5_goal_5 : decode cX5_goal 5 = .ok (.getfield 103, 3) := by decide +kernel
theorem dX5_goal_8 : decode cX5_goal 8 = .ok (.invokevirtual 182, 3) := by decide +kernel
theorem dX5_goal_11 : decode cX5_goal 11 = .ok (.ireturn, 1) := by decide +kernel
set_option maxRecDepth 20000 in
theorem ggX5_wayLength_X5_ok : GoodIn wsX5_wayLength wsX5_ok := goodIn_r _ [6, 7, 8, 9, 10, 11, 12, 13, 14, 15, 16, 17, 18, 19] (by decide +kernel) (by decide +kernel)
set_option maxRecDepth 20000 in
theorem gX5_wayLength_X5_ok : GoodIn wsX5_wayLength (wsV RX5 182 RX5 yX5_ok wsX5_ok) := goodIn_app (goodIn_of _ (by decide +kernel)) ggX5_wayLength_X5_ok
theorem dX5_wayLength_0 : decode cX5_wayLength 0 = .ok (.aload_n 0, 1) := by decide +kernel
theorem dX5_wayLength_1 : decode cX5_wayLength 1 = .ok (.aload_n 0, 1) := by decide +kernel
theorem dX5_wayLength_2 : decode cX5_wayLength 2 = .ok (.getfield 35, 3) := by decide +kernel
theorem dX5_wayLength_5 : decode cX5_wayLength 5 = .ok (.getfield 84, 3) := by decide +kernel
theorem dX5_wayLength_8 : decode cX5_wayLength 8 = .ok (.invokevirtual 182, 3) := by decide +kernel
theorem dX5_wayLength_11 : decode cX5_wayLength 11 = .ok (.ireturn, 1) := by decide +kernel
set_option maxRecDepth 20000 in
theorem ggX5_isTried_X5_isExit : GoodIn wsX5_isTried wsX5_isExit := goodIn_r _ [8, 9, 10, 11, 12, 7, 13, 14, 15, 16, 17, 22, 23, 24, 25, 26, 27, 28, 29, 30, 31, 32, 33] (by decide +kernel) (by decide +kernel)
set_option maxRecDepth 20000 in
theorem gX5_isTried_X5_isExit : GoodIn wsX5_isTried (wsV RX5 74 RX5 yX5_isExit wsX5_isExit) := goodIn_app (goodIn_of _ (by decide +kernel)) ggX5_isTried_X5_isExit
set_option maxRecDepth 20000 in
theorem ggX5_isTried_X5_isNot : GoodIn wsX5_isTried wsX5_isNot := goodIn_r _ [21, 1, 22, 23, 24, 25, 26, 27, 28, 29, 30, 31, 32, 33] (by decide +kernel) (by decide +kernel)
set_option maxRecDepth 20000 in
theorem gX5_isTried_X5_isNot : GoodIn wsX5_isTried (wsV RX5 78 RX5 yX5_isNot wsX5_isNot) := goodIn_app (goodIn_of _ (by decide +kernel)) ggX5_isTried_X5_isNot
theorem dX5_isTried_0 : decode cX5_isTried 0 = .ok (.aload_n 0, 1) := by decide +kernel
theorem dX5_isTried_1 : decode cX5_isTried 1 = .ok (.iconst 0, 1) := by decide +kernel
theorem dX5_isTried_2 : decode cX5_isTried 2 = .ok (.putfield 42, 3) := by decide +kernel
theorem dX5_isTried_5 : decode cX5_isTried 5 = .ok (.aload_n 0, 1) := by decide +kernel
theorem dX5_isTried_6 : decode cX5_isTried 6 = .ok (.iload_n 1, 1) := by decide +kernel
theorem dX5_isTried_7 : decode cX5_isTried 7 = .ok (.iload_n 2, 1) := by decide +kernel
theorem dX5_isTried_8 : decode cX5_isTried 8 = .ok (.invokevirtual 74, 3) := by decide +kernel
theorem dX5_isTried_11 : decode cX5_isTried 11 = .ok (.ifCond .eq 24, 3) := by decide +kernel
theorem dX5_isTried_14 : decode cX5_isTried 14 = .ok (.aload_n 0, 1) := by decide +kernel
theorem dX5_isTried_15 : decode cX5_isTried 15 = .ok (.getfield 35, 3) := by decide +kernel
theorem dX5_isTried_18 : decode cX5_isTried 18 = .ok (.getfield 67, 3) := by decide +kernel
theorem dX5_isTried_21 : decode cX5_isTried 21 = .ok (.aload_n 0, 1) := by decide +kernel
theorem dX5_isTried_22 : decode cX5_isTried 22 = .ok (.getfield 13, 3) := by decide +kernel
theorem dX5_isTried_25 : decode cX5_isTried 25 = .ok (.iconst 4, 1) := by decide +kernel
theorem dX5_isTried_26 : decode cX5_isTried 26 = .ok (.iload_n 1, 1) := by decide +kernel
theorem dX5_isTried_27 : decode cX5_isTried 27 = .ok (.imul, 1) := by decide +kernel
theorem dX5_isTried_28 : decode cX5_isTried 28 = .ok (.iload_n 2, 1) := by decide +kernel
theorem dX5_isTried_29 : decode cX5_isTried 29 = .ok (.iadd, 1) := by decide +kernel
theorem dX5_isTried_30 : decode cX5_isTried 30 = .ok (.iaload, 1) := by decide +kernel
theorem dX5_isTried_31 : decode cX5_isTried 31 = .ok (.baload, 1) := by decide +kernel
theorem dX5_isTried_32 : decode cX5_isTried 32 = .ok (.goto 8, 3) := by decide +kernel
theorem dX5_isTried_35 : decode cX5_isTried 35 = .ok (.aload_n 0, 1) := by decide +kernel
theorem dX5_isTried_36 : decode cX5_isTried 36 = .ok (.iconst 1, 1) := by decide +kernel
theorem dX5_isTried_37 : decode cX5_isTried 37 = .ok (.invokevirtual 78, 3) := by decide +kernel
theorem dX5_isTried_40 : decode cX5_isTried 40 = .ok (.ireturn, 1) := by decide +kernel
set_option maxRecDepth 20000 in
theorem ggX5_remembered_X5_isPlace : GoodIn wsX5_remembered wsX5_isPlace := goodIn_r _ [7, 8, 9, 10, 6, 11, 16, 17, 18, 19, 20, 21, 22, 23, 24, 25, 26, 27] (by decide +kernel) (by decide +kernel)
set_option maxRecDepth 20000 in
theorem gX5_remembered_X5_isPlace : GoodIn wsX5_remembered (wsV RX5 53 RX5 yX5_isPlace wsX5_isPlace) := goodIn_app (goodIn_of _ (by decide +kernel)) ggX5_remembered_X5_isPlace
set_option maxRecDepth 20000 in
theorem ggX5_remembered_X5_no : GoodIn wsX5_remembered wsX5_no := goodIn_r _ [15, 1, 16, 17, 18, 19, 20, 21, 22, 23, 24, 25, 26, 27] (by decide +kernel) (by decide +kernel)
set_option maxRecDepth 20000 in
theorem gX5_remembered_X5_no : GoodIn wsX5_remembered (wsV RX5 57 RX5 yX5_no wsX5_no) := goodIn_app (goodIn_of _ (by decide +kernel)) ggX5_remembered_X5_no
theorem dX5_remembered_0 : decode cX5_remembered 0 = .ok (.aload_n 0, 1) := by decide +kernel
theorem dX5_remembered_1 : decode cX5_remembered 1 = .ok (.iconst 0, 1) := by decide +kernel
theorem dX5_remembered_2 : decode cX5_remembered 2 = .ok (.putfield 42, 3) := by decide +kernel
theorem dX5_remembered_5 : decode cX5_remembered 5 = .ok (.aload_n 0, 1) := by decide +kernel
theorem dX5_remembered_6 : decode cX5_remembered 6 = .ok (.iload_n 1, 1) := by decide +kernel
theorem dX5_remembered_7 : decode cX5_remembered 7 = .ok (.invokevirtual 53, 3) := by decide +kernel
theorem dX5_remembered_10 : decode cX5_remembered 10 = .ok (.ifCond .eq 28, 3) := by decide +kernel
theorem dX5_remembered_13 : decode cX5_remembered 13 = .ok (.aload_n 0, 1) := by decide +kernel
theorem dX5_remembered_14 : decode cX5_remembered 14 = .ok (.iload_n 2, 1) := by decide +kernel
theorem dX5_remembered_15 : decode cX5_remembered 15 = .ok (.invokevirtual 53, 3) := by decide +kernel
theorem dX5_remembered_18 : decode cX5_remembered 18 = .ok (.ifCond .eq 20, 3) := by decide +kernel
theorem dX5_remembered_21 : decode cX5_remembered 21 = .ok (.aload_n 0, 1) := by decide +kernel
theorem dX5_remembered_22 : decode cX5_remembered 22 = .ok (.getfield 35, 3) := by decide +kernel
theorem dX5_remembered_25 : decode cX5_remembered 25 = .ok (.getfield 175, 3) := by decide +kernel
theorem dX5_remembered_28 : decode cX5_remembered 28 = .ok (.bipush 10, 2) := by decide +kernel
theorem dX5_remembered_30 : decode cX5_remembered 30 = .ok (.iload_n 1, 1) := by decide +kernel
theorem dX5_remembered_31 : decode cX5_remembered 31 = .ok (.imul, 1) := by decide +kernel
theorem dX5_remembered_32 : decode cX5_remembered 32 = .ok (.iload_n 2, 1) := by decide +kernel
theorem dX5_remembered_33 : decode cX5_remembered 33 = .ok (.iadd, 1) := by decide +kernel
theorem dX5_remembered_34 : decode cX5_remembered 34 = .ok (.iaload, 1) := by decide +kernel
theorem dX5_remembered_35 : decode cX5_remembered 35 = .ok (.goto 8, 3) := by decide +kernel
theorem dX5_remembered_38 : decode cX5_remembered 38 = .ok (.aload_n 0, 1) := by decide +kernel
theorem dX5_remembered_39 : decode cX5_remembered 39 = .ok (.iconst 1, 1) := by decide +kernel
theorem dX5_remembered_40 : decode cX5_remembered 40 = .ok (.invokevirtual 57, 3) := by decide +kernel
theorem dX5_remembered_43 : decode cX5_remembered 43 = .ok (.ireturn, 1) := by decide +kernel
theorem dX5_strengthOf_0 : decode cX5_strengthOf 0 = .ok (.aload_n 0, 1) := by decide +kernel
theorem dX5_strengthOf_1 : decode cX5_strengthOf 1 = .ok (.getfield 35, 3) := by decide +kernel
theorem dX5_strengthOf_4 : decode cX5_strengthOf 4 = .ok (.getfield 175, 3) := by decide +kernel
theorem dX5_strengthOf_7 : decode cX5_strengthOf 7 = .ok (.iload_n 1, 1) := by decide +kernel
theorem dX5_strengthOf_8 : decode cX5_strengthOf 8 = .ok (.iaload, 1) := by decide +kernel
theorem dX5_strengthOf_9 : decode cX5_strengthOf 9 = .ok (.iconst (-1), 1) := by decide +kernel
theorem dX5_strengthOf_10 : decode cX5_strengthOf 10 = .ok (.if_icmp .ne 7, 3) := by decide +kernel
theorem dX5_strengthOf_13 : decode cX5_strengthOf 13 = .ok (.iconst 0, 1) := by decide +kernel
theorem dX5_strengthOf_14 : decode cX5_strengthOf 14 = .ok (.goto 12, 3) := by decide +kernel
theorem dX5_strengthOf_17 : decode cX5_strengthOf 17 = .ok (.aload_n 0, 1) := by decide +kernel
theorem dX5_strengthOf_18 : decode cX5_strengthOf 18 = .ok (.getfield 35, 3) := by decide +kernel
theorem dX5_strengthOf_21 : decode cX5_strengthOf 21 = .ok (.getfield 128, 3) := by decide +kernel
theorem dX5_strengthOf_24 : decode cX5_strengthOf 24 = .ok (.iload_n 1, 1) := by decide +kernel
theorem dX5_strengthOf_25 : decode cX5_strengthOf 25 = .ok (.iaload, 1) := by decide +kernel
theorem dX5_strengthOf_26 : decode cX5_strengthOf 26 = .ok (.ireturn, 1) := by decide +kernel
set_option maxRecDepth 20000 in
theorem ggX5_strength_X5_isPlace : GoodIn wsX5_strength wsX5_isPlace := goodIn_r _ [6, 7, 8, 9, 5, 10, 20, 21, 22, 23, 24, 25, 26, 27, 28, 29, 30, 31] (by decide +kernel) (by decide +kernel)
set_option maxRecDepth 20000 in
theorem gX5_strength_X5_isPlace : GoodIn wsX5_strength (wsV RX5 53 RX5 yX5_isPlace wsX5_isPlace) := goodIn_app (goodIn_of _ (by decide +kernel)) ggX5_strength_X5_isPlace
set_option maxRecDepth 20000 in
theorem ggX5_strength_X5_strengthOf : GoodIn wsX5_strength wsX5_strengthOf := goodIn_r _ [14, 15, 20, 21, 22, 23, 24, 25, 26, 27, 28, 29, 30, 31, 32, 33, 34, 35, 36, 37, 38, 39, 40, 41, 42, 43, 44, 45] (by decide +kernel) (by decide +kernel)
set_option maxRecDepth 20000 in
theorem gX5_strength_X5_strengthOf : GoodIn wsX5_strength (wsV RX5 185 RX5 yX5_strengthOf wsX5_strengthOf) := goodIn_app (goodIn_of _ (by decide +kernel)) ggX5_strength_X5_strengthOf
set_option maxRecDepth 20000 in
theorem ggX5_strength_X5_no : GoodIn wsX5_strength wsX5_no := goodIn_r _ [19, 1, 20, 21, 22, 23, 24, 25, 26, 27, 28, 29, 30, 31] (by decide +kernel) (by decide +kernel)
set_option maxRecDepth 20000 in
theorem gX5_strength_X5_no : GoodIn wsX5_strength (wsV RX5 57 RX5 yX5_no wsX5_no) := goodIn_app (goodIn_of _ (by decide +kernel)) ggX5_strength_X5_no
theorem dX5_strength_0 : decode cX5_strength 0 = .ok (.aload_n 0, 1) := by decide +kernel
theorem dX5_strength_1 : decode cX5_strength 1 = .ok (.iconst 0, 1) := by decide +kernel
theorem dX5_strength_2 : decode cX5_strength 2 = .ok (.putfield 42, 3) := by decide +kernel
theorem dX5_strength_5 : decode cX5_strength 5 = .ok (.aload_n 0, 1) := by decide +kernel
theorem dX5_strength_6 : decode cX5_strength 6 = .ok (.iload_n 1, 1) := by decide +kernel
theorem dX5_strength_7 : decode cX5_strength 7 = .ok (.invokevirtual 53, 3) := by decide +kernel
theorem dX5_strength_10 : decode cX5_strength 10 = .ok (.ifCond .eq 24, 3) := by decide +kernel
theorem dX5_strength_13 : decode cX5_strength 13 = .ok (.aload_n 0, 1) := by decide +kernel
theorem dX5_strength_14 : decode cX5_strength 14 = .ok (.iload_n 2, 1) := by decide +kernel
theorem dX5_strength_15 : decode cX5_strength 15 = .ok (.invokevirtual 53, 3) := by decide +kernel
theorem dX5_strength_18 : decode cX5_strength 18 = .ok (.ifCond .eq 16, 3) := by decide +kernel
theorem dX5_strength_21 : decode cX5_strength 21 = .ok (.aload_n 0, 1) := by decide +kernel
theorem dX5_strength_22 : decode cX5_strength 22 = .ok (.bipush 10, 2) := by decide +kernel
theorem dX5_strength_24 : decode cX5_strength 24 = .ok (.iload_n 1, 1) := by decide +kernel
theorem dX5_strength_25 : decode cX5_strength 25 = .ok (.imul, 1) := by decide +kernel
theorem dX5_strength_26 : decode cX5_strength 26 = .ok (.iload_n 2, 1) := by decide +kernel
theorem dX5_strength_27 : decode cX5_strength 27 = .ok (.iadd, 1) := by decide +kernel
theorem dX5_strength_28 : decode cX5_strength 28 = .ok (.invokevirtual 185, 3) := by decide +kernel
theorem dX5_strength_31 : decode cX5_strength 31 = .ok (.goto 8, 3) := by decide +kernel
theorem dX5_strength_34 : decode cX5_strength 34 = .ok (.aload_n 0, 1) := by decide +kernel
theorem dX5_strength_35 : decode cX5_strength 35 = .ok (.iconst 1, 1) := by decide +kernel
theorem dX5_strength_36 : decode cX5_strength 36 = .ok (.invokevirtual 57, 3) := by decide +kernel
theorem dX5_strength_39 : decode cX5_strength 39 = .ok (.ireturn, 1) := by decide +kernel
theorem dX5_knows_0 : decode cX5_knows 0 = .ok (.aload_n 0, 1) := by decide +kernel
theorem dX5_knows_1 : decode cX5_knows 1 = .ok (.getfield 35, 3) := by decide +kernel
theorem dX5_knows_4 : decode cX5_knows 4 = .ok (.getfield 61, 3) := by decide +kernel
theorem dX5_knows_7 : decode cX5_knows 7 = .ok (.istore_n 2, 1) := by decide +kernel
theorem dX5_knows_8 : decode cX5_knows 8 = .ok (.iconst 0, 1) := by decide +kernel
theorem dX5_knows_9 : decode cX5_knows 9 = .ok (.istore_n 3, 1) := by decide +kernel
theorem dX5_knows_10 : decode cX5_knows 10 = .ok (.iload_n 3, 1) := by decide +kernel
theorem dX5_knows_11 : decode cX5_knows 11 = .ok (.bipush 10, 2) := by decide +kernel
theorem dX5_knows_13 : decode cX5_knows 13 = .ok (.if_icmp .ge 69, 3) := by decide +kernel
theorem dX5_knows_16 : decode cX5_knows 16 = .ok (.iload_n 2, 1) := by decide +kernel
theorem dX5_knows_17 : decode cX5_knows 17 = .ok (.iload_n 1, 1) := by decide +kernel
theorem dX5_knows_18 : decode cX5_knows 18 = .ok (.if_icmp .eq 64, 3) := by decide +kernel
theorem dX5_knows_21 : decode cX5_knows 21 = .ok (.aload_n 0, 1) := by decide +kernel
theorem dX5_knows_22 : decode cX5_knows 22 = .ok (.getfield 35, 3) := by decide +kernel
theorem dX5_knows_25 : decode cX5_knows 25 = .ok (.getfield 175, 3) := by decide +kernel
theorem dX5_knows_28 : decode cX5_knows 28 = .ok (.bipush 10, 2) := by decide +kernel
theorem dX5_knows_30 : decode cX5_knows 30 = .ok (.iload_n 1, 1) := by decide +kernel
theorem dX5_knows_31 : decode cX5_knows 31 = .ok (.imul, 1) := by decide +kernel
theorem dX5_knows_32 : decode cX5_knows 32 = .ok (.iload_n 2, 1) := by decide +kernel
theorem dX5_knows_33 : decode cX5_knows 33 = .ok (.iadd, 1) := by decide +kernel
theorem dX5_knows_34 : decode cX5_knows 34 = .ok (.iaload, 1) := by decide +kernel
theorem dX5_knows_35 : decode cX5_knows 35 = .ok (.istore 4, 2) := by decide +kernel
theorem dX5_knows_37 : decode cX5_knows 37 = .ok (.iload 4, 2) := by decide +kernel
theorem dX5_knows_39 : decode cX5_knows 39 = .ok (.iconst (-1), 1) := by decide +kernel
theorem dX5_knows_40 : decode cX5_knows 40 = .ok (.if_icmp .eq 22, 3) := by decide +kernel
theorem dX5_knows_43 : decode cX5_knows 43 = .ok (.aload_n 0, 1) := by decide +kernel
theorem dX5_knows_44 : decode cX5_knows 44 = .ok (.getfield 22, 3) := by decide +kernel
theorem dX5_knows_47 : decode cX5_knows 47 = .ok (.aload_n 0, 1) := by decide +kernel
theorem dX5_knows_48 : decode cX5_knows 48 = .ok (.getfield 13, 3) := by decide +kernel
theorem dX5_knows_51 : decode cX5_knows 51 = .ok (.iconst 4, 1) := by decide +kernel
theorem dX5_knows_52 : decode cX5_knows 52 = .ok (.iload_n 2, 1) := by decide +kernel
theorem dX5_knows_53 : decode cX5_knows 53 = .ok (.imul, 1) := by decide +kernel
theorem dX5_knows_54 : decode cX5_knows 54 = .ok (.iload 4, 2) := by decide +kernel
theorem dX5_knows_56 : decode cX5_knows 56 = .ok (.iadd, 1) := by decide +kernel
theorem dX5_knows_57 : decode cX5_knows 57 = .ok (.iaload, 1) := by decide +kernel
theorem dX5_knows_58 : decode cX5_knows 58 = .ok (.baload, 1) := by decide +kernel
theorem dX5_knows_59 : decode cX5_knows 59 = .ok (.ifCond .eq 5, 3) := by decide +kernel
theorem dX5_knows_62 : decode cX5_knows 62 = .ok (.iconst 0, 1) := by decide +kernel
theorem dX5_knows_63 : decode cX5_knows 63 = .ok (.ireturn, 1) := by decide +kernel
theorem dX5_knows_64 : decode cX5_knows 64 = .ok (.aload_n 0, 1) := by decide +kernel
theorem dX5_knows_65 : decode cX5_knows 65 = .ok (.getfield 16, 3) := by decide +kernel
theorem dX5_knows_68 : decode cX5_knows 68 = .ok (.iconst 4, 1) := by decide +kernel
theorem dX5_knows_69 : decode cX5_knows 69 = .ok (.iload_n 2, 1) := by decide +kernel
theorem dX5_knows_70 : decode cX5_knows 70 = .ok (.imul, 1) := by decide +kernel
theorem dX5_knows_71 : decode cX5_knows 71 = .ok (.iload 4, 2) := by decide +kernel
theorem dX5_knows_73 : decode cX5_knows 73 = .ok (.iadd, 1) := by decide +kernel
theorem dX5_knows_74 : decode cX5_knows 74 = .ok (.iaload, 1) := by decide +kernel
theorem dX5_knows_75 : decode cX5_knows 75 = .ok (.istore_n 2, 1) := by decide +kernel
theorem dX5_knows_76 : decode cX5_knows 76 = .ok (.iinc 3 1, 3) := by decide +kernel
theorem dX5_knows_79 : decode cX5_knows 79 = .ok (.goto (-69), 3) := by decide +kernel
theorem dX5_knows_82 : decode cX5_knows 82 = .ok (.iload_n 2, 1) := by decide +kernel
theorem dX5_knows_83 : decode cX5_knows 83 = .ok (.iload_n 1, 1) := by decide +kernel
theorem dX5_knows_84 : decode cX5_knows 84 = .ok (.if_icmp .ne 7, 3) := by decide +kernel
theorem dX5_knows_87 : decode cX5_knows 87 = .ok (.iconst 1, 1) := by decide +kernel
theorem dX5_knows_88 : decode cX5_knows 88 = .ok (.goto 4, 3) := by decide +kernel
theorem dX5_knows_91 : decode cX5_knows 91 = .ok (.iconst 0, 1) := by decide +kernel
theorem dX5_knows_92 : decode cX5_knows 92 = .ok (.ireturn, 1) := by decide +kernel
set_option maxRecDepth 20000 in
theorem ggX5_knowsWay_X5_isPlace : GoodIn wsX5_knowsWay wsX5_isPlace := goodIn_r _ [6, 7, 8, 9, 5, 10, 23, 24, 25, 26, 27, 28, 29, 30, 31, 32, 33, 34] (by decide +kernel) (by decide +kernel)
set_option maxRecDepth 20000 in
theorem gX5_knowsWay_X5_isPlace : GoodIn wsX5_knowsWay (wsV RX5 53 RX5 yX5_isPlace wsX5_isPlace) := goodIn_app (goodIn_of _ (by decide +kernel)) ggX5_knowsWay_X5_isPlace
set_option maxRecDepth 20000 in
theorem ggX5_knowsWay_X5_knows : GoodIn wsX5_knowsWay wsX5_knows := goodIn_r _ [14, 15, 16, 17, 18, 23, 24, 25, 26, 27, 28, 29, 30, 31, 32, 33, 34, 35, 36, 37, 38, 39, 40, 41, 42, 43, 44, 45, 46, 47, 48] (by decide +kernel) (by decide +kernel)
set_option maxRecDepth 20000 in
theorem gX5_knowsWay_X5_knows : GoodIn wsX5_knowsWay (wsV RX5 188 RX5 yX5_knows wsX5_knows) := goodIn_app (goodIn_of _ (by decide +kernel)) ggX5_knowsWay_X5_knows
set_option maxRecDepth 20000 in
theorem ggX5_knowsWay_X5_isNot : GoodIn wsX5_knowsWay wsX5_isNot := goodIn_r _ [22, 1, 23, 24, 25, 26, 27, 28, 29, 30, 31, 32, 33, 34] (by decide +kernel) (by decide +kernel)
set_option maxRecDepth 20000 in
theorem gX5_knowsWay_X5_isNot : GoodIn wsX5_knowsWay (wsV RX5 78 RX5 yX5_isNot wsX5_isNot) := goodIn_app (goodIn_of _ (by decide +kernel)) ggX5_knowsWay_X5_isNot
theorem dX5_knowsWay_0 : decode cX5_knowsWay 0 = .ok (.aload_n 0, 1) := by decide +kernel
theorem dX5_knowsWay_1 : decode cX5_knowsWay 1 = .ok (.iconst 0, 1) := by decide +kernel
theorem dX5_knowsWay_2 : decode cX5_knowsWay 2 = .ok (.putfield 42, 3) := by decide +kernel
theorem dX5_knowsWay_5 : decode cX5_knowsWay 5 = .ok (.aload_n 0, 1) := by decide +kernel
theorem dX5_knowsWay_6 : decode cX5_knowsWay 6 = .ok (.iload_n 1, 1) := by decide +kernel
theorem dX5_knowsWay_7 : decode cX5_knowsWay 7 = .ok (.invokevirtual 53, 3) := by decide +kernel
theorem dX5_knowsWay_10 : decode cX5_knowsWay 10 = .ok (.ifCond .eq 11, 3) := by decide +kernel
theorem dX5_knowsWay_13 : decode cX5_knowsWay 13 = .ok (.aload_n 0, 1) := by decide +kernel
theorem dX5_knowsWay_14 : decode cX5_knowsWay 14 = .ok (.iload_n 1, 1) := by decide +kernel
theorem dX5_knowsWay_15 : decode cX5_knowsWay 15 = .ok (.invokevirtual 188, 3) := by decide +kernel
theorem dX5_knowsWay_18 : decode cX5_knowsWay 18 = .ok (.goto 8, 3) := by decide +kernel
theorem dX5_knowsWay_21 : decode cX5_knowsWay 21 = .ok (.aload_n 0, 1) := by decide +kernel
theorem dX5_knowsWay_22 : decode cX5_knowsWay 22 = .ok (.iconst 1, 1) := by decide +kernel
theorem dX5_knowsWay_23 : decode cX5_knowsWay 23 = .ok (.invokevirtual 78, 3) := by decide +kernel
theorem dX5_knowsWay_26 : decode cX5_knowsWay 26 = .ok (.ireturn, 1) := by decide +kernel
set_option maxRecDepth 20000 in
theorem ggX5_milesWalked_X5_ok : GoodIn wsX5_milesWalked wsX5_ok := goodIn_r _ [6, 7, 8, 9, 10, 11, 12, 13, 14, 15, 16, 17, 18, 19] (by decide +kernel) (by decide +kernel)
set_option maxRecDepth 20000 in
theorem gX5_milesWalked_X5_ok : GoodIn wsX5_milesWalked (wsV RX5 182 RX5 yX5_ok wsX5_ok) := goodIn_app (goodIn_of _ (by decide +kernel)) ggX5_milesWalked_X5_ok
theorem dX5_milesWalked_0 : decode cX5_milesWalked 0 = .ok (.aload_n 0, 1) := by decide +kernel
theorem dX5_milesWalked_1 : decode cX5_milesWalked 1 = .ok (.aload_n 0, 1) := by decide +kernel
theorem dX5_milesWalked_2 : decode cX5_milesWalked 2 = .ok (.getfield 35, 3) := by decide +kernel
theorem dX5_milesWalked_5 : decode cX5_milesWalked 5 = .ok (.getfield 87, 3) := by decide +kernel
theorem dX5_milesWalked_8 : decode cX5_milesWalked 8 = .ok (.invokevirtual 182, 3) := by decide +kernel
theorem dX5_milesWalked_11 : decode cX5_milesWalked 11 = .ok (.ireturn, 1) := by decide +kernel
set_option maxRecDepth 20000 in
theorem ggX5_milesDoubled_X5_ok : GoodIn wsX5_milesDoubled wsX5_ok := goodIn_r _ [6, 7, 8, 9, 10, 11, 12, 13, 14, 15, 16, 17, 18, 19] (by decide +kernel) (by decide +kernel)
set_option maxRecDepth 20000 in
theorem gX5_milesDoubled_X5_ok : GoodIn wsX5_milesDoubled (wsV RX5 182 RX5 yX5_ok wsX5_ok) := goodIn_app (goodIn_of _ (by decide +kernel)) ggX5_milesDoubled_X5_ok
theorem dX5_milesDoubled_0 : decode cX5_milesDoubled 0 = .ok (.aload_n 0, 1) := by decide +kernel
theorem dX5_milesDoubled_1 : decode cX5_milesDoubled 1 = .ok (.aload_n 0, 1) := by decide +kernel
theorem dX5_milesDoubled_2 : decode cX5_milesDoubled 2 = .ok (.getfield 35, 3) := by decide +kernel
theorem dX5_milesDoubled_5 : decode cX5_milesDoubled 5 = .ok (.getfield 122, 3) := by decide +kernel
theorem dX5_milesDoubled_8 : decode cX5_milesDoubled 8 = .ok (.invokevirtual 182, 3) := by decide +kernel
theorem dX5_milesDoubled_11 : decode cX5_milesDoubled 11 = .ok (.ireturn, 1) := by decide +kernel
set_option maxRecDepth 20000 in
theorem ggX5_errandsDone_X5_ok : GoodIn wsX5_errandsDone wsX5_ok := goodIn_r _ [6, 7, 8, 9, 10, 11, 12, 13, 14, 15, 16, 17, 18, 19] (by decide +kernel) (by decide +kernel)
set_option maxRecDepth 20000 in
theorem gX5_errandsDone_X5_ok : GoodIn wsX5_errandsDone (wsV RX5 182 RX5 yX5_ok wsX5_ok) := goodIn_app (goodIn_of _ (by decide +kernel)) ggX5_errandsDone_X5_ok
theorem dX5_errandsDone_0 : decode cX5_errandsDone 0 = .ok (.aload_n 0, 1) := by decide +kernel
theorem dX5_errandsDone_1 : decode cX5_errandsDone 1 = .ok (.aload_n 0, 1) := by decide +kernel
theorem dX5_errandsDone_2 : decode cX5_errandsDone 2 = .ok (.getfield 35, 3) := by decide +kernel
theorem dX5_errandsDone_5 : decode cX5_errandsDone 5 = .ok (.getfield 156, 3) := by decide +kernel
theorem dX5_errandsDone_8 : decode cX5_errandsDone 8 = .ok (.invokevirtual 182, 3) := by decide +kernel
theorem dX5_errandsDone_11 : decode cX5_errandsDone 11 = .ok (.ireturn, 1) := by decide +kernel
set_option maxRecDepth 20000 in
theorem ggX5_errandsInVain_X5_ok : GoodIn wsX5_errandsInVain wsX5_ok := goodIn_r _ [6, 7, 8, 9, 10, 11, 12, 13, 14, 15, 16, 17, 18, 19] (by decide +kernel) (by decide +kernel)
set_option maxRecDepth 20000 in
theorem gX5_errandsInVain_X5_ok : GoodIn wsX5_errandsInVain (wsV RX5 182 RX5 yX5_ok wsX5_ok) := goodIn_app (goodIn_of _ (by decide +kernel)) ggX5_errandsInVain_X5_ok
theorem dX5_errandsInVain_0 : decode cX5_errandsInVain 0 = .ok (.aload_n 0, 1) := by decide +kernel
theorem dX5_errandsInVain_1 : decode cX5_errandsInVain 1 = .ok (.aload_n 0, 1) := by decide +kernel
theorem dX5_errandsInVain_2 : decode cX5_errandsInVain 2 = .ok (.getfield 35, 3) := by decide +kernel
theorem dX5_errandsInVain_5 : decode cX5_errandsInVain 5 = .ok (.getfield 146, 3) := by decide +kernel
theorem dX5_errandsInVain_8 : decode cX5_errandsInVain 8 = .ok (.invokevirtual 182, 3) := by decide +kernel
theorem dX5_errandsInVain_11 : decode cX5_errandsInVain 11 = .ok (.ireturn, 1) := by decide +kernel
set_option maxRecDepth 20000 in
theorem ggX5_asked_X5_ok : GoodIn wsX5_asked wsX5_ok := goodIn_r _ [6, 7, 8, 9, 10, 11, 12, 13, 14, 15, 16, 17, 18, 19] (by decide +kernel) (by decide +kernel)
set_option maxRecDepth 20000 in
theorem gX5_asked_X5_ok : GoodIn wsX5_asked (wsV RX5 182 RX5 yX5_ok wsX5_ok) := goodIn_app (goodIn_of _ (by decide +kernel)) ggX5_asked_X5_ok
theorem dX5_asked_0 : decode cX5_asked 0 = .ok (.aload_n 0, 1) := by decide +kernel
theorem dX5_asked_1 : decode cX5_asked 1 = .ok (.aload_n 0, 1) := by decide +kernel
theorem dX5_asked_2 : decode cX5_asked 2 = .ok (.getfield 35, 3) := by decide +kernel
theorem dX5_asked_5 : decode cX5_asked 5 = .ok (.getfield 100, 3) := by decide +kernel
theorem dX5_asked_8 : decode cX5_asked 8 = .ok (.invokevirtual 182, 3) := by decide +kernel
theorem dX5_asked_11 : decode cX5_asked 11 = .ok (.ireturn, 1) := by decide +kernel
set_option maxRecDepth 20000 in
theorem ggX5_walkTo_X4_become : GoodIn wsX5_walkTo wsX4_become := goodIn_r _ [7, 8, 9, 10, 11, 12, 13, 14, 15, 16, 17, 18, 19, 20, 21, 22, 23, 24, 25, 111, 112, 113, 114, 115, 116, 117, 118, 119, 120, 121, 122, 123, 124] (by decide +kernel) (by decide +kernel)
set_option maxRecDepth 20000 in
theorem gX5_walkTo_X4_become : GoodIn wsX5_walkTo (wsV RX5 191 RX4 yX4_become wsX4_become) := goodIn_app (goodIn_of _ (by decide +kernel)) ggX5_walkTo_X4_become
set_option maxRecDepth 20000 in
theorem ggX5_walkTo_X5_start : GoodIn wsX5_walkTo wsX5_start := goodIn_r _ [29, 30, 31, 32, 6, 33, 10, 11, 17, 22, 111, 112, 113, 114, 115, 116, 117, 118, 119, 120, 121, 122, 123, 124] (by decide +kernel) (by decide +kernel)
set_option maxRecDepth 20000 in
theorem gX5_walkTo_X5_start : GoodIn wsX5_walkTo (va_wsS RX5 165 yX5_start wsX5_start) := goodIn_app (goodIn_of _ (by decide +kernel)) ggX5_walkTo_X5_start
set_option maxRecDepth 20000 in
theorem ggX5_walkTo_X5_stepsOn : GoodIn wsX5_walkTo wsX5_stepsOn := goodIn_r _ [37, 38, 39, 40, 28, 41, 42, 43, 44, 6, 45, 24, 10, 46, 47, 48, 49, 50, 51, 52, 53, 54, 55, 56, 57, 58, 59, 60, 61, 62, 63, 64, 65, 66, 67, 68, 69, 70, 71, 72, 73, 74, 75, 76, 77, 25, 78, 79, 80, 81, 82, 83, 84, 85, 86, 87, 88, 89, 90, 31, 32, 33, 11, 17, 22, 91, 92, 93, 94, 95, 96, 97, 98, 111, 112, 113, 114, 115, 116, 117, 118, 119, 120, 121, 122, 123, 124, 99, 100, 101, 102, 103, 104, 105, 106, 107, 108, 109, 110] (by decide +kernel) (by decide +kernel)
set_option maxRecDepth 20000 in
theorem gX5_walkTo_X5_stepsOn : GoodIn wsX5_walkTo (wsV RX5 171 RX5 yX5_stepsOn wsX5_stepsOn) := goodIn_app (goodIn_of _ (by decide +kernel)) ggX5_walkTo_X5_stepsOn
theorem dX5_walkTo_0 : decode cX5_walkTo 0 = .ok (.aload_n 0, 1) := by decide +kernel
theorem dX5_walkTo_1 : decode cX5_walkTo 1 = .ok (.getfield 39, 3) := by decide +kernel
theorem dX5_walkTo_4 : decode cX5_walkTo 4 = .ok (.aload_n 0, 1) := by decide +kernel
theorem dX5_walkTo_5 : decode cX5_walkTo 5 = .ok (.getfield 35, 3) := by decide +kernel
theorem dX5_walkTo_8 : decode cX5_walkTo 8 = .ok (.invokevirtual 191, 3) := by decide +kernel
theorem dX5_walkTo_11 : decode cX5_walkTo 11 = .ok (.aload_n 0, 1) := by decide +kernel
theorem dX5_walkTo_12 : decode cX5_walkTo 12 = .ok (.getfield 39, 3) := by decide +kernel
theorem dX5_walkTo_15 : decode cX5_walkTo 15 = .ok (.iload_n 1, 1) := by decide +kernel
theorem dX5_walkTo_16 : decode cX5_walkTo 16 = .ok (.invokestatic 165, 3) := by decide +kernel
theorem dX5_walkTo_19 : decode cX5_walkTo 19 = .ok (.aload_n 0, 1) := by decide +kernel
theorem dX5_walkTo_20 : decode cX5_walkTo 20 = .ok (.aload_n 0, 1) := by decide +kernel
theorem dX5_walkTo_21 : decode cX5_walkTo 21 = .ok (.getfield 39, 3) := by decide +kernel
theorem dX5_walkTo_24 : decode cX5_walkTo 24 = .ok (.sipush 9999, 3) := by decide +kernel
theorem dX5_walkTo_27 : decode cX5_walkTo 27 = .ok (.invokevirtual 171, 3) := by decide +kernel
theorem dX5_walkTo_30 : decode cX5_walkTo 30 = .ok (.pop, 1) := by decide +kernel
theorem dX5_walkTo_31 : decode cX5_walkTo 31 = .ok (.aload_n 0, 1) := by decide +kernel
theorem dX5_walkTo_32 : decode cX5_walkTo 32 = .ok (.getfield 39, 3) := by decide +kernel
theorem dX5_walkTo_35 : decode cX5_walkTo 35 = .ok (.getfield 146, 3) := by decide +kernel
theorem dX5_walkTo_38 : decode cX5_walkTo 38 = .ok (.aload_n 0, 1) := by decide +kernel
theorem dX5_walkTo_39 : decode cX5_walkTo 39 = .ok (.getfield 35, 3) := by decide +kernel
theorem dX5_walkTo_42 : decode cX5_walkTo 42 = .ok (.getfield 146, 3) := by decide +kernel
theorem dX5_walkTo_45 : decode cX5_walkTo 45 = .ok (.if_icmp .le 7, 3) := by decide +kernel
theorem dX5_walkTo_48 : decode cX5_walkTo 48 = .ok (.iconst (-1), 1) := by decide +kernel
theorem dX5_walkTo_49 : decode cX5_walkTo 49 = .ok (.goto 18, 3) := by decide +kernel
theorem dX5_walkTo_52 : decode cX5_walkTo 52 = .ok (.aload_n 0, 1) := by decide +kernel
theorem dX5_walkTo_53 : decode cX5_walkTo 53 = .ok (.getfield 39, 3) := by decide +kernel
theorem dX5_walkTo_56 : decode cX5_walkTo 56 = .ok (.getfield 87, 3) := by decide +kernel
theorem dX5_walkTo_59 : decode cX5_walkTo 59 = .ok (.aload_n 0, 1) := by decide +kernel
theorem dX5_walkTo_60 : decode cX5_walkTo 60 = .ok (.getfield 35, 3) := by decide +kernel
theorem dX5_walkTo_63 : decode cX5_walkTo 63 = .ok (.getfield 87, 3) := by decide +kernel
theorem dX5_walkTo_66 : decode cX5_walkTo 66 = .ok (.isub, 1) := by decide +kernel
theorem dX5_walkTo_67 : decode cX5_walkTo 67 = .ok (.ireturn, 1) := by decide +kernel
set_option maxRecDepth 20000 in
theorem ggX5_wouldWalk_X5_isPlace : GoodIn wsX5_wouldWalk wsX5_isPlace := goodIn_r _ [7, 8, 9, 10, 6, 11, 115, 116, 117, 118, 119, 120, 121, 122, 123, 124, 125, 126] (by decide +kernel) (by decide +kernel)
set_option maxRecDepth 20000 in
theorem gX5_wouldWalk_X5_isPlace : GoodIn wsX5_wouldWalk (wsV RX5 53 RX5 yX5_isPlace wsX5_isPlace) := goodIn_app (goodIn_of _ (by decide +kernel)) ggX5_wouldWalk_X5_isPlace
set_option maxRecDepth 20000 in
theorem ggX5_wouldWalk_X5_no : GoodIn wsX5_wouldWalk wsX5_no := goodIn_r _ [15, 1, 115, 116, 117, 118, 119, 120, 121, 122, 123, 124, 125, 126] (by decide +kernel) (by decide +kernel)
set_option maxRecDepth 20000 in
theorem gX5_wouldWalk_X5_no : GoodIn wsX5_wouldWalk (wsV RX5 57 RX5 yX5_no wsX5_no) := goodIn_app (goodIn_of _ (by decide +kernel)) ggX5_wouldWalk_X5_no
set_option maxRecDepth 20000 in
theorem ggX5_wouldWalk_X5_walkTo : GoodIn wsX5_wouldWalk wsX5_walkTo := goodIn_r _ [19, 20, 2, 21, 22, 23, 24, 25, 26, 27, 28, 29, 30, 31, 32, 33, 34, 35, 36, 37, 38, 39, 40, 41, 42, 43, 44, 45, 6, 46, 47, 48, 49, 50, 51, 52, 53, 54, 55, 56, 57, 58, 59, 60, 61, 62, 63, 64, 65, 66, 67, 68, 69, 70, 71, 72, 73, 74, 75, 76, 77, 78, 79, 80, 81, 82, 83, 84, 85, 86, 87, 88, 89, 8, 90, 91, 92, 93, 94, 95, 96, 97, 98, 99, 100, 101, 102, 103, 104, 105, 106, 107, 108, 109, 110, 111, 112, 113, 114, 115, 116, 117, 118, 119, 120, 121, 122, 123, 124, 125, 126, 127, 128, 129, 130, 131, 132, 133, 134, 135, 136, 137, 138, 139, 140] (by decide +kernel) (by decide +kernel)
set_option maxRecDepth 20000 in
theorem gX5_wouldWalk_X5_walkTo : GoodIn wsX5_wouldWalk (wsV RX5 194 RX5 yX5_walkTo wsX5_walkTo) := goodIn_app (goodIn_of _ (by decide +kernel)) ggX5_wouldWalk_X5_walkTo
theorem dX5_wouldWalk_0 : decode cX5_wouldWalk 0 = .ok (.aload_n 0, 1) := by decide +kernel
theorem dX5_wouldWalk_1 : decode cX5_wouldWalk 1 = .ok (.iconst 0, 1) := by decide +kernel
theorem dX5_wouldWalk_2 : decode cX5_wouldWalk 2 = .ok (.putfield 42, 3) := by decide +kernel
theorem dX5_wouldWalk_5 : decode cX5_wouldWalk 5 = .ok (.aload_n 0, 1) := by decide +kernel
theorem dX5_wouldWalk_6 : decode cX5_wouldWalk 6 = .ok (.iload_n 1, 1) := by decide +kernel
theorem dX5_wouldWalk_7 : decode cX5_wouldWalk 7 = .ok (.invokevirtual 53, 3) := by decide +kernel
theorem dX5_wouldWalk_10 : decode cX5_wouldWalk 10 = .ok (.ifCond .ne 9, 3) := by decide +kernel
theorem dX5_wouldWalk_13 : decode cX5_wouldWalk 13 = .ok (.aload_n 0, 1) := by decide +kernel
theorem dX5_wouldWalk_14 : decode cX5_wouldWalk 14 = .ok (.iconst 1, 1) := by decide +kernel
theorem dX5_wouldWalk_15 : decode cX5_wouldWalk 15 = .ok (.invokevirtual 57, 3) := by decide +kernel
theorem dX5_wouldWalk_18 : decode cX5_wouldWalk 18 = .ok (.ireturn, 1) := by decide +kernel
theorem dX5_wouldWalk_19 : decode cX5_wouldWalk 19 = .ok (.aload_n 0, 1) := by decide +kernel
theorem dX5_wouldWalk_20 : decode cX5_wouldWalk 20 = .ok (.getfield 35, 3) := by decide +kernel
theorem dX5_wouldWalk_23 : decode cX5_wouldWalk 23 = .ok (.getfield 103, 3) := by decide +kernel
theorem dX5_wouldWalk_26 : decode cX5_wouldWalk 26 = .ok (.iconst (-1), 1) := by decide +kernel
theorem dX5_wouldWalk_27 : decode cX5_wouldWalk 27 = .ok (.if_icmp .eq 11, 3) := by decide +kernel
theorem dX5_wouldWalk_30 : decode cX5_wouldWalk 30 = .ok (.aload_n 0, 1) := by decide +kernel
theorem dX5_wouldWalk_31 : decode cX5_wouldWalk 31 = .ok (.iconst 2, 1) := by decide +kernel
theorem dX5_wouldWalk_32 : decode cX5_wouldWalk 32 = .ok (.invokevirtual 57, 3) := by decide +kernel
theorem dX5_wouldWalk_35 : decode cX5_wouldWalk 35 = .ok (.goto 8, 3) := by decide +kernel
theorem dX5_wouldWalk_38 : decode cX5_wouldWalk 38 = .ok (.aload_n 0, 1) := by decide +kernel
theorem dX5_wouldWalk_39 : decode cX5_wouldWalk 39 = .ok (.iload_n 1, 1) := by decide +kernel
theorem dX5_wouldWalk_40 : decode cX5_wouldWalk 40 = .ok (.invokevirtual 194, 3) := by decide +kernel
theorem dX5_wouldWalk_43 : decode cX5_wouldWalk 43 = .ok (.ireturn, 1) := by decide +kernel
set_option maxRecDepth 20000 in
theorem ggX5_helper_X5_walkTo : GoodIn wsX5_helper wsX5_walkTo := goodIn_r _ [7, 8, 9, 10, 11, 12, 13, 14, 15, 16, 17, 18, 19, 20, 21, 22, 23, 24, 25, 26, 27, 28, 29, 30, 31, 32, 33, 34, 6, 35, 36, 37, 38, 39, 40, 41, 42, 43, 44, 45, 46, 47, 48, 49, 50, 51, 52, 53, 54, 55, 56, 57, 58, 59, 60, 61, 62, 63, 64, 65, 66, 67, 2, 68, 69, 70, 71, 72, 73, 74, 75, 76, 77, 1, 78, 79, 80, 81, 82, 83, 84, 85, 86, 87, 88, 89, 90, 91, 92, 93, 94, 95, 96, 97, 98, 99, 100, 101, 102, 103, 104, 105, 106, 107, 108, 109, 110, 111, 112, 113, 114, 115, 116, 117, 118, 119, 120, 121, 122, 123, 124, 125, 126, 127, 128] (by decide +kernel) (by decide +kernel)
set_option maxRecDepth 20000 in
theorem gX5_helper_X5_walkTo : GoodIn wsX5_helper (wsV RX5 194 RX5 yX5_walkTo wsX5_walkTo) := goodIn_app (goodIn_of _ (by decide +kernel)) ggX5_helper_X5_walkTo
theorem dX5_helper_0 : decode cX5_helper 0 = .ok (.aload_n 0, 1) := by decide +kernel
theorem dX5_helper_1 : decode cX5_helper 1 = .ok (.iload_n 1, 1) := by decide +kernel
theorem dX5_helper_2 : decode cX5_helper 2 = .ok (.invokevirtual 194, 3) := by decide +kernel
theorem dX5_helper_5 : decode cX5_helper 5 = .ok (.istore_n 2, 1) := by decide +kernel
theorem dX5_helper_6 : decode cX5_helper 6 = .ok (.iconst (-1), 1) := by decide +kernel
theorem dX5_helper_7 : decode cX5_helper 7 = .ok (.istore_n 3, 1) := by decide +kernel
theorem dX5_helper_8 : decode cX5_helper 8 = .ok (.iload_n 2, 1) := by decide +kernel
theorem dX5_helper_9 : decode cX5_helper 9 = .ok (.iconst (-1), 1) := by decide +kernel
theorem dX5_helper_10 : decode cX5_helper 10 = .ok (.if_icmp .ne 9, 3) := by decide +kernel
theorem dX5_helper_13 : decode cX5_helper 13 = .ok (.sipush 9999, 3) := by decide +kernel
theorem dX5_helper_16 : decode cX5_helper 16 = .ok (.goto 4, 3) := by decide +kernel
theorem dX5_helper_19 : decode cX5_helper 19 = .ok (.iload_n 2, 1) := by decide +kernel
theorem dX5_helper_20 : decode cX5_helper 20 = .ok (.istore 4, 2) := by decide +kernel
theorem dX5_helper_22 : decode cX5_helper 22 = .ok (.iconst 0, 1) := by decide +kernel
theorem dX5_helper_23 : decode cX5_helper 23 = .ok (.istore 5, 2) := by decide +kernel
theorem dX5_helper_25 : decode cX5_helper 25 = .ok (.iload 5, 2) := by decide +kernel
theorem dX5_helper_27 : decode cX5_helper 27 = .ok (.aload_n 0, 1) := by decide +kernel
theorem dX5_helper_28 : decode cX5_helper 28 = .ok (.getfield 46, 3) := by decide +kernel
theorem dX5_helper_31 : decode cX5_helper 31 = .ok (.if_icmp .ge 68, 3) := by decide +kernel
theorem dX5_helper_34 : decode cX5_helper 34 = .ok (.aload_n 0, 1) := by decide +kernel
theorem dX5_helper_35 : decode cX5_helper 35 = .ok (.getfield 26, 3) := by decide +kernel
theorem dX5_helper_38 : decode cX5_helper 38 = .ok (.iload 5, 2) := by decide +kernel
theorem dX5_helper_40 : decode cX5_helper 40 = .ok (.baload, 1) := by decide +kernel
theorem dX5_helper_41 : decode cX5_helper 41 = .ok (.ifCond .eq 6, 3) := by decide +kernel
theorem dX5_helper_44 : decode cX5_helper 44 = .ok (.goto 49, 3) := by decide +kernel
theorem dX5_helper_47 : decode cX5_helper 47 = .ok (.aload_n 0, 1) := by decide +kernel
theorem dX5_helper_48 : decode cX5_helper 48 = .ok (.getfield 26, 3) := by decide +kernel
theorem dX5_helper_51 : decode cX5_helper 51 = .ok (.iload 5, 2) := by decide +kernel
theorem dX5_helper_53 : decode cX5_helper 53 = .ok (.iconst 1, 1) := by decide +kernel
theorem dX5_helper_54 : decode cX5_helper 54 = .ok (.bastore, 1) := by decide +kernel
theorem dX5_helper_55 : decode cX5_helper 55 = .ok (.aload_n 0, 1) := by decide +kernel
theorem dX5_helper_56 : decode cX5_helper 56 = .ok (.iload_n 1, 1) := by decide +kernel
theorem dX5_helper_57 : decode cX5_helper 57 = .ok (.invokevirtual 194, 3) := by decide +kernel
theorem dX5_helper_60 : decode cX5_helper 60 = .ok (.istore 6, 2) := by decide +kernel
theorem dX5_helper_62 : decode cX5_helper 62 = .ok (.aload_n 0, 1) := by decide +kernel
theorem dX5_helper_63 : decode cX5_helper 63 = .ok (.getfield 26, 3) := by decide +kernel
theorem dX5_helper_66 : decode cX5_helper 66 = .ok (.iload 5, 2) := by decide +kernel
theorem dX5_helper_68 : decode cX5_helper 68 = .ok (.iconst 0, 1) := by decide +kernel
theorem dX5_helper_69 : decode cX5_helper 69 = .ok (.bastore, 1) := by decide +kernel
theorem dX5_helper_70 : decode cX5_helper 70 = .ok (.iload 6, 2) := by decide +kernel
theorem dX5_helper_72 : decode cX5_helper 72 = .ok (.iconst (-1), 1) := by decide +kernel
theorem dX5_helper_73 : decode cX5_helper 73 = .ok (.if_icmp .eq 20, 3) := by decide +kernel
theorem dX5_helper_76 : decode cX5_helper 76 = .ok (.iload 6, 2) := by decide +kernel
theorem dX5_helper_78 : decode cX5_helper 78 = .ok (.iload 4, 2) := by decide +kernel
theorem dX5_helper_80 : decode cX5_helper 80 = .ok (.if_icmp .lt 6, 3) := by decide +kernel
theorem dX5_helper_83 : decode cX5_helper 83 = .ok (.goto 10, 3) := by decide +kernel
theorem dX5_helper_86 : decode cX5_helper 86 = .ok (.iload 5, 2) := by decide +kernel
theorem dX5_helper_88 : decode cX5_helper 88 = .ok (.istore_n 3, 1) := by decide +kernel
theorem dX5_helper_89 : decode cX5_helper 89 = .ok (.iload 6, 2) := by decide +kernel
theorem dX5_helper_91 : decode cX5_helper 91 = .ok (.istore 4, 2) := by decide +kernel
theorem dX5_helper_93 : decode cX5_helper 93 = .ok (.iinc 5 1, 3) := by decide +kernel
theorem dX5_helper_96 : decode cX5_helper 96 = .ok (.goto (-71), 3) := by decide +kernel
theorem dX5_helper_99 : decode cX5_helper 99 = .ok (.iload_n 3, 1) := by decide +kernel
theorem dX5_helper_100 : decode cX5_helper 100 = .ok (.ireturn, 1) := by decide +kernel
set_option maxRecDepth 20000 in
theorem ggX5_bestShepherd_X5_isPlace : GoodIn wsX5_bestShepherd wsX5_isPlace := goodIn_r _ [7, 8, 9, 10, 6, 11, 119, 120, 121, 122, 123, 124, 125, 126, 127, 128, 129, 130] (by decide +kernel) (by decide +kernel)
set_option maxRecDepth 20000 in
theorem gX5_bestShepherd_X5_isPlace : GoodIn wsX5_bestShepherd (wsV RX5 53 RX5 yX5_isPlace wsX5_isPlace) := goodIn_app (goodIn_of _ (by decide +kernel)) ggX5_bestShepherd_X5_isPlace
set_option maxRecDepth 20000 in
theorem ggX5_bestShepherd_X5_no : GoodIn wsX5_bestShepherd wsX5_no := goodIn_r _ [15, 1, 119, 120, 121, 122, 123, 124, 125, 126, 127, 128, 129, 130] (by decide +kernel) (by decide +kernel)
set_option maxRecDepth 20000 in
theorem gX5_bestShepherd_X5_no : GoodIn wsX5_bestShepherd (wsV RX5 57 RX5 yX5_no wsX5_no) := goodIn_app (goodIn_of _ (by decide +kernel)) ggX5_bestShepherd_X5_no
set_option maxRecDepth 20000 in
theorem ggX5_bestShepherd_X5_helper : GoodIn wsX5_bestShepherd wsX5_helper := goodIn_r _ [19, 8, 20, 21, 22, 23, 6, 24, 25, 2, 26, 27, 28, 29, 30, 31, 32, 33, 34, 35, 36, 37, 38, 39, 40, 41, 42, 43, 44, 45, 46, 47, 48, 49, 50, 51, 52, 53, 54, 55, 56, 57, 58, 59, 60, 61, 62, 63, 64, 65, 66, 67, 68, 69, 70, 71, 72, 73, 74, 75, 76, 77, 78, 79, 80, 81, 82, 83, 84, 85, 86, 87, 88, 89, 90, 91, 92, 93, 94, 95, 96, 97, 98, 99, 100, 101, 102, 103, 104, 105, 106, 107, 108, 109, 110, 111, 112, 113, 114, 115, 116, 117, 118, 119, 120, 121, 122, 123, 124, 125, 126, 127, 128, 129, 130, 131, 132, 133, 134, 135, 136, 137, 138, 139, 140, 141, 142, 143, 144] (by decide +kernel) (by decide +kernel)
set_option maxRecDepth 20000 in
theorem gX5_bestShepherd_X5_helper : GoodIn wsX5_bestShepherd (wsV RX5 197 RX5 yX5_helper wsX5_helper) := goodIn_app (goodIn_of _ (by decide +kernel)) ggX5_bestShepherd_X5_helper
theorem dX5_bestShepherd_0 : decode cX5_bestShepherd 0 = .ok (.aload_n 0, 1) := by decide +kernel
theorem dX5_bestShepherd_1 : decode cX5_bestShepherd 1 = .ok (.iconst 0, 1) := by decide +kernel
theorem dX5_bestShepherd_2 : decode cX5_bestShepherd 2 = .ok (.putfield 42, 3) := by decide +kernel
theorem dX5_bestShepherd_5 : decode cX5_bestShepherd 5 = .ok (.aload_n 0, 1) := by decide +kernel
theorem dX5_bestShepherd_6 : decode cX5_bestShepherd 6 = .ok (.iload_n 1, 1) := by decide +kernel
theorem dX5_bestShepherd_7 : decode cX5_bestShepherd 7 = .ok (.invokevirtual 53, 3) := by decide +kernel
theorem dX5_bestShepherd_10 : decode cX5_bestShepherd 10 = .ok (.ifCond .ne 9, 3) := by decide +kernel
theorem dX5_bestShepherd_13 : decode cX5_bestShepherd 13 = .ok (.aload_n 0, 1) := by decide +kernel
theorem dX5_bestShepherd_14 : decode cX5_bestShepherd 14 = .ok (.iconst 1, 1) := by decide +kernel
theorem dX5_bestShepherd_15 : decode cX5_bestShepherd 15 = .ok (.invokevirtual 57, 3) := by decide +kernel
theorem dX5_bestShepherd_18 : decode cX5_bestShepherd 18 = .ok (.ireturn, 1) := by decide +kernel
theorem dX5_bestShepherd_19 : decode cX5_bestShepherd 19 = .ok (.aload_n 0, 1) := by decide +kernel
theorem dX5_bestShepherd_20 : decode cX5_bestShepherd 20 = .ok (.getfield 35, 3) := by decide +kernel
theorem dX5_bestShepherd_23 : decode cX5_bestShepherd 23 = .ok (.getfield 103, 3) := by decide +kernel
theorem dX5_bestShepherd_26 : decode cX5_bestShepherd 26 = .ok (.iconst (-1), 1) := by decide +kernel
theorem dX5_bestShepherd_27 : decode cX5_bestShepherd 27 = .ok (.if_icmp .eq 11, 3) := by decide +kernel
theorem dX5_bestShepherd_30 : decode cX5_bestShepherd 30 = .ok (.aload_n 0, 1) := by decide +kernel
theorem dX5_bestShepherd_31 : decode cX5_bestShepherd 31 = .ok (.iconst 2, 1) := by decide +kernel
theorem dX5_bestShepherd_32 : decode cX5_bestShepherd 32 = .ok (.invokevirtual 57, 3) := by decide +kernel
theorem dX5_bestShepherd_35 : decode cX5_bestShepherd 35 = .ok (.goto 8, 3) := by decide +kernel
theorem dX5_bestShepherd_38 : decode cX5_bestShepherd 38 = .ok (.aload_n 0, 1) := by decide +kernel
theorem dX5_bestShepherd_39 : decode cX5_bestShepherd 39 = .ok (.iload_n 1, 1) := by decide +kernel
theorem dX5_bestShepherd_40 : decode cX5_bestShepherd 40 = .ok (.invokevirtual 197, 3) := by decide +kernel
theorem dX5_bestShepherd_43 : decode cX5_bestShepherd 43 = .ok (.ireturn, 1) := by decide +kernel
theorem dX5_meanMiles_0 : decode cX5_meanMiles 0 = .ok (.aload_n 0, 1) := by decide +kernel
theorem dX5_meanMiles_1 : decode cX5_meanMiles 1 = .ok (.iconst 0, 1) := by decide +kernel
theorem dX5_meanMiles_2 : decode cX5_meanMiles 2 = .ok (.putfield 42, 3) := by decide +kernel
theorem dX5_meanMiles_5 : decode cX5_meanMiles 5 = .ok (.aload_n 0, 1) := by decide +kernel
theorem dX5_meanMiles_6 : decode cX5_meanMiles 6 = .ok (.getfield 35, 3) := by decide +kernel
theorem dX5_meanMiles_9 : decode cX5_meanMiles 9 = .ok (.getfield 156, 3) := by decide +kernel
theorem dX5_meanMiles_12 : decode cX5_meanMiles 12 = .ok (.aload_n 0, 1) := by decide +kernel
theorem dX5_meanMiles_13 : decode cX5_meanMiles 13 = .ok (.getfield 35, 3) := by decide +kernel
theorem dX5_meanMiles_16 : decode cX5_meanMiles 16 = .ok (.getfield 146, 3) := by decide +kernel
theorem dX5_meanMiles_19 : decode cX5_meanMiles 19 = .ok (.iadd, 1) := by decide +kernel
theorem dX5_meanMiles_20 : decode cX5_meanMiles 20 = .ok (.istore_n 1, 1) := by decide +kernel
theorem dX5_meanMiles_21 : decode cX5_meanMiles 21 = .ok (.iload_n 1, 1) := by decide +kernel
theorem dX5_meanMiles_22 : decode cX5_meanMiles 22 = .ok (.ifCond .ne 7, 3) := by decide +kernel
theorem dX5_meanMiles_25 : decode cX5_meanMiles 25 = .ok (.dconst 0, 1) := by decide +kernel
theorem dX5_meanMiles_26 : decode cX5_meanMiles 26 = .ok (.goto 14, 3) := by decide +kernel
theorem dX5_meanMiles_29 : decode cX5_meanMiles 29 = .ok (.aload_n 0, 1) := by decide +kernel
theorem dX5_meanMiles_30 : decode cX5_meanMiles 30 = .ok (.getfield 35, 3) := by decide +kernel
theorem dX5_meanMiles_33 : decode cX5_meanMiles 33 = .ok (.getfield 87, 3) := by decide +kernel
theorem dX5_meanMiles_36 : decode cX5_meanMiles 36 = .ok (.i2d, 1) := by decide +kernel
theorem dX5_meanMiles_37 : decode cX5_meanMiles 37 = .ok (.iload_n 1, 1) := by decide +kernel
theorem dX5_meanMiles_38 : decode cX5_meanMiles 38 = .ok (.i2d, 1) := by decide +kernel
theorem dX5_meanMiles_39 : decode cX5_meanMiles 39 = .ok (.ddiv, 1) := by decide +kernel
theorem dX5_meanMiles_40 : decode cX5_meanMiles 40 = .ok (.dreturn, 1) := by decide +kernel
theorem dX5_one_0 : decode cX5_one 0 = .ok (.iload_n 0, 1) := by decide +kernel
theorem dX5_one_1 : decode cX5_one 1 = .ok (.ifCond .eq 7, 3) := by decide +kernel
theorem dX5_one_4 : decode cX5_one 4 = .ok (.iconst 1, 1) := by decide +kernel
theorem dX5_one_5 : decode cX5_one 5 = .ok (.goto 4, 3) := by decide +kernel
theorem dX5_one_8 : decode cX5_one 8 = .ok (.iconst 0, 1) := by decide +kernel
theorem dX5_one_9 : decode cX5_one 9 = .ok (.ireturn, 1) := by decide +kernel
set_option maxRecDepth 20000 in
theorem ggX5_digest_X5_one : GoodIn wsX5_digest wsX5_one := goodIn_r _ [16] (by decide +kernel) (by decide +kernel)
set_option maxRecDepth 20000 in
theorem gX5_digest_X5_one : GoodIn wsX5_digest (va_wsS RX5 204 yX5_one wsX5_one) := goodIn_app (goodIn_of _ (by decide +kernel)) ggX5_digest_X5_one
set_option maxRecDepth 20000 in
theorem ggX5_digest_X5_strengthOf : GoodIn wsX5_digest wsX5_strengthOf := goodIn_r _ [20, 4, 21, 22, 23, 24, 25, 26, 27, 28, 29, 30, 31, 32, 33, 34, 35, 36, 37, 38, 39, 40, 41, 42, 43, 44, 45, 46] (by decide +kernel) (by decide +kernel)
set_option maxRecDepth 20000 in
theorem gX5_digest_X5_strengthOf : GoodIn wsX5_digest (wsV RX5 185 RX5 yX5_strengthOf wsX5_strengthOf) := goodIn_app (goodIn_of _ (by decide +kernel)) ggX5_digest_X5_strengthOf
theorem dX5_digest_0 : decode cX5_digest 0 = .ok (.aload_n 0, 1) := by decide +kernel
theorem dX5_digest_1 : decode cX5_digest 1 = .ok (.iconst 0, 1) := by decide +kernel
theorem dX5_digest_2 : decode cX5_digest 2 = .ok (.putfield 42, 3) := by decide +kernel
theorem dX5_digest_5 : decode cX5_digest 5 = .ok (.bipush 10, 2) := by decide +kernel
theorem dX5_digest_7 : decode cX5_digest 7 = .ok (.newarray .int, 2) := by decide +kernel
theorem dX5_digest_9 : decode cX5_digest 9 = .ok (.dup, 1) := by decide +kernel
theorem dX5_digest_10 : decode cX5_digest 10 = .ok (.iconst 0, 1) := by decide +kernel
theorem dX5_digest_11 : decode cX5_digest 11 = .ok (.aload_n 0, 1) := by decide +kernel
theorem dX5_digest_12 : decode cX5_digest 12 = .ok (.getfield 46, 3) := by decide +kernel
theorem dX5_digest_15 : decode cX5_digest 15 = .ok (.iastore, 1) := by decide +kernel
theorem dX5_digest_16 : decode cX5_digest 16 = .ok (.dup, 1) := by decide +kernel
theorem dX5_digest_17 : decode cX5_digest 17 = .ok (.iconst 1, 1) := by decide +kernel
theorem dX5_digest_18 : decode cX5_digest 18 = .ok (.aload_n 0, 1) := by decide +kernel
theorem dX5_digest_19 : decode cX5_digest 19 = .ok (.getfield 35, 3) := by decide +kernel
theorem dX5_digest_22 : decode cX5_digest 22 = .ok (.getfield 61, 3) := by decide +kernel
theorem dX5_digest_25 : decode cX5_digest 25 = .ok (.iastore, 1) := by decide +kernel
theorem dX5_digest_26 : decode cX5_digest 26 = .ok (.dup, 1) := by decide +kernel
theorem dX5_digest_27 : decode cX5_digest 27 = .ok (.iconst 2, 1) := by decide +kernel
theorem dX5_digest_28 : decode cX5_digest 28 = .ok (.aload_n 0, 1) := by decide +kernel
theorem dX5_digest_29 : decode cX5_digest 29 = .ok (.getfield 35, 3) := by decide +kernel
theorem dX5_digest_32 : decode cX5_digest 32 = .ok (.getfield 97, 3) := by decide +kernel
theorem dX5_digest_35 : decode cX5_digest 35 = .ok (.iastore, 1) := by decide +kernel
theorem dX5_digest_36 : decode cX5_digest 36 = .ok (.dup, 1) := by decide +kernel
theorem dX5_digest_37 : decode cX5_digest 37 = .ok (.iconst 3, 1) := by decide +kernel
theorem dX5_digest_38 : decode cX5_digest 38 = .ok (.aload_n 0, 1) := by decide +kernel
theorem dX5_digest_39 : decode cX5_digest 39 = .ok (.getfield 35, 3) := by decide +kernel
theorem dX5_digest_42 : decode cX5_digest 42 = .ok (.getfield 103, 3) := by decide +kernel
theorem dX5_digest_45 : decode cX5_digest 45 = .ok (.iastore, 1) := by decide +kernel
theorem dX5_digest_46 : decode cX5_digest 46 = .ok (.dup, 1) := by decide +kernel
theorem dX5_digest_47 : decode cX5_digest 47 = .ok (.iconst 4, 1) := by decide +kernel
theorem dX5_digest_48 : decode cX5_digest 48 = .ok (.aload_n 0, 1) := by decide +kernel
theorem dX5_digest_49 : decode cX5_digest 49 = .ok (.getfield 35, 3) := by decide +kernel
theorem dX5_digest_52 : decode cX5_digest 52 = .ok (.getfield 84, 3) := by decide +kernel
theorem dX5_digest_55 : decode cX5_digest 55 = .ok (.iastore, 1) := by decide +kernel
theorem dX5_digest_56 : decode cX5_digest 56 = .ok (.dup, 1) := by decide +kernel
theorem dX5_digest_57 : decode cX5_digest 57 = .ok (.iconst 5, 1) := by decide +kernel
theorem dX5_digest_58 : decode cX5_digest 58 = .ok (.aload_n 0, 1) := by decide +kernel
theorem dX5_digest_59 : decode cX5_digest 59 = .ok (.getfield 35, 3) := by decide +kernel
theorem dX5_digest_62 : decode cX5_digest 62 = .ok (.getfield 87, 3) := by decide +kernel
theorem dX5_digest_65 : decode cX5_digest 65 = .ok (.iastore, 1) := by decide +kernel
theorem dX5_digest_66 : decode cX5_digest 66 = .ok (.dup, 1) := by decide +kernel
theorem dX5_digest_67 : decode cX5_digest 67 = .ok (.bipush 6, 2) := by decide +kernel
theorem dX5_digest_69 : decode cX5_digest 69 = .ok (.aload_n 0, 1) := by decide +kernel
theorem dX5_digest_70 : decode cX5_digest 70 = .ok (.getfield 35, 3) := by decide +kernel
theorem dX5_digest_73 : decode cX5_digest 73 = .ok (.getfield 122, 3) := by decide +kernel
theorem dX5_digest_76 : decode cX5_digest 76 = .ok (.iastore, 1) := by decide +kernel
theorem dX5_digest_77 : decode cX5_digest 77 = .ok (.dup, 1) := by decide +kernel
theorem dX5_digest_78 : decode cX5_digest 78 = .ok (.bipush 7, 2) := by decide +kernel
theorem dX5_digest_80 : decode cX5_digest 80 = .ok (.aload_n 0, 1) := by decide +kernel
theorem dX5_digest_81 : decode cX5_digest 81 = .ok (.getfield 35, 3) := by decide +kernel
theorem dX5_digest_84 : decode cX5_digest 84 = .ok (.getfield 156, 3) := by decide +kernel
theorem dX5_digest_87 : decode cX5_digest 87 = .ok (.iastore, 1) := by decide +kernel
theorem dX5_digest_88 : decode cX5_digest 88 = .ok (.dup, 1) := by decide +kernel
theorem dX5_digest_89 : decode cX5_digest 89 = .ok (.bipush 8, 2) := by decide +kernel
theorem dX5_digest_91 : decode cX5_digest 91 = .ok (.aload_n 0, 1) := by decide +kernel
theorem dX5_digest_92 : decode cX5_digest 92 = .ok (.getfield 35, 3) := by decide +kernel
theorem dX5_digest_95 : decode cX5_digest 95 = .ok (.getfield 146, 3) := by decide +kernel
theorem dX5_digest_98 : decode cX5_digest 98 = .ok (.iastore, 1) := by decide +kernel
theorem dX5_digest_99 : decode cX5_digest 99 = .ok (.dup, 1) := by decide +kernel
theorem dX5_digest_100 : decode cX5_digest 100 = .ok (.bipush 9, 2) := by decide +kernel
theorem dX5_digest_102 : decode cX5_digest 102 = .ok (.aload_n 0, 1) := by decide +kernel
theorem dX5_digest_103 : decode cX5_digest 103 = .ok (.getfield 35, 3) := by decide +kernel
theorem dX5_digest_106 : decode cX5_digest 106 = .ok (.getfield 100, 3) := by decide +kernel
theorem dX5_digest_109 : decode cX5_digest 109 = .ok (.iastore, 1) := by decide +kernel
theorem dX5_digest_110 : decode cX5_digest 110 = .ok (.astore_n 1, 1) := by decide +kernel
theorem dX5_digest_111 : decode cX5_digest 111 = .ok (.ldc2_w 200, 3) := by decide +kernel
theorem dX5_digest_114 : decode cX5_digest 114 = .ok (.lstore_n 2, 1) := by decide +kernel
theorem dX5_digest_115 : decode cX5_digest 115 = .ok (.aload_n 1, 1) := by decide +kernel
theorem dX5_digest_116 : decode cX5_digest 116 = .ok (.astore 4, 2) := by decide +kernel
theorem dX5_digest_118 : decode cX5_digest 118 = .ok (.aload 4, 2) := by decide +kernel
theorem dX5_digest_120 : decode cX5_digest 120 = .ok (.arraylength, 1) := by decide +kernel
theorem dX5_digest_121 : decode cX5_digest 121 = .ok (.istore 5, 2) := by decide +kernel
theorem dX5_digest_123 : decode cX5_digest 123 = .ok (.iconst 0, 1) := by decide +kernel
theorem dX5_digest_124 : decode cX5_digest 124 = .ok (.istore 6, 2) := by decide +kernel
theorem dX5_digest_126 : decode cX5_digest 126 = .ok (.iload 6, 2) := by decide +kernel
theorem dX5_digest_128 : decode cX5_digest 128 = .ok (.iload 5, 2) := by decide +kernel
theorem dX5_digest_130 : decode cX5_digest 130 = .ok (.if_icmp .ge 26, 3) := by decide +kernel
theorem dX5_digest_133 : decode cX5_digest 133 = .ok (.aload 4, 2) := by decide +kernel
theorem dX5_digest_135 : decode cX5_digest 135 = .ok (.iload 6, 2) := by decide +kernel
theorem dX5_digest_137 : decode cX5_digest 137 = .ok (.iaload, 1) := by decide +kernel
theorem dX5_digest_138 : decode cX5_digest 138 = .ok (.istore 7, 2) := by decide +kernel
theorem dX5_digest_140 : decode cX5_digest 140 = .ok (.lload_n 2, 1) := by decide +kernel
theorem dX5_digest_141 : decode cX5_digest 141 = .ok (.ldc2_w 202, 3) := by decide +kernel
theorem dX5_digest_144 : decode cX5_digest 144 = .ok (.lmul, 1) := by decide +kernel
theorem dX5_digest_145 : decode cX5_digest 145 = .ok (.iload 7, 2) := by decide +kernel
theorem dX5_digest_147 : decode cX5_digest 147 = .ok (.i2l, 1) := by decide +kernel
theorem dX5_digest_148 : decode cX5_digest 148 = .ok (.ladd, 1) := by decide +kernel
theorem dX5_digest_149 : decode cX5_digest 149 = .ok (.lstore_n 2, 1) := by decide +kernel
theorem dX5_digest_150 : decode cX5_digest 150 = .ok (.iinc 6 1, 3) := by decide +kernel
theorem dX5_digest_153 : decode cX5_digest 153 = .ok (.goto (-27), 3) := by decide +kernel
theorem dX5_digest_156 : decode cX5_digest 156 = .ok (.iconst 0, 1) := by decide +kernel
theorem dX5_digest_157 : decode cX5_digest 157 = .ok (.istore 4, 2) := by decide +kernel
theorem dX5_digest_159 : decode cX5_digest 159 = .ok (.iload 4, 2) := by decide +kernel
theorem dX5_digest_161 : decode cX5_digest 161 = .ok (.aload_n 0, 1) := by decide +kernel
theorem dX5_digest_162 : decode cX5_digest 162 = .ok (.getfield 46, 3) := by decide +kernel
theorem dX5_digest_165 : decode cX5_digest 165 = .ok (.if_icmp .ge 157, 3) := by decide +kernel
theorem dX5_digest_168 : decode cX5_digest 168 = .ok (.lload_n 2, 1) := by decide +kernel
theorem dX5_digest_169 : decode cX5_digest 169 = .ok (.ldc2_w 202, 3) := by decide +kernel
theorem dX5_digest_172 : decode cX5_digest 172 = .ok (.lmul, 1) := by decide +kernel
theorem dX5_digest_173 : decode cX5_digest 173 = .ok (.aload_n 0, 1) := by decide +kernel
theorem dX5_digest_174 : decode cX5_digest 174 = .ok (.getfield 26, 3) := by decide +kernel
theorem dX5_digest_177 : decode cX5_digest 177 = .ok (.iload 4, 2) := by decide +kernel
theorem dX5_digest_179 : decode cX5_digest 179 = .ok (.baload, 1) := by decide +kernel
theorem dX5_digest_180 : decode cX5_digest 180 = .ok (.invokestatic 204, 3) := by decide +kernel
theorem dX5_digest_183 : decode cX5_digest 183 = .ok (.i2l, 1) := by decide +kernel
theorem dX5_digest_184 : decode cX5_digest 184 = .ok (.ladd, 1) := by decide +kernel
theorem dX5_digest_185 : decode cX5_digest 185 = .ok (.ldc2_w 202, 3) := by decide +kernel
theorem dX5_digest_188 : decode cX5_digest 188 = .ok (.lmul, 1) := by decide +kernel
theorem dX5_digest_189 : decode cX5_digest 189 = .ok (.aload_n 0, 1) := by decide +kernel
theorem dX5_digest_190 : decode cX5_digest 190 = .ok (.getfield 9, 3) := by decide +kernel
theorem dX5_digest_193 : decode cX5_digest 193 = .ok (.iload 4, 2) := by decide +kernel
theorem dX5_digest_195 : decode cX5_digest 195 = .ok (.iaload, 1) := by decide +kernel
theorem dX5_digest_196 : decode cX5_digest 196 = .ok (.i2l, 1) := by decide +kernel
theorem dX5_digest_197 : decode cX5_digest 197 = .ok (.ladd, 1) := by decide +kernel
theorem dX5_digest_198 : decode cX5_digest 198 = .ok (.lstore_n 2, 1) := by decide +kernel
theorem dX5_digest_199 : decode cX5_digest 199 = .ok (.iconst 4, 1) := by decide +kernel
theorem dX5_digest_200 : decode cX5_digest 200 = .ok (.iload 4, 2) := by decide +kernel
theorem dX5_digest_202 : decode cX5_digest 202 = .ok (.imul, 1) := by decide +kernel
theorem dX5_digest_203 : decode cX5_digest 203 = .ok (.istore 5, 2) := by decide +kernel
theorem dX5_digest_205 : decode cX5_digest 205 = .ok (.iload 5, 2) := by decide +kernel
theorem dX5_digest_207 : decode cX5_digest 207 = .ok (.iconst 4, 1) := by decide +kernel
theorem dX5_digest_208 : decode cX5_digest 208 = .ok (.iload 4, 2) := by decide +kernel
theorem dX5_digest_210 : decode cX5_digest 210 = .ok (.imul, 1) := by decide +kernel
theorem dX5_digest_211 : decode cX5_digest 211 = .ok (.aload_n 0, 1) := by decide +kernel
theorem dX5_digest_212 : decode cX5_digest 212 = .ok (.getfield 9, 3) := by decide +kernel
theorem dX5_digest_215 : decode cX5_digest 215 = .ok (.iload 4, 2) := by decide +kernel
theorem dX5_digest_217 : decode cX5_digest 217 = .ok (.iaload, 1) := by decide +kernel
theorem dX5_digest_218 : decode cX5_digest 218 = .ok (.iadd, 1) := by decide +kernel
theorem dX5_digest_219 : decode cX5_digest 219 = .ok (.if_icmp .ge 97, 3) := by decide +kernel
theorem dX5_digest_222 : decode cX5_digest 222 = .ok (.lload_n 2, 1) := by decide +kernel
theorem dX5_digest_223 : decode cX5_digest 223 = .ok (.ldc2_w 202, 3) := by decide +kernel
theorem dX5_digest_226 : decode cX5_digest 226 = .ok (.lmul, 1) := by decide +kernel
theorem dX5_digest_227 : decode cX5_digest 227 = .ok (.aload_n 0, 1) := by decide +kernel
theorem dX5_digest_228 : decode cX5_digest 228 = .ok (.getfield 16, 3) := by decide +kernel
theorem dX5_digest_231 : decode cX5_digest 231 = .ok (.iload 5, 2) := by decide +kernel
theorem dX5_digest_233 : decode cX5_digest 233 = .ok (.iaload, 1) := by decide +kernel
theorem dX5_digest_234 : decode cX5_digest 234 = .ok (.i2l, 1) := by decide +kernel
theorem dX5_digest_235 : decode cX5_digest 235 = .ok (.ladd, 1) := by decide +kernel
theorem dX5_digest_236 : decode cX5_digest 236 = .ok (.ldc2_w 202, 3) := by decide +kernel
theorem dX5_digest_239 : decode cX5_digest 239 = .ok (.lmul, 1) := by decide +kernel
theorem dX5_digest_240 : decode cX5_digest 240 = .ok (.aload_n 0, 1) := by decide +kernel
theorem dX5_digest_241 : decode cX5_digest 241 = .ok (.getfield 19, 3) := by decide +kernel
theorem dX5_digest_244 : decode cX5_digest 244 = .ok (.aload_n 0, 1) := by decide +kernel
theorem dX5_digest_245 : decode cX5_digest 245 = .ok (.getfield 13, 3) := by decide +kernel
theorem dX5_digest_248 : decode cX5_digest 248 = .ok (.iload 5, 2) := by decide +kernel
theorem dX5_digest_250 : decode cX5_digest 250 = .ok (.iaload, 1) := by decide +kernel
theorem dX5_digest_251 : decode cX5_digest 251 = .ok (.iaload, 1) := by decide +kernel
theorem dX5_digest_252 : decode cX5_digest 252 = .ok (.i2l, 1) := by decide +kernel
theorem dX5_digest_253 : decode cX5_digest 253 = .ok (.ladd, 1) := by decide +kernel
theorem dX5_digest_254 : decode cX5_digest 254 = .ok (.lstore_n 2, 1) := by decide +kernel
theorem dX5_digest_255 : decode cX5_digest 255 = .ok (.lload_n 2, 1) := by decide +kernel
theorem dX5_digest_256 : decode cX5_digest 256 = .ok (.ldc2_w 202, 3) := by decide +kernel
theorem dX5_digest_259 : decode cX5_digest 259 = .ok (.lmul, 1) := by decide +kernel
theorem dX5_digest_260 : decode cX5_digest 260 = .ok (.aload_n 0, 1) := by decide +kernel
theorem dX5_digest_261 : decode cX5_digest 261 = .ok (.getfield 22, 3) := by decide +kernel
theorem dX5_digest_264 : decode cX5_digest 264 = .ok (.aload_n 0, 1) := by decide +kernel
theorem dX5_digest_265 : decode cX5_digest 265 = .ok (.getfield 13, 3) := by decide +kernel
theorem dX5_digest_268 : decode cX5_digest 268 = .ok (.iload 5, 2) := by decide +kernel
theorem dX5_digest_270 : decode cX5_digest 270 = .ok (.iaload, 1) := by decide +kernel
theorem dX5_digest_271 : decode cX5_digest 271 = .ok (.baload, 1) := by decide +kernel
theorem dX5_digest_272 : decode cX5_digest 272 = .ok (.ifCond .ne 7, 3) := by decide +kernel
theorem dX5_digest_275 : decode cX5_digest 275 = .ok (.iconst 1, 1) := by decide +kernel
theorem dX5_digest_276 : decode cX5_digest 276 = .ok (.goto 4, 3) := by decide +kernel
theorem dX5_digest_279 : decode cX5_digest 279 = .ok (.iconst 0, 1) := by decide +kernel
theorem dX5_digest_280 : decode cX5_digest 280 = .ok (.invokestatic 204, 3) := by decide +kernel
theorem dX5_digest_283 : decode cX5_digest 283 = .ok (.i2l, 1) := by decide +kernel
theorem dX5_digest_284 : decode cX5_digest 284 = .ok (.ladd, 1) := by decide +kernel
theorem dX5_digest_285 : decode cX5_digest 285 = .ok (.ldc2_w 202, 3) := by decide +kernel
theorem dX5_digest_288 : decode cX5_digest 288 = .ok (.lmul, 1) := by decide +kernel
theorem dX5_digest_289 : decode cX5_digest 289 = .ok (.aload_n 0, 1) := by decide +kernel
theorem dX5_digest_290 : decode cX5_digest 290 = .ok (.getfield 35, 3) := by decide +kernel
theorem dX5_digest_293 : decode cX5_digest 293 = .ok (.getfield 67, 3) := by decide +kernel
theorem dX5_digest_296 : decode cX5_digest 296 = .ok (.aload_n 0, 1) := by decide +kernel
theorem dX5_digest_297 : decode cX5_digest 297 = .ok (.getfield 13, 3) := by decide +kernel
theorem dX5_digest_300 : decode cX5_digest 300 = .ok (.iload 5, 2) := by decide +kernel
theorem dX5_digest_302 : decode cX5_digest 302 = .ok (.iaload, 1) := by decide +kernel
theorem dX5_digest_303 : decode cX5_digest 303 = .ok (.baload, 1) := by decide +kernel
theorem dX5_digest_304 : decode cX5_digest 304 = .ok (.invokestatic 204, 3) := by decide +kernel
theorem dX5_digest_307 : decode cX5_digest 307 = .ok (.i2l, 1) := by decide +kernel
theorem dX5_digest_308 : decode cX5_digest 308 = .ok (.ladd, 1) := by decide +kernel
theorem dX5_digest_309 : decode cX5_digest 309 = .ok (.lstore_n 2, 1) := by decide +kernel
theorem dX5_digest_310 : decode cX5_digest 310 = .ok (.iinc 5 1, 3) := by decide +kernel
theorem dX5_digest_313 : decode cX5_digest 313 = .ok (.goto (-108), 3) := by decide +kernel
theorem dX5_digest_316 : decode cX5_digest 316 = .ok (.iinc 4 1, 3) := by decide +kernel
theorem dX5_digest_319 : decode cX5_digest 319 = .ok (.goto (-160), 3) := by decide +kernel
theorem dX5_digest_322 : decode cX5_digest 322 = .ok (.iconst 0, 1) := by decide +kernel
theorem dX5_digest_323 : decode cX5_digest 323 = .ok (.istore 4, 2) := by decide +kernel
theorem dX5_digest_325 : decode cX5_digest 325 = .ok (.iload 4, 2) := by decide +kernel
theorem dX5_digest_327 : decode cX5_digest 327 = .ok (.aload_n 0, 1) := by decide +kernel
theorem dX5_digest_328 : decode cX5_digest 328 = .ok (.getfield 46, 3) := by decide +kernel
theorem dX5_digest_331 : decode cX5_digest 331 = .ok (.if_icmp .ge 69, 3) := by decide +kernel
theorem dX5_digest_334 : decode cX5_digest 334 = .ok (.iconst 0, 1) := by decide +kernel
theorem dX5_digest_335 : decode cX5_digest 335 = .ok (.istore 5, 2) := by decide +kernel
theorem dX5_digest_337 : decode cX5_digest 337 = .ok (.iload 5, 2) := by decide +kernel
theorem dX5_digest_339 : decode cX5_digest 339 = .ok (.aload_n 0, 1) := by decide +kernel
theorem dX5_digest_340 : decode cX5_digest 340 = .ok (.getfield 46, 3) := by decide +kernel
theorem dX5_digest_343 : decode cX5_digest 343 = .ok (.if_icmp .ge 51, 3) := by decide +kernel
theorem dX5_digest_346 : decode cX5_digest 346 = .ok (.lload_n 2, 1) := by decide +kernel
theorem dX5_digest_347 : decode cX5_digest 347 = .ok (.ldc2_w 202, 3) := by decide +kernel
theorem dX5_digest_350 : decode cX5_digest 350 = .ok (.lmul, 1) := by decide +kernel
theorem dX5_digest_351 : decode cX5_digest 351 = .ok (.aload_n 0, 1) := by decide +kernel
theorem dX5_digest_352 : decode cX5_digest 352 = .ok (.getfield 35, 3) := by decide +kernel
theorem dX5_digest_355 : decode cX5_digest 355 = .ok (.getfield 175, 3) := by decide +kernel
theorem dX5_digest_358 : decode cX5_digest 358 = .ok (.bipush 10, 2) := by decide +kernel
theorem dX5_digest_360 : decode cX5_digest 360 = .ok (.iload 4, 2) := by decide +kernel
theorem dX5_digest_362 : decode cX5_digest 362 = .ok (.imul, 1) := by decide +kernel
theorem dX5_digest_363 : decode cX5_digest 363 = .ok (.iload 5, 2) := by decide +kernel
theorem dX5_digest_365 : decode cX5_digest 365 = .ok (.iadd, 1) := by decide +kernel
theorem dX5_digest_366 : decode cX5_digest 366 = .ok (.iaload, 1) := by decide +kernel
theorem dX5_digest_367 : decode cX5_digest 367 = .ok (.i2l, 1) := by decide +kernel
theorem dX5_digest_368 : decode cX5_digest 368 = .ok (.ladd, 1) := by decide +kernel
theorem dX5_digest_369 : decode cX5_digest 369 = .ok (.ldc2_w 202, 3) := by decide +kernel
theorem dX5_digest_372 : decode cX5_digest 372 = .ok (.lmul, 1) := by decide +kernel
theorem dX5_digest_373 : decode cX5_digest 373 = .ok (.aload_n 0, 1) := by decide +kernel
theorem dX5_digest_374 : decode cX5_digest 374 = .ok (.bipush 10, 2) := by decide +kernel
theorem dX5_digest_376 : decode cX5_digest 376 = .ok (.iload 4, 2) := by decide +kernel
theorem dX5_digest_378 : decode cX5_digest 378 = .ok (.imul, 1) := by decide +kernel
theorem dX5_digest_379 : decode cX5_digest 379 = .ok (.iload 5, 2) := by decide +kernel
theorem dX5_digest_381 : decode cX5_digest 381 = .ok (.iadd, 1) := by decide +kernel
theorem dX5_digest_382 : decode cX5_digest 382 = .ok (.invokevirtual 185, 3) := by decide +kernel
theorem dX5_digest_385 : decode cX5_digest 385 = .ok (.i2l, 1) := by decide +kernel
theorem dX5_digest_386 : decode cX5_digest 386 = .ok (.ladd, 1) := by decide +kernel
theorem dX5_digest_387 : decode cX5_digest 387 = .ok (.lstore_n 2, 1) := by decide +kernel
theorem dX5_digest_388 : decode cX5_digest 388 = .ok (.iinc 5 1, 3) := by decide +kernel
theorem dX5_digest_391 : decode cX5_digest 391 = .ok (.goto (-54), 3) := by decide +kernel
theorem dX5_digest_394 : decode cX5_digest 394 = .ok (.iinc 4 1, 3) := by decide +kernel
theorem dX5_digest_397 : decode cX5_digest 397 = .ok (.goto (-72), 3) := by decide +kernel
theorem dX5_digest_400 : decode cX5_digest 400 = .ok (.lload_n 2, 1) := by decide +kernel
theorem dX5_digest_401 : decode cX5_digest 401 = .ok (.lreturn, 1) := by decide +kernel
theorem dJ9_max_7cf53_0 : decode cJ9_max_7cf53 0 = .ok (.iload_n 0, 1) := by decide +kernel
theorem dJ9_max_7cf53_1 : decode cJ9_max_7cf53 1 = .ok (.iload_n 1, 1) := by decide +kernel
theorem dJ9_max_7cf53_2 : decode cJ9_max_7cf53 2 = .ok (.if_icmp .lt 7, 3) := by decide +kernel
theorem dJ9_max_7cf53_5 : decode cJ9_max_7cf53 5 = .ok (.iload_n 0, 1) := by decide +kernel
theorem dJ9_max_7cf53_6 : decode cJ9_max_7cf53 6 = .ok (.goto 4, 3) := by decide +kernel
theorem dJ9_max_7cf53_9 : decode cJ9_max_7cf53 9 = .ok (.iload_n 1, 1) := by decide +kernel
theorem dJ9_max_7cf53_10 : decode cJ9_max_7cf53 10 = .ok (.ireturn, 1) := by decide +kernel
theorem dJ9_min_7cf53_0 : decode cJ9_min_7cf53 0 = .ok (.iload_n 0, 1) := by decide +kernel
theorem dJ9_min_7cf53_1 : decode cJ9_min_7cf53 1 = .ok (.iload_n 1, 1) := by decide +kernel
theorem dJ9_min_7cf53_2 : decode cJ9_min_7cf53 2 = .ok (.if_icmp .gt 7, 3) := by decide +kernel
theorem dJ9_min_7cf53_5 : decode cJ9_min_7cf53 5 = .ok (.iload_n 0, 1) := by decide +kernel
theorem dJ9_min_7cf53_6 : decode cJ9_min_7cf53 6 = .ok (.goto 4, 3) := by decide +kernel
theorem dJ9_min_7cf53_9 : decode cJ9_min_7cf53 9 = .ok (.iload_n 1, 1) := by decide +kernel
theorem dJ9_min_7cf53_10 : decode cJ9_min_7cf53 10 = .ok (.ireturn, 1) := by decide +kernel
theorem dJ7_fill_53178_0 : decode cJ7_fill_53178 0 = .ok (.iconst 0, 1) := by decide +kernel
theorem dJ7_fill_53178_1 : decode cJ7_fill_53178 1 = .ok (.istore_n 2, 1) := by decide +kernel
theorem dJ7_fill_53178_2 : decode cJ7_fill_53178 2 = .ok (.aload_n 0, 1) := by decide +kernel
theorem dJ7_fill_53178_3 : decode cJ7_fill_53178 3 = .ok (.arraylength, 1) := by decide +kernel
theorem dJ7_fill_53178_4 : decode cJ7_fill_53178 4 = .ok (.istore_n 3, 1) := by decide +kernel
theorem dJ7_fill_53178_5 : decode cJ7_fill_53178 5 = .ok (.iload_n 2, 1) := by decide +kernel
theorem dJ7_fill_53178_6 : decode cJ7_fill_53178 6 = .ok (.iload_n 3, 1) := by decide +kernel
theorem dJ7_fill_53178_7 : decode cJ7_fill_53178 7 = .ok (.if_icmp .ge 13, 3) := by decide +kernel
theorem dJ7_fill_53178_10 : decode cJ7_fill_53178 10 = .ok (.aload_n 0, 1) := by decide +kernel
theorem dJ7_fill_53178_11 : decode cJ7_fill_53178 11 = .ok (.iload_n 2, 1) := by decide +kernel
theorem dJ7_fill_53178_12 : decode cJ7_fill_53178 12 = .ok (.iload_n 1, 1) := by decide +kernel
theorem dJ7_fill_53178_13 : decode cJ7_fill_53178 13 = .ok (.iastore, 1) := by decide +kernel
theorem dJ7_fill_53178_14 : decode cJ7_fill_53178 14 = .ok (.iinc 2 1, 3) := by decide +kernel
theorem dJ7_fill_53178_17 : decode cJ7_fill_53178 17 = .ok (.goto (-12), 3) := by decide +kernel
theorem dJ7_fill_53178_20 : decode cJ7_fill_53178 20 = .ok (.return_, 1) := by decide +kernel
set_option maxRecDepth 20000 in
theorem ggL_addPlace_X3_addPlace : GoodIn wsL_addPlace wsX3_addPlace := goodIn_ca (goodIn_r _ [6, 7, 8, 9, 10, 11, 12, 13, 14, 15, 16, 17, 18, 19, 20] (by decide +kernel) (by decide +kernel)) (goodIn_sub (fun _ h => List.mem_cons_of_mem _ (List.mem_append_right _ h)) (by decide +kernel))
set_option maxRecDepth 20000 in
theorem gL_addPlace_X3_addPlace : GoodIn wsL_addPlace (wsV RL 7 RX3 yX3_addPlace wsX3_addPlace) := goodIn_app (goodIn_of _ (by decide +kernel)) ggL_addPlace_X3_addPlace
end
section
/-! MY ROWS: a run's names (xG), what every method needs of the tables (xE), statics (xZ), worlds (xW); contracts, calls and ends over them. -/
abbrev xG : Type := va_G × (ClassId × ClassId × ClassId) × (Nat → Nat)
abbrev xTy (G : xG) : List (ClassId × FieldType) := [(G.2.1.1, .int), (G.2.1.2.1, .boolean), (G.2.1.2.2, .long)]
abbrev xAI (G : xG) (a n : Nat) (f : Nat → Int32) : Nat × va_E := (a, .inl (G.2.1.1, n, .inl f))
abbrev xAZ (G : xG) (a n : Nat) (f : Nat → Int32) : Nat × va_E := (a, .inl (G.2.1.2.1, n, .inl f))
abbrev xAJ (G : xG) (a n : Nat) (f : Nat → Int64) : Nat × va_E := (a, .inl (G.2.1.2.2, n, .inr (.inl f)))
abbrev xO (a ci : Nat) (fs : List Value) : Nat × va_E := (a, .inr (ci, fs))
abbrev xIO : String := "java/lang/IndexOutOfBoundsException"
abbrev xIA : String := "java/lang/IllegalArgumentException"
abbrev xIS : String := "java/lang/IllegalStateException"
def xNest : List Cond := [
  .methodLinkNest RX3 11 yX1_init "MapCarrier",
  .fieldLinkNest RX3 28 "MapCarrier$Land" "places" "I" "MapCarrier",
  .fieldLinkNest RX3 119 "MapCarrier$Land" "exits" "[I" "MapCarrier",
  .fieldLinkNest RX3 69 "MapCarrier$Land" "shepherds" "[Z" "MapCarrier",
  .fieldLinkNest RX0 111 "MapCarrier$Land" "shepherds" "[Z" "MapCarrier",
  .fieldLinkNest RX0 93 "MapCarrier$Land" "open" "[Z" "MapCarrier",
  .methodLinkNest RX0 11 yX2_init "MapCarrier",
  .fieldLinkNest RX3 109 "MapCarrier$Carrier" "memory" "LMapCarrier$Memory;" "MapCarrier",
  .fieldLinkNest RX3 84 "MapCarrier$Carrier" "at" "I" "MapCarrier",
  .fieldLinkNest RX3 73 "MapCarrier$Carrier" "coins" "I" "MapCarrier",
  .fieldLinkNest RX3 132 "MapCarrier$Carrier" "goal" "I" "MapCarrier",
  .fieldLinkNest RX3 103 "MapCarrier$Carrier" "wayLength" "I" "MapCarrier",
  .fieldLinkNest RX3 147 "MapCarrier$Carrier" "walked" "I" "MapCarrier",
  .fieldLinkNest RX3 150 "MapCarrier$Carrier" "doubled" "I" "MapCarrier",
  .fieldLinkNest RX3 153 "MapCarrier$Carrier" "done" "I" "MapCarrier",
  .fieldLinkNest RX3 156 "MapCarrier$Carrier" "inVain" "I" "MapCarrier",
  .fieldLinkNest RX3 159 "MapCarrier$Carrier" "questions" "I" "MapCarrier",
  .methodLinkNest RX1 50 yX3_isEnd "MapCarrier",
  .methodLinkNest RX0 56 yX3_isEnd "MapCarrier",
  .methodLinkNest RX1 46 yX3_placeOfEnd "MapCarrier",
  .methodLinkNest RX0 120 yX3_exitOfEnd "MapCarrier",
  .methodLinkNest RX0 134 yX3_placeOfEnd "MapCarrier",
  .fieldLinkNest RX5 61 "MapCarrierModel$State" "where" "I" "MapCarrierModel",
  .fieldLinkNest RX5 97 "MapCarrierModel$State" "coins" "I" "MapCarrierModel",
  .fieldLinkNest RX5 103 "MapCarrierModel$State" "goal" "I" "MapCarrierModel",
  .fieldLinkNest RX5 67 "MapCarrierModel$State" "tried" "[Z" "MapCarrierModel",
  .fieldLinkNest RX5 94 "MapCarrierModel$State" "askedAt" "[Z" "MapCarrierModel",
  .fieldLinkNest RX5 81 "MapCarrierModel$State" "way" "[I" "MapCarrierModel",
  .fieldLinkNest RX5 84 "MapCarrierModel$State" "length" "I" "MapCarrierModel",
  .fieldLinkNest RX5 175 "MapCarrierModel$State" "exit" "[I" "MapCarrierModel",
  .fieldLinkNest RX5 128 "MapCarrierModel$State" "strength" "[I" "MapCarrierModel",
  .fieldLinkNest RX5 87 "MapCarrierModel$State" "walked" "I" "MapCarrierModel",
  .fieldLinkNest RX5 122 "MapCarrierModel$State" "doubled" "I" "MapCarrierModel",
  .fieldLinkNest RX5 156 "MapCarrierModel$State" "done" "I" "MapCarrierModel",
  .fieldLinkNest RX5 146 "MapCarrierModel$State" "inVain" "I" "MapCarrierModel",
  .fieldLinkNest RX5 100 "MapCarrierModel$State" "asked" "I" "MapCarrierModel",
  .castable xIO xIO, .castable xIA xIA, .castable xIS xIS,
  .declares ⟨"java/lang/RuntimeException", "<init>", "(Ljava/lang/String;)V"⟩, .declares ⟨"java/lang/Exception", "<init>", "(Ljava/lang/String;)V"⟩, .declares ⟨"java/lang/Throwable", "<init>", "(Ljava/lang/String;)V"⟩]
def xNestOk : Cond → Bool
  | .fieldLinkNest .. => true
  | .methodLinkNest .. => true
  | .castable .. => true
  | .declares _ => true
  | _ => false
theorem xNest_ok : ∀ w ∈ xNest, xNestOk w = true := by decide +kernel
theorem xNest_tbl : ∀ w ∈ xNest, w ∈ lw_tbl := by decide +kernel
def xN (U : State) : Prop := ∀ w ∈ xNest, va_Nw w U
theorem xN.warm {s U : State} (hW : s.WarmedH U.vm) (h : xN s) : xN U := by
  intro w hw
  have h1 := h w hw
  have h2 := xNest_ok w hw
  cases w <;> first | exact va_Nw.warmF hW h1 | exact va_Nw.warmM hW h1 | exact va_Nw.warmC hW h1 | exact va_Nw.warmD hW h1 | (exact absurd h2 (by simp [xNestOk]))
theorem xN.same {u U : State} (hv : u.vm = U.vm) (h : xN u) : xN U := by
  intro w hw
  have h1 := h w hw
  have h2 := xNest_ok w hw
  cases w <;> first | exact va_Nw.same rfl hv h1 | (exact absurd h2 (by simp [xNestOk]))
def xNcs : List (String × String) := [(xIO, xIA), (xIO, xIS), (xIA, xIO), (xIA, xIS), (xIS, xIO), (xIS, xIA)]
def xNc (U : State) : Prop := ∀ q ∈ xNcs, va_Nc q.1 q.2 U
def xStrs : List (String × Nat × String) := [(RX3, 34, "there are 10 places"), (RX3, 45, "a road leads to another place"), (RX3, 56, "a place has 4 exits"), (RX3, 210, "no such place"), (RX3, 216, "no such place or exit"), (RX3, 218, "a number is too small or too large"), (RX3, 220, "an errand goes on"), (RX3, 222, "no errand goes on")]
def xS (G : xG) (U : State) : Prop := ∀ (k : Nat) (q : String × Nat × String), xStrs[k]? = some q → vk_R q.1 q.2.1 q.2.2 (G.2.2 k) U
def xE (G : xG) (U : State) : Prop := va_K G.1 vwCl (xTy G) U ∧ xN U ∧ xNc U ∧ xS G U
theorem xE.warm {G : xG} {s U : State} (hW : s.WarmedH U.vm) (h : xE G s) : xE G U :=
  ⟨va_K.moved hW.alike h.1, h.2.1.warm hW, fun q hq => (h.2.2.1 q hq).moved hW.alike, fun k q hq => vk_R.warm hW (h.2.2.2 k q hq)⟩
theorem xE.same {G : xG} {u U : State} (hv : U.vm = u.vm) (h : xE G u) : xE G U :=
  ⟨va_K.moved (by rw [hv]; exact Vm.Alike.refl _) h.1, h.2.1.same hv.symm, fun q hq => (h.2.2.1 q hq).moved (by rw [hv]; exact Vm.Alike.refl _), fun k q hq => vk_R.same hv (h.2.2.2 k q hq)⟩
def xZ (A : Nat → Prop) (U : State) (H : Heap) : Prop := vx_Zq Bundle.tN "UNASSIGNED_STACK" Bundle.steD A U H ∧ vx_Zq Bundle.tN "SUPPRESSED_SENTINEL" Bundle.listD A U H
def xW (G : xG) (A : Nat → Prop) (H0 : Heap) (ws : va_W) (H : Heap) (locs : List Loc) : Prop := va_P G.1 vwCl ws H ∧ va_D A ws ∧ va_S A H0 H locs
def xPc (G : xG) (ws : va_W) (sz : Nat) (U : State) : Prop := U.heap.size = sz ∧ va_P G.1 vwCl ws U.heap ∧ va_D (fun _ => True) ws ∧ xE G U ∧ xZ (va_A ws sz) U U.heap
theorem xPc_blind {G : xG} {av : List Value} {ws : va_W} {sz : Nat} : FrameBlind (va_Pc av (xPc G ws sz)) := fun a U g mk h =>
  ⟨h.1, h.2.1, h.2.2.1, h.2.2.2.1, xE.same (u := U) rfl h.2.2.2.2.1, vx_Zq.moved (Vm.Alike.refl U.vm) h.2.2.2.2.2.1, vx_Zq.moved (Vm.Alike.refl U.vm) h.2.2.2.2.2.2⟩
theorem xpick {ws ws' : va_W} {is : List Nat} (h : is.map (fun i => ws[i]?) = ws'.map some) : is.filterMap (fun i => ws[i]?) = ws' := by
  have e : is.filterMap (fun i => ws[i]?) = (is.map (fun i => ws[i]?)).filterMap id := by rw [List.filterMap_map]; rfl
  rw [e, h, List.filterMap_map]
  simp
theorem xpick_lt {ws : va_W} : ∀ {is : List Nat}, is.all (fun i => decide (i < ws.length)) = true → is.map (fun i => ws[i]?) = (is.filterMap (fun i => ws[i]?)).map some
  | [], _ => rfl
  | i :: is, h => by
    simp only [List.all_cons, Bool.and_eq_true, decide_eq_true_eq] at h
    have h1 : ws[i]? = some ws[i] := List.getElem?_eq_getElem h.1
    rw [List.map_cons, List.filterMap_cons, h1]
    simp only [List.map_cons]
    rw [xpick_lt h.2]
def xC (p : Program) (s : State) (m : MethodId) (args : Array Value) (meth : Method) (c : Code) (cc : ByteArray) (nL : Nat) (own : String) (wds : List Cond) (ret : Option FieldType) (G : xG) (A : Nat → Prop) : Prop :=
  p.tables.exec = Jvm.exec ∧ c.code = cc ∧ c.maxLocals = nL ∧ s.vm.findClass own = some m.cls ∧ (∀ w ∈ wds, w.before args s = true) ∧ meth.sig.returnType = ret ∧ meth.locks = false ∧ xE G s ∧ xZ A s s.heap ∧ (∀ q, s.heap.size ≤ q → A q)
def xB {S : Type} (G : xG) (A : Nat → Prop) (wn : S → va_W) (u : S) (t : State) : Prop := va_P G.1 vwCl (wn u) t.heap ∧ va_D A (wn u)
abbrev xQi {S : Type} (G : xG) (ws : va_W) (sz : Nat) (post : Int32 → S → Prop) (wn : S → va_W) := va_Qi post (xB G (va_A ws sz) wn) (va_A ws sz)
abbrev xQl {S : Type} (G : xG) (ws : va_W) (sz : Nat) (post : Int64 → S → Prop) (wn : S → va_W) := va_Ql post (xB G (va_A ws sz) wn) (va_A ws sz)
abbrev xQd {S : Type} (G : xG) (ws : va_W) (sz : Nat) (post : UInt64 → S → Prop) (wn : S → va_W) := va_Qd post (xB G (va_A ws sz) wn) (va_A ws sz)
abbrev xQv {S : Type} (G : xG) (ws : va_W) (sz : Nat) (post : S → Prop) (wn : S → va_W) := va_Qv post (xB G (va_A ws sz) wn) (va_A ws sz)
/-- what a throw leaves: the class of it, the world as it was -/
abbrev xX (G : xG) (ws : va_W) (sz : Nat) (px : String → Prop) : String → State → State → Prop := vx_X (fun _ : Unit => True) (fun E _ t => px E ∧ va_P G.1 vwCl ws t.heap ∧ va_D (va_A ws sz) ws) (va_A ws sz)
/-- a contract of a method that returns -/
abbrev xM (l : Launch) (y : MethodName) (wds : List Cond) (rm : Room) (G : xG) (av : List Value) (ws : va_W) (sz : Nat) (Qc : Array Value → State → Outcome → State → Prop) : Prop := Met l y wds rm (va_Pc av (xPc G ws sz)) Qc rm.cells rm.slots (va_A ws sz)
/-- a contract of a method that returns or throws -/
abbrev xMX (l : Launch) (y : MethodName) (wds : List Cond) (rm : Room) (G : xG) (av : List Value) (ws : va_W) (sz : Nat) (Qc : Array Value → State → Outcome → State → Prop) (px : String → Prop) : Prop := vx_Met l y wds rm (va_Pc av (xPc G ws sz)) Qc (xX G ws sz px) rm.cells rm.slots (va_A ws sz)
theorem xof {l : Launch} {y : MethodName} {wds wds' : List Cond} {rm : Room} {G : xG} {av : List Value} {ws : va_W} {sz : Nat} {Qc : Array Value → State → Outcome → State → Prop} {own : String} {cc : ByteArray} {maxL : Nat} {ret : Option FieldType}
    (ho : y.cls = own) (hy : plainName y.cls = true) (hwd : wds = Cond.code y cc maxL ret :: wds') (hlen : (lg_sl av).length ≤ maxL)
    (body : ∀ (p : Program) (e : Env) (s : State) (m : MethodId) (below : List Frame) (meth : Method) (c : Code), xC p s m av.toArray meth c cc maxL own wds ret G (va_A ws sz) → meth.name = y.name → xW G (va_A ws sz) s.heap ws s.heap [] →
      ∀ ls, lv_has ls maxL (lv_args 0 av) → W p l e rm s m av.toArray below meth c s.heap [] 0 0 (MQ below Qc av.toArray s rm.cells rm.slots (va_A ws sz)) (F0 m 0 ls [])) :
    xM l y wds rm G av ws sz Qc := by
  subst ho
  refine Met.ofW (cc := cc) (maxL := maxL) (ret := ret) hy hwd ?_
  intro p e s m args below meth c s₁ B hml hv
  obtain ⟨rfl, hsz, hP, hD0, hE, hZ⟩ := hv
  have hl := lv_entry av (n := maxL) hlen
  rw [lg_entry_eq]
  generalize (lg_sl av ++ List.replicate (maxL - (lg_sl av).length) Slot.unset).toArray = ls at hl ⊢
  exact body p e s m below meth c ⟨B.exec, B.bytes, hml, findClass_of_methodNamed B.named, atoms_spec (ws := wds) B.pre, B.returns, B.notSynchronized, hE, hZ, fun q h => Or.inr (hsz ▸ h)⟩ (name_of_methodNamed B.named B.method).1 ⟨hP, hD0.self, va_S.rf⟩ ls hl
theorem xofX {l : Launch} {y : MethodName} {wds wds' : List Cond} {rm : Room} {G : xG} {av : List Value} {ws : va_W} {sz : Nat} {Qc : Array Value → State → Outcome → State → Prop} {px : String → Prop} {own : String} {cc : ByteArray} {maxL : Nat} {ret : Option FieldType}
    (ho : y.cls = own) (hy : plainName y.cls = true) (hwd : wds = Cond.code y cc maxL ret :: wds') (hlen : (lg_sl av).length ≤ maxL)
    (body : ∀ (p : Program) (e : Env) (s : State) (m : MethodId) (below : List Frame) (meth : Method) (c : Code), xC p s m av.toArray meth c cc maxL own wds ret G (va_A ws sz) → (∀ x ∈ c.exceptionTable.toList, False) → xW G (va_A ws sz) s.heap ws s.heap [] →
      ∀ ls, lv_has ls maxL (lv_args 0 av) → W p l e rm s m av.toArray below meth c s.heap [] 0 0 (vx_MQ below Qc (xX G ws sz px) av.toArray s rm.cells rm.slots (va_A ws sz)) (F0 m 0 ls [])) :
    xMX l y wds rm G av ws sz Qc px := by
  subst ho
  refine vx_ofW (cc := cc) (maxL := maxL) (ret := ret) hy hwd ?_
  intro p e s m args below meth c s₁ B hml hex hv
  obtain ⟨rfl, hsz, hP, hD0, hE, hZ⟩ := hv
  have hl := lv_entry av (n := maxL) hlen
  rw [lg_entry_eq]
  generalize (lg_sl av ++ List.replicate (maxL - (lg_sl av).length) Slot.unset).toArray = ls at hl ⊢
  exact body p e s m below meth c ⟨B.exec, B.bytes, hml, findClass_of_methodNamed B.named, atoms_spec (ws := wds) B.pre, B.returns, B.notSynchronized, hE, hZ, fun q h => Or.inr (hsz ▸ h)⟩ hex ⟨hP, hD0.self, va_S.rf⟩ ls hl
section XR
variable {p : Program} {l : Launch} {e : Env} {R : Room} {s : State} {m : MethodId} {args : Array Value} {below : List Frame} {meth : Method} {c : Code} {H : Heap} {locs : List Loc} {cells slots : Nat} {Q : State → Prop}
variable {cc : ByteArray} {nL : Nat} {own : String} {wds : List Cond} {ret : Option FieldType} {G : xG} {A : Nat → Prop} {ws : va_W} {pc : Nat} {ls : Array Slot} {st0 rest : List Value}
theorem xPcOf (hc : xC p s m args meth c cc nL own wds ret G A) (hw : xW G A s.heap ws H locs) {wc : va_W} (isC : List Nat) (hn : va_nd isC = true) (hC : isC.map (fun i => ws[i]?) = wc.map some) : ∀ U : State, U.heap = H → s.WarmedH U.vm → xPc G wc H.size U := by
  obtain ⟨hx, hb, hml, hown, hts, hr, hlk, hE, hZ, hA⟩ := hc
  obtain ⟨hP, hD, hS⟩ := hw
  have hF := va_free (wc := wc) hD hS hA isC hC
  intro U hU hW
  refine ⟨by rw [hU], by rw [hU]; exact hP.sub isC (xpick hC), (hD.sub isC hn hC).weaken (fun _ _ _ _ => trivial), hE.warm hW, ?_⟩
  rw [hU]
  exact ⟨((hZ.1.moved hW.alike).kept hS.2.1).narrow hF, ((hZ.2.moved hW.alike).kept hS.2.1).narrow hF⟩
theorem xsz (hc : xC p s m args meth c cc nL own wds ret G A) (hw : xW G A s.heap ws H locs) {wc : va_W} (isC : List Nat) (hC : isC.map (fun i => ws[i]?) = wc.map some) : ∀ q, va_A wc H.size q → A q := va_free hw.2.1 hw.2.2 hc.2.2.2.2.2.2.2.2.2 isC hC
section RUN
variable {wc : va_W} {y : MethodName} {bytes : ByteArray} {maxL n index : Nat} {ret' : Option FieldType} {wds' wds'' : List Cond} {rm : Room} {Qc : Array Value → State → Outcome → State → Prop} {px : String → Prop} {b : Addr} {As : List Value}
theorem xrunV {ci : Nat} {fs : List Value} {q : vw_C} (hc : xC p s m args meth c cc nL own wds ret G A) (hw : xW G A s.heap ws H locs) (isC : List Nat) (hM : xM l y wds' rm G (.ref b :: As) wc H.size Qc)
    (hT : GoodIn wds (wsV own index q.1 y wds')) (hwd : wds' = Cond.code y bytes maxL ret' :: wds'')
    (hd : y.cls = q.1 ∧ y.cls ≠ "java/lang/invoke/MethodHandle" ∧ y.cls ≠ "java/lang/invoke/VarHandle" ∧ (parseMethodDescriptor y.desc).map (fun d => d.parameters.length) = some n) (hR : rm.frames + 1 ≤ R.frames ∧ 8 + (maxL + 11) + rm.locals ≤ R.locals)
    (k0 : Nat) (hcl : vwCl[ci]? = some q) (he : ws[k0]? = some (b, .inr (ci, fs))) (hnn : va_nd isC = true) (hC : isC.map (fun i => ws[i]?) = wc.map some) (hn : As.length = n) (hst0 : st0 = As.reverse ++ .ref b :: rest) (hl : ls.size = nL) (hst : (rest.map fun v => v.category).sum ≤ 8) (hdg : decode cc pc = .ok (.invokevirtual index, 3)) (hf : cells + rm.cells ≤ R.cells ∧ slots + rm.slots ≤ R.slots) :
    va_Run p l e R s m args below meth c H locs cells slots rm.cells rm.slots (F0 m pc ls st0) rest (Qc (Value.ref b :: As).toArray) (va_A wc H.size) := by
  subst hst0
  exact va_runV ⟨hc.1, hc.2.1, hc.2.2.1, hc.2.2.2.1, hc.2.2.2.2.1⟩ hM (cwV n hc.2.2.2.2.1 hT hwd rfl rfl hd hR) ⟨xPc_blind, va_recv hc.2.2.2.2.2.2.2.1.1 hw.1 hcl he, fun U hU hW => ⟨rfl, xPcOf hc hw isC hnn hC U hU hW⟩⟩ rfl hn hl rfl (lv_room hst) hdg hf
theorem xrunS (hc : xC p s m args meth c cc nL own wds ret G A) (hw : xW G A s.heap ws H locs) (isC : List Nat) (hM : xM l y wds' rm G As wc H.size Qc)
    (hT : GoodIn wds (va_wsS own index y wds')) (hwd : wds' = Cond.code y bytes maxL ret' :: wds'')
    (hd : y.cls ≠ "java/lang/invoke/MethodHandle" ∧ y.cls ≠ "java/lang/invoke/VarHandle" ∧ (parseMethodDescriptor y.desc).map (fun d => d.parameters.length) = some n) (hR : rm.frames + 1 ≤ R.frames ∧ 8 + (maxL + 11) + rm.locals ≤ R.locals)
    (hnn : va_nd isC = true) (hC : isC.map (fun i => ws[i]?) = wc.map some) (hn : As.length = n) (hst0 : st0 = As.reverse ++ rest) (hl : ls.size = nL) (hst : (rest.map fun v => v.category).sum ≤ 8) (hdg : decode cc pc = .ok (.invokestatic index, 3)) (hf : cells + rm.cells ≤ R.cells ∧ slots + rm.slots ≤ R.slots) :
    va_Run p l e R s m args below meth c H locs cells slots rm.cells rm.slots (F0 m pc ls st0) rest (Qc As.toArray) (va_A wc H.size) := by
  subst hst0
  exact va_runS ⟨hc.1, hc.2.1, hc.2.2.1, hc.2.2.2.1, hc.2.2.2.2.1⟩ hM (va_cwS n hc.2.2.2.2.1 hT hwd rfl rfl hd hR) ⟨xPc_blind, fun U hU hW => ⟨rfl, xPcOf hc hw isC hnn hC U hU hW⟩⟩ rfl hn hl rfl (lv_room hst) hdg hf
theorem xrunSN {host : String} (hc : xC p s m args meth c cc nL own wds ret G A) (hw : xW G A s.heap ws H locs) (isC : List Nat) (hM : xM l y wds' rm G As wc H.size Qc)
    (hT : GoodIn wds wds') (hlk : Cond.methodLinkNest own index y host ∈ xNest) (hini : Cond.initialized y.cls ∈ wds) (hsta : Cond.static y ∈ wds) (hwd : wds' = Cond.code y bytes maxL ret' :: wds'')
    (hd : y.cls ≠ "java/lang/invoke/MethodHandle" ∧ y.cls ≠ "java/lang/invoke/VarHandle" ∧ (parseMethodDescriptor y.desc).map (fun d => d.parameters.length) = some n) (hR : rm.frames + 1 ≤ R.frames ∧ 8 + (maxL + 11) + rm.locals ≤ R.locals)
    (hnn : va_nd isC = true) (hC : isC.map (fun i => ws[i]?) = wc.map some) (hn : As.length = n) (hst0 : st0 = As.reverse ++ rest) (hl : ls.size = nL) (hst : (rest.map fun v => v.category).sum ≤ 8) (hdg : decode cc pc = .ok (.invokestatic index, 3)) (hf : cells + rm.cells ≤ R.cells ∧ slots + rm.slots ≤ R.slots) :
    va_Run p l e R s m args below meth c H locs cells slots rm.cells rm.slots (F0 m pc ls st0) rest (Qc As.toArray) (va_A wc H.size) := by
  subst hst0
  exact va_runSN ⟨hc.1, hc.2.1, hc.2.2.1, hc.2.2.2.1, hc.2.2.2.2.1⟩ hM ⟨va_cnB n hc.2.2.2.2.1 hT hwd rfl rfl (hc.2.2.2.2.2.2.2.1.2.1 _ hlk) (hc.2.2.2.2.1 _ hini) hd hR, hc.2.2.2.2.1 _ hsta, trivial⟩ ⟨xPc_blind, fun U hU hW => ⟨rfl, xPcOf hc hw isC hnn hC U hU hW⟩⟩ rfl hn hl rfl (lv_room hst) hdg hf
theorem xrunI (hc : xC p s m args meth c cc nL own wds ret G A) (hw : xW G A s.heap ws H locs) (isC : List Nat) (hM : xM l y wds' rm G (.ref b :: As) wc H.size Qc)
    (hT : GoodIn wds wds') (hini : Cond.initialized y.cls ∈ wds) (hlk : Cond.methodLink own index y ∈ wds) (hin : Cond.instanceMethod y ∈ wds) (hy1 : y.name = "<init>") (hwd : wds' = Cond.code y bytes maxL none :: wds'')
    (hd : y.cls ≠ "java/lang/invoke/MethodHandle" ∧ y.cls ≠ "java/lang/invoke/VarHandle" ∧ (parseMethodDescriptor y.desc).map (fun d => d.parameters.length) = some n) (hR : rm.frames + 1 ≤ R.frames ∧ 8 + (maxL + 11) + rm.locals ≤ R.locals)
    (hnn : va_nd isC = true) (hC : isC.map (fun i => ws[i]?) = wc.map some) (hn : As.length = n) (hst0 : st0 = As.reverse ++ .ref b :: rest) (hl : ls.size = nL) (hst : (rest.map fun v => v.category).sum ≤ 8) (hdg : decode cc pc = .ok (.invokespecial index, 3)) (hf : cells + rm.cells ≤ R.cells ∧ slots + rm.slots ≤ R.slots) :
    va_Run p l e R s m args below meth c H locs cells slots rm.cells rm.slots (F0 m pc ls st0) rest (Qc (Value.ref b :: As).toArray) (va_A wc H.size) := by
  subst hst0
  exact va_runI ⟨hc.1, hc.2.1, hc.2.2.1, hc.2.2.2.1, hc.2.2.2.2.1⟩ hM (cwI n hc.2.2.2.2.1 hT hwd rfl rfl (hc.2.2.2.2.1 _ hini) (hc.2.2.2.2.1 _ hlk) (hc.2.2.2.2.1 _ hin) hy1 hd hR) ⟨xPc_blind, fun U hU hW => ⟨rfl, xPcOf hc hw isC hnn hC U hU hW⟩⟩ rfl hn hl rfl (lv_room hst) hdg hf
theorem xrunIN {host : String} (hc : xC p s m args meth c cc nL own wds ret G A) (hw : xW G A s.heap ws H locs) (isC : List Nat) (hM : xM l y wds' rm G (.ref b :: As) wc H.size Qc)
    (hT : GoodIn wds wds') (hlk : Cond.methodLinkNest own index y host ∈ xNest) (hini : Cond.initialized y.cls ∈ wds) (hin : Cond.instanceMethod y ∈ wds) (hy1 : y.name = "<init>") (hwd : wds' = Cond.code y bytes maxL none :: wds'')
    (hd : y.cls ≠ "java/lang/invoke/MethodHandle" ∧ y.cls ≠ "java/lang/invoke/VarHandle" ∧ (parseMethodDescriptor y.desc).map (fun d => d.parameters.length) = some n) (hR : rm.frames + 1 ≤ R.frames ∧ 8 + (maxL + 11) + rm.locals ≤ R.locals)
    (hnn : va_nd isC = true) (hC : isC.map (fun i => ws[i]?) = wc.map some) (hn : As.length = n) (hst0 : st0 = As.reverse ++ .ref b :: rest) (hl : ls.size = nL) (hst : (rest.map fun v => v.category).sum ≤ 8) (hdg : decode cc pc = .ok (.invokespecial index, 3)) (hf : cells + rm.cells ≤ R.cells ∧ slots + rm.slots ≤ R.slots) :
    va_Run p l e R s m args below meth c H locs cells slots rm.cells rm.slots (F0 m pc ls st0) rest (Qc (Value.ref b :: As).toArray) (va_A wc H.size) := by
  subst hst0
  exact va_runIN ⟨hc.1, hc.2.1, hc.2.2.1, hc.2.2.2.1, hc.2.2.2.2.1⟩ hM ⟨va_cnB n hc.2.2.2.2.1 hT hwd rfl rfl (hc.2.2.2.2.2.2.2.1.2.1 _ hlk) (hc.2.2.2.2.1 _ hini) hd hR, hy1, hc.2.2.2.2.1 _ hin⟩ ⟨xPc_blind, fun U hU hW => ⟨rfl, xPcOf hc hw isC hnn hC U hU hW⟩⟩ rfl hn hl rfl (lv_room hst) hdg hf
/-- a call of a method that returns or throws -/
theorem xrunVX {ci : Nat} {fs : List Value} {q : vw_C} (hc : xC p s m args meth c cc nL own wds ret G A) (hw : xW G A s.heap ws H locs) (isC : List Nat) (hM : xMX l y wds' rm G (.ref b :: As) wc H.size Qc px)
    (hT : GoodIn wds (wsV own index q.1 y wds')) (hwd : wds' = Cond.code y bytes maxL ret' :: wds'')
    (hd : y.cls = q.1 ∧ y.cls ≠ "java/lang/invoke/MethodHandle" ∧ y.cls ≠ "java/lang/invoke/VarHandle" ∧ (parseMethodDescriptor y.desc).map (fun d => d.parameters.length) = some n) (hR : rm.frames + 1 ≤ R.frames ∧ 8 + (maxL + 11) + rm.locals ≤ R.locals)
    (k0 : Nat) (hcl : vwCl[ci]? = some q) (he : ws[k0]? = some (b, .inr (ci, fs))) (hnn : va_nd isC = true) (hC : isC.map (fun i => ws[i]?) = wc.map some) (hn : As.length = n) (hst0 : st0 = As.reverse ++ .ref b :: rest) (hl : ls.size = nL) (hst : (rest.map fun v => v.category).sum ≤ 8) (hdg : decode cc pc = .ok (.invokevirtual index, 3)) (hf : cells + rm.cells ≤ R.cells ∧ slots + rm.slots ≤ R.slots) :
    vx_Run p l e R s m args below meth c H locs cells slots rm.cells rm.slots (F0 m pc ls st0) rest (Qc (Value.ref b :: As).toArray) (xX G wc H.size px) (va_A wc H.size) := by
  subst hst0
  exact vx_runV ⟨hc.1, hc.2.1, hc.2.2.1, hc.2.2.2.1, hc.2.2.2.2.1⟩ hM (cwV n hc.2.2.2.2.1 hT hwd rfl rfl hd hR) ⟨xPc_blind, va_recv hc.2.2.2.2.2.2.2.1.1 hw.1 hcl he, fun U hU hW => ⟨rfl, xPcOf hc hw isC hnn hC U hU hW⟩⟩ rfl hn hl rfl (lv_room hst) hdg hf
end RUN
section CALL
variable {S : Type} {wn w2 : S → va_W} {wc : va_W} {mc ms : Nat} {av : Array Value} {isC isR isP : List Nat} {px : String → Prop}
/-- behind a call: the caller's other cells beside the callee's, in the order that the caller wants -/
theorem xjoin (hw : xW G A s.heap ws H locs) (hF : ∀ q, va_A wc H.size q → A q) (hC : isC.map (fun i => ws[i]?) = wc.map some) (hnR : va_nd isR = true) (hlt : isR.all (fun i => decide (i < ws.length)) = true) (hdis : isR.all (fun i => decide (i ∉ isC)) = true) (hnP : va_nd isP = true) {wn1 w3 : va_W}
    (hP2 : isP.map (fun i => (isR.filterMap (fun i => ws[i]?) ++ wn1)[i]?) = w3.map some) {H1 : Heap} (hk : ∀ q : Nat, q < H.size → ¬ va_A wc H.size q → H1[q]? = H[q]?) (hP1 : va_P G.1 vwCl wn1 H1) (hD1 : va_D (va_A wc H.size) wn1) : va_P G.1 vwCl w3 H1 ∧ va_D A w3 := by
  obtain ⟨h1, h2⟩ := va_join (wr := isR.filterMap (fun i => ws[i]?)) (w1 := wn1) hw.1 hw.2.1 isC isR hC (xpick_lt hlt) hnR (fun i hi => by have := List.all_eq_true.mp hdis i hi; simpa using this) hk hF hP1 hD1
  exact ⟨h1.sub isP (xpick hP2), h2.sub isP hnP hP2⟩
theorem xcall_i {post : Int32 → S → Prop} (hc : xC p s m args meth c cc nL own wds ret G A) (hw : xW G A s.heap ws H locs)
    (hr : va_Run p l e R s m args below meth c H locs cells slots mc ms (F0 m pc ls st0) rest (xQi G wc H.size post wn av) (va_A wc H.size)) (hC : isC.map (fun i => ws[i]?) = wc.map some) (isR isP : List Nat) (w2 : S → va_W) (hP2 : ∀ u, isP.map (fun i => (isR.filterMap (fun i => ws[i]?) ++ wn u)[i]?) = (w2 u).map some)
    (hnR : va_nd isR = true) (hlt : isR.all (fun i => decide (i < ws.length)) = true) (hdis : isR.all (fun i => decide (i ∉ isC)) = true) (hnP : va_nd isP = true)
    (kk : ∀ (r : Int32) (u : S) (H1 : Heap) (locs1 : List Loc), post r u → xW G A s.heap (w2 u) H1 locs1 → W p l e R s m args below meth c H1 locs1 (cells + mc) (slots + ms) Q (F0 m (pc + 3) ls (.int r :: rest))) : W p l e R s m args below meth c H locs cells slots Q (F0 m pc ls st0) := by
  have hF := xsz hc hw isC hC
  refine va_calli hr hw.2.2 (fun q _ h => hF q h) hF (fun r u t H1 locs1 ht hvm hp hB hz hk hS => ?_)
  obtain ⟨hP1, hD1⟩ := hB
  rw [ht] at hP1
  obtain ⟨g1, g2⟩ := xjoin hw hF hC hnR hlt hdis hnP (hP2 u) hk hP1 hD1
  exact kk r u H1 locs1 hp ⟨g1, g2, hS⟩
theorem xcall_l {post : Int64 → S → Prop} (hc : xC p s m args meth c cc nL own wds ret G A) (hw : xW G A s.heap ws H locs)
    (hr : va_Run p l e R s m args below meth c H locs cells slots mc ms (F0 m pc ls st0) rest (xQl G wc H.size post wn av) (va_A wc H.size)) (hC : isC.map (fun i => ws[i]?) = wc.map some) (isR isP : List Nat) (w2 : S → va_W) (hP2 : ∀ u, isP.map (fun i => (isR.filterMap (fun i => ws[i]?) ++ wn u)[i]?) = (w2 u).map some)
    (hnR : va_nd isR = true) (hlt : isR.all (fun i => decide (i < ws.length)) = true) (hdis : isR.all (fun i => decide (i ∉ isC)) = true) (hnP : va_nd isP = true)
    (kk : ∀ (r : Int64) (u : S) (H1 : Heap) (locs1 : List Loc), post r u → xW G A s.heap (w2 u) H1 locs1 → W p l e R s m args below meth c H1 locs1 (cells + mc) (slots + ms) Q (F0 m (pc + 3) ls (.long r :: rest))) : W p l e R s m args below meth c H locs cells slots Q (F0 m pc ls st0) := by
  have hF := xsz hc hw isC hC
  refine va_calll hr hw.2.2 (fun q _ h => hF q h) hF (fun r u t H1 locs1 ht hvm hp hB hz hk hS => ?_)
  obtain ⟨hP1, hD1⟩ := hB
  rw [ht] at hP1
  obtain ⟨g1, g2⟩ := xjoin hw hF hC hnR hlt hdis hnP (hP2 u) hk hP1 hD1
  exact kk r u H1 locs1 hp ⟨g1, g2, hS⟩
theorem xcall_v {post : S → Prop} (hc : xC p s m args meth c cc nL own wds ret G A) (hw : xW G A s.heap ws H locs)
    (hr : va_Run p l e R s m args below meth c H locs cells slots mc ms (F0 m pc ls st0) rest (xQv G wc H.size post wn av) (va_A wc H.size)) (hC : isC.map (fun i => ws[i]?) = wc.map some) (isR isP : List Nat) (w2 : S → va_W) (hP2 : ∀ u, isP.map (fun i => (isR.filterMap (fun i => ws[i]?) ++ wn u)[i]?) = (w2 u).map some)
    (hnR : va_nd isR = true) (hlt : isR.all (fun i => decide (i < ws.length)) = true) (hdis : isR.all (fun i => decide (i ∉ isC)) = true) (hnP : va_nd isP = true)
    (kk : ∀ (u : S) (H1 : Heap) (locs1 : List Loc), post u → xW G A s.heap (w2 u) H1 locs1 → W p l e R s m args below meth c H1 locs1 (cells + mc) (slots + ms) Q (F0 m (pc + 3) ls rest)) : W p l e R s m args below meth c H locs cells slots Q (F0 m pc ls st0) := by
  have hF := xsz hc hw isC hC
  refine va_callv hr hw.2.2 (fun q _ h => hF q h) hF (fun u t H1 locs1 ht hvm hp hB hz hk hS => ?_)
  obtain ⟨hP1, hD1⟩ := hB
  rw [ht] at hP1
  obtain ⟨g1, g2⟩ := xjoin hw hF hC hnR hlt hdis hnP (hP2 u) hk hP1 hD1
  exact kk u H1 locs1 hp ⟨g1, g2, hS⟩
/-- a call of a method that may throw: its throw goes on with the world as it was (w3) -/
theorem xcallX_i {post : Int32 → S → Prop} (hc : xC p s m args meth c cc nL own wds ret G A) (hw : xW G A s.heap ws H locs)
    (hr : vx_Run p l e R s m args below meth c H locs cells slots mc ms (F0 m pc ls st0) rest (xQi G wc H.size post wn av) (xX G wc H.size px) (va_A wc H.size)) (hC : isC.map (fun i => ws[i]?) = wc.map some) (isR isP isX : List Nat) (w2 : S → va_W) (hP2 : ∀ u, isP.map (fun i => (isR.filterMap (fun i => ws[i]?) ++ wn u)[i]?) = (w2 u).map some) (hPX : isX.map (fun i => (isR.filterMap (fun i => ws[i]?) ++ wc)[i]?) = ws.map some)
    (hnR : va_nd isR = true) (hlt : isR.all (fun i => decide (i < ws.length)) = true) (hdis : isR.all (fun i => decide (i ∉ isC)) = true) (hnP : va_nd isP = true) (hnX : va_nd isX = true)
    (kx : ∀ (E : String) (ce : Cell) (q9 : Addr) (H1 : Heap) (locs1 : List Loc), px E → xW G A s.heap ws H1 locs1 → H1[q9]? = some ce → ce.vm = .none → s.vm.findClass E = some ce.cls → vx_W p l e R s m args below meth c H1 locs1 (cells + mc) (slots + ms) Q (F0 m pc ls rest) q9)
    (kk : ∀ (r : Int32) (u : S) (H1 : Heap) (locs1 : List Loc), post r u → xW G A s.heap (w2 u) H1 locs1 → W p l e R s m args below meth c H1 locs1 (cells + mc) (slots + ms) Q (F0 m (pc + 3) ls (.int r :: rest))) : W p l e R s m args below meth c H locs cells slots Q (F0 m pc ls st0) := by
  have hF := xsz hc hw isC hC
  refine vx_calli hr hw.2.2 (fun q _ h => hF q h) hF (fun q _ h => hF q h) (fun E ce q9 u t H1 locs1 ht hvm _ hB hz hk hS h9 hv9 hc9 => ?_) (fun r u t H1 locs1 ht hvm hp hB hz hk hS => ?_)
  · obtain ⟨hpx, hP1, hD1⟩ := hB
    rw [ht] at hP1
    obtain ⟨g1, g2⟩ := xjoin hw hF hC hnR hlt hdis hnX hPX hk hP1 hD1
    exact kx E ce q9 H1 locs1 hpx ⟨g1, g2, hS⟩ h9 hv9 hc9
  · obtain ⟨hP1, hD1⟩ := hB
    rw [ht] at hP1
    obtain ⟨g1, g2⟩ := xjoin hw hF hC hnR hlt hdis hnP (hP2 u) hk hP1 hD1
    exact kk r u H1 locs1 hp ⟨g1, g2, hS⟩
theorem xcallX_v {post : S → Prop} (hc : xC p s m args meth c cc nL own wds ret G A) (hw : xW G A s.heap ws H locs)
    (hr : vx_Run p l e R s m args below meth c H locs cells slots mc ms (F0 m pc ls st0) rest (xQv G wc H.size post wn av) (xX G wc H.size px) (va_A wc H.size)) (hC : isC.map (fun i => ws[i]?) = wc.map some) (isR isP isX : List Nat) (w2 : S → va_W) (hP2 : ∀ u, isP.map (fun i => (isR.filterMap (fun i => ws[i]?) ++ wn u)[i]?) = (w2 u).map some) (hPX : isX.map (fun i => (isR.filterMap (fun i => ws[i]?) ++ wc)[i]?) = ws.map some)
    (hnR : va_nd isR = true) (hlt : isR.all (fun i => decide (i < ws.length)) = true) (hdis : isR.all (fun i => decide (i ∉ isC)) = true) (hnP : va_nd isP = true) (hnX : va_nd isX = true)
    (kx : ∀ (E : String) (ce : Cell) (q9 : Addr) (H1 : Heap) (locs1 : List Loc), px E → xW G A s.heap ws H1 locs1 → H1[q9]? = some ce → ce.vm = .none → s.vm.findClass E = some ce.cls → vx_W p l e R s m args below meth c H1 locs1 (cells + mc) (slots + ms) Q (F0 m pc ls rest) q9)
    (kk : ∀ (u : S) (H1 : Heap) (locs1 : List Loc), post u → xW G A s.heap (w2 u) H1 locs1 → W p l e R s m args below meth c H1 locs1 (cells + mc) (slots + ms) Q (F0 m (pc + 3) ls rest)) : W p l e R s m args below meth c H locs cells slots Q (F0 m pc ls st0) := by
  have hF := xsz hc hw isC hC
  refine vx_callv hr hw.2.2 (fun q _ h => hF q h) hF (fun q _ h => hF q h) (fun E ce q9 u t H1 locs1 ht hvm _ hB hz hk hS h9 hv9 hc9 => ?_) (fun u t H1 locs1 ht hvm hp hB hz hk hS => ?_)
  · obtain ⟨hpx, hP1, hD1⟩ := hB
    rw [ht] at hP1
    obtain ⟨g1, g2⟩ := xjoin hw hF hC hnR hlt hdis hnX hPX hk hP1 hD1
    exact kx E ce q9 H1 locs1 hpx ⟨g1, g2, hS⟩ h9 hv9 hc9
  · obtain ⟨hP1, hD1⟩ := hB
    rw [ht] at hP1
    obtain ⟨g1, g2⟩ := xjoin hw hF hC hnR hlt hdis hnP (hP2 u) hk hP1 hD1
    exact kk u H1 locs1 hp ⟨g1, g2, hS⟩
end CALL
section END
variable {S : Type} {wn : S → va_W} {w0 : va_W} {sz mc ms : Nat} {px : String → Prop}
theorem xret_i {post : Int32 → S → Prop} {r : Int32} (u : S) (hc : xC p s m args meth c cc nL own wds (some .int) G (va_A w0 sz)) (hw : xW G (va_A w0 sz) s.heap (wn u) H locs) (hp : post r u) (hm : cells ≤ mc ∧ slots ≤ ms) (hdg : decode cc pc = .ok (.ireturn, 1)) :
    W p l e R s m args below meth c H locs cells slots (MQ below (xQi G w0 sz post wn) args s mc ms (va_A w0 sz)) (F0 m pc ls [.int r]) :=
  W.widen hm.1 hm.2 (W.iret hc.1 hc.2.1 hc.2.2.2.2.2.1 (fun t ht hW => ⟨⟨r, u, rfl, hp, by rw [ht]; exact hw.1, hw.2.1⟩, hw.2.2.F ht⟩) hw.2.2.2.2 hdg hc.2.2.2.2.2.2.1)
theorem xret_z {post : Int32 → S → Prop} {r : Int32} (u : S) (hc : xC p s m args meth c cc nL own wds (some .boolean) G (va_A w0 sz)) (hw : xW G (va_A w0 sz) s.heap (wn u) H locs) (hz : narrow .boolean (.int r) = .int r) (hp : post r u) (hm : cells ≤ mc ∧ slots ≤ ms) (hdg : decode cc pc = .ok (.ireturn, 1)) :
    W p l e R s m args below meth c H locs cells slots (MQ below (xQi G w0 sz post wn) args s mc ms (va_A w0 sz)) (F0 m pc ls [.int r]) :=
  W.widen hm.1 hm.2 (W.zret hc.1 hc.2.1 hc.2.2.2.2.2.1 hz (fun t ht hW => ⟨⟨r, u, rfl, hp, by rw [ht]; exact hw.1, hw.2.1⟩, hw.2.2.F ht⟩) hw.2.2.2.2 hdg hc.2.2.2.2.2.2.1)
theorem xret_l {post : Int64 → S → Prop} {r : Int64} (u : S) (hc : xC p s m args meth c cc nL own wds (some .long) G (va_A w0 sz)) (hw : xW G (va_A w0 sz) s.heap (wn u) H locs) (hp : post r u) (hm : cells ≤ mc ∧ slots ≤ ms) (hdg : decode cc pc = .ok (.lreturn, 1)) :
    W p l e R s m args below meth c H locs cells slots (MQ below (xQl G w0 sz post wn) args s mc ms (va_A w0 sz)) (F0 m pc ls [.long r]) :=
  W.widen hm.1 hm.2 (W.lret hc.1 hc.2.1 hc.2.2.2.2.2.1 (fun t ht hW => ⟨⟨r, u, rfl, hp, by rw [ht]; exact hw.1, hw.2.1⟩, hw.2.2.F ht⟩) hw.2.2.2.2 hdg hc.2.2.2.2.2.2.1)
theorem xret_v {post : S → Prop} (u : S) (hc : xC p s m args meth c cc nL own wds none G (va_A w0 sz)) (hw : xW G (va_A w0 sz) s.heap (wn u) H locs) (hp : post u) (hm : cells ≤ mc ∧ slots ≤ ms) (hdg : decode cc pc = .ok (.return_, 1)) :
    W p l e R s m args below meth c H locs cells slots (MQ below (xQv G w0 sz post wn) args s mc ms (va_A w0 sz)) (F0 m pc ls []) :=
  W.widen hm.1 hm.2 (W.vret hc.1 hc.2.1 hc.2.2.2.2.2.1 (fun t ht hW => ⟨⟨u, rfl, hp, by rw [ht]; exact hw.1, hw.2.1⟩, hw.2.2.F ht⟩) hw.2.2.2.2 hdg hc.2.2.2.2.2.2.1)
/-- a throw that isn't caught here goes on -/
theorem xout {Qc : Array Value → State → Outcome → State → Prop} {E : String} {ce : Cell} {q9 : Addr} (hc : xC p s m args meth c cc nL own wds ret G (va_A w0 sz)) (hex : ∀ x ∈ c.exceptionTable.toList, False) (hw : xW G (va_A w0 sz) s.heap w0 H locs) (hpx : px E) (h9 : H[q9]? = some ce) (hv : ce.vm = .none) (hcl : s.vm.findClass E = some ce.cls) (hm : cells ≤ mc ∧ slots ≤ ms) :
    vx_W p l e R s m args below meth c H locs cells slots (vx_MQ below Qc (xX G w0 sz px) args s mc ms (va_A w0 sz)) (F0 m pc ls rest) q9 :=
  vx_out (fun x hx => (hex x hx).elim) hc.2.2.2.2.2.2.1 h9 hv hcl (fun t ht hvm => ⟨(), trivial, ⟨hpx, by rw [ht]; exact hw.1, hw.2.1⟩, hw.2.2.F ht⟩) hw.2.2.2.2 hm.1 hm.2
end END
section ROW
variable {a : Nat} {D : va_G}
theorem xget {C : String} {T : u_T} {N ci index : Nat} {fs : List Value} {v : Value} (hc : xC p s m args meth c cc nL own wds ret G A) (hw : xW G A s.heap ws H locs) (hin : ∀ w ∈ u_ws C T N, w ∈ wds) (q0 : Nat) (he : ws[q0]? = some (a, .inr (ci, fs))) (hcl : vwCl[ci]? = some (C, T, N)) (k : Nat) (hk : k < N) {ref : String} (hlink : Cond.fieldLink own index ref (T k).2.1 (T k).2.2.1 ∈ wds) (hdecl : (T k).1 = ref) (hv : fs[k]? = some v) (hdg : decode cc pc = .ok (.getfield index, 3))
    (kk : W p l e R s m args below meth c H locs cells slots Q (F0 m (pc + 3) ls (v :: rest))) : W p l e R s m args below meth c H locs cells slots Q (F0 m pc ls (.ref a :: rest)) :=
  va_get hc.1 hc.2.1 hc.2.2.2.2.1 hin hc.2.2.2.1 hc.2.2.2.2.2.2.2.1.1 hw.1 q0 he hcl k hk (hc.2.2.2.2.1 _ hlink) (fun x h => by rw [← hdecl]; exact h) hv hdg kk
theorem xgetN {C host : String} {T : u_T} {N ci index : Nat} {fs : List Value} {v : Value} (hc : xC p s m args meth c cc nL own wds ret G A) (hw : xW G A s.heap ws H locs) (hin : ∀ w ∈ u_ws C T N, w ∈ wds) (q0 : Nat) (he : ws[q0]? = some (a, .inr (ci, fs))) (hcl : vwCl[ci]? = some (C, T, N)) (k : Nat) (hk : k < N) {ref : String} (hlink : Cond.fieldLinkNest own index ref (T k).2.1 (T k).2.2.1 host ∈ xNest) (hdecl : (T k).1 = ref) (hv : fs[k]? = some v) (hdg : decode cc pc = .ok (.getfield index, 3))
    (kk : W p l e R s m args below meth c H locs cells slots Q (F0 m (pc + 3) ls (v :: rest))) : W p l e R s m args below meth c H locs cells slots Q (F0 m pc ls (.ref a :: rest)) :=
  va_getN hc.1 hc.2.1 hc.2.2.2.2.1 hin hc.2.2.2.1 hc.2.2.2.2.2.2.2.1.1 hw.1 q0 he hcl k hk ((hc.2.2.2.2.2.2.2.1.2.1 _ hlink).use rfl) (fun x h => by rw [← hdecl]; exact h) hv hdg kk
theorem xput {C : String} {T : u_T} {N ci index : Nat} {fs : List Value} {v : Value} {ty : FieldType} (hc : xC p s m args meth c cc nL own wds ret G A) (hw : xW G A s.heap ws H locs) (hin : ∀ w ∈ u_ws C T N, w ∈ wds) (ty0 : Nat → FieldType) (hty : ∀ k, k < N → parseFieldDescriptor (T k).2.2.1 = some (ty0 k)) (hnm : ∀ a, a < N → ∀ b, b < N → a ≠ b → (T a).2.1 ≠ (T b).2.1) (q0 : Nat) (w2 : va_W) (he : ws[q0]? = some (a, .inr (ci, fs))) (hcl : vwCl[ci]? = some (C, T, N)) (k : Nat) (hk : k < N) {ref : String} (hlink : Cond.fieldLink own index ref (T k).2.1 (T k).2.2.1 ∈ wds) (hdecl : (T k).1 = ref) (hfin : (T k).2.2.2 = false) (hn : narrow (ty0 k) v = v) (hfit : fits (ty0 k) v = true) (hl : k < fs.length) (h2 : ws.set q0 (a, .inr (ci, fs.set k v)) = w2) (hdg : decode cc pc = .ok (.putfield index, 3))
    (kk : ∀ (H1 : Heap) (locs1 : List Loc), xW G A s.heap w2 H1 locs1 → W p l e R s m args below meth c H1 locs1 cells slots Q (F0 m (pc + 3) ls rest)) : W p l e R s m args below meth c H locs cells slots Q (F0 m pc ls (v :: .ref a :: rest)) := by
  subst h2
  exact va_put hc.1 hc.2.1 hc.2.2.2.2.1 hin ty0 hty hnm hc.2.2.2.1 hc.2.2.2.2.2.2.2.1.1 hw.1 hw.2.1 hw.2.2 q0 he hcl k hk (hc.2.2.2.2.1 _ hlink) (fun x h => by rw [← hdecl]; exact h) hfin (hty k hk) hn hfit hl hdg (fun H1 locs1 h1 h2 h3 => kk H1 locs1 ⟨h1, h2, h3⟩)
theorem xputN {C host : String} {T : u_T} {N ci index : Nat} {fs : List Value} {v : Value} {ty : FieldType} (hc : xC p s m args meth c cc nL own wds ret G A) (hw : xW G A s.heap ws H locs) (hin : ∀ w ∈ u_ws C T N, w ∈ wds) (ty0 : Nat → FieldType) (hty : ∀ k, k < N → parseFieldDescriptor (T k).2.2.1 = some (ty0 k)) (hnm : ∀ a, a < N → ∀ b, b < N → a ≠ b → (T a).2.1 ≠ (T b).2.1) (q0 : Nat) (w2 : va_W) (he : ws[q0]? = some (a, .inr (ci, fs))) (hcl : vwCl[ci]? = some (C, T, N)) (k : Nat) (hk : k < N) {ref : String} (hlink : Cond.fieldLinkNest own index ref (T k).2.1 (T k).2.2.1 host ∈ xNest) (hdecl : (T k).1 = ref) (hfin : (T k).2.2.2 = false) (hn : narrow (ty0 k) v = v) (hfit : fits (ty0 k) v = true) (hl : k < fs.length) (h2 : ws.set q0 (a, .inr (ci, fs.set k v)) = w2) (hdg : decode cc pc = .ok (.putfield index, 3))
    (kk : ∀ (H1 : Heap) (locs1 : List Loc), xW G A s.heap w2 H1 locs1 → W p l e R s m args below meth c H1 locs1 cells slots Q (F0 m (pc + 3) ls rest)) : W p l e R s m args below meth c H locs cells slots Q (F0 m pc ls (v :: .ref a :: rest)) := by
  subst h2
  exact va_putN hc.1 hc.2.1 hc.2.2.2.2.1 hin ty0 hty hnm hc.2.2.2.1 hc.2.2.2.2.2.2.2.1.1 hw.1 hw.2.1 hw.2.2 q0 he hcl k hk ((hc.2.2.2.2.2.2.2.1.2.1 _ hlink).use rfl) (fun x h => by rw [← hdecl]; exact h) hfin (hty k hk) hn hfit hl hdg (fun H1 locs1 h1 h2 h3 => kk H1 locs1 ⟨h1, h2, h3⟩)
theorem xputF {C : String} {T : u_T} {N ci index : Nat} {fs : List Value} {v : Value} {ty : FieldType} (hc : xC p s m args meth c cc nL own wds ret G A) (hw : xW G A s.heap ws H locs) (hin : ∀ w ∈ u_ws C T N, w ∈ wds) (ty0 : Nat → FieldType) (hty : ∀ k, k < N → parseFieldDescriptor (T k).2.2.1 = some (ty0 k)) (hnm : ∀ a, a < N → ∀ b, b < N → a ≠ b → (T a).2.1 ≠ (T b).2.1) (q0 : Nat) (w2 : va_W) (he : ws[q0]? = some (a, .inr (ci, fs))) (hcl : vwCl[ci]? = some (C, T, N)) (k : Nat) (hk : k < N) {ref : String} (hlink : Cond.fieldLink own index ref (T k).2.1 (T k).2.2.1 ∈ wds) (hdecl : (T k).1 = ref) (hfin : (T k).2.2.2 = true) (hin2 : meth.name = "<init>") (hdecl2 : (T k).1 = own) (hn : narrow (ty0 k) v = v) (hfit : fits (ty0 k) v = true) (hl : k < fs.length) (h2 : ws.set q0 (a, .inr (ci, fs.set k v)) = w2) (hdg : decode cc pc = .ok (.putfield index, 3))
    (kk : ∀ (H1 : Heap) (locs1 : List Loc), xW G A s.heap w2 H1 locs1 → W p l e R s m args below meth c H1 locs1 cells slots Q (F0 m (pc + 3) ls rest)) : W p l e R s m args below meth c H locs cells slots Q (F0 m pc ls (v :: .ref a :: rest)) := by
  subst h2
  exact va_putF hc.1 hc.2.1 hc.2.2.2.2.1 hin ty0 hty hnm hc.2.2.2.1 hc.2.2.2.2.2.2.2.1.1 hw.1 hw.2.1 hw.2.2 q0 he hcl k hk (hc.2.2.2.2.1 _ hlink) (fun x h => by rw [← hdecl]; exact h) hfin hin2 hdecl2 (hty k hk) hn hfit hl hdg (fun H1 locs1 h1 h2 h3 => kk H1 locs1 ⟨h1, h2, h3⟩)
theorem xiald (hc : xC p s m args meth c cc nL own wds ret G A) (hw : xW G A s.heap ws H locs) (q0 : Nat) {n : Nat} {f : Nat → Int32} {i : Int32} (ha : ws[q0]? = some (a, .inl (G.2.1.1, n, .inl f))) (hin : vp_in i n) (hdg : decode cc pc = .ok (.iaload, 1))
    (kk : W p l e R s m args below meth c H locs cells slots Q (F0 m (pc + 1) ls (.int (f i.toNatClampNeg) :: rest))) : W p l e R s m args below meth c H locs cells slots Q (F0 m pc ls (.int i :: .ref a :: rest)) :=
  va_iald hc.1 hc.2.1 hc.2.2.2.2.2.2.2.1.1 hw.1 q0 0 ha rfl hin hdg kk
theorem xzald (hc : xC p s m args meth c cc nL own wds ret G A) (hw : xW G A s.heap ws H locs) (q0 : Nat) {n : Nat} {f : Nat → Int32} {i : Int32} (ha : ws[q0]? = some (a, .inl (G.2.1.2.1, n, .inl f))) (hin : vp_in i n) (hdg : decode cc pc = .ok (.baload, 1))
    (kk : W p l e R s m args below meth c H locs cells slots Q (F0 m (pc + 1) ls (.int (f i.toNatClampNeg) :: rest))) : W p l e R s m args below meth c H locs cells slots Q (F0 m pc ls (.int i :: .ref a :: rest)) :=
  va_zald hc.1 hc.2.1 hc.2.2.2.2.2.2.2.1.1 hw.1 q0 1 ha rfl hin hdg kk
theorem xlald (hc : xC p s m args meth c cc nL own wds ret G A) (hw : xW G A s.heap ws H locs) (q0 : Nat) {n : Nat} {f : Nat → Int64} {i : Int32} (ha : ws[q0]? = some (a, .inl (G.2.1.2.2, n, .inr (.inl f)))) (hin : vp_in i n) (hdg : decode cc pc = .ok (.laload, 1))
    (kk : W p l e R s m args below meth c H locs cells slots Q (F0 m (pc + 1) ls (.long (f i.toNatClampNeg) :: rest))) : W p l e R s m args below meth c H locs cells slots Q (F0 m pc ls (.int i :: .ref a :: rest)) :=
  va_lald hc.1 hc.2.1 hc.2.2.2.2.2.2.2.1.1 hw.1 q0 2 ha rfl hin hdg kk
theorem xiast (hc : xC p s m args meth c cc nL own wds ret G A) (hw : xW G A s.heap ws H locs) (q0 : Nat) (w2 : va_W) {n : Nat} {f : Nat → Int32} {i x : Int32} (ha : ws[q0]? = some (a, .inl (G.2.1.1, n, .inl f))) (hin : vp_in i n) (h2 : ws.set q0 (a, .inl (G.2.1.1, n, .inl (upd f i.toNatClampNeg x))) = w2) (hdg : decode cc pc = .ok (.iastore, 1))
    (kk : ∀ (H1 : Heap) (locs1 : List Loc), xW G A s.heap w2 H1 locs1 → W p l e R s m args below meth c H1 locs1 cells slots Q (F0 m (pc + 1) ls rest)) : W p l e R s m args below meth c H locs cells slots Q (F0 m pc ls (.int x :: .int i :: .ref a :: rest)) := by
  subst h2
  exact va_iast hc.1 hc.2.1 hc.2.2.2.2.2.2.2.1.1 hw.1 hw.2.1 hw.2.2 q0 0 ha rfl hin hdg (fun H1 locs1 h1 h2 h3 => kk H1 locs1 ⟨h1, h2, h3⟩)
theorem xzast (hc : xC p s m args meth c cc nL own wds ret G A) (hw : xW G A s.heap ws H locs) (q0 : Nat) (w2 : va_W) {n : Nat} {f : Nat → Int32} {i x : Int32} (ha : ws[q0]? = some (a, .inl (G.2.1.2.1, n, .inl f))) (hin : vp_in i n) (hx : vp_nar .boolean x = x) (h2 : ws.set q0 (a, .inl (G.2.1.2.1, n, .inl (upd f i.toNatClampNeg x))) = w2) (hdg : decode cc pc = .ok (.bastore, 1))
    (kk : ∀ (H1 : Heap) (locs1 : List Loc), xW G A s.heap w2 H1 locs1 → W p l e R s m args below meth c H1 locs1 cells slots Q (F0 m (pc + 1) ls rest)) : W p l e R s m args below meth c H locs cells slots Q (F0 m pc ls (.int x :: .int i :: .ref a :: rest)) := by
  subst h2
  refine va_zast hc.1 hc.2.1 hc.2.2.2.2.2.2.2.1.1 hw.1 hw.2.1 hw.2.2 q0 1 ha rfl hin hdg (fun H1 locs1 h1 h2 h3 => ?_)
  rw [hx] at h1 h2
  exact kk H1 locs1 ⟨h1, h2, h3⟩
theorem xlast (hc : xC p s m args meth c cc nL own wds ret G A) (hw : xW G A s.heap ws H locs) (q0 : Nat) (w2 : va_W) {n : Nat} {f : Nat → Int64} {i : Int32} {x : Int64} (ha : ws[q0]? = some (a, .inl (G.2.1.2.2, n, .inr (.inl f)))) (hin : vp_in i n) (h2 : ws.set q0 (a, .inl (G.2.1.2.2, n, .inr (.inl (vp_updL f i.toNatClampNeg x)))) = w2) (hdg : decode cc pc = .ok (.lastore, 1))
    (kk : ∀ (H1 : Heap) (locs1 : List Loc), xW G A s.heap w2 H1 locs1 → W p l e R s m args below meth c H1 locs1 cells slots Q (F0 m (pc + 1) ls rest)) : W p l e R s m args below meth c H locs cells slots Q (F0 m pc ls (.long x :: .int i :: .ref a :: rest)) := by
  subst h2
  exact va_last hc.1 hc.2.1 hc.2.2.2.2.2.2.2.1.1 hw.1 hw.2.1 hw.2.2 q0 2 ha rfl hin hdg (fun H1 locs1 h1 h2 h3 => kk H1 locs1 ⟨h1, h2, h3⟩)
theorem xalenI (hc : xC p s m args meth c cc nL own wds ret G A) (hw : xW G A s.heap ws H locs) (q0 : Nat) {x : vp_A} {v : Int32} (ha : ws[q0]? = some (a, .inl (G.2.1.1, x))) (hv : Int32.ofNat x.1 = v) (hdg : decode cc pc = .ok (.arraylength, 1))
    (kk : W p l e R s m args below meth c H locs cells slots Q (F0 m (pc + 1) ls (.int v :: rest))) : W p l e R s m args below meth c H locs cells slots Q (F0 m pc ls (.ref a :: rest)) :=
  va_alen hc.1 hc.2.1 hc.2.2.2.2.2.2.2.1.1 hw.1 q0 0 ha (ty := .int) rfl hv hdg kk
theorem xalenZ (hc : xC p s m args meth c cc nL own wds ret G A) (hw : xW G A s.heap ws H locs) (q0 : Nat) {x : vp_A} {v : Int32} (ha : ws[q0]? = some (a, .inl (G.2.1.2.1, x))) (hv : Int32.ofNat x.1 = v) (hdg : decode cc pc = .ok (.arraylength, 1))
    (kk : W p l e R s m args below meth c H locs cells slots Q (F0 m (pc + 1) ls (.int v :: rest))) : W p l e R s m args below meth c H locs cells slots Q (F0 m pc ls (.ref a :: rest)) :=
  va_alen hc.1 hc.2.1 hc.2.2.2.2.2.2.2.1.1 hw.1 q0 1 ha (ty := .boolean) rfl hv hdg kk
end ROW
end XR
end
section
/-! small rows: what a method's function says of its answer and its world; counters; throws; new objects and rows -/
theorem xe2 {α β : Type} {f : α × β} {a : α} {b : β} (h : f = (a, b)) : a = f.1 ∧ b = f.2 := by rw [h]; exact ⟨rfl, rfl⟩
theorem xe1 {β : Type} {f : Nat × β} {b : β} (h : f = (0, b)) : f.1 = 0 := by rw [h]
theorem xe2r {β : Type} {f : Nat × β} {b : β} (h : f = (0, b)) : f.1 = 0 ∧ b = f.2 := by rw [h]; exact ⟨rfl, rfl⟩
theorem xe2u {β : Type} {f : Nat × β} {b : β} (h : f = (0, b)) : f.1 = 0 ∧ b = f.2 := by rw [h]; exact ⟨rfl, rfl⟩
theorem xe3 {α β : Type} {f : Nat × α × β} {a : α} {b : β} (h : f = (0, a, b)) : f.1 = 0 ∧ a = f.2.1 ∧ b = f.2.2 := by rw [h]; exact ⟨rfl, rfl, rfl⟩
theorem xtr1 {α : Type} {a b r : α} (h : a = b) (e : r = b) : r = a := e.trans h.symm
theorem xtr2 {α β : Type} {a b : α × β} {r : α} {u : β} (h : a = b) (e : r = b.1 ∧ u = b.2) : r = a.1 ∧ u = a.2 := by rw [h]; exact e
theorem xle (a b : Int32) : a ≤ b ↔ a.toInt ≤ b.toInt := Int32.le_iff_toInt_le
theorem xltI (a b : Int32) : a < b ↔ a.toInt < b.toInt := Int32.lt_iff_toInt_lt
theorem xeqI (a b : Int32) : a = b ↔ a.toInt = b.toInt := Int32.toInt_inj.symm
theorem xmax (B : Int32) : B.toInt < 2 ^ 31 := Int32.toInt_lt B
/-- a counter below its bound -/
theorem xlt {B : Int32} {i : Nat} (hlo : ((i : Nat) : Int) ≤ B.toInt) (h : ¬ B ≤ nI i) : ((i + 1 : Nat) : Int) ≤ B.toInt := by
  have h1 := xmax B
  rw [xle, nI_toInt (by omega)] at h
  omega
theorem xlt2 {B : Int32} {i : Nat} (hlo : ((i : Nat) : Int) ≤ B.toInt) (h : ¬ B ≤ nI i) : (i : Int) < B.toInt ∧ (nI i).toInt = i := by
  have h1 := xmax B
  rw [xle, nI_toInt (by omega)] at h
  exact ⟨by omega, nI_toInt (by omega)⟩
theorem xin {x : Int32} {n : Nat} (h : 0 ≤ x.toInt ∧ x.toInt < n) : vp_in x n := vp_in_iff.mpr h
theorem xcl {x : Int32} {n : Nat} (h : 0 ≤ x.toInt ∧ x.toInt < n) : x.toNatClampNeg < n := Nat.not_le.mp fun q => xin h (Or.inr q)
theorem xinI {i n : Nat} (h : i < n) (hn : n < 2 ^ 31) : vp_in (nI i) n := vp_in_nI h hn
def xcode (E : String) : Nat := if E = xIO then 1 else if E = xIA then 2 else if E = xIS then 3 else 0
theorem xcode_IO : xcode xIO = 0 + 1 := by decide +kernel
theorem xcode_IA : xcode xIA = 1 + 1 := by decide +kernel
theorem xcode_IS : xcode xIS = 2 + 1 := by decide +kernel
abbrev xups : List String := ["java/lang/RuntimeException", "java/lang/Exception"]
theorem xnon_IO : ∀ w ∈ (vx_atS RX3 212 xIO xups).filter (fun w => !goodWord w), w ∈ xNest := by decide +kernel
theorem xnon_IA : ∀ w ∈ (vx_atS RX3 47 xIA xups).filter (fun w => !goodWord w), w ∈ xNest := by decide +kernel
theorem xnon_IS : ∀ w ∈ (vx_atS RX3 36 xIS xups).filter (fun w => !goodWord w), w ∈ xNest := by decide +kernel
theorem xgood_IO : ∀ w ∈ Cond.classLink RX3 208 xIO :: Cond.initialized xIO :: vx_atS RX3 212 xIO xups, vx_ot w = true := by decide +kernel
theorem xgood_IA : ∀ w ∈ Cond.classLink RX3 43 xIA :: Cond.initialized xIA :: vx_atS RX3 47 xIA xups, vx_ot w = true := by decide +kernel
theorem xgood_IS : ∀ w ∈ Cond.classLink RX3 32 xIS :: Cond.initialized xIS :: vx_atS RX3 36 xIS xups, vx_ot w = true := by decide +kernel
theorem xnest_ot : ∀ w ∈ xNest, w.onTables = true := by decide +kernel
theorem xtyJ (t : ArrayType) : True := trivial
section XR2
variable {p : Program} {l : Launch} {e : Env} {R : Room} {s : State} {m : MethodId} {args : Array Value} {below : List Frame} {meth : Method} {c : Code} {H : Heap} {locs : List Loc} {cells slots : Nat} {Q : State → Prop}
variable {cc : ByteArray} {nL : Nat} {own : String} {wds : List Cond} {ret : Option FieldType} {G : xG} {A : Nat → Prop} {ws w0 : va_W} {sz : Nat} {pc : Nat} {ls : Array Slot} {rest : List Value}
theorem xldc {index : Nat} {v : Int32} (hc : xC p s m args meth c cc nL own wds ret G A) (hlk : Cond.constant own index v ∈ wds) (hdg : decode cc pc = .ok (.ldc index, 2)) (k : W p l e R s m args below meth c H locs cells slots Q (F0 m (pc + 2) ls (.int v :: rest))) : W p l e R s m args below meth c H locs cells slots Q (F0 m pc ls rest) :=
  lv_ldc hc.1 hc.2.1 hc.2.2.2.1 (hc.2.2.2.2.1 _ hlk) hdg k
theorem xthrow {Qc : Array Value → State → Outcome → State → Prop} {cls text : String} {ik is ic n k9 mc ms : Nat} (hc : xC p s m args meth c cc nL own wds ret G (va_A w0 sz)) (hex : ∀ x ∈ c.exceptionTable.toList, False) (hst : l.stackTraces = false) (hw : xW G (va_A w0 sz) s.heap w0 H locs) (hxc : xcode cls = k9 + 1) (hn : n = k9 + 1) (hcls : Bundle.fit cls = true)
    (hk : Cond.classLink own ik cls ∈ wds) (hini : Cond.initialized cls ∈ wds) (kS : Nat) (hstr : xStrs[kS]? = some (own, is, text)) (hat : ∀ w ∈ (vx_atS own ic cls xups).filter goodWord, w ∈ wds) (hnon : ∀ w ∈ (vx_atS own ic cls xups).filter (fun w => !goodWord w), w ∈ xNest) (hgood : ∀ w ∈ Cond.classLink own ik cls :: Cond.initialized cls :: vx_atS own ic cls xups, vx_ot w = true)
    (d0 : decode cc pc = .ok (.new ik, 3)) (d3 : decode cc (pc + 3) = .ok (.dup, 1)) (d4 : decode cc (pc + 4) = .ok (.ldc is, 2)) (d6 : decode cc (pc + 6) = .ok (.invokespecial ic, 3)) (d9 : decode cc (pc + 9) = .ok (.athrow, 1)) (hsize : ls.size = nL) (hRf : 5 < R.frames) (hRl : (rest.map fun v => v.category).sum + 82 ≤ R.locals) (hR : cells + 1 ≤ R.cells ∧ slots + 6 ≤ R.slots) (hm : cells + 1 ≤ mc ∧ slots + 6 ≤ ms) :
    W p l e R s m args below meth c H locs cells slots (vx_MQ below Qc (xX G w0 sz (fun E => n = xcode E ∧ xcode E ≠ 0)) args s mc ms (va_A w0 sz)) (F0 m pc ls rest) := by
  obtain ⟨hx, hb, hml, hown, hts, hr, hlk, hE, hZ, hA⟩ := id hc
  refine vx_throwS (names := xups) (A := va_A w0 sz) hx hb hst hown hcls (by decide +kernel) (hts _ hk) (hts _ hini) (hE.2.2.2 kS _ hstr)
    (vx_hat (B := xNest) (fun w h => hts w (hat w h)) hnon (fun w h => (hE.2.1 w h).use (xnest_ot w h))) hgood hZ.1 hZ.2 hw.2.2 (hsize.trans hml.symm) d0 d3 d4 d6 d9 (fun x h => (hex x h).elim) hRf hRl hR.1 hR.2 hlk (fun t hvm hz hq => ?_) hw.2.2.2.2 hm.1 hm.2
  refine ⟨(), trivial, ⟨⟨hn.trans hxc.symm, by rw [hxc]; exact Nat.succ_ne_zero _⟩, hw.1.kept (fun k q h => hq q.1 ((hw.1 k q h).lt)), hw.2.1⟩, ⟨Nat.le_trans hw.2.2.1 hz, fun q h1 h2 => ?_⟩⟩
  rw [hq q (Nat.lt_of_lt_of_le h1 hw.2.2.1)]
  exact hw.2.2.2.1 q h1 h2
theorem xobj {idx : Nat} {a : Nat} (hc : xC p s m args meth c cc nL own wds ret G A) (hlink : Cond.methodLink own idx Lib.objectInit ∈ wds) (hinst : (Cond.instanceMethod Lib.objectInit).before args s = true) (hcode : (Cond.code Lib.objectInit ⟨#[0xb1]⟩ 1 none).before args s = true) (hl : ls.size = nL) (hd : decode cc pc = .ok (.invokespecial idx, 3))
    (hframes : 1 ≤ R.frames) (hlocals : (rest.map fun v => v.category).sum + 12 ≤ R.locals) (kk : W p l e R s m args below meth c H locs cells slots Q (F0 m (pc + 3) ls rest)) : W p l e R s m args below meth c H locs cells slots Q (F0 m pc ls (.ref a :: rest)) :=
  W.objInit hc.1 hc.2.1 hc.2.2.2.1 (hc.2.2.2.2.1 _ hlink) hinst hcode rfl (hl.trans hc.2.2.1.symm) rfl hd hframes (by simpa [JFrame.monitorRoom] using hlocals) kk
theorem xnew {C : String} {T : u_T} {N ci index : Nat} (hc : xC p s m args meth c cc nL own wds ret G A) (hw : xW G A s.heap ws H locs) (hin : ∀ w ∈ u_ws C T N, w ∈ wds) (ty : Nat → FieldType) (hty : ∀ k, k < N → parseFieldDescriptor (T k).2.2.1 = some (ty k)) (fs : List Value) (hcl : Cond.classLink own index C ∈ wds) (hinst : Cond.instantiable C N ∈ wds) (hini : Cond.initialized C ∈ wds) (hci : vwCl[ci]? = some (C, T, N)) (hfs : ∀ j, j < N → defaultValue (ty j) = vp_V fs j) (hcells : cells + 1 ≤ R.cells) (hslots : slots + N ≤ R.slots) (hdg : decode cc pc = .ok (.new index, 3))
    (kk : ∀ (q : Nat) (H1 : Heap), xW G A s.heap (ws ++ [(q, .inr (ci, fs))]) H1 locs → W p l e R s m args below meth c H1 locs (cells + 1) (slots + N) Q (F0 m (pc + 3) ls (.ref q :: rest))) : W p l e R s m args below meth c H locs cells slots Q (F0 m pc ls rest) :=
  va_new hc.1 hc.2.1 hc.2.2.2.2.1 hin ty hty hc.2.2.2.1 (hc.2.2.2.2.1 _ hcl) (hc.2.2.2.2.1 _ hinst) (hc.2.2.2.2.1 _ hini) hc.2.2.2.2.2.2.2.1.1 hw.1 hw.2.1 hw.2.2 hc.2.2.2.2.2.2.2.2.2 hci hfs hcells hslots hdg (fun q H1 h1 h2 h3 => kk q H1 ⟨h1, h2, h3⟩)
theorem xtyU {U : State} {ty : FieldType} {a b : ClassId} (h : ∀ C, ty ≠ .object C) (h1 : va_RA U a ty) (h2 : va_RA U b ty) : a = b := by
  cases ty <;> first | exact absurd rfl (h _) | exact Option.some.inj (Eq.trans (Eq.symm h1) h2)
theorem xnewaI (hc : xC p s m args meth c cc nL own wds ret G A) (hw : xW G A s.heap ws H locs) {n : Int32} (N' : Nat) (harr : Cond.arrayClass .int ∈ wds) (hn : ¬ n < 0) (hN : n.toNatClampNeg = N') (hbytes : N' * componentBytes .int ≤ 536870912) (hcells : cells + 1 ≤ R.cells) (hslots : slots + N' ≤ R.slots) (hdg : decode cc pc = .ok (.newarray .int, 2))
    (kk : ∀ (q : Nat) (H1 : Heap), xW G A s.heap (ws ++ [(q, .inl (G.2.1.1, N', .inl (fun _ => 0)))]) H1 locs → W p l e R s m args below meth c H1 locs (cells + 1) (slots + N') Q (F0 m (pc + 2) ls (.ref q :: rest))) : W p l e R s m args below meth c H locs cells slots Q (F0 m pc ls (.int n :: rest)) := by
  have hK := hc.2.2.2.2.2.2.2.1.1
  refine va_newa (atype := .int) (ty := .int) (a0 := (N', .inl (fun _ => 0))) hc.1 hc.2.1 (hc.2.2.2.2.1 _ harr) rfl hK hw.1 hw.2.1 hw.2.2 hc.2.2.2.2.2.2.2.2.2 (fun cA => rfl) hn hN hbytes hcells hslots hdg (fun q cA H1 k1 h1 h2 h3 => ?_)
  have e : cA = G.2.1.1 := xtyU (fun _ h => by cases h) (k1.2 3 (cA, .int) rfl).2 (hK.2 0 (G.2.1.1, .int) rfl).2
  subst e
  exact kk q H1 ⟨h1, h2, h3⟩
theorem xnewaZ (hc : xC p s m args meth c cc nL own wds ret G A) (hw : xW G A s.heap ws H locs) {n : Int32} (N' : Nat) (harr : Cond.arrayClass .boolean ∈ wds) (hn : ¬ n < 0) (hN : n.toNatClampNeg = N') (hbytes : N' * componentBytes .boolean ≤ 536870912) (hcells : cells + 1 ≤ R.cells) (hslots : slots + N' ≤ R.slots) (hdg : decode cc pc = .ok (.newarray .boolean, 2))
    (kk : ∀ (q : Nat) (H1 : Heap), xW G A s.heap (ws ++ [(q, .inl (G.2.1.2.1, N', .inl (fun _ => 0)))]) H1 locs → W p l e R s m args below meth c H1 locs (cells + 1) (slots + N') Q (F0 m (pc + 2) ls (.ref q :: rest))) : W p l e R s m args below meth c H locs cells slots Q (F0 m pc ls (.int n :: rest)) := by
  have hK := hc.2.2.2.2.2.2.2.1.1
  refine va_newa (atype := .boolean) (ty := .boolean) (a0 := (N', .inl (fun _ => 0))) hc.1 hc.2.1 (hc.2.2.2.2.1 _ harr) rfl hK hw.1 hw.2.1 hw.2.2 hc.2.2.2.2.2.2.2.2.2 (fun cA => rfl) hn hN hbytes hcells hslots hdg (fun q cA H1 k1 h1 h2 h3 => ?_)
  have e : cA = G.2.1.2.1 := xtyU (fun _ h => by cases h) (k1.2 3 (cA, .boolean) rfl).2 (hK.2 1 (G.2.1.2.1, .boolean) rfl).2
  subst e
  exact kk q H1 ⟨h1, h2, h3⟩
theorem xnewaJ (hc : xC p s m args meth c cc nL own wds ret G A) (hw : xW G A s.heap ws H locs) {n : Int32} (N' : Nat) (harr : Cond.arrayClass .long ∈ wds) (hn : ¬ n < 0) (hN : n.toNatClampNeg = N') (hbytes : N' * componentBytes .long ≤ 536870912) (hcells : cells + 1 ≤ R.cells) (hslots : slots + N' ≤ R.slots) (hdg : decode cc pc = .ok (.newarray .long, 2))
    (kk : ∀ (q : Nat) (H1 : Heap), xW G A s.heap (ws ++ [(q, .inl (G.2.1.2.2, N', .inr (.inl (fun _ => 0))))]) H1 locs → W p l e R s m args below meth c H1 locs (cells + 1) (slots + N') Q (F0 m (pc + 2) ls (.ref q :: rest))) : W p l e R s m args below meth c H locs cells slots Q (F0 m pc ls (.int n :: rest)) := by
  have hK := hc.2.2.2.2.2.2.2.1.1
  refine va_newa (atype := .long) (ty := .long) (a0 := (N', .inr (.inl (fun _ => 0)))) hc.1 hc.2.1 (hc.2.2.2.2.1 _ harr) rfl hK hw.1 hw.2.1 hw.2.2 hc.2.2.2.2.2.2.2.2.2 (fun cA => rfl) hn hN hbytes hcells hslots hdg (fun q cA H1 k1 h1 h2 h3 => ?_)
  have e : cA = G.2.1.2.2 := xtyU (fun _ h => by cases h) (k1.2 3 (cA, .long) rfl).2 (hK.2 2 (G.2.1.2.2, .long) rfl).2
  subst e
  exact kk q H1 ⟨h1, h2, h3⟩
theorem xcopyI {index : Nat} {a0 a : Nat} {n0 n1 : Nat} {f g : Nat → Int32} (hc : xC p s m args meth c cc nL own wds ret G A) (hw : xW G A s.heap ws H locs) (q0 q1 : Nat) (w2 : va_W) {n : Int32} (hlk : Cond.methodLink own index arraycopyName ∈ wds) (hnat : Cond.native arraycopyName ∈ wds) (hsta : Cond.static arraycopyName ∈ wds) (hini : Cond.initialized "java/lang/System" ∈ wds)
    (ha0 : ws[q0]? = some (a0, .inl (G.2.1.1, n0, .inl f))) (ha1 : ws[q1]? = some (a, .inl (G.2.1.1, n1, .inl g))) (h2 : ws.set q1 (a, .inl (G.2.1.1, n1, .inl (va_cpy f g 0 0 n.toNatClampNeg))) = w2) (hfit : ∀ i, i < n.toNatClampNeg → fits .int (.int (f ((0 : Int32).toNatClampNeg + i))) = true) (h3 : ¬ n < 0 ∧ n.toNatClampNeg ≤ n0 ∧ n.toNatClampNeg ≤ n1) (hl : ls.size = nL)
    (hframes : 1 ≤ R.frames) (hlocals : (rest.map fun v => v.category).sum + (nativeFrameWords "java/lang/System" "arraycopy" 5 + 11) ≤ R.locals) (hdg : decode cc pc = .ok (.invokestatic index, 3))
    (kk : ∀ (H1 : Heap) (locs1 : List Loc), xW G A s.heap w2 H1 locs1 → W p l e R s m args below meth c H1 locs1 cells slots Q (F0 m (pc + 3) ls rest)) :
    W p l e R s m args below meth c H locs cells slots Q (F0 m pc ls (.int n :: .int 0 :: .ref a :: .int 0 :: .ref a0 :: rest)) := by
  subst h2
  exact va_copyi hc.1 hc.2.1 (hc.2.2.1.trans hl.symm) hc.2.2.2.1 (hc.2.2.2.2.1 _ hlk) (hc.2.2.2.2.1 _ hnat) (hc.2.2.2.2.1 _ hsta) (hc.2.2.2.2.1 _ hini) hc.2.2.2.2.2.2.2.1.1 hw.1 hw.2.1 hw.2.2 q0 q1 0 0 ha0 ha1 rfl rfl rfl (by decide) (by decide) h3.1 (by rw [show (0 : Int32).toNatClampNeg = 0 from rfl, Nat.zero_add]; exact h3.2.1) (by rw [show (0 : Int32).toNatClampNeg = 0 from rfl, Nat.zero_add]; exact h3.2.2) hfit hframes hlocals hdg (fun H1 locs1 h1 h2 h3 => kk H1 locs1 ⟨h1, h2, h3⟩)
theorem xcopyZ {index : Nat} {a0 a : Nat} {n0 n1 : Nat} {f g : Nat → Int32} (hc : xC p s m args meth c cc nL own wds ret G A) (hw : xW G A s.heap ws H locs) (q0 q1 : Nat) (w2 : va_W) {n : Int32} (hlk : Cond.methodLink own index arraycopyName ∈ wds) (hnat : Cond.native arraycopyName ∈ wds) (hsta : Cond.static arraycopyName ∈ wds) (hini : Cond.initialized "java/lang/System" ∈ wds)
    (ha0 : ws[q0]? = some (a0, .inl (G.2.1.2.1, n0, .inl f))) (ha1 : ws[q1]? = some (a, .inl (G.2.1.2.1, n1, .inl g))) (h2 : ws.set q1 (a, .inl (G.2.1.2.1, n1, .inl (va_cpy f g 0 0 n.toNatClampNeg))) = w2) (hfit : ∀ i, i < n.toNatClampNeg → fits .boolean (.int (f ((0 : Int32).toNatClampNeg + i))) = true) (h3 : ¬ n < 0 ∧ n.toNatClampNeg ≤ n0 ∧ n.toNatClampNeg ≤ n1) (hl : ls.size = nL)
    (hframes : 1 ≤ R.frames) (hlocals : (rest.map fun v => v.category).sum + (nativeFrameWords "java/lang/System" "arraycopy" 5 + 11) ≤ R.locals) (hdg : decode cc pc = .ok (.invokestatic index, 3))
    (kk : ∀ (H1 : Heap) (locs1 : List Loc), xW G A s.heap w2 H1 locs1 → W p l e R s m args below meth c H1 locs1 cells slots Q (F0 m (pc + 3) ls rest)) :
    W p l e R s m args below meth c H locs cells slots Q (F0 m pc ls (.int n :: .int 0 :: .ref a :: .int 0 :: .ref a0 :: rest)) := by
  subst h2
  exact va_copyi hc.1 hc.2.1 (hc.2.2.1.trans hl.symm) hc.2.2.2.1 (hc.2.2.2.2.1 _ hlk) (hc.2.2.2.2.1 _ hnat) (hc.2.2.2.2.1 _ hsta) (hc.2.2.2.2.1 _ hini) hc.2.2.2.2.2.2.2.1.1 hw.1 hw.2.1 hw.2.2 q0 q1 1 1 ha0 ha1 rfl rfl rfl (by decide) (by decide) h3.1 (by rw [show (0 : Int32).toNatClampNeg = 0 from rfl, Nat.zero_add]; exact h3.2.1) (by rw [show (0 : Int32).toNatClampNeg = 0 from rfl, Nat.zero_add]; exact h3.2.2) hfit hframes hlocals hdg (fun H1 locs1 h1 h2 h3 => kk H1 locs1 ⟨h1, h2, h3⟩)
end XR2
end
section
set_option maxRecDepth 20000 in
theorem lkX3_mix_cL228 : Cond.constantLong RX3 228 (31) ∈ wsX3_mix := List.mem_of_getElem? (i := 1) (by decide +kernel)
set_option maxRecDepth 20000 in
theorem inX1_isPlace_X1 : ∀ w ∈ u_ws RX1 TX1 8, w ∈ wsX1_isPlace := fun _ h => List.mem_cons_of_mem _ (List.mem_append_right _ h)
set_option maxRecDepth 20000 in
theorem lkX1_isPlace_f34 : Cond.fieldLink RX1 34 "MapCarrier$Land" "places" "I" ∈ wsX1_isPlace := List.mem_of_getElem? (i := 1) (by decide +kernel)
set_option maxRecDepth 20000 in
theorem inX1_isFull_X1 : ∀ w ∈ u_ws RX1 TX1 8, w ∈ wsX1_isFull := fun _ h => List.mem_cons_of_mem _ (List.mem_append_right _ h)
set_option maxRecDepth 20000 in
theorem lkX1_isFull_f9 : Cond.fieldLink RX1 9 "MapCarrier$Land" "exits" "[I" ∈ wsX1_isFull := List.mem_of_getElem? (i := 1) (by decide +kernel)
set_option maxRecDepth 20000 in
theorem inX1_endAt_X1 : ∀ w ∈ u_ws RX1 TX1 8, w ∈ wsX1_endAt := fun _ h => List.mem_cons_of_mem _ (List.mem_append_right _ h)
set_option maxRecDepth 20000 in
theorem lkX1_endAt_f9 : Cond.fieldLink RX1 9 "MapCarrier$Land" "exits" "[I" ∈ wsX1_endAt := List.mem_of_getElem? (i := 1) (by decide +kernel)
set_option maxRecDepth 20000 in
theorem nkX1_50 : Cond.methodLinkNest RX1 50 yX3_isEnd "MapCarrier" ∈ xNest := by decide +kernel
set_option maxRecDepth 20000 in
theorem lkX1_opensAt_iiX3 : Cond.initialized RX3 ∈ wsX1_opensAt := List.mem_of_getElem? (i := 3) (by decide +kernel)
set_option maxRecDepth 20000 in
theorem lkX1_opensAt_isX3_isEnd : Cond.static yX3_isEnd ∈ wsX1_opensAt := List.mem_of_getElem? (i := 2) (by decide +kernel)
set_option maxRecDepth 20000 in
theorem inX1_opensAt_X1 : ∀ w ∈ u_ws RX1 TX1 8, w ∈ wsX1_opensAt := fun _ h => List.mem_cons_of_mem _ (List.mem_append_right _ h)
set_option maxRecDepth 20000 in
theorem lkX1_opensAt_f28 : Cond.fieldLink RX1 28 "MapCarrier$Land" "open" "[Z" ∈ wsX1_opensAt := List.mem_of_getElem? (i := 1) (by decide +kernel)
set_option maxRecDepth 20000 in
theorem lkX1_milesAt_iiX3 : Cond.initialized RX3 ∈ wsX1_milesAt := List.mem_of_getElem? (i := 3) (by decide +kernel)
set_option maxRecDepth 20000 in
theorem lkX1_milesAt_isX3_isEnd : Cond.static yX3_isEnd ∈ wsX1_milesAt := List.mem_of_getElem? (i := 2) (by decide +kernel)
set_option maxRecDepth 20000 in
theorem inX1_milesAt_X1 : ∀ w ∈ u_ws RX1 TX1 8, w ∈ wsX1_milesAt := fun _ h => List.mem_cons_of_mem _ (List.mem_append_right _ h)
set_option maxRecDepth 20000 in
theorem lkX1_milesAt_f25 : Cond.fieldLink RX1 25 "MapCarrier$Land" "lengths" "[I" ∈ wsX1_milesAt := List.mem_of_getElem? (i := 1) (by decide +kernel)
set_option maxRecDepth 20000 in
theorem lkX1_twinOf_iiX3 : Cond.initialized RX3 ∈ wsX1_twinOf := List.mem_of_getElem? (i := 3) (by decide +kernel)
set_option maxRecDepth 20000 in
theorem lkX1_twinOf_isX3_isEnd : Cond.static yX3_isEnd ∈ wsX1_twinOf := List.mem_of_getElem? (i := 2) (by decide +kernel)
set_option maxRecDepth 20000 in
theorem inX1_twinOf_X1 : ∀ w ∈ u_ws RX1 TX1 8, w ∈ wsX1_twinOf := fun _ h => List.mem_cons_of_mem _ (List.mem_append_right _ h)
set_option maxRecDepth 20000 in
theorem lkX1_twinOf_f22 : Cond.fieldLink RX1 22 "MapCarrier$Land" "twins" "[I" ∈ wsX1_twinOf := List.mem_of_getElem? (i := 1) (by decide +kernel)
set_option maxRecDepth 20000 in
theorem lkX1_beyond_iiX3 : Cond.initialized RX3 ∈ wsX1_beyond := List.mem_of_getElem? (i := 3) (by decide +kernel)
set_option maxRecDepth 20000 in
theorem lkX1_beyond_isX3_isEnd : Cond.static yX3_isEnd ∈ wsX1_beyond := List.mem_of_getElem? (i := 2) (by decide +kernel)
set_option maxRecDepth 20000 in
theorem inX1_beyond_X1 : ∀ w ∈ u_ws RX1 TX1 8, w ∈ wsX1_beyond := fun _ h => List.mem_cons_of_mem _ (List.mem_append_right _ h)
set_option maxRecDepth 20000 in
theorem lkX1_beyond_f19 : Cond.fieldLink RX1 19 "MapCarrier$Land" "leads" "[I" ∈ wsX1_beyond := List.mem_of_getElem? (i := 1) (by decide +kernel)
set_option maxRecDepth 20000 in
theorem inX1_milesBy_X1 : ∀ w ∈ u_ws RX1 TX1 8, w ∈ wsX1_milesBy := fun _ h => List.mem_cons_of_mem _ (List.mem_append_right _ h)
set_option maxRecDepth 20000 in
theorem lkX1_milesBy_f28 : Cond.fieldLink RX1 28 "MapCarrier$Land" "open" "[Z" ∈ wsX1_milesBy := List.mem_of_getElem? (i := 1) (by decide +kernel)
set_option maxRecDepth 20000 in
theorem lkX1_milesBy_c57 : Cond.constant RX1 57 (1000000) ∈ wsX1_milesBy := List.mem_of_getElem? (i := 5) (by decide +kernel)
set_option maxRecDepth 20000 in
theorem lkX1_milesBy_f25 : Cond.fieldLink RX1 25 "MapCarrier$Land" "lengths" "[I" ∈ wsX1_milesBy := List.mem_of_getElem? (i := 2) (by decide +kernel)
set_option maxRecDepth 20000 in
theorem lkX1_milesBy_f31 : Cond.fieldLink RX1 31 "MapCarrier$Land" "far" "[I" ∈ wsX1_milesBy := List.mem_of_getElem? (i := 3) (by decide +kernel)
set_option maxRecDepth 20000 in
theorem lkX1_milesBy_f19 : Cond.fieldLink RX1 19 "MapCarrier$Land" "leads" "[I" ∈ wsX1_milesBy := List.mem_of_getElem? (i := 4) (by decide +kernel)
end
section
def FX3_isEnd (e : Int32) : Int32 :=
  if e < 0 then (0) else (if 40 ≤ e then (0) else (1))
set_option maxHeartbeats 4000000 in
set_option maxRecDepth 100000 in
theorem metX3_isEnd (l : Launch) (G : xG) (sz : Nat) (e : Int32) : xM l yX3_isEnd wsX3_isEnd ⟨0, 0, 0, 0⟩ G [.int e] [] sz (xQi G [] sz (fun (r : Int32) (_ : Unit) => r = FX3_isEnd e) (fun u : Unit => [])) := by
  refine xof (own := RX3) (cc := cX3_isEnd) (maxL := 1) (ret := (some .boolean)) rfl (by decide) rfl (Nat.le_of_ble_eq_true rfl) ?_
  intro pg en s mi below meth cd hc hnm hw ls hl
  obtain ⟨hx, hb, -, hown, hts, -⟩ := id hc
  have hl : lv_has ls 1 [(0, .int e)] := hl
  refine lv_iload_n hx hb dX3_isEnd_0 rfl (lv_at hl 0 rfl) ?_
  refine lv_if_lt (tgt := 14) hx hb dX3_isEnd_1 (by decide) (fun c_1 => ?_) (fun c_1 => ?_)
  · refine lv_iconst (v := 0) hx hb dX3_isEnd_14 (by decide) ?_
    exact xret_z () hc hw rfl (by exact Eq.symm (if_pos c_1)) ⟨Nat.le_of_ble_eq_true rfl, Nat.le_of_ble_eq_true rfl⟩ dX3_isEnd_15
  · refine lv_iload_n hx hb dX3_isEnd_4 rfl (lv_at hl 0 rfl) ?_
    refine lv_bipush (v := 40) hx hb dX3_isEnd_5 (by decide) ?_
    refine lv_icmp_ge (tgt := 14) hx hb dX3_isEnd_7 (by decide) (fun c_2 => ?_) (fun c_2 => ?_)
    · refine lv_iconst (v := 0) hx hb dX3_isEnd_14 (by decide) ?_
      exact xret_z () hc hw rfl (by exact Eq.symm (Eq.trans (if_neg c_1) (if_pos c_2))) ⟨Nat.le_of_ble_eq_true rfl, Nat.le_of_ble_eq_true rfl⟩ dX3_isEnd_15
    · refine lv_iconst (v := 1) hx hb dX3_isEnd_10 (by decide) ?_
      refine lv_goto (tgt := 15) hx hb dX3_isEnd_11 (by decide) ?_
      exact xret_z () hc hw rfl (by exact Eq.symm (Eq.trans (if_neg c_1) (if_neg c_2))) ⟨Nat.le_of_ble_eq_true rfl, Nat.le_of_ble_eq_true rfl⟩ dX3_isEnd_15
theorem pX3_isEnd {e r : Int32} (h : r = FX3_isEnd e) (c : ¬ r = 0) : 0 ≤ e.toInt ∧ e.toInt < 40 := by
  subst h
  unfold FX3_isEnd at c
  split at c
  · exact absurd rfl c
  · split at c
    · exact absurd rfl c
    · rename_i h1 h2
      rw [xltI] at h1; rw [xle] at h2
      exact ⟨Int.not_lt.mp h1, Int.not_le.mp h2⟩
theorem pX3_isEnd0 {e r : Int32} (h : r = FX3_isEnd e) (c : r = 0) : ¬ (0 ≤ e.toInt ∧ e.toInt < 40) := by
  subst h
  unfold FX3_isEnd at c
  split at c
  · rename_i h1; rw [xltI] at h1; intro h; exact absurd h1 (Int.not_lt.mpr h.1)
  · split at c
    · rename_i h1 h2; rw [xle] at h2; intro h; exact absurd h2 (Int.not_le.mpr h.2)
    · exact absurd c (by decide)
def FX3_placeOfEnd (e : Int32) : Int32 :=
  e / 4
set_option maxHeartbeats 4000000 in
set_option maxRecDepth 100000 in
theorem metX3_placeOfEnd (l : Launch) (G : xG) (sz : Nat) (e : Int32) : xM l yX3_placeOfEnd wsX3_placeOfEnd ⟨0, 0, 0, 0⟩ G [.int e] [] sz (xQi G [] sz (fun (r : Int32) (_ : Unit) => r = FX3_placeOfEnd e) (fun u : Unit => [])) := by
  refine xof (own := RX3) (cc := cX3_placeOfEnd) (maxL := 1) (ret := (some .int)) rfl (by decide) rfl (Nat.le_of_ble_eq_true rfl) ?_
  intro pg en s mi below meth cd hc hnm hw ls hl
  obtain ⟨hx, hb, -, hown, hts, -⟩ := id hc
  have hl : lv_has ls 1 [(0, .int e)] := hl
  refine lv_iload_n hx hb dX3_placeOfEnd_0 rfl (lv_at hl 0 rfl) ?_
  refine lv_iconst (v := 4) hx hb dX3_placeOfEnd_1 (by decide) ?_
  refine lv_idiv hx hb dX3_placeOfEnd_2 (by decide) ?_
  exact xret_i () hc hw (by exact Eq.symm rfl) ⟨Nat.le_of_ble_eq_true rfl, Nat.le_of_ble_eq_true rfl⟩ dX3_placeOfEnd_3
def FX3_exitOfEnd (e : Int32) : Int32 :=
  e - e / 4 * 4
set_option maxHeartbeats 4000000 in
set_option maxRecDepth 100000 in
theorem metX3_exitOfEnd (l : Launch) (G : xG) (sz : Nat) (e : Int32) : xM l yX3_exitOfEnd wsX3_exitOfEnd ⟨0, 0, 0, 0⟩ G [.int e] [] sz (xQi G [] sz (fun (r : Int32) (_ : Unit) => r = FX3_exitOfEnd e) (fun u : Unit => [])) := by
  refine xof (own := RX3) (cc := cX3_exitOfEnd) (maxL := 1) (ret := (some .int)) rfl (by decide) rfl (Nat.le_of_ble_eq_true rfl) ?_
  intro pg en s mi below meth cd hc hnm hw ls hl
  obtain ⟨hx, hb, -, hown, hts, -⟩ := id hc
  have hl : lv_has ls 1 [(0, .int e)] := hl
  refine lv_iload_n hx hb dX3_exitOfEnd_0 rfl (lv_at hl 0 rfl) ?_
  refine lv_iconst (v := 4) hx hb dX3_exitOfEnd_1 (by decide) ?_
  refine lv_irem hx hb dX3_exitOfEnd_2 (by decide) ?_
  exact xret_i () hc hw (by exact Eq.symm rfl) ⟨Nat.le_of_ble_eq_true rfl, Nat.le_of_ble_eq_true rfl⟩ dX3_exitOfEnd_3
def FX3_mix (d : Int64) (x : Int64) : Int64 :=
  (d * 31) + x
set_option maxHeartbeats 4000000 in
set_option maxRecDepth 100000 in
theorem metX3_mix (l : Launch) (G : xG) (sz : Nat) (d : Int64) (x : Int64) : xM l yX3_mix wsX3_mix ⟨0, 0, 0, 0⟩ G [.long d, .long x] [] sz (xQl G [] sz (fun (r : Int64) (_ : Unit) => r = FX3_mix d x) (fun u : Unit => [])) := by
  refine xof (own := RX3) (cc := cX3_mix) (maxL := 4) (ret := (some .long)) rfl (by decide) rfl (Nat.le_of_ble_eq_true rfl) ?_
  intro pg en s mi below meth cd hc hnm hw ls hl
  obtain ⟨hx, hb, -, hown, hts, -⟩ := id hc
  have hl : lv_has ls 4 [(0, .long d), (2, .long x)] := hl
  refine lv_lload_n hx hb dX3_mix_0 rfl (lv_at hl 0 rfl) ?_
  refine lv_ldc2 hx hb hown (hts _ lkX3_mix_cL228) dX3_mix_1 ?_
  refine lv_lmul hx hb dX3_mix_4 ?_
  refine lv_lload_n hx hb dX3_mix_5 rfl (lv_at hl 1 rfl) ?_
  refine lv_ladd hx hb dX3_mix_6 ?_
  exact xret_l () hc hw (by exact Eq.symm rfl) ⟨Nat.le_of_ble_eq_true rfl, Nat.le_of_ble_eq_true rfl⟩ dX3_mix_7
def FX3_mixFlag (d : Int64) (b : Int32) : Int64 :=
  if b = 0 then (let r3 := FX3_mix d 0; r3) else (let r7 := FX3_mix d 1; r7)
set_option maxHeartbeats 4000000 in
set_option maxRecDepth 100000 in
theorem metX3_mixFlag (l : Launch) (G : xG) (sz : Nat) (d : Int64) (b : Int32) : xM l yX3_mixFlag wsX3_mixFlag ⟨1, 0, 0, 23⟩ G [.long d, .int b] [] sz (xQl G [] sz (fun (r : Int64) (_ : Unit) => r = FX3_mixFlag d b) (fun u : Unit => [])) := by
  refine xof (own := RX3) (cc := cX3_mixFlag) (maxL := 3) (ret := (some .long)) rfl (by decide) rfl (Nat.le_of_ble_eq_true rfl) ?_
  intro pg en s mi below meth cd hc hnm hw ls hl
  obtain ⟨hx, hb, -, hown, hts, -⟩ := id hc
  have hl : lv_has ls 3 [(0, .long d), (2, .int b)] := hl
  refine lv_lload_n hx hb dX3_mixFlag_0 rfl (lv_at hl 0 rfl) ?_
  refine lv_iload_n hx hb dX3_mixFlag_1 rfl (lv_at hl 1 rfl) ?_
  refine lv_if_eq (tgt := 9) hx hb dX3_mixFlag_2 (by decide) (fun c_1 => ?_) (fun c_1 => ?_)
  · refine lv_lconst (v := 0) hx hb dX3_mixFlag_9 rfl ?_
    refine xcall_l (isC := []) hc hw (xrunS (n := 2) (As := [.long d, .long 0]) (rest := []) hc hw [] (metX3_mix l G _ d 0) gX3_mixFlag_X3_mix rfl (by decide +kernel) ⟨Nat.le_of_ble_eq_true rfl, Nat.le_of_ble_eq_true rfl⟩ rfl rfl rfl rfl hl.1 (Nat.le_of_ble_eq_true rfl) dX3_mixFlag_10 ⟨Nat.le_of_ble_eq_true rfl, Nat.le_of_ble_eq_true rfl⟩) rfl [] [] (fun u2 => []) (fun _ => rfl) rfl rfl rfl rfl (fun r3 u2 H locs hp4 hw => ?_)
    exact xret_l () hc hw (by obtain rfl := hp4; exact Eq.symm (if_pos c_1)) ⟨Nat.le_of_ble_eq_true rfl, Nat.le_of_ble_eq_true rfl⟩ dX3_mixFlag_13
  · refine lv_lconst (v := 1) hx hb dX3_mixFlag_5 rfl ?_
    refine lv_goto (tgt := 10) hx hb dX3_mixFlag_6 (by decide) ?_
    refine xcall_l (isC := []) hc hw (xrunS (n := 2) (As := [.long d, .long 1]) (rest := []) hc hw [] (metX3_mix l G _ d 1) gX3_mixFlag_X3_mix rfl (by decide +kernel) ⟨Nat.le_of_ble_eq_true rfl, Nat.le_of_ble_eq_true rfl⟩ rfl rfl rfl rfl hl.1 (Nat.le_of_ble_eq_true rfl) dX3_mixFlag_10 ⟨Nat.le_of_ble_eq_true rfl, Nat.le_of_ble_eq_true rfl⟩) rfl [] [] (fun u6 => []) (fun _ => rfl) rfl rfl rfl rfl (fun r7 u6 H locs hp8 hw => ?_)
    exact xret_l () hc hw (by obtain rfl := hp8; exact Eq.symm (if_neg c_1)) ⟨Nat.le_of_ble_eq_true rfl, Nat.le_of_ble_eq_true rfl⟩ dX3_mixFlag_13
def FX1_isPlace (pl : Int32) (q : Int32) : Int32 :=
  if q < 0 then (0) else (if pl ≤ q then (0) else (1))
set_option maxHeartbeats 4000000 in
set_option maxRecDepth 100000 in
theorem metX1_isPlace (l : Launch) (G : xG) (sz : Nat) (aL : Nat) (aEx : Nat) (aSh : Nat) (aLd : Nat) (aTw : Nat) (aLe : Nat) (aOp : Nat) (aFa : Nat) (pl : Int32) (q : Int32) : xM l yX1_isPlace wsX1_isPlace ⟨0, 0, 0, 0⟩ G [.ref aL, .int q] [xO aL 1 [.int pl, .ref aEx, .ref aSh, .ref aLd, .ref aTw, .ref aLe, .ref aOp, .ref aFa]] sz (xQi G [xO aL 1 [.int pl, .ref aEx, .ref aSh, .ref aLd, .ref aTw, .ref aLe, .ref aOp, .ref aFa]] sz (fun (r : Int32) (_ : Unit) => r = FX1_isPlace pl q) (fun u : Unit => [xO aL 1 [.int pl, .ref aEx, .ref aSh, .ref aLd, .ref aTw, .ref aLe, .ref aOp, .ref aFa]])) := by
  refine xof (own := RX1) (cc := cX1_isPlace) (maxL := 2) (ret := (some .boolean)) rfl (by decide) rfl (Nat.le_of_ble_eq_true rfl) ?_
  intro pg en s mi below meth cd hc hnm hw ls hl
  obtain ⟨hx, hb, -, hown, hts, -⟩ := id hc
  have hl : lv_has ls 2 [(0, .ref aL), (1, .int q)] := hl
  refine lv_iload_n hx hb dX1_isPlace_0 rfl (lv_at hl 1 rfl) ?_
  refine lv_if_lt (tgt := 16) hx hb dX1_isPlace_1 (by decide) (fun c_1 => ?_) (fun c_1 => ?_)
  · refine lv_iconst (v := 0) hx hb dX1_isPlace_16 (by decide) ?_
    exact xret_z () hc hw rfl (by exact Eq.symm (if_pos c_1)) ⟨Nat.le_of_ble_eq_true rfl, Nat.le_of_ble_eq_true rfl⟩ dX1_isPlace_17
  · refine lv_iload_n hx hb dX1_isPlace_4 rfl (lv_at hl 1 rfl) ?_
    refine lv_aload_n hx hb dX1_isPlace_5 rfl (lv_at hl 0 rfl) ?_
    refine xget (C := RX1) (T := TX1) (N := 8) hc hw inX1_isPlace_X1 0 rfl rfl 0 (by decide) lkX1_isPlace_f34 rfl rfl dX1_isPlace_6 ?_
    refine lv_icmp_ge (tgt := 16) hx hb dX1_isPlace_9 (by decide) (fun c_2 => ?_) (fun c_2 => ?_)
    · refine lv_iconst (v := 0) hx hb dX1_isPlace_16 (by decide) ?_
      exact xret_z () hc hw rfl (by exact Eq.symm (Eq.trans (if_neg c_1) (if_pos c_2))) ⟨Nat.le_of_ble_eq_true rfl, Nat.le_of_ble_eq_true rfl⟩ dX1_isPlace_17
    · refine lv_iconst (v := 1) hx hb dX1_isPlace_12 (by decide) ?_
      refine lv_goto (tgt := 17) hx hb dX1_isPlace_13 (by decide) ?_
      exact xret_z () hc hw rfl (by exact Eq.symm (Eq.trans (if_neg c_1) (if_neg c_2))) ⟨Nat.le_of_ble_eq_true rfl, Nat.le_of_ble_eq_true rfl⟩ dX1_isPlace_17
theorem pX1_isPlace {pl q r : Int32} (h : r = FX1_isPlace pl q) (c : ¬ r = 0) : 0 ≤ q.toInt ∧ q.toInt < pl.toInt := by
  subst h
  unfold FX1_isPlace at c
  split at c
  · exact absurd rfl c
  · split at c
    · exact absurd rfl c
    · rename_i h1 h2
      rw [xltI] at h1; rw [xle] at h2
      exact ⟨Int.not_lt.mp h1, Int.not_le.mp h2⟩
theorem pX1_isPlace10 {pl q r : Int32} (hpl : 0 ≤ pl.toInt ∧ pl.toInt ≤ 10) (h : r = FX1_isPlace pl q) (c : ¬ r = 0) : 0 ≤ q.toInt ∧ q.toInt < 10 := by
  have := pX1_isPlace h c
  omega
def FX1_isFull (pl : Int32) (ex : Nat → Int32) (q : Int32) : Int32 :=
  let r2 := FX1_isPlace pl q; if r2 = 0 then (0) else (if (ex q.toNatClampNeg) < 4 then (0) else (1))
set_option maxHeartbeats 4000000 in
set_option maxRecDepth 100000 in
theorem metX1_isFull (l : Launch) (G : xG) (sz : Nat) (aL : Nat) (aEx : Nat) (aSh : Nat) (aLd : Nat) (aTw : Nat) (aLe : Nat) (aOp : Nat) (aFa : Nat) (pl : Int32) (ex : Nat → Int32) (q : Int32) (hpl : 0 ≤ pl.toInt ∧ pl.toInt ≤ 10) : xM l yX1_isFull wsX1_isFull ⟨1, 0, 0, 21⟩ G [.ref aL, .int q] [xO aL 1 [.int pl, .ref aEx, .ref aSh, .ref aLd, .ref aTw, .ref aLe, .ref aOp, .ref aFa], xAI G aEx 10 ex] sz (xQi G [xO aL 1 [.int pl, .ref aEx, .ref aSh, .ref aLd, .ref aTw, .ref aLe, .ref aOp, .ref aFa], xAI G aEx 10 ex] sz (fun (r : Int32) (_ : Unit) => r = FX1_isFull pl ex q) (fun u : Unit => [xO aL 1 [.int pl, .ref aEx, .ref aSh, .ref aLd, .ref aTw, .ref aLe, .ref aOp, .ref aFa], xAI G aEx 10 ex])) := by
  refine xof (own := RX1) (cc := cX1_isFull) (maxL := 2) (ret := (some .boolean)) rfl (by decide) rfl (Nat.le_of_ble_eq_true rfl) ?_
  intro pg en s mi below meth cd hc hnm hw ls hl
  obtain ⟨hx, hb, -, hown, hts, -⟩ := id hc
  have hl : lv_has ls 2 [(0, .ref aL), (1, .int q)] := hl
  refine lv_aload_n hx hb dX1_isFull_0 rfl (lv_at hl 0 rfl) ?_
  refine lv_iload_n hx hb dX1_isFull_1 rfl (lv_at hl 1 rfl) ?_
  refine xcall_i (isC := [0]) hc hw (xrunV (n := 1) (As := [.int q]) (rest := []) hc hw [0] (metX1_isPlace l G _ aL aEx aSh aLd aTw aLe aOp aFa pl q) gX1_isFull_X1_isPlace rfl (by decide +kernel) ⟨Nat.le_of_ble_eq_true rfl, Nat.le_of_ble_eq_true rfl⟩ 0 rfl rfl rfl rfl rfl rfl hl.1 (Nat.le_of_ble_eq_true rfl) dX1_isFull_2 ⟨Nat.le_of_ble_eq_true rfl, Nat.le_of_ble_eq_true rfl⟩) rfl [1] [1, 0] (fun u1 => [xO aL 1 [.int pl, .ref aEx, .ref aSh, .ref aLd, .ref aTw, .ref aLe, .ref aOp, .ref aFa], xAI G aEx 10 ex]) (fun _ => rfl) rfl rfl rfl rfl (fun r2 u1 H locs hp3 hw => ?_)
  refine lv_if_eq (tgt := 22) hx hb dX1_isFull_5 (by decide) (fun c_5 => ?_) (fun c_5 => ?_)
  · refine lv_iconst (v := 0) hx hb dX1_isFull_22 (by decide) ?_
    exact xret_z () hc hw rfl (by obtain rfl := hp3; exact Eq.symm (if_pos c_5)) ⟨Nat.le_of_ble_eq_true rfl, Nat.le_of_ble_eq_true rfl⟩ dX1_isFull_23
  · refine lv_aload_n hx hb dX1_isFull_8 rfl (lv_at hl 0 rfl) ?_
    refine xget (C := RX1) (T := TX1) (N := 8) hc hw inX1_isFull_X1 0 rfl rfl 1 (by decide) lkX1_isFull_f9 rfl rfl dX1_isFull_9 ?_
    refine lv_iload_n hx hb dX1_isFull_12 rfl (lv_at hl 1 rfl) ?_
    refine xiald hc hw 1 rfl (xin (pX1_isPlace10 hpl hp3 c_5)) dX1_isFull_13 ?_
    refine lv_iconst (v := 4) hx hb dX1_isFull_14 (by decide) ?_
    refine lv_icmp_lt (tgt := 22) hx hb dX1_isFull_15 (by decide) (fun c_6 => ?_) (fun c_6 => ?_)
    · refine lv_iconst (v := 0) hx hb dX1_isFull_22 (by decide) ?_
      exact xret_z () hc hw rfl (by obtain rfl := hp3; exact Eq.symm (Eq.trans (if_neg c_5) (if_pos c_6))) ⟨Nat.le_of_ble_eq_true rfl, Nat.le_of_ble_eq_true rfl⟩ dX1_isFull_23
    · refine lv_iconst (v := 1) hx hb dX1_isFull_18 (by decide) ?_
      refine lv_goto (tgt := 23) hx hb dX1_isFull_19 (by decide) ?_
      exact xret_z () hc hw rfl (by obtain rfl := hp3; exact Eq.symm (Eq.trans (if_neg c_5) (if_neg c_6))) ⟨Nat.le_of_ble_eq_true rfl, Nat.le_of_ble_eq_true rfl⟩ dX1_isFull_23
def FX1_endAt (pl : Int32) (ex : Nat → Int32) (q : Int32) (x : Int32) : Int32 :=
  let r2 := FX1_isPlace pl q; if r2 = 0 then ((-1)) else (if x < 0 then ((-1)) else (if (ex q.toNatClampNeg) ≤ x then ((-1)) else ((q * 4) + x)))
set_option maxHeartbeats 4000000 in
set_option maxRecDepth 100000 in
theorem metX1_endAt (l : Launch) (G : xG) (sz : Nat) (aL : Nat) (aEx : Nat) (aSh : Nat) (aLd : Nat) (aTw : Nat) (aLe : Nat) (aOp : Nat) (aFa : Nat) (pl : Int32) (ex : Nat → Int32) (q : Int32) (x : Int32) (hpl : 0 ≤ pl.toInt ∧ pl.toInt ≤ 10) : xM l yX1_endAt wsX1_endAt ⟨1, 0, 0, 21⟩ G [.ref aL, .int q, .int x] [xO aL 1 [.int pl, .ref aEx, .ref aSh, .ref aLd, .ref aTw, .ref aLe, .ref aOp, .ref aFa], xAI G aEx 10 ex] sz (xQi G [xO aL 1 [.int pl, .ref aEx, .ref aSh, .ref aLd, .ref aTw, .ref aLe, .ref aOp, .ref aFa], xAI G aEx 10 ex] sz (fun (r : Int32) (_ : Unit) => r = FX1_endAt pl ex q x) (fun u : Unit => [xO aL 1 [.int pl, .ref aEx, .ref aSh, .ref aLd, .ref aTw, .ref aLe, .ref aOp, .ref aFa], xAI G aEx 10 ex])) := by
  refine xof (own := RX1) (cc := cX1_endAt) (maxL := 4) (ret := (some .int)) rfl (by decide) rfl (Nat.le_of_ble_eq_true rfl) ?_
  intro pg en s mi below meth cd hc hnm hw ls hl
  obtain ⟨hx, hb, -, hown, hts, -⟩ := id hc
  have hl : lv_has ls 4 [(0, .ref aL), (1, .int q), (2, .int x)] := hl
  refine lv_aload_n hx hb dX1_endAt_0 rfl (lv_at hl 0 rfl) ?_
  refine lv_iload_n hx hb dX1_endAt_1 rfl (lv_at hl 1 rfl) ?_
  refine xcall_i (isC := [0]) hc hw (xrunV (n := 1) (As := [.int q]) (rest := []) hc hw [0] (metX1_isPlace l G _ aL aEx aSh aLd aTw aLe aOp aFa pl q) gX1_endAt_X1_isPlace rfl (by decide +kernel) ⟨Nat.le_of_ble_eq_true rfl, Nat.le_of_ble_eq_true rfl⟩ 0 rfl rfl rfl rfl rfl rfl hl.1 (Nat.le_of_ble_eq_true rfl) dX1_endAt_2 ⟨Nat.le_of_ble_eq_true rfl, Nat.le_of_ble_eq_true rfl⟩) rfl [1] [1, 0] (fun u1 => [xO aL 1 [.int pl, .ref aEx, .ref aSh, .ref aLd, .ref aTw, .ref aLe, .ref aOp, .ref aFa], xAI G aEx 10 ex]) (fun _ => rfl) rfl rfl rfl rfl (fun r2 u1 H locs hp3 hw => ?_)
  refine lv_if_eq (tgt := 26) hx hb dX1_endAt_5 (by decide) (fun c_5 => ?_) (fun c_5 => ?_)
  · refine lv_iconst (v := 0) hx hb dX1_endAt_26 (by decide) ?_
    refine lv_istore_n (lv' := [(3, .int 0), (0, .ref aL), (1, .int q), (2, .int x)]) hx hb dX1_endAt_27 rfl hl (by decide) rfl (fun ls hl => ?_)
    refine lv_iload_n hx hb dX1_endAt_28 rfl (lv_at hl 0 rfl) ?_
    refine lv_if_eq (tgt := 40) hx hb dX1_endAt_29 (by decide) (fun _ => ?_) (fun h => absurd h (by decide))
    refine lv_iconst (v := (-1)) hx hb dX1_endAt_40 (by decide) ?_
    exact xret_i () hc hw (by obtain rfl := hp3; exact Eq.symm (if_pos c_5)) ⟨Nat.le_of_ble_eq_true rfl, Nat.le_of_ble_eq_true rfl⟩ dX1_endAt_41
  · refine lv_iload_n hx hb dX1_endAt_8 rfl (lv_at hl 2 rfl) ?_
    refine lv_if_lt (tgt := 26) hx hb dX1_endAt_9 (by decide) (fun c_6 => ?_) (fun c_6 => ?_)
    · refine lv_iconst (v := 0) hx hb dX1_endAt_26 (by decide) ?_
      refine lv_istore_n (lv' := [(3, .int 0), (0, .ref aL), (1, .int q), (2, .int x)]) hx hb dX1_endAt_27 rfl hl (by decide) rfl (fun ls hl => ?_)
      refine lv_iload_n hx hb dX1_endAt_28 rfl (lv_at hl 0 rfl) ?_
      refine lv_if_eq (tgt := 40) hx hb dX1_endAt_29 (by decide) (fun _ => ?_) (fun h => absurd h (by decide))
      refine lv_iconst (v := (-1)) hx hb dX1_endAt_40 (by decide) ?_
      exact xret_i () hc hw (by obtain rfl := hp3; exact Eq.symm (Eq.trans (if_neg c_5) (if_pos c_6))) ⟨Nat.le_of_ble_eq_true rfl, Nat.le_of_ble_eq_true rfl⟩ dX1_endAt_41
    · refine lv_iload_n hx hb dX1_endAt_12 rfl (lv_at hl 2 rfl) ?_
      refine lv_aload_n hx hb dX1_endAt_13 rfl (lv_at hl 0 rfl) ?_
      refine xget (C := RX1) (T := TX1) (N := 8) hc hw inX1_endAt_X1 0 rfl rfl 1 (by decide) lkX1_endAt_f9 rfl rfl dX1_endAt_14 ?_
      refine lv_iload_n hx hb dX1_endAt_17 rfl (lv_at hl 1 rfl) ?_
      refine xiald hc hw 1 rfl (xin (pX1_isPlace10 hpl hp3 c_5)) dX1_endAt_18 ?_
      refine lv_icmp_ge (tgt := 26) hx hb dX1_endAt_19 (by decide) (fun c_7 => ?_) (fun c_7 => ?_)
      · refine lv_iconst (v := 0) hx hb dX1_endAt_26 (by decide) ?_
        refine lv_istore_n (lv' := [(3, .int 0), (0, .ref aL), (1, .int q), (2, .int x)]) hx hb dX1_endAt_27 rfl hl (by decide) rfl (fun ls hl => ?_)
        refine lv_iload_n hx hb dX1_endAt_28 rfl (lv_at hl 0 rfl) ?_
        refine lv_if_eq (tgt := 40) hx hb dX1_endAt_29 (by decide) (fun _ => ?_) (fun h => absurd h (by decide))
        refine lv_iconst (v := (-1)) hx hb dX1_endAt_40 (by decide) ?_
        exact xret_i () hc hw (by obtain rfl := hp3; exact Eq.symm (Eq.trans (Eq.trans (if_neg c_5) (if_neg c_6)) (if_pos c_7))) ⟨Nat.le_of_ble_eq_true rfl, Nat.le_of_ble_eq_true rfl⟩ dX1_endAt_41
      · refine lv_iconst (v := 1) hx hb dX1_endAt_22 (by decide) ?_
        refine lv_goto (tgt := 27) hx hb dX1_endAt_23 (by decide) ?_
        refine lv_istore_n (lv' := [(3, .int 1), (0, .ref aL), (1, .int q), (2, .int x)]) hx hb dX1_endAt_27 rfl hl (by decide) rfl (fun ls hl => ?_)
        refine lv_iload_n hx hb dX1_endAt_28 rfl (lv_at hl 0 rfl) ?_
        refine lv_if_eq (tgt := 40) hx hb dX1_endAt_29 (by decide) (fun h => absurd h (by decide)) (fun _ => ?_)
        refine lv_iload_n hx hb dX1_endAt_32 rfl (lv_at hl 2 rfl) ?_
        refine lv_iconst (v := 4) hx hb dX1_endAt_33 (by decide) ?_
        refine lv_imul hx hb dX1_endAt_34 ?_
        refine lv_iload_n hx hb dX1_endAt_35 rfl (lv_at hl 3 rfl) ?_
        refine lv_iadd hx hb dX1_endAt_36 ?_
        refine lv_goto (tgt := 41) hx hb dX1_endAt_37 (by decide) ?_
        exact xret_i () hc hw (by obtain rfl := hp3; exact Eq.symm (Eq.trans (Eq.trans (if_neg c_5) (if_neg c_6)) (if_neg c_7))) ⟨Nat.le_of_ble_eq_true rfl, Nat.le_of_ble_eq_true rfl⟩ dX1_endAt_41
def FX1_opensAt (op : Nat → Int32) (e : Int32) : Int32 :=
  let r2 := FX3_isEnd e; if r2 = 0 then (0) else (if (op e.toNatClampNeg) = 0 then (0) else (1))
set_option maxHeartbeats 4000000 in
set_option maxRecDepth 100000 in
theorem metX1_opensAt (l : Launch) (G : xG) (sz : Nat) (aL : Nat) (aEx : Nat) (aSh : Nat) (aLd : Nat) (aTw : Nat) (aLe : Nat) (aOp : Nat) (aFa : Nat) (pl : Int32) (op : Nat → Int32) (e : Int32) (hop : ∀ k, k < 40 → op k = 0 ∨ op k = 1) : xM l yX1_opensAt wsX1_opensAt ⟨1, 0, 0, 20⟩ G [.ref aL, .int e] [xO aL 1 [.int pl, .ref aEx, .ref aSh, .ref aLd, .ref aTw, .ref aLe, .ref aOp, .ref aFa], xAZ G aOp 40 op] sz (xQi G [xO aL 1 [.int pl, .ref aEx, .ref aSh, .ref aLd, .ref aTw, .ref aLe, .ref aOp, .ref aFa], xAZ G aOp 40 op] sz (fun (r : Int32) (_ : Unit) => r = FX1_opensAt op e) (fun u : Unit => [xO aL 1 [.int pl, .ref aEx, .ref aSh, .ref aLd, .ref aTw, .ref aLe, .ref aOp, .ref aFa], xAZ G aOp 40 op])) := by
  refine xof (own := RX1) (cc := cX1_opensAt) (maxL := 2) (ret := (some .boolean)) rfl (by decide) rfl (Nat.le_of_ble_eq_true rfl) ?_
  intro pg en s mi below meth cd hc hnm hw ls hl
  obtain ⟨hx, hb, -, hown, hts, -⟩ := id hc
  have hl : lv_has ls 2 [(0, .ref aL), (1, .int e)] := hl
  refine lv_iload_n hx hb dX1_opensAt_0 rfl (lv_at hl 1 rfl) ?_
  refine xcall_i (isC := []) hc hw (xrunSN (n := 1) (As := [.int e]) (rest := []) hc hw [] (metX3_isEnd l G _ e) gX1_opensAt_X3_isEnd_n50 nkX1_50 lkX1_opensAt_iiX3 lkX1_opensAt_isX3_isEnd rfl (by decide +kernel) ⟨Nat.le_of_ble_eq_true rfl, Nat.le_of_ble_eq_true rfl⟩ rfl rfl rfl rfl hl.1 (Nat.le_of_ble_eq_true rfl) dX1_opensAt_1 ⟨Nat.le_of_ble_eq_true rfl, Nat.le_of_ble_eq_true rfl⟩) rfl [0, 1] [0, 1] (fun u1 => [xO aL 1 [.int pl, .ref aEx, .ref aSh, .ref aLd, .ref aTw, .ref aLe, .ref aOp, .ref aFa], xAZ G aOp 40 op]) (fun _ => rfl) rfl rfl rfl rfl (fun r2 u1 H locs hp3 hw => ?_)
  refine lv_if_eq (tgt := 20) hx hb dX1_opensAt_4 (by decide) (fun c_5 => ?_) (fun c_5 => ?_)
  · refine lv_iconst (v := 0) hx hb dX1_opensAt_20 (by decide) ?_
    exact xret_z () hc hw rfl (by obtain rfl := hp3; exact Eq.symm (if_pos c_5)) ⟨Nat.le_of_ble_eq_true rfl, Nat.le_of_ble_eq_true rfl⟩ dX1_opensAt_21
  · refine lv_aload_n hx hb dX1_opensAt_7 rfl (lv_at hl 0 rfl) ?_
    refine xget (C := RX1) (T := TX1) (N := 8) hc hw inX1_opensAt_X1 0 rfl rfl 6 (by decide) lkX1_opensAt_f28 rfl rfl dX1_opensAt_8 ?_
    refine lv_iload_n hx hb dX1_opensAt_11 rfl (lv_at hl 1 rfl) ?_
    refine xzald hc hw 1 rfl (xin (pX3_isEnd hp3 c_5)) dX1_opensAt_12 ?_
    refine lv_if_eq (tgt := 20) hx hb dX1_opensAt_13 (by decide) (fun c_6 => ?_) (fun c_6 => ?_)
    · refine lv_iconst (v := 0) hx hb dX1_opensAt_20 (by decide) ?_
      exact xret_z () hc hw rfl (by obtain rfl := hp3; exact Eq.symm (Eq.trans (if_neg c_5) (if_pos c_6))) ⟨Nat.le_of_ble_eq_true rfl, Nat.le_of_ble_eq_true rfl⟩ dX1_opensAt_21
    · refine lv_iconst (v := 1) hx hb dX1_opensAt_16 (by decide) ?_
      refine lv_goto (tgt := 21) hx hb dX1_opensAt_17 (by decide) ?_
      exact xret_z () hc hw rfl (by obtain rfl := hp3; exact Eq.symm (Eq.trans (if_neg c_5) (if_neg c_6))) ⟨Nat.le_of_ble_eq_true rfl, Nat.le_of_ble_eq_true rfl⟩ dX1_opensAt_21
def FX1_milesAt (le : Nat → Int32) (e : Int32) : Int32 :=
  let r2 := FX3_isEnd e; if r2 = 0 then (0) else (le e.toNatClampNeg)
set_option maxHeartbeats 4000000 in
set_option maxRecDepth 100000 in
theorem metX1_milesAt (l : Launch) (G : xG) (sz : Nat) (aL : Nat) (aEx : Nat) (aSh : Nat) (aLd : Nat) (aTw : Nat) (aLe : Nat) (aOp : Nat) (aFa : Nat) (pl : Int32) (le : Nat → Int32) (e : Int32) : xM l yX1_milesAt wsX1_milesAt ⟨1, 0, 0, 20⟩ G [.ref aL, .int e] [xO aL 1 [.int pl, .ref aEx, .ref aSh, .ref aLd, .ref aTw, .ref aLe, .ref aOp, .ref aFa], xAI G aLe 40 le] sz (xQi G [xO aL 1 [.int pl, .ref aEx, .ref aSh, .ref aLd, .ref aTw, .ref aLe, .ref aOp, .ref aFa], xAI G aLe 40 le] sz (fun (r : Int32) (_ : Unit) => r = FX1_milesAt le e) (fun u : Unit => [xO aL 1 [.int pl, .ref aEx, .ref aSh, .ref aLd, .ref aTw, .ref aLe, .ref aOp, .ref aFa], xAI G aLe 40 le])) := by
  refine xof (own := RX1) (cc := cX1_milesAt) (maxL := 2) (ret := (some .int)) rfl (by decide) rfl (Nat.le_of_ble_eq_true rfl) ?_
  intro pg en s mi below meth cd hc hnm hw ls hl
  obtain ⟨hx, hb, -, hown, hts, -⟩ := id hc
  have hl : lv_has ls 2 [(0, .ref aL), (1, .int e)] := hl
  refine lv_iload_n hx hb dX1_milesAt_0 rfl (lv_at hl 1 rfl) ?_
  refine xcall_i (isC := []) hc hw (xrunSN (n := 1) (As := [.int e]) (rest := []) hc hw [] (metX3_isEnd l G _ e) gX1_milesAt_X3_isEnd_n50 nkX1_50 lkX1_milesAt_iiX3 lkX1_milesAt_isX3_isEnd rfl (by decide +kernel) ⟨Nat.le_of_ble_eq_true rfl, Nat.le_of_ble_eq_true rfl⟩ rfl rfl rfl rfl hl.1 (Nat.le_of_ble_eq_true rfl) dX1_milesAt_1 ⟨Nat.le_of_ble_eq_true rfl, Nat.le_of_ble_eq_true rfl⟩) rfl [0, 1] [0, 1] (fun u1 => [xO aL 1 [.int pl, .ref aEx, .ref aSh, .ref aLd, .ref aTw, .ref aLe, .ref aOp, .ref aFa], xAI G aLe 40 le]) (fun _ => rfl) rfl rfl rfl rfl (fun r2 u1 H locs hp3 hw => ?_)
  refine lv_if_eq (tgt := 16) hx hb dX1_milesAt_4 (by decide) (fun c_5 => ?_) (fun c_5 => ?_)
  · refine lv_iconst (v := 0) hx hb dX1_milesAt_16 (by decide) ?_
    exact xret_i () hc hw (by obtain rfl := hp3; exact Eq.symm (if_pos c_5)) ⟨Nat.le_of_ble_eq_true rfl, Nat.le_of_ble_eq_true rfl⟩ dX1_milesAt_17
  · refine lv_aload_n hx hb dX1_milesAt_7 rfl (lv_at hl 0 rfl) ?_
    refine xget (C := RX1) (T := TX1) (N := 8) hc hw inX1_milesAt_X1 0 rfl rfl 5 (by decide) lkX1_milesAt_f25 rfl rfl dX1_milesAt_8 ?_
    refine lv_iload_n hx hb dX1_milesAt_11 rfl (lv_at hl 1 rfl) ?_
    refine xiald hc hw 1 rfl (xin (pX3_isEnd hp3 c_5)) dX1_milesAt_12 ?_
    refine lv_goto (tgt := 17) hx hb dX1_milesAt_13 (by decide) ?_
    exact xret_i () hc hw (by obtain rfl := hp3; exact Eq.symm (if_neg c_5)) ⟨Nat.le_of_ble_eq_true rfl, Nat.le_of_ble_eq_true rfl⟩ dX1_milesAt_17
def FX1_twinOf (tw : Nat → Int32) (e : Int32) : Int32 :=
  let r2 := FX3_isEnd e; if r2 = 0 then ((-1)) else (tw e.toNatClampNeg)
set_option maxHeartbeats 4000000 in
set_option maxRecDepth 100000 in
theorem metX1_twinOf (l : Launch) (G : xG) (sz : Nat) (aL : Nat) (aEx : Nat) (aSh : Nat) (aLd : Nat) (aTw : Nat) (aLe : Nat) (aOp : Nat) (aFa : Nat) (pl : Int32) (tw : Nat → Int32) (e : Int32) : xM l yX1_twinOf wsX1_twinOf ⟨1, 0, 0, 20⟩ G [.ref aL, .int e] [xO aL 1 [.int pl, .ref aEx, .ref aSh, .ref aLd, .ref aTw, .ref aLe, .ref aOp, .ref aFa], xAI G aTw 40 tw] sz (xQi G [xO aL 1 [.int pl, .ref aEx, .ref aSh, .ref aLd, .ref aTw, .ref aLe, .ref aOp, .ref aFa], xAI G aTw 40 tw] sz (fun (r : Int32) (_ : Unit) => r = FX1_twinOf tw e) (fun u : Unit => [xO aL 1 [.int pl, .ref aEx, .ref aSh, .ref aLd, .ref aTw, .ref aLe, .ref aOp, .ref aFa], xAI G aTw 40 tw])) := by
  refine xof (own := RX1) (cc := cX1_twinOf) (maxL := 2) (ret := (some .int)) rfl (by decide) rfl (Nat.le_of_ble_eq_true rfl) ?_
  intro pg en s mi below meth cd hc hnm hw ls hl
  obtain ⟨hx, hb, -, hown, hts, -⟩ := id hc
  have hl : lv_has ls 2 [(0, .ref aL), (1, .int e)] := hl
  refine lv_iload_n hx hb dX1_twinOf_0 rfl (lv_at hl 1 rfl) ?_
  refine xcall_i (isC := []) hc hw (xrunSN (n := 1) (As := [.int e]) (rest := []) hc hw [] (metX3_isEnd l G _ e) gX1_twinOf_X3_isEnd_n50 nkX1_50 lkX1_twinOf_iiX3 lkX1_twinOf_isX3_isEnd rfl (by decide +kernel) ⟨Nat.le_of_ble_eq_true rfl, Nat.le_of_ble_eq_true rfl⟩ rfl rfl rfl rfl hl.1 (Nat.le_of_ble_eq_true rfl) dX1_twinOf_1 ⟨Nat.le_of_ble_eq_true rfl, Nat.le_of_ble_eq_true rfl⟩) rfl [0, 1] [0, 1] (fun u1 => [xO aL 1 [.int pl, .ref aEx, .ref aSh, .ref aLd, .ref aTw, .ref aLe, .ref aOp, .ref aFa], xAI G aTw 40 tw]) (fun _ => rfl) rfl rfl rfl rfl (fun r2 u1 H locs hp3 hw => ?_)
  refine lv_if_eq (tgt := 16) hx hb dX1_twinOf_4 (by decide) (fun c_5 => ?_) (fun c_5 => ?_)
  · refine lv_iconst (v := (-1)) hx hb dX1_twinOf_16 (by decide) ?_
    exact xret_i () hc hw (by obtain rfl := hp3; exact Eq.symm (if_pos c_5)) ⟨Nat.le_of_ble_eq_true rfl, Nat.le_of_ble_eq_true rfl⟩ dX1_twinOf_17
  · refine lv_aload_n hx hb dX1_twinOf_7 rfl (lv_at hl 0 rfl) ?_
    refine xget (C := RX1) (T := TX1) (N := 8) hc hw inX1_twinOf_X1 0 rfl rfl 4 (by decide) lkX1_twinOf_f22 rfl rfl dX1_twinOf_8 ?_
    refine lv_iload_n hx hb dX1_twinOf_11 rfl (lv_at hl 1 rfl) ?_
    refine xiald hc hw 1 rfl (xin (pX3_isEnd hp3 c_5)) dX1_twinOf_12 ?_
    refine lv_goto (tgt := 17) hx hb dX1_twinOf_13 (by decide) ?_
    exact xret_i () hc hw (by obtain rfl := hp3; exact Eq.symm (if_neg c_5)) ⟨Nat.le_of_ble_eq_true rfl, Nat.le_of_ble_eq_true rfl⟩ dX1_twinOf_17
def FX1_beyond (ld : Nat → Int32) (e : Int32) : Int32 :=
  let r2 := FX3_isEnd e; if r2 = 0 then ((-1)) else (ld e.toNatClampNeg)
set_option maxHeartbeats 4000000 in
set_option maxRecDepth 100000 in
theorem metX1_beyond (l : Launch) (G : xG) (sz : Nat) (aL : Nat) (aEx : Nat) (aSh : Nat) (aLd : Nat) (aTw : Nat) (aLe : Nat) (aOp : Nat) (aFa : Nat) (pl : Int32) (ld : Nat → Int32) (e : Int32) : xM l yX1_beyond wsX1_beyond ⟨1, 0, 0, 20⟩ G [.ref aL, .int e] [xO aL 1 [.int pl, .ref aEx, .ref aSh, .ref aLd, .ref aTw, .ref aLe, .ref aOp, .ref aFa], xAI G aLd 40 ld] sz (xQi G [xO aL 1 [.int pl, .ref aEx, .ref aSh, .ref aLd, .ref aTw, .ref aLe, .ref aOp, .ref aFa], xAI G aLd 40 ld] sz (fun (r : Int32) (_ : Unit) => r = FX1_beyond ld e) (fun u : Unit => [xO aL 1 [.int pl, .ref aEx, .ref aSh, .ref aLd, .ref aTw, .ref aLe, .ref aOp, .ref aFa], xAI G aLd 40 ld])) := by
  refine xof (own := RX1) (cc := cX1_beyond) (maxL := 2) (ret := (some .int)) rfl (by decide) rfl (Nat.le_of_ble_eq_true rfl) ?_
  intro pg en s mi below meth cd hc hnm hw ls hl
  obtain ⟨hx, hb, -, hown, hts, -⟩ := id hc
  have hl : lv_has ls 2 [(0, .ref aL), (1, .int e)] := hl
  refine lv_iload_n hx hb dX1_beyond_0 rfl (lv_at hl 1 rfl) ?_
  refine xcall_i (isC := []) hc hw (xrunSN (n := 1) (As := [.int e]) (rest := []) hc hw [] (metX3_isEnd l G _ e) gX1_beyond_X3_isEnd_n50 nkX1_50 lkX1_beyond_iiX3 lkX1_beyond_isX3_isEnd rfl (by decide +kernel) ⟨Nat.le_of_ble_eq_true rfl, Nat.le_of_ble_eq_true rfl⟩ rfl rfl rfl rfl hl.1 (Nat.le_of_ble_eq_true rfl) dX1_beyond_1 ⟨Nat.le_of_ble_eq_true rfl, Nat.le_of_ble_eq_true rfl⟩) rfl [0, 1] [0, 1] (fun u1 => [xO aL 1 [.int pl, .ref aEx, .ref aSh, .ref aLd, .ref aTw, .ref aLe, .ref aOp, .ref aFa], xAI G aLd 40 ld]) (fun _ => rfl) rfl rfl rfl rfl (fun r2 u1 H locs hp3 hw => ?_)
  refine lv_if_eq (tgt := 16) hx hb dX1_beyond_4 (by decide) (fun c_5 => ?_) (fun c_5 => ?_)
  · refine lv_iconst (v := (-1)) hx hb dX1_beyond_16 (by decide) ?_
    exact xret_i () hc hw (by obtain rfl := hp3; exact Eq.symm (if_pos c_5)) ⟨Nat.le_of_ble_eq_true rfl, Nat.le_of_ble_eq_true rfl⟩ dX1_beyond_17
  · refine lv_aload_n hx hb dX1_beyond_7 rfl (lv_at hl 0 rfl) ?_
    refine xget (C := RX1) (T := TX1) (N := 8) hc hw inX1_beyond_X1 0 rfl rfl 3 (by decide) lkX1_beyond_f19 rfl rfl dX1_beyond_8 ?_
    refine lv_iload_n hx hb dX1_beyond_11 rfl (lv_at hl 1 rfl) ?_
    refine xiald hc hw 1 rfl (xin (pX3_isEnd hp3 c_5)) dX1_beyond_12 ?_
    refine lv_goto (tgt := 17) hx hb dX1_beyond_13 (by decide) ?_
    exact xret_i () hc hw (by obtain rfl := hp3; exact Eq.symm (if_neg c_5)) ⟨Nat.le_of_ble_eq_true rfl, Nat.le_of_ble_eq_true rfl⟩ dX1_beyond_17
def FX1_milesBy (ld : Nat → Int32) (le : Nat → Int32) (op : Nat → Int32) (fa : Nat → Int32) (e : Int32) : Int32 :=
  if (op e.toNatClampNeg) = 0 then (1000000) else ((le e.toNatClampNeg) + (fa (ld e.toNatClampNeg).toNatClampNeg))
set_option maxHeartbeats 4000000 in
set_option maxRecDepth 100000 in
theorem metX1_milesBy (l : Launch) (G : xG) (sz : Nat) (aL : Nat) (aEx : Nat) (aSh : Nat) (aLd : Nat) (aTw : Nat) (aLe : Nat) (aOp : Nat) (aFa : Nat) (pl : Int32) (ld : Nat → Int32) (le : Nat → Int32) (op : Nat → Int32) (fa : Nat → Int32) (e : Int32) (hld : ∀ k, k < 40 → 0 ≤ (ld k).toInt ∧ (ld k).toInt < 10) (he : 0 ≤ e.toInt ∧ e.toInt < 40) : xM l yX1_milesBy wsX1_milesBy ⟨0, 0, 0, 0⟩ G [.ref aL, .int e] [xO aL 1 [.int pl, .ref aEx, .ref aSh, .ref aLd, .ref aTw, .ref aLe, .ref aOp, .ref aFa], xAI G aLd 40 ld, xAI G aLe 40 le, xAZ G aOp 40 op, xAI G aFa 10 fa] sz (xQi G [xO aL 1 [.int pl, .ref aEx, .ref aSh, .ref aLd, .ref aTw, .ref aLe, .ref aOp, .ref aFa], xAI G aLd 40 ld, xAI G aLe 40 le, xAZ G aOp 40 op, xAI G aFa 10 fa] sz (fun (r : Int32) (_ : Unit) => r = FX1_milesBy ld le op fa e) (fun u : Unit => [xO aL 1 [.int pl, .ref aEx, .ref aSh, .ref aLd, .ref aTw, .ref aLe, .ref aOp, .ref aFa], xAI G aLd 40 ld, xAI G aLe 40 le, xAZ G aOp 40 op, xAI G aFa 10 fa])) := by
  refine xof (own := RX1) (cc := cX1_milesBy) (maxL := 2) (ret := (some .int)) rfl (by decide) rfl (Nat.le_of_ble_eq_true rfl) ?_
  intro pg en s mi below meth cd hc hnm hw ls hl
  obtain ⟨hx, hb, -, hown, hts, -⟩ := id hc
  have hl : lv_has ls 2 [(0, .ref aL), (1, .int e)] := hl
  refine lv_aload_n hx hb dX1_milesBy_0 rfl (lv_at hl 0 rfl) ?_
  refine xget (C := RX1) (T := TX1) (N := 8) hc hw inX1_milesBy_X1 0 rfl rfl 6 (by decide) lkX1_milesBy_f28 rfl rfl dX1_milesBy_1 ?_
  refine lv_iload_n hx hb dX1_milesBy_4 rfl (lv_at hl 1 rfl) ?_
  refine xzald hc hw 3 rfl (xin he) dX1_milesBy_5 ?_
  refine lv_if_eq (tgt := 30) hx hb dX1_milesBy_6 (by decide) (fun c_1 => ?_) (fun c_1 => ?_)
  · refine xldc hc lkX1_milesBy_c57 dX1_milesBy_30 ?_
    exact xret_i () hc hw (by exact Eq.symm (if_pos c_1)) ⟨Nat.le_of_ble_eq_true rfl, Nat.le_of_ble_eq_true rfl⟩ dX1_milesBy_32
  · refine lv_aload_n hx hb dX1_milesBy_9 rfl (lv_at hl 0 rfl) ?_
    refine xget (C := RX1) (T := TX1) (N := 8) hc hw inX1_milesBy_X1 0 rfl rfl 5 (by decide) lkX1_milesBy_f25 rfl rfl dX1_milesBy_10 ?_
    refine lv_iload_n hx hb dX1_milesBy_13 rfl (lv_at hl 1 rfl) ?_
    refine xiald hc hw 2 rfl (xin he) dX1_milesBy_14 ?_
    refine lv_aload_n hx hb dX1_milesBy_15 rfl (lv_at hl 0 rfl) ?_
    refine xget (C := RX1) (T := TX1) (N := 8) hc hw inX1_milesBy_X1 0 rfl rfl 7 (by decide) lkX1_milesBy_f31 rfl rfl dX1_milesBy_16 ?_
    refine lv_aload_n hx hb dX1_milesBy_19 rfl (lv_at hl 0 rfl) ?_
    refine xget (C := RX1) (T := TX1) (N := 8) hc hw inX1_milesBy_X1 0 rfl rfl 3 (by decide) lkX1_milesBy_f19 rfl rfl dX1_milesBy_20 ?_
    refine lv_iload_n hx hb dX1_milesBy_23 rfl (lv_at hl 1 rfl) ?_
    refine xiald hc hw 1 rfl (xin he) dX1_milesBy_24 ?_
    refine xiald hc hw 4 rfl (xin (hld _ (xcl he))) dX1_milesBy_25 ?_
    refine lv_iadd hx hb dX1_milesBy_26 ?_
    refine lv_goto (tgt := 32) hx hb dX1_milesBy_27 (by decide) ?_
    exact xret_i () hc hw (by exact Eq.symm (if_neg c_1)) ⟨Nat.le_of_ble_eq_true rfl, Nat.le_of_ble_eq_true rfl⟩ dX1_milesBy_32
end
