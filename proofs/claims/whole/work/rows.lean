section
-- ===== PART A: goes FIRST, ahead of the names: the tables' words, and 'selects' of the private methods out of them =====
/-- a private method of a class that the tables say can be made, by its rows of tables_1 -/
def lw_okq (q : MethodName × Nat) : Prop := (q.1.cls ≠ "java/lang/invoke/MethodHandle" ∧ q.1.cls ≠ "java/lang/invoke/VarHandle") ∧ Cond.instantiable q.1.cls q.2 ∈ tables_1 ∧ Cond.privateMethod q.1 ∈ tables_1 ∧ Cond.instanceMethod q.1 ∈ tables_1
theorem lw_p0 : lw_okq (⟨"LampRacks", "recorded", "(I)I"⟩, 9) := ⟨⟨by decide +kernel, by decide +kernel⟩, List.mem_of_getElem? (i := 13) (by decide +kernel), List.mem_of_getElem? (i := 267) (by decide +kernel), List.mem_of_getElem? (i := 268) (by decide +kernel)⟩
theorem lw_p1 : lw_okq (⟨"LampRacks$History", "dropOldest", "()V"⟩, 2) := ⟨⟨by decide +kernel, by decide +kernel⟩, List.mem_of_getElem? (i := 134) (by decide +kernel), List.mem_of_getElem? (i := 275) (by decide +kernel), List.mem_of_getElem? (i := 276) (by decide +kernel)⟩
theorem lw_p2 : lw_okq (⟨"LampRacks$State", "moveTo", "(II)I"⟩, 6) := ⟨⟨by decide +kernel, by decide +kernel⟩, List.mem_of_getElem? (i := 21) (by decide +kernel), List.mem_of_getElem? (i := 335) (by decide +kernel), List.mem_of_getElem? (i := 336) (by decide +kernel)⟩
theorem lw_p3 : lw_okq (⟨"LampRacks$State", "changeWantedVolts", "(I)I"⟩, 6) := ⟨⟨by decide +kernel, by decide +kernel⟩, List.mem_of_getElem? (i := 21) (by decide +kernel), List.mem_of_getElem? (i := 364) (by decide +kernel), List.mem_of_getElem? (i := 365) (by decide +kernel)⟩
theorem lw_p4 : lw_okq (⟨"LampRacks$State", "changeDoublingVolts", "(I)I"⟩, 6) := ⟨⟨by decide +kernel, by decide +kernel⟩, List.mem_of_getElem? (i := 21) (by decide +kernel), List.mem_of_getElem? (i := 368) (by decide +kernel), List.mem_of_getElem? (i := 369) (by decide +kernel)⟩
theorem lw_p5 : lw_okq (⟨"LampRacks$State", "passHoursOfRack", "(II)I"⟩, 6) := ⟨⟨by decide +kernel, by decide +kernel⟩, List.mem_of_getElem? (i := 21) (by decide +kernel), List.mem_of_getElem? (i := 385) (by decide +kernel), List.mem_of_getElem? (i := 386) (by decide +kernel)⟩
theorem lw_p6 : lw_okq (⟨"LampRacks$State", "burnRack", "(III)I"⟩, 6) := ⟨⟨by decide +kernel, by decide +kernel⟩, List.mem_of_getElem? (i := 21) (by decide +kernel), List.mem_of_getElem? (i := 404) (by decide +kernel), List.mem_of_getElem? (i := 405) (by decide +kernel)⟩
theorem lw_p7 : lw_okq (⟨"LampRacks$Text", "current", "()I"⟩, 10) := ⟨⟨by decide +kernel, by decide +kernel⟩, List.mem_of_getElem? (i := 151) (by decide +kernel), List.mem_of_getElem? (i := 469) (by decide +kernel), List.mem_of_getElem? (i := 470) (by decide +kernel)⟩
theorem lw_p8 : lw_okq (⟨"LampRacks$Text", "readSpot", "()Z"⟩, 10) := ⟨⟨by decide +kernel, by decide +kernel⟩, List.mem_of_getElem? (i := 151) (by decide +kernel), List.mem_of_getElem? (i := 477) (by decide +kernel), List.mem_of_getElem? (i := 478) (by decide +kernel)⟩
theorem lw_p9 : lw_okq (⟨"LampRacks$Text", "readRack", "()Z"⟩, 10) := ⟨⟨by decide +kernel, by decide +kernel⟩, List.mem_of_getElem? (i := 151) (by decide +kernel), List.mem_of_getElem? (i := 481) (by decide +kernel), List.mem_of_getElem? (i := 482) (by decide +kernel)⟩
theorem lw_p10 : lw_okq (⟨"LampRacks$Text", "readDigit", "(I)Z"⟩, 10) := ⟨⟨by decide +kernel, by decide +kernel⟩, List.mem_of_getElem? (i := 151) (by decide +kernel), List.mem_of_getElem? (i := 485) (by decide +kernel), List.mem_of_getElem? (i := 486) (by decide +kernel)⟩
theorem lw_p11 : lw_okq (⟨"LampRacks$Text", "readRackAndColon", "()Z"⟩, 10) := ⟨⟨by decide +kernel, by decide +kernel⟩, List.mem_of_getElem? (i := 151) (by decide +kernel), List.mem_of_getElem? (i := 490) (by decide +kernel), List.mem_of_getElem? (i := 491) (by decide +kernel)⟩
theorem lw_p12 : lw_okq (⟨"LampRacks$Text", "readNumber", "(II)Z"⟩, 10) := ⟨⟨by decide +kernel, by decide +kernel⟩, List.mem_of_getElem? (i := 151) (by decide +kernel), List.mem_of_getElem? (i := 494) (by decide +kernel), List.mem_of_getElem? (i := 495) (by decide +kernel)⟩
theorem lw_p13 : lw_okq (⟨"LampRacks$Text", "isNextDigit", "(I)Z"⟩, 10) := ⟨⟨by decide +kernel, by decide +kernel⟩, List.mem_of_getElem? (i := 151) (by decide +kernel), List.mem_of_getElem? (i := 498) (by decide +kernel), List.mem_of_getElem? (i := 499) (by decide +kernel)⟩
theorem lw_p14 : lw_okq (⟨"LampRacks$Text", "readSteps", "()Z"⟩, 10) := ⟨⟨by decide +kernel, by decide +kernel⟩, List.mem_of_getElem? (i := 151) (by decide +kernel), List.mem_of_getElem? (i := 502) (by decide +kernel), List.mem_of_getElem? (i := 503) (by decide +kernel)⟩
theorem lw_p15 : lw_okq (⟨"LampRacks$Text", "readDirection", "()Z"⟩, 10) := ⟨⟨by decide +kernel, by decide +kernel⟩, List.mem_of_getElem? (i := 151) (by decide +kernel), List.mem_of_getElem? (i := 506) (by decide +kernel), List.mem_of_getElem? (i := 507) (by decide +kernel)⟩
def lw_privs_1 : List (MethodName × Nat) := [(⟨"LampRacks", "recorded", "(I)I"⟩, 9), (⟨"LampRacks$History", "dropOldest", "()V"⟩, 2), (⟨"LampRacks$State", "moveTo", "(II)I"⟩, 6), (⟨"LampRacks$State", "changeWantedVolts", "(I)I"⟩, 6), (⟨"LampRacks$State", "changeDoublingVolts", "(I)I"⟩, 6), (⟨"LampRacks$State", "passHoursOfRack", "(II)I"⟩, 6), (⟨"LampRacks$State", "burnRack", "(III)I"⟩, 6), (⟨"LampRacks$Text", "current", "()I"⟩, 10), (⟨"LampRacks$Text", "readSpot", "()Z"⟩, 10), (⟨"LampRacks$Text", "readRack", "()Z"⟩, 10), (⟨"LampRacks$Text", "readDigit", "(I)Z"⟩, 10), (⟨"LampRacks$Text", "readRackAndColon", "()Z"⟩, 10), (⟨"LampRacks$Text", "readNumber", "(II)Z"⟩, 10), (⟨"LampRacks$Text", "isNextDigit", "(I)Z"⟩, 10), (⟨"LampRacks$Text", "readSteps", "()Z"⟩, 10), (⟨"LampRacks$Text", "readDirection", "()Z"⟩, 10)]
theorem lw_r1 : ∀ q ∈ lw_privs_1, lw_okq q := List.forall_mem_cons.mpr ⟨lw_p0, List.forall_mem_cons.mpr ⟨lw_p1, List.forall_mem_cons.mpr ⟨lw_p2, List.forall_mem_cons.mpr ⟨lw_p3, List.forall_mem_cons.mpr ⟨lw_p4, List.forall_mem_cons.mpr ⟨lw_p5, List.forall_mem_cons.mpr ⟨lw_p6, List.forall_mem_cons.mpr ⟨lw_p7, List.forall_mem_cons.mpr ⟨lw_p8, List.forall_mem_cons.mpr ⟨lw_p9, List.forall_mem_cons.mpr ⟨lw_p10, List.forall_mem_cons.mpr ⟨lw_p11, List.forall_mem_cons.mpr ⟨lw_p12, List.forall_mem_cons.mpr ⟨lw_p13, List.forall_mem_cons.mpr ⟨lw_p14, List.forall_mem_cons.mpr ⟨lw_p15, fun _ h => absurd h List.not_mem_nil⟩⟩⟩⟩⟩⟩⟩⟩⟩⟩⟩⟩⟩⟩⟩⟩
theorem lw_p16 : lw_okq (⟨"LampRacks", "doThing", "()I"⟩, 9) := ⟨⟨by decide +kernel, by decide +kernel⟩, List.mem_of_getElem? (i := 13) (by decide +kernel), List.mem_of_getElem? (i := 512) (by decide +kernel), List.mem_of_getElem? (i := 513) (by decide +kernel)⟩
theorem lw_p17 : lw_okq (⟨"LampRacks$State", "countInRack", "(IZ)I"⟩, 6) := ⟨⟨by decide +kernel, by decide +kernel⟩, List.mem_of_getElem? (i := 21) (by decide +kernel), List.mem_of_getElem? (i := 569) (by decide +kernel), List.mem_of_getElem? (i := 570) (by decide +kernel)⟩
theorem lw_p18 : lw_okq (⟨"LampRacks$Lamps", "countShorterOf", "(II)I"⟩, 7) := ⟨⟨by decide +kernel, by decide +kernel⟩, List.mem_of_getElem? (i := 43) (by decide +kernel), List.mem_of_getElem? (i := 612) (by decide +kernel), List.mem_of_getElem? (i := 613) (by decide +kernel)⟩
theorem lw_p19 : lw_okq (⟨"LampRacks$Lamps", "countEndedBefore", "(I)I"⟩, 7) := ⟨⟨by decide +kernel, by decide +kernel⟩, List.mem_of_getElem? (i := 43) (by decide +kernel), List.mem_of_getElem? (i := 634) (by decide +kernel), List.mem_of_getElem? (i := 635) (by decide +kernel)⟩
theorem lw_p20 : lw_okq (⟨"LampRacks$State", "countBurning", "()I"⟩, 6) := ⟨⟨by decide +kernel, by decide +kernel⟩, List.mem_of_getElem? (i := 21) (by decide +kernel), List.mem_of_getElem? (i := 676) (by decide +kernel), List.mem_of_getElem? (i := 677) (by decide +kernel)⟩
theorem lw_p21 : lw_okq (⟨"LampRacksModel", "record", "()V"⟩, 13) := ⟨⟨by decide +kernel, by decide +kernel⟩, List.mem_of_getElem? (i := 695) (by decide +kernel), List.mem_of_getElem? (i := 756) (by decide +kernel), List.mem_of_getElem? (i := 757) (by decide +kernel)⟩
theorem lw_p22 : lw_okq (⟨"LampRacksModel", "recordRow", "([I)V"⟩, 13) := ⟨⟨by decide +kernel, by decide +kernel⟩, List.mem_of_getElem? (i := 695) (by decide +kernel), List.mem_of_getElem? (i := 760) (by decide +kernel), List.mem_of_getElem? (i := 761) (by decide +kernel)⟩
theorem lw_p23 : lw_okq (⟨"LampRacksModel", "whyNotPut", "(III)I"⟩, 13) := ⟨⟨by decide +kernel, by decide +kernel⟩, List.mem_of_getElem? (i := 695) (by decide +kernel), List.mem_of_getElem? (i := 778) (by decide +kernel), List.mem_of_getElem? (i := 779) (by decide +kernel)⟩
theorem lw_p24 : lw_okq (⟨"LampRacksModel", "lampAt", "(II)I"⟩, 13) := ⟨⟨by decide +kernel, by decide +kernel⟩, List.mem_of_getElem? (i := 695) (by decide +kernel), List.mem_of_getElem? (i := 788) (by decide +kernel), List.mem_of_getElem? (i := 789) (by decide +kernel)⟩
theorem lw_p25 : lw_okq (⟨"LampRacksModel", "of", "(II)I"⟩, 13) := ⟨⟨by decide +kernel, by decide +kernel⟩, List.mem_of_getElem? (i := 695) (by decide +kernel), List.mem_of_getElem? (i := 792) (by decide +kernel), List.mem_of_getElem? (i := 793) (by decide +kernel)⟩
theorem lw_p26 : lw_okq (⟨"LampRacksModel", "putNow", "(III)I"⟩, 13) := ⟨⟨by decide +kernel, by decide +kernel⟩, List.mem_of_getElem? (i := 695) (by decide +kernel), List.mem_of_getElem? (i := 796) (by decide +kernel), List.mem_of_getElem? (i := 797) (by decide +kernel)⟩
theorem lw_p27 : lw_okq (⟨"LampRacksModel", "lay", "(III)V"⟩, 13) := ⟨⟨by decide +kernel, by decide +kernel⟩, List.mem_of_getElem? (i := 695) (by decide +kernel), List.mem_of_getElem? (i := 800) (by decide +kernel), List.mem_of_getElem? (i := 801) (by decide +kernel)⟩
theorem lw_p28 : lw_okq (⟨"LampRacksModel", "moveTo", "(III)V"⟩, 13) := ⟨⟨by decide +kernel, by decide +kernel⟩, List.mem_of_getElem? (i := 695) (by decide +kernel), List.mem_of_getElem? (i := 808) (by decide +kernel), List.mem_of_getElem? (i := 809) (by decide +kernel)⟩
theorem lw_p29 : lw_okq (⟨"LampRacksModel", "whyNotVolts", "(II)I"⟩, 13) := ⟨⟨by decide +kernel, by decide +kernel⟩, List.mem_of_getElem? (i := 695) (by decide +kernel), List.mem_of_getElem? (i := 820) (by decide +kernel), List.mem_of_getElem? (i := 821) (by decide +kernel)⟩
theorem lw_p30 : lw_okq (⟨"LampRacksModel", "ofRack", "(II)I"⟩, 13) := ⟨⟨by decide +kernel, by decide +kernel⟩, List.mem_of_getElem? (i := 695) (by decide +kernel), List.mem_of_getElem? (i := 824) (by decide +kernel), List.mem_of_getElem? (i := 825) (by decide +kernel)⟩
theorem lw_p31 : lw_okq (⟨"LampRacksModel", "stepsNow", "(III)V"⟩, 13) := ⟨⟨by decide +kernel, by decide +kernel⟩, List.mem_of_getElem? (i := 695) (by decide +kernel), List.mem_of_getElem? (i := 832) (by decide +kernel), List.mem_of_getElem? (i := 833) (by decide +kernel)⟩
def lw_privs_2 : List (MethodName × Nat) := [(⟨"LampRacks", "doThing", "()I"⟩, 9), (⟨"LampRacks$State", "countInRack", "(IZ)I"⟩, 6), (⟨"LampRacks$Lamps", "countShorterOf", "(II)I"⟩, 7), (⟨"LampRacks$Lamps", "countEndedBefore", "(I)I"⟩, 7), (⟨"LampRacks$State", "countBurning", "()I"⟩, 6), (⟨"LampRacksModel", "record", "()V"⟩, 13), (⟨"LampRacksModel", "recordRow", "([I)V"⟩, 13), (⟨"LampRacksModel", "whyNotPut", "(III)I"⟩, 13), (⟨"LampRacksModel", "lampAt", "(II)I"⟩, 13), (⟨"LampRacksModel", "of", "(II)I"⟩, 13), (⟨"LampRacksModel", "putNow", "(III)I"⟩, 13), (⟨"LampRacksModel", "lay", "(III)V"⟩, 13), (⟨"LampRacksModel", "moveTo", "(III)V"⟩, 13), (⟨"LampRacksModel", "whyNotVolts", "(II)I"⟩, 13), (⟨"LampRacksModel", "ofRack", "(II)I"⟩, 13), (⟨"LampRacksModel", "stepsNow", "(III)V"⟩, 13)]
theorem lw_r2 : ∀ q ∈ lw_privs_2, lw_okq q := List.forall_mem_cons.mpr ⟨lw_p16, List.forall_mem_cons.mpr ⟨lw_p17, List.forall_mem_cons.mpr ⟨lw_p18, List.forall_mem_cons.mpr ⟨lw_p19, List.forall_mem_cons.mpr ⟨lw_p20, List.forall_mem_cons.mpr ⟨lw_p21, List.forall_mem_cons.mpr ⟨lw_p22, List.forall_mem_cons.mpr ⟨lw_p23, List.forall_mem_cons.mpr ⟨lw_p24, List.forall_mem_cons.mpr ⟨lw_p25, List.forall_mem_cons.mpr ⟨lw_p26, List.forall_mem_cons.mpr ⟨lw_p27, List.forall_mem_cons.mpr ⟨lw_p28, List.forall_mem_cons.mpr ⟨lw_p29, List.forall_mem_cons.mpr ⟨lw_p30, List.forall_mem_cons.mpr ⟨lw_p31, fun _ h => absurd h List.not_mem_nil⟩⟩⟩⟩⟩⟩⟩⟩⟩⟩⟩⟩⟩⟩⟩⟩
theorem lw_p32 : lw_okq (⟨"LampRacksModel", "whyNotPass", "(I)I"⟩, 13) := ⟨⟨by decide +kernel, by decide +kernel⟩, List.mem_of_getElem? (i := 695) (by decide +kernel), List.mem_of_getElem? (i := 844) (by decide +kernel), List.mem_of_getElem? (i := 845) (by decide +kernel)⟩
theorem lw_p33 : lw_okq (⟨"LampRacksModel", "passNow", "(I)I"⟩, 13) := ⟨⟨by decide +kernel, by decide +kernel⟩, List.mem_of_getElem? (i := 695) (by decide +kernel), List.mem_of_getElem? (i := 849) (by decide +kernel), List.mem_of_getElem? (i := 850) (by decide +kernel)⟩
theorem lw_p34 : lw_okq (⟨"LampRacksModel", "anHour", "()I"⟩, 13) := ⟨⟨by decide +kernel, by decide +kernel⟩, List.mem_of_getElem? (i := 695) (by decide +kernel), List.mem_of_getElem? (i := 853) (by decide +kernel), List.mem_of_getElem? (i := 854) (by decide +kernel)⟩
theorem lw_p35 : lw_okq (⟨"LampRacksModel", "burns", "(I)Z"⟩, 13) := ⟨⟨by decide +kernel, by decide +kernel⟩, List.mem_of_getElem? (i := 695) (by decide +kernel), List.mem_of_getElem? (i := 857) (by decide +kernel), List.mem_of_getElem? (i := 858) (by decide +kernel)⟩
theorem lw_p36 : lw_okq (⟨"LampRacksModel", "isDead", "(I)Z"⟩, 13) := ⟨⟨by decide +kernel, by decide +kernel⟩, List.mem_of_getElem? (i := 695) (by decide +kernel), List.mem_of_getElem? (i := 861) (by decide +kernel), List.mem_of_getElem? (i := 862) (by decide +kernel)⟩
theorem lw_p37 : lw_okq (⟨"LampRacksModel", "isHot", "(I)Z"⟩, 13) := ⟨⟨by decide +kernel, by decide +kernel⟩, List.mem_of_getElem? (i := 695) (by decide +kernel), List.mem_of_getElem? (i := 865) (by decide +kernel), List.mem_of_getElem? (i := 866) (by decide +kernel)⟩
theorem lw_p38 : lw_okq (⟨"LampRacksModel", "wearAt", "(IZ)I"⟩, 13) := ⟨⟨by decide +kernel, by decide +kernel⟩, List.mem_of_getElem? (i := 695) (by decide +kernel), List.mem_of_getElem? (i := 869) (by decide +kernel), List.mem_of_getElem? (i := 870) (by decide +kernel)⟩
theorem lw_p39 : lw_okq (⟨"LampRacksModel", "readText", "()Z"⟩, 13) := ⟨⟨by decide +kernel, by decide +kernel⟩, List.mem_of_getElem? (i := 695) (by decide +kernel), List.mem_of_getElem? (i := 885) (by decide +kernel), List.mem_of_getElem? (i := 886) (by decide +kernel)⟩
theorem lw_p40 : lw_okq (⟨"LampRacksModel", "readThing", "()Z"⟩, 13) := ⟨⟨by decide +kernel, by decide +kernel⟩, List.mem_of_getElem? (i := 695) (by decide +kernel), List.mem_of_getElem? (i := 889) (by decide +kernel), List.mem_of_getElem? (i := 890) (by decide +kernel)⟩
theorem lw_p41 : lw_okq (⟨"LampRacksModel", "number", "(III)Z"⟩, 13) := ⟨⟨by decide +kernel, by decide +kernel⟩, List.mem_of_getElem? (i := 695) (by decide +kernel), List.mem_of_getElem? (i := 893) (by decide +kernel), List.mem_of_getElem? (i := 894) (by decide +kernel)⟩
theorem lw_p42 : lw_okq (⟨"LampRacksModel", "sees", "(II)Z"⟩, 13) := ⟨⟨by decide +kernel, by decide +kernel⟩, List.mem_of_getElem? (i := 695) (by decide +kernel), List.mem_of_getElem? (i := 897) (by decide +kernel), List.mem_of_getElem? (i := 898) (by decide +kernel)⟩
theorem lw_p43 : lw_okq (⟨"LampRacksModel", "takes", "(I)Z"⟩, 13) := ⟨⟨by decide +kernel, by decide +kernel⟩, List.mem_of_getElem? (i := 695) (by decide +kernel), List.mem_of_getElem? (i := 901) (by decide +kernel), List.mem_of_getElem? (i := 902) (by decide +kernel)⟩
theorem lw_p44 : lw_okq (⟨"LampRacksModel", "readSteps", "()Z"⟩, 13) := ⟨⟨by decide +kernel, by decide +kernel⟩, List.mem_of_getElem? (i := 695) (by decide +kernel), List.mem_of_getElem? (i := 905) (by decide +kernel), List.mem_of_getElem? (i := 906) (by decide +kernel)⟩
theorem lw_p45 : lw_okq (⟨"LampRacksModel", "whyNot", "(I)I"⟩, 13) := ⟨⟨by decide +kernel, by decide +kernel⟩, List.mem_of_getElem? (i := 695) (by decide +kernel), List.mem_of_getElem? (i := 909) (by decide +kernel), List.mem_of_getElem? (i := 910) (by decide +kernel)⟩
theorem lw_p46 : lw_okq (⟨"LampRacksModel", "doThing", "(I)V"⟩, 13) := ⟨⟨by decide +kernel, by decide +kernel⟩, List.mem_of_getElem? (i := 695) (by decide +kernel), List.mem_of_getElem? (i := 913) (by decide +kernel), List.mem_of_getElem? (i := 914) (by decide +kernel)⟩
theorem lw_p47 : lw_okq (⟨"LampRacksModel", "isLamp", "(I)Z"⟩, 13) := ⟨⟨by decide +kernel, by decide +kernel⟩, List.mem_of_getElem? (i := 695) (by decide +kernel), List.mem_of_getElem? (i := 925) (by decide +kernel), List.mem_of_getElem? (i := 926) (by decide +kernel)⟩
def lw_privs_3 : List (MethodName × Nat) := [(⟨"LampRacksModel", "whyNotPass", "(I)I"⟩, 13), (⟨"LampRacksModel", "passNow", "(I)I"⟩, 13), (⟨"LampRacksModel", "anHour", "()I"⟩, 13), (⟨"LampRacksModel", "burns", "(I)Z"⟩, 13), (⟨"LampRacksModel", "isDead", "(I)Z"⟩, 13), (⟨"LampRacksModel", "isHot", "(I)Z"⟩, 13), (⟨"LampRacksModel", "wearAt", "(IZ)I"⟩, 13), (⟨"LampRacksModel", "readText", "()Z"⟩, 13), (⟨"LampRacksModel", "readThing", "()Z"⟩, 13), (⟨"LampRacksModel", "number", "(III)Z"⟩, 13), (⟨"LampRacksModel", "sees", "(II)Z"⟩, 13), (⟨"LampRacksModel", "takes", "(I)Z"⟩, 13), (⟨"LampRacksModel", "readSteps", "()Z"⟩, 13), (⟨"LampRacksModel", "whyNot", "(I)I"⟩, 13), (⟨"LampRacksModel", "doThing", "(I)V"⟩, 13), (⟨"LampRacksModel", "isLamp", "(I)Z"⟩, 13)]
theorem lw_r3 : ∀ q ∈ lw_privs_3, lw_okq q := List.forall_mem_cons.mpr ⟨lw_p32, List.forall_mem_cons.mpr ⟨lw_p33, List.forall_mem_cons.mpr ⟨lw_p34, List.forall_mem_cons.mpr ⟨lw_p35, List.forall_mem_cons.mpr ⟨lw_p36, List.forall_mem_cons.mpr ⟨lw_p37, List.forall_mem_cons.mpr ⟨lw_p38, List.forall_mem_cons.mpr ⟨lw_p39, List.forall_mem_cons.mpr ⟨lw_p40, List.forall_mem_cons.mpr ⟨lw_p41, List.forall_mem_cons.mpr ⟨lw_p42, List.forall_mem_cons.mpr ⟨lw_p43, List.forall_mem_cons.mpr ⟨lw_p44, List.forall_mem_cons.mpr ⟨lw_p45, List.forall_mem_cons.mpr ⟨lw_p46, List.forall_mem_cons.mpr ⟨lw_p47, fun _ h => absurd h List.not_mem_nil⟩⟩⟩⟩⟩⟩⟩⟩⟩⟩⟩⟩⟩⟩⟩⟩
theorem lw_p48 : lw_okq (⟨"LampRacksModel", "counts", "(I)I"⟩, 13) := ⟨⟨by decide +kernel, by decide +kernel⟩, List.mem_of_getElem? (i := 695) (by decide +kernel), List.mem_of_getElem? (i := 929) (by decide +kernel), List.mem_of_getElem? (i := 930) (by decide +kernel)⟩
theorem lw_p49 : lw_okq (⟨"LampRacksModel", "lampsIn", "(IZ)I"⟩, 13) := ⟨⟨by decide +kernel, by decide +kernel⟩, List.mem_of_getElem? (i := 695) (by decide +kernel), List.mem_of_getElem? (i := 937) (by decide +kernel), List.mem_of_getElem? (i := 938) (by decide +kernel)⟩
theorem lw_p50 : lw_okq (⟨"LampRacksModel", "lampsOf", "(III)I"⟩, 13) := ⟨⟨by decide +kernel, by decide +kernel⟩, List.mem_of_getElem? (i := 695) (by decide +kernel), List.mem_of_getElem? (i := 949) (by decide +kernel), List.mem_of_getElem? (i := 950) (by decide +kernel)⟩
theorem lw_p51 : lw_okq (⟨"LampRacksModel", "early", "(I)I"⟩, 13) := ⟨⟨by decide +kernel, by decide +kernel⟩, List.mem_of_getElem? (i := 695) (by decide +kernel), List.mem_of_getElem? (i := 953) (by decide +kernel), List.mem_of_getElem? (i := 954) (by decide +kernel)⟩
theorem lw_p52 : lw_okq (⟨"LampRacksModel", "middleLife", "(I)I"⟩, 13) := ⟨⟨by decide +kernel, by decide +kernel⟩, List.mem_of_getElem? (i := 695) (by decide +kernel), List.mem_of_getElem? (i := 957) (by decide +kernel), List.mem_of_getElem? (i := 958) (by decide +kernel)⟩
theorem lw_p53 : lw_okq (⟨"LampRacksModel", "endsAhead", "(I)I"⟩, 13) := ⟨⟨by decide +kernel, by decide +kernel⟩, List.mem_of_getElem? (i := 695) (by decide +kernel), List.mem_of_getElem? (i := 969) (by decide +kernel), List.mem_of_getElem? (i := 970) (by decide +kernel)⟩
theorem lw_p54 : lw_okq (⟨"LampRacksModel", "firstEndedAt", "(I)I"⟩, 13) := ⟨⟨by decide +kernel, by decide +kernel⟩, List.mem_of_getElem? (i := 695) (by decide +kernel), List.mem_of_getElem? (i := 985) (by decide +kernel), List.mem_of_getElem? (i := 986) (by decide +kernel)⟩
theorem lw_p55 : lw_okq (⟨"LampRacksModel", "burning", "()I"⟩, 13) := ⟨⟨by decide +kernel, by decide +kernel⟩, List.mem_of_getElem? (i := 695) (by decide +kernel), List.mem_of_getElem? (i := 993) (by decide +kernel), List.mem_of_getElem? (i := 994) (by decide +kernel)⟩
theorem lw_p56 : lw_okq (⟨"LampRacksModel", "dead", "()I"⟩, 13) := ⟨⟨by decide +kernel, by decide +kernel⟩, List.mem_of_getElem? (i := 695) (by decide +kernel), List.mem_of_getElem? (i := 997) (by decide +kernel), List.mem_of_getElem? (i := 998) (by decide +kernel)⟩
theorem lw_p57 : lw_okq (⟨"LampRacksModel", "sum", "(I)I"⟩, 13) := ⟨⟨by decide +kernel, by decide +kernel⟩, List.mem_of_getElem? (i := 695) (by decide +kernel), List.mem_of_getElem? (i := 1001) (by decide +kernel), List.mem_of_getElem? (i := 1002) (by decide +kernel)⟩
def lw_privs_4 : List (MethodName × Nat) := [(⟨"LampRacksModel", "counts", "(I)I"⟩, 13), (⟨"LampRacksModel", "lampsIn", "(IZ)I"⟩, 13), (⟨"LampRacksModel", "lampsOf", "(III)I"⟩, 13), (⟨"LampRacksModel", "early", "(I)I"⟩, 13), (⟨"LampRacksModel", "middleLife", "(I)I"⟩, 13), (⟨"LampRacksModel", "endsAhead", "(I)I"⟩, 13), (⟨"LampRacksModel", "firstEndedAt", "(I)I"⟩, 13), (⟨"LampRacksModel", "burning", "()I"⟩, 13), (⟨"LampRacksModel", "dead", "()I"⟩, 13), (⟨"LampRacksModel", "sum", "(I)I"⟩, 13)]
theorem lw_r4 : ∀ q ∈ lw_privs_4, lw_okq q := List.forall_mem_cons.mpr ⟨lw_p48, List.forall_mem_cons.mpr ⟨lw_p49, List.forall_mem_cons.mpr ⟨lw_p50, List.forall_mem_cons.mpr ⟨lw_p51, List.forall_mem_cons.mpr ⟨lw_p52, List.forall_mem_cons.mpr ⟨lw_p53, List.forall_mem_cons.mpr ⟨lw_p54, List.forall_mem_cons.mpr ⟨lw_p55, List.forall_mem_cons.mpr ⟨lw_p56, List.forall_mem_cons.mpr ⟨lw_p57, fun _ h => absurd h List.not_mem_nil⟩⟩⟩⟩⟩⟩⟩⟩⟩⟩
def lw_privs : List (MethodName × Nat) := lw_privs_1 ++ (lw_privs_2 ++ (lw_privs_3 ++ (lw_privs_4)))
def lw_tbl : List Cond := k2_sels lw_privs ++ tables_1
theorem lw_privs_ok : ∀ q ∈ lw_privs, lw_okq q := by
  show ∀ q ∈ lw_privs_1 ++ (lw_privs_2 ++ (lw_privs_3 ++ (lw_privs_4))), lw_okq q
  exact List.forall_mem_append.mpr ⟨lw_r1, List.forall_mem_append.mpr ⟨lw_r2, List.forall_mem_append.mpr ⟨lw_r3, lw_r4⟩⟩⟩
end
section
/-! ===== BEGIN words of one list among another's, by their places ===== -/
theorem goodIn_r {big : List Cond} (ws : List Cond) (ps : List Nat) (hp : ws = ps.filterMap (fun i => big[i]?)) (h : ws.all goodWord = true) : GoodIn big ws := by
  intro w hw
  have h1 := List.all_eq_true.mp h w hw
  rw [hp] at hw
  obtain ⟨i, -, hi⟩ := List.mem_filterMap.mp hw
  have hm : w ∈ big := by first | exact List.mem_of_getElem? hi | exact List.getElem?_mem hi
  exact ⟨hm, good_of_word h1⟩
theorem goodIn_app {big a b : List Cond} (ha : GoodIn big a) (hb : GoodIn big b) : GoodIn big (a ++ b) := fun w h => (List.mem_append.mp h).elim (ha w) (hb w)
theorem goodIn_ca {big a b : List Cond} {c : Cond} (ha : GoodIn big (c :: a)) (hb : GoodIn big b) : GoodIn big (c :: (a ++ b)) := fun w h => (List.mem_cons.mp h).elim (fun e => ha w (List.mem_cons.mpr (Or.inl e))) (fun h => (List.mem_append.mp h).elim (fun h => ha w (List.mem_cons.mpr (Or.inr h))) (hb w))
theorem goodIn_sub {big ws : List Cond} (hm : ∀ w ∈ ws, w ∈ big) (h : ws.all goodWord = true) : GoodIn big ws := fun w hw => ⟨hm w hw, good_of_word (List.all_eq_true.mp h w hw)⟩
/-! ===== END ===== -/

/-! ===== BEGIN printed: names, fields, word lists, decode rows ===== -/
def RX0 : String := "LampRacks$Batches"
def TX0 : u_T := fun k => match k with
  | 0 => ("LampRacks$Batches", "life", "[I", true)
  | _ => ("LampRacks$Batches", "spread", "[I", true)
def tyX0 : Nat → FieldType := fun k => match k with
  | 0 => .array .int
  | _ => .array .int
abbrev wsX00 : List Cond := u_ws RX0 TX0 2
theorem nmX0 : ∀ a, a < 2 → ∀ b, b < 2 → a ≠ b → (TX0 a).2.1 ≠ (TX0 b).2.1 := by decide +kernel
theorem tyX0_ok : ∀ k, k < 2 → parseFieldDescriptor (TX0 k).2.2.1 = some (tyX0 k) := by decide +kernel
abbrev cX0_init : ByteArray := prog_2_method_1_code
def yX0_init : MethodName := ⟨RX0, "<init>", "()V"⟩
abbrev cX0_copyFrom : ByteArray := prog_2_method_2_code
def yX0_copyFrom : MethodName := ⟨RX0, "copyFrom", "(LLampRacks$Batches;)V"⟩
abbrev cX0_hoursOfLamp : ByteArray := prog_2_method_3_code
def yX0_hoursOfLamp : MethodName := ⟨RX0, "hoursOfLamp", "(II)I"⟩
def RX1 : String := "LampRacks$History"
def TX1 : u_T := fun k => match k with
  | 0 => ("LampRacks$History", "size", "I", false)
  | _ => ("LampRacks$History", "states", "[LLampRacks$State;", true)
def tyX1 : Nat → FieldType := fun k => match k with
  | 0 => .int
  | _ => .array (.object "LampRacks$State")
abbrev wsX10 : List Cond := u_ws RX1 TX1 2
theorem nmX1 : ∀ a, a < 2 → ∀ b, b < 2 → a ≠ b → (TX1 a).2.1 ≠ (TX1 b).2.1 := by decide +kernel
theorem tyX1_ok : ∀ k, k < 2 → parseFieldDescriptor (TX1 k).2.2.1 = some (tyX1 k) := by decide +kernel
abbrev cX1_init : ByteArray := prog_3_method_1_code
def yX1_init : MethodName := ⟨RX1, "<init>", "()V"⟩
abbrev cX1_append : ByteArray := prog_3_method_2_code
def yX1_append : MethodName := ⟨RX1, "append", "(LLampRacks$State;)V"⟩
abbrev cX1_dropOldest : ByteArray := prog_3_method_3_code
def yX1_dropOldest : MethodName := ⟨RX1, "dropOldest", "()V"⟩
abbrev cX1_moveLatestTo : ByteArray := prog_3_method_4_code
def yX1_moveLatestTo : MethodName := ⟨RX1, "moveLatestTo", "(LLampRacks$State;)V"⟩
def RX2 : String := "LampRacks$Lamps"
def TX2 : u_T := fun k => match k with
  | 0 => ("LampRacks$Lamps", "size", "I", false)
  | 1 => ("LampRacks$Lamps", "batch", "[I", true)
  | 2 => ("LampRacks$Lamps", "spot", "[I", true)
  | 3 => ("LampRacks$Lamps", "canLast", "[I", true)
  | 4 => ("LampRacks$Lamps", "wear", "[I", true)
  | 5 => ("LampRacks$Lamps", "burned", "[I", true)
  | _ => ("LampRacks$Lamps", "end", "[I", true)
def tyX2 : Nat → FieldType := fun k => match k with
  | 0 => .int
  | 1 => .array .int
  | 2 => .array .int
  | 3 => .array .int
  | 4 => .array .int
  | 5 => .array .int
  | _ => .array .int
abbrev wsX20 : List Cond := u_ws RX2 TX2 7
theorem nmX2 : ∀ a, a < 7 → ∀ b, b < 7 → a ≠ b → (TX2 a).2.1 ≠ (TX2 b).2.1 := by decide +kernel
theorem tyX2_ok : ∀ k, k < 7 → parseFieldDescriptor (TX2 k).2.2.1 = some (tyX2 k) := by decide +kernel
abbrev cX2_init : ByteArray := prog_4_method_1_code
def yX2_init : MethodName := ⟨RX2, "<init>", "()V"⟩
abbrev cX2_copyFrom : ByteArray := prog_4_method_2_code
def yX2_copyFrom : MethodName := ⟨RX2, "copyFrom", "(LLampRacks$Lamps;)V"⟩
abbrev cX2_has : ByteArray := prog_4_method_3_code
def yX2_has : MethodName := ⟨RX2, "has", "(I)Z"⟩
abbrev cX2_isFull : ByteArray := prog_4_method_4_code
def yX2_isFull : MethodName := ⟨RX2, "isFull", "()Z"⟩
abbrev cX2_append : ByteArray := prog_4_method_5_code
def yX2_append : MethodName := ⟨RX2, "append", "(III)I"⟩
abbrev cX2_isDead : ByteArray := prog_4_method_6_code
def yX2_isDead : MethodName := ⟨RX2, "isDead", "(I)Z"⟩
abbrev cX2_isDeadOf : ByteArray := prog_4_method_7_code
def yX2_isDeadOf : MethodName := ⟨RX2, "isDeadOf", "(II)Z"⟩
abbrev cX2_hoursCounted : ByteArray := prog_4_method_8_code
def yX2_hoursCounted : MethodName := ⟨RX2, "hoursCounted", "(I)I"⟩
abbrev cX2_hoursLeft : ByteArray := prog_4_method_9_code
def yX2_hoursLeft : MethodName := ⟨RX2, "hoursLeft", "(II)I"⟩
abbrev cX2_burn : ByteArray := prog_4_method_10_code
def yX2_burn : MethodName := ⟨RX2, "burn", "(III)V"⟩
abbrev cX2_countOf : ByteArray := prog_4_method_11_code
def yX2_countOf : MethodName := ⟨RX2, "countOf", "(I)I"⟩
abbrev cX2_countDeadOf : ByteArray := prog_4_method_12_code
def yX2_countDeadOf : MethodName := ⟨RX2, "countDeadOf", "(I)I"⟩
abbrev cX2_countDeadBelow : ByteArray := prog_4_method_13_code
def yX2_countDeadBelow : MethodName := ⟨RX2, "countDeadBelow", "(II)I"⟩
abbrev cX2_countThatLasted : ByteArray := prog_4_method_14_code
def yX2_countThatLasted : MethodName := ⟨RX2, "countThatLasted", "(II)I"⟩
abbrev cX2_countDead : ByteArray := prog_4_method_15_code
def yX2_countDead : MethodName := ⟨RX2, "countDead", "()I"⟩
abbrev cX2_countInRacks : ByteArray := prog_4_method_16_code
def yX2_countInRacks : MethodName := ⟨RX2, "countInRacks", "()I"⟩
abbrev cX2_countWeak : ByteArray := prog_4_method_17_code
def yX2_countWeak : MethodName := ⟨RX2, "countWeak", "()I"⟩
abbrev cX2_sumOf : ByteArray := prog_4_method_18_code
def yX2_sumOf : MethodName := ⟨RX2, "sumOf", "([I)I"⟩
abbrev cX2_findEnded : ByteArray := prog_4_method_19_code
def yX2_findEnded : MethodName := ⟨RX2, "findEnded", "(I)I"⟩
abbrev cX2_countEndedBefore : ByteArray := prog_4_method_20_code
def yX2_countEndedBefore : MethodName := ⟨RX2, "countEndedBefore", "(I)I"⟩
abbrev cX2_findFirstEndedAfter : ByteArray := prog_4_method_21_code
def yX2_findFirstEndedAfter : MethodName := ⟨RX2, "findFirstEndedAfter", "(I)I"⟩
abbrev cX2_middleLife : ByteArray := prog_4_method_22_code
def yX2_middleLife : MethodName := ⟨RX2, "middleLife", "(I)I"⟩
abbrev cX2_countShorterOf : ByteArray := prog_4_method_23_code
def yX2_countShorterOf : MethodName := ⟨RX2, "countShorterOf", "(II)I"⟩
def RX3 : String := "LampRacks$Racks"
def TX3 : u_T := fun k => match k with
  | 0 => ("LampRacks$Racks", "lampAt", "[I", true)
  | 1 => ("LampRacks$Racks", "volts", "[I", true)
  | 2 => ("LampRacks$Racks", "stepHours", "[I", true)
  | 3 => ("LampRacks$Racks", "stepVolts", "[I", true)
  | _ => ("LampRacks$Racks", "hoursOfStep", "[I", true)
def tyX3 : Nat → FieldType := fun k => match k with
  | 0 => .array .int
  | 1 => .array .int
  | 2 => .array .int
  | 3 => .array .int
  | _ => .array .int
abbrev wsX30 : List Cond := u_ws RX3 TX3 5
theorem nmX3 : ∀ a, a < 5 → ∀ b, b < 5 → a ≠ b → (TX3 a).2.1 ≠ (TX3 b).2.1 := by decide +kernel
theorem tyX3_ok : ∀ k, k < 5 → parseFieldDescriptor (TX3 k).2.2.1 = some (tyX3 k) := by decide +kernel
abbrev cX3_init : ByteArray := prog_5_method_1_code
def yX3_init : MethodName := ⟨RX3, "<init>", "()V"⟩
abbrev cX3_copyFrom : ByteArray := prog_5_method_2_code
def yX3_copyFrom : MethodName := ⟨RX3, "copyFrom", "(LLampRacks$Racks;)V"⟩
abbrev cX3_isDark : ByteArray := prog_5_method_3_code
def yX3_isDark : MethodName := ⟨RX3, "isDark", "(I)Z"⟩
abbrev cX3_voltsAfterStep : ByteArray := prog_5_method_4_code
def yX3_voltsAfterStep : MethodName := ⟨RX3, "voltsAfterStep", "(I)I"⟩
abbrev cX3_hoursToStep : ByteArray := prog_5_method_5_code
def yX3_hoursToStep : MethodName := ⟨RX3, "hoursToStep", "(I)I"⟩
abbrev cX3_hoursAtSameVolts : ByteArray := prog_5_method_6_code
def yX3_hoursAtSameVolts : MethodName := ⟨RX3, "hoursAtSameVolts", "(II)I"⟩
abbrev cX3_countHours : ByteArray := prog_5_method_7_code
def yX3_countHours : MethodName := ⟨RX3, "countHours", "(II)V"⟩
def RX4 : String := "LampRacks$State"
def TX4 : u_T := fun k => match k with
  | 0 => ("LampRacks$State", "hour", "I", false)
  | 1 => ("LampRacks$State", "wantedVolts", "I", false)
  | 2 => ("LampRacks$State", "doublingVolts", "I", false)
  | 3 => ("LampRacks$State", "batches", "LLampRacks$Batches;", true)
  | 4 => ("LampRacks$State", "lamps", "LLampRacks$Lamps;", true)
  | _ => ("LampRacks$State", "racks", "LLampRacks$Racks;", true)
def tyX4 : Nat → FieldType := fun k => match k with
  | 0 => .int
  | 1 => .int
  | 2 => .int
  | 3 => .object "LampRacks$Batches"
  | 4 => .object "LampRacks$Lamps"
  | _ => .object "LampRacks$Racks"
abbrev wsX40 : List Cond := u_ws RX4 TX4 6
theorem nmX4 : ∀ a, a < 6 → ∀ b, b < 6 → a ≠ b → (TX4 a).2.1 ≠ (TX4 b).2.1 := by decide +kernel
theorem tyX4_ok : ∀ k, k < 6 → parseFieldDescriptor (TX4 k).2.2.1 = some (tyX4 k) := by decide +kernel
abbrev cX4_init : ByteArray := prog_6_method_1_code
def yX4_init : MethodName := ⟨RX4, "<init>", "()V"⟩
abbrev cX4_copyFrom : ByteArray := prog_6_method_2_code
def yX4_copyFrom : MethodName := ⟨RX4, "copyFrom", "(LLampRacks$State;)V"⟩
abbrev cX4_changeBatch : ByteArray := prog_6_method_3_code
def yX4_changeBatch : MethodName := ⟨RX4, "changeBatch", "(III)I"⟩
abbrev cX4_insertLamp : ByteArray := prog_6_method_4_code
def yX4_insertLamp : MethodName := ⟨RX4, "insertLamp", "(III)I"⟩
abbrev cX4_removeLamp : ByteArray := prog_6_method_5_code
def yX4_removeLamp : MethodName := ⟨RX4, "removeLamp", "(II)I"⟩
abbrev cX4_exchange : ByteArray := prog_6_method_6_code
def yX4_exchange : MethodName := ⟨RX4, "exchange", "(IIII)I"⟩
abbrev cX4_moveTo : ByteArray := prog_6_method_7_code
def yX4_moveTo : MethodName := ⟨RX4, "moveTo", "(II)I"⟩
abbrev cX4_changeVolts : ByteArray := prog_6_method_8_code
def yX4_changeVolts : MethodName := ⟨RX4, "changeVolts", "(II)I"⟩
abbrev cX4_changeSteps : ByteArray := prog_6_method_9_code
def yX4_changeSteps : MethodName := ⟨RX4, "changeSteps", "(III)I"⟩
abbrev cX4_changeSetting : ByteArray := prog_6_method_10_code
def yX4_changeSetting : MethodName := ⟨RX4, "changeSetting", "(II)I"⟩
abbrev cX4_changeWantedVolts : ByteArray := prog_6_method_11_code
def yX4_changeWantedVolts : MethodName := ⟨RX4, "changeWantedVolts", "(I)I"⟩
abbrev cX4_changeDoublingVolts : ByteArray := prog_6_method_12_code
def yX4_changeDoublingVolts : MethodName := ⟨RX4, "changeDoublingVolts", "(I)I"⟩
abbrev cX4_letPass : ByteArray := prog_6_method_13_code
def yX4_letPass : MethodName := ⟨RX4, "letPass", "(I)I"⟩
abbrev cX4_passHours : ByteArray := prog_6_method_14_code
def yX4_passHours : MethodName := ⟨RX4, "passHours", "(I)I"⟩
abbrev cX4_passHoursOfRack : ByteArray := prog_6_method_15_code
def yX4_passHoursOfRack : MethodName := ⟨RX4, "passHoursOfRack", "(II)I"⟩
abbrev cX4_burnRack : ByteArray := prog_6_method_16_code
def yX4_burnRack : MethodName := ⟨RX4, "burnRack", "(III)I"⟩
abbrev cX4_wearOfHour : ByteArray := prog_6_method_17_code
def yX4_wearOfHour : MethodName := ⟨RX4, "wearOfHour", "(IZ)I"⟩
abbrev cX4_whyDark : ByteArray := prog_6_method_18_code
def yX4_whyDark : MethodName := ⟨RX4, "whyDark", "(I)I"⟩
abbrev cX4_tellOfLamp : ByteArray := prog_6_method_19_code
def yX4_tellOfLamp : MethodName := ⟨RX4, "tellOfLamp", "(II)I"⟩
abbrev cX4_tellOfRack : ByteArray := prog_6_method_20_code
def yX4_tellOfRack : MethodName := ⟨RX4, "tellOfRack", "(II)I"⟩
abbrev cX4_countInRack : ByteArray := prog_6_method_21_code
def yX4_countInRack : MethodName := ⟨RX4, "countInRack", "(IZ)I"⟩
abbrev cX4_tellOfBatch : ByteArray := prog_6_method_22_code
def yX4_tellOfBatch : MethodName := ⟨RX4, "tellOfBatch", "(II)I"⟩
abbrev cX4_tellOfAll : ByteArray := prog_6_method_23_code
def yX4_tellOfAll : MethodName := ⟨RX4, "tellOfAll", "(I)I"⟩
abbrev cX4_countBurning : ByteArray := prog_6_method_24_code
def yX4_countBurning : MethodName := ⟨RX4, "countBurning", "()I"⟩
def RX5 : String := "LampRacks$Text"
def TX5 : u_T := fun k => match k with
  | 0 => ("LampRacks$Text", "length", "I", false)
  | 1 => ("LampRacks$Text", "characters", "[C", true)
  | 2 => ("LampRacks$Text", "position", "I", false)
  | 3 => ("LampRacks$Text", "things", "I", false)
  | 4 => ("LampRacks$Text", "kind", "I", false)
  | 5 => ("LampRacks$Text", "rack", "I", false)
  | 6 => ("LampRacks$Text", "place", "I", false)
  | 7 => ("LampRacks$Text", "hours", "I", false)
  | 8 => ("LampRacks$Text", "direction", "I", false)
  | _ => ("LampRacks$Text", "number", "I", false)
def tyX5 : Nat → FieldType := fun k => match k with
  | 0 => .int
  | 1 => .array .char
  | 2 => .int
  | 3 => .int
  | 4 => .int
  | 5 => .int
  | 6 => .int
  | 7 => .int
  | 8 => .int
  | _ => .int
abbrev wsX50 : List Cond := u_ws RX5 TX5 10
theorem nmX5 : ∀ a, a < 10 → ∀ b, b < 10 → a ≠ b → (TX5 a).2.1 ≠ (TX5 b).2.1 := by decide +kernel
theorem tyX5_ok : ∀ k, k < 10 → parseFieldDescriptor (TX5 k).2.2.1 = some (tyX5 k) := by decide +kernel
abbrev cX5_init : ByteArray := prog_7_method_1_code
def yX5_init : MethodName := ⟨RX5, "<init>", "()V"⟩
abbrev cX5_append : ByteArray := prog_7_method_2_code
def yX5_append : MethodName := ⟨RX5, "append", "(C)I"⟩
abbrev cX5_empty : ByteArray := prog_7_method_3_code
def yX5_empty : MethodName := ⟨RX5, "empty", "()I"⟩
abbrev cX5_startReading : ByteArray := prog_7_method_4_code
def yX5_startReading : MethodName := ⟨RX5, "startReading", "()V"⟩
abbrev cX5_findFault : ByteArray := prog_7_method_5_code
def yX5_findFault : MethodName := ⟨RX5, "findFault", "()I"⟩
abbrev cX5_readThing : ByteArray := prog_7_method_6_code
def yX5_readThing : MethodName := ⟨RX5, "readThing", "()Z"⟩
abbrev cX5_readSign : ByteArray := prog_7_method_7_code
def yX5_readSign : MethodName := ⟨RX5, "readSign", "(C)Z"⟩
abbrev cX5_current : ByteArray := prog_7_method_8_code
def yX5_current : MethodName := ⟨RX5, "current", "()I"⟩
abbrev cX5_readSpot : ByteArray := prog_7_method_9_code
def yX5_readSpot : MethodName := ⟨RX5, "readSpot", "()Z"⟩
abbrev cX5_readRackAndColon : ByteArray := prog_7_method_10_code
def yX5_readRackAndColon : MethodName := ⟨RX5, "readRackAndColon", "()Z"⟩
abbrev cX5_readRack : ByteArray := prog_7_method_11_code
def yX5_readRack : MethodName := ⟨RX5, "readRack", "()Z"⟩
abbrev cX5_readSteps : ByteArray := prog_7_method_12_code
def yX5_readSteps : MethodName := ⟨RX5, "readSteps", "()Z"⟩
abbrev cX5_readDirection : ByteArray := prog_7_method_13_code
def yX5_readDirection : MethodName := ⟨RX5, "readDirection", "()Z"⟩
abbrev cX5_readDigit : ByteArray := prog_7_method_14_code
def yX5_readDigit : MethodName := ⟨RX5, "readDigit", "(I)Z"⟩
abbrev cX5_readNumber : ByteArray := prog_7_method_15_code
def yX5_readNumber : MethodName := ⟨RX5, "readNumber", "(II)Z"⟩
abbrev cX5_isNextDigit : ByteArray := prog_7_method_16_code
def yX5_isNextDigit : MethodName := ⟨RX5, "isNextDigit", "(I)Z"⟩
def RX6 : String := "LampRacks"
def TX6 : u_T := fun k => match k with
  | 0 => ("LampRacks", "now", "LLampRacks$State;", true)
  | 1 => ("LampRacks", "before", "LLampRacks$State;", true)
  | 2 => ("LampRacks", "ahead", "LLampRacks$State;", true)
  | 3 => ("LampRacks", "snapshot", "LLampRacks$State;", true)
  | 4 => ("LampRacks", "hasSnapshot", "Z", false)
  | 5 => ("LampRacks", "history", "LLampRacks$History;", true)
  | 6 => ("LampRacks", "text", "LLampRacks$Text;", true)
  | 7 => ("LampRacks", "stoppedThing", "I", false)
  | _ => ("LampRacks", "stoppedError", "I", false)
def tyX6 : Nat → FieldType := fun k => match k with
  | 0 => .object "LampRacks$State"
  | 1 => .object "LampRacks$State"
  | 2 => .object "LampRacks$State"
  | 3 => .object "LampRacks$State"
  | 4 => .boolean
  | 5 => .object "LampRacks$History"
  | 6 => .object "LampRacks$Text"
  | 7 => .int
  | _ => .int
abbrev wsX60 : List Cond := u_ws RX6 TX6 9
theorem nmX6 : ∀ a, a < 9 → ∀ b, b < 9 → a ≠ b → (TX6 a).2.1 ≠ (TX6 b).2.1 := by decide +kernel
theorem tyX6_ok : ∀ k, k < 9 → parseFieldDescriptor (TX6 k).2.2.1 = some (tyX6 k) := by decide +kernel
abbrev cX6_init : ByteArray := prog_1_method_1_code
def yX6_init : MethodName := ⟨RX6, "<init>", "()V"⟩
abbrev cX6_setBatch : ByteArray := prog_1_method_2_code
def yX6_setBatch : MethodName := ⟨RX6, "setBatch", "(III)I"⟩
abbrev cX6_put : ByteArray := prog_1_method_3_code
def yX6_put : MethodName := ⟨RX6, "put", "(III)I"⟩
abbrev cX6_takeOut : ByteArray := prog_1_method_4_code
def yX6_takeOut : MethodName := ⟨RX6, "takeOut", "(II)I"⟩
abbrev cX6_swap : ByteArray := prog_1_method_5_code
def yX6_swap : MethodName := ⟨RX6, "swap", "(IIII)I"⟩
abbrev cX6_setVolts : ByteArray := prog_1_method_6_code
def yX6_setVolts : MethodName := ⟨RX6, "setVolts", "(II)I"⟩
abbrev cX6_setSteps : ByteArray := prog_1_method_7_code
def yX6_setSteps : MethodName := ⟨RX6, "setSteps", "(III)I"⟩
abbrev cX6_set : ByteArray := prog_1_method_8_code
def yX6_set : MethodName := ⟨RX6, "set", "(II)I"⟩
abbrev cX6_pass : ByteArray := prog_1_method_9_code
def yX6_pass : MethodName := ⟨RX6, "pass", "(I)I"⟩
abbrev cX6_type : ByteArray := prog_1_method_10_code
def yX6_type : MethodName := ⟨RX6, "type", "(C)I"⟩
abbrev cX6_clearText : ByteArray := prog_1_method_11_code
def yX6_clearText : MethodName := ⟨RX6, "clearText", "()I"⟩
abbrev cX6_perform : ByteArray := prog_1_method_12_code
def yX6_perform : MethodName := ⟨RX6, "perform", "()I"⟩
abbrev cX6_stopped : ByteArray := prog_1_method_13_code
def yX6_stopped : MethodName := ⟨RX6, "stopped", "(I)I"⟩
abbrev cX6_undo : ByteArray := prog_1_method_14_code
def yX6_undo : MethodName := ⟨RX6, "undo", "()I"⟩
abbrev cX6_keep : ByteArray := prog_1_method_15_code
def yX6_keep : MethodName := ⟨RX6, "keep", "()I"⟩
abbrev cX6_restore : ByteArray := prog_1_method_16_code
def yX6_restore : MethodName := ⟨RX6, "restore", "()I"⟩
abbrev cX6_lamp : ByteArray := prog_1_method_17_code
def yX6_lamp : MethodName := ⟨RX6, "lamp", "(II)I"⟩
abbrev cX6_rack : ByteArray := prog_1_method_18_code
def yX6_rack : MethodName := ⟨RX6, "rack", "(II)I"⟩
abbrev cX6_at : ByteArray := prog_1_method_19_code
def yX6_at : MethodName := ⟨RX6, "at", "(II)I"⟩
abbrev cX6_batch : ByteArray := prog_1_method_20_code
def yX6_batch : MethodName := ⟨RX6, "batch", "(II)I"⟩
abbrev cX6_lasted : ByteArray := prog_1_method_21_code
def yX6_lasted : MethodName := ⟨RX6, "lasted", "(II)I"⟩
abbrev cX6_ended : ByteArray := prog_1_method_22_code
def yX6_ended : MethodName := ⟨RX6, "ended", "(I)I"⟩
abbrev cX6_lasts : ByteArray := prog_1_method_23_code
def yX6_lasts : MethodName := ⟨RX6, "lasts", "(II)I"⟩
abbrev cX6_reason : ByteArray := prog_1_method_24_code
def yX6_reason : MethodName := ⟨RX6, "reason", "(I)I"⟩
abbrev cX6_next : ByteArray := prog_1_method_25_code
def yX6_next : MethodName := ⟨RX6, "next", "(I)I"⟩
abbrev cX6_count : ByteArray := prog_1_method_26_code
def yX6_count : MethodName := ⟨RX6, "count", "(I)I"⟩
abbrev cX6_recorded : ByteArray := prog_1_method_27_code
def yX6_recorded : MethodName := ⟨RX6, "recorded", "(I)I"⟩
abbrev cX6_doThing : ByteArray := prog_1_method_28_code
def yX6_doThing : MethodName := ⟨RX6, "doThing", "()I"⟩
abbrev cX6_isError : ByteArray := prog_1_method_29_code
def yX6_isError : MethodName := ⟨RX6, "isError", "(I)Z"⟩
abbrev cX6_isWithin : ByteArray := prog_1_method_30_code
def yX6_isWithin : MethodName := ⟨RX6, "isWithin", "(III)Z"⟩
abbrev cX6_isBatch : ByteArray := prog_1_method_31_code
def yX6_isBatch : MethodName := ⟨RX6, "isBatch", "(I)Z"⟩
abbrev cX6_isRack : ByteArray := prog_1_method_32_code
def yX6_isRack : MethodName := ⟨RX6, "isRack", "(I)Z"⟩
abbrev cX6_isPlace : ByteArray := prog_1_method_33_code
def yX6_isPlace : MethodName := ⟨RX6, "isPlace", "(II)Z"⟩
abbrev cX6_spotOf : ByteArray := prog_1_method_34_code
def yX6_spotOf : MethodName := ⟨RX6, "spotOf", "(II)I"⟩
abbrev cX6_isHot : ByteArray := prog_1_method_35_code
def yX6_isHot : MethodName := ⟨RX6, "isHot", "(I)Z"⟩
abbrev cX6_shareOf : ByteArray := prog_1_method_36_code
def yX6_shareOf : MethodName := ⟨RX6, "shareOf", "(I)I"⟩
abbrev cX6_isWeak : ByteArray := prog_1_method_37_code
def yX6_isWeak : MethodName := ⟨RX6, "isWeak", "(I)Z"⟩
abbrev cX6_oneIf : ByteArray := prog_1_method_38_code
def yX6_oneIf : MethodName := ⟨RX6, "oneIf", "(Z)I"⟩
abbrev cX6_copy : ByteArray := prog_1_method_39_code
def yX6_copy : MethodName := ⟨RX6, "copy", "([I[I)V"⟩
def RX7 : String := "LampRacksModel"
def TX7 : u_T := fun k => match k with
  | 0 => ("LampRacksModel", "z", "[I", true)
  | 1 => ("LampRacksModel", "spare", "[I", true)
  | 2 => ("LampRacksModel", "past", "[I", true)
  | 3 => ("LampRacksModel", "states", "I", false)
  | 4 => ("LampRacksModel", "kept", "[I", true)
  | 5 => ("LampRacksModel", "isKept", "Z", false)
  | 6 => ("LampRacksModel", "text", "[I", true)
  | 7 => ("LampRacksModel", "length", "I", false)
  | 8 => ("LampRacksModel", "stopNumber", "I", false)
  | 9 => ("LampRacksModel", "stopError", "I", false)
  | 10 => ("LampRacksModel", "told", "[I", true)
  | 11 => ("LampRacksModel", "toldMany", "I", false)
  | _ => ("LampRacksModel", "spot", "I", false)
def tyX7 : Nat → FieldType := fun k => match k with
  | 0 => .array .int
  | 1 => .array .int
  | 2 => .array .int
  | 3 => .int
  | 4 => .array .int
  | 5 => .boolean
  | 6 => .array .int
  | 7 => .int
  | 8 => .int
  | 9 => .int
  | 10 => .array .int
  | 11 => .int
  | _ => .int
abbrev wsX70 : List Cond := u_ws RX7 TX7 13
theorem nmX7 : ∀ a, a < 13 → ∀ b, b < 13 → a ≠ b → (TX7 a).2.1 ≠ (TX7 b).2.1 := by decide +kernel
theorem tyX7_ok : ∀ k, k < 13 → parseFieldDescriptor (TX7 k).2.2.1 = some (tyX7 k) := by decide +kernel
abbrev cX7_init : ByteArray := prog_9_method_1_code
def yX7_init : MethodName := ⟨RX7, "<init>", "()V"⟩
abbrev cX7_in : ByteArray := prog_9_method_2_code
def yX7_in : MethodName := ⟨RX7, "in", "(III)Z"⟩
abbrev cX7_isRack : ByteArray := prog_9_method_3_code
def yX7_isRack : MethodName := ⟨RX7, "isRack", "(I)Z"⟩
abbrev cX7_isPlace : ByteArray := prog_9_method_4_code
def yX7_isPlace : MethodName := ⟨RX7, "isPlace", "(I)Z"⟩
abbrev cX7_isBatch : ByteArray := prog_9_method_5_code
def yX7_isBatch : MethodName := ⟨RX7, "isBatch", "(I)Z"⟩
abbrev cX7_isLamp : ByteArray := prog_9_method_6_code
def yX7_isLamp : MethodName := ⟨RX7, "isLamp", "(I)Z"⟩
abbrev cX7_of : ByteArray := prog_9_method_7_code
def yX7_of : MethodName := ⟨RX7, "of", "(II)I"⟩
abbrev cX7_lay : ByteArray := prog_9_method_8_code
def yX7_lay : MethodName := ⟨RX7, "lay", "(III)V"⟩
abbrev cX7_ofRack : ByteArray := prog_9_method_9_code
def yX7_ofRack : MethodName := ⟨RX7, "ofRack", "(II)I"⟩
abbrev cX7_isDead : ByteArray := prog_9_method_10_code
def yX7_isDead : MethodName := ⟨RX7, "isDead", "(I)Z"⟩
abbrev cX7_lampAt : ByteArray := prog_9_method_11_code
def yX7_lampAt : MethodName := ⟨RX7, "lampAt", "(II)I"⟩
abbrev cX7_copyState : ByteArray := prog_9_method_12_code
def yX7_copyState : MethodName := ⟨RX7, "copyState", "([II[II)V"⟩
abbrev cX7_recordRow : ByteArray := prog_9_method_13_code
def yX7_recordRow : MethodName := ⟨RX7, "recordRow", "([I)V"⟩
abbrev cX7_record : ByteArray := prog_9_method_14_code
def yX7_record : MethodName := ⟨RX7, "record", "()V"⟩
abbrev cX7_undo : ByteArray := prog_9_method_15_code
def yX7_undo : MethodName := ⟨RX7, "undo", "()I"⟩
abbrev cX7_keep : ByteArray := prog_9_method_16_code
def yX7_keep : MethodName := ⟨RX7, "keep", "()I"⟩
abbrev cX7_restore : ByteArray := prog_9_method_17_code
def yX7_restore : MethodName := ⟨RX7, "restore", "()I"⟩
abbrev cX7_setBatch : ByteArray := prog_9_method_18_code
def yX7_setBatch : MethodName := ⟨RX7, "setBatch", "(III)I"⟩
abbrev cX7_whyNotPut : ByteArray := prog_9_method_19_code
def yX7_whyNotPut : MethodName := ⟨RX7, "whyNotPut", "(III)I"⟩
abbrev cX7_putNow : ByteArray := prog_9_method_20_code
def yX7_putNow : MethodName := ⟨RX7, "putNow", "(III)I"⟩
abbrev cX7_put : ByteArray := prog_9_method_21_code
def yX7_put : MethodName := ⟨RX7, "put", "(III)I"⟩
abbrev cX7_moveTo : ByteArray := prog_9_method_22_code
def yX7_moveTo : MethodName := ⟨RX7, "moveTo", "(III)V"⟩
abbrev cX7_takeOut : ByteArray := prog_9_method_23_code
def yX7_takeOut : MethodName := ⟨RX7, "takeOut", "(II)I"⟩
abbrev cX7_swap : ByteArray := prog_9_method_24_code
def yX7_swap : MethodName := ⟨RX7, "swap", "(IIII)I"⟩
abbrev cX7_whyNotVolts : ByteArray := prog_9_method_25_code
def yX7_whyNotVolts : MethodName := ⟨RX7, "whyNotVolts", "(II)I"⟩
abbrev cX7_setVolts : ByteArray := prog_9_method_26_code
def yX7_setVolts : MethodName := ⟨RX7, "setVolts", "(II)I"⟩
abbrev cX7_stepsNow : ByteArray := prog_9_method_27_code
def yX7_stepsNow : MethodName := ⟨RX7, "stepsNow", "(III)V"⟩
abbrev cX7_setSteps : ByteArray := prog_9_method_28_code
def yX7_setSteps : MethodName := ⟨RX7, "setSteps", "(III)I"⟩
abbrev cX7_set : ByteArray := prog_9_method_29_code
def yX7_set : MethodName := ⟨RX7, "set", "(II)I"⟩
abbrev cX7_wearAt : ByteArray := prog_9_method_30_code
def yX7_wearAt : MethodName := ⟨RX7, "wearAt", "(IZ)I"⟩
abbrev cX7_isHot : ByteArray := prog_9_method_31_code
def yX7_isHot : MethodName := ⟨RX7, "isHot", "(I)Z"⟩
abbrev cX7_burns : ByteArray := prog_9_method_32_code
def yX7_burns : MethodName := ⟨RX7, "burns", "(I)Z"⟩
abbrev cX7_anHour : ByteArray := prog_9_method_33_code
def yX7_anHour : MethodName := ⟨RX7, "anHour", "()I"⟩
abbrev cX7_whyNotPass : ByteArray := prog_9_method_34_code
def yX7_whyNotPass : MethodName := ⟨RX7, "whyNotPass", "(I)I"⟩
abbrev cX7_passNow : ByteArray := prog_9_method_35_code
def yX7_passNow : MethodName := ⟨RX7, "passNow", "(I)I"⟩
abbrev cX7_pass : ByteArray := prog_9_method_36_code
def yX7_pass : MethodName := ⟨RX7, "pass", "(I)I"⟩
abbrev cX7_type : ByteArray := prog_9_method_37_code
def yX7_type : MethodName := ⟨RX7, "type", "(C)I"⟩
abbrev cX7_clearText : ByteArray := prog_9_method_38_code
def yX7_clearText : MethodName := ⟨RX7, "clearText", "()I"⟩
abbrev cX7_sees : ByteArray := prog_9_method_39_code
def yX7_sees : MethodName := ⟨RX7, "sees", "(II)Z"⟩
abbrev cX7_takes : ByteArray := prog_9_method_40_code
def yX7_takes : MethodName := ⟨RX7, "takes", "(I)Z"⟩
abbrev cX7_number : ByteArray := prog_9_method_41_code
def yX7_number : MethodName := ⟨RX7, "number", "(III)Z"⟩
abbrev cX7_readSteps : ByteArray := prog_9_method_42_code
def yX7_readSteps : MethodName := ⟨RX7, "readSteps", "()Z"⟩
abbrev cX7_readThing : ByteArray := prog_9_method_43_code
def yX7_readThing : MethodName := ⟨RX7, "readThing", "()Z"⟩
abbrev cX7_readText : ByteArray := prog_9_method_44_code
def yX7_readText : MethodName := ⟨RX7, "readText", "()Z"⟩
abbrev cX7_whyNot : ByteArray := prog_9_method_45_code
def yX7_whyNot : MethodName := ⟨RX7, "whyNot", "(I)I"⟩
abbrev cX7_doThing : ByteArray := prog_9_method_46_code
def yX7_doThing : MethodName := ⟨RX7, "doThing", "(I)V"⟩
abbrev cX7_perform : ByteArray := prog_9_method_47_code
def yX7_perform : MethodName := ⟨RX7, "perform", "()I"⟩
abbrev cX7_stopped : ByteArray := prog_9_method_48_code
def yX7_stopped : MethodName := ⟨RX7, "stopped", "(I)I"⟩
abbrev cX7_counts : ByteArray := prog_9_method_49_code
def yX7_counts : MethodName := ⟨RX7, "counts", "(I)I"⟩
abbrev cX7_lamp : ByteArray := prog_9_method_50_code
def yX7_lamp : MethodName := ⟨RX7, "lamp", "(II)I"⟩
abbrev cX7_lampsIn : ByteArray := prog_9_method_51_code
def yX7_lampsIn : MethodName := ⟨RX7, "lampsIn", "(IZ)I"⟩
abbrev cX7_rack : ByteArray := prog_9_method_52_code
def yX7_rack : MethodName := ⟨RX7, "rack", "(II)I"⟩
abbrev cX7_at : ByteArray := prog_9_method_53_code
def yX7_at : MethodName := ⟨RX7, "at", "(II)I"⟩
abbrev cX7_lampsOf : ByteArray := prog_9_method_54_code
def yX7_lampsOf : MethodName := ⟨RX7, "lampsOf", "(III)I"⟩
abbrev cX7_middleLife : ByteArray := prog_9_method_55_code
def yX7_middleLife : MethodName := ⟨RX7, "middleLife", "(I)I"⟩
abbrev cX7_early : ByteArray := prog_9_method_56_code
def yX7_early : MethodName := ⟨RX7, "early", "(I)I"⟩
abbrev cX7_batch : ByteArray := prog_9_method_57_code
def yX7_batch : MethodName := ⟨RX7, "batch", "(II)I"⟩
abbrev cX7_lasted : ByteArray := prog_9_method_58_code
def yX7_lasted : MethodName := ⟨RX7, "lasted", "(II)I"⟩
abbrev cX7_endsAhead : ByteArray := prog_9_method_59_code
def yX7_endsAhead : MethodName := ⟨RX7, "endsAhead", "(I)I"⟩
abbrev cX7_ended : ByteArray := prog_9_method_60_code
def yX7_ended : MethodName := ⟨RX7, "ended", "(I)I"⟩
abbrev cX7_lasts : ByteArray := prog_9_method_61_code
def yX7_lasts : MethodName := ⟨RX7, "lasts", "(II)I"⟩
abbrev cX7_reason : ByteArray := prog_9_method_62_code
def yX7_reason : MethodName := ⟨RX7, "reason", "(I)I"⟩
abbrev cX7_firstEndedAt : ByteArray := prog_9_method_63_code
def yX7_firstEndedAt : MethodName := ⟨RX7, "firstEndedAt", "(I)I"⟩
abbrev cX7_next : ByteArray := prog_9_method_64_code
def yX7_next : MethodName := ⟨RX7, "next", "(I)I"⟩
abbrev cX7_sum : ByteArray := prog_9_method_65_code
def yX7_sum : MethodName := ⟨RX7, "sum", "(I)I"⟩
abbrev cX7_burning : ByteArray := prog_9_method_66_code
def yX7_burning : MethodName := ⟨RX7, "burning", "()I"⟩
abbrev cX7_dead : ByteArray := prog_9_method_67_code
def yX7_dead : MethodName := ⟨RX7, "dead", "()I"⟩
abbrev cX7_count : ByteArray := prog_9_method_68_code
def yX7_count : MethodName := ⟨RX7, "count", "(I)I"⟩
def RJ9 : String := "java/lang/Math"
def TJ9 : u_T := fun k => match k with
  | _ => ("", "", "", false)
def tyJ9 : Nat → FieldType := fun k => match k with
  | _ => .int
abbrev wsJ90 : List Cond := u_ws RJ9 TJ9 0
theorem nmJ9 : ∀ a, a < 0 → ∀ b, b < 0 → a ≠ b → (TJ9 a).2.1 ≠ (TJ9 b).2.1 := by decide +kernel
theorem tyJ9_ok : ∀ k, k < 0 → parseFieldDescriptor (TJ9 k).2.2.1 = some (tyJ9 k) := by decide +kernel
abbrev cJ9_max_7cf53 : ByteArray := prog_10_method_65_code
def yJ9_max_7cf53 : MethodName := ⟨RJ9, "max", "(II)I"⟩
abbrev cJ9_min_7cf53 : ByteArray := prog_10_method_69_code
def yJ9_min_7cf53 : MethodName := ⟨RJ9, "min", "(II)I"⟩
def RJ10 : String := "java/lang/System"
def TJ10 : u_T := fun k => match k with
  | _ => ("", "", "", false)
def tyJ10 : Nat → FieldType := fun k => match k with
  | _ => .int
abbrev wsJ100 : List Cond := u_ws RJ10 TJ10 0
theorem nmJ10 : ∀ a, a < 0 → ∀ b, b < 0 → a ≠ b → (TJ10 a).2.1 ≠ (TJ10 b).2.1 := by decide +kernel
theorem tyJ10_ok : ∀ k, k < 0 → parseFieldDescriptor (TJ10 k).2.2.1 = some (tyJ10 k) := by decide +kernel
def RJ7 : String := "java/util/Arrays"
def TJ7 : u_T := fun k => match k with
  | _ => ("", "", "", false)
def tyJ7 : Nat → FieldType := fun k => match k with
  | _ => .int
abbrev wsJ70 : List Cond := u_ws RJ7 TJ7 0
theorem nmJ7 : ∀ a, a < 0 → ∀ b, b < 0 → a ≠ b → (TJ7 a).2.1 ≠ (TJ7 b).2.1 := by decide +kernel
theorem tyJ7_ok : ∀ k, k < 0 → parseFieldDescriptor (TJ7 k).2.2.1 = some (tyJ7 k) := by decide +kernel
abbrev cJ7_fill_53178 : ByteArray := prog_12_method_103_code
def yJ7_fill_53178 : MethodName := ⟨RJ7, "fill", "([II)V"⟩
def RL : String := "LampRacksLaw"
abbrev cL_law : ByteArray := code
def yL_law : MethodName := ⟨RL, "law", "([I)Z"⟩
def wsX0_init : List Cond := .code yX0_init cX0_init 2 none :: ([.methodLink RX0 3 objectInit, .instanceMethod objectInit, .code objectInit ⟨#[0xb1]⟩ 1 none, .arrayClass .int, .fieldLink RX0 9 "LampRacks$Batches" "life" "[I", .fieldLink RX0 15 "LampRacks$Batches" "spread" "[I"] ++ wsX00)
def wsX6_copy : List Cond := .code yX6_copy cX6_copy 2 none :: ([.methodLink RX6 236 Lib.Math.min.name, .static Lib.Math.min.name, .initialized "java/lang/Math", .code Lib.Math.min.name Lib.Math.min.code 2 (some .int), .methodLink RX6 241 arraycopyName, .native arraycopyName, .static arraycopyName, .initialized "java/lang/System"])
def wsX0_copyFrom : List Cond := .code yX0_copyFrom cX0_copyFrom 2 none :: ([.fieldLink RX0 9 "LampRacks$Batches" "life" "[I", .fieldLink RX0 15 "LampRacks$Batches" "spread" "[I", .static yX6_copy, .initialized RX6, .code yX6_copy cX6_copy 2 none, .methodLink RX6 236 Lib.Math.min.name, .static Lib.Math.min.name, .initialized "java/lang/Math", .code Lib.Math.min.name Lib.Math.min.code 2 (some .int), .methodLink RX6 241 arraycopyName, .native arraycopyName, .static arraycopyName, .initialized "java/lang/System"] ++ wsX00)
def wsX6_shareOf : List Cond := .code yX6_shareOf cX6_shareOf 1 (some .int) :: ([])
def wsX6_isWeak : List Cond := .code yX6_isWeak cX6_isWeak 1 (some .boolean) :: ([.methodLink RX6 233 yX6_shareOf, .static yX6_shareOf, .initialized RX6, .code yX6_shareOf cX6_shareOf 1 (some .int)])
def wsX0_hoursOfLamp : List Cond := .code yX0_hoursOfLamp cX0_hoursOfLamp 5 (some .int) :: ([.fieldLink RX0 9 "LampRacks$Batches" "life" "[I", .fieldLink RX0 15 "LampRacks$Batches" "spread" "[I", .methodLink RX0 30 Lib.Math.max.name, .static Lib.Math.max.name, .initialized "java/lang/Math", .code Lib.Math.max.name Lib.Math.max.code 2 (some .int), .static yX6_shareOf, .initialized RX6, .code yX6_shareOf cX6_shareOf 1 (some .int), .static yX6_isWeak, .code yX6_isWeak cX6_isWeak 1 (some .boolean), .methodLink RX6 233 yX6_shareOf] ++ wsX00)
def wsX2_init : List Cond := .code yX2_init cX2_init 1 none :: ([.methodLink RX2 3 objectInit, .instanceMethod objectInit, .code objectInit ⟨#[0xb1]⟩ 1 none, .fieldLink RX2 9 "LampRacks$Lamps" "size" "I", .arrayClass .int, .fieldLink RX2 15 "LampRacks$Lamps" "batch" "[I", .fieldLink RX2 19 "LampRacks$Lamps" "spot" "[I", .fieldLink RX2 22 "LampRacks$Lamps" "canLast" "[I", .fieldLink RX2 25 "LampRacks$Lamps" "wear" "[I", .fieldLink RX2 28 "LampRacks$Lamps" "burned" "[I", .fieldLink RX2 31 "LampRacks$Lamps" "end" "[I"] ++ wsX20)
def wsJ7_fill_53178 : List Cond := .code yJ7_fill_53178 cJ7_fill_53178 4 none :: ([])
def wsX3_init : List Cond := .code yX3_init cX3_init 1 none :: ([.methodLink RX3 3 objectInit, .instanceMethod objectInit, .code objectInit ⟨#[0xb1]⟩ 1 none, .arrayClass .int, .fieldLink RX3 9 "LampRacks$Racks" "lampAt" "[I", .fieldLink RX3 15 "LampRacks$Racks" "volts" "[I", .fieldLink RX3 18 "LampRacks$Racks" "stepHours" "[I", .fieldLink RX3 21 "LampRacks$Racks" "stepVolts" "[I", .fieldLink RX3 24 "LampRacks$Racks" "hoursOfStep" "[I", .methodLink RX3 27 yJ7_fill_53178, .static yJ7_fill_53178, .initialized RJ7, .code yJ7_fill_53178 cJ7_fill_53178 4 none] ++ wsX30)
def wsX4_init_r1 : List Cond := [Cond.methodLink RX4 3 objectInit, Cond.instanceMethod objectInit, Cond.code objectInit ⟨#[0xb1]⟩ 1 none, Cond.fieldLink RX4 9 "LampRacks$State" "hour" "I", Cond.fieldLink RX4 15 "LampRacks$State" "wantedVolts" "I", Cond.fieldLink RX4 18 "LampRacks$State" "doublingVolts" "I", Cond.classLink RX4 21 RX0, Cond.instantiable RX0 2, Cond.initialized RX0, Cond.fieldLink RX4 24 "LampRacks$State" "batches" "LLampRacks$Batches;", Cond.classLink RX4 28 RX2, Cond.instantiable RX2 7, Cond.initialized RX2, Cond.fieldLink RX4 31 "LampRacks$State" "lamps" "LLampRacks$Lamps;", Cond.classLink RX4 35 RX3, Cond.instantiable RX3 5, Cond.initialized RX3, Cond.fieldLink RX4 38 "LampRacks$State" "racks" "LLampRacks$Racks;", Cond.methodLink RX4 23 yX0_init, Cond.instanceMethod yX0_init, Cond.code yX0_init cX0_init 2 none, Cond.methodLink RX0 3 objectInit, Cond.arrayClass .int, Cond.fieldLink RX0 9 "LampRacks$Batches" "life" "[I"]
def wsX4_init_r2 : List Cond := [Cond.fieldLink RX0 15 "LampRacks$Batches" "spread" "[I", Cond.instanceMethod yX2_init, Cond.code yX2_init cX2_init 1 none, Cond.methodLink RX2 3 objectInit, Cond.fieldLink RX2 9 "LampRacks$Lamps" "size" "I", Cond.fieldLink RX2 15 "LampRacks$Lamps" "batch" "[I", Cond.fieldLink RX2 19 "LampRacks$Lamps" "spot" "[I", Cond.fieldLink RX2 22 "LampRacks$Lamps" "canLast" "[I", Cond.fieldLink RX2 25 "LampRacks$Lamps" "wear" "[I", Cond.fieldLink RX2 28 "LampRacks$Lamps" "burned" "[I", Cond.fieldLink RX2 31 "LampRacks$Lamps" "end" "[I", Cond.methodLink RX4 37 yX3_init, Cond.instanceMethod yX3_init, Cond.code yX3_init cX3_init 1 none, Cond.methodLink RX3 3 objectInit, Cond.fieldLink RX3 9 "LampRacks$Racks" "lampAt" "[I", Cond.fieldLink RX3 15 "LampRacks$Racks" "volts" "[I", Cond.fieldLink RX3 18 "LampRacks$Racks" "stepHours" "[I", Cond.fieldLink RX3 21 "LampRacks$Racks" "stepVolts" "[I", Cond.fieldLink RX3 24 "LampRacks$Racks" "hoursOfStep" "[I", Cond.methodLink RX3 27 yJ7_fill_53178, Cond.static yJ7_fill_53178, Cond.initialized RJ7, Cond.code yJ7_fill_53178 cJ7_fill_53178 4 none]
def wsX4_init : List Cond := .code yX4_init cX4_init 1 none :: ((wsX4_init_r1 ++ wsX4_init_r2) ++ wsX40 ++ wsX00 ++ wsX20 ++ wsX30)
def wsX1_init_r1 : List Cond := [Cond.methodLink RX1 3 objectInit, Cond.instanceMethod objectInit, Cond.code objectInit ⟨#[0xb1]⟩ 1 none, Cond.fieldLink RX1 9 "LampRacks$History" "size" "I", Cond.classLink RX1 15 RX4, Cond.fieldLink RX1 17 "LampRacks$History" "states" "[LLampRacks$State;", Cond.instantiable RX4 6, Cond.initialized RX4, Cond.instanceMethod yX4_init, Cond.code yX4_init cX4_init 1 none, Cond.methodLink RX4 3 objectInit, Cond.fieldLink RX4 9 "LampRacks$State" "hour" "I", Cond.fieldLink RX4 15 "LampRacks$State" "wantedVolts" "I", Cond.fieldLink RX4 18 "LampRacks$State" "doublingVolts" "I", Cond.classLink RX4 21 RX0, Cond.instantiable RX0 2, Cond.initialized RX0, Cond.fieldLink RX4 24 "LampRacks$State" "batches" "LLampRacks$Batches;", Cond.classLink RX4 28 RX2, Cond.instantiable RX2 7, Cond.initialized RX2, Cond.fieldLink RX4 31 "LampRacks$State" "lamps" "LLampRacks$Lamps;", Cond.classLink RX4 35 RX3, Cond.instantiable RX3 5]
def wsX1_init_r2 : List Cond := [Cond.initialized RX3, Cond.fieldLink RX4 38 "LampRacks$State" "racks" "LLampRacks$Racks;", Cond.methodLink RX4 23 yX0_init, Cond.instanceMethod yX0_init, Cond.code yX0_init cX0_init 2 none, Cond.methodLink RX0 3 objectInit, Cond.arrayClass .int, Cond.fieldLink RX0 9 "LampRacks$Batches" "life" "[I", Cond.fieldLink RX0 15 "LampRacks$Batches" "spread" "[I", Cond.instanceMethod yX2_init, Cond.code yX2_init cX2_init 1 none, Cond.methodLink RX2 3 objectInit, Cond.fieldLink RX2 9 "LampRacks$Lamps" "size" "I", Cond.fieldLink RX2 15 "LampRacks$Lamps" "batch" "[I", Cond.fieldLink RX2 19 "LampRacks$Lamps" "spot" "[I", Cond.fieldLink RX2 22 "LampRacks$Lamps" "canLast" "[I", Cond.fieldLink RX2 25 "LampRacks$Lamps" "wear" "[I", Cond.fieldLink RX2 28 "LampRacks$Lamps" "burned" "[I", Cond.fieldLink RX2 31 "LampRacks$Lamps" "end" "[I", Cond.methodLink RX4 37 yX3_init, Cond.instanceMethod yX3_init, Cond.code yX3_init cX3_init 1 none, Cond.methodLink RX3 3 objectInit, Cond.fieldLink RX3 9 "LampRacks$Racks" "lampAt" "[I"]
def wsX1_init_r3 : List Cond := [Cond.fieldLink RX3 15 "LampRacks$Racks" "volts" "[I", Cond.fieldLink RX3 18 "LampRacks$Racks" "stepHours" "[I", Cond.fieldLink RX3 21 "LampRacks$Racks" "stepVolts" "[I", Cond.fieldLink RX3 24 "LampRacks$Racks" "hoursOfStep" "[I", Cond.methodLink RX3 27 yJ7_fill_53178, Cond.static yJ7_fill_53178, Cond.initialized RJ7, Cond.code yJ7_fill_53178 cJ7_fill_53178 4 none]
def wsX1_init : List Cond := .code yX1_init cX1_init 2 none :: ((wsX1_init_r1 ++ (wsX1_init_r2 ++ wsX1_init_r3)) ++ wsX10 ++ wsX40 ++ wsX00 ++ wsX20 ++ wsX30)
def wsX1_dropOldest : List Cond := .code yX1_dropOldest cX1_dropOldest 3 none :: ([.fieldLink RX1 17 "LampRacks$History" "states" "[LLampRacks$State;", .fieldLink RX1 9 "LampRacks$History" "size" "I"] ++ wsX10)
def wsX2_copyFrom : List Cond := .code yX2_copyFrom cX2_copyFrom 2 none :: ([.fieldLink RX2 9 "LampRacks$Lamps" "size" "I", .fieldLink RX2 15 "LampRacks$Lamps" "batch" "[I", .fieldLink RX2 19 "LampRacks$Lamps" "spot" "[I", .fieldLink RX2 22 "LampRacks$Lamps" "canLast" "[I", .fieldLink RX2 25 "LampRacks$Lamps" "wear" "[I", .fieldLink RX2 28 "LampRacks$Lamps" "burned" "[I", .fieldLink RX2 31 "LampRacks$Lamps" "end" "[I", .static yX6_copy, .initialized RX6, .code yX6_copy cX6_copy 2 none, .methodLink RX6 236 Lib.Math.min.name, .static Lib.Math.min.name, .initialized "java/lang/Math", .code Lib.Math.min.name Lib.Math.min.code 2 (some .int), .methodLink RX6 241 arraycopyName, .native arraycopyName, .static arraycopyName, .initialized "java/lang/System"] ++ wsX20)
def wsX3_copyFrom : List Cond := .code yX3_copyFrom cX3_copyFrom 2 none :: ([.fieldLink RX3 9 "LampRacks$Racks" "lampAt" "[I", .fieldLink RX3 15 "LampRacks$Racks" "volts" "[I", .fieldLink RX3 18 "LampRacks$Racks" "stepHours" "[I", .fieldLink RX3 21 "LampRacks$Racks" "stepVolts" "[I", .fieldLink RX3 24 "LampRacks$Racks" "hoursOfStep" "[I", .static yX6_copy, .initialized RX6, .code yX6_copy cX6_copy 2 none, .methodLink RX6 236 Lib.Math.min.name, .static Lib.Math.min.name, .initialized "java/lang/Math", .code Lib.Math.min.name Lib.Math.min.code 2 (some .int), .methodLink RX6 241 arraycopyName, .native arraycopyName, .static arraycopyName, .initialized "java/lang/System"] ++ wsX30)
def wsX4_copyFrom_r1 : List Cond := [Cond.fieldLink RX4 9 "LampRacks$State" "hour" "I", Cond.fieldLink RX4 15 "LampRacks$State" "wantedVolts" "I", Cond.fieldLink RX4 18 "LampRacks$State" "doublingVolts" "I", Cond.fieldLink RX4 24 "LampRacks$State" "batches" "LLampRacks$Batches;", Cond.fieldLink RX4 31 "LampRacks$State" "lamps" "LLampRacks$Lamps;", Cond.fieldLink RX4 38 "LampRacks$State" "racks" "LLampRacks$Racks;", Cond.methodLink RX4 42 yX0_copyFrom, Cond.instanceMethod yX0_copyFrom, Cond.selects RX0 yX0_copyFrom yX0_copyFrom, Cond.initialized RX0, Cond.code yX0_copyFrom cX0_copyFrom 2 none, Cond.fieldLink RX0 9 "LampRacks$Batches" "life" "[I", Cond.fieldLink RX0 15 "LampRacks$Batches" "spread" "[I", Cond.static yX6_copy, Cond.initialized RX6, Cond.code yX6_copy cX6_copy 2 none, Cond.methodLink RX6 236 Lib.Math.min.name, Cond.static Lib.Math.min.name, Cond.initialized "java/lang/Math", Cond.code Lib.Math.min.name Lib.Math.min.code 2 (some .int), Cond.methodLink RX6 241 arraycopyName, Cond.native arraycopyName, Cond.static arraycopyName, Cond.initialized "java/lang/System"]
def wsX4_copyFrom_r2 : List Cond := [Cond.methodLink RX4 46 yX2_copyFrom, Cond.instanceMethod yX2_copyFrom, Cond.selects RX2 yX2_copyFrom yX2_copyFrom, Cond.initialized RX2, Cond.code yX2_copyFrom cX2_copyFrom 2 none, Cond.fieldLink RX2 9 "LampRacks$Lamps" "size" "I", Cond.fieldLink RX2 15 "LampRacks$Lamps" "batch" "[I", Cond.fieldLink RX2 19 "LampRacks$Lamps" "spot" "[I", Cond.fieldLink RX2 22 "LampRacks$Lamps" "canLast" "[I", Cond.fieldLink RX2 25 "LampRacks$Lamps" "wear" "[I", Cond.fieldLink RX2 28 "LampRacks$Lamps" "burned" "[I", Cond.fieldLink RX2 31 "LampRacks$Lamps" "end" "[I", Cond.methodLink RX4 49 yX3_copyFrom, Cond.instanceMethod yX3_copyFrom, Cond.selects RX3 yX3_copyFrom yX3_copyFrom, Cond.initialized RX3, Cond.code yX3_copyFrom cX3_copyFrom 2 none, Cond.fieldLink RX3 9 "LampRacks$Racks" "lampAt" "[I", Cond.fieldLink RX3 15 "LampRacks$Racks" "volts" "[I", Cond.fieldLink RX3 18 "LampRacks$Racks" "stepHours" "[I", Cond.fieldLink RX3 21 "LampRacks$Racks" "stepVolts" "[I", Cond.fieldLink RX3 24 "LampRacks$Racks" "hoursOfStep" "[I"]
def wsX4_copyFrom : List Cond := .code yX4_copyFrom cX4_copyFrom 2 none :: ((wsX4_copyFrom_r1 ++ wsX4_copyFrom_r2) ++ wsX40 ++ wsX00 ++ wsX20 ++ wsX30)
def wsX1_append_r1 : List Cond := [Cond.fieldLink RX1 9 "LampRacks$History" "size" "I", Cond.fieldLink RX1 17 "LampRacks$History" "states" "[LLampRacks$State;", Cond.methodLink RX1 22 yX1_dropOldest, Cond.instanceMethod yX1_dropOldest, Cond.selects RX1 yX1_dropOldest yX1_dropOldest, Cond.initialized RX1, Cond.code yX1_dropOldest cX1_dropOldest 3 none, Cond.methodLink RX1 25 yX4_copyFrom, Cond.instanceMethod yX4_copyFrom, Cond.selects RX4 yX4_copyFrom yX4_copyFrom, Cond.initialized RX4, Cond.code yX4_copyFrom cX4_copyFrom 2 none, Cond.fieldLink RX4 9 "LampRacks$State" "hour" "I", Cond.fieldLink RX4 15 "LampRacks$State" "wantedVolts" "I", Cond.fieldLink RX4 18 "LampRacks$State" "doublingVolts" "I", Cond.fieldLink RX4 24 "LampRacks$State" "batches" "LLampRacks$Batches;", Cond.fieldLink RX4 31 "LampRacks$State" "lamps" "LLampRacks$Lamps;", Cond.fieldLink RX4 38 "LampRacks$State" "racks" "LLampRacks$Racks;", Cond.methodLink RX4 42 yX0_copyFrom, Cond.instanceMethod yX0_copyFrom, Cond.selects RX0 yX0_copyFrom yX0_copyFrom, Cond.initialized RX0, Cond.code yX0_copyFrom cX0_copyFrom 2 none, Cond.fieldLink RX0 9 "LampRacks$Batches" "life" "[I"]
def wsX1_append_r2 : List Cond := [Cond.fieldLink RX0 15 "LampRacks$Batches" "spread" "[I", Cond.static yX6_copy, Cond.initialized RX6, Cond.code yX6_copy cX6_copy 2 none, Cond.methodLink RX6 236 Lib.Math.min.name, Cond.static Lib.Math.min.name, Cond.initialized "java/lang/Math", Cond.code Lib.Math.min.name Lib.Math.min.code 2 (some .int), Cond.methodLink RX6 241 arraycopyName, Cond.native arraycopyName, Cond.static arraycopyName, Cond.initialized "java/lang/System", Cond.methodLink RX4 46 yX2_copyFrom, Cond.instanceMethod yX2_copyFrom, Cond.selects RX2 yX2_copyFrom yX2_copyFrom, Cond.initialized RX2, Cond.code yX2_copyFrom cX2_copyFrom 2 none, Cond.fieldLink RX2 9 "LampRacks$Lamps" "size" "I", Cond.fieldLink RX2 15 "LampRacks$Lamps" "batch" "[I", Cond.fieldLink RX2 19 "LampRacks$Lamps" "spot" "[I", Cond.fieldLink RX2 22 "LampRacks$Lamps" "canLast" "[I", Cond.fieldLink RX2 25 "LampRacks$Lamps" "wear" "[I", Cond.fieldLink RX2 28 "LampRacks$Lamps" "burned" "[I", Cond.fieldLink RX2 31 "LampRacks$Lamps" "end" "[I"]
def wsX1_append_r3 : List Cond := [Cond.methodLink RX4 49 yX3_copyFrom, Cond.instanceMethod yX3_copyFrom, Cond.selects RX3 yX3_copyFrom yX3_copyFrom, Cond.initialized RX3, Cond.code yX3_copyFrom cX3_copyFrom 2 none, Cond.fieldLink RX3 9 "LampRacks$Racks" "lampAt" "[I", Cond.fieldLink RX3 15 "LampRacks$Racks" "volts" "[I", Cond.fieldLink RX3 18 "LampRacks$Racks" "stepHours" "[I", Cond.fieldLink RX3 21 "LampRacks$Racks" "stepVolts" "[I", Cond.fieldLink RX3 24 "LampRacks$Racks" "hoursOfStep" "[I"]
def wsX1_append : List Cond := .code yX1_append cX1_append 2 none :: ((wsX1_append_r1 ++ (wsX1_append_r2 ++ wsX1_append_r3)) ++ wsX10 ++ wsX40 ++ wsX00 ++ wsX20 ++ wsX30)
def wsX1_moveLatestTo_r1 : List Cond := [Cond.fieldLink RX1 9 "LampRacks$History" "size" "I", Cond.fieldLink RX1 17 "LampRacks$History" "states" "[LLampRacks$State;", Cond.methodLink RX1 25 yX4_copyFrom, Cond.instanceMethod yX4_copyFrom, Cond.selects RX4 yX4_copyFrom yX4_copyFrom, Cond.initialized RX4, Cond.code yX4_copyFrom cX4_copyFrom 2 none, Cond.fieldLink RX4 9 "LampRacks$State" "hour" "I", Cond.fieldLink RX4 15 "LampRacks$State" "wantedVolts" "I", Cond.fieldLink RX4 18 "LampRacks$State" "doublingVolts" "I", Cond.fieldLink RX4 24 "LampRacks$State" "batches" "LLampRacks$Batches;", Cond.fieldLink RX4 31 "LampRacks$State" "lamps" "LLampRacks$Lamps;", Cond.fieldLink RX4 38 "LampRacks$State" "racks" "LLampRacks$Racks;", Cond.methodLink RX4 42 yX0_copyFrom, Cond.instanceMethod yX0_copyFrom, Cond.selects RX0 yX0_copyFrom yX0_copyFrom, Cond.initialized RX0, Cond.code yX0_copyFrom cX0_copyFrom 2 none, Cond.fieldLink RX0 9 "LampRacks$Batches" "life" "[I", Cond.fieldLink RX0 15 "LampRacks$Batches" "spread" "[I", Cond.static yX6_copy, Cond.initialized RX6, Cond.code yX6_copy cX6_copy 2 none, Cond.methodLink RX6 236 Lib.Math.min.name]
def wsX1_moveLatestTo_r2 : List Cond := [Cond.static Lib.Math.min.name, Cond.initialized "java/lang/Math", Cond.code Lib.Math.min.name Lib.Math.min.code 2 (some .int), Cond.methodLink RX6 241 arraycopyName, Cond.native arraycopyName, Cond.static arraycopyName, Cond.initialized "java/lang/System", Cond.methodLink RX4 46 yX2_copyFrom, Cond.instanceMethod yX2_copyFrom, Cond.selects RX2 yX2_copyFrom yX2_copyFrom, Cond.initialized RX2, Cond.code yX2_copyFrom cX2_copyFrom 2 none, Cond.fieldLink RX2 9 "LampRacks$Lamps" "size" "I", Cond.fieldLink RX2 15 "LampRacks$Lamps" "batch" "[I", Cond.fieldLink RX2 19 "LampRacks$Lamps" "spot" "[I", Cond.fieldLink RX2 22 "LampRacks$Lamps" "canLast" "[I", Cond.fieldLink RX2 25 "LampRacks$Lamps" "wear" "[I", Cond.fieldLink RX2 28 "LampRacks$Lamps" "burned" "[I", Cond.fieldLink RX2 31 "LampRacks$Lamps" "end" "[I", Cond.methodLink RX4 49 yX3_copyFrom, Cond.instanceMethod yX3_copyFrom, Cond.selects RX3 yX3_copyFrom yX3_copyFrom, Cond.initialized RX3, Cond.code yX3_copyFrom cX3_copyFrom 2 none]
def wsX1_moveLatestTo_r3 : List Cond := [Cond.fieldLink RX3 9 "LampRacks$Racks" "lampAt" "[I", Cond.fieldLink RX3 15 "LampRacks$Racks" "volts" "[I", Cond.fieldLink RX3 18 "LampRacks$Racks" "stepHours" "[I", Cond.fieldLink RX3 21 "LampRacks$Racks" "stepVolts" "[I", Cond.fieldLink RX3 24 "LampRacks$Racks" "hoursOfStep" "[I"]
def wsX1_moveLatestTo : List Cond := .code yX1_moveLatestTo cX1_moveLatestTo 2 none :: ((wsX1_moveLatestTo_r1 ++ (wsX1_moveLatestTo_r2 ++ wsX1_moveLatestTo_r3)) ++ wsX10 ++ wsX40 ++ wsX00 ++ wsX20 ++ wsX30)
def wsX6_isWithin : List Cond := .code yX6_isWithin cX6_isWithin 3 (some .boolean) :: ([])
def wsX2_has : List Cond := .code yX2_has cX2_has 2 (some .boolean) :: ([.fieldLink RX2 9 "LampRacks$Lamps" "size" "I", .static yX6_isWithin, .initialized RX6, .code yX6_isWithin cX6_isWithin 3 (some .boolean)] ++ wsX20)
def wsX2_isFull : List Cond := .code yX2_isFull cX2_isFull 1 (some .boolean) :: ([.fieldLink RX2 9 "LampRacks$Lamps" "size" "I"] ++ wsX20)
def wsX2_append : List Cond := .code yX2_append cX2_append 5 (some .int) :: ([.fieldLink RX2 9 "LampRacks$Lamps" "size" "I", .fieldLink RX2 15 "LampRacks$Lamps" "batch" "[I", .fieldLink RX2 19 "LampRacks$Lamps" "spot" "[I", .fieldLink RX2 22 "LampRacks$Lamps" "canLast" "[I", .fieldLink RX2 25 "LampRacks$Lamps" "wear" "[I", .fieldLink RX2 28 "LampRacks$Lamps" "burned" "[I", .fieldLink RX2 31 "LampRacks$Lamps" "end" "[I"] ++ wsX20)
def wsX2_isDead : List Cond := .code yX2_isDead cX2_isDead 2 (some .boolean) :: ([.fieldLink RX2 31 "LampRacks$Lamps" "end" "[I"] ++ wsX20)
def wsX2_isDeadOf : List Cond := .code yX2_isDeadOf cX2_isDeadOf 3 (some .boolean) :: ([.fieldLink RX2 15 "LampRacks$Lamps" "batch" "[I", .methodLink RX2 42 yX2_isDead, .instanceMethod yX2_isDead, .selects RX2 yX2_isDead yX2_isDead, .initialized RX2, .code yX2_isDead cX2_isDead 2 (some .boolean), .fieldLink RX2 31 "LampRacks$Lamps" "end" "[I"] ++ wsX20)
def wsX2_hoursCounted : List Cond := .code yX2_hoursCounted cX2_hoursCounted 2 (some .int) :: ([.fieldLink RX2 25 "LampRacks$Lamps" "wear" "[I"] ++ wsX20)
def wsX2_hoursLeft : List Cond := .code yX2_hoursLeft cX2_hoursLeft 5 (some .int) :: ([.methodLink RX2 46 Lib.Math.max.name, .static Lib.Math.max.name, .initialized "java/lang/Math", .code Lib.Math.max.name Lib.Math.max.code 2 (some .int), .fieldLink RX2 22 "LampRacks$Lamps" "canLast" "[I", .fieldLink RX2 25 "LampRacks$Lamps" "wear" "[I"] ++ wsX20)
def wsX2_burn : List Cond := .code yX2_burn cX2_burn 4 none :: ([.fieldLink RX2 28 "LampRacks$Lamps" "burned" "[I", .fieldLink RX2 25 "LampRacks$Lamps" "wear" "[I"] ++ wsX20)
def wsX6_oneIf : List Cond := .code yX6_oneIf cX6_oneIf 1 (some .int) :: ([])
def wsX2_countOf : List Cond := .code yX2_countOf cX2_countOf 4 (some .int) :: ([.fieldLink RX2 9 "LampRacks$Lamps" "size" "I", .fieldLink RX2 15 "LampRacks$Lamps" "batch" "[I", .static yX6_oneIf, .initialized RX6, .code yX6_oneIf cX6_oneIf 1 (some .int)] ++ wsX20)
def wsX2_countDeadOf : List Cond := .code yX2_countDeadOf cX2_countDeadOf 4 (some .int) :: ([.fieldLink RX2 9 "LampRacks$Lamps" "size" "I", .methodLink RX2 56 yX2_isDeadOf, .instanceMethod yX2_isDeadOf, .selects RX2 yX2_isDeadOf yX2_isDeadOf, .initialized RX2, .code yX2_isDeadOf cX2_isDeadOf 3 (some .boolean), .fieldLink RX2 15 "LampRacks$Lamps" "batch" "[I", .methodLink RX2 42 yX2_isDead, .instanceMethod yX2_isDead, .selects RX2 yX2_isDead yX2_isDead, .code yX2_isDead cX2_isDead 2 (some .boolean), .fieldLink RX2 31 "LampRacks$Lamps" "end" "[I", .static yX6_oneIf, .initialized RX6, .code yX6_oneIf cX6_oneIf 1 (some .int)] ++ wsX20)
def wsX2_countDeadBelow : List Cond := .code yX2_countDeadBelow cX2_countDeadBelow 5 (some .int) :: ([.fieldLink RX2 9 "LampRacks$Lamps" "size" "I", .methodLink RX2 56 yX2_isDeadOf, .instanceMethod yX2_isDeadOf, .selects RX2 yX2_isDeadOf yX2_isDeadOf, .initialized RX2, .code yX2_isDeadOf cX2_isDeadOf 3 (some .boolean), .fieldLink RX2 15 "LampRacks$Lamps" "batch" "[I", .methodLink RX2 42 yX2_isDead, .instanceMethod yX2_isDead, .selects RX2 yX2_isDead yX2_isDead, .code yX2_isDead cX2_isDead 2 (some .boolean), .fieldLink RX2 31 "LampRacks$Lamps" "end" "[I", .methodLink RX2 60 yX2_hoursCounted, .instanceMethod yX2_hoursCounted, .selects RX2 yX2_hoursCounted yX2_hoursCounted, .code yX2_hoursCounted cX2_hoursCounted 2 (some .int), .fieldLink RX2 25 "LampRacks$Lamps" "wear" "[I", .static yX6_oneIf, .initialized RX6, .code yX6_oneIf cX6_oneIf 1 (some .int)] ++ wsX20)
def wsX2_countThatLasted : List Cond := .code yX2_countThatLasted cX2_countThatLasted 5 (some .int) :: ([.fieldLink RX2 9 "LampRacks$Lamps" "size" "I", .fieldLink RX2 15 "LampRacks$Lamps" "batch" "[I", .methodLink RX2 60 yX2_hoursCounted, .instanceMethod yX2_hoursCounted, .selects RX2 yX2_hoursCounted yX2_hoursCounted, .initialized RX2, .code yX2_hoursCounted cX2_hoursCounted 2 (some .int), .fieldLink RX2 25 "LampRacks$Lamps" "wear" "[I", .static yX6_oneIf, .initialized RX6, .code yX6_oneIf cX6_oneIf 1 (some .int)] ++ wsX20)
def wsX2_countDead : List Cond := .code yX2_countDead cX2_countDead 3 (some .int) :: ([.fieldLink RX2 9 "LampRacks$Lamps" "size" "I", .methodLink RX2 42 yX2_isDead, .instanceMethod yX2_isDead, .selects RX2 yX2_isDead yX2_isDead, .initialized RX2, .code yX2_isDead cX2_isDead 2 (some .boolean), .fieldLink RX2 31 "LampRacks$Lamps" "end" "[I", .static yX6_oneIf, .initialized RX6, .code yX6_oneIf cX6_oneIf 1 (some .int)] ++ wsX20)
def wsX2_countInRacks : List Cond := .code yX2_countInRacks cX2_countInRacks 3 (some .int) :: ([.fieldLink RX2 9 "LampRacks$Lamps" "size" "I", .fieldLink RX2 19 "LampRacks$Lamps" "spot" "[I", .static yX6_oneIf, .initialized RX6, .code yX6_oneIf cX6_oneIf 1 (some .int)] ++ wsX20)
def wsX2_countWeak : List Cond := .code yX2_countWeak cX2_countWeak 3 (some .int) :: ([.fieldLink RX2 9 "LampRacks$Lamps" "size" "I", .static yX6_isWeak, .initialized RX6, .code yX6_isWeak cX6_isWeak 1 (some .boolean), .methodLink RX6 233 yX6_shareOf, .static yX6_shareOf, .code yX6_shareOf cX6_shareOf 1 (some .int), .static yX6_oneIf, .code yX6_oneIf cX6_oneIf 1 (some .int)] ++ wsX20)
def wsX2_sumOf : List Cond := .code yX2_sumOf cX2_sumOf 4 (some .int) :: ([.fieldLink RX2 9 "LampRacks$Lamps" "size" "I", .methodLink RX2 67 Lib.Math.min.name, .static Lib.Math.min.name, .initialized "java/lang/Math", .code Lib.Math.min.name Lib.Math.min.code 2 (some .int)] ++ wsX20)
def wsX2_countEndedBefore : List Cond := .code yX2_countEndedBefore cX2_countEndedBefore 5 (some .int) :: ([.fieldLink RX2 9 "LampRacks$Lamps" "size" "I", .fieldLink RX2 31 "LampRacks$Lamps" "end" "[I", .methodLink RX2 42 yX2_isDead, .instanceMethod yX2_isDead, .selects RX2 yX2_isDead yX2_isDead, .initialized RX2, .code yX2_isDead cX2_isDead 2 (some .boolean), .static yX6_oneIf, .initialized RX6, .code yX6_oneIf cX6_oneIf 1 (some .int)] ++ wsX20)
def wsX2_findEnded : List Cond := .code yX2_findEnded cX2_findEnded 3 (some .int) :: ([.fieldLink RX2 9 "LampRacks$Lamps" "size" "I", .methodLink RX2 42 yX2_isDead, .instanceMethod yX2_isDead, .selects RX2 yX2_isDead yX2_isDead, .initialized RX2, .code yX2_isDead cX2_isDead 2 (some .boolean), .fieldLink RX2 31 "LampRacks$Lamps" "end" "[I", .methodLink RX2 70 yX2_countEndedBefore, .instanceMethod yX2_countEndedBefore, .selects RX2 yX2_countEndedBefore yX2_countEndedBefore, .code yX2_countEndedBefore cX2_countEndedBefore 5 (some .int), .static yX6_oneIf, .initialized RX6, .code yX6_oneIf cX6_oneIf 1 (some .int)] ++ wsX20)
def wsX2_findFirstEndedAfter : List Cond := .code yX2_findFirstEndedAfter cX2_findFirstEndedAfter 4 (some .int) :: ([.fieldLink RX2 9 "LampRacks$Lamps" "size" "I", .fieldLink RX2 31 "LampRacks$Lamps" "end" "[I"] ++ wsX20)
def wsX2_countShorterOf : List Cond := .code yX2_countShorterOf cX2_countShorterOf 8 (some .int) :: ([.fieldLink RX2 9 "LampRacks$Lamps" "size" "I", .methodLink RX2 60 yX2_hoursCounted, .instanceMethod yX2_hoursCounted, .selects RX2 yX2_hoursCounted yX2_hoursCounted, .initialized RX2, .code yX2_hoursCounted cX2_hoursCounted 2 (some .int), .fieldLink RX2 25 "LampRacks$Lamps" "wear" "[I", .methodLink RX2 56 yX2_isDeadOf, .instanceMethod yX2_isDeadOf, .selects RX2 yX2_isDeadOf yX2_isDeadOf, .code yX2_isDeadOf cX2_isDeadOf 3 (some .boolean), .fieldLink RX2 15 "LampRacks$Lamps" "batch" "[I", .methodLink RX2 42 yX2_isDead, .instanceMethod yX2_isDead, .selects RX2 yX2_isDead yX2_isDead, .code yX2_isDead cX2_isDead 2 (some .boolean), .fieldLink RX2 31 "LampRacks$Lamps" "end" "[I", .static yX6_oneIf, .initialized RX6, .code yX6_oneIf cX6_oneIf 1 (some .int)] ++ wsX20)
def wsX2_middleLife_r1 : List Cond := [Cond.fieldLink RX2 9 "LampRacks$Lamps" "size" "I", Cond.methodLink RX2 73 yX2_countOf, Cond.instanceMethod yX2_countOf, Cond.selects RX2 yX2_countOf yX2_countOf, Cond.initialized RX2, Cond.code yX2_countOf cX2_countOf 4 (some .int), Cond.fieldLink RX2 15 "LampRacks$Lamps" "batch" "[I", Cond.static yX6_oneIf, Cond.initialized RX6, Cond.code yX6_oneIf cX6_oneIf 1 (some .int), Cond.methodLink RX2 56 yX2_isDeadOf, Cond.instanceMethod yX2_isDeadOf, Cond.selects RX2 yX2_isDeadOf yX2_isDeadOf, Cond.code yX2_isDeadOf cX2_isDeadOf 3 (some .boolean), Cond.methodLink RX2 42 yX2_isDead, Cond.instanceMethod yX2_isDead, Cond.selects RX2 yX2_isDead yX2_isDead, Cond.code yX2_isDead cX2_isDead 2 (some .boolean), Cond.fieldLink RX2 31 "LampRacks$Lamps" "end" "[I", Cond.methodLink RX2 76 yX2_countShorterOf, Cond.instanceMethod yX2_countShorterOf, Cond.selects RX2 yX2_countShorterOf yX2_countShorterOf, Cond.code yX2_countShorterOf cX2_countShorterOf 8 (some .int), Cond.methodLink RX2 60 yX2_hoursCounted]
def wsX2_middleLife_r2 : List Cond := [Cond.instanceMethod yX2_hoursCounted, Cond.selects RX2 yX2_hoursCounted yX2_hoursCounted, Cond.code yX2_hoursCounted cX2_hoursCounted 2 (some .int), Cond.fieldLink RX2 25 "LampRacks$Lamps" "wear" "[I"]
def wsX2_middleLife : List Cond := .code yX2_middleLife cX2_middleLife 4 (some .int) :: ((wsX2_middleLife_r1 ++ wsX2_middleLife_r2) ++ wsX20)
def wsX3_isDark : List Cond := .code yX3_isDark cX3_isDark 2 (some .boolean) :: ([.fieldLink RX3 15 "LampRacks$Racks" "volts" "[I"] ++ wsX30)
def wsX3_voltsAfterStep : List Cond := .code yX3_voltsAfterStep cX3_voltsAfterStep 2 (some .int) :: ([.fieldLink RX3 15 "LampRacks$Racks" "volts" "[I", .fieldLink RX3 21 "LampRacks$Racks" "stepVolts" "[I", .methodLink RX3 37 Lib.Math.min.name, .static Lib.Math.min.name, .initialized "java/lang/Math", .code Lib.Math.min.name Lib.Math.min.code 2 (some .int), .methodLink RX3 43 Lib.Math.max.name, .static Lib.Math.max.name, .code Lib.Math.max.name Lib.Math.max.code 2 (some .int)] ++ wsX30)
def wsX3_hoursToStep : List Cond := .code yX3_hoursToStep cX3_hoursToStep 2 (some .int) :: ([.fieldLink RX3 18 "LampRacks$Racks" "stepHours" "[I", .fieldLink RX3 24 "LampRacks$Racks" "hoursOfStep" "[I"] ++ wsX30)
def wsX3_hoursAtSameVolts : List Cond := .code yX3_hoursAtSameVolts cX3_hoursAtSameVolts 3 (some .int) :: ([.fieldLink RX3 18 "LampRacks$Racks" "stepHours" "[I", .fieldLink RX3 15 "LampRacks$Racks" "volts" "[I", .methodLink RX3 37 Lib.Math.min.name, .static Lib.Math.min.name, .initialized "java/lang/Math", .code Lib.Math.min.name Lib.Math.min.code 2 (some .int), .methodLink RX3 46 yX3_voltsAfterStep, .instanceMethod yX3_voltsAfterStep, .selects RX3 yX3_voltsAfterStep yX3_voltsAfterStep, .initialized RX3, .code yX3_voltsAfterStep cX3_voltsAfterStep 2 (some .int), .fieldLink RX3 21 "LampRacks$Racks" "stepVolts" "[I", .methodLink RX3 43 Lib.Math.max.name, .static Lib.Math.max.name, .code Lib.Math.max.name Lib.Math.max.code 2 (some .int), .methodLink RX3 50 yX3_hoursToStep, .instanceMethod yX3_hoursToStep, .selects RX3 yX3_hoursToStep yX3_hoursToStep, .code yX3_hoursToStep cX3_hoursToStep 2 (some .int), .fieldLink RX3 24 "LampRacks$Racks" "hoursOfStep" "[I"] ++ wsX30)
def wsX3_countHours : List Cond := .code yX3_countHours cX3_countHours 5 none :: ([.fieldLink RX3 18 "LampRacks$Racks" "stepHours" "[I", .fieldLink RX3 24 "LampRacks$Racks" "hoursOfStep" "[I", .fieldLink RX3 15 "LampRacks$Racks" "volts" "[I", .methodLink RX3 46 yX3_voltsAfterStep, .instanceMethod yX3_voltsAfterStep, .selects RX3 yX3_voltsAfterStep yX3_voltsAfterStep, .initialized RX3, .code yX3_voltsAfterStep cX3_voltsAfterStep 2 (some .int), .fieldLink RX3 21 "LampRacks$Racks" "stepVolts" "[I", .methodLink RX3 37 Lib.Math.min.name, .static Lib.Math.min.name, .initialized "java/lang/Math", .code Lib.Math.min.name Lib.Math.min.code 2 (some .int), .methodLink RX3 43 Lib.Math.max.name, .static Lib.Math.max.name, .code Lib.Math.max.name Lib.Math.max.code 2 (some .int)] ++ wsX30)
def wsX6_isBatch : List Cond := .code yX6_isBatch cX6_isBatch 1 (some .boolean) :: ([.methodLink RX6 117 yX6_isWithin, .static yX6_isWithin, .initialized RX6, .code yX6_isWithin cX6_isWithin 3 (some .boolean)])
def wsX4_changeBatch : List Cond := .code yX4_changeBatch cX4_changeBatch 5 (some .int) :: ([.fieldLink RX4 24 "LampRacks$State" "batches" "LLampRacks$Batches;", .fieldLink RX4 60 "LampRacks$Batches" "life" "[I", .fieldLink RX4 64 "LampRacks$Batches" "spread" "[I", .static yX6_isBatch, .initialized RX6, .code yX6_isBatch cX6_isBatch 1 (some .boolean), .methodLink RX6 117 yX6_isWithin, .static yX6_isWithin, .code yX6_isWithin cX6_isWithin 3 (some .boolean)] ++ wsX40 ++ wsX00)
def wsX6_isRack : List Cond := .code yX6_isRack cX6_isRack 1 (some .boolean) :: ([.methodLink RX6 117 yX6_isWithin, .static yX6_isWithin, .initialized RX6, .code yX6_isWithin cX6_isWithin 3 (some .boolean)])
def wsX6_isPlace : List Cond := .code yX6_isPlace cX6_isPlace 2 (some .boolean) :: ([.methodLink RX6 230 yX6_isRack, .static yX6_isRack, .initialized RX6, .code yX6_isRack cX6_isRack 1 (some .boolean), .methodLink RX6 117 yX6_isWithin, .static yX6_isWithin, .code yX6_isWithin cX6_isWithin 3 (some .boolean)])
def wsX6_spotOf : List Cond := .code yX6_spotOf cX6_spotOf 2 (some .int) :: ([])
def wsX4_insertLamp_r1 : List Cond := [Cond.fieldLink RX4 38 "LampRacks$State" "racks" "LLampRacks$Racks;", Cond.fieldLink RX4 75 "LampRacks$Racks" "lampAt" "[I", Cond.fieldLink RX4 31 "LampRacks$State" "lamps" "LLampRacks$Lamps;", Cond.fieldLink RX4 24 "LampRacks$State" "batches" "LLampRacks$Batches;", Cond.fieldLink RX4 82 "LampRacks$Lamps" "size" "I", Cond.static yX6_isPlace, Cond.initialized RX6, Cond.code yX6_isPlace cX6_isPlace 2 (some .boolean), Cond.methodLink RX6 230 yX6_isRack, Cond.static yX6_isRack, Cond.code yX6_isRack cX6_isRack 1 (some .boolean), Cond.methodLink RX6 117 yX6_isWithin, Cond.static yX6_isWithin, Cond.code yX6_isWithin cX6_isWithin 3 (some .boolean), Cond.static yX6_isBatch, Cond.code yX6_isBatch cX6_isBatch 1 (some .boolean), Cond.static yX6_spotOf, Cond.code yX6_spotOf cX6_spotOf 2 (some .int), Cond.methodLink RX4 78 yX2_isFull, Cond.instanceMethod yX2_isFull, Cond.selects RX2 yX2_isFull yX2_isFull, Cond.initialized RX2, Cond.code yX2_isFull cX2_isFull 1 (some .boolean), Cond.fieldLink RX2 9 "LampRacks$Lamps" "size" "I"]
def wsX4_insertLamp_r2 : List Cond := [Cond.methodLink RX4 85 yX0_hoursOfLamp, Cond.instanceMethod yX0_hoursOfLamp, Cond.selects RX0 yX0_hoursOfLamp yX0_hoursOfLamp, Cond.initialized RX0, Cond.code yX0_hoursOfLamp cX0_hoursOfLamp 5 (some .int), Cond.fieldLink RX0 9 "LampRacks$Batches" "life" "[I", Cond.fieldLink RX0 15 "LampRacks$Batches" "spread" "[I", Cond.methodLink RX0 30 Lib.Math.max.name, Cond.static Lib.Math.max.name, Cond.initialized "java/lang/Math", Cond.code Lib.Math.max.name Lib.Math.max.code 2 (some .int), Cond.static yX6_shareOf, Cond.code yX6_shareOf cX6_shareOf 1 (some .int), Cond.static yX6_isWeak, Cond.code yX6_isWeak cX6_isWeak 1 (some .boolean), Cond.methodLink RX6 233 yX6_shareOf, Cond.methodLink RX4 88 yX2_append, Cond.instanceMethod yX2_append, Cond.selects RX2 yX2_append yX2_append, Cond.code yX2_append cX2_append 5 (some .int), Cond.fieldLink RX2 15 "LampRacks$Lamps" "batch" "[I", Cond.fieldLink RX2 19 "LampRacks$Lamps" "spot" "[I", Cond.fieldLink RX2 22 "LampRacks$Lamps" "canLast" "[I", Cond.fieldLink RX2 25 "LampRacks$Lamps" "wear" "[I"]
def wsX4_insertLamp_r3 : List Cond := [Cond.fieldLink RX2 28 "LampRacks$Lamps" "burned" "[I", Cond.fieldLink RX2 31 "LampRacks$Lamps" "end" "[I"]
def wsX4_insertLamp : List Cond := .code yX4_insertLamp cX4_insertLamp 6 (some .int) :: ((wsX4_insertLamp_r1 ++ (wsX4_insertLamp_r2 ++ wsX4_insertLamp_r3)) ++ wsX40 ++ wsX30 ++ wsX20 ++ wsX00)
def wsX4_removeLamp : List Cond := .code yX4_removeLamp cX4_removeLamp 5 (some .int) :: ([.fieldLink RX4 38 "LampRacks$State" "racks" "LLampRacks$Racks;", .fieldLink RX4 75 "LampRacks$Racks" "lampAt" "[I", .fieldLink RX4 31 "LampRacks$State" "lamps" "LLampRacks$Lamps;", .fieldLink RX4 92 "LampRacks$Lamps" "spot" "[I", .static yX6_isPlace, .initialized RX6, .code yX6_isPlace cX6_isPlace 2 (some .boolean), .methodLink RX6 230 yX6_isRack, .static yX6_isRack, .code yX6_isRack cX6_isRack 1 (some .boolean), .methodLink RX6 117 yX6_isWithin, .static yX6_isWithin, .code yX6_isWithin cX6_isWithin 3 (some .boolean), .static yX6_spotOf, .code yX6_spotOf cX6_spotOf 2 (some .int)] ++ wsX40 ++ wsX30 ++ wsX20)
def wsX4_moveTo : List Cond := .code yX4_moveTo cX4_moveTo 3 (some .int) :: ([.fieldLink RX4 38 "LampRacks$State" "racks" "LLampRacks$Racks;", .fieldLink RX4 75 "LampRacks$Racks" "lampAt" "[I", .fieldLink RX4 31 "LampRacks$State" "lamps" "LLampRacks$Lamps;", .fieldLink RX4 92 "LampRacks$Lamps" "spot" "[I"] ++ wsX40 ++ wsX30 ++ wsX20)
def wsX4_exchange : List Cond := .code yX4_exchange cX4_exchange 9 (some .int) :: ([.fieldLink RX4 38 "LampRacks$State" "racks" "LLampRacks$Racks;", .fieldLink RX4 75 "LampRacks$Racks" "lampAt" "[I", .static yX6_isPlace, .initialized RX6, .code yX6_isPlace cX6_isPlace 2 (some .boolean), .methodLink RX6 230 yX6_isRack, .static yX6_isRack, .code yX6_isRack cX6_isRack 1 (some .boolean), .methodLink RX6 117 yX6_isWithin, .static yX6_isWithin, .code yX6_isWithin cX6_isWithin 3 (some .boolean), .static yX6_spotOf, .code yX6_spotOf cX6_spotOf 2 (some .int), .methodLink RX4 95 yX4_moveTo, .instanceMethod yX4_moveTo, .selects RX4 yX4_moveTo yX4_moveTo, .initialized RX4, .code yX4_moveTo cX4_moveTo 3 (some .int), .fieldLink RX4 31 "LampRacks$State" "lamps" "LLampRacks$Lamps;", .fieldLink RX4 92 "LampRacks$Lamps" "spot" "[I"] ++ wsX40 ++ wsX30 ++ wsX20)
def wsX4_changeVolts : List Cond := .code yX4_changeVolts cX4_changeVolts 4 (some .int) :: ([.fieldLink RX4 38 "LampRacks$State" "racks" "LLampRacks$Racks;", .fieldLink RX4 101 "LampRacks$Racks" "volts" "[I", .static yX6_isRack, .initialized RX6, .code yX6_isRack cX6_isRack 1 (some .boolean), .methodLink RX6 117 yX6_isWithin, .static yX6_isWithin, .code yX6_isWithin cX6_isWithin 3 (some .boolean)] ++ wsX40 ++ wsX30)
def wsX4_changeSteps : List Cond := .code yX4_changeSteps cX4_changeSteps 5 (some .int) :: ([.fieldLink RX4 38 "LampRacks$State" "racks" "LLampRacks$Racks;", .fieldLink RX4 104 "LampRacks$Racks" "stepHours" "[I", .fieldLink RX4 107 "LampRacks$Racks" "stepVolts" "[I", .fieldLink RX4 110 "LampRacks$Racks" "hoursOfStep" "[I", .static yX6_isRack, .initialized RX6, .code yX6_isRack cX6_isRack 1 (some .boolean), .methodLink RX6 117 yX6_isWithin, .static yX6_isWithin, .code yX6_isWithin cX6_isWithin 3 (some .boolean)] ++ wsX40 ++ wsX30)
def wsX4_changeWantedVolts : List Cond := .code yX4_changeWantedVolts cX4_changeWantedVolts 3 (some .int) :: ([.fieldLink RX4 15 "LampRacks$State" "wantedVolts" "I", .static yX6_isWithin, .initialized RX6, .code yX6_isWithin cX6_isWithin 3 (some .boolean)] ++ wsX40)
def wsX4_changeDoublingVolts : List Cond := .code yX4_changeDoublingVolts cX4_changeDoublingVolts 3 (some .int) :: ([.fieldLink RX4 18 "LampRacks$State" "doublingVolts" "I", .static yX6_isWithin, .initialized RX6, .code yX6_isWithin cX6_isWithin 3 (some .boolean)] ++ wsX40)
def wsX4_changeSetting : List Cond := .code yX4_changeSetting cX4_changeSetting 3 (some .int) :: ([.methodLink RX4 113 yX4_changeWantedVolts, .instanceMethod yX4_changeWantedVolts, .selects RX4 yX4_changeWantedVolts yX4_changeWantedVolts, .initialized RX4, .code yX4_changeWantedVolts cX4_changeWantedVolts 3 (some .int), .fieldLink RX4 15 "LampRacks$State" "wantedVolts" "I", .static yX6_isWithin, .initialized RX6, .code yX6_isWithin cX6_isWithin 3 (some .boolean), .methodLink RX4 117 yX4_changeDoublingVolts, .instanceMethod yX4_changeDoublingVolts, .selects RX4 yX4_changeDoublingVolts yX4_changeDoublingVolts, .code yX4_changeDoublingVolts cX4_changeDoublingVolts 3 (some .int), .fieldLink RX4 18 "LampRacks$State" "doublingVolts" "I"] ++ wsX40)
def wsX6_isHot : List Cond := .code yX6_isHot cX6_isHot 1 (some .boolean) :: ([.methodLink RX6 117 yX6_isWithin, .static yX6_isWithin, .initialized RX6, .code yX6_isWithin cX6_isWithin 3 (some .boolean)])
def wsX4_wearOfHour : List Cond := .code yX4_wearOfHour cX4_wearOfHour 5 (some .int) :: ([.fieldLink RX4 15 "LampRacks$State" "wantedVolts" "I", .fieldLink RX4 18 "LampRacks$State" "doublingVolts" "I", .methodLink RX4 130 Lib.Math.max.name, .static Lib.Math.max.name, .initialized "java/lang/Math", .code Lib.Math.max.name Lib.Math.max.code 2 (some .int)] ++ wsX40)
def wsX4_burnRack_r1 : List Cond := [Cond.fieldLink RX4 38 "LampRacks$State" "racks" "LLampRacks$Racks;", Cond.fieldLink RX4 75 "LampRacks$Racks" "lampAt" "[I", Cond.fieldLink RX4 31 "LampRacks$State" "lamps" "LLampRacks$Lamps;", Cond.fieldLink RX4 101 "LampRacks$Racks" "volts" "[I", Cond.methodLink RX4 158 Lib.Math.min.name, Cond.static Lib.Math.min.name, Cond.initialized "java/lang/Math", Cond.code Lib.Math.min.name Lib.Math.min.code 2 (some .int), Cond.fieldLink RX4 165 "LampRacks$Lamps" "end" "[I", Cond.methodLink RX4 142 yX3_isDark, Cond.instanceMethod yX3_isDark, Cond.selects RX3 yX3_isDark yX3_isDark, Cond.initialized RX3, Cond.code yX3_isDark cX3_isDark 2 (some .boolean), Cond.fieldLink RX3 15 "LampRacks$Racks" "volts" "[I", Cond.static yX6_spotOf, Cond.initialized RX6, Cond.code yX6_spotOf cX6_spotOf 2 (some .int), Cond.methodLink RX4 145 yX2_isDead, Cond.instanceMethod yX2_isDead, Cond.selects RX2 yX2_isDead yX2_isDead, Cond.initialized RX2, Cond.code yX2_isDead cX2_isDead 2 (some .boolean), Cond.fieldLink RX2 31 "LampRacks$Lamps" "end" "[I"]
def wsX4_burnRack_r2 : List Cond := [Cond.static yX6_isHot, Cond.code yX6_isHot cX6_isHot 1 (some .boolean), Cond.methodLink RX6 117 yX6_isWithin, Cond.static yX6_isWithin, Cond.code yX6_isWithin cX6_isWithin 3 (some .boolean), Cond.methodLink RX4 151 yX4_wearOfHour, Cond.instanceMethod yX4_wearOfHour, Cond.selects RX4 yX4_wearOfHour yX4_wearOfHour, Cond.initialized RX4, Cond.code yX4_wearOfHour cX4_wearOfHour 5 (some .int), Cond.fieldLink RX4 15 "LampRacks$State" "wantedVolts" "I", Cond.fieldLink RX4 18 "LampRacks$State" "doublingVolts" "I", Cond.methodLink RX4 130 Lib.Math.max.name, Cond.static Lib.Math.max.name, Cond.code Lib.Math.max.name Lib.Math.max.code 2 (some .int), Cond.methodLink RX4 155 yX2_hoursLeft, Cond.instanceMethod yX2_hoursLeft, Cond.selects RX2 yX2_hoursLeft yX2_hoursLeft, Cond.code yX2_hoursLeft cX2_hoursLeft 5 (some .int), Cond.methodLink RX2 46 Lib.Math.max.name, Cond.fieldLink RX2 22 "LampRacks$Lamps" "canLast" "[I", Cond.fieldLink RX2 25 "LampRacks$Lamps" "wear" "[I", Cond.methodLink RX4 161 yX2_burn, Cond.instanceMethod yX2_burn]
def wsX4_burnRack_r3 : List Cond := [Cond.selects RX2 yX2_burn yX2_burn, Cond.code yX2_burn cX2_burn 4 none, Cond.fieldLink RX2 28 "LampRacks$Lamps" "burned" "[I"]
def wsX4_burnRack : List Cond := .code yX4_burnRack cX4_burnRack 10 (some .int) :: ((wsX4_burnRack_r1 ++ (wsX4_burnRack_r2 ++ wsX4_burnRack_r3)) ++ wsX40 ++ wsX30 ++ wsX20)
def wsX4_passHoursOfRack_r1 : List Cond := [Cond.fieldLink RX4 38 "LampRacks$State" "racks" "LLampRacks$Racks;", Cond.methodLink RX4 130 Lib.Math.max.name, Cond.static Lib.Math.max.name, Cond.initialized "java/lang/Math", Cond.code Lib.Math.max.name Lib.Math.max.code 2 (some .int), Cond.fieldLink RX4 9 "LampRacks$State" "hour" "I", Cond.methodLink RX4 127 yX3_hoursAtSameVolts, Cond.instanceMethod yX3_hoursAtSameVolts, Cond.selects RX3 yX3_hoursAtSameVolts yX3_hoursAtSameVolts, Cond.initialized RX3, Cond.code yX3_hoursAtSameVolts cX3_hoursAtSameVolts 3 (some .int), Cond.fieldLink RX3 18 "LampRacks$Racks" "stepHours" "[I", Cond.fieldLink RX3 15 "LampRacks$Racks" "volts" "[I", Cond.methodLink RX3 37 Lib.Math.min.name, Cond.static Lib.Math.min.name, Cond.code Lib.Math.min.name Lib.Math.min.code 2 (some .int), Cond.methodLink RX3 46 yX3_voltsAfterStep, Cond.instanceMethod yX3_voltsAfterStep, Cond.selects RX3 yX3_voltsAfterStep yX3_voltsAfterStep, Cond.code yX3_voltsAfterStep cX3_voltsAfterStep 2 (some .int), Cond.fieldLink RX3 21 "LampRacks$Racks" "stepVolts" "[I", Cond.methodLink RX3 43 Lib.Math.max.name, Cond.methodLink RX3 50 yX3_hoursToStep, Cond.instanceMethod yX3_hoursToStep]
def wsX4_passHoursOfRack_r2 : List Cond := [Cond.selects RX3 yX3_hoursToStep yX3_hoursToStep, Cond.code yX3_hoursToStep cX3_hoursToStep 2 (some .int), Cond.fieldLink RX3 24 "LampRacks$Racks" "hoursOfStep" "[I", Cond.methodLink RX4 135 yX4_burnRack, Cond.instanceMethod yX4_burnRack, Cond.selects RX4 yX4_burnRack yX4_burnRack, Cond.initialized RX4, Cond.code yX4_burnRack cX4_burnRack 10 (some .int), Cond.fieldLink RX4 75 "LampRacks$Racks" "lampAt" "[I", Cond.fieldLink RX4 31 "LampRacks$State" "lamps" "LLampRacks$Lamps;", Cond.fieldLink RX4 101 "LampRacks$Racks" "volts" "[I", Cond.methodLink RX4 158 Lib.Math.min.name, Cond.fieldLink RX4 165 "LampRacks$Lamps" "end" "[I", Cond.methodLink RX4 142 yX3_isDark, Cond.instanceMethod yX3_isDark, Cond.selects RX3 yX3_isDark yX3_isDark, Cond.code yX3_isDark cX3_isDark 2 (some .boolean), Cond.static yX6_spotOf, Cond.initialized RX6, Cond.code yX6_spotOf cX6_spotOf 2 (some .int), Cond.methodLink RX4 145 yX2_isDead, Cond.instanceMethod yX2_isDead, Cond.selects RX2 yX2_isDead yX2_isDead, Cond.initialized RX2]
def wsX4_passHoursOfRack_r3 : List Cond := [Cond.code yX2_isDead cX2_isDead 2 (some .boolean), Cond.fieldLink RX2 31 "LampRacks$Lamps" "end" "[I", Cond.static yX6_isHot, Cond.code yX6_isHot cX6_isHot 1 (some .boolean), Cond.methodLink RX6 117 yX6_isWithin, Cond.static yX6_isWithin, Cond.code yX6_isWithin cX6_isWithin 3 (some .boolean), Cond.methodLink RX4 151 yX4_wearOfHour, Cond.instanceMethod yX4_wearOfHour, Cond.selects RX4 yX4_wearOfHour yX4_wearOfHour, Cond.code yX4_wearOfHour cX4_wearOfHour 5 (some .int), Cond.fieldLink RX4 15 "LampRacks$State" "wantedVolts" "I", Cond.fieldLink RX4 18 "LampRacks$State" "doublingVolts" "I", Cond.methodLink RX4 155 yX2_hoursLeft, Cond.instanceMethod yX2_hoursLeft, Cond.selects RX2 yX2_hoursLeft yX2_hoursLeft, Cond.code yX2_hoursLeft cX2_hoursLeft 5 (some .int), Cond.methodLink RX2 46 Lib.Math.max.name, Cond.fieldLink RX2 22 "LampRacks$Lamps" "canLast" "[I", Cond.fieldLink RX2 25 "LampRacks$Lamps" "wear" "[I", Cond.methodLink RX4 161 yX2_burn, Cond.instanceMethod yX2_burn, Cond.selects RX2 yX2_burn yX2_burn, Cond.code yX2_burn cX2_burn 4 none]
def wsX4_passHoursOfRack_r4 : List Cond := [Cond.fieldLink RX2 28 "LampRacks$Lamps" "burned" "[I", Cond.methodLink RX4 138 yX3_countHours, Cond.instanceMethod yX3_countHours, Cond.selects RX3 yX3_countHours yX3_countHours, Cond.code yX3_countHours cX3_countHours 5 none]
def wsX4_passHoursOfRack : List Cond := .code yX4_passHoursOfRack cX4_passHoursOfRack 6 (some .int) :: ((wsX4_passHoursOfRack_r1 ++ (wsX4_passHoursOfRack_r2 ++ (wsX4_passHoursOfRack_r3 ++ wsX4_passHoursOfRack_r4))) ++ wsX40 ++ wsX30 ++ wsX20)
def wsX4_passHours_r1 : List Cond := [Cond.fieldLink RX4 9 "LampRacks$State" "hour" "I", Cond.methodLink RX4 124 yX4_passHoursOfRack, Cond.instanceMethod yX4_passHoursOfRack, Cond.selects RX4 yX4_passHoursOfRack yX4_passHoursOfRack, Cond.initialized RX4, Cond.code yX4_passHoursOfRack cX4_passHoursOfRack 6 (some .int), Cond.fieldLink RX4 38 "LampRacks$State" "racks" "LLampRacks$Racks;", Cond.methodLink RX4 130 Lib.Math.max.name, Cond.static Lib.Math.max.name, Cond.initialized "java/lang/Math", Cond.code Lib.Math.max.name Lib.Math.max.code 2 (some .int), Cond.methodLink RX4 127 yX3_hoursAtSameVolts, Cond.instanceMethod yX3_hoursAtSameVolts, Cond.selects RX3 yX3_hoursAtSameVolts yX3_hoursAtSameVolts, Cond.initialized RX3, Cond.code yX3_hoursAtSameVolts cX3_hoursAtSameVolts 3 (some .int), Cond.fieldLink RX3 18 "LampRacks$Racks" "stepHours" "[I", Cond.fieldLink RX3 15 "LampRacks$Racks" "volts" "[I", Cond.methodLink RX3 37 Lib.Math.min.name, Cond.static Lib.Math.min.name, Cond.code Lib.Math.min.name Lib.Math.min.code 2 (some .int), Cond.methodLink RX3 46 yX3_voltsAfterStep, Cond.instanceMethod yX3_voltsAfterStep, Cond.selects RX3 yX3_voltsAfterStep yX3_voltsAfterStep]
def wsX4_passHours_r2 : List Cond := [Cond.code yX3_voltsAfterStep cX3_voltsAfterStep 2 (some .int), Cond.fieldLink RX3 21 "LampRacks$Racks" "stepVolts" "[I", Cond.methodLink RX3 43 Lib.Math.max.name, Cond.methodLink RX3 50 yX3_hoursToStep, Cond.instanceMethod yX3_hoursToStep, Cond.selects RX3 yX3_hoursToStep yX3_hoursToStep, Cond.code yX3_hoursToStep cX3_hoursToStep 2 (some .int), Cond.fieldLink RX3 24 "LampRacks$Racks" "hoursOfStep" "[I", Cond.methodLink RX4 135 yX4_burnRack, Cond.instanceMethod yX4_burnRack, Cond.selects RX4 yX4_burnRack yX4_burnRack, Cond.code yX4_burnRack cX4_burnRack 10 (some .int), Cond.fieldLink RX4 75 "LampRacks$Racks" "lampAt" "[I", Cond.fieldLink RX4 31 "LampRacks$State" "lamps" "LLampRacks$Lamps;", Cond.fieldLink RX4 101 "LampRacks$Racks" "volts" "[I", Cond.methodLink RX4 158 Lib.Math.min.name, Cond.fieldLink RX4 165 "LampRacks$Lamps" "end" "[I", Cond.methodLink RX4 142 yX3_isDark, Cond.instanceMethod yX3_isDark, Cond.selects RX3 yX3_isDark yX3_isDark, Cond.code yX3_isDark cX3_isDark 2 (some .boolean), Cond.static yX6_spotOf, Cond.initialized RX6, Cond.code yX6_spotOf cX6_spotOf 2 (some .int)]
def wsX4_passHours_r3 : List Cond := [Cond.methodLink RX4 145 yX2_isDead, Cond.instanceMethod yX2_isDead, Cond.selects RX2 yX2_isDead yX2_isDead, Cond.initialized RX2, Cond.code yX2_isDead cX2_isDead 2 (some .boolean), Cond.fieldLink RX2 31 "LampRacks$Lamps" "end" "[I", Cond.static yX6_isHot, Cond.code yX6_isHot cX6_isHot 1 (some .boolean), Cond.methodLink RX6 117 yX6_isWithin, Cond.static yX6_isWithin, Cond.code yX6_isWithin cX6_isWithin 3 (some .boolean), Cond.methodLink RX4 151 yX4_wearOfHour, Cond.instanceMethod yX4_wearOfHour, Cond.selects RX4 yX4_wearOfHour yX4_wearOfHour, Cond.code yX4_wearOfHour cX4_wearOfHour 5 (some .int), Cond.fieldLink RX4 15 "LampRacks$State" "wantedVolts" "I", Cond.fieldLink RX4 18 "LampRacks$State" "doublingVolts" "I", Cond.methodLink RX4 155 yX2_hoursLeft, Cond.instanceMethod yX2_hoursLeft, Cond.selects RX2 yX2_hoursLeft yX2_hoursLeft, Cond.code yX2_hoursLeft cX2_hoursLeft 5 (some .int), Cond.methodLink RX2 46 Lib.Math.max.name, Cond.fieldLink RX2 22 "LampRacks$Lamps" "canLast" "[I", Cond.fieldLink RX2 25 "LampRacks$Lamps" "wear" "[I"]
def wsX4_passHours_r4 : List Cond := [Cond.methodLink RX4 161 yX2_burn, Cond.instanceMethod yX2_burn, Cond.selects RX2 yX2_burn yX2_burn, Cond.code yX2_burn cX2_burn 4 none, Cond.fieldLink RX2 28 "LampRacks$Lamps" "burned" "[I", Cond.methodLink RX4 138 yX3_countHours, Cond.instanceMethod yX3_countHours, Cond.selects RX3 yX3_countHours yX3_countHours, Cond.code yX3_countHours cX3_countHours 5 none]
def wsX4_passHours : List Cond := .code yX4_passHours cX4_passHours 4 (some .int) :: ((wsX4_passHours_r1 ++ (wsX4_passHours_r2 ++ (wsX4_passHours_r3 ++ wsX4_passHours_r4))) ++ wsX40 ++ wsX30 ++ wsX20)
def wsX4_letPass_r1 : List Cond := [Cond.fieldLink RX4 9 "LampRacks$State" "hour" "I", Cond.constant RX4 120 (99999), Cond.static yX6_isWithin, Cond.initialized RX6, Cond.code yX6_isWithin cX6_isWithin 3 (some .boolean), Cond.methodLink RX4 121 yX4_passHours, Cond.instanceMethod yX4_passHours, Cond.selects RX4 yX4_passHours yX4_passHours, Cond.initialized RX4, Cond.code yX4_passHours cX4_passHours 4 (some .int), Cond.methodLink RX4 124 yX4_passHoursOfRack, Cond.instanceMethod yX4_passHoursOfRack, Cond.selects RX4 yX4_passHoursOfRack yX4_passHoursOfRack, Cond.code yX4_passHoursOfRack cX4_passHoursOfRack 6 (some .int), Cond.fieldLink RX4 38 "LampRacks$State" "racks" "LLampRacks$Racks;", Cond.methodLink RX4 130 Lib.Math.max.name, Cond.static Lib.Math.max.name, Cond.initialized "java/lang/Math", Cond.code Lib.Math.max.name Lib.Math.max.code 2 (some .int), Cond.methodLink RX4 127 yX3_hoursAtSameVolts, Cond.instanceMethod yX3_hoursAtSameVolts, Cond.selects RX3 yX3_hoursAtSameVolts yX3_hoursAtSameVolts, Cond.initialized RX3, Cond.code yX3_hoursAtSameVolts cX3_hoursAtSameVolts 3 (some .int)]
def wsX4_letPass_r2 : List Cond := [Cond.fieldLink RX3 18 "LampRacks$Racks" "stepHours" "[I", Cond.fieldLink RX3 15 "LampRacks$Racks" "volts" "[I", Cond.methodLink RX3 37 Lib.Math.min.name, Cond.static Lib.Math.min.name, Cond.code Lib.Math.min.name Lib.Math.min.code 2 (some .int), Cond.methodLink RX3 46 yX3_voltsAfterStep, Cond.instanceMethod yX3_voltsAfterStep, Cond.selects RX3 yX3_voltsAfterStep yX3_voltsAfterStep, Cond.code yX3_voltsAfterStep cX3_voltsAfterStep 2 (some .int), Cond.fieldLink RX3 21 "LampRacks$Racks" "stepVolts" "[I", Cond.methodLink RX3 43 Lib.Math.max.name, Cond.methodLink RX3 50 yX3_hoursToStep, Cond.instanceMethod yX3_hoursToStep, Cond.selects RX3 yX3_hoursToStep yX3_hoursToStep, Cond.code yX3_hoursToStep cX3_hoursToStep 2 (some .int), Cond.fieldLink RX3 24 "LampRacks$Racks" "hoursOfStep" "[I", Cond.methodLink RX4 135 yX4_burnRack, Cond.instanceMethod yX4_burnRack, Cond.selects RX4 yX4_burnRack yX4_burnRack, Cond.code yX4_burnRack cX4_burnRack 10 (some .int), Cond.fieldLink RX4 75 "LampRacks$Racks" "lampAt" "[I", Cond.fieldLink RX4 31 "LampRacks$State" "lamps" "LLampRacks$Lamps;", Cond.fieldLink RX4 101 "LampRacks$Racks" "volts" "[I", Cond.methodLink RX4 158 Lib.Math.min.name]
def wsX4_letPass_r3 : List Cond := [Cond.fieldLink RX4 165 "LampRacks$Lamps" "end" "[I", Cond.methodLink RX4 142 yX3_isDark, Cond.instanceMethod yX3_isDark, Cond.selects RX3 yX3_isDark yX3_isDark, Cond.code yX3_isDark cX3_isDark 2 (some .boolean), Cond.static yX6_spotOf, Cond.code yX6_spotOf cX6_spotOf 2 (some .int), Cond.methodLink RX4 145 yX2_isDead, Cond.instanceMethod yX2_isDead, Cond.selects RX2 yX2_isDead yX2_isDead, Cond.initialized RX2, Cond.code yX2_isDead cX2_isDead 2 (some .boolean), Cond.fieldLink RX2 31 "LampRacks$Lamps" "end" "[I", Cond.static yX6_isHot, Cond.code yX6_isHot cX6_isHot 1 (some .boolean), Cond.methodLink RX6 117 yX6_isWithin, Cond.methodLink RX4 151 yX4_wearOfHour, Cond.instanceMethod yX4_wearOfHour, Cond.selects RX4 yX4_wearOfHour yX4_wearOfHour, Cond.code yX4_wearOfHour cX4_wearOfHour 5 (some .int), Cond.fieldLink RX4 15 "LampRacks$State" "wantedVolts" "I", Cond.fieldLink RX4 18 "LampRacks$State" "doublingVolts" "I", Cond.methodLink RX4 155 yX2_hoursLeft, Cond.instanceMethod yX2_hoursLeft]
def wsX4_letPass_r4 : List Cond := [Cond.selects RX2 yX2_hoursLeft yX2_hoursLeft, Cond.code yX2_hoursLeft cX2_hoursLeft 5 (some .int), Cond.methodLink RX2 46 Lib.Math.max.name, Cond.fieldLink RX2 22 "LampRacks$Lamps" "canLast" "[I", Cond.fieldLink RX2 25 "LampRacks$Lamps" "wear" "[I", Cond.methodLink RX4 161 yX2_burn, Cond.instanceMethod yX2_burn, Cond.selects RX2 yX2_burn yX2_burn, Cond.code yX2_burn cX2_burn 4 none, Cond.fieldLink RX2 28 "LampRacks$Lamps" "burned" "[I", Cond.methodLink RX4 138 yX3_countHours, Cond.instanceMethod yX3_countHours, Cond.selects RX3 yX3_countHours yX3_countHours, Cond.code yX3_countHours cX3_countHours 5 none]
def wsX4_letPass : List Cond := .code yX4_letPass cX4_letPass 2 (some .int) :: ((wsX4_letPass_r1 ++ (wsX4_letPass_r2 ++ (wsX4_letPass_r3 ++ wsX4_letPass_r4))) ++ wsX40 ++ wsX30 ++ wsX20)
def wsX4_whyDark : List Cond := .code yX4_whyDark cX4_whyDark 3 (some .int) :: ([.fieldLink RX4 31 "LampRacks$State" "lamps" "LLampRacks$Lamps;", .fieldLink RX4 92 "LampRacks$Lamps" "spot" "[I", .fieldLink RX4 38 "LampRacks$State" "racks" "LLampRacks$Racks;", .methodLink RX4 145 yX2_isDead, .instanceMethod yX2_isDead, .selects RX2 yX2_isDead yX2_isDead, .initialized RX2, .code yX2_isDead cX2_isDead 2 (some .boolean), .fieldLink RX2 31 "LampRacks$Lamps" "end" "[I", .methodLink RX4 142 yX3_isDark, .instanceMethod yX3_isDark, .selects RX3 yX3_isDark yX3_isDark, .initialized RX3, .code yX3_isDark cX3_isDark 2 (some .boolean), .fieldLink RX3 15 "LampRacks$Racks" "volts" "[I"] ++ wsX40 ++ wsX20 ++ wsX30)
def wsX4_tellOfLamp_r1 : List Cond := [Cond.fieldLink RX4 31 "LampRacks$State" "lamps" "LLampRacks$Lamps;", Cond.fieldLink RX4 92 "LampRacks$Lamps" "spot" "[I", Cond.fieldLink RX4 171 "LampRacks$Lamps" "batch" "[I", Cond.fieldLink RX4 174 "LampRacks$Lamps" "canLast" "[I", Cond.fieldLink RX4 177 "LampRacks$Lamps" "wear" "[I", Cond.fieldLink RX4 180 "LampRacks$Lamps" "burned" "[I", Cond.fieldLink RX4 165 "LampRacks$Lamps" "end" "[I", Cond.methodLink RX4 168 yX2_has, Cond.instanceMethod yX2_has, Cond.selects RX2 yX2_has yX2_has, Cond.initialized RX2, Cond.code yX2_has cX2_has 2 (some .boolean), Cond.fieldLink RX2 9 "LampRacks$Lamps" "size" "I", Cond.static yX6_isWithin, Cond.initialized RX6, Cond.code yX6_isWithin cX6_isWithin 3 (some .boolean), Cond.methodLink RX4 183 yX2_hoursCounted, Cond.instanceMethod yX2_hoursCounted, Cond.selects RX2 yX2_hoursCounted yX2_hoursCounted, Cond.code yX2_hoursCounted cX2_hoursCounted 2 (some .int), Cond.fieldLink RX2 25 "LampRacks$Lamps" "wear" "[I", Cond.methodLink RX4 145 yX2_isDead, Cond.instanceMethod yX2_isDead, Cond.selects RX2 yX2_isDead yX2_isDead]
def wsX4_tellOfLamp_r2 : List Cond := [Cond.code yX2_isDead cX2_isDead 2 (some .boolean), Cond.fieldLink RX2 31 "LampRacks$Lamps" "end" "[I", Cond.static yX6_oneIf, Cond.code yX6_oneIf cX6_oneIf 1 (some .int), Cond.static yX6_isWeak, Cond.code yX6_isWeak cX6_isWeak 1 (some .boolean), Cond.methodLink RX6 233 yX6_shareOf, Cond.static yX6_shareOf, Cond.code yX6_shareOf cX6_shareOf 1 (some .int)]
def wsX4_tellOfLamp : List Cond := .code yX4_tellOfLamp cX4_tellOfLamp 4 (some .int) :: ((wsX4_tellOfLamp_r1 ++ wsX4_tellOfLamp_r2) ++ wsX40 ++ wsX20)
def wsX4_countInRack : List Cond := .code yX4_countInRack cX4_countInRack 6 (some .int) :: ([.fieldLink RX4 38 "LampRacks$State" "racks" "LLampRacks$Racks;", .fieldLink RX4 75 "LampRacks$Racks" "lampAt" "[I", .fieldLink RX4 31 "LampRacks$State" "lamps" "LLampRacks$Lamps;", .static yX6_spotOf, .initialized RX6, .code yX6_spotOf cX6_spotOf 2 (some .int), .methodLink RX4 145 yX2_isDead, .instanceMethod yX2_isDead, .selects RX2 yX2_isDead yX2_isDead, .initialized RX2, .code yX2_isDead cX2_isDead 2 (some .boolean), .fieldLink RX2 31 "LampRacks$Lamps" "end" "[I", .static yX6_oneIf, .code yX6_oneIf cX6_oneIf 1 (some .int)] ++ wsX40 ++ wsX30 ++ wsX20)
def wsX4_tellOfRack_r1 : List Cond := [Cond.fieldLink RX4 38 "LampRacks$State" "racks" "LLampRacks$Racks;", Cond.fieldLink RX4 101 "LampRacks$Racks" "volts" "[I", Cond.fieldLink RX4 104 "LampRacks$Racks" "stepHours" "[I", Cond.fieldLink RX4 107 "LampRacks$Racks" "stepVolts" "[I", Cond.static yX6_isRack, Cond.initialized RX6, Cond.code yX6_isRack cX6_isRack 1 (some .boolean), Cond.methodLink RX6 117 yX6_isWithin, Cond.static yX6_isWithin, Cond.code yX6_isWithin cX6_isWithin 3 (some .boolean), Cond.methodLink RX4 193 yX4_countInRack, Cond.instanceMethod yX4_countInRack, Cond.selects RX4 yX4_countInRack yX4_countInRack, Cond.initialized RX4, Cond.code yX4_countInRack cX4_countInRack 6 (some .int), Cond.fieldLink RX4 75 "LampRacks$Racks" "lampAt" "[I", Cond.fieldLink RX4 31 "LampRacks$State" "lamps" "LLampRacks$Lamps;", Cond.static yX6_spotOf, Cond.code yX6_spotOf cX6_spotOf 2 (some .int), Cond.methodLink RX4 145 yX2_isDead, Cond.instanceMethod yX2_isDead, Cond.selects RX2 yX2_isDead yX2_isDead, Cond.initialized RX2, Cond.code yX2_isDead cX2_isDead 2 (some .boolean)]
def wsX4_tellOfRack_r2 : List Cond := [Cond.fieldLink RX2 31 "LampRacks$Lamps" "end" "[I", Cond.static yX6_oneIf, Cond.code yX6_oneIf cX6_oneIf 1 (some .int), Cond.methodLink RX4 142 yX3_isDark, Cond.instanceMethod yX3_isDark, Cond.selects RX3 yX3_isDark yX3_isDark, Cond.initialized RX3, Cond.code yX3_isDark cX3_isDark 2 (some .boolean), Cond.fieldLink RX3 15 "LampRacks$Racks" "volts" "[I", Cond.methodLink RX4 151 yX4_wearOfHour, Cond.instanceMethod yX4_wearOfHour, Cond.selects RX4 yX4_wearOfHour yX4_wearOfHour, Cond.code yX4_wearOfHour cX4_wearOfHour 5 (some .int), Cond.fieldLink RX4 15 "LampRacks$State" "wantedVolts" "I", Cond.fieldLink RX4 18 "LampRacks$State" "doublingVolts" "I", Cond.methodLink RX4 130 Lib.Math.max.name, Cond.static Lib.Math.max.name, Cond.initialized "java/lang/Math", Cond.code Lib.Math.max.name Lib.Math.max.code 2 (some .int), Cond.methodLink RX4 196 yX3_hoursToStep, Cond.instanceMethod yX3_hoursToStep, Cond.selects RX3 yX3_hoursToStep yX3_hoursToStep, Cond.code yX3_hoursToStep cX3_hoursToStep 2 (some .int), Cond.fieldLink RX3 18 "LampRacks$Racks" "stepHours" "[I"]
def wsX4_tellOfRack_r3 : List Cond := [Cond.fieldLink RX3 24 "LampRacks$Racks" "hoursOfStep" "[I"]
def wsX4_tellOfRack : List Cond := .code yX4_tellOfRack cX4_tellOfRack 4 (some .int) :: ((wsX4_tellOfRack_r1 ++ (wsX4_tellOfRack_r2 ++ wsX4_tellOfRack_r3)) ++ wsX40 ++ wsX30 ++ wsX20)
def wsX4_tellOfBatch_r1 : List Cond := [Cond.fieldLink RX4 31 "LampRacks$State" "lamps" "LLampRacks$Lamps;", Cond.fieldLink RX4 24 "LampRacks$State" "batches" "LLampRacks$Batches;", Cond.fieldLink RX4 60 "LampRacks$Batches" "life" "[I", Cond.fieldLink RX4 64 "LampRacks$Batches" "spread" "[I", Cond.static yX6_isBatch, Cond.initialized RX6, Cond.code yX6_isBatch cX6_isBatch 1 (some .boolean), Cond.methodLink RX6 117 yX6_isWithin, Cond.static yX6_isWithin, Cond.code yX6_isWithin cX6_isWithin 3 (some .boolean), Cond.methodLink RX4 199 yX2_countDeadOf, Cond.instanceMethod yX2_countDeadOf, Cond.selects RX2 yX2_countDeadOf yX2_countDeadOf, Cond.initialized RX2, Cond.code yX2_countDeadOf cX2_countDeadOf 4 (some .int), Cond.fieldLink RX2 9 "LampRacks$Lamps" "size" "I", Cond.methodLink RX2 56 yX2_isDeadOf, Cond.instanceMethod yX2_isDeadOf, Cond.selects RX2 yX2_isDeadOf yX2_isDeadOf, Cond.code yX2_isDeadOf cX2_isDeadOf 3 (some .boolean), Cond.fieldLink RX2 15 "LampRacks$Lamps" "batch" "[I", Cond.methodLink RX2 42 yX2_isDead, Cond.instanceMethod yX2_isDead, Cond.selects RX2 yX2_isDead yX2_isDead]
def wsX4_tellOfBatch_r2 : List Cond := [Cond.code yX2_isDead cX2_isDead 2 (some .boolean), Cond.fieldLink RX2 31 "LampRacks$Lamps" "end" "[I", Cond.static yX6_oneIf, Cond.code yX6_oneIf cX6_oneIf 1 (some .int), Cond.methodLink RX4 202 yX2_countDeadBelow, Cond.instanceMethod yX2_countDeadBelow, Cond.selects RX2 yX2_countDeadBelow yX2_countDeadBelow, Cond.code yX2_countDeadBelow cX2_countDeadBelow 5 (some .int), Cond.methodLink RX2 60 yX2_hoursCounted, Cond.instanceMethod yX2_hoursCounted, Cond.selects RX2 yX2_hoursCounted yX2_hoursCounted, Cond.code yX2_hoursCounted cX2_hoursCounted 2 (some .int), Cond.fieldLink RX2 25 "LampRacks$Lamps" "wear" "[I", Cond.methodLink RX4 205 yX2_countOf, Cond.instanceMethod yX2_countOf, Cond.selects RX2 yX2_countOf yX2_countOf, Cond.code yX2_countOf cX2_countOf 4 (some .int), Cond.methodLink RX4 208 yX2_middleLife, Cond.instanceMethod yX2_middleLife, Cond.selects RX2 yX2_middleLife yX2_middleLife, Cond.code yX2_middleLife cX2_middleLife 4 (some .int), Cond.methodLink RX2 73 yX2_countOf, Cond.methodLink RX2 76 yX2_countShorterOf, Cond.instanceMethod yX2_countShorterOf]
def wsX4_tellOfBatch_r3 : List Cond := [Cond.selects RX2 yX2_countShorterOf yX2_countShorterOf, Cond.code yX2_countShorterOf cX2_countShorterOf 8 (some .int)]
def wsX4_tellOfBatch : List Cond := .code yX4_tellOfBatch cX4_tellOfBatch 5 (some .int) :: ((wsX4_tellOfBatch_r1 ++ (wsX4_tellOfBatch_r2 ++ wsX4_tellOfBatch_r3)) ++ wsX40 ++ wsX00 ++ wsX20)
def wsX4_countBurning : List Cond := .code yX4_countBurning cX4_countBurning 3 (some .int) :: ([.fieldLink RX4 31 "LampRacks$State" "lamps" "LLampRacks$Lamps;", .fieldLink RX4 82 "LampRacks$Lamps" "size" "I", .methodLink RX4 228 yX4_whyDark, .instanceMethod yX4_whyDark, .selects RX4 yX4_whyDark yX4_whyDark, .initialized RX4, .code yX4_whyDark cX4_whyDark 3 (some .int), .fieldLink RX4 92 "LampRacks$Lamps" "spot" "[I", .fieldLink RX4 38 "LampRacks$State" "racks" "LLampRacks$Racks;", .methodLink RX4 145 yX2_isDead, .instanceMethod yX2_isDead, .selects RX2 yX2_isDead yX2_isDead, .initialized RX2, .code yX2_isDead cX2_isDead 2 (some .boolean), .fieldLink RX2 31 "LampRacks$Lamps" "end" "[I", .methodLink RX4 142 yX3_isDark, .instanceMethod yX3_isDark, .selects RX3 yX3_isDark yX3_isDark, .initialized RX3, .code yX3_isDark cX3_isDark 2 (some .boolean), .fieldLink RX3 15 "LampRacks$Racks" "volts" "[I", .static yX6_oneIf, .initialized RX6, .code yX6_oneIf cX6_oneIf 1 (some .int)] ++ wsX40 ++ wsX20 ++ wsX30)
def wsX4_tellOfAll_r1 : List Cond := [Cond.fieldLink RX4 9 "LampRacks$State" "hour" "I", Cond.fieldLink RX4 31 "LampRacks$State" "lamps" "LLampRacks$Lamps;", Cond.fieldLink RX4 82 "LampRacks$Lamps" "size" "I", Cond.fieldLink RX4 180 "LampRacks$Lamps" "burned" "[I", Cond.fieldLink RX4 177 "LampRacks$Lamps" "wear" "[I", Cond.fieldLink RX4 15 "LampRacks$State" "wantedVolts" "I", Cond.fieldLink RX4 18 "LampRacks$State" "doublingVolts" "I", Cond.methodLink RX4 211 yX2_countInRacks, Cond.instanceMethod yX2_countInRacks, Cond.selects RX2 yX2_countInRacks yX2_countInRacks, Cond.initialized RX2, Cond.code yX2_countInRacks cX2_countInRacks 3 (some .int), Cond.fieldLink RX2 9 "LampRacks$Lamps" "size" "I", Cond.fieldLink RX2 19 "LampRacks$Lamps" "spot" "[I", Cond.static yX6_oneIf, Cond.initialized RX6, Cond.code yX6_oneIf cX6_oneIf 1 (some .int), Cond.methodLink RX4 215 yX4_countBurning, Cond.instanceMethod yX4_countBurning, Cond.selects RX4 yX4_countBurning yX4_countBurning, Cond.initialized RX4, Cond.code yX4_countBurning cX4_countBurning 3 (some .int), Cond.methodLink RX4 228 yX4_whyDark, Cond.instanceMethod yX4_whyDark]
def wsX4_tellOfAll_r2 : List Cond := [Cond.selects RX4 yX4_whyDark yX4_whyDark, Cond.code yX4_whyDark cX4_whyDark 3 (some .int), Cond.fieldLink RX4 92 "LampRacks$Lamps" "spot" "[I", Cond.fieldLink RX4 38 "LampRacks$State" "racks" "LLampRacks$Racks;", Cond.methodLink RX4 145 yX2_isDead, Cond.instanceMethod yX2_isDead, Cond.selects RX2 yX2_isDead yX2_isDead, Cond.code yX2_isDead cX2_isDead 2 (some .boolean), Cond.fieldLink RX2 31 "LampRacks$Lamps" "end" "[I", Cond.methodLink RX4 142 yX3_isDark, Cond.instanceMethod yX3_isDark, Cond.selects RX3 yX3_isDark yX3_isDark, Cond.initialized RX3, Cond.code yX3_isDark cX3_isDark 2 (some .boolean), Cond.fieldLink RX3 15 "LampRacks$Racks" "volts" "[I", Cond.methodLink RX4 218 yX2_countDead, Cond.instanceMethod yX2_countDead, Cond.selects RX2 yX2_countDead yX2_countDead, Cond.code yX2_countDead cX2_countDead 3 (some .int), Cond.methodLink RX2 42 yX2_isDead, Cond.methodLink RX4 221 yX2_countWeak, Cond.instanceMethod yX2_countWeak, Cond.selects RX2 yX2_countWeak yX2_countWeak, Cond.code yX2_countWeak cX2_countWeak 3 (some .int)]
def wsX4_tellOfAll_r3 : List Cond := [Cond.static yX6_isWeak, Cond.code yX6_isWeak cX6_isWeak 1 (some .boolean), Cond.methodLink RX6 233 yX6_shareOf, Cond.static yX6_shareOf, Cond.code yX6_shareOf cX6_shareOf 1 (some .int), Cond.methodLink RX4 224 yX2_sumOf, Cond.instanceMethod yX2_sumOf, Cond.selects RX2 yX2_sumOf yX2_sumOf, Cond.code yX2_sumOf cX2_sumOf 4 (some .int), Cond.methodLink RX2 67 Lib.Math.min.name, Cond.static Lib.Math.min.name, Cond.initialized "java/lang/Math", Cond.code Lib.Math.min.name Lib.Math.min.code 2 (some .int)]
def wsX4_tellOfAll : List Cond := .code yX4_tellOfAll cX4_tellOfAll 2 (some .int) :: ((wsX4_tellOfAll_r1 ++ (wsX4_tellOfAll_r2 ++ wsX4_tellOfAll_r3)) ++ wsX40 ++ wsX20 ++ wsX30)
def wsX5_init : List Cond := .code yX5_init cX5_init 1 none :: ([.methodLink RX5 3 objectInit, .instanceMethod objectInit, .code objectInit ⟨#[0xb1]⟩ 1 none, .fieldLink RX5 9 "LampRacks$Text" "length" "I", .arrayClass .char, .fieldLink RX5 15 "LampRacks$Text" "characters" "[C", .fieldLink RX5 19 "LampRacks$Text" "position" "I", .fieldLink RX5 22 "LampRacks$Text" "things" "I", .fieldLink RX5 25 "LampRacks$Text" "kind" "I", .fieldLink RX5 28 "LampRacks$Text" "rack" "I", .fieldLink RX5 31 "LampRacks$Text" "place" "I", .fieldLink RX5 34 "LampRacks$Text" "hours" "I", .fieldLink RX5 37 "LampRacks$Text" "direction" "I", .fieldLink RX5 40 "LampRacks$Text" "number" "I"] ++ wsX50)
def wsX5_append : List Cond := .code yX5_append cX5_append 2 (some .int) :: ([.fieldLink RX5 9 "LampRacks$Text" "length" "I", .fieldLink RX5 15 "LampRacks$Text" "characters" "[C"] ++ wsX50)
def wsX5_empty : List Cond := .code yX5_empty cX5_empty 2 (some .int) :: ([.fieldLink RX5 9 "LampRacks$Text" "length" "I"] ++ wsX50)
def wsX5_startReading : List Cond := .code yX5_startReading cX5_startReading 1 none :: ([.fieldLink RX5 19 "LampRacks$Text" "position" "I"] ++ wsX50)
def wsX5_current : List Cond := .code yX5_current cX5_current 1 (some .int) :: ([.fieldLink RX5 19 "LampRacks$Text" "position" "I", .fieldLink RX5 9 "LampRacks$Text" "length" "I", .fieldLink RX5 15 "LampRacks$Text" "characters" "[C"] ++ wsX50)
def wsX5_readSign : List Cond := .code yX5_readSign cX5_readSign 2 (some .boolean) :: ([.fieldLink RX5 19 "LampRacks$Text" "position" "I", .methodLink RX5 54 yX5_current, .instanceMethod yX5_current, .selects RX5 yX5_current yX5_current, .initialized RX5, .code yX5_current cX5_current 1 (some .int), .fieldLink RX5 9 "LampRacks$Text" "length" "I", .fieldLink RX5 15 "LampRacks$Text" "characters" "[C"] ++ wsX50)
def wsX5_readDigit : List Cond := .code yX5_readDigit cX5_readDigit 2 (some .boolean) :: ([.fieldLink RX5 40 "LampRacks$Text" "number" "I", .fieldLink RX5 19 "LampRacks$Text" "position" "I", .methodLink RX5 54 yX5_current, .instanceMethod yX5_current, .selects RX5 yX5_current yX5_current, .initialized RX5, .code yX5_current cX5_current 1 (some .int), .fieldLink RX5 9 "LampRacks$Text" "length" "I", .fieldLink RX5 15 "LampRacks$Text" "characters" "[C", .static yX6_isWithin, .initialized RX6, .code yX6_isWithin cX6_isWithin 3 (some .boolean)] ++ wsX50)
def wsX5_readRack : List Cond := .code yX5_readRack cX5_readRack 1 (some .boolean) :: ([.fieldLink RX5 40 "LampRacks$Text" "number" "I", .fieldLink RX5 28 "LampRacks$Text" "rack" "I", .methodLink RX5 61 yX5_readDigit, .instanceMethod yX5_readDigit, .selects RX5 yX5_readDigit yX5_readDigit, .initialized RX5, .code yX5_readDigit cX5_readDigit 2 (some .boolean), .fieldLink RX5 19 "LampRacks$Text" "position" "I", .methodLink RX5 54 yX5_current, .instanceMethod yX5_current, .selects RX5 yX5_current yX5_current, .code yX5_current cX5_current 1 (some .int), .fieldLink RX5 9 "LampRacks$Text" "length" "I", .fieldLink RX5 15 "LampRacks$Text" "characters" "[C", .static yX6_isWithin, .initialized RX6, .code yX6_isWithin cX6_isWithin 3 (some .boolean)] ++ wsX50)
def wsX5_readSpot : List Cond := .code yX5_readSpot cX5_readSpot 1 (some .boolean) :: ([.fieldLink RX5 40 "LampRacks$Text" "number" "I", .fieldLink RX5 31 "LampRacks$Text" "place" "I", .methodLink RX5 75 yX5_readRack, .instanceMethod yX5_readRack, .selects RX5 yX5_readRack yX5_readRack, .initialized RX5, .code yX5_readRack cX5_readRack 1 (some .boolean), .fieldLink RX5 28 "LampRacks$Text" "rack" "I", .methodLink RX5 61 yX5_readDigit, .instanceMethod yX5_readDigit, .selects RX5 yX5_readDigit yX5_readDigit, .code yX5_readDigit cX5_readDigit 2 (some .boolean), .fieldLink RX5 19 "LampRacks$Text" "position" "I", .methodLink RX5 54 yX5_current, .instanceMethod yX5_current, .selects RX5 yX5_current yX5_current, .code yX5_current cX5_current 1 (some .int), .fieldLink RX5 9 "LampRacks$Text" "length" "I", .fieldLink RX5 15 "LampRacks$Text" "characters" "[C", .static yX6_isWithin, .initialized RX6, .code yX6_isWithin cX6_isWithin 3 (some .boolean)] ++ wsX50)
def wsX5_readRackAndColon_r1 : List Cond := [Cond.methodLink RX5 75 yX5_readRack, Cond.instanceMethod yX5_readRack, Cond.selects RX5 yX5_readRack yX5_readRack, Cond.initialized RX5, Cond.code yX5_readRack cX5_readRack 1 (some .boolean), Cond.fieldLink RX5 40 "LampRacks$Text" "number" "I", Cond.fieldLink RX5 28 "LampRacks$Text" "rack" "I", Cond.methodLink RX5 61 yX5_readDigit, Cond.instanceMethod yX5_readDigit, Cond.selects RX5 yX5_readDigit yX5_readDigit, Cond.code yX5_readDigit cX5_readDigit 2 (some .boolean), Cond.fieldLink RX5 19 "LampRacks$Text" "position" "I", Cond.methodLink RX5 54 yX5_current, Cond.instanceMethod yX5_current, Cond.selects RX5 yX5_current yX5_current, Cond.code yX5_current cX5_current 1 (some .int), Cond.fieldLink RX5 9 "LampRacks$Text" "length" "I", Cond.fieldLink RX5 15 "LampRacks$Text" "characters" "[C", Cond.static yX6_isWithin, Cond.initialized RX6, Cond.code yX6_isWithin cX6_isWithin 3 (some .boolean), Cond.methodLink RX5 50 yX5_readSign, Cond.instanceMethod yX5_readSign, Cond.selects RX5 yX5_readSign yX5_readSign]
def wsX5_readRackAndColon_r2 : List Cond := [Cond.code yX5_readSign cX5_readSign 2 (some .boolean)]
def wsX5_readRackAndColon : List Cond := .code yX5_readRackAndColon cX5_readRackAndColon 1 (some .boolean) :: ((wsX5_readRackAndColon_r1 ++ wsX5_readRackAndColon_r2) ++ wsX50)
def wsX5_isNextDigit : List Cond := .code yX5_isNextDigit cX5_isNextDigit 2 (some .boolean) :: ([.fieldLink RX5 40 "LampRacks$Text" "number" "I", .methodLink RX5 54 yX5_current, .instanceMethod yX5_current, .selects RX5 yX5_current yX5_current, .initialized RX5, .code yX5_current cX5_current 1 (some .int), .fieldLink RX5 19 "LampRacks$Text" "position" "I", .fieldLink RX5 9 "LampRacks$Text" "length" "I", .fieldLink RX5 15 "LampRacks$Text" "characters" "[C", .static yX6_isWithin, .initialized RX6, .code yX6_isWithin cX6_isWithin 3 (some .boolean)] ++ wsX50)
def wsX5_readNumber : List Cond := .code yX5_readNumber cX5_readNumber 3 (some .boolean) :: ([.fieldLink RX5 40 "LampRacks$Text" "number" "I", .fieldLink RX5 19 "LampRacks$Text" "position" "I", .fieldLink RX5 9 "LampRacks$Text" "length" "I", .methodLink RX5 54 yX5_current, .instanceMethod yX5_current, .selects RX5 yX5_current yX5_current, .initialized RX5, .code yX5_current cX5_current 1 (some .int), .fieldLink RX5 15 "LampRacks$Text" "characters" "[C", .static yX6_isWithin, .initialized RX6, .code yX6_isWithin cX6_isWithin 3 (some .boolean), .methodLink RX5 85 yX5_isNextDigit, .instanceMethod yX5_isNextDigit, .selects RX5 yX5_isNextDigit yX5_isNextDigit, .code yX5_isNextDigit cX5_isNextDigit 2 (some .boolean)] ++ wsX50)
def wsX5_readDirection : List Cond := .code yX5_readDirection cX5_readDirection 1 (some .boolean) :: ([.fieldLink RX5 37 "LampRacks$Text" "direction" "I", .methodLink RX5 54 yX5_current, .instanceMethod yX5_current, .selects RX5 yX5_current yX5_current, .initialized RX5, .code yX5_current cX5_current 1 (some .int), .fieldLink RX5 19 "LampRacks$Text" "position" "I", .fieldLink RX5 9 "LampRacks$Text" "length" "I", .fieldLink RX5 15 "LampRacks$Text" "characters" "[C", .methodLink RX5 50 yX5_readSign, .instanceMethod yX5_readSign, .selects RX5 yX5_readSign yX5_readSign, .code yX5_readSign cX5_readSign 2 (some .boolean)] ++ wsX50)
def wsX5_readSteps_r1 : List Cond := [Cond.fieldLink RX5 40 "LampRacks$Text" "number" "I", Cond.fieldLink RX5 34 "LampRacks$Text" "hours" "I", Cond.methodLink RX5 68 yX5_readNumber, Cond.instanceMethod yX5_readNumber, Cond.selects RX5 yX5_readNumber yX5_readNumber, Cond.initialized RX5, Cond.code yX5_readNumber cX5_readNumber 3 (some .boolean), Cond.fieldLink RX5 19 "LampRacks$Text" "position" "I", Cond.fieldLink RX5 9 "LampRacks$Text" "length" "I", Cond.methodLink RX5 54 yX5_current, Cond.instanceMethod yX5_current, Cond.selects RX5 yX5_current yX5_current, Cond.code yX5_current cX5_current 1 (some .int), Cond.fieldLink RX5 15 "LampRacks$Text" "characters" "[C", Cond.static yX6_isWithin, Cond.initialized RX6, Cond.code yX6_isWithin cX6_isWithin 3 (some .boolean), Cond.methodLink RX5 85 yX5_isNextDigit, Cond.instanceMethod yX5_isNextDigit, Cond.selects RX5 yX5_isNextDigit yX5_isNextDigit, Cond.code yX5_isNextDigit cX5_isNextDigit 2 (some .boolean), Cond.methodLink RX5 78 yX5_readDirection, Cond.instanceMethod yX5_readDirection, Cond.selects RX5 yX5_readDirection yX5_readDirection]
def wsX5_readSteps_r2 : List Cond := [Cond.code yX5_readDirection cX5_readDirection 1 (some .boolean), Cond.fieldLink RX5 37 "LampRacks$Text" "direction" "I", Cond.methodLink RX5 50 yX5_readSign, Cond.instanceMethod yX5_readSign, Cond.selects RX5 yX5_readSign yX5_readSign, Cond.code yX5_readSign cX5_readSign 2 (some .boolean)]
def wsX5_readSteps : List Cond := .code yX5_readSteps cX5_readSteps 1 (some .boolean) :: ((wsX5_readSteps_r1 ++ wsX5_readSteps_r2) ++ wsX50)
def wsX5_readThing_r1 : List Cond := [Cond.fieldLink RX5 25 "LampRacks$Text" "kind" "I", Cond.methodLink RX5 54 yX5_current, Cond.instanceMethod yX5_current, Cond.selects RX5 yX5_current yX5_current, Cond.initialized RX5, Cond.code yX5_current cX5_current 1 (some .int), Cond.fieldLink RX5 19 "LampRacks$Text" "position" "I", Cond.fieldLink RX5 9 "LampRacks$Text" "length" "I", Cond.fieldLink RX5 15 "LampRacks$Text" "characters" "[C", Cond.methodLink RX5 50 yX5_readSign, Cond.instanceMethod yX5_readSign, Cond.selects RX5 yX5_readSign yX5_readSign, Cond.code yX5_readSign cX5_readSign 2 (some .boolean), Cond.methodLink RX5 58 yX5_readSpot, Cond.instanceMethod yX5_readSpot, Cond.selects RX5 yX5_readSpot yX5_readSpot, Cond.code yX5_readSpot cX5_readSpot 1 (some .boolean), Cond.fieldLink RX5 40 "LampRacks$Text" "number" "I", Cond.fieldLink RX5 31 "LampRacks$Text" "place" "I", Cond.methodLink RX5 75 yX5_readRack, Cond.instanceMethod yX5_readRack, Cond.selects RX5 yX5_readRack yX5_readRack, Cond.code yX5_readRack cX5_readRack 1 (some .boolean), Cond.fieldLink RX5 28 "LampRacks$Text" "rack" "I"]
def wsX5_readThing_r2 : List Cond := [Cond.methodLink RX5 61 yX5_readDigit, Cond.instanceMethod yX5_readDigit, Cond.selects RX5 yX5_readDigit yX5_readDigit, Cond.code yX5_readDigit cX5_readDigit 2 (some .boolean), Cond.static yX6_isWithin, Cond.initialized RX6, Cond.code yX6_isWithin cX6_isWithin 3 (some .boolean), Cond.methodLink RX5 65 yX5_readRackAndColon, Cond.instanceMethod yX5_readRackAndColon, Cond.selects RX5 yX5_readRackAndColon yX5_readRackAndColon, Cond.code yX5_readRackAndColon cX5_readRackAndColon 1 (some .boolean), Cond.methodLink RX5 68 yX5_readNumber, Cond.instanceMethod yX5_readNumber, Cond.selects RX5 yX5_readNumber yX5_readNumber, Cond.code yX5_readNumber cX5_readNumber 3 (some .boolean), Cond.methodLink RX5 85 yX5_isNextDigit, Cond.instanceMethod yX5_isNextDigit, Cond.selects RX5 yX5_isNextDigit yX5_isNextDigit, Cond.code yX5_isNextDigit cX5_isNextDigit 2 (some .boolean), Cond.methodLink RX5 72 yX5_readSteps, Cond.instanceMethod yX5_readSteps, Cond.selects RX5 yX5_readSteps yX5_readSteps, Cond.code yX5_readSteps cX5_readSteps 1 (some .boolean), Cond.fieldLink RX5 34 "LampRacks$Text" "hours" "I"]
def wsX5_readThing_r3 : List Cond := [Cond.methodLink RX5 78 yX5_readDirection, Cond.instanceMethod yX5_readDirection, Cond.selects RX5 yX5_readDirection yX5_readDirection, Cond.code yX5_readDirection cX5_readDirection 1 (some .boolean), Cond.fieldLink RX5 37 "LampRacks$Text" "direction" "I"]
def wsX5_readThing : List Cond := .code yX5_readThing cX5_readThing 1 (some .boolean) :: ((wsX5_readThing_r1 ++ (wsX5_readThing_r2 ++ wsX5_readThing_r3)) ++ wsX50)
def wsX5_findFault_r1 : List Cond := [Cond.fieldLink RX5 22 "LampRacks$Text" "things" "I", Cond.fieldLink RX5 19 "LampRacks$Text" "position" "I", Cond.fieldLink RX5 9 "LampRacks$Text" "length" "I", Cond.methodLink RX5 43 yX5_startReading, Cond.instanceMethod yX5_startReading, Cond.selects RX5 yX5_startReading yX5_startReading, Cond.initialized RX5, Cond.code yX5_startReading cX5_startReading 1 none, Cond.methodLink RX5 46 yX5_readThing, Cond.instanceMethod yX5_readThing, Cond.selects RX5 yX5_readThing yX5_readThing, Cond.code yX5_readThing cX5_readThing 1 (some .boolean), Cond.fieldLink RX5 25 "LampRacks$Text" "kind" "I", Cond.methodLink RX5 54 yX5_current, Cond.instanceMethod yX5_current, Cond.selects RX5 yX5_current yX5_current, Cond.code yX5_current cX5_current 1 (some .int), Cond.fieldLink RX5 15 "LampRacks$Text" "characters" "[C", Cond.methodLink RX5 50 yX5_readSign, Cond.instanceMethod yX5_readSign, Cond.selects RX5 yX5_readSign yX5_readSign, Cond.code yX5_readSign cX5_readSign 2 (some .boolean), Cond.methodLink RX5 58 yX5_readSpot, Cond.instanceMethod yX5_readSpot]
def wsX5_findFault_r2 : List Cond := [Cond.selects RX5 yX5_readSpot yX5_readSpot, Cond.code yX5_readSpot cX5_readSpot 1 (some .boolean), Cond.fieldLink RX5 40 "LampRacks$Text" "number" "I", Cond.fieldLink RX5 31 "LampRacks$Text" "place" "I", Cond.methodLink RX5 75 yX5_readRack, Cond.instanceMethod yX5_readRack, Cond.selects RX5 yX5_readRack yX5_readRack, Cond.code yX5_readRack cX5_readRack 1 (some .boolean), Cond.fieldLink RX5 28 "LampRacks$Text" "rack" "I", Cond.methodLink RX5 61 yX5_readDigit, Cond.instanceMethod yX5_readDigit, Cond.selects RX5 yX5_readDigit yX5_readDigit, Cond.code yX5_readDigit cX5_readDigit 2 (some .boolean), Cond.static yX6_isWithin, Cond.initialized RX6, Cond.code yX6_isWithin cX6_isWithin 3 (some .boolean), Cond.methodLink RX5 65 yX5_readRackAndColon, Cond.instanceMethod yX5_readRackAndColon, Cond.selects RX5 yX5_readRackAndColon yX5_readRackAndColon, Cond.code yX5_readRackAndColon cX5_readRackAndColon 1 (some .boolean), Cond.methodLink RX5 68 yX5_readNumber, Cond.instanceMethod yX5_readNumber, Cond.selects RX5 yX5_readNumber yX5_readNumber, Cond.code yX5_readNumber cX5_readNumber 3 (some .boolean)]
def wsX5_findFault_r3 : List Cond := [Cond.methodLink RX5 85 yX5_isNextDigit, Cond.instanceMethod yX5_isNextDigit, Cond.selects RX5 yX5_isNextDigit yX5_isNextDigit, Cond.code yX5_isNextDigit cX5_isNextDigit 2 (some .boolean), Cond.methodLink RX5 72 yX5_readSteps, Cond.instanceMethod yX5_readSteps, Cond.selects RX5 yX5_readSteps yX5_readSteps, Cond.code yX5_readSteps cX5_readSteps 1 (some .boolean), Cond.fieldLink RX5 34 "LampRacks$Text" "hours" "I", Cond.methodLink RX5 78 yX5_readDirection, Cond.instanceMethod yX5_readDirection, Cond.selects RX5 yX5_readDirection yX5_readDirection, Cond.code yX5_readDirection cX5_readDirection 1 (some .boolean), Cond.fieldLink RX5 37 "LampRacks$Text" "direction" "I"]
def wsX5_findFault : List Cond := .code yX5_findFault cX5_findFault 2 (some .int) :: ((wsX5_findFault_r1 ++ (wsX5_findFault_r2 ++ wsX5_findFault_r3)) ++ wsX50)
def wsX6_init_r1 : List Cond := [Cond.methodLink RX6 1 objectInit, Cond.instanceMethod objectInit, Cond.code objectInit ⟨#[0xb1]⟩ 1 none, Cond.classLink RX6 7 RX4, Cond.instantiable RX4 6, Cond.initialized RX4, Cond.fieldLink RX6 10 "LampRacks" "now" "LLampRacks$State;", Cond.fieldLink RX6 16 "LampRacks" "before" "LLampRacks$State;", Cond.fieldLink RX6 19 "LampRacks" "ahead" "LLampRacks$State;", Cond.fieldLink RX6 22 "LampRacks" "snapshot" "LLampRacks$State;", Cond.fieldLink RX6 25 "LampRacks" "hasSnapshot" "Z", Cond.classLink RX6 29 RX1, Cond.instantiable RX1 2, Cond.initialized RX1, Cond.fieldLink RX6 32 "LampRacks" "history" "LLampRacks$History;", Cond.classLink RX6 36 RX5, Cond.instantiable RX5 10, Cond.initialized RX5, Cond.fieldLink RX6 39 "LampRacks" "text" "LLampRacks$Text;", Cond.fieldLink RX6 43 "LampRacks" "stoppedThing" "I", Cond.fieldLink RX6 47 "LampRacks" "stoppedError" "I", Cond.instanceMethod yX4_init, Cond.code yX4_init cX4_init 1 none, Cond.methodLink RX4 3 objectInit]
def wsX6_init_r2 : List Cond := [Cond.fieldLink RX4 9 "LampRacks$State" "hour" "I", Cond.fieldLink RX4 15 "LampRacks$State" "wantedVolts" "I", Cond.fieldLink RX4 18 "LampRacks$State" "doublingVolts" "I", Cond.classLink RX4 21 RX0, Cond.instantiable RX0 2, Cond.initialized RX0, Cond.fieldLink RX4 24 "LampRacks$State" "batches" "LLampRacks$Batches;", Cond.classLink RX4 28 RX2, Cond.instantiable RX2 7, Cond.initialized RX2, Cond.fieldLink RX4 31 "LampRacks$State" "lamps" "LLampRacks$Lamps;", Cond.classLink RX4 35 RX3, Cond.instantiable RX3 5, Cond.initialized RX3, Cond.fieldLink RX4 38 "LampRacks$State" "racks" "LLampRacks$Racks;", Cond.methodLink RX4 23 yX0_init, Cond.instanceMethod yX0_init, Cond.code yX0_init cX0_init 2 none, Cond.methodLink RX0 3 objectInit, Cond.arrayClass .int, Cond.fieldLink RX0 9 "LampRacks$Batches" "life" "[I", Cond.fieldLink RX0 15 "LampRacks$Batches" "spread" "[I", Cond.instanceMethod yX2_init, Cond.code yX2_init cX2_init 1 none]
def wsX6_init_r3 : List Cond := [Cond.methodLink RX2 3 objectInit, Cond.fieldLink RX2 9 "LampRacks$Lamps" "size" "I", Cond.fieldLink RX2 15 "LampRacks$Lamps" "batch" "[I", Cond.fieldLink RX2 19 "LampRacks$Lamps" "spot" "[I", Cond.fieldLink RX2 22 "LampRacks$Lamps" "canLast" "[I", Cond.fieldLink RX2 25 "LampRacks$Lamps" "wear" "[I", Cond.fieldLink RX2 28 "LampRacks$Lamps" "burned" "[I", Cond.fieldLink RX2 31 "LampRacks$Lamps" "end" "[I", Cond.methodLink RX4 37 yX3_init, Cond.instanceMethod yX3_init, Cond.code yX3_init cX3_init 1 none, Cond.methodLink RX3 3 objectInit, Cond.fieldLink RX3 9 "LampRacks$Racks" "lampAt" "[I", Cond.fieldLink RX3 15 "LampRacks$Racks" "volts" "[I", Cond.fieldLink RX3 18 "LampRacks$Racks" "stepHours" "[I", Cond.fieldLink RX3 21 "LampRacks$Racks" "stepVolts" "[I", Cond.fieldLink RX3 24 "LampRacks$Racks" "hoursOfStep" "[I", Cond.methodLink RX3 27 yJ7_fill_53178, Cond.static yJ7_fill_53178, Cond.initialized RJ7, Cond.code yJ7_fill_53178 cJ7_fill_53178 4 none, Cond.methodLink RX6 31 yX1_init, Cond.instanceMethod yX1_init, Cond.code yX1_init cX1_init 2 none]
def wsX6_init_r4 : List Cond := [Cond.methodLink RX1 3 objectInit, Cond.fieldLink RX1 9 "LampRacks$History" "size" "I", Cond.classLink RX1 15 RX4, Cond.fieldLink RX1 17 "LampRacks$History" "states" "[LLampRacks$State;", Cond.instanceMethod yX5_init, Cond.code yX5_init cX5_init 1 none, Cond.methodLink RX5 3 objectInit, Cond.fieldLink RX5 9 "LampRacks$Text" "length" "I", Cond.arrayClass .char, Cond.fieldLink RX5 15 "LampRacks$Text" "characters" "[C", Cond.fieldLink RX5 19 "LampRacks$Text" "position" "I", Cond.fieldLink RX5 22 "LampRacks$Text" "things" "I", Cond.fieldLink RX5 25 "LampRacks$Text" "kind" "I", Cond.fieldLink RX5 28 "LampRacks$Text" "rack" "I", Cond.fieldLink RX5 31 "LampRacks$Text" "place" "I", Cond.fieldLink RX5 34 "LampRacks$Text" "hours" "I", Cond.fieldLink RX5 37 "LampRacks$Text" "direction" "I", Cond.fieldLink RX5 40 "LampRacks$Text" "number" "I"]
def wsX6_init : List Cond := .code yX6_init cX6_init 1 none :: ((wsX6_init_r1 ++ (wsX6_init_r2 ++ (wsX6_init_r3 ++ wsX6_init_r4))) ++ wsX40 ++ wsX60 ++ wsX10 ++ wsX50 ++ wsX00 ++ wsX20 ++ wsX30)
def wsX6_recorded_r1 : List Cond := [Cond.fieldLink RX6 32 "LampRacks" "history" "LLampRacks$History;", Cond.fieldLink RX6 16 "LampRacks" "before" "LLampRacks$State;", Cond.methodLink RX6 210 yX1_append, Cond.instanceMethod yX1_append, Cond.selects RX1 yX1_append yX1_append, Cond.initialized RX1, Cond.code yX1_append cX1_append 2 none, Cond.fieldLink RX1 9 "LampRacks$History" "size" "I", Cond.fieldLink RX1 17 "LampRacks$History" "states" "[LLampRacks$State;", Cond.methodLink RX1 22 yX1_dropOldest, Cond.instanceMethod yX1_dropOldest, Cond.selects RX1 yX1_dropOldest yX1_dropOldest, Cond.code yX1_dropOldest cX1_dropOldest 3 none, Cond.methodLink RX1 25 yX4_copyFrom, Cond.instanceMethod yX4_copyFrom, Cond.selects RX4 yX4_copyFrom yX4_copyFrom, Cond.initialized RX4, Cond.code yX4_copyFrom cX4_copyFrom 2 none, Cond.fieldLink RX4 9 "LampRacks$State" "hour" "I", Cond.fieldLink RX4 15 "LampRacks$State" "wantedVolts" "I", Cond.fieldLink RX4 18 "LampRacks$State" "doublingVolts" "I", Cond.fieldLink RX4 24 "LampRacks$State" "batches" "LLampRacks$Batches;", Cond.fieldLink RX4 31 "LampRacks$State" "lamps" "LLampRacks$Lamps;", Cond.fieldLink RX4 38 "LampRacks$State" "racks" "LLampRacks$Racks;"]
def wsX6_recorded_r2 : List Cond := [Cond.methodLink RX4 42 yX0_copyFrom, Cond.instanceMethod yX0_copyFrom, Cond.selects RX0 yX0_copyFrom yX0_copyFrom, Cond.initialized RX0, Cond.code yX0_copyFrom cX0_copyFrom 2 none, Cond.fieldLink RX0 9 "LampRacks$Batches" "life" "[I", Cond.fieldLink RX0 15 "LampRacks$Batches" "spread" "[I", Cond.static yX6_copy, Cond.initialized RX6, Cond.code yX6_copy cX6_copy 2 none, Cond.methodLink RX6 236 Lib.Math.min.name, Cond.static Lib.Math.min.name, Cond.initialized "java/lang/Math", Cond.code Lib.Math.min.name Lib.Math.min.code 2 (some .int), Cond.methodLink RX6 241 arraycopyName, Cond.native arraycopyName, Cond.static arraycopyName, Cond.initialized "java/lang/System", Cond.methodLink RX4 46 yX2_copyFrom, Cond.instanceMethod yX2_copyFrom, Cond.selects RX2 yX2_copyFrom yX2_copyFrom, Cond.initialized RX2, Cond.code yX2_copyFrom cX2_copyFrom 2 none, Cond.fieldLink RX2 9 "LampRacks$Lamps" "size" "I"]
def wsX6_recorded_r3 : List Cond := [Cond.fieldLink RX2 15 "LampRacks$Lamps" "batch" "[I", Cond.fieldLink RX2 19 "LampRacks$Lamps" "spot" "[I", Cond.fieldLink RX2 22 "LampRacks$Lamps" "canLast" "[I", Cond.fieldLink RX2 25 "LampRacks$Lamps" "wear" "[I", Cond.fieldLink RX2 28 "LampRacks$Lamps" "burned" "[I", Cond.fieldLink RX2 31 "LampRacks$Lamps" "end" "[I", Cond.methodLink RX4 49 yX3_copyFrom, Cond.instanceMethod yX3_copyFrom, Cond.selects RX3 yX3_copyFrom yX3_copyFrom, Cond.initialized RX3, Cond.code yX3_copyFrom cX3_copyFrom 2 none, Cond.fieldLink RX3 9 "LampRacks$Racks" "lampAt" "[I", Cond.fieldLink RX3 15 "LampRacks$Racks" "volts" "[I", Cond.fieldLink RX3 18 "LampRacks$Racks" "stepHours" "[I", Cond.fieldLink RX3 21 "LampRacks$Racks" "stepVolts" "[I", Cond.fieldLink RX3 24 "LampRacks$Racks" "hoursOfStep" "[I"]
def wsX6_recorded : List Cond := .code yX6_recorded cX6_recorded 2 (some .int) :: ((wsX6_recorded_r1 ++ (wsX6_recorded_r2 ++ wsX6_recorded_r3)) ++ wsX60 ++ wsX10 ++ wsX40 ++ wsX00 ++ wsX20 ++ wsX30)
def wsX6_setBatch_r1 : List Cond := [Cond.fieldLink RX6 16 "LampRacks" "before" "LLampRacks$State;", Cond.fieldLink RX6 10 "LampRacks" "now" "LLampRacks$State;", Cond.methodLink RX6 50 yX4_copyFrom, Cond.instanceMethod yX4_copyFrom, Cond.selects RX4 yX4_copyFrom yX4_copyFrom, Cond.initialized RX4, Cond.code yX4_copyFrom cX4_copyFrom 2 none, Cond.fieldLink RX4 9 "LampRacks$State" "hour" "I", Cond.fieldLink RX4 15 "LampRacks$State" "wantedVolts" "I", Cond.fieldLink RX4 18 "LampRacks$State" "doublingVolts" "I", Cond.fieldLink RX4 24 "LampRacks$State" "batches" "LLampRacks$Batches;", Cond.fieldLink RX4 31 "LampRacks$State" "lamps" "LLampRacks$Lamps;", Cond.fieldLink RX4 38 "LampRacks$State" "racks" "LLampRacks$Racks;", Cond.methodLink RX4 42 yX0_copyFrom, Cond.instanceMethod yX0_copyFrom, Cond.selects RX0 yX0_copyFrom yX0_copyFrom, Cond.initialized RX0, Cond.code yX0_copyFrom cX0_copyFrom 2 none, Cond.fieldLink RX0 9 "LampRacks$Batches" "life" "[I", Cond.fieldLink RX0 15 "LampRacks$Batches" "spread" "[I", Cond.static yX6_copy, Cond.initialized RX6, Cond.code yX6_copy cX6_copy 2 none, Cond.methodLink RX6 236 Lib.Math.min.name]
def wsX6_setBatch_r2 : List Cond := [Cond.static Lib.Math.min.name, Cond.initialized "java/lang/Math", Cond.code Lib.Math.min.name Lib.Math.min.code 2 (some .int), Cond.methodLink RX6 241 arraycopyName, Cond.native arraycopyName, Cond.static arraycopyName, Cond.initialized "java/lang/System", Cond.methodLink RX4 46 yX2_copyFrom, Cond.instanceMethod yX2_copyFrom, Cond.selects RX2 yX2_copyFrom yX2_copyFrom, Cond.initialized RX2, Cond.code yX2_copyFrom cX2_copyFrom 2 none, Cond.fieldLink RX2 9 "LampRacks$Lamps" "size" "I", Cond.fieldLink RX2 15 "LampRacks$Lamps" "batch" "[I", Cond.fieldLink RX2 19 "LampRacks$Lamps" "spot" "[I", Cond.fieldLink RX2 22 "LampRacks$Lamps" "canLast" "[I", Cond.fieldLink RX2 25 "LampRacks$Lamps" "wear" "[I", Cond.fieldLink RX2 28 "LampRacks$Lamps" "burned" "[I", Cond.fieldLink RX2 31 "LampRacks$Lamps" "end" "[I", Cond.methodLink RX4 49 yX3_copyFrom, Cond.instanceMethod yX3_copyFrom, Cond.selects RX3 yX3_copyFrom yX3_copyFrom, Cond.initialized RX3, Cond.code yX3_copyFrom cX3_copyFrom 2 none]
def wsX6_setBatch_r3 : List Cond := [Cond.fieldLink RX3 9 "LampRacks$Racks" "lampAt" "[I", Cond.fieldLink RX3 15 "LampRacks$Racks" "volts" "[I", Cond.fieldLink RX3 18 "LampRacks$Racks" "stepHours" "[I", Cond.fieldLink RX3 21 "LampRacks$Racks" "stepVolts" "[I", Cond.fieldLink RX3 24 "LampRacks$Racks" "hoursOfStep" "[I", Cond.methodLink RX6 54 yX4_changeBatch, Cond.instanceMethod yX4_changeBatch, Cond.selects RX4 yX4_changeBatch yX4_changeBatch, Cond.code yX4_changeBatch cX4_changeBatch 5 (some .int), Cond.fieldLink RX4 60 "LampRacks$Batches" "life" "[I", Cond.fieldLink RX4 64 "LampRacks$Batches" "spread" "[I", Cond.static yX6_isBatch, Cond.code yX6_isBatch cX6_isBatch 1 (some .boolean), Cond.methodLink RX6 117 yX6_isWithin, Cond.static yX6_isWithin, Cond.code yX6_isWithin cX6_isWithin 3 (some .boolean), Cond.methodLink RX6 58 yX6_recorded, Cond.instanceMethod yX6_recorded, Cond.selects RX6 yX6_recorded yX6_recorded, Cond.code yX6_recorded cX6_recorded 2 (some .int), Cond.fieldLink RX6 32 "LampRacks" "history" "LLampRacks$History;", Cond.methodLink RX6 210 yX1_append, Cond.instanceMethod yX1_append, Cond.selects RX1 yX1_append yX1_append]
def wsX6_setBatch_r4 : List Cond := [Cond.initialized RX1, Cond.code yX1_append cX1_append 2 none, Cond.fieldLink RX1 9 "LampRacks$History" "size" "I", Cond.fieldLink RX1 17 "LampRacks$History" "states" "[LLampRacks$State;", Cond.methodLink RX1 22 yX1_dropOldest, Cond.instanceMethod yX1_dropOldest, Cond.selects RX1 yX1_dropOldest yX1_dropOldest, Cond.code yX1_dropOldest cX1_dropOldest 3 none, Cond.methodLink RX1 25 yX4_copyFrom]
def wsX6_setBatch : List Cond := .code yX6_setBatch cX6_setBatch 4 (some .int) :: ((wsX6_setBatch_r1 ++ (wsX6_setBatch_r2 ++ (wsX6_setBatch_r3 ++ wsX6_setBatch_r4))) ++ wsX60 ++ wsX40 ++ wsX00 ++ wsX20 ++ wsX30 ++ wsX10)
def wsX6_put_r1 : List Cond := [Cond.fieldLink RX6 16 "LampRacks" "before" "LLampRacks$State;", Cond.fieldLink RX6 10 "LampRacks" "now" "LLampRacks$State;", Cond.methodLink RX6 50 yX4_copyFrom, Cond.instanceMethod yX4_copyFrom, Cond.selects RX4 yX4_copyFrom yX4_copyFrom, Cond.initialized RX4, Cond.code yX4_copyFrom cX4_copyFrom 2 none, Cond.fieldLink RX4 9 "LampRacks$State" "hour" "I", Cond.fieldLink RX4 15 "LampRacks$State" "wantedVolts" "I", Cond.fieldLink RX4 18 "LampRacks$State" "doublingVolts" "I", Cond.fieldLink RX4 24 "LampRacks$State" "batches" "LLampRacks$Batches;", Cond.fieldLink RX4 31 "LampRacks$State" "lamps" "LLampRacks$Lamps;", Cond.fieldLink RX4 38 "LampRacks$State" "racks" "LLampRacks$Racks;", Cond.methodLink RX4 42 yX0_copyFrom, Cond.instanceMethod yX0_copyFrom, Cond.selects RX0 yX0_copyFrom yX0_copyFrom, Cond.initialized RX0, Cond.code yX0_copyFrom cX0_copyFrom 2 none, Cond.fieldLink RX0 9 "LampRacks$Batches" "life" "[I", Cond.fieldLink RX0 15 "LampRacks$Batches" "spread" "[I", Cond.static yX6_copy, Cond.initialized RX6, Cond.code yX6_copy cX6_copy 2 none, Cond.methodLink RX6 236 Lib.Math.min.name]
def wsX6_put_r2 : List Cond := [Cond.static Lib.Math.min.name, Cond.initialized "java/lang/Math", Cond.code Lib.Math.min.name Lib.Math.min.code 2 (some .int), Cond.methodLink RX6 241 arraycopyName, Cond.native arraycopyName, Cond.static arraycopyName, Cond.initialized "java/lang/System", Cond.methodLink RX4 46 yX2_copyFrom, Cond.instanceMethod yX2_copyFrom, Cond.selects RX2 yX2_copyFrom yX2_copyFrom, Cond.initialized RX2, Cond.code yX2_copyFrom cX2_copyFrom 2 none, Cond.fieldLink RX2 9 "LampRacks$Lamps" "size" "I", Cond.fieldLink RX2 15 "LampRacks$Lamps" "batch" "[I", Cond.fieldLink RX2 19 "LampRacks$Lamps" "spot" "[I", Cond.fieldLink RX2 22 "LampRacks$Lamps" "canLast" "[I", Cond.fieldLink RX2 25 "LampRacks$Lamps" "wear" "[I", Cond.fieldLink RX2 28 "LampRacks$Lamps" "burned" "[I", Cond.fieldLink RX2 31 "LampRacks$Lamps" "end" "[I", Cond.methodLink RX4 49 yX3_copyFrom, Cond.instanceMethod yX3_copyFrom, Cond.selects RX3 yX3_copyFrom yX3_copyFrom, Cond.initialized RX3, Cond.code yX3_copyFrom cX3_copyFrom 2 none]
def wsX6_put_r3 : List Cond := [Cond.fieldLink RX3 9 "LampRacks$Racks" "lampAt" "[I", Cond.fieldLink RX3 15 "LampRacks$Racks" "volts" "[I", Cond.fieldLink RX3 18 "LampRacks$Racks" "stepHours" "[I", Cond.fieldLink RX3 21 "LampRacks$Racks" "stepVolts" "[I", Cond.fieldLink RX3 24 "LampRacks$Racks" "hoursOfStep" "[I", Cond.methodLink RX6 62 yX4_insertLamp, Cond.instanceMethod yX4_insertLamp, Cond.selects RX4 yX4_insertLamp yX4_insertLamp, Cond.code yX4_insertLamp cX4_insertLamp 6 (some .int), Cond.fieldLink RX4 75 "LampRacks$Racks" "lampAt" "[I", Cond.fieldLink RX4 82 "LampRacks$Lamps" "size" "I", Cond.static yX6_isPlace, Cond.code yX6_isPlace cX6_isPlace 2 (some .boolean), Cond.methodLink RX6 230 yX6_isRack, Cond.static yX6_isRack, Cond.code yX6_isRack cX6_isRack 1 (some .boolean), Cond.methodLink RX6 117 yX6_isWithin, Cond.static yX6_isWithin, Cond.code yX6_isWithin cX6_isWithin 3 (some .boolean), Cond.static yX6_isBatch, Cond.code yX6_isBatch cX6_isBatch 1 (some .boolean), Cond.static yX6_spotOf, Cond.code yX6_spotOf cX6_spotOf 2 (some .int), Cond.methodLink RX4 78 yX2_isFull]
def wsX6_put_r4 : List Cond := [Cond.instanceMethod yX2_isFull, Cond.selects RX2 yX2_isFull yX2_isFull, Cond.code yX2_isFull cX2_isFull 1 (some .boolean), Cond.methodLink RX4 85 yX0_hoursOfLamp, Cond.instanceMethod yX0_hoursOfLamp, Cond.selects RX0 yX0_hoursOfLamp yX0_hoursOfLamp, Cond.code yX0_hoursOfLamp cX0_hoursOfLamp 5 (some .int), Cond.methodLink RX0 30 Lib.Math.max.name, Cond.static Lib.Math.max.name, Cond.code Lib.Math.max.name Lib.Math.max.code 2 (some .int), Cond.static yX6_shareOf, Cond.code yX6_shareOf cX6_shareOf 1 (some .int), Cond.static yX6_isWeak, Cond.code yX6_isWeak cX6_isWeak 1 (some .boolean), Cond.methodLink RX6 233 yX6_shareOf, Cond.methodLink RX4 88 yX2_append, Cond.instanceMethod yX2_append, Cond.selects RX2 yX2_append yX2_append, Cond.code yX2_append cX2_append 5 (some .int), Cond.methodLink RX6 58 yX6_recorded, Cond.instanceMethod yX6_recorded, Cond.selects RX6 yX6_recorded yX6_recorded, Cond.code yX6_recorded cX6_recorded 2 (some .int), Cond.fieldLink RX6 32 "LampRacks" "history" "LLampRacks$History;"]
def wsX6_put_r5 : List Cond := [Cond.methodLink RX6 210 yX1_append, Cond.instanceMethod yX1_append, Cond.selects RX1 yX1_append yX1_append, Cond.initialized RX1, Cond.code yX1_append cX1_append 2 none, Cond.fieldLink RX1 9 "LampRacks$History" "size" "I", Cond.fieldLink RX1 17 "LampRacks$History" "states" "[LLampRacks$State;", Cond.methodLink RX1 22 yX1_dropOldest, Cond.instanceMethod yX1_dropOldest, Cond.selects RX1 yX1_dropOldest yX1_dropOldest, Cond.code yX1_dropOldest cX1_dropOldest 3 none, Cond.methodLink RX1 25 yX4_copyFrom]
def wsX6_put : List Cond := .code yX6_put cX6_put 4 (some .int) :: ((wsX6_put_r1 ++ (wsX6_put_r2 ++ (wsX6_put_r3 ++ (wsX6_put_r4 ++ wsX6_put_r5)))) ++ wsX60 ++ wsX40 ++ wsX00 ++ wsX20 ++ wsX30 ++ wsX10)
def wsX6_takeOut_r1 : List Cond := [Cond.fieldLink RX6 16 "LampRacks" "before" "LLampRacks$State;", Cond.fieldLink RX6 10 "LampRacks" "now" "LLampRacks$State;", Cond.methodLink RX6 50 yX4_copyFrom, Cond.instanceMethod yX4_copyFrom, Cond.selects RX4 yX4_copyFrom yX4_copyFrom, Cond.initialized RX4, Cond.code yX4_copyFrom cX4_copyFrom 2 none, Cond.fieldLink RX4 9 "LampRacks$State" "hour" "I", Cond.fieldLink RX4 15 "LampRacks$State" "wantedVolts" "I", Cond.fieldLink RX4 18 "LampRacks$State" "doublingVolts" "I", Cond.fieldLink RX4 24 "LampRacks$State" "batches" "LLampRacks$Batches;", Cond.fieldLink RX4 31 "LampRacks$State" "lamps" "LLampRacks$Lamps;", Cond.fieldLink RX4 38 "LampRacks$State" "racks" "LLampRacks$Racks;", Cond.methodLink RX4 42 yX0_copyFrom, Cond.instanceMethod yX0_copyFrom, Cond.selects RX0 yX0_copyFrom yX0_copyFrom, Cond.initialized RX0, Cond.code yX0_copyFrom cX0_copyFrom 2 none, Cond.fieldLink RX0 9 "LampRacks$Batches" "life" "[I", Cond.fieldLink RX0 15 "LampRacks$Batches" "spread" "[I", Cond.static yX6_copy, Cond.initialized RX6, Cond.code yX6_copy cX6_copy 2 none, Cond.methodLink RX6 236 Lib.Math.min.name]
def wsX6_takeOut_r2 : List Cond := [Cond.static Lib.Math.min.name, Cond.initialized "java/lang/Math", Cond.code Lib.Math.min.name Lib.Math.min.code 2 (some .int), Cond.methodLink RX6 241 arraycopyName, Cond.native arraycopyName, Cond.static arraycopyName, Cond.initialized "java/lang/System", Cond.methodLink RX4 46 yX2_copyFrom, Cond.instanceMethod yX2_copyFrom, Cond.selects RX2 yX2_copyFrom yX2_copyFrom, Cond.initialized RX2, Cond.code yX2_copyFrom cX2_copyFrom 2 none, Cond.fieldLink RX2 9 "LampRacks$Lamps" "size" "I", Cond.fieldLink RX2 15 "LampRacks$Lamps" "batch" "[I", Cond.fieldLink RX2 19 "LampRacks$Lamps" "spot" "[I", Cond.fieldLink RX2 22 "LampRacks$Lamps" "canLast" "[I", Cond.fieldLink RX2 25 "LampRacks$Lamps" "wear" "[I", Cond.fieldLink RX2 28 "LampRacks$Lamps" "burned" "[I", Cond.fieldLink RX2 31 "LampRacks$Lamps" "end" "[I", Cond.methodLink RX4 49 yX3_copyFrom, Cond.instanceMethod yX3_copyFrom, Cond.selects RX3 yX3_copyFrom yX3_copyFrom, Cond.initialized RX3, Cond.code yX3_copyFrom cX3_copyFrom 2 none]
def wsX6_takeOut_r3 : List Cond := [Cond.fieldLink RX3 9 "LampRacks$Racks" "lampAt" "[I", Cond.fieldLink RX3 15 "LampRacks$Racks" "volts" "[I", Cond.fieldLink RX3 18 "LampRacks$Racks" "stepHours" "[I", Cond.fieldLink RX3 21 "LampRacks$Racks" "stepVolts" "[I", Cond.fieldLink RX3 24 "LampRacks$Racks" "hoursOfStep" "[I", Cond.methodLink RX6 65 yX4_removeLamp, Cond.instanceMethod yX4_removeLamp, Cond.selects RX4 yX4_removeLamp yX4_removeLamp, Cond.code yX4_removeLamp cX4_removeLamp 5 (some .int), Cond.fieldLink RX4 75 "LampRacks$Racks" "lampAt" "[I", Cond.fieldLink RX4 92 "LampRacks$Lamps" "spot" "[I", Cond.static yX6_isPlace, Cond.code yX6_isPlace cX6_isPlace 2 (some .boolean), Cond.methodLink RX6 230 yX6_isRack, Cond.static yX6_isRack, Cond.code yX6_isRack cX6_isRack 1 (some .boolean), Cond.methodLink RX6 117 yX6_isWithin, Cond.static yX6_isWithin, Cond.code yX6_isWithin cX6_isWithin 3 (some .boolean), Cond.static yX6_spotOf, Cond.code yX6_spotOf cX6_spotOf 2 (some .int), Cond.methodLink RX6 58 yX6_recorded, Cond.instanceMethod yX6_recorded, Cond.selects RX6 yX6_recorded yX6_recorded]
def wsX6_takeOut_r4 : List Cond := [Cond.code yX6_recorded cX6_recorded 2 (some .int), Cond.fieldLink RX6 32 "LampRacks" "history" "LLampRacks$History;", Cond.methodLink RX6 210 yX1_append, Cond.instanceMethod yX1_append, Cond.selects RX1 yX1_append yX1_append, Cond.initialized RX1, Cond.code yX1_append cX1_append 2 none, Cond.fieldLink RX1 9 "LampRacks$History" "size" "I", Cond.fieldLink RX1 17 "LampRacks$History" "states" "[LLampRacks$State;", Cond.methodLink RX1 22 yX1_dropOldest, Cond.instanceMethod yX1_dropOldest, Cond.selects RX1 yX1_dropOldest yX1_dropOldest, Cond.code yX1_dropOldest cX1_dropOldest 3 none, Cond.methodLink RX1 25 yX4_copyFrom]
def wsX6_takeOut : List Cond := .code yX6_takeOut cX6_takeOut 3 (some .int) :: ((wsX6_takeOut_r1 ++ (wsX6_takeOut_r2 ++ (wsX6_takeOut_r3 ++ wsX6_takeOut_r4))) ++ wsX60 ++ wsX40 ++ wsX00 ++ wsX20 ++ wsX30 ++ wsX10)
def wsX6_swap_r1 : List Cond := [Cond.fieldLink RX6 16 "LampRacks" "before" "LLampRacks$State;", Cond.fieldLink RX6 10 "LampRacks" "now" "LLampRacks$State;", Cond.methodLink RX6 50 yX4_copyFrom, Cond.instanceMethod yX4_copyFrom, Cond.selects RX4 yX4_copyFrom yX4_copyFrom, Cond.initialized RX4, Cond.code yX4_copyFrom cX4_copyFrom 2 none, Cond.fieldLink RX4 9 "LampRacks$State" "hour" "I", Cond.fieldLink RX4 15 "LampRacks$State" "wantedVolts" "I", Cond.fieldLink RX4 18 "LampRacks$State" "doublingVolts" "I", Cond.fieldLink RX4 24 "LampRacks$State" "batches" "LLampRacks$Batches;", Cond.fieldLink RX4 31 "LampRacks$State" "lamps" "LLampRacks$Lamps;", Cond.fieldLink RX4 38 "LampRacks$State" "racks" "LLampRacks$Racks;", Cond.methodLink RX4 42 yX0_copyFrom, Cond.instanceMethod yX0_copyFrom, Cond.selects RX0 yX0_copyFrom yX0_copyFrom, Cond.initialized RX0, Cond.code yX0_copyFrom cX0_copyFrom 2 none, Cond.fieldLink RX0 9 "LampRacks$Batches" "life" "[I", Cond.fieldLink RX0 15 "LampRacks$Batches" "spread" "[I", Cond.static yX6_copy, Cond.initialized RX6, Cond.code yX6_copy cX6_copy 2 none, Cond.methodLink RX6 236 Lib.Math.min.name]
def wsX6_swap_r2 : List Cond := [Cond.static Lib.Math.min.name, Cond.initialized "java/lang/Math", Cond.code Lib.Math.min.name Lib.Math.min.code 2 (some .int), Cond.methodLink RX6 241 arraycopyName, Cond.native arraycopyName, Cond.static arraycopyName, Cond.initialized "java/lang/System", Cond.methodLink RX4 46 yX2_copyFrom, Cond.instanceMethod yX2_copyFrom, Cond.selects RX2 yX2_copyFrom yX2_copyFrom, Cond.initialized RX2, Cond.code yX2_copyFrom cX2_copyFrom 2 none, Cond.fieldLink RX2 9 "LampRacks$Lamps" "size" "I", Cond.fieldLink RX2 15 "LampRacks$Lamps" "batch" "[I", Cond.fieldLink RX2 19 "LampRacks$Lamps" "spot" "[I", Cond.fieldLink RX2 22 "LampRacks$Lamps" "canLast" "[I", Cond.fieldLink RX2 25 "LampRacks$Lamps" "wear" "[I", Cond.fieldLink RX2 28 "LampRacks$Lamps" "burned" "[I", Cond.fieldLink RX2 31 "LampRacks$Lamps" "end" "[I", Cond.methodLink RX4 49 yX3_copyFrom, Cond.instanceMethod yX3_copyFrom, Cond.selects RX3 yX3_copyFrom yX3_copyFrom, Cond.initialized RX3, Cond.code yX3_copyFrom cX3_copyFrom 2 none]
def wsX6_swap_r3 : List Cond := [Cond.fieldLink RX3 9 "LampRacks$Racks" "lampAt" "[I", Cond.fieldLink RX3 15 "LampRacks$Racks" "volts" "[I", Cond.fieldLink RX3 18 "LampRacks$Racks" "stepHours" "[I", Cond.fieldLink RX3 21 "LampRacks$Racks" "stepVolts" "[I", Cond.fieldLink RX3 24 "LampRacks$Racks" "hoursOfStep" "[I", Cond.methodLink RX6 69 yX4_exchange, Cond.instanceMethod yX4_exchange, Cond.selects RX4 yX4_exchange yX4_exchange, Cond.code yX4_exchange cX4_exchange 9 (some .int), Cond.fieldLink RX4 75 "LampRacks$Racks" "lampAt" "[I", Cond.static yX6_isPlace, Cond.code yX6_isPlace cX6_isPlace 2 (some .boolean), Cond.methodLink RX6 230 yX6_isRack, Cond.static yX6_isRack, Cond.code yX6_isRack cX6_isRack 1 (some .boolean), Cond.methodLink RX6 117 yX6_isWithin, Cond.static yX6_isWithin, Cond.code yX6_isWithin cX6_isWithin 3 (some .boolean), Cond.static yX6_spotOf, Cond.code yX6_spotOf cX6_spotOf 2 (some .int), Cond.methodLink RX4 95 yX4_moveTo, Cond.instanceMethod yX4_moveTo, Cond.selects RX4 yX4_moveTo yX4_moveTo, Cond.code yX4_moveTo cX4_moveTo 3 (some .int)]
def wsX6_swap_r4 : List Cond := [Cond.fieldLink RX4 92 "LampRacks$Lamps" "spot" "[I", Cond.methodLink RX6 58 yX6_recorded, Cond.instanceMethod yX6_recorded, Cond.selects RX6 yX6_recorded yX6_recorded, Cond.code yX6_recorded cX6_recorded 2 (some .int), Cond.fieldLink RX6 32 "LampRacks" "history" "LLampRacks$History;", Cond.methodLink RX6 210 yX1_append, Cond.instanceMethod yX1_append, Cond.selects RX1 yX1_append yX1_append, Cond.initialized RX1, Cond.code yX1_append cX1_append 2 none, Cond.fieldLink RX1 9 "LampRacks$History" "size" "I", Cond.fieldLink RX1 17 "LampRacks$History" "states" "[LLampRacks$State;", Cond.methodLink RX1 22 yX1_dropOldest, Cond.instanceMethod yX1_dropOldest, Cond.selects RX1 yX1_dropOldest yX1_dropOldest, Cond.code yX1_dropOldest cX1_dropOldest 3 none, Cond.methodLink RX1 25 yX4_copyFrom]
def wsX6_swap : List Cond := .code yX6_swap cX6_swap 5 (some .int) :: ((wsX6_swap_r1 ++ (wsX6_swap_r2 ++ (wsX6_swap_r3 ++ wsX6_swap_r4))) ++ wsX60 ++ wsX40 ++ wsX00 ++ wsX20 ++ wsX30 ++ wsX10)
def wsX6_setVolts_r1 : List Cond := [Cond.fieldLink RX6 16 "LampRacks" "before" "LLampRacks$State;", Cond.fieldLink RX6 10 "LampRacks" "now" "LLampRacks$State;", Cond.methodLink RX6 50 yX4_copyFrom, Cond.instanceMethod yX4_copyFrom, Cond.selects RX4 yX4_copyFrom yX4_copyFrom, Cond.initialized RX4, Cond.code yX4_copyFrom cX4_copyFrom 2 none, Cond.fieldLink RX4 9 "LampRacks$State" "hour" "I", Cond.fieldLink RX4 15 "LampRacks$State" "wantedVolts" "I", Cond.fieldLink RX4 18 "LampRacks$State" "doublingVolts" "I", Cond.fieldLink RX4 24 "LampRacks$State" "batches" "LLampRacks$Batches;", Cond.fieldLink RX4 31 "LampRacks$State" "lamps" "LLampRacks$Lamps;", Cond.fieldLink RX4 38 "LampRacks$State" "racks" "LLampRacks$Racks;", Cond.methodLink RX4 42 yX0_copyFrom, Cond.instanceMethod yX0_copyFrom, Cond.selects RX0 yX0_copyFrom yX0_copyFrom, Cond.initialized RX0, Cond.code yX0_copyFrom cX0_copyFrom 2 none, Cond.fieldLink RX0 9 "LampRacks$Batches" "life" "[I", Cond.fieldLink RX0 15 "LampRacks$Batches" "spread" "[I", Cond.static yX6_copy, Cond.initialized RX6, Cond.code yX6_copy cX6_copy 2 none, Cond.methodLink RX6 236 Lib.Math.min.name]
def wsX6_setVolts_r2 : List Cond := [Cond.static Lib.Math.min.name, Cond.initialized "java/lang/Math", Cond.code Lib.Math.min.name Lib.Math.min.code 2 (some .int), Cond.methodLink RX6 241 arraycopyName, Cond.native arraycopyName, Cond.static arraycopyName, Cond.initialized "java/lang/System", Cond.methodLink RX4 46 yX2_copyFrom, Cond.instanceMethod yX2_copyFrom, Cond.selects RX2 yX2_copyFrom yX2_copyFrom, Cond.initialized RX2, Cond.code yX2_copyFrom cX2_copyFrom 2 none, Cond.fieldLink RX2 9 "LampRacks$Lamps" "size" "I", Cond.fieldLink RX2 15 "LampRacks$Lamps" "batch" "[I", Cond.fieldLink RX2 19 "LampRacks$Lamps" "spot" "[I", Cond.fieldLink RX2 22 "LampRacks$Lamps" "canLast" "[I", Cond.fieldLink RX2 25 "LampRacks$Lamps" "wear" "[I", Cond.fieldLink RX2 28 "LampRacks$Lamps" "burned" "[I", Cond.fieldLink RX2 31 "LampRacks$Lamps" "end" "[I", Cond.methodLink RX4 49 yX3_copyFrom, Cond.instanceMethod yX3_copyFrom, Cond.selects RX3 yX3_copyFrom yX3_copyFrom, Cond.initialized RX3, Cond.code yX3_copyFrom cX3_copyFrom 2 none]
def wsX6_setVolts_r3 : List Cond := [Cond.fieldLink RX3 9 "LampRacks$Racks" "lampAt" "[I", Cond.fieldLink RX3 15 "LampRacks$Racks" "volts" "[I", Cond.fieldLink RX3 18 "LampRacks$Racks" "stepHours" "[I", Cond.fieldLink RX3 21 "LampRacks$Racks" "stepVolts" "[I", Cond.fieldLink RX3 24 "LampRacks$Racks" "hoursOfStep" "[I", Cond.methodLink RX6 73 yX4_changeVolts, Cond.instanceMethod yX4_changeVolts, Cond.selects RX4 yX4_changeVolts yX4_changeVolts, Cond.code yX4_changeVolts cX4_changeVolts 4 (some .int), Cond.fieldLink RX4 101 "LampRacks$Racks" "volts" "[I", Cond.static yX6_isRack, Cond.code yX6_isRack cX6_isRack 1 (some .boolean), Cond.methodLink RX6 117 yX6_isWithin, Cond.static yX6_isWithin, Cond.code yX6_isWithin cX6_isWithin 3 (some .boolean), Cond.methodLink RX6 58 yX6_recorded, Cond.instanceMethod yX6_recorded, Cond.selects RX6 yX6_recorded yX6_recorded, Cond.code yX6_recorded cX6_recorded 2 (some .int), Cond.fieldLink RX6 32 "LampRacks" "history" "LLampRacks$History;", Cond.methodLink RX6 210 yX1_append, Cond.instanceMethod yX1_append, Cond.selects RX1 yX1_append yX1_append, Cond.initialized RX1]
def wsX6_setVolts_r4 : List Cond := [Cond.code yX1_append cX1_append 2 none, Cond.fieldLink RX1 9 "LampRacks$History" "size" "I", Cond.fieldLink RX1 17 "LampRacks$History" "states" "[LLampRacks$State;", Cond.methodLink RX1 22 yX1_dropOldest, Cond.instanceMethod yX1_dropOldest, Cond.selects RX1 yX1_dropOldest yX1_dropOldest, Cond.code yX1_dropOldest cX1_dropOldest 3 none, Cond.methodLink RX1 25 yX4_copyFrom]
def wsX6_setVolts : List Cond := .code yX6_setVolts cX6_setVolts 3 (some .int) :: ((wsX6_setVolts_r1 ++ (wsX6_setVolts_r2 ++ (wsX6_setVolts_r3 ++ wsX6_setVolts_r4))) ++ wsX60 ++ wsX40 ++ wsX00 ++ wsX20 ++ wsX30 ++ wsX10)
def wsX6_setSteps_r1 : List Cond := [Cond.fieldLink RX6 16 "LampRacks" "before" "LLampRacks$State;", Cond.fieldLink RX6 10 "LampRacks" "now" "LLampRacks$State;", Cond.methodLink RX6 50 yX4_copyFrom, Cond.instanceMethod yX4_copyFrom, Cond.selects RX4 yX4_copyFrom yX4_copyFrom, Cond.initialized RX4, Cond.code yX4_copyFrom cX4_copyFrom 2 none, Cond.fieldLink RX4 9 "LampRacks$State" "hour" "I", Cond.fieldLink RX4 15 "LampRacks$State" "wantedVolts" "I", Cond.fieldLink RX4 18 "LampRacks$State" "doublingVolts" "I", Cond.fieldLink RX4 24 "LampRacks$State" "batches" "LLampRacks$Batches;", Cond.fieldLink RX4 31 "LampRacks$State" "lamps" "LLampRacks$Lamps;", Cond.fieldLink RX4 38 "LampRacks$State" "racks" "LLampRacks$Racks;", Cond.methodLink RX4 42 yX0_copyFrom, Cond.instanceMethod yX0_copyFrom, Cond.selects RX0 yX0_copyFrom yX0_copyFrom, Cond.initialized RX0, Cond.code yX0_copyFrom cX0_copyFrom 2 none, Cond.fieldLink RX0 9 "LampRacks$Batches" "life" "[I", Cond.fieldLink RX0 15 "LampRacks$Batches" "spread" "[I", Cond.static yX6_copy, Cond.initialized RX6, Cond.code yX6_copy cX6_copy 2 none, Cond.methodLink RX6 236 Lib.Math.min.name]
def wsX6_setSteps_r2 : List Cond := [Cond.static Lib.Math.min.name, Cond.initialized "java/lang/Math", Cond.code Lib.Math.min.name Lib.Math.min.code 2 (some .int), Cond.methodLink RX6 241 arraycopyName, Cond.native arraycopyName, Cond.static arraycopyName, Cond.initialized "java/lang/System", Cond.methodLink RX4 46 yX2_copyFrom, Cond.instanceMethod yX2_copyFrom, Cond.selects RX2 yX2_copyFrom yX2_copyFrom, Cond.initialized RX2, Cond.code yX2_copyFrom cX2_copyFrom 2 none, Cond.fieldLink RX2 9 "LampRacks$Lamps" "size" "I", Cond.fieldLink RX2 15 "LampRacks$Lamps" "batch" "[I", Cond.fieldLink RX2 19 "LampRacks$Lamps" "spot" "[I", Cond.fieldLink RX2 22 "LampRacks$Lamps" "canLast" "[I", Cond.fieldLink RX2 25 "LampRacks$Lamps" "wear" "[I", Cond.fieldLink RX2 28 "LampRacks$Lamps" "burned" "[I", Cond.fieldLink RX2 31 "LampRacks$Lamps" "end" "[I", Cond.methodLink RX4 49 yX3_copyFrom, Cond.instanceMethod yX3_copyFrom, Cond.selects RX3 yX3_copyFrom yX3_copyFrom, Cond.initialized RX3, Cond.code yX3_copyFrom cX3_copyFrom 2 none]
def wsX6_setSteps_r3 : List Cond := [Cond.fieldLink RX3 9 "LampRacks$Racks" "lampAt" "[I", Cond.fieldLink RX3 15 "LampRacks$Racks" "volts" "[I", Cond.fieldLink RX3 18 "LampRacks$Racks" "stepHours" "[I", Cond.fieldLink RX3 21 "LampRacks$Racks" "stepVolts" "[I", Cond.fieldLink RX3 24 "LampRacks$Racks" "hoursOfStep" "[I", Cond.methodLink RX6 76 yX4_changeSteps, Cond.instanceMethod yX4_changeSteps, Cond.selects RX4 yX4_changeSteps yX4_changeSteps, Cond.code yX4_changeSteps cX4_changeSteps 5 (some .int), Cond.fieldLink RX4 104 "LampRacks$Racks" "stepHours" "[I", Cond.fieldLink RX4 107 "LampRacks$Racks" "stepVolts" "[I", Cond.fieldLink RX4 110 "LampRacks$Racks" "hoursOfStep" "[I", Cond.static yX6_isRack, Cond.code yX6_isRack cX6_isRack 1 (some .boolean), Cond.methodLink RX6 117 yX6_isWithin, Cond.static yX6_isWithin, Cond.code yX6_isWithin cX6_isWithin 3 (some .boolean), Cond.methodLink RX6 58 yX6_recorded, Cond.instanceMethod yX6_recorded, Cond.selects RX6 yX6_recorded yX6_recorded, Cond.code yX6_recorded cX6_recorded 2 (some .int), Cond.fieldLink RX6 32 "LampRacks" "history" "LLampRacks$History;", Cond.methodLink RX6 210 yX1_append, Cond.instanceMethod yX1_append]
def wsX6_setSteps_r4 : List Cond := [Cond.selects RX1 yX1_append yX1_append, Cond.initialized RX1, Cond.code yX1_append cX1_append 2 none, Cond.fieldLink RX1 9 "LampRacks$History" "size" "I", Cond.fieldLink RX1 17 "LampRacks$History" "states" "[LLampRacks$State;", Cond.methodLink RX1 22 yX1_dropOldest, Cond.instanceMethod yX1_dropOldest, Cond.selects RX1 yX1_dropOldest yX1_dropOldest, Cond.code yX1_dropOldest cX1_dropOldest 3 none, Cond.methodLink RX1 25 yX4_copyFrom]
def wsX6_setSteps : List Cond := .code yX6_setSteps cX6_setSteps 4 (some .int) :: ((wsX6_setSteps_r1 ++ (wsX6_setSteps_r2 ++ (wsX6_setSteps_r3 ++ wsX6_setSteps_r4))) ++ wsX60 ++ wsX40 ++ wsX00 ++ wsX20 ++ wsX30 ++ wsX10)
def wsX6_set_r1 : List Cond := [Cond.fieldLink RX6 16 "LampRacks" "before" "LLampRacks$State;", Cond.fieldLink RX6 10 "LampRacks" "now" "LLampRacks$State;", Cond.methodLink RX6 50 yX4_copyFrom, Cond.instanceMethod yX4_copyFrom, Cond.selects RX4 yX4_copyFrom yX4_copyFrom, Cond.initialized RX4, Cond.code yX4_copyFrom cX4_copyFrom 2 none, Cond.fieldLink RX4 9 "LampRacks$State" "hour" "I", Cond.fieldLink RX4 15 "LampRacks$State" "wantedVolts" "I", Cond.fieldLink RX4 18 "LampRacks$State" "doublingVolts" "I", Cond.fieldLink RX4 24 "LampRacks$State" "batches" "LLampRacks$Batches;", Cond.fieldLink RX4 31 "LampRacks$State" "lamps" "LLampRacks$Lamps;", Cond.fieldLink RX4 38 "LampRacks$State" "racks" "LLampRacks$Racks;", Cond.methodLink RX4 42 yX0_copyFrom, Cond.instanceMethod yX0_copyFrom, Cond.selects RX0 yX0_copyFrom yX0_copyFrom, Cond.initialized RX0, Cond.code yX0_copyFrom cX0_copyFrom 2 none, Cond.fieldLink RX0 9 "LampRacks$Batches" "life" "[I", Cond.fieldLink RX0 15 "LampRacks$Batches" "spread" "[I", Cond.static yX6_copy, Cond.initialized RX6, Cond.code yX6_copy cX6_copy 2 none, Cond.methodLink RX6 236 Lib.Math.min.name]
def wsX6_set_r2 : List Cond := [Cond.static Lib.Math.min.name, Cond.initialized "java/lang/Math", Cond.code Lib.Math.min.name Lib.Math.min.code 2 (some .int), Cond.methodLink RX6 241 arraycopyName, Cond.native arraycopyName, Cond.static arraycopyName, Cond.initialized "java/lang/System", Cond.methodLink RX4 46 yX2_copyFrom, Cond.instanceMethod yX2_copyFrom, Cond.selects RX2 yX2_copyFrom yX2_copyFrom, Cond.initialized RX2, Cond.code yX2_copyFrom cX2_copyFrom 2 none, Cond.fieldLink RX2 9 "LampRacks$Lamps" "size" "I", Cond.fieldLink RX2 15 "LampRacks$Lamps" "batch" "[I", Cond.fieldLink RX2 19 "LampRacks$Lamps" "spot" "[I", Cond.fieldLink RX2 22 "LampRacks$Lamps" "canLast" "[I", Cond.fieldLink RX2 25 "LampRacks$Lamps" "wear" "[I", Cond.fieldLink RX2 28 "LampRacks$Lamps" "burned" "[I", Cond.fieldLink RX2 31 "LampRacks$Lamps" "end" "[I", Cond.methodLink RX4 49 yX3_copyFrom, Cond.instanceMethod yX3_copyFrom, Cond.selects RX3 yX3_copyFrom yX3_copyFrom, Cond.initialized RX3, Cond.code yX3_copyFrom cX3_copyFrom 2 none]
def wsX6_set_r3 : List Cond := [Cond.fieldLink RX3 9 "LampRacks$Racks" "lampAt" "[I", Cond.fieldLink RX3 15 "LampRacks$Racks" "volts" "[I", Cond.fieldLink RX3 18 "LampRacks$Racks" "stepHours" "[I", Cond.fieldLink RX3 21 "LampRacks$Racks" "stepVolts" "[I", Cond.fieldLink RX3 24 "LampRacks$Racks" "hoursOfStep" "[I", Cond.methodLink RX6 79 yX4_changeSetting, Cond.instanceMethod yX4_changeSetting, Cond.selects RX4 yX4_changeSetting yX4_changeSetting, Cond.code yX4_changeSetting cX4_changeSetting 3 (some .int), Cond.methodLink RX4 113 yX4_changeWantedVolts, Cond.instanceMethod yX4_changeWantedVolts, Cond.selects RX4 yX4_changeWantedVolts yX4_changeWantedVolts, Cond.code yX4_changeWantedVolts cX4_changeWantedVolts 3 (some .int), Cond.static yX6_isWithin, Cond.code yX6_isWithin cX6_isWithin 3 (some .boolean), Cond.methodLink RX4 117 yX4_changeDoublingVolts, Cond.instanceMethod yX4_changeDoublingVolts, Cond.selects RX4 yX4_changeDoublingVolts yX4_changeDoublingVolts, Cond.code yX4_changeDoublingVolts cX4_changeDoublingVolts 3 (some .int), Cond.methodLink RX6 58 yX6_recorded, Cond.instanceMethod yX6_recorded, Cond.selects RX6 yX6_recorded yX6_recorded, Cond.code yX6_recorded cX6_recorded 2 (some .int), Cond.fieldLink RX6 32 "LampRacks" "history" "LLampRacks$History;"]
def wsX6_set_r4 : List Cond := [Cond.methodLink RX6 210 yX1_append, Cond.instanceMethod yX1_append, Cond.selects RX1 yX1_append yX1_append, Cond.initialized RX1, Cond.code yX1_append cX1_append 2 none, Cond.fieldLink RX1 9 "LampRacks$History" "size" "I", Cond.fieldLink RX1 17 "LampRacks$History" "states" "[LLampRacks$State;", Cond.methodLink RX1 22 yX1_dropOldest, Cond.instanceMethod yX1_dropOldest, Cond.selects RX1 yX1_dropOldest yX1_dropOldest, Cond.code yX1_dropOldest cX1_dropOldest 3 none, Cond.methodLink RX1 25 yX4_copyFrom]
def wsX6_set : List Cond := .code yX6_set cX6_set 3 (some .int) :: ((wsX6_set_r1 ++ (wsX6_set_r2 ++ (wsX6_set_r3 ++ wsX6_set_r4))) ++ wsX60 ++ wsX40 ++ wsX00 ++ wsX20 ++ wsX30 ++ wsX10)
def wsX6_pass_r1 : List Cond := [Cond.fieldLink RX6 16 "LampRacks" "before" "LLampRacks$State;", Cond.fieldLink RX6 10 "LampRacks" "now" "LLampRacks$State;", Cond.methodLink RX6 50 yX4_copyFrom, Cond.instanceMethod yX4_copyFrom, Cond.selects RX4 yX4_copyFrom yX4_copyFrom, Cond.initialized RX4, Cond.code yX4_copyFrom cX4_copyFrom 2 none, Cond.fieldLink RX4 9 "LampRacks$State" "hour" "I", Cond.fieldLink RX4 15 "LampRacks$State" "wantedVolts" "I", Cond.fieldLink RX4 18 "LampRacks$State" "doublingVolts" "I", Cond.fieldLink RX4 24 "LampRacks$State" "batches" "LLampRacks$Batches;", Cond.fieldLink RX4 31 "LampRacks$State" "lamps" "LLampRacks$Lamps;", Cond.fieldLink RX4 38 "LampRacks$State" "racks" "LLampRacks$Racks;", Cond.methodLink RX4 42 yX0_copyFrom, Cond.instanceMethod yX0_copyFrom, Cond.selects RX0 yX0_copyFrom yX0_copyFrom, Cond.initialized RX0, Cond.code yX0_copyFrom cX0_copyFrom 2 none, Cond.fieldLink RX0 9 "LampRacks$Batches" "life" "[I", Cond.fieldLink RX0 15 "LampRacks$Batches" "spread" "[I", Cond.static yX6_copy, Cond.initialized RX6, Cond.code yX6_copy cX6_copy 2 none, Cond.methodLink RX6 236 Lib.Math.min.name]
def wsX6_pass_r2 : List Cond := [Cond.static Lib.Math.min.name, Cond.initialized "java/lang/Math", Cond.code Lib.Math.min.name Lib.Math.min.code 2 (some .int), Cond.methodLink RX6 241 arraycopyName, Cond.native arraycopyName, Cond.static arraycopyName, Cond.initialized "java/lang/System", Cond.methodLink RX4 46 yX2_copyFrom, Cond.instanceMethod yX2_copyFrom, Cond.selects RX2 yX2_copyFrom yX2_copyFrom, Cond.initialized RX2, Cond.code yX2_copyFrom cX2_copyFrom 2 none, Cond.fieldLink RX2 9 "LampRacks$Lamps" "size" "I", Cond.fieldLink RX2 15 "LampRacks$Lamps" "batch" "[I", Cond.fieldLink RX2 19 "LampRacks$Lamps" "spot" "[I", Cond.fieldLink RX2 22 "LampRacks$Lamps" "canLast" "[I", Cond.fieldLink RX2 25 "LampRacks$Lamps" "wear" "[I", Cond.fieldLink RX2 28 "LampRacks$Lamps" "burned" "[I", Cond.fieldLink RX2 31 "LampRacks$Lamps" "end" "[I", Cond.methodLink RX4 49 yX3_copyFrom, Cond.instanceMethod yX3_copyFrom, Cond.selects RX3 yX3_copyFrom yX3_copyFrom, Cond.initialized RX3, Cond.code yX3_copyFrom cX3_copyFrom 2 none]
def wsX6_pass_r3 : List Cond := [Cond.fieldLink RX3 9 "LampRacks$Racks" "lampAt" "[I", Cond.fieldLink RX3 15 "LampRacks$Racks" "volts" "[I", Cond.fieldLink RX3 18 "LampRacks$Racks" "stepHours" "[I", Cond.fieldLink RX3 21 "LampRacks$Racks" "stepVolts" "[I", Cond.fieldLink RX3 24 "LampRacks$Racks" "hoursOfStep" "[I", Cond.methodLink RX6 82 yX4_letPass, Cond.instanceMethod yX4_letPass, Cond.selects RX4 yX4_letPass yX4_letPass, Cond.code yX4_letPass cX4_letPass 2 (some .int), Cond.constant RX4 120 (99999), Cond.static yX6_isWithin, Cond.code yX6_isWithin cX6_isWithin 3 (some .boolean), Cond.methodLink RX4 121 yX4_passHours, Cond.instanceMethod yX4_passHours, Cond.selects RX4 yX4_passHours yX4_passHours, Cond.code yX4_passHours cX4_passHours 4 (some .int), Cond.methodLink RX4 124 yX4_passHoursOfRack, Cond.instanceMethod yX4_passHoursOfRack, Cond.selects RX4 yX4_passHoursOfRack yX4_passHoursOfRack, Cond.code yX4_passHoursOfRack cX4_passHoursOfRack 6 (some .int), Cond.methodLink RX4 130 Lib.Math.max.name, Cond.static Lib.Math.max.name, Cond.code Lib.Math.max.name Lib.Math.max.code 2 (some .int), Cond.methodLink RX4 127 yX3_hoursAtSameVolts]
def wsX6_pass_r4 : List Cond := [Cond.instanceMethod yX3_hoursAtSameVolts, Cond.selects RX3 yX3_hoursAtSameVolts yX3_hoursAtSameVolts, Cond.code yX3_hoursAtSameVolts cX3_hoursAtSameVolts 3 (some .int), Cond.methodLink RX3 37 Lib.Math.min.name, Cond.methodLink RX3 46 yX3_voltsAfterStep, Cond.instanceMethod yX3_voltsAfterStep, Cond.selects RX3 yX3_voltsAfterStep yX3_voltsAfterStep, Cond.code yX3_voltsAfterStep cX3_voltsAfterStep 2 (some .int), Cond.methodLink RX3 43 Lib.Math.max.name, Cond.methodLink RX3 50 yX3_hoursToStep, Cond.instanceMethod yX3_hoursToStep, Cond.selects RX3 yX3_hoursToStep yX3_hoursToStep, Cond.code yX3_hoursToStep cX3_hoursToStep 2 (some .int), Cond.methodLink RX4 135 yX4_burnRack, Cond.instanceMethod yX4_burnRack, Cond.selects RX4 yX4_burnRack yX4_burnRack, Cond.code yX4_burnRack cX4_burnRack 10 (some .int), Cond.fieldLink RX4 75 "LampRacks$Racks" "lampAt" "[I", Cond.fieldLink RX4 101 "LampRacks$Racks" "volts" "[I", Cond.methodLink RX4 158 Lib.Math.min.name, Cond.fieldLink RX4 165 "LampRacks$Lamps" "end" "[I", Cond.methodLink RX4 142 yX3_isDark, Cond.instanceMethod yX3_isDark, Cond.selects RX3 yX3_isDark yX3_isDark]
def wsX6_pass_r5 : List Cond := [Cond.code yX3_isDark cX3_isDark 2 (some .boolean), Cond.static yX6_spotOf, Cond.code yX6_spotOf cX6_spotOf 2 (some .int), Cond.methodLink RX4 145 yX2_isDead, Cond.instanceMethod yX2_isDead, Cond.selects RX2 yX2_isDead yX2_isDead, Cond.code yX2_isDead cX2_isDead 2 (some .boolean), Cond.static yX6_isHot, Cond.code yX6_isHot cX6_isHot 1 (some .boolean), Cond.methodLink RX6 117 yX6_isWithin, Cond.methodLink RX4 151 yX4_wearOfHour, Cond.instanceMethod yX4_wearOfHour, Cond.selects RX4 yX4_wearOfHour yX4_wearOfHour, Cond.code yX4_wearOfHour cX4_wearOfHour 5 (some .int), Cond.methodLink RX4 155 yX2_hoursLeft, Cond.instanceMethod yX2_hoursLeft, Cond.selects RX2 yX2_hoursLeft yX2_hoursLeft, Cond.code yX2_hoursLeft cX2_hoursLeft 5 (some .int), Cond.methodLink RX2 46 Lib.Math.max.name, Cond.methodLink RX4 161 yX2_burn, Cond.instanceMethod yX2_burn, Cond.selects RX2 yX2_burn yX2_burn, Cond.code yX2_burn cX2_burn 4 none, Cond.methodLink RX4 138 yX3_countHours]
def wsX6_pass_r6 : List Cond := [Cond.instanceMethod yX3_countHours, Cond.selects RX3 yX3_countHours yX3_countHours, Cond.code yX3_countHours cX3_countHours 5 none, Cond.methodLink RX6 58 yX6_recorded, Cond.instanceMethod yX6_recorded, Cond.selects RX6 yX6_recorded yX6_recorded, Cond.code yX6_recorded cX6_recorded 2 (some .int), Cond.fieldLink RX6 32 "LampRacks" "history" "LLampRacks$History;", Cond.methodLink RX6 210 yX1_append, Cond.instanceMethod yX1_append, Cond.selects RX1 yX1_append yX1_append, Cond.initialized RX1, Cond.code yX1_append cX1_append 2 none, Cond.fieldLink RX1 9 "LampRacks$History" "size" "I", Cond.fieldLink RX1 17 "LampRacks$History" "states" "[LLampRacks$State;", Cond.methodLink RX1 22 yX1_dropOldest, Cond.instanceMethod yX1_dropOldest, Cond.selects RX1 yX1_dropOldest yX1_dropOldest, Cond.code yX1_dropOldest cX1_dropOldest 3 none, Cond.methodLink RX1 25 yX4_copyFrom]
def wsX6_pass : List Cond := .code yX6_pass cX6_pass 2 (some .int) :: ((wsX6_pass_r1 ++ (wsX6_pass_r2 ++ (wsX6_pass_r3 ++ (wsX6_pass_r4 ++ (wsX6_pass_r5 ++ wsX6_pass_r6))))) ++ wsX60 ++ wsX40 ++ wsX00 ++ wsX20 ++ wsX30 ++ wsX10)
def wsX6_type : List Cond := .code yX6_type cX6_type 2 (some .int) :: ([.fieldLink RX6 39 "LampRacks" "text" "LLampRacks$Text;", .methodLink RX6 85 yX5_append, .instanceMethod yX5_append, .selects RX5 yX5_append yX5_append, .initialized RX5, .code yX5_append cX5_append 2 (some .int), .fieldLink RX5 9 "LampRacks$Text" "length" "I", .fieldLink RX5 15 "LampRacks$Text" "characters" "[C"] ++ wsX60 ++ wsX50)
def wsX6_clearText : List Cond := .code yX6_clearText cX6_clearText 1 (some .int) :: ([.fieldLink RX6 39 "LampRacks" "text" "LLampRacks$Text;", .methodLink RX6 89 yX5_empty, .instanceMethod yX5_empty, .selects RX5 yX5_empty yX5_empty, .initialized RX5, .code yX5_empty cX5_empty 2 (some .int), .fieldLink RX5 9 "LampRacks$Text" "length" "I"] ++ wsX60 ++ wsX50)
def wsX6_doThing_r1 : List Cond := [Cond.fieldLink RX6 39 "LampRacks" "text" "LLampRacks$Text;", Cond.fieldLink RX6 212 "LampRacks$Text" "kind" "I", Cond.fieldLink RX6 10 "LampRacks" "now" "LLampRacks$State;", Cond.fieldLink RX6 215 "LampRacks$Text" "rack" "I", Cond.fieldLink RX6 218 "LampRacks$Text" "place" "I", Cond.fieldLink RX6 221 "LampRacks$Text" "number" "I", Cond.fieldLink RX6 224 "LampRacks$Text" "hours" "I", Cond.fieldLink RX6 227 "LampRacks$Text" "direction" "I", Cond.methodLink RX6 62 yX4_insertLamp, Cond.instanceMethod yX4_insertLamp, Cond.selects RX4 yX4_insertLamp yX4_insertLamp, Cond.initialized RX4, Cond.code yX4_insertLamp cX4_insertLamp 6 (some .int), Cond.fieldLink RX4 38 "LampRacks$State" "racks" "LLampRacks$Racks;", Cond.fieldLink RX4 75 "LampRacks$Racks" "lampAt" "[I", Cond.fieldLink RX4 31 "LampRacks$State" "lamps" "LLampRacks$Lamps;", Cond.fieldLink RX4 24 "LampRacks$State" "batches" "LLampRacks$Batches;", Cond.fieldLink RX4 82 "LampRacks$Lamps" "size" "I", Cond.static yX6_isPlace, Cond.initialized RX6, Cond.code yX6_isPlace cX6_isPlace 2 (some .boolean), Cond.methodLink RX6 230 yX6_isRack, Cond.static yX6_isRack, Cond.code yX6_isRack cX6_isRack 1 (some .boolean)]
def wsX6_doThing_r2 : List Cond := [Cond.methodLink RX6 117 yX6_isWithin, Cond.static yX6_isWithin, Cond.code yX6_isWithin cX6_isWithin 3 (some .boolean), Cond.static yX6_isBatch, Cond.code yX6_isBatch cX6_isBatch 1 (some .boolean), Cond.static yX6_spotOf, Cond.code yX6_spotOf cX6_spotOf 2 (some .int), Cond.methodLink RX4 78 yX2_isFull, Cond.instanceMethod yX2_isFull, Cond.selects RX2 yX2_isFull yX2_isFull, Cond.initialized RX2, Cond.code yX2_isFull cX2_isFull 1 (some .boolean), Cond.fieldLink RX2 9 "LampRacks$Lamps" "size" "I", Cond.methodLink RX4 85 yX0_hoursOfLamp, Cond.instanceMethod yX0_hoursOfLamp, Cond.selects RX0 yX0_hoursOfLamp yX0_hoursOfLamp, Cond.initialized RX0, Cond.code yX0_hoursOfLamp cX0_hoursOfLamp 5 (some .int), Cond.fieldLink RX0 9 "LampRacks$Batches" "life" "[I", Cond.fieldLink RX0 15 "LampRacks$Batches" "spread" "[I", Cond.methodLink RX0 30 Lib.Math.max.name, Cond.static Lib.Math.max.name, Cond.initialized "java/lang/Math", Cond.code Lib.Math.max.name Lib.Math.max.code 2 (some .int)]
def wsX6_doThing_r3 : List Cond := [Cond.static yX6_shareOf, Cond.code yX6_shareOf cX6_shareOf 1 (some .int), Cond.static yX6_isWeak, Cond.code yX6_isWeak cX6_isWeak 1 (some .boolean), Cond.methodLink RX6 233 yX6_shareOf, Cond.methodLink RX4 88 yX2_append, Cond.instanceMethod yX2_append, Cond.selects RX2 yX2_append yX2_append, Cond.code yX2_append cX2_append 5 (some .int), Cond.fieldLink RX2 15 "LampRacks$Lamps" "batch" "[I", Cond.fieldLink RX2 19 "LampRacks$Lamps" "spot" "[I", Cond.fieldLink RX2 22 "LampRacks$Lamps" "canLast" "[I", Cond.fieldLink RX2 25 "LampRacks$Lamps" "wear" "[I", Cond.fieldLink RX2 28 "LampRacks$Lamps" "burned" "[I", Cond.fieldLink RX2 31 "LampRacks$Lamps" "end" "[I", Cond.methodLink RX6 65 yX4_removeLamp, Cond.instanceMethod yX4_removeLamp, Cond.selects RX4 yX4_removeLamp yX4_removeLamp, Cond.code yX4_removeLamp cX4_removeLamp 5 (some .int), Cond.fieldLink RX4 92 "LampRacks$Lamps" "spot" "[I", Cond.methodLink RX6 73 yX4_changeVolts, Cond.instanceMethod yX4_changeVolts, Cond.selects RX4 yX4_changeVolts yX4_changeVolts, Cond.code yX4_changeVolts cX4_changeVolts 4 (some .int)]
def wsX6_doThing_r4 : List Cond := [Cond.fieldLink RX4 101 "LampRacks$Racks" "volts" "[I", Cond.methodLink RX6 76 yX4_changeSteps, Cond.instanceMethod yX4_changeSteps, Cond.selects RX4 yX4_changeSteps yX4_changeSteps, Cond.code yX4_changeSteps cX4_changeSteps 5 (some .int), Cond.fieldLink RX4 104 "LampRacks$Racks" "stepHours" "[I", Cond.fieldLink RX4 107 "LampRacks$Racks" "stepVolts" "[I", Cond.fieldLink RX4 110 "LampRacks$Racks" "hoursOfStep" "[I", Cond.methodLink RX6 82 yX4_letPass, Cond.instanceMethod yX4_letPass, Cond.selects RX4 yX4_letPass yX4_letPass, Cond.code yX4_letPass cX4_letPass 2 (some .int), Cond.fieldLink RX4 9 "LampRacks$State" "hour" "I", Cond.constant RX4 120 (99999), Cond.methodLink RX4 121 yX4_passHours, Cond.instanceMethod yX4_passHours, Cond.selects RX4 yX4_passHours yX4_passHours, Cond.code yX4_passHours cX4_passHours 4 (some .int), Cond.methodLink RX4 124 yX4_passHoursOfRack, Cond.instanceMethod yX4_passHoursOfRack, Cond.selects RX4 yX4_passHoursOfRack yX4_passHoursOfRack, Cond.code yX4_passHoursOfRack cX4_passHoursOfRack 6 (some .int), Cond.methodLink RX4 130 Lib.Math.max.name, Cond.methodLink RX4 127 yX3_hoursAtSameVolts]
def wsX6_doThing_r5 : List Cond := [Cond.instanceMethod yX3_hoursAtSameVolts, Cond.selects RX3 yX3_hoursAtSameVolts yX3_hoursAtSameVolts, Cond.initialized RX3, Cond.code yX3_hoursAtSameVolts cX3_hoursAtSameVolts 3 (some .int), Cond.fieldLink RX3 18 "LampRacks$Racks" "stepHours" "[I", Cond.fieldLink RX3 15 "LampRacks$Racks" "volts" "[I", Cond.methodLink RX3 37 Lib.Math.min.name, Cond.static Lib.Math.min.name, Cond.code Lib.Math.min.name Lib.Math.min.code 2 (some .int), Cond.methodLink RX3 46 yX3_voltsAfterStep, Cond.instanceMethod yX3_voltsAfterStep, Cond.selects RX3 yX3_voltsAfterStep yX3_voltsAfterStep, Cond.code yX3_voltsAfterStep cX3_voltsAfterStep 2 (some .int), Cond.fieldLink RX3 21 "LampRacks$Racks" "stepVolts" "[I", Cond.methodLink RX3 43 Lib.Math.max.name, Cond.methodLink RX3 50 yX3_hoursToStep, Cond.instanceMethod yX3_hoursToStep, Cond.selects RX3 yX3_hoursToStep yX3_hoursToStep, Cond.code yX3_hoursToStep cX3_hoursToStep 2 (some .int), Cond.fieldLink RX3 24 "LampRacks$Racks" "hoursOfStep" "[I", Cond.methodLink RX4 135 yX4_burnRack, Cond.instanceMethod yX4_burnRack, Cond.selects RX4 yX4_burnRack yX4_burnRack, Cond.code yX4_burnRack cX4_burnRack 10 (some .int)]
def wsX6_doThing_r6 : List Cond := [Cond.methodLink RX4 158 Lib.Math.min.name, Cond.fieldLink RX4 165 "LampRacks$Lamps" "end" "[I", Cond.methodLink RX4 142 yX3_isDark, Cond.instanceMethod yX3_isDark, Cond.selects RX3 yX3_isDark yX3_isDark, Cond.code yX3_isDark cX3_isDark 2 (some .boolean), Cond.methodLink RX4 145 yX2_isDead, Cond.instanceMethod yX2_isDead, Cond.selects RX2 yX2_isDead yX2_isDead, Cond.code yX2_isDead cX2_isDead 2 (some .boolean), Cond.static yX6_isHot, Cond.code yX6_isHot cX6_isHot 1 (some .boolean), Cond.methodLink RX4 151 yX4_wearOfHour, Cond.instanceMethod yX4_wearOfHour, Cond.selects RX4 yX4_wearOfHour yX4_wearOfHour, Cond.code yX4_wearOfHour cX4_wearOfHour 5 (some .int), Cond.fieldLink RX4 15 "LampRacks$State" "wantedVolts" "I", Cond.fieldLink RX4 18 "LampRacks$State" "doublingVolts" "I", Cond.methodLink RX4 155 yX2_hoursLeft, Cond.instanceMethod yX2_hoursLeft, Cond.selects RX2 yX2_hoursLeft yX2_hoursLeft, Cond.code yX2_hoursLeft cX2_hoursLeft 5 (some .int), Cond.methodLink RX2 46 Lib.Math.max.name, Cond.methodLink RX4 161 yX2_burn]
def wsX6_doThing_r7 : List Cond := [Cond.instanceMethod yX2_burn, Cond.selects RX2 yX2_burn yX2_burn, Cond.code yX2_burn cX2_burn 4 none, Cond.methodLink RX4 138 yX3_countHours, Cond.instanceMethod yX3_countHours, Cond.selects RX3 yX3_countHours yX3_countHours, Cond.code yX3_countHours cX3_countHours 5 none]
def wsX6_doThing : List Cond := .code yX6_doThing cX6_doThing 1 (some .int) :: ((wsX6_doThing_r1 ++ (wsX6_doThing_r2 ++ (wsX6_doThing_r3 ++ (wsX6_doThing_r4 ++ (wsX6_doThing_r5 ++ (wsX6_doThing_r6 ++ wsX6_doThing_r7)))))) ++ wsX60 ++ wsX50 ++ wsX40 ++ wsX30 ++ wsX20 ++ wsX00)
def wsX6_isError : List Cond := .code yX6_isError cX6_isError 1 (some .boolean) :: ([])
def wsX6_perform_r1 : List Cond := [Cond.fieldLink RX6 39 "LampRacks" "text" "LLampRacks$Text;", Cond.fieldLink RX6 16 "LampRacks" "before" "LLampRacks$State;", Cond.fieldLink RX6 10 "LampRacks" "now" "LLampRacks$State;", Cond.fieldLink RX6 96 "LampRacks$Text" "things" "I", Cond.fieldLink RX6 43 "LampRacks" "stoppedThing" "I", Cond.fieldLink RX6 47 "LampRacks" "stoppedError" "I", Cond.methodLink RX6 93 yX5_findFault, Cond.instanceMethod yX5_findFault, Cond.selects RX5 yX5_findFault yX5_findFault, Cond.initialized RX5, Cond.code yX5_findFault cX5_findFault 2 (some .int), Cond.fieldLink RX5 22 "LampRacks$Text" "things" "I", Cond.fieldLink RX5 19 "LampRacks$Text" "position" "I", Cond.fieldLink RX5 9 "LampRacks$Text" "length" "I", Cond.methodLink RX5 43 yX5_startReading, Cond.instanceMethod yX5_startReading, Cond.selects RX5 yX5_startReading yX5_startReading, Cond.code yX5_startReading cX5_startReading 1 none, Cond.methodLink RX5 46 yX5_readThing, Cond.instanceMethod yX5_readThing, Cond.selects RX5 yX5_readThing yX5_readThing, Cond.code yX5_readThing cX5_readThing 1 (some .boolean), Cond.fieldLink RX5 25 "LampRacks$Text" "kind" "I", Cond.methodLink RX5 54 yX5_current]
def wsX6_perform_r2 : List Cond := [Cond.instanceMethod yX5_current, Cond.selects RX5 yX5_current yX5_current, Cond.code yX5_current cX5_current 1 (some .int), Cond.fieldLink RX5 15 "LampRacks$Text" "characters" "[C", Cond.methodLink RX5 50 yX5_readSign, Cond.instanceMethod yX5_readSign, Cond.selects RX5 yX5_readSign yX5_readSign, Cond.code yX5_readSign cX5_readSign 2 (some .boolean), Cond.methodLink RX5 58 yX5_readSpot, Cond.instanceMethod yX5_readSpot, Cond.selects RX5 yX5_readSpot yX5_readSpot, Cond.code yX5_readSpot cX5_readSpot 1 (some .boolean), Cond.fieldLink RX5 40 "LampRacks$Text" "number" "I", Cond.fieldLink RX5 31 "LampRacks$Text" "place" "I", Cond.methodLink RX5 75 yX5_readRack, Cond.instanceMethod yX5_readRack, Cond.selects RX5 yX5_readRack yX5_readRack, Cond.code yX5_readRack cX5_readRack 1 (some .boolean), Cond.fieldLink RX5 28 "LampRacks$Text" "rack" "I", Cond.methodLink RX5 61 yX5_readDigit, Cond.instanceMethod yX5_readDigit, Cond.selects RX5 yX5_readDigit yX5_readDigit, Cond.code yX5_readDigit cX5_readDigit 2 (some .boolean), Cond.static yX6_isWithin]
def wsX6_perform_r3 : List Cond := [Cond.initialized RX6, Cond.code yX6_isWithin cX6_isWithin 3 (some .boolean), Cond.methodLink RX5 65 yX5_readRackAndColon, Cond.instanceMethod yX5_readRackAndColon, Cond.selects RX5 yX5_readRackAndColon yX5_readRackAndColon, Cond.code yX5_readRackAndColon cX5_readRackAndColon 1 (some .boolean), Cond.methodLink RX5 68 yX5_readNumber, Cond.instanceMethod yX5_readNumber, Cond.selects RX5 yX5_readNumber yX5_readNumber, Cond.code yX5_readNumber cX5_readNumber 3 (some .boolean), Cond.methodLink RX5 85 yX5_isNextDigit, Cond.instanceMethod yX5_isNextDigit, Cond.selects RX5 yX5_isNextDigit yX5_isNextDigit, Cond.code yX5_isNextDigit cX5_isNextDigit 2 (some .boolean), Cond.methodLink RX5 72 yX5_readSteps, Cond.instanceMethod yX5_readSteps, Cond.selects RX5 yX5_readSteps yX5_readSteps, Cond.code yX5_readSteps cX5_readSteps 1 (some .boolean), Cond.fieldLink RX5 34 "LampRacks$Text" "hours" "I", Cond.methodLink RX5 78 yX5_readDirection, Cond.instanceMethod yX5_readDirection, Cond.selects RX5 yX5_readDirection yX5_readDirection, Cond.code yX5_readDirection cX5_readDirection 1 (some .boolean), Cond.fieldLink RX5 37 "LampRacks$Text" "direction" "I"]
def wsX6_perform_r4 : List Cond := [Cond.methodLink RX6 50 yX4_copyFrom, Cond.instanceMethod yX4_copyFrom, Cond.selects RX4 yX4_copyFrom yX4_copyFrom, Cond.initialized RX4, Cond.code yX4_copyFrom cX4_copyFrom 2 none, Cond.fieldLink RX4 9 "LampRacks$State" "hour" "I", Cond.fieldLink RX4 15 "LampRacks$State" "wantedVolts" "I", Cond.fieldLink RX4 18 "LampRacks$State" "doublingVolts" "I", Cond.fieldLink RX4 24 "LampRacks$State" "batches" "LLampRacks$Batches;", Cond.fieldLink RX4 31 "LampRacks$State" "lamps" "LLampRacks$Lamps;", Cond.fieldLink RX4 38 "LampRacks$State" "racks" "LLampRacks$Racks;", Cond.methodLink RX4 42 yX0_copyFrom, Cond.instanceMethod yX0_copyFrom, Cond.selects RX0 yX0_copyFrom yX0_copyFrom, Cond.initialized RX0, Cond.code yX0_copyFrom cX0_copyFrom 2 none, Cond.fieldLink RX0 9 "LampRacks$Batches" "life" "[I", Cond.fieldLink RX0 15 "LampRacks$Batches" "spread" "[I", Cond.static yX6_copy, Cond.code yX6_copy cX6_copy 2 none, Cond.methodLink RX6 236 Lib.Math.min.name, Cond.static Lib.Math.min.name, Cond.initialized "java/lang/Math", Cond.code Lib.Math.min.name Lib.Math.min.code 2 (some .int)]
def wsX6_perform_r5 : List Cond := [Cond.methodLink RX6 241 arraycopyName, Cond.native arraycopyName, Cond.static arraycopyName, Cond.initialized "java/lang/System", Cond.methodLink RX4 46 yX2_copyFrom, Cond.instanceMethod yX2_copyFrom, Cond.selects RX2 yX2_copyFrom yX2_copyFrom, Cond.initialized RX2, Cond.code yX2_copyFrom cX2_copyFrom 2 none, Cond.fieldLink RX2 9 "LampRacks$Lamps" "size" "I", Cond.fieldLink RX2 15 "LampRacks$Lamps" "batch" "[I", Cond.fieldLink RX2 19 "LampRacks$Lamps" "spot" "[I", Cond.fieldLink RX2 22 "LampRacks$Lamps" "canLast" "[I", Cond.fieldLink RX2 25 "LampRacks$Lamps" "wear" "[I", Cond.fieldLink RX2 28 "LampRacks$Lamps" "burned" "[I", Cond.fieldLink RX2 31 "LampRacks$Lamps" "end" "[I", Cond.methodLink RX4 49 yX3_copyFrom, Cond.instanceMethod yX3_copyFrom, Cond.selects RX3 yX3_copyFrom yX3_copyFrom, Cond.initialized RX3, Cond.code yX3_copyFrom cX3_copyFrom 2 none, Cond.fieldLink RX3 9 "LampRacks$Racks" "lampAt" "[I", Cond.fieldLink RX3 15 "LampRacks$Racks" "volts" "[I", Cond.fieldLink RX3 18 "LampRacks$Racks" "stepHours" "[I"]
def wsX6_perform_r6 : List Cond := [Cond.fieldLink RX3 21 "LampRacks$Racks" "stepVolts" "[I", Cond.fieldLink RX3 24 "LampRacks$Racks" "hoursOfStep" "[I", Cond.methodLink RX6 99 yX5_startReading, Cond.methodLink RX6 102 yX5_readThing, Cond.methodLink RX6 106 yX6_doThing, Cond.instanceMethod yX6_doThing, Cond.selects RX6 yX6_doThing yX6_doThing, Cond.code yX6_doThing cX6_doThing 1 (some .int), Cond.fieldLink RX6 212 "LampRacks$Text" "kind" "I", Cond.fieldLink RX6 215 "LampRacks$Text" "rack" "I", Cond.fieldLink RX6 218 "LampRacks$Text" "place" "I", Cond.fieldLink RX6 221 "LampRacks$Text" "number" "I", Cond.fieldLink RX6 224 "LampRacks$Text" "hours" "I", Cond.fieldLink RX6 227 "LampRacks$Text" "direction" "I", Cond.methodLink RX6 62 yX4_insertLamp, Cond.instanceMethod yX4_insertLamp, Cond.selects RX4 yX4_insertLamp yX4_insertLamp, Cond.code yX4_insertLamp cX4_insertLamp 6 (some .int), Cond.fieldLink RX4 75 "LampRacks$Racks" "lampAt" "[I", Cond.fieldLink RX4 82 "LampRacks$Lamps" "size" "I", Cond.static yX6_isPlace, Cond.code yX6_isPlace cX6_isPlace 2 (some .boolean), Cond.methodLink RX6 230 yX6_isRack, Cond.static yX6_isRack]
def wsX6_perform_r7 : List Cond := [Cond.code yX6_isRack cX6_isRack 1 (some .boolean), Cond.methodLink RX6 117 yX6_isWithin, Cond.static yX6_isBatch, Cond.code yX6_isBatch cX6_isBatch 1 (some .boolean), Cond.static yX6_spotOf, Cond.code yX6_spotOf cX6_spotOf 2 (some .int), Cond.methodLink RX4 78 yX2_isFull, Cond.instanceMethod yX2_isFull, Cond.selects RX2 yX2_isFull yX2_isFull, Cond.code yX2_isFull cX2_isFull 1 (some .boolean), Cond.methodLink RX4 85 yX0_hoursOfLamp, Cond.instanceMethod yX0_hoursOfLamp, Cond.selects RX0 yX0_hoursOfLamp yX0_hoursOfLamp, Cond.code yX0_hoursOfLamp cX0_hoursOfLamp 5 (some .int), Cond.methodLink RX0 30 Lib.Math.max.name, Cond.static Lib.Math.max.name, Cond.code Lib.Math.max.name Lib.Math.max.code 2 (some .int), Cond.static yX6_shareOf, Cond.code yX6_shareOf cX6_shareOf 1 (some .int), Cond.static yX6_isWeak, Cond.code yX6_isWeak cX6_isWeak 1 (some .boolean), Cond.methodLink RX6 233 yX6_shareOf, Cond.methodLink RX4 88 yX2_append, Cond.instanceMethod yX2_append]
def wsX6_perform_r8 : List Cond := [Cond.selects RX2 yX2_append yX2_append, Cond.code yX2_append cX2_append 5 (some .int), Cond.methodLink RX6 65 yX4_removeLamp, Cond.instanceMethod yX4_removeLamp, Cond.selects RX4 yX4_removeLamp yX4_removeLamp, Cond.code yX4_removeLamp cX4_removeLamp 5 (some .int), Cond.fieldLink RX4 92 "LampRacks$Lamps" "spot" "[I", Cond.methodLink RX6 73 yX4_changeVolts, Cond.instanceMethod yX4_changeVolts, Cond.selects RX4 yX4_changeVolts yX4_changeVolts, Cond.code yX4_changeVolts cX4_changeVolts 4 (some .int), Cond.fieldLink RX4 101 "LampRacks$Racks" "volts" "[I", Cond.methodLink RX6 76 yX4_changeSteps, Cond.instanceMethod yX4_changeSteps, Cond.selects RX4 yX4_changeSteps yX4_changeSteps, Cond.code yX4_changeSteps cX4_changeSteps 5 (some .int), Cond.fieldLink RX4 104 "LampRacks$Racks" "stepHours" "[I", Cond.fieldLink RX4 107 "LampRacks$Racks" "stepVolts" "[I", Cond.fieldLink RX4 110 "LampRacks$Racks" "hoursOfStep" "[I", Cond.methodLink RX6 82 yX4_letPass, Cond.instanceMethod yX4_letPass, Cond.selects RX4 yX4_letPass yX4_letPass, Cond.code yX4_letPass cX4_letPass 2 (some .int), Cond.constant RX4 120 (99999)]
def wsX6_perform_r9 : List Cond := [Cond.methodLink RX4 121 yX4_passHours, Cond.instanceMethod yX4_passHours, Cond.selects RX4 yX4_passHours yX4_passHours, Cond.code yX4_passHours cX4_passHours 4 (some .int), Cond.methodLink RX4 124 yX4_passHoursOfRack, Cond.instanceMethod yX4_passHoursOfRack, Cond.selects RX4 yX4_passHoursOfRack yX4_passHoursOfRack, Cond.code yX4_passHoursOfRack cX4_passHoursOfRack 6 (some .int), Cond.methodLink RX4 130 Lib.Math.max.name, Cond.methodLink RX4 127 yX3_hoursAtSameVolts, Cond.instanceMethod yX3_hoursAtSameVolts, Cond.selects RX3 yX3_hoursAtSameVolts yX3_hoursAtSameVolts, Cond.code yX3_hoursAtSameVolts cX3_hoursAtSameVolts 3 (some .int), Cond.methodLink RX3 37 Lib.Math.min.name, Cond.methodLink RX3 46 yX3_voltsAfterStep, Cond.instanceMethod yX3_voltsAfterStep, Cond.selects RX3 yX3_voltsAfterStep yX3_voltsAfterStep, Cond.code yX3_voltsAfterStep cX3_voltsAfterStep 2 (some .int), Cond.methodLink RX3 43 Lib.Math.max.name, Cond.methodLink RX3 50 yX3_hoursToStep, Cond.instanceMethod yX3_hoursToStep, Cond.selects RX3 yX3_hoursToStep yX3_hoursToStep, Cond.code yX3_hoursToStep cX3_hoursToStep 2 (some .int), Cond.methodLink RX4 135 yX4_burnRack]
def wsX6_perform_r10 : List Cond := [Cond.instanceMethod yX4_burnRack, Cond.selects RX4 yX4_burnRack yX4_burnRack, Cond.code yX4_burnRack cX4_burnRack 10 (some .int), Cond.methodLink RX4 158 Lib.Math.min.name, Cond.fieldLink RX4 165 "LampRacks$Lamps" "end" "[I", Cond.methodLink RX4 142 yX3_isDark, Cond.instanceMethod yX3_isDark, Cond.selects RX3 yX3_isDark yX3_isDark, Cond.code yX3_isDark cX3_isDark 2 (some .boolean), Cond.methodLink RX4 145 yX2_isDead, Cond.instanceMethod yX2_isDead, Cond.selects RX2 yX2_isDead yX2_isDead, Cond.code yX2_isDead cX2_isDead 2 (some .boolean), Cond.static yX6_isHot, Cond.code yX6_isHot cX6_isHot 1 (some .boolean), Cond.methodLink RX4 151 yX4_wearOfHour, Cond.instanceMethod yX4_wearOfHour, Cond.selects RX4 yX4_wearOfHour yX4_wearOfHour, Cond.code yX4_wearOfHour cX4_wearOfHour 5 (some .int), Cond.methodLink RX4 155 yX2_hoursLeft, Cond.instanceMethod yX2_hoursLeft, Cond.selects RX2 yX2_hoursLeft yX2_hoursLeft, Cond.code yX2_hoursLeft cX2_hoursLeft 5 (some .int), Cond.methodLink RX2 46 Lib.Math.max.name]
def wsX6_perform_r11 : List Cond := [Cond.methodLink RX4 161 yX2_burn, Cond.instanceMethod yX2_burn, Cond.selects RX2 yX2_burn yX2_burn, Cond.code yX2_burn cX2_burn 4 none, Cond.methodLink RX4 138 yX3_countHours, Cond.instanceMethod yX3_countHours, Cond.selects RX3 yX3_countHours yX3_countHours, Cond.code yX3_countHours cX3_countHours 5 none, Cond.methodLink RX6 109 yX6_isError, Cond.static yX6_isError, Cond.code yX6_isError cX6_isError 1 (some .boolean), Cond.methodLink RX6 113 yX5_readSign, Cond.methodLink RX6 58 yX6_recorded, Cond.instanceMethod yX6_recorded, Cond.selects RX6 yX6_recorded yX6_recorded, Cond.code yX6_recorded cX6_recorded 2 (some .int), Cond.fieldLink RX6 32 "LampRacks" "history" "LLampRacks$History;", Cond.methodLink RX6 210 yX1_append, Cond.instanceMethod yX1_append, Cond.selects RX1 yX1_append yX1_append, Cond.initialized RX1, Cond.code yX1_append cX1_append 2 none, Cond.fieldLink RX1 9 "LampRacks$History" "size" "I", Cond.fieldLink RX1 17 "LampRacks$History" "states" "[LLampRacks$State;"]
def wsX6_perform_r12 : List Cond := [Cond.methodLink RX1 22 yX1_dropOldest, Cond.instanceMethod yX1_dropOldest, Cond.selects RX1 yX1_dropOldest yX1_dropOldest, Cond.code yX1_dropOldest cX1_dropOldest 3 none, Cond.methodLink RX1 25 yX4_copyFrom]
def wsX6_perform : List Cond := .code yX6_perform cX6_perform 5 (some .int) :: ((wsX6_perform_r1 ++ (wsX6_perform_r2 ++ (wsX6_perform_r3 ++ (wsX6_perform_r4 ++ (wsX6_perform_r5 ++ (wsX6_perform_r6 ++ (wsX6_perform_r7 ++ (wsX6_perform_r8 ++ (wsX6_perform_r9 ++ (wsX6_perform_r10 ++ (wsX6_perform_r11 ++ wsX6_perform_r12))))))))))) ++ wsX60 ++ wsX50 ++ wsX40 ++ wsX00 ++ wsX20 ++ wsX30 ++ wsX10)
def wsX6_stopped : List Cond := .code yX6_stopped cX6_stopped 2 (some .int) :: ([.fieldLink RX6 47 "LampRacks" "stoppedError" "I", .fieldLink RX6 43 "LampRacks" "stoppedThing" "I", .methodLink RX6 117 yX6_isWithin, .static yX6_isWithin, .initialized RX6, .code yX6_isWithin cX6_isWithin 3 (some .boolean)] ++ wsX60)
def wsX6_undo_r1 : List Cond := [Cond.fieldLink RX6 32 "LampRacks" "history" "LLampRacks$History;", Cond.fieldLink RX6 121 "LampRacks$History" "size" "I", Cond.fieldLink RX6 10 "LampRacks" "now" "LLampRacks$State;", Cond.methodLink RX6 124 yX1_moveLatestTo, Cond.instanceMethod yX1_moveLatestTo, Cond.selects RX1 yX1_moveLatestTo yX1_moveLatestTo, Cond.initialized RX1, Cond.code yX1_moveLatestTo cX1_moveLatestTo 2 none, Cond.fieldLink RX1 9 "LampRacks$History" "size" "I", Cond.fieldLink RX1 17 "LampRacks$History" "states" "[LLampRacks$State;", Cond.methodLink RX1 25 yX4_copyFrom, Cond.instanceMethod yX4_copyFrom, Cond.selects RX4 yX4_copyFrom yX4_copyFrom, Cond.initialized RX4, Cond.code yX4_copyFrom cX4_copyFrom 2 none, Cond.fieldLink RX4 9 "LampRacks$State" "hour" "I", Cond.fieldLink RX4 15 "LampRacks$State" "wantedVolts" "I", Cond.fieldLink RX4 18 "LampRacks$State" "doublingVolts" "I", Cond.fieldLink RX4 24 "LampRacks$State" "batches" "LLampRacks$Batches;", Cond.fieldLink RX4 31 "LampRacks$State" "lamps" "LLampRacks$Lamps;", Cond.fieldLink RX4 38 "LampRacks$State" "racks" "LLampRacks$Racks;", Cond.methodLink RX4 42 yX0_copyFrom, Cond.instanceMethod yX0_copyFrom, Cond.selects RX0 yX0_copyFrom yX0_copyFrom]
def wsX6_undo_r2 : List Cond := [Cond.initialized RX0, Cond.code yX0_copyFrom cX0_copyFrom 2 none, Cond.fieldLink RX0 9 "LampRacks$Batches" "life" "[I", Cond.fieldLink RX0 15 "LampRacks$Batches" "spread" "[I", Cond.static yX6_copy, Cond.initialized RX6, Cond.code yX6_copy cX6_copy 2 none, Cond.methodLink RX6 236 Lib.Math.min.name, Cond.static Lib.Math.min.name, Cond.initialized "java/lang/Math", Cond.code Lib.Math.min.name Lib.Math.min.code 2 (some .int), Cond.methodLink RX6 241 arraycopyName, Cond.native arraycopyName, Cond.static arraycopyName, Cond.initialized "java/lang/System", Cond.methodLink RX4 46 yX2_copyFrom, Cond.instanceMethod yX2_copyFrom, Cond.selects RX2 yX2_copyFrom yX2_copyFrom, Cond.initialized RX2, Cond.code yX2_copyFrom cX2_copyFrom 2 none, Cond.fieldLink RX2 9 "LampRacks$Lamps" "size" "I", Cond.fieldLink RX2 15 "LampRacks$Lamps" "batch" "[I", Cond.fieldLink RX2 19 "LampRacks$Lamps" "spot" "[I", Cond.fieldLink RX2 22 "LampRacks$Lamps" "canLast" "[I"]
def wsX6_undo_r3 : List Cond := [Cond.fieldLink RX2 25 "LampRacks$Lamps" "wear" "[I", Cond.fieldLink RX2 28 "LampRacks$Lamps" "burned" "[I", Cond.fieldLink RX2 31 "LampRacks$Lamps" "end" "[I", Cond.methodLink RX4 49 yX3_copyFrom, Cond.instanceMethod yX3_copyFrom, Cond.selects RX3 yX3_copyFrom yX3_copyFrom, Cond.initialized RX3, Cond.code yX3_copyFrom cX3_copyFrom 2 none, Cond.fieldLink RX3 9 "LampRacks$Racks" "lampAt" "[I", Cond.fieldLink RX3 15 "LampRacks$Racks" "volts" "[I", Cond.fieldLink RX3 18 "LampRacks$Racks" "stepHours" "[I", Cond.fieldLink RX3 21 "LampRacks$Racks" "stepVolts" "[I", Cond.fieldLink RX3 24 "LampRacks$Racks" "hoursOfStep" "[I"]
def wsX6_undo : List Cond := .code yX6_undo cX6_undo 1 (some .int) :: ((wsX6_undo_r1 ++ (wsX6_undo_r2 ++ wsX6_undo_r3)) ++ wsX60 ++ wsX10 ++ wsX40 ++ wsX00 ++ wsX20 ++ wsX30)
def wsX6_keep_r1 : List Cond := [Cond.fieldLink RX6 22 "LampRacks" "snapshot" "LLampRacks$State;", Cond.fieldLink RX6 10 "LampRacks" "now" "LLampRacks$State;", Cond.fieldLink RX6 25 "LampRacks" "hasSnapshot" "Z", Cond.fieldLink RX6 127 "LampRacks$State" "lamps" "LLampRacks$Lamps;", Cond.fieldLink RX6 131 "LampRacks$Lamps" "size" "I", Cond.methodLink RX6 50 yX4_copyFrom, Cond.instanceMethod yX4_copyFrom, Cond.selects RX4 yX4_copyFrom yX4_copyFrom, Cond.initialized RX4, Cond.code yX4_copyFrom cX4_copyFrom 2 none, Cond.fieldLink RX4 9 "LampRacks$State" "hour" "I", Cond.fieldLink RX4 15 "LampRacks$State" "wantedVolts" "I", Cond.fieldLink RX4 18 "LampRacks$State" "doublingVolts" "I", Cond.fieldLink RX4 24 "LampRacks$State" "batches" "LLampRacks$Batches;", Cond.fieldLink RX4 31 "LampRacks$State" "lamps" "LLampRacks$Lamps;", Cond.fieldLink RX4 38 "LampRacks$State" "racks" "LLampRacks$Racks;", Cond.methodLink RX4 42 yX0_copyFrom, Cond.instanceMethod yX0_copyFrom, Cond.selects RX0 yX0_copyFrom yX0_copyFrom, Cond.initialized RX0, Cond.code yX0_copyFrom cX0_copyFrom 2 none, Cond.fieldLink RX0 9 "LampRacks$Batches" "life" "[I", Cond.fieldLink RX0 15 "LampRacks$Batches" "spread" "[I", Cond.static yX6_copy]
def wsX6_keep_r2 : List Cond := [Cond.initialized RX6, Cond.code yX6_copy cX6_copy 2 none, Cond.methodLink RX6 236 Lib.Math.min.name, Cond.static Lib.Math.min.name, Cond.initialized "java/lang/Math", Cond.code Lib.Math.min.name Lib.Math.min.code 2 (some .int), Cond.methodLink RX6 241 arraycopyName, Cond.native arraycopyName, Cond.static arraycopyName, Cond.initialized "java/lang/System", Cond.methodLink RX4 46 yX2_copyFrom, Cond.instanceMethod yX2_copyFrom, Cond.selects RX2 yX2_copyFrom yX2_copyFrom, Cond.initialized RX2, Cond.code yX2_copyFrom cX2_copyFrom 2 none, Cond.fieldLink RX2 9 "LampRacks$Lamps" "size" "I", Cond.fieldLink RX2 15 "LampRacks$Lamps" "batch" "[I", Cond.fieldLink RX2 19 "LampRacks$Lamps" "spot" "[I", Cond.fieldLink RX2 22 "LampRacks$Lamps" "canLast" "[I", Cond.fieldLink RX2 25 "LampRacks$Lamps" "wear" "[I", Cond.fieldLink RX2 28 "LampRacks$Lamps" "burned" "[I", Cond.fieldLink RX2 31 "LampRacks$Lamps" "end" "[I", Cond.methodLink RX4 49 yX3_copyFrom, Cond.instanceMethod yX3_copyFrom]
def wsX6_keep_r3 : List Cond := [Cond.selects RX3 yX3_copyFrom yX3_copyFrom, Cond.initialized RX3, Cond.code yX3_copyFrom cX3_copyFrom 2 none, Cond.fieldLink RX3 9 "LampRacks$Racks" "lampAt" "[I", Cond.fieldLink RX3 15 "LampRacks$Racks" "volts" "[I", Cond.fieldLink RX3 18 "LampRacks$Racks" "stepHours" "[I", Cond.fieldLink RX3 21 "LampRacks$Racks" "stepVolts" "[I", Cond.fieldLink RX3 24 "LampRacks$Racks" "hoursOfStep" "[I"]
def wsX6_keep : List Cond := .code yX6_keep cX6_keep 1 (some .int) :: ((wsX6_keep_r1 ++ (wsX6_keep_r2 ++ wsX6_keep_r3)) ++ wsX60 ++ wsX40 ++ wsX20 ++ wsX00 ++ wsX30)
def wsX6_restore_r1 : List Cond := [Cond.fieldLink RX6 25 "LampRacks" "hasSnapshot" "Z", Cond.fieldLink RX6 16 "LampRacks" "before" "LLampRacks$State;", Cond.fieldLink RX6 10 "LampRacks" "now" "LLampRacks$State;", Cond.fieldLink RX6 22 "LampRacks" "snapshot" "LLampRacks$State;", Cond.fieldLink RX6 127 "LampRacks$State" "lamps" "LLampRacks$Lamps;", Cond.fieldLink RX6 131 "LampRacks$Lamps" "size" "I", Cond.methodLink RX6 50 yX4_copyFrom, Cond.instanceMethod yX4_copyFrom, Cond.selects RX4 yX4_copyFrom yX4_copyFrom, Cond.initialized RX4, Cond.code yX4_copyFrom cX4_copyFrom 2 none, Cond.fieldLink RX4 9 "LampRacks$State" "hour" "I", Cond.fieldLink RX4 15 "LampRacks$State" "wantedVolts" "I", Cond.fieldLink RX4 18 "LampRacks$State" "doublingVolts" "I", Cond.fieldLink RX4 24 "LampRacks$State" "batches" "LLampRacks$Batches;", Cond.fieldLink RX4 31 "LampRacks$State" "lamps" "LLampRacks$Lamps;", Cond.fieldLink RX4 38 "LampRacks$State" "racks" "LLampRacks$Racks;", Cond.methodLink RX4 42 yX0_copyFrom, Cond.instanceMethod yX0_copyFrom, Cond.selects RX0 yX0_copyFrom yX0_copyFrom, Cond.initialized RX0, Cond.code yX0_copyFrom cX0_copyFrom 2 none, Cond.fieldLink RX0 9 "LampRacks$Batches" "life" "[I", Cond.fieldLink RX0 15 "LampRacks$Batches" "spread" "[I"]
def wsX6_restore_r2 : List Cond := [Cond.static yX6_copy, Cond.initialized RX6, Cond.code yX6_copy cX6_copy 2 none, Cond.methodLink RX6 236 Lib.Math.min.name, Cond.static Lib.Math.min.name, Cond.initialized "java/lang/Math", Cond.code Lib.Math.min.name Lib.Math.min.code 2 (some .int), Cond.methodLink RX6 241 arraycopyName, Cond.native arraycopyName, Cond.static arraycopyName, Cond.initialized "java/lang/System", Cond.methodLink RX4 46 yX2_copyFrom, Cond.instanceMethod yX2_copyFrom, Cond.selects RX2 yX2_copyFrom yX2_copyFrom, Cond.initialized RX2, Cond.code yX2_copyFrom cX2_copyFrom 2 none, Cond.fieldLink RX2 9 "LampRacks$Lamps" "size" "I", Cond.fieldLink RX2 15 "LampRacks$Lamps" "batch" "[I", Cond.fieldLink RX2 19 "LampRacks$Lamps" "spot" "[I", Cond.fieldLink RX2 22 "LampRacks$Lamps" "canLast" "[I", Cond.fieldLink RX2 25 "LampRacks$Lamps" "wear" "[I", Cond.fieldLink RX2 28 "LampRacks$Lamps" "burned" "[I", Cond.fieldLink RX2 31 "LampRacks$Lamps" "end" "[I", Cond.methodLink RX4 49 yX3_copyFrom]
def wsX6_restore_r3 : List Cond := [Cond.instanceMethod yX3_copyFrom, Cond.selects RX3 yX3_copyFrom yX3_copyFrom, Cond.initialized RX3, Cond.code yX3_copyFrom cX3_copyFrom 2 none, Cond.fieldLink RX3 9 "LampRacks$Racks" "lampAt" "[I", Cond.fieldLink RX3 15 "LampRacks$Racks" "volts" "[I", Cond.fieldLink RX3 18 "LampRacks$Racks" "stepHours" "[I", Cond.fieldLink RX3 21 "LampRacks$Racks" "stepVolts" "[I", Cond.fieldLink RX3 24 "LampRacks$Racks" "hoursOfStep" "[I", Cond.methodLink RX6 58 yX6_recorded, Cond.instanceMethod yX6_recorded, Cond.selects RX6 yX6_recorded yX6_recorded, Cond.code yX6_recorded cX6_recorded 2 (some .int), Cond.fieldLink RX6 32 "LampRacks" "history" "LLampRacks$History;", Cond.methodLink RX6 210 yX1_append, Cond.instanceMethod yX1_append, Cond.selects RX1 yX1_append yX1_append, Cond.initialized RX1, Cond.code yX1_append cX1_append 2 none, Cond.fieldLink RX1 9 "LampRacks$History" "size" "I", Cond.fieldLink RX1 17 "LampRacks$History" "states" "[LLampRacks$State;", Cond.methodLink RX1 22 yX1_dropOldest, Cond.instanceMethod yX1_dropOldest, Cond.selects RX1 yX1_dropOldest yX1_dropOldest]
def wsX6_restore_r4 : List Cond := [Cond.code yX1_dropOldest cX1_dropOldest 3 none, Cond.methodLink RX1 25 yX4_copyFrom]
def wsX6_restore : List Cond := .code yX6_restore cX6_restore 1 (some .int) :: ((wsX6_restore_r1 ++ (wsX6_restore_r2 ++ (wsX6_restore_r3 ++ wsX6_restore_r4))) ++ wsX60 ++ wsX40 ++ wsX20 ++ wsX00 ++ wsX30 ++ wsX10)
def wsX6_lamp_r1 : List Cond := [Cond.fieldLink RX6 10 "LampRacks" "now" "LLampRacks$State;", Cond.methodLink RX6 134 yX4_tellOfLamp, Cond.instanceMethod yX4_tellOfLamp, Cond.selects RX4 yX4_tellOfLamp yX4_tellOfLamp, Cond.initialized RX4, Cond.code yX4_tellOfLamp cX4_tellOfLamp 4 (some .int), Cond.fieldLink RX4 31 "LampRacks$State" "lamps" "LLampRacks$Lamps;", Cond.fieldLink RX4 92 "LampRacks$Lamps" "spot" "[I", Cond.fieldLink RX4 171 "LampRacks$Lamps" "batch" "[I", Cond.fieldLink RX4 174 "LampRacks$Lamps" "canLast" "[I", Cond.fieldLink RX4 177 "LampRacks$Lamps" "wear" "[I", Cond.fieldLink RX4 180 "LampRacks$Lamps" "burned" "[I", Cond.fieldLink RX4 165 "LampRacks$Lamps" "end" "[I", Cond.methodLink RX4 168 yX2_has, Cond.instanceMethod yX2_has, Cond.selects RX2 yX2_has yX2_has, Cond.initialized RX2, Cond.code yX2_has cX2_has 2 (some .boolean), Cond.fieldLink RX2 9 "LampRacks$Lamps" "size" "I", Cond.static yX6_isWithin, Cond.initialized RX6, Cond.code yX6_isWithin cX6_isWithin 3 (some .boolean), Cond.methodLink RX4 183 yX2_hoursCounted, Cond.instanceMethod yX2_hoursCounted]
def wsX6_lamp_r2 : List Cond := [Cond.selects RX2 yX2_hoursCounted yX2_hoursCounted, Cond.code yX2_hoursCounted cX2_hoursCounted 2 (some .int), Cond.fieldLink RX2 25 "LampRacks$Lamps" "wear" "[I", Cond.methodLink RX4 145 yX2_isDead, Cond.instanceMethod yX2_isDead, Cond.selects RX2 yX2_isDead yX2_isDead, Cond.code yX2_isDead cX2_isDead 2 (some .boolean), Cond.fieldLink RX2 31 "LampRacks$Lamps" "end" "[I", Cond.static yX6_oneIf, Cond.code yX6_oneIf cX6_oneIf 1 (some .int), Cond.static yX6_isWeak, Cond.code yX6_isWeak cX6_isWeak 1 (some .boolean), Cond.methodLink RX6 233 yX6_shareOf, Cond.static yX6_shareOf, Cond.code yX6_shareOf cX6_shareOf 1 (some .int)]
def wsX6_lamp : List Cond := .code yX6_lamp cX6_lamp 3 (some .int) :: ((wsX6_lamp_r1 ++ wsX6_lamp_r2) ++ wsX60 ++ wsX40 ++ wsX20)
def wsX6_rack_r1 : List Cond := [Cond.fieldLink RX6 10 "LampRacks" "now" "LLampRacks$State;", Cond.methodLink RX6 137 yX4_tellOfRack, Cond.instanceMethod yX4_tellOfRack, Cond.selects RX4 yX4_tellOfRack yX4_tellOfRack, Cond.initialized RX4, Cond.code yX4_tellOfRack cX4_tellOfRack 4 (some .int), Cond.fieldLink RX4 38 "LampRacks$State" "racks" "LLampRacks$Racks;", Cond.fieldLink RX4 101 "LampRacks$Racks" "volts" "[I", Cond.fieldLink RX4 104 "LampRacks$Racks" "stepHours" "[I", Cond.fieldLink RX4 107 "LampRacks$Racks" "stepVolts" "[I", Cond.static yX6_isRack, Cond.initialized RX6, Cond.code yX6_isRack cX6_isRack 1 (some .boolean), Cond.methodLink RX6 117 yX6_isWithin, Cond.static yX6_isWithin, Cond.code yX6_isWithin cX6_isWithin 3 (some .boolean), Cond.methodLink RX4 193 yX4_countInRack, Cond.instanceMethod yX4_countInRack, Cond.selects RX4 yX4_countInRack yX4_countInRack, Cond.code yX4_countInRack cX4_countInRack 6 (some .int), Cond.fieldLink RX4 75 "LampRacks$Racks" "lampAt" "[I", Cond.fieldLink RX4 31 "LampRacks$State" "lamps" "LLampRacks$Lamps;", Cond.static yX6_spotOf, Cond.code yX6_spotOf cX6_spotOf 2 (some .int)]
def wsX6_rack_r2 : List Cond := [Cond.methodLink RX4 145 yX2_isDead, Cond.instanceMethod yX2_isDead, Cond.selects RX2 yX2_isDead yX2_isDead, Cond.initialized RX2, Cond.code yX2_isDead cX2_isDead 2 (some .boolean), Cond.fieldLink RX2 31 "LampRacks$Lamps" "end" "[I", Cond.static yX6_oneIf, Cond.code yX6_oneIf cX6_oneIf 1 (some .int), Cond.methodLink RX4 142 yX3_isDark, Cond.instanceMethod yX3_isDark, Cond.selects RX3 yX3_isDark yX3_isDark, Cond.initialized RX3, Cond.code yX3_isDark cX3_isDark 2 (some .boolean), Cond.fieldLink RX3 15 "LampRacks$Racks" "volts" "[I", Cond.methodLink RX4 151 yX4_wearOfHour, Cond.instanceMethod yX4_wearOfHour, Cond.selects RX4 yX4_wearOfHour yX4_wearOfHour, Cond.code yX4_wearOfHour cX4_wearOfHour 5 (some .int), Cond.fieldLink RX4 15 "LampRacks$State" "wantedVolts" "I", Cond.fieldLink RX4 18 "LampRacks$State" "doublingVolts" "I", Cond.methodLink RX4 130 Lib.Math.max.name, Cond.static Lib.Math.max.name, Cond.initialized "java/lang/Math", Cond.code Lib.Math.max.name Lib.Math.max.code 2 (some .int)]
def wsX6_rack_r3 : List Cond := [Cond.methodLink RX4 196 yX3_hoursToStep, Cond.instanceMethod yX3_hoursToStep, Cond.selects RX3 yX3_hoursToStep yX3_hoursToStep, Cond.code yX3_hoursToStep cX3_hoursToStep 2 (some .int), Cond.fieldLink RX3 18 "LampRacks$Racks" "stepHours" "[I", Cond.fieldLink RX3 24 "LampRacks$Racks" "hoursOfStep" "[I"]
def wsX6_rack : List Cond := .code yX6_rack cX6_rack 3 (some .int) :: ((wsX6_rack_r1 ++ (wsX6_rack_r2 ++ wsX6_rack_r3)) ++ wsX60 ++ wsX40 ++ wsX30 ++ wsX20)
def wsX6_at : List Cond := .code yX6_at cX6_at 4 (some .int) :: ([.fieldLink RX6 10 "LampRacks" "now" "LLampRacks$State;", .fieldLink RX6 144 "LampRacks$State" "racks" "LLampRacks$Racks;", .fieldLink RX6 148 "LampRacks$Racks" "lampAt" "[I", .methodLink RX6 140 yX6_isPlace, .static yX6_isPlace, .initialized RX6, .code yX6_isPlace cX6_isPlace 2 (some .boolean), .methodLink RX6 230 yX6_isRack, .static yX6_isRack, .code yX6_isRack cX6_isRack 1 (some .boolean), .methodLink RX6 117 yX6_isWithin, .static yX6_isWithin, .code yX6_isWithin cX6_isWithin 3 (some .boolean), .methodLink RX6 154 yX6_spotOf, .static yX6_spotOf, .code yX6_spotOf cX6_spotOf 2 (some .int)] ++ wsX60 ++ wsX40 ++ wsX30)
def wsX6_batch_r1 : List Cond := [Cond.fieldLink RX6 10 "LampRacks" "now" "LLampRacks$State;", Cond.methodLink RX6 157 yX4_tellOfBatch, Cond.instanceMethod yX4_tellOfBatch, Cond.selects RX4 yX4_tellOfBatch yX4_tellOfBatch, Cond.initialized RX4, Cond.code yX4_tellOfBatch cX4_tellOfBatch 5 (some .int), Cond.fieldLink RX4 31 "LampRacks$State" "lamps" "LLampRacks$Lamps;", Cond.fieldLink RX4 24 "LampRacks$State" "batches" "LLampRacks$Batches;", Cond.fieldLink RX4 60 "LampRacks$Batches" "life" "[I", Cond.fieldLink RX4 64 "LampRacks$Batches" "spread" "[I", Cond.static yX6_isBatch, Cond.initialized RX6, Cond.code yX6_isBatch cX6_isBatch 1 (some .boolean), Cond.methodLink RX6 117 yX6_isWithin, Cond.static yX6_isWithin, Cond.code yX6_isWithin cX6_isWithin 3 (some .boolean), Cond.methodLink RX4 199 yX2_countDeadOf, Cond.instanceMethod yX2_countDeadOf, Cond.selects RX2 yX2_countDeadOf yX2_countDeadOf, Cond.initialized RX2, Cond.code yX2_countDeadOf cX2_countDeadOf 4 (some .int), Cond.fieldLink RX2 9 "LampRacks$Lamps" "size" "I", Cond.methodLink RX2 56 yX2_isDeadOf, Cond.instanceMethod yX2_isDeadOf]
def wsX6_batch_r2 : List Cond := [Cond.selects RX2 yX2_isDeadOf yX2_isDeadOf, Cond.code yX2_isDeadOf cX2_isDeadOf 3 (some .boolean), Cond.fieldLink RX2 15 "LampRacks$Lamps" "batch" "[I", Cond.methodLink RX2 42 yX2_isDead, Cond.instanceMethod yX2_isDead, Cond.selects RX2 yX2_isDead yX2_isDead, Cond.code yX2_isDead cX2_isDead 2 (some .boolean), Cond.fieldLink RX2 31 "LampRacks$Lamps" "end" "[I", Cond.static yX6_oneIf, Cond.code yX6_oneIf cX6_oneIf 1 (some .int), Cond.methodLink RX4 202 yX2_countDeadBelow, Cond.instanceMethod yX2_countDeadBelow, Cond.selects RX2 yX2_countDeadBelow yX2_countDeadBelow, Cond.code yX2_countDeadBelow cX2_countDeadBelow 5 (some .int), Cond.methodLink RX2 60 yX2_hoursCounted, Cond.instanceMethod yX2_hoursCounted, Cond.selects RX2 yX2_hoursCounted yX2_hoursCounted, Cond.code yX2_hoursCounted cX2_hoursCounted 2 (some .int), Cond.fieldLink RX2 25 "LampRacks$Lamps" "wear" "[I", Cond.methodLink RX4 205 yX2_countOf, Cond.instanceMethod yX2_countOf, Cond.selects RX2 yX2_countOf yX2_countOf, Cond.code yX2_countOf cX2_countOf 4 (some .int), Cond.methodLink RX4 208 yX2_middleLife]
def wsX6_batch_r3 : List Cond := [Cond.instanceMethod yX2_middleLife, Cond.selects RX2 yX2_middleLife yX2_middleLife, Cond.code yX2_middleLife cX2_middleLife 4 (some .int), Cond.methodLink RX2 73 yX2_countOf, Cond.methodLink RX2 76 yX2_countShorterOf, Cond.instanceMethod yX2_countShorterOf, Cond.selects RX2 yX2_countShorterOf yX2_countShorterOf, Cond.code yX2_countShorterOf cX2_countShorterOf 8 (some .int)]
def wsX6_batch : List Cond := .code yX6_batch cX6_batch 3 (some .int) :: ((wsX6_batch_r1 ++ (wsX6_batch_r2 ++ wsX6_batch_r3)) ++ wsX60 ++ wsX40 ++ wsX00 ++ wsX20)
def wsX6_lasted : List Cond := .code yX6_lasted cX6_lasted 3 (some .int) :: ([.constant RX6 163 (99999), .fieldLink RX6 10 "LampRacks" "now" "LLampRacks$State;", .fieldLink RX6 127 "LampRacks$State" "lamps" "LLampRacks$Lamps;", .methodLink RX6 160 yX6_isBatch, .static yX6_isBatch, .initialized RX6, .code yX6_isBatch cX6_isBatch 1 (some .boolean), .methodLink RX6 117 yX6_isWithin, .static yX6_isWithin, .code yX6_isWithin cX6_isWithin 3 (some .boolean), .methodLink RX6 164 yX2_countThatLasted, .instanceMethod yX2_countThatLasted, .selects RX2 yX2_countThatLasted yX2_countThatLasted, .initialized RX2, .code yX2_countThatLasted cX2_countThatLasted 5 (some .int), .fieldLink RX2 9 "LampRacks$Lamps" "size" "I", .fieldLink RX2 15 "LampRacks$Lamps" "batch" "[I", .methodLink RX2 60 yX2_hoursCounted, .instanceMethod yX2_hoursCounted, .selects RX2 yX2_hoursCounted yX2_hoursCounted, .code yX2_hoursCounted cX2_hoursCounted 2 (some .int), .fieldLink RX2 25 "LampRacks$Lamps" "wear" "[I", .static yX6_oneIf, .code yX6_oneIf cX6_oneIf 1 (some .int)] ++ wsX60 ++ wsX40 ++ wsX20)
def wsX6_ended : List Cond := .code yX6_ended cX6_ended 3 (some .int) :: ([.fieldLink RX6 10 "LampRacks" "now" "LLampRacks$State;", .fieldLink RX6 127 "LampRacks$State" "lamps" "LLampRacks$Lamps;", .methodLink RX6 167 yX2_findEnded, .instanceMethod yX2_findEnded, .selects RX2 yX2_findEnded yX2_findEnded, .initialized RX2, .code yX2_findEnded cX2_findEnded 3 (some .int), .fieldLink RX2 9 "LampRacks$Lamps" "size" "I", .methodLink RX2 42 yX2_isDead, .instanceMethod yX2_isDead, .selects RX2 yX2_isDead yX2_isDead, .code yX2_isDead cX2_isDead 2 (some .boolean), .fieldLink RX2 31 "LampRacks$Lamps" "end" "[I", .methodLink RX2 70 yX2_countEndedBefore, .instanceMethod yX2_countEndedBefore, .selects RX2 yX2_countEndedBefore yX2_countEndedBefore, .code yX2_countEndedBefore cX2_countEndedBefore 5 (some .int), .static yX6_oneIf, .initialized RX6, .code yX6_oneIf cX6_oneIf 1 (some .int)] ++ wsX60 ++ wsX40 ++ wsX20)
def wsX6_lasts_r1 : List Cond := [Cond.fieldLink RX6 10 "LampRacks" "now" "LLampRacks$State;", Cond.fieldLink RX6 127 "LampRacks$State" "lamps" "LLampRacks$Lamps;", Cond.fieldLink RX6 176 "LampRacks$Lamps" "spot" "[I", Cond.methodLink RX6 170 yX2_has, Cond.instanceMethod yX2_has, Cond.selects RX2 yX2_has yX2_has, Cond.initialized RX2, Cond.code yX2_has cX2_has 2 (some .boolean), Cond.fieldLink RX2 9 "LampRacks$Lamps" "size" "I", Cond.static yX6_isWithin, Cond.initialized RX6, Cond.code yX6_isWithin cX6_isWithin 3 (some .boolean), Cond.methodLink RX6 117 yX6_isWithin, Cond.methodLink RX6 173 yX2_isDead, Cond.instanceMethod yX2_isDead, Cond.selects RX2 yX2_isDead yX2_isDead, Cond.code yX2_isDead cX2_isDead 2 (some .boolean), Cond.fieldLink RX2 31 "LampRacks$Lamps" "end" "[I", Cond.methodLink RX6 179 yX6_isHot, Cond.static yX6_isHot, Cond.code yX6_isHot cX6_isHot 1 (some .boolean), Cond.methodLink RX6 182 yX4_wearOfHour, Cond.instanceMethod yX4_wearOfHour, Cond.selects RX4 yX4_wearOfHour yX4_wearOfHour]
def wsX6_lasts_r2 : List Cond := [Cond.initialized RX4, Cond.code yX4_wearOfHour cX4_wearOfHour 5 (some .int), Cond.fieldLink RX4 15 "LampRacks$State" "wantedVolts" "I", Cond.fieldLink RX4 18 "LampRacks$State" "doublingVolts" "I", Cond.methodLink RX4 130 Lib.Math.max.name, Cond.static Lib.Math.max.name, Cond.initialized "java/lang/Math", Cond.code Lib.Math.max.name Lib.Math.max.code 2 (some .int), Cond.methodLink RX6 186 yX2_hoursLeft, Cond.instanceMethod yX2_hoursLeft, Cond.selects RX2 yX2_hoursLeft yX2_hoursLeft, Cond.code yX2_hoursLeft cX2_hoursLeft 5 (some .int), Cond.methodLink RX2 46 Lib.Math.max.name, Cond.fieldLink RX2 22 "LampRacks$Lamps" "canLast" "[I", Cond.fieldLink RX2 25 "LampRacks$Lamps" "wear" "[I"]
def wsX6_lasts : List Cond := .code yX6_lasts cX6_lasts 4 (some .int) :: ((wsX6_lasts_r1 ++ wsX6_lasts_r2) ++ wsX60 ++ wsX40 ++ wsX20)
def wsX6_reason_r1 : List Cond := [Cond.fieldLink RX6 10 "LampRacks" "now" "LLampRacks$State;", Cond.fieldLink RX6 127 "LampRacks$State" "lamps" "LLampRacks$Lamps;", Cond.methodLink RX6 170 yX2_has, Cond.instanceMethod yX2_has, Cond.selects RX2 yX2_has yX2_has, Cond.initialized RX2, Cond.code yX2_has cX2_has 2 (some .boolean), Cond.fieldLink RX2 9 "LampRacks$Lamps" "size" "I", Cond.static yX6_isWithin, Cond.initialized RX6, Cond.code yX6_isWithin cX6_isWithin 3 (some .boolean), Cond.methodLink RX6 189 yX4_whyDark, Cond.instanceMethod yX4_whyDark, Cond.selects RX4 yX4_whyDark yX4_whyDark, Cond.initialized RX4, Cond.code yX4_whyDark cX4_whyDark 3 (some .int), Cond.fieldLink RX4 31 "LampRacks$State" "lamps" "LLampRacks$Lamps;", Cond.fieldLink RX4 92 "LampRacks$Lamps" "spot" "[I", Cond.fieldLink RX4 38 "LampRacks$State" "racks" "LLampRacks$Racks;", Cond.methodLink RX4 145 yX2_isDead, Cond.instanceMethod yX2_isDead, Cond.selects RX2 yX2_isDead yX2_isDead, Cond.code yX2_isDead cX2_isDead 2 (some .boolean), Cond.fieldLink RX2 31 "LampRacks$Lamps" "end" "[I"]
def wsX6_reason_r2 : List Cond := [Cond.methodLink RX4 142 yX3_isDark, Cond.instanceMethod yX3_isDark, Cond.selects RX3 yX3_isDark yX3_isDark, Cond.initialized RX3, Cond.code yX3_isDark cX3_isDark 2 (some .boolean), Cond.fieldLink RX3 15 "LampRacks$Racks" "volts" "[I"]
def wsX6_reason : List Cond := .code yX6_reason cX6_reason 2 (some .int) :: ((wsX6_reason_r1 ++ wsX6_reason_r2) ++ wsX60 ++ wsX40 ++ wsX20 ++ wsX30)
def wsX6_next_r1 : List Cond := [Cond.fieldLink RX6 19 "LampRacks" "ahead" "LLampRacks$State;", Cond.fieldLink RX6 10 "LampRacks" "now" "LLampRacks$State;", Cond.fieldLink RX6 127 "LampRacks$State" "lamps" "LLampRacks$Lamps;", Cond.fieldLink RX6 195 "LampRacks$State" "hour" "I", Cond.fieldLink RX6 201 "LampRacks$Lamps" "end" "[I", Cond.methodLink RX6 117 yX6_isWithin, Cond.static yX6_isWithin, Cond.initialized RX6, Cond.code yX6_isWithin cX6_isWithin 3 (some .boolean), Cond.methodLink RX6 50 yX4_copyFrom, Cond.instanceMethod yX4_copyFrom, Cond.selects RX4 yX4_copyFrom yX4_copyFrom, Cond.initialized RX4, Cond.code yX4_copyFrom cX4_copyFrom 2 none, Cond.fieldLink RX4 9 "LampRacks$State" "hour" "I", Cond.fieldLink RX4 15 "LampRacks$State" "wantedVolts" "I", Cond.fieldLink RX4 18 "LampRacks$State" "doublingVolts" "I", Cond.fieldLink RX4 24 "LampRacks$State" "batches" "LLampRacks$Batches;", Cond.fieldLink RX4 31 "LampRacks$State" "lamps" "LLampRacks$Lamps;", Cond.fieldLink RX4 38 "LampRacks$State" "racks" "LLampRacks$Racks;", Cond.methodLink RX4 42 yX0_copyFrom, Cond.instanceMethod yX0_copyFrom, Cond.selects RX0 yX0_copyFrom yX0_copyFrom, Cond.initialized RX0]
def wsX6_next_r2 : List Cond := [Cond.code yX0_copyFrom cX0_copyFrom 2 none, Cond.fieldLink RX0 9 "LampRacks$Batches" "life" "[I", Cond.fieldLink RX0 15 "LampRacks$Batches" "spread" "[I", Cond.static yX6_copy, Cond.code yX6_copy cX6_copy 2 none, Cond.methodLink RX6 236 Lib.Math.min.name, Cond.static Lib.Math.min.name, Cond.initialized "java/lang/Math", Cond.code Lib.Math.min.name Lib.Math.min.code 2 (some .int), Cond.methodLink RX6 241 arraycopyName, Cond.native arraycopyName, Cond.static arraycopyName, Cond.initialized "java/lang/System", Cond.methodLink RX4 46 yX2_copyFrom, Cond.instanceMethod yX2_copyFrom, Cond.selects RX2 yX2_copyFrom yX2_copyFrom, Cond.initialized RX2, Cond.code yX2_copyFrom cX2_copyFrom 2 none, Cond.fieldLink RX2 9 "LampRacks$Lamps" "size" "I", Cond.fieldLink RX2 15 "LampRacks$Lamps" "batch" "[I", Cond.fieldLink RX2 19 "LampRacks$Lamps" "spot" "[I", Cond.fieldLink RX2 22 "LampRacks$Lamps" "canLast" "[I", Cond.fieldLink RX2 25 "LampRacks$Lamps" "wear" "[I", Cond.fieldLink RX2 28 "LampRacks$Lamps" "burned" "[I"]
def wsX6_next_r3 : List Cond := [Cond.fieldLink RX2 31 "LampRacks$Lamps" "end" "[I", Cond.methodLink RX4 49 yX3_copyFrom, Cond.instanceMethod yX3_copyFrom, Cond.selects RX3 yX3_copyFrom yX3_copyFrom, Cond.initialized RX3, Cond.code yX3_copyFrom cX3_copyFrom 2 none, Cond.fieldLink RX3 9 "LampRacks$Racks" "lampAt" "[I", Cond.fieldLink RX3 15 "LampRacks$Racks" "volts" "[I", Cond.fieldLink RX3 18 "LampRacks$Racks" "stepHours" "[I", Cond.fieldLink RX3 21 "LampRacks$Racks" "stepVolts" "[I", Cond.fieldLink RX3 24 "LampRacks$Racks" "hoursOfStep" "[I", Cond.methodLink RX6 192 yX4_passHours, Cond.instanceMethod yX4_passHours, Cond.selects RX4 yX4_passHours yX4_passHours, Cond.code yX4_passHours cX4_passHours 4 (some .int), Cond.methodLink RX4 124 yX4_passHoursOfRack, Cond.instanceMethod yX4_passHoursOfRack, Cond.selects RX4 yX4_passHoursOfRack yX4_passHoursOfRack, Cond.code yX4_passHoursOfRack cX4_passHoursOfRack 6 (some .int), Cond.methodLink RX4 130 Lib.Math.max.name, Cond.static Lib.Math.max.name, Cond.code Lib.Math.max.name Lib.Math.max.code 2 (some .int), Cond.methodLink RX4 127 yX3_hoursAtSameVolts, Cond.instanceMethod yX3_hoursAtSameVolts]
def wsX6_next_r4 : List Cond := [Cond.selects RX3 yX3_hoursAtSameVolts yX3_hoursAtSameVolts, Cond.code yX3_hoursAtSameVolts cX3_hoursAtSameVolts 3 (some .int), Cond.methodLink RX3 37 Lib.Math.min.name, Cond.methodLink RX3 46 yX3_voltsAfterStep, Cond.instanceMethod yX3_voltsAfterStep, Cond.selects RX3 yX3_voltsAfterStep yX3_voltsAfterStep, Cond.code yX3_voltsAfterStep cX3_voltsAfterStep 2 (some .int), Cond.methodLink RX3 43 Lib.Math.max.name, Cond.methodLink RX3 50 yX3_hoursToStep, Cond.instanceMethod yX3_hoursToStep, Cond.selects RX3 yX3_hoursToStep yX3_hoursToStep, Cond.code yX3_hoursToStep cX3_hoursToStep 2 (some .int), Cond.methodLink RX4 135 yX4_burnRack, Cond.instanceMethod yX4_burnRack, Cond.selects RX4 yX4_burnRack yX4_burnRack, Cond.code yX4_burnRack cX4_burnRack 10 (some .int), Cond.fieldLink RX4 75 "LampRacks$Racks" "lampAt" "[I", Cond.fieldLink RX4 101 "LampRacks$Racks" "volts" "[I", Cond.methodLink RX4 158 Lib.Math.min.name, Cond.fieldLink RX4 165 "LampRacks$Lamps" "end" "[I", Cond.methodLink RX4 142 yX3_isDark, Cond.instanceMethod yX3_isDark, Cond.selects RX3 yX3_isDark yX3_isDark, Cond.code yX3_isDark cX3_isDark 2 (some .boolean)]
def wsX6_next_r5 : List Cond := [Cond.static yX6_spotOf, Cond.code yX6_spotOf cX6_spotOf 2 (some .int), Cond.methodLink RX4 145 yX2_isDead, Cond.instanceMethod yX2_isDead, Cond.selects RX2 yX2_isDead yX2_isDead, Cond.code yX2_isDead cX2_isDead 2 (some .boolean), Cond.static yX6_isHot, Cond.code yX6_isHot cX6_isHot 1 (some .boolean), Cond.methodLink RX4 151 yX4_wearOfHour, Cond.instanceMethod yX4_wearOfHour, Cond.selects RX4 yX4_wearOfHour yX4_wearOfHour, Cond.code yX4_wearOfHour cX4_wearOfHour 5 (some .int), Cond.methodLink RX4 155 yX2_hoursLeft, Cond.instanceMethod yX2_hoursLeft, Cond.selects RX2 yX2_hoursLeft yX2_hoursLeft, Cond.code yX2_hoursLeft cX2_hoursLeft 5 (some .int), Cond.methodLink RX2 46 Lib.Math.max.name, Cond.methodLink RX4 161 yX2_burn, Cond.instanceMethod yX2_burn, Cond.selects RX2 yX2_burn yX2_burn, Cond.code yX2_burn cX2_burn 4 none, Cond.methodLink RX4 138 yX3_countHours, Cond.instanceMethod yX3_countHours, Cond.selects RX3 yX3_countHours yX3_countHours]
def wsX6_next_r6 : List Cond := [Cond.code yX3_countHours cX3_countHours 5 none, Cond.methodLink RX6 198 yX2_findFirstEndedAfter, Cond.instanceMethod yX2_findFirstEndedAfter, Cond.selects RX2 yX2_findFirstEndedAfter yX2_findFirstEndedAfter, Cond.code yX2_findFirstEndedAfter cX2_findFirstEndedAfter 4 (some .int)]
def wsX6_next : List Cond := .code yX6_next cX6_next 3 (some .int) :: ((wsX6_next_r1 ++ (wsX6_next_r2 ++ (wsX6_next_r3 ++ (wsX6_next_r4 ++ (wsX6_next_r5 ++ wsX6_next_r6))))) ++ wsX60 ++ wsX40 ++ wsX20 ++ wsX00 ++ wsX30)
def wsX6_count_r1 : List Cond := [Cond.fieldLink RX6 32 "LampRacks" "history" "LLampRacks$History;", Cond.fieldLink RX6 121 "LampRacks$History" "size" "I", Cond.fieldLink RX6 39 "LampRacks" "text" "LLampRacks$Text;", Cond.fieldLink RX6 204 "LampRacks$Text" "length" "I", Cond.fieldLink RX6 10 "LampRacks" "now" "LLampRacks$State;", Cond.methodLink RX6 207 yX4_tellOfAll, Cond.instanceMethod yX4_tellOfAll, Cond.selects RX4 yX4_tellOfAll yX4_tellOfAll, Cond.initialized RX4, Cond.code yX4_tellOfAll cX4_tellOfAll 2 (some .int), Cond.fieldLink RX4 9 "LampRacks$State" "hour" "I", Cond.fieldLink RX4 31 "LampRacks$State" "lamps" "LLampRacks$Lamps;", Cond.fieldLink RX4 82 "LampRacks$Lamps" "size" "I", Cond.fieldLink RX4 180 "LampRacks$Lamps" "burned" "[I", Cond.fieldLink RX4 177 "LampRacks$Lamps" "wear" "[I", Cond.fieldLink RX4 15 "LampRacks$State" "wantedVolts" "I", Cond.fieldLink RX4 18 "LampRacks$State" "doublingVolts" "I", Cond.methodLink RX4 211 yX2_countInRacks, Cond.instanceMethod yX2_countInRacks, Cond.selects RX2 yX2_countInRacks yX2_countInRacks, Cond.initialized RX2, Cond.code yX2_countInRacks cX2_countInRacks 3 (some .int), Cond.fieldLink RX2 9 "LampRacks$Lamps" "size" "I", Cond.fieldLink RX2 19 "LampRacks$Lamps" "spot" "[I"]
def wsX6_count_r2 : List Cond := [Cond.static yX6_oneIf, Cond.initialized RX6, Cond.code yX6_oneIf cX6_oneIf 1 (some .int), Cond.methodLink RX4 215 yX4_countBurning, Cond.instanceMethod yX4_countBurning, Cond.selects RX4 yX4_countBurning yX4_countBurning, Cond.code yX4_countBurning cX4_countBurning 3 (some .int), Cond.methodLink RX4 228 yX4_whyDark, Cond.instanceMethod yX4_whyDark, Cond.selects RX4 yX4_whyDark yX4_whyDark, Cond.code yX4_whyDark cX4_whyDark 3 (some .int), Cond.fieldLink RX4 92 "LampRacks$Lamps" "spot" "[I", Cond.fieldLink RX4 38 "LampRacks$State" "racks" "LLampRacks$Racks;", Cond.methodLink RX4 145 yX2_isDead, Cond.instanceMethod yX2_isDead, Cond.selects RX2 yX2_isDead yX2_isDead, Cond.code yX2_isDead cX2_isDead 2 (some .boolean), Cond.fieldLink RX2 31 "LampRacks$Lamps" "end" "[I", Cond.methodLink RX4 142 yX3_isDark, Cond.instanceMethod yX3_isDark, Cond.selects RX3 yX3_isDark yX3_isDark, Cond.initialized RX3, Cond.code yX3_isDark cX3_isDark 2 (some .boolean), Cond.fieldLink RX3 15 "LampRacks$Racks" "volts" "[I"]
def wsX6_count_r3 : List Cond := [Cond.methodLink RX4 218 yX2_countDead, Cond.instanceMethod yX2_countDead, Cond.selects RX2 yX2_countDead yX2_countDead, Cond.code yX2_countDead cX2_countDead 3 (some .int), Cond.methodLink RX2 42 yX2_isDead, Cond.methodLink RX4 221 yX2_countWeak, Cond.instanceMethod yX2_countWeak, Cond.selects RX2 yX2_countWeak yX2_countWeak, Cond.code yX2_countWeak cX2_countWeak 3 (some .int), Cond.static yX6_isWeak, Cond.code yX6_isWeak cX6_isWeak 1 (some .boolean), Cond.methodLink RX6 233 yX6_shareOf, Cond.static yX6_shareOf, Cond.code yX6_shareOf cX6_shareOf 1 (some .int), Cond.methodLink RX4 224 yX2_sumOf, Cond.instanceMethod yX2_sumOf, Cond.selects RX2 yX2_sumOf yX2_sumOf, Cond.code yX2_sumOf cX2_sumOf 4 (some .int), Cond.methodLink RX2 67 Lib.Math.min.name, Cond.static Lib.Math.min.name, Cond.initialized "java/lang/Math", Cond.code Lib.Math.min.name Lib.Math.min.code 2 (some .int)]
def wsX6_count : List Cond := .code yX6_count cX6_count 2 (some .int) :: ((wsX6_count_r1 ++ (wsX6_count_r2 ++ wsX6_count_r3)) ++ wsX60 ++ wsX10 ++ wsX50 ++ wsX40 ++ wsX20 ++ wsX30)
def wsX7_init : List Cond := .code yX7_init cX7_init 2 none :: ([.methodLink RX7 1 objectInit, .instanceMethod objectInit, .code objectInit ⟨#[0xb1]⟩ 1 none, .arrayClass .int, .fieldLink RX7 7 "LampRacksModel" "z" "[I", .fieldLink RX7 13 "LampRacksModel" "spare" "[I", .fieldLink RX7 16 "LampRacksModel" "past" "[I", .fieldLink RX7 19 "LampRacksModel" "kept" "[I", .fieldLink RX7 22 "LampRacksModel" "text" "[I", .fieldLink RX7 25 "LampRacksModel" "told" "[I"] ++ wsX70)
def wsX7_in : List Cond := .code yX7_in cX7_in 3 (some .boolean) :: ([])
def wsX7_isRack : List Cond := .code yX7_isRack cX7_isRack 1 (some .boolean) :: ([.methodLink RX7 28 yX7_in, .static yX7_in, .initialized RX7, .code yX7_in cX7_in 3 (some .boolean)])
def wsX7_isPlace : List Cond := .code yX7_isPlace cX7_isPlace 1 (some .boolean) :: ([.methodLink RX7 28 yX7_in, .static yX7_in, .initialized RX7, .code yX7_in cX7_in 3 (some .boolean)])
def wsX7_isBatch : List Cond := .code yX7_isBatch cX7_isBatch 1 (some .boolean) :: ([.methodLink RX7 28 yX7_in, .static yX7_in, .initialized RX7, .code yX7_in cX7_in 3 (some .boolean)])
def wsX7_isLamp : List Cond := .code yX7_isLamp cX7_isLamp 2 (some .boolean) :: ([.fieldLink RX7 7 "LampRacksModel" "z" "[I", .methodLink RX7 28 yX7_in, .static yX7_in, .initialized RX7, .code yX7_in cX7_in 3 (some .boolean)] ++ wsX70)
def wsX7_of : List Cond := .code yX7_of cX7_of 3 (some .int) :: ([.fieldLink RX7 7 "LampRacksModel" "z" "[I"] ++ wsX70)
def wsX7_lay : List Cond := .code yX7_lay cX7_lay 4 none :: ([.fieldLink RX7 7 "LampRacksModel" "z" "[I"] ++ wsX70)
def wsX7_ofRack : List Cond := .code yX7_ofRack cX7_ofRack 3 (some .int) :: ([.fieldLink RX7 7 "LampRacksModel" "z" "[I"] ++ wsX70)
def wsX7_isDead : List Cond := .code yX7_isDead cX7_isDead 2 (some .boolean) :: ([.methodLink RX7 32 yX7_of, .instanceMethod yX7_of, .selects RX7 yX7_of yX7_of, .initialized RX7, .code yX7_of cX7_of 3 (some .int), .fieldLink RX7 7 "LampRacksModel" "z" "[I"] ++ wsX70)
def wsX7_lampAt : List Cond := .code yX7_lampAt cX7_lampAt 5 (some .int) :: ([.fieldLink RX7 7 "LampRacksModel" "z" "[I", .methodLink RX7 32 yX7_of, .instanceMethod yX7_of, .selects RX7 yX7_of yX7_of, .initialized RX7, .code yX7_of cX7_of 3 (some .int)] ++ wsX70)
def wsX7_copyState : List Cond := .code yX7_copyState cX7_copyState 5 none :: ([])
def wsX7_recordRow : List Cond := .code yX7_recordRow cX7_recordRow 3 none :: ([.fieldLink RX7 36 "LampRacksModel" "states" "I", .fieldLink RX7 16 "LampRacksModel" "past" "[I", .methodLink RX7 40 yX7_copyState, .static yX7_copyState, .initialized RX7, .code yX7_copyState cX7_copyState 5 none] ++ wsX70)
def wsX7_record : List Cond := .code yX7_record cX7_record 1 none :: ([.fieldLink RX7 7 "LampRacksModel" "z" "[I", .methodLink RX7 44 yX7_recordRow, .instanceMethod yX7_recordRow, .selects RX7 yX7_recordRow yX7_recordRow, .initialized RX7, .code yX7_recordRow cX7_recordRow 3 none, .fieldLink RX7 36 "LampRacksModel" "states" "I", .fieldLink RX7 16 "LampRacksModel" "past" "[I", .methodLink RX7 40 yX7_copyState, .static yX7_copyState, .code yX7_copyState cX7_copyState 5 none] ++ wsX70)
def wsX7_undo : List Cond := .code yX7_undo cX7_undo 1 (some .int) :: ([.fieldLink RX7 36 "LampRacksModel" "states" "I", .fieldLink RX7 16 "LampRacksModel" "past" "[I", .fieldLink RX7 7 "LampRacksModel" "z" "[I", .methodLink RX7 40 yX7_copyState, .static yX7_copyState, .initialized RX7, .code yX7_copyState cX7_copyState 5 none] ++ wsX70)
def wsX7_keep : List Cond := .code yX7_keep cX7_keep 1 (some .int) :: ([.fieldLink RX7 7 "LampRacksModel" "z" "[I", .fieldLink RX7 19 "LampRacksModel" "kept" "[I", .fieldLink RX7 48 "LampRacksModel" "isKept" "Z", .methodLink RX7 40 yX7_copyState, .static yX7_copyState, .initialized RX7, .code yX7_copyState cX7_copyState 5 none] ++ wsX70)
def wsX7_restore : List Cond := .code yX7_restore cX7_restore 1 (some .int) :: ([.fieldLink RX7 48 "LampRacksModel" "isKept" "Z", .fieldLink RX7 19 "LampRacksModel" "kept" "[I", .fieldLink RX7 7 "LampRacksModel" "z" "[I", .methodLink RX7 52 yX7_record, .instanceMethod yX7_record, .selects RX7 yX7_record yX7_record, .initialized RX7, .code yX7_record cX7_record 1 none, .methodLink RX7 44 yX7_recordRow, .instanceMethod yX7_recordRow, .selects RX7 yX7_recordRow yX7_recordRow, .code yX7_recordRow cX7_recordRow 3 none, .fieldLink RX7 36 "LampRacksModel" "states" "I", .fieldLink RX7 16 "LampRacksModel" "past" "[I", .methodLink RX7 40 yX7_copyState, .static yX7_copyState, .code yX7_copyState cX7_copyState 5 none] ++ wsX70)
def wsX7_setBatch : List Cond := .code yX7_setBatch cX7_setBatch 6 (some .int) :: ([.fieldLink RX7 7 "LampRacksModel" "z" "[I", .methodLink RX7 55 yX7_isBatch, .static yX7_isBatch, .initialized RX7, .code yX7_isBatch cX7_isBatch 1 (some .boolean), .methodLink RX7 28 yX7_in, .static yX7_in, .code yX7_in cX7_in 3 (some .boolean), .methodLink RX7 52 yX7_record, .instanceMethod yX7_record, .selects RX7 yX7_record yX7_record, .code yX7_record cX7_record 1 none, .methodLink RX7 44 yX7_recordRow, .instanceMethod yX7_recordRow, .selects RX7 yX7_recordRow yX7_recordRow, .code yX7_recordRow cX7_recordRow 3 none, .fieldLink RX7 36 "LampRacksModel" "states" "I", .fieldLink RX7 16 "LampRacksModel" "past" "[I", .methodLink RX7 40 yX7_copyState, .static yX7_copyState, .code yX7_copyState cX7_copyState 5 none] ++ wsX70)
def wsX7_whyNotPut : List Cond := .code yX7_whyNotPut cX7_whyNotPut 4 (some .int) :: ([.fieldLink RX7 7 "LampRacksModel" "z" "[I", .methodLink RX7 59 yX7_isRack, .static yX7_isRack, .initialized RX7, .code yX7_isRack cX7_isRack 1 (some .boolean), .methodLink RX7 28 yX7_in, .static yX7_in, .code yX7_in cX7_in 3 (some .boolean), .methodLink RX7 62 yX7_isPlace, .static yX7_isPlace, .code yX7_isPlace cX7_isPlace 1 (some .boolean), .methodLink RX7 55 yX7_isBatch, .static yX7_isBatch, .code yX7_isBatch cX7_isBatch 1 (some .boolean), .methodLink RX7 65 yX7_lampAt, .instanceMethod yX7_lampAt, .selects RX7 yX7_lampAt yX7_lampAt, .code yX7_lampAt cX7_lampAt 5 (some .int), .methodLink RX7 32 yX7_of, .instanceMethod yX7_of, .selects RX7 yX7_of yX7_of, .code yX7_of cX7_of 3 (some .int)] ++ wsX70)
def wsX7_putNow : List Cond := .code yX7_putNow cX7_putNow 8 (some .int) :: ([.fieldLink RX7 7 "LampRacksModel" "z" "[I", .methodLink RX7 68 yX7_lay, .instanceMethod yX7_lay, .selects RX7 yX7_lay yX7_lay, .initialized RX7, .code yX7_lay cX7_lay 4 none] ++ wsX70)
def wsX7_put_r1 : List Cond := [Cond.methodLink RX7 72 yX7_whyNotPut, Cond.instanceMethod yX7_whyNotPut, Cond.selects RX7 yX7_whyNotPut yX7_whyNotPut, Cond.initialized RX7, Cond.code yX7_whyNotPut cX7_whyNotPut 4 (some .int), Cond.fieldLink RX7 7 "LampRacksModel" "z" "[I", Cond.methodLink RX7 59 yX7_isRack, Cond.static yX7_isRack, Cond.code yX7_isRack cX7_isRack 1 (some .boolean), Cond.methodLink RX7 28 yX7_in, Cond.static yX7_in, Cond.code yX7_in cX7_in 3 (some .boolean), Cond.methodLink RX7 62 yX7_isPlace, Cond.static yX7_isPlace, Cond.code yX7_isPlace cX7_isPlace 1 (some .boolean), Cond.methodLink RX7 55 yX7_isBatch, Cond.static yX7_isBatch, Cond.code yX7_isBatch cX7_isBatch 1 (some .boolean), Cond.methodLink RX7 65 yX7_lampAt, Cond.instanceMethod yX7_lampAt, Cond.selects RX7 yX7_lampAt yX7_lampAt, Cond.code yX7_lampAt cX7_lampAt 5 (some .int), Cond.methodLink RX7 32 yX7_of, Cond.instanceMethod yX7_of]
def wsX7_put_r2 : List Cond := [Cond.selects RX7 yX7_of yX7_of, Cond.code yX7_of cX7_of 3 (some .int), Cond.methodLink RX7 52 yX7_record, Cond.instanceMethod yX7_record, Cond.selects RX7 yX7_record yX7_record, Cond.code yX7_record cX7_record 1 none, Cond.methodLink RX7 44 yX7_recordRow, Cond.instanceMethod yX7_recordRow, Cond.selects RX7 yX7_recordRow yX7_recordRow, Cond.code yX7_recordRow cX7_recordRow 3 none, Cond.fieldLink RX7 36 "LampRacksModel" "states" "I", Cond.fieldLink RX7 16 "LampRacksModel" "past" "[I", Cond.methodLink RX7 40 yX7_copyState, Cond.static yX7_copyState, Cond.code yX7_copyState cX7_copyState 5 none, Cond.methodLink RX7 76 yX7_putNow, Cond.instanceMethod yX7_putNow, Cond.selects RX7 yX7_putNow yX7_putNow, Cond.code yX7_putNow cX7_putNow 8 (some .int), Cond.methodLink RX7 68 yX7_lay, Cond.instanceMethod yX7_lay, Cond.selects RX7 yX7_lay yX7_lay, Cond.code yX7_lay cX7_lay 4 none]
def wsX7_put : List Cond := .code yX7_put cX7_put 5 (some .int) :: ((wsX7_put_r1 ++ wsX7_put_r2) ++ wsX70)
def wsX7_moveTo : List Cond := .code yX7_moveTo cX7_moveTo 4 none :: ([.methodLink RX7 68 yX7_lay, .instanceMethod yX7_lay, .selects RX7 yX7_lay yX7_lay, .initialized RX7, .code yX7_lay cX7_lay 4 none, .fieldLink RX7 7 "LampRacksModel" "z" "[I"] ++ wsX70)
def wsX7_takeOut_r1 : List Cond := [Cond.methodLink RX7 59 yX7_isRack, Cond.static yX7_isRack, Cond.initialized RX7, Cond.code yX7_isRack cX7_isRack 1 (some .boolean), Cond.methodLink RX7 28 yX7_in, Cond.static yX7_in, Cond.code yX7_in cX7_in 3 (some .boolean), Cond.methodLink RX7 62 yX7_isPlace, Cond.static yX7_isPlace, Cond.code yX7_isPlace cX7_isPlace 1 (some .boolean), Cond.methodLink RX7 65 yX7_lampAt, Cond.instanceMethod yX7_lampAt, Cond.selects RX7 yX7_lampAt yX7_lampAt, Cond.code yX7_lampAt cX7_lampAt 5 (some .int), Cond.fieldLink RX7 7 "LampRacksModel" "z" "[I", Cond.methodLink RX7 32 yX7_of, Cond.instanceMethod yX7_of, Cond.selects RX7 yX7_of yX7_of, Cond.code yX7_of cX7_of 3 (some .int), Cond.methodLink RX7 52 yX7_record, Cond.instanceMethod yX7_record, Cond.selects RX7 yX7_record yX7_record, Cond.code yX7_record cX7_record 1 none, Cond.methodLink RX7 44 yX7_recordRow]
def wsX7_takeOut_r2 : List Cond := [Cond.instanceMethod yX7_recordRow, Cond.selects RX7 yX7_recordRow yX7_recordRow, Cond.code yX7_recordRow cX7_recordRow 3 none, Cond.fieldLink RX7 36 "LampRacksModel" "states" "I", Cond.fieldLink RX7 16 "LampRacksModel" "past" "[I", Cond.methodLink RX7 40 yX7_copyState, Cond.static yX7_copyState, Cond.code yX7_copyState cX7_copyState 5 none, Cond.methodLink RX7 79 yX7_moveTo, Cond.instanceMethod yX7_moveTo, Cond.selects RX7 yX7_moveTo yX7_moveTo, Cond.code yX7_moveTo cX7_moveTo 4 none, Cond.methodLink RX7 68 yX7_lay, Cond.instanceMethod yX7_lay, Cond.selects RX7 yX7_lay yX7_lay, Cond.code yX7_lay cX7_lay 4 none]
def wsX7_takeOut : List Cond := .code yX7_takeOut cX7_takeOut 4 (some .int) :: ((wsX7_takeOut_r1 ++ wsX7_takeOut_r2) ++ wsX70)
def wsX7_swap_r1 : List Cond := [Cond.methodLink RX7 59 yX7_isRack, Cond.static yX7_isRack, Cond.initialized RX7, Cond.code yX7_isRack cX7_isRack 1 (some .boolean), Cond.methodLink RX7 28 yX7_in, Cond.static yX7_in, Cond.code yX7_in cX7_in 3 (some .boolean), Cond.methodLink RX7 62 yX7_isPlace, Cond.static yX7_isPlace, Cond.code yX7_isPlace cX7_isPlace 1 (some .boolean), Cond.methodLink RX7 65 yX7_lampAt, Cond.instanceMethod yX7_lampAt, Cond.selects RX7 yX7_lampAt yX7_lampAt, Cond.code yX7_lampAt cX7_lampAt 5 (some .int), Cond.fieldLink RX7 7 "LampRacksModel" "z" "[I", Cond.methodLink RX7 32 yX7_of, Cond.instanceMethod yX7_of, Cond.selects RX7 yX7_of yX7_of, Cond.code yX7_of cX7_of 3 (some .int), Cond.methodLink RX7 52 yX7_record, Cond.instanceMethod yX7_record, Cond.selects RX7 yX7_record yX7_record, Cond.code yX7_record cX7_record 1 none, Cond.methodLink RX7 44 yX7_recordRow]
def wsX7_swap_r2 : List Cond := [Cond.instanceMethod yX7_recordRow, Cond.selects RX7 yX7_recordRow yX7_recordRow, Cond.code yX7_recordRow cX7_recordRow 3 none, Cond.fieldLink RX7 36 "LampRacksModel" "states" "I", Cond.fieldLink RX7 16 "LampRacksModel" "past" "[I", Cond.methodLink RX7 40 yX7_copyState, Cond.static yX7_copyState, Cond.code yX7_copyState cX7_copyState 5 none, Cond.methodLink RX7 79 yX7_moveTo, Cond.instanceMethod yX7_moveTo, Cond.selects RX7 yX7_moveTo yX7_moveTo, Cond.code yX7_moveTo cX7_moveTo 4 none, Cond.methodLink RX7 68 yX7_lay, Cond.instanceMethod yX7_lay, Cond.selects RX7 yX7_lay yX7_lay, Cond.code yX7_lay cX7_lay 4 none]
def wsX7_swap : List Cond := .code yX7_swap cX7_swap 8 (some .int) :: ((wsX7_swap_r1 ++ wsX7_swap_r2) ++ wsX70)
def wsX7_whyNotVolts : List Cond := .code yX7_whyNotVolts cX7_whyNotVolts 3 (some .int) :: ([.methodLink RX7 59 yX7_isRack, .static yX7_isRack, .initialized RX7, .code yX7_isRack cX7_isRack 1 (some .boolean), .methodLink RX7 28 yX7_in, .static yX7_in, .code yX7_in cX7_in 3 (some .boolean)])
def wsX7_setVolts_r1 : List Cond := [Cond.fieldLink RX7 7 "LampRacksModel" "z" "[I", Cond.methodLink RX7 82 yX7_whyNotVolts, Cond.instanceMethod yX7_whyNotVolts, Cond.selects RX7 yX7_whyNotVolts yX7_whyNotVolts, Cond.initialized RX7, Cond.code yX7_whyNotVolts cX7_whyNotVolts 3 (some .int), Cond.methodLink RX7 59 yX7_isRack, Cond.static yX7_isRack, Cond.code yX7_isRack cX7_isRack 1 (some .boolean), Cond.methodLink RX7 28 yX7_in, Cond.static yX7_in, Cond.code yX7_in cX7_in 3 (some .boolean), Cond.methodLink RX7 85 yX7_ofRack, Cond.instanceMethod yX7_ofRack, Cond.selects RX7 yX7_ofRack yX7_ofRack, Cond.code yX7_ofRack cX7_ofRack 3 (some .int), Cond.methodLink RX7 52 yX7_record, Cond.instanceMethod yX7_record, Cond.selects RX7 yX7_record yX7_record, Cond.code yX7_record cX7_record 1 none, Cond.methodLink RX7 44 yX7_recordRow, Cond.instanceMethod yX7_recordRow, Cond.selects RX7 yX7_recordRow yX7_recordRow, Cond.code yX7_recordRow cX7_recordRow 3 none]
def wsX7_setVolts_r2 : List Cond := [Cond.fieldLink RX7 36 "LampRacksModel" "states" "I", Cond.fieldLink RX7 16 "LampRacksModel" "past" "[I", Cond.methodLink RX7 40 yX7_copyState, Cond.static yX7_copyState, Cond.code yX7_copyState cX7_copyState 5 none]
def wsX7_setVolts : List Cond := .code yX7_setVolts cX7_setVolts 5 (some .int) :: ((wsX7_setVolts_r1 ++ wsX7_setVolts_r2) ++ wsX70)
def wsX7_stepsNow : List Cond := .code yX7_stepsNow cX7_stepsNow 5 none :: ([.fieldLink RX7 7 "LampRacksModel" "z" "[I"] ++ wsX70)
def wsX7_setSteps_r1 : List Cond := [Cond.methodLink RX7 59 yX7_isRack, Cond.static yX7_isRack, Cond.initialized RX7, Cond.code yX7_isRack cX7_isRack 1 (some .boolean), Cond.methodLink RX7 28 yX7_in, Cond.static yX7_in, Cond.code yX7_in cX7_in 3 (some .boolean), Cond.methodLink RX7 52 yX7_record, Cond.instanceMethod yX7_record, Cond.selects RX7 yX7_record yX7_record, Cond.code yX7_record cX7_record 1 none, Cond.fieldLink RX7 7 "LampRacksModel" "z" "[I", Cond.methodLink RX7 44 yX7_recordRow, Cond.instanceMethod yX7_recordRow, Cond.selects RX7 yX7_recordRow yX7_recordRow, Cond.code yX7_recordRow cX7_recordRow 3 none, Cond.fieldLink RX7 36 "LampRacksModel" "states" "I", Cond.fieldLink RX7 16 "LampRacksModel" "past" "[I", Cond.methodLink RX7 40 yX7_copyState, Cond.static yX7_copyState, Cond.code yX7_copyState cX7_copyState 5 none, Cond.methodLink RX7 85 yX7_ofRack, Cond.instanceMethod yX7_ofRack, Cond.selects RX7 yX7_ofRack yX7_ofRack]
def wsX7_setSteps_r2 : List Cond := [Cond.code yX7_ofRack cX7_ofRack 3 (some .int), Cond.methodLink RX7 88 yX7_stepsNow, Cond.instanceMethod yX7_stepsNow, Cond.selects RX7 yX7_stepsNow yX7_stepsNow, Cond.code yX7_stepsNow cX7_stepsNow 5 none]
def wsX7_setSteps : List Cond := .code yX7_setSteps cX7_setSteps 5 (some .int) :: ((wsX7_setSteps_r1 ++ wsX7_setSteps_r2) ++ wsX70)
def wsX7_set : List Cond := .code yX7_set cX7_set 4 (some .int) :: ([.fieldLink RX7 7 "LampRacksModel" "z" "[I", .methodLink RX7 28 yX7_in, .static yX7_in, .initialized RX7, .code yX7_in cX7_in 3 (some .boolean), .methodLink RX7 52 yX7_record, .instanceMethod yX7_record, .selects RX7 yX7_record yX7_record, .code yX7_record cX7_record 1 none, .methodLink RX7 44 yX7_recordRow, .instanceMethod yX7_recordRow, .selects RX7 yX7_recordRow yX7_recordRow, .code yX7_recordRow cX7_recordRow 3 none, .fieldLink RX7 36 "LampRacksModel" "states" "I", .fieldLink RX7 16 "LampRacksModel" "past" "[I", .methodLink RX7 40 yX7_copyState, .static yX7_copyState, .code yX7_copyState cX7_copyState 5 none] ++ wsX70)
def wsX7_wearAt : List Cond := .code yX7_wearAt cX7_wearAt 4 (some .int) :: ([.fieldLink RX7 7 "LampRacksModel" "z" "[I"] ++ wsX70)
def wsX7_isHot : List Cond := .code yX7_isHot cX7_isHot 2 (some .boolean) :: ([.methodLink RX7 32 yX7_of, .instanceMethod yX7_of, .selects RX7 yX7_of yX7_of, .initialized RX7, .code yX7_of cX7_of 3 (some .int), .fieldLink RX7 7 "LampRacksModel" "z" "[I", .methodLink RX7 28 yX7_in, .static yX7_in, .code yX7_in cX7_in 3 (some .boolean)] ++ wsX70)
def wsX7_burns : List Cond := .code yX7_burns cX7_burns 2 (some .boolean) :: ([.methodLink RX7 91 yX7_isDead, .instanceMethod yX7_isDead, .selects RX7 yX7_isDead yX7_isDead, .initialized RX7, .code yX7_isDead cX7_isDead 2 (some .boolean), .methodLink RX7 32 yX7_of, .instanceMethod yX7_of, .selects RX7 yX7_of yX7_of, .code yX7_of cX7_of 3 (some .int), .fieldLink RX7 7 "LampRacksModel" "z" "[I", .methodLink RX7 85 yX7_ofRack, .instanceMethod yX7_ofRack, .selects RX7 yX7_ofRack yX7_ofRack, .code yX7_ofRack cX7_ofRack 3 (some .int)] ++ wsX70)
def wsX7_anHour_r1 : List Cond := [Cond.fieldLink RX7 7 "LampRacksModel" "z" "[I", Cond.methodLink RX7 94 yX7_burns, Cond.instanceMethod yX7_burns, Cond.selects RX7 yX7_burns yX7_burns, Cond.initialized RX7, Cond.code yX7_burns cX7_burns 2 (some .boolean), Cond.methodLink RX7 91 yX7_isDead, Cond.instanceMethod yX7_isDead, Cond.selects RX7 yX7_isDead yX7_isDead, Cond.code yX7_isDead cX7_isDead 2 (some .boolean), Cond.methodLink RX7 32 yX7_of, Cond.instanceMethod yX7_of, Cond.selects RX7 yX7_of yX7_of, Cond.code yX7_of cX7_of 3 (some .int), Cond.methodLink RX7 85 yX7_ofRack, Cond.instanceMethod yX7_ofRack, Cond.selects RX7 yX7_ofRack yX7_ofRack, Cond.code yX7_ofRack cX7_ofRack 3 (some .int), Cond.methodLink RX7 68 yX7_lay, Cond.instanceMethod yX7_lay, Cond.selects RX7 yX7_lay yX7_lay, Cond.code yX7_lay cX7_lay 4 none, Cond.methodLink RX7 97 yX7_isHot, Cond.instanceMethod yX7_isHot]
def wsX7_anHour_r2 : List Cond := [Cond.selects RX7 yX7_isHot yX7_isHot, Cond.code yX7_isHot cX7_isHot 2 (some .boolean), Cond.methodLink RX7 28 yX7_in, Cond.static yX7_in, Cond.code yX7_in cX7_in 3 (some .boolean), Cond.methodLink RX7 100 yX7_wearAt, Cond.instanceMethod yX7_wearAt, Cond.selects RX7 yX7_wearAt yX7_wearAt, Cond.code yX7_wearAt cX7_wearAt 4 (some .int)]
def wsX7_anHour : List Cond := .code yX7_anHour cX7_anHour 5 (some .int) :: ((wsX7_anHour_r1 ++ wsX7_anHour_r2) ++ wsX70)
def wsX7_whyNotPass : List Cond := .code yX7_whyNotPass cX7_whyNotPass 2 (some .int) :: ([.fieldLink RX7 7 "LampRacksModel" "z" "[I", .constant RX7 104 (99999), .methodLink RX7 28 yX7_in, .static yX7_in, .initialized RX7, .code yX7_in cX7_in 3 (some .boolean)] ++ wsX70)
def wsX7_passNow_r1 : List Cond := [Cond.methodLink RX7 105 yX7_anHour, Cond.instanceMethod yX7_anHour, Cond.selects RX7 yX7_anHour yX7_anHour, Cond.initialized RX7, Cond.code yX7_anHour cX7_anHour 5 (some .int), Cond.fieldLink RX7 7 "LampRacksModel" "z" "[I", Cond.methodLink RX7 94 yX7_burns, Cond.instanceMethod yX7_burns, Cond.selects RX7 yX7_burns yX7_burns, Cond.code yX7_burns cX7_burns 2 (some .boolean), Cond.methodLink RX7 91 yX7_isDead, Cond.instanceMethod yX7_isDead, Cond.selects RX7 yX7_isDead yX7_isDead, Cond.code yX7_isDead cX7_isDead 2 (some .boolean), Cond.methodLink RX7 32 yX7_of, Cond.instanceMethod yX7_of, Cond.selects RX7 yX7_of yX7_of, Cond.code yX7_of cX7_of 3 (some .int), Cond.methodLink RX7 85 yX7_ofRack, Cond.instanceMethod yX7_ofRack, Cond.selects RX7 yX7_ofRack yX7_ofRack, Cond.code yX7_ofRack cX7_ofRack 3 (some .int), Cond.methodLink RX7 68 yX7_lay, Cond.instanceMethod yX7_lay]
def wsX7_passNow_r2 : List Cond := [Cond.selects RX7 yX7_lay yX7_lay, Cond.code yX7_lay cX7_lay 4 none, Cond.methodLink RX7 97 yX7_isHot, Cond.instanceMethod yX7_isHot, Cond.selects RX7 yX7_isHot yX7_isHot, Cond.code yX7_isHot cX7_isHot 2 (some .boolean), Cond.methodLink RX7 28 yX7_in, Cond.static yX7_in, Cond.code yX7_in cX7_in 3 (some .boolean), Cond.methodLink RX7 100 yX7_wearAt, Cond.instanceMethod yX7_wearAt, Cond.selects RX7 yX7_wearAt yX7_wearAt, Cond.code yX7_wearAt cX7_wearAt 4 (some .int)]
def wsX7_passNow : List Cond := .code yX7_passNow cX7_passNow 4 (some .int) :: ((wsX7_passNow_r1 ++ wsX7_passNow_r2) ++ wsX70)
def wsX7_pass_r1 : List Cond := [Cond.methodLink RX7 109 yX7_whyNotPass, Cond.instanceMethod yX7_whyNotPass, Cond.selects RX7 yX7_whyNotPass yX7_whyNotPass, Cond.initialized RX7, Cond.code yX7_whyNotPass cX7_whyNotPass 2 (some .int), Cond.fieldLink RX7 7 "LampRacksModel" "z" "[I", Cond.constant RX7 104 (99999), Cond.methodLink RX7 28 yX7_in, Cond.static yX7_in, Cond.code yX7_in cX7_in 3 (some .boolean), Cond.methodLink RX7 52 yX7_record, Cond.instanceMethod yX7_record, Cond.selects RX7 yX7_record yX7_record, Cond.code yX7_record cX7_record 1 none, Cond.methodLink RX7 44 yX7_recordRow, Cond.instanceMethod yX7_recordRow, Cond.selects RX7 yX7_recordRow yX7_recordRow, Cond.code yX7_recordRow cX7_recordRow 3 none, Cond.fieldLink RX7 36 "LampRacksModel" "states" "I", Cond.fieldLink RX7 16 "LampRacksModel" "past" "[I", Cond.methodLink RX7 40 yX7_copyState, Cond.static yX7_copyState, Cond.code yX7_copyState cX7_copyState 5 none, Cond.methodLink RX7 113 yX7_passNow]
def wsX7_pass_r2 : List Cond := [Cond.instanceMethod yX7_passNow, Cond.selects RX7 yX7_passNow yX7_passNow, Cond.code yX7_passNow cX7_passNow 4 (some .int), Cond.methodLink RX7 105 yX7_anHour, Cond.instanceMethod yX7_anHour, Cond.selects RX7 yX7_anHour yX7_anHour, Cond.code yX7_anHour cX7_anHour 5 (some .int), Cond.methodLink RX7 94 yX7_burns, Cond.instanceMethod yX7_burns, Cond.selects RX7 yX7_burns yX7_burns, Cond.code yX7_burns cX7_burns 2 (some .boolean), Cond.methodLink RX7 91 yX7_isDead, Cond.instanceMethod yX7_isDead, Cond.selects RX7 yX7_isDead yX7_isDead, Cond.code yX7_isDead cX7_isDead 2 (some .boolean), Cond.methodLink RX7 32 yX7_of, Cond.instanceMethod yX7_of, Cond.selects RX7 yX7_of yX7_of, Cond.code yX7_of cX7_of 3 (some .int), Cond.methodLink RX7 85 yX7_ofRack, Cond.instanceMethod yX7_ofRack, Cond.selects RX7 yX7_ofRack yX7_ofRack, Cond.code yX7_ofRack cX7_ofRack 3 (some .int), Cond.methodLink RX7 68 yX7_lay]
def wsX7_pass_r3 : List Cond := [Cond.instanceMethod yX7_lay, Cond.selects RX7 yX7_lay yX7_lay, Cond.code yX7_lay cX7_lay 4 none, Cond.methodLink RX7 97 yX7_isHot, Cond.instanceMethod yX7_isHot, Cond.selects RX7 yX7_isHot yX7_isHot, Cond.code yX7_isHot cX7_isHot 2 (some .boolean), Cond.methodLink RX7 100 yX7_wearAt, Cond.instanceMethod yX7_wearAt, Cond.selects RX7 yX7_wearAt yX7_wearAt, Cond.code yX7_wearAt cX7_wearAt 4 (some .int)]
def wsX7_pass : List Cond := .code yX7_pass cX7_pass 3 (some .int) :: ((wsX7_pass_r1 ++ (wsX7_pass_r2 ++ wsX7_pass_r3)) ++ wsX70)
def wsX7_type : List Cond := .code yX7_type cX7_type 2 (some .int) :: ([.fieldLink RX7 116 "LampRacksModel" "length" "I", .fieldLink RX7 22 "LampRacksModel" "text" "[I"] ++ wsX70)
def wsX7_clearText : List Cond := .code yX7_clearText cX7_clearText 2 (some .int) :: ([.fieldLink RX7 116 "LampRacksModel" "length" "I"] ++ wsX70)
def wsX7_sees : List Cond := .code yX7_sees cX7_sees 3 (some .boolean) :: ([.fieldLink RX7 119 "LampRacksModel" "spot" "I", .fieldLink RX7 116 "LampRacksModel" "length" "I", .fieldLink RX7 22 "LampRacksModel" "text" "[I", .methodLink RX7 28 yX7_in, .static yX7_in, .initialized RX7, .code yX7_in cX7_in 3 (some .boolean)] ++ wsX70)
def wsX7_takes : List Cond := .code yX7_takes cX7_takes 3 (some .boolean) :: ([.fieldLink RX7 119 "LampRacksModel" "spot" "I", .methodLink RX7 122 yX7_sees, .instanceMethod yX7_sees, .selects RX7 yX7_sees yX7_sees, .initialized RX7, .code yX7_sees cX7_sees 3 (some .boolean), .fieldLink RX7 116 "LampRacksModel" "length" "I", .fieldLink RX7 22 "LampRacksModel" "text" "[I", .methodLink RX7 28 yX7_in, .static yX7_in, .code yX7_in cX7_in 3 (some .boolean)] ++ wsX70)
def wsX7_number : List Cond := .code yX7_number cX7_number 7 (some .boolean) :: ([.fieldLink RX7 22 "LampRacksModel" "text" "[I", .fieldLink RX7 119 "LampRacksModel" "spot" "I", .fieldLink RX7 25 "LampRacksModel" "told" "[I", .fieldLink RX7 126 "LampRacksModel" "toldMany" "I", .methodLink RX7 122 yX7_sees, .instanceMethod yX7_sees, .selects RX7 yX7_sees yX7_sees, .initialized RX7, .code yX7_sees cX7_sees 3 (some .boolean), .fieldLink RX7 116 "LampRacksModel" "length" "I", .methodLink RX7 28 yX7_in, .static yX7_in, .code yX7_in cX7_in 3 (some .boolean)] ++ wsX70)
def wsX7_readSteps : List Cond := .code yX7_readSteps cX7_readSteps 3 (some .boolean) :: ([.fieldLink RX7 25 "LampRacksModel" "told" "[I", .fieldLink RX7 126 "LampRacksModel" "toldMany" "I", .methodLink RX7 129 yX7_number, .instanceMethod yX7_number, .selects RX7 yX7_number yX7_number, .initialized RX7, .code yX7_number cX7_number 7 (some .boolean), .fieldLink RX7 22 "LampRacksModel" "text" "[I", .fieldLink RX7 119 "LampRacksModel" "spot" "I", .methodLink RX7 122 yX7_sees, .instanceMethod yX7_sees, .selects RX7 yX7_sees yX7_sees, .code yX7_sees cX7_sees 3 (some .boolean), .fieldLink RX7 116 "LampRacksModel" "length" "I", .methodLink RX7 28 yX7_in, .static yX7_in, .code yX7_in cX7_in 3 (some .boolean), .methodLink RX7 132 yX7_takes, .instanceMethod yX7_takes, .selects RX7 yX7_takes yX7_takes, .code yX7_takes cX7_takes 3 (some .boolean)] ++ wsX70)
def wsX7_readThing_r1 : List Cond := [Cond.fieldLink RX7 119 "LampRacksModel" "spot" "I", Cond.fieldLink RX7 116 "LampRacksModel" "length" "I", Cond.fieldLink RX7 22 "LampRacksModel" "text" "[I", Cond.fieldLink RX7 25 "LampRacksModel" "told" "[I", Cond.fieldLink RX7 126 "LampRacksModel" "toldMany" "I", Cond.methodLink RX7 129 yX7_number, Cond.instanceMethod yX7_number, Cond.selects RX7 yX7_number yX7_number, Cond.initialized RX7, Cond.code yX7_number cX7_number 7 (some .boolean), Cond.methodLink RX7 122 yX7_sees, Cond.instanceMethod yX7_sees, Cond.selects RX7 yX7_sees yX7_sees, Cond.code yX7_sees cX7_sees 3 (some .boolean), Cond.methodLink RX7 28 yX7_in, Cond.static yX7_in, Cond.code yX7_in cX7_in 3 (some .boolean), Cond.methodLink RX7 132 yX7_takes, Cond.instanceMethod yX7_takes, Cond.selects RX7 yX7_takes yX7_takes, Cond.code yX7_takes cX7_takes 3 (some .boolean), Cond.methodLink RX7 135 yX7_readSteps, Cond.instanceMethod yX7_readSteps, Cond.selects RX7 yX7_readSteps yX7_readSteps]
def wsX7_readThing_r2 : List Cond := [Cond.code yX7_readSteps cX7_readSteps 3 (some .boolean)]
def wsX7_readThing : List Cond := .code yX7_readThing cX7_readThing 3 (some .boolean) :: ((wsX7_readThing_r1 ++ wsX7_readThing_r2) ++ wsX70)
def wsX7_readText_r1 : List Cond := [Cond.fieldLink RX7 119 "LampRacksModel" "spot" "I", Cond.fieldLink RX7 126 "LampRacksModel" "toldMany" "I", Cond.fieldLink RX7 116 "LampRacksModel" "length" "I", Cond.methodLink RX7 139 yX7_readThing, Cond.instanceMethod yX7_readThing, Cond.selects RX7 yX7_readThing yX7_readThing, Cond.initialized RX7, Cond.code yX7_readThing cX7_readThing 3 (some .boolean), Cond.fieldLink RX7 22 "LampRacksModel" "text" "[I", Cond.fieldLink RX7 25 "LampRacksModel" "told" "[I", Cond.methodLink RX7 129 yX7_number, Cond.instanceMethod yX7_number, Cond.selects RX7 yX7_number yX7_number, Cond.code yX7_number cX7_number 7 (some .boolean), Cond.methodLink RX7 122 yX7_sees, Cond.instanceMethod yX7_sees, Cond.selects RX7 yX7_sees yX7_sees, Cond.code yX7_sees cX7_sees 3 (some .boolean), Cond.methodLink RX7 28 yX7_in, Cond.static yX7_in, Cond.code yX7_in cX7_in 3 (some .boolean), Cond.methodLink RX7 132 yX7_takes, Cond.instanceMethod yX7_takes, Cond.selects RX7 yX7_takes yX7_takes]
def wsX7_readText_r2 : List Cond := [Cond.code yX7_takes cX7_takes 3 (some .boolean), Cond.methodLink RX7 135 yX7_readSteps, Cond.instanceMethod yX7_readSteps, Cond.selects RX7 yX7_readSteps yX7_readSteps, Cond.code yX7_readSteps cX7_readSteps 3 (some .boolean)]
def wsX7_readText : List Cond := .code yX7_readText cX7_readText 2 (some .boolean) :: ((wsX7_readText_r1 ++ wsX7_readText_r2) ++ wsX70)
def wsX7_whyNot_r1 : List Cond := [Cond.fieldLink RX7 25 "LampRacksModel" "told" "[I", Cond.methodLink RX7 72 yX7_whyNotPut, Cond.instanceMethod yX7_whyNotPut, Cond.selects RX7 yX7_whyNotPut yX7_whyNotPut, Cond.initialized RX7, Cond.code yX7_whyNotPut cX7_whyNotPut 4 (some .int), Cond.fieldLink RX7 7 "LampRacksModel" "z" "[I", Cond.methodLink RX7 59 yX7_isRack, Cond.static yX7_isRack, Cond.code yX7_isRack cX7_isRack 1 (some .boolean), Cond.methodLink RX7 28 yX7_in, Cond.static yX7_in, Cond.code yX7_in cX7_in 3 (some .boolean), Cond.methodLink RX7 62 yX7_isPlace, Cond.static yX7_isPlace, Cond.code yX7_isPlace cX7_isPlace 1 (some .boolean), Cond.methodLink RX7 55 yX7_isBatch, Cond.static yX7_isBatch, Cond.code yX7_isBatch cX7_isBatch 1 (some .boolean), Cond.methodLink RX7 65 yX7_lampAt, Cond.instanceMethod yX7_lampAt, Cond.selects RX7 yX7_lampAt yX7_lampAt, Cond.code yX7_lampAt cX7_lampAt 5 (some .int), Cond.methodLink RX7 32 yX7_of]
def wsX7_whyNot_r2 : List Cond := [Cond.instanceMethod yX7_of, Cond.selects RX7 yX7_of yX7_of, Cond.code yX7_of cX7_of 3 (some .int), Cond.methodLink RX7 109 yX7_whyNotPass, Cond.instanceMethod yX7_whyNotPass, Cond.selects RX7 yX7_whyNotPass yX7_whyNotPass, Cond.code yX7_whyNotPass cX7_whyNotPass 2 (some .int), Cond.constant RX7 104 (99999)]
def wsX7_whyNot : List Cond := .code yX7_whyNot cX7_whyNot 4 (some .int) :: ((wsX7_whyNot_r1 ++ wsX7_whyNot_r2) ++ wsX70)
def wsX7_doThing_r1 : List Cond := [Cond.fieldLink RX7 25 "LampRacksModel" "told" "[I", Cond.fieldLink RX7 7 "LampRacksModel" "z" "[I", Cond.methodLink RX7 76 yX7_putNow, Cond.instanceMethod yX7_putNow, Cond.selects RX7 yX7_putNow yX7_putNow, Cond.initialized RX7, Cond.code yX7_putNow cX7_putNow 8 (some .int), Cond.methodLink RX7 68 yX7_lay, Cond.instanceMethod yX7_lay, Cond.selects RX7 yX7_lay yX7_lay, Cond.code yX7_lay cX7_lay 4 none, Cond.methodLink RX7 65 yX7_lampAt, Cond.instanceMethod yX7_lampAt, Cond.selects RX7 yX7_lampAt yX7_lampAt, Cond.code yX7_lampAt cX7_lampAt 5 (some .int), Cond.methodLink RX7 32 yX7_of, Cond.instanceMethod yX7_of, Cond.selects RX7 yX7_of yX7_of, Cond.code yX7_of cX7_of 3 (some .int), Cond.methodLink RX7 79 yX7_moveTo, Cond.instanceMethod yX7_moveTo, Cond.selects RX7 yX7_moveTo yX7_moveTo, Cond.code yX7_moveTo cX7_moveTo 4 none, Cond.methodLink RX7 88 yX7_stepsNow]
def wsX7_doThing_r2 : List Cond := [Cond.instanceMethod yX7_stepsNow, Cond.selects RX7 yX7_stepsNow yX7_stepsNow, Cond.code yX7_stepsNow cX7_stepsNow 5 none, Cond.methodLink RX7 113 yX7_passNow, Cond.instanceMethod yX7_passNow, Cond.selects RX7 yX7_passNow yX7_passNow, Cond.code yX7_passNow cX7_passNow 4 (some .int), Cond.methodLink RX7 105 yX7_anHour, Cond.instanceMethod yX7_anHour, Cond.selects RX7 yX7_anHour yX7_anHour, Cond.code yX7_anHour cX7_anHour 5 (some .int), Cond.methodLink RX7 94 yX7_burns, Cond.instanceMethod yX7_burns, Cond.selects RX7 yX7_burns yX7_burns, Cond.code yX7_burns cX7_burns 2 (some .boolean), Cond.methodLink RX7 91 yX7_isDead, Cond.instanceMethod yX7_isDead, Cond.selects RX7 yX7_isDead yX7_isDead, Cond.code yX7_isDead cX7_isDead 2 (some .boolean), Cond.methodLink RX7 85 yX7_ofRack, Cond.instanceMethod yX7_ofRack, Cond.selects RX7 yX7_ofRack yX7_ofRack, Cond.code yX7_ofRack cX7_ofRack 3 (some .int), Cond.methodLink RX7 97 yX7_isHot]
def wsX7_doThing_r3 : List Cond := [Cond.instanceMethod yX7_isHot, Cond.selects RX7 yX7_isHot yX7_isHot, Cond.code yX7_isHot cX7_isHot 2 (some .boolean), Cond.methodLink RX7 28 yX7_in, Cond.static yX7_in, Cond.code yX7_in cX7_in 3 (some .boolean), Cond.methodLink RX7 100 yX7_wearAt, Cond.instanceMethod yX7_wearAt, Cond.selects RX7 yX7_wearAt yX7_wearAt, Cond.code yX7_wearAt cX7_wearAt 4 (some .int)]
def wsX7_doThing : List Cond := .code yX7_doThing cX7_doThing 5 none :: ((wsX7_doThing_r1 ++ (wsX7_doThing_r2 ++ wsX7_doThing_r3)) ++ wsX70)
def wsX7_perform_r1 : List Cond := [Cond.fieldLink RX7 119 "LampRacksModel" "spot" "I", Cond.fieldLink RX7 7 "LampRacksModel" "z" "[I", Cond.fieldLink RX7 13 "LampRacksModel" "spare" "[I", Cond.fieldLink RX7 126 "LampRacksModel" "toldMany" "I", Cond.fieldLink RX7 148 "LampRacksModel" "stopNumber" "I", Cond.fieldLink RX7 151 "LampRacksModel" "stopError" "I", Cond.methodLink RX7 142 yX7_readText, Cond.instanceMethod yX7_readText, Cond.selects RX7 yX7_readText yX7_readText, Cond.initialized RX7, Cond.code yX7_readText cX7_readText 2 (some .boolean), Cond.fieldLink RX7 116 "LampRacksModel" "length" "I", Cond.methodLink RX7 139 yX7_readThing, Cond.instanceMethod yX7_readThing, Cond.selects RX7 yX7_readThing yX7_readThing, Cond.code yX7_readThing cX7_readThing 3 (some .boolean), Cond.fieldLink RX7 22 "LampRacksModel" "text" "[I", Cond.fieldLink RX7 25 "LampRacksModel" "told" "[I", Cond.methodLink RX7 129 yX7_number, Cond.instanceMethod yX7_number, Cond.selects RX7 yX7_number yX7_number, Cond.code yX7_number cX7_number 7 (some .boolean), Cond.methodLink RX7 122 yX7_sees, Cond.instanceMethod yX7_sees]
def wsX7_perform_r2 : List Cond := [Cond.selects RX7 yX7_sees yX7_sees, Cond.code yX7_sees cX7_sees 3 (some .boolean), Cond.methodLink RX7 28 yX7_in, Cond.static yX7_in, Cond.code yX7_in cX7_in 3 (some .boolean), Cond.methodLink RX7 132 yX7_takes, Cond.instanceMethod yX7_takes, Cond.selects RX7 yX7_takes yX7_takes, Cond.code yX7_takes cX7_takes 3 (some .boolean), Cond.methodLink RX7 135 yX7_readSteps, Cond.instanceMethod yX7_readSteps, Cond.selects RX7 yX7_readSteps yX7_readSteps, Cond.code yX7_readSteps cX7_readSteps 3 (some .boolean), Cond.methodLink RX7 40 yX7_copyState, Cond.static yX7_copyState, Cond.code yX7_copyState cX7_copyState 5 none, Cond.methodLink RX7 145 yX7_whyNot, Cond.instanceMethod yX7_whyNot, Cond.selects RX7 yX7_whyNot yX7_whyNot, Cond.code yX7_whyNot cX7_whyNot 4 (some .int), Cond.methodLink RX7 72 yX7_whyNotPut, Cond.instanceMethod yX7_whyNotPut, Cond.selects RX7 yX7_whyNotPut yX7_whyNotPut, Cond.code yX7_whyNotPut cX7_whyNotPut 4 (some .int)]
def wsX7_perform_r3 : List Cond := [Cond.methodLink RX7 59 yX7_isRack, Cond.static yX7_isRack, Cond.code yX7_isRack cX7_isRack 1 (some .boolean), Cond.methodLink RX7 62 yX7_isPlace, Cond.static yX7_isPlace, Cond.code yX7_isPlace cX7_isPlace 1 (some .boolean), Cond.methodLink RX7 55 yX7_isBatch, Cond.static yX7_isBatch, Cond.code yX7_isBatch cX7_isBatch 1 (some .boolean), Cond.methodLink RX7 65 yX7_lampAt, Cond.instanceMethod yX7_lampAt, Cond.selects RX7 yX7_lampAt yX7_lampAt, Cond.code yX7_lampAt cX7_lampAt 5 (some .int), Cond.methodLink RX7 32 yX7_of, Cond.instanceMethod yX7_of, Cond.selects RX7 yX7_of yX7_of, Cond.code yX7_of cX7_of 3 (some .int), Cond.methodLink RX7 109 yX7_whyNotPass, Cond.instanceMethod yX7_whyNotPass, Cond.selects RX7 yX7_whyNotPass yX7_whyNotPass, Cond.code yX7_whyNotPass cX7_whyNotPass 2 (some .int), Cond.constant RX7 104 (99999), Cond.methodLink RX7 154 yX7_doThing, Cond.instanceMethod yX7_doThing]
def wsX7_perform_r4 : List Cond := [Cond.selects RX7 yX7_doThing yX7_doThing, Cond.code yX7_doThing cX7_doThing 5 none, Cond.methodLink RX7 76 yX7_putNow, Cond.instanceMethod yX7_putNow, Cond.selects RX7 yX7_putNow yX7_putNow, Cond.code yX7_putNow cX7_putNow 8 (some .int), Cond.methodLink RX7 68 yX7_lay, Cond.instanceMethod yX7_lay, Cond.selects RX7 yX7_lay yX7_lay, Cond.code yX7_lay cX7_lay 4 none, Cond.methodLink RX7 79 yX7_moveTo, Cond.instanceMethod yX7_moveTo, Cond.selects RX7 yX7_moveTo yX7_moveTo, Cond.code yX7_moveTo cX7_moveTo 4 none, Cond.methodLink RX7 88 yX7_stepsNow, Cond.instanceMethod yX7_stepsNow, Cond.selects RX7 yX7_stepsNow yX7_stepsNow, Cond.code yX7_stepsNow cX7_stepsNow 5 none, Cond.methodLink RX7 113 yX7_passNow, Cond.instanceMethod yX7_passNow, Cond.selects RX7 yX7_passNow yX7_passNow, Cond.code yX7_passNow cX7_passNow 4 (some .int), Cond.methodLink RX7 105 yX7_anHour, Cond.instanceMethod yX7_anHour]
def wsX7_perform_r5 : List Cond := [Cond.selects RX7 yX7_anHour yX7_anHour, Cond.code yX7_anHour cX7_anHour 5 (some .int), Cond.methodLink RX7 94 yX7_burns, Cond.instanceMethod yX7_burns, Cond.selects RX7 yX7_burns yX7_burns, Cond.code yX7_burns cX7_burns 2 (some .boolean), Cond.methodLink RX7 91 yX7_isDead, Cond.instanceMethod yX7_isDead, Cond.selects RX7 yX7_isDead yX7_isDead, Cond.code yX7_isDead cX7_isDead 2 (some .boolean), Cond.methodLink RX7 85 yX7_ofRack, Cond.instanceMethod yX7_ofRack, Cond.selects RX7 yX7_ofRack yX7_ofRack, Cond.code yX7_ofRack cX7_ofRack 3 (some .int), Cond.methodLink RX7 97 yX7_isHot, Cond.instanceMethod yX7_isHot, Cond.selects RX7 yX7_isHot yX7_isHot, Cond.code yX7_isHot cX7_isHot 2 (some .boolean), Cond.methodLink RX7 100 yX7_wearAt, Cond.instanceMethod yX7_wearAt, Cond.selects RX7 yX7_wearAt yX7_wearAt, Cond.code yX7_wearAt cX7_wearAt 4 (some .int), Cond.methodLink RX7 44 yX7_recordRow, Cond.instanceMethod yX7_recordRow]
def wsX7_perform_r6 : List Cond := [Cond.selects RX7 yX7_recordRow yX7_recordRow, Cond.code yX7_recordRow cX7_recordRow 3 none, Cond.fieldLink RX7 36 "LampRacksModel" "states" "I", Cond.fieldLink RX7 16 "LampRacksModel" "past" "[I"]
def wsX7_perform : List Cond := .code yX7_perform cX7_perform 3 (some .int) :: ((wsX7_perform_r1 ++ (wsX7_perform_r2 ++ (wsX7_perform_r3 ++ (wsX7_perform_r4 ++ (wsX7_perform_r5 ++ wsX7_perform_r6))))) ++ wsX70)
def wsX7_stopped : List Cond := .code yX7_stopped cX7_stopped 2 (some .int) :: ([.fieldLink RX7 151 "LampRacksModel" "stopError" "I", .fieldLink RX7 148 "LampRacksModel" "stopNumber" "I", .methodLink RX7 28 yX7_in, .static yX7_in, .initialized RX7, .code yX7_in cX7_in 3 (some .boolean)] ++ wsX70)
def wsX7_counts : List Cond := .code yX7_counts cX7_counts 2 (some .int) :: ([.methodLink RX7 32 yX7_of, .instanceMethod yX7_of, .selects RX7 yX7_of yX7_of, .initialized RX7, .code yX7_of cX7_of 3 (some .int), .fieldLink RX7 7 "LampRacksModel" "z" "[I"] ++ wsX70)
def wsX7_lamp : List Cond := .code yX7_lamp cX7_lamp 3 (some .int) :: ([.methodLink RX7 158 yX7_isLamp, .instanceMethod yX7_isLamp, .selects RX7 yX7_isLamp yX7_isLamp, .initialized RX7, .code yX7_isLamp cX7_isLamp 2 (some .boolean), .fieldLink RX7 7 "LampRacksModel" "z" "[I", .methodLink RX7 28 yX7_in, .static yX7_in, .code yX7_in cX7_in 3 (some .boolean), .methodLink RX7 32 yX7_of, .instanceMethod yX7_of, .selects RX7 yX7_of yX7_of, .code yX7_of cX7_of 3 (some .int), .methodLink RX7 161 yX7_counts, .instanceMethod yX7_counts, .selects RX7 yX7_counts yX7_counts, .code yX7_counts cX7_counts 2 (some .int), .methodLink RX7 91 yX7_isDead, .instanceMethod yX7_isDead, .selects RX7 yX7_isDead yX7_isDead, .code yX7_isDead cX7_isDead 2 (some .boolean)] ++ wsX70)
def wsX7_lampsIn : List Cond := .code yX7_lampsIn cX7_lampsIn 5 (some .int) :: ([.fieldLink RX7 7 "LampRacksModel" "z" "[I", .methodLink RX7 32 yX7_of, .instanceMethod yX7_of, .selects RX7 yX7_of yX7_of, .initialized RX7, .code yX7_of cX7_of 3 (some .int), .methodLink RX7 91 yX7_isDead, .instanceMethod yX7_isDead, .selects RX7 yX7_isDead yX7_isDead, .code yX7_isDead cX7_isDead 2 (some .boolean)] ++ wsX70)
def wsX7_rack_r1 : List Cond := [Cond.methodLink RX7 59 yX7_isRack, Cond.static yX7_isRack, Cond.initialized RX7, Cond.code yX7_isRack cX7_isRack 1 (some .boolean), Cond.methodLink RX7 28 yX7_in, Cond.static yX7_in, Cond.code yX7_in cX7_in 3 (some .boolean), Cond.methodLink RX7 85 yX7_ofRack, Cond.instanceMethod yX7_ofRack, Cond.selects RX7 yX7_ofRack yX7_ofRack, Cond.code yX7_ofRack cX7_ofRack 3 (some .int), Cond.fieldLink RX7 7 "LampRacksModel" "z" "[I", Cond.methodLink RX7 164 yX7_lampsIn, Cond.instanceMethod yX7_lampsIn, Cond.selects RX7 yX7_lampsIn yX7_lampsIn, Cond.code yX7_lampsIn cX7_lampsIn 5 (some .int), Cond.methodLink RX7 32 yX7_of, Cond.instanceMethod yX7_of, Cond.selects RX7 yX7_of yX7_of, Cond.code yX7_of cX7_of 3 (some .int), Cond.methodLink RX7 91 yX7_isDead, Cond.instanceMethod yX7_isDead, Cond.selects RX7 yX7_isDead yX7_isDead, Cond.code yX7_isDead cX7_isDead 2 (some .boolean)]
def wsX7_rack_r2 : List Cond := [Cond.methodLink RX7 100 yX7_wearAt, Cond.instanceMethod yX7_wearAt, Cond.selects RX7 yX7_wearAt yX7_wearAt, Cond.code yX7_wearAt cX7_wearAt 4 (some .int)]
def wsX7_rack : List Cond := .code yX7_rack cX7_rack 4 (some .int) :: ((wsX7_rack_r1 ++ wsX7_rack_r2) ++ wsX70)
def wsX7_at : List Cond := .code yX7_at cX7_at 3 (some .int) :: ([.methodLink RX7 59 yX7_isRack, .static yX7_isRack, .initialized RX7, .code yX7_isRack cX7_isRack 1 (some .boolean), .methodLink RX7 28 yX7_in, .static yX7_in, .code yX7_in cX7_in 3 (some .boolean), .methodLink RX7 62 yX7_isPlace, .static yX7_isPlace, .code yX7_isPlace cX7_isPlace 1 (some .boolean), .methodLink RX7 65 yX7_lampAt, .instanceMethod yX7_lampAt, .selects RX7 yX7_lampAt yX7_lampAt, .code yX7_lampAt cX7_lampAt 5 (some .int), .fieldLink RX7 7 "LampRacksModel" "z" "[I", .methodLink RX7 32 yX7_of, .instanceMethod yX7_of, .selects RX7 yX7_of yX7_of, .code yX7_of cX7_of 3 (some .int)] ++ wsX70)
def wsX7_lampsOf : List Cond := .code yX7_lampsOf cX7_lampsOf 7 (some .int) :: ([.fieldLink RX7 7 "LampRacksModel" "z" "[I", .methodLink RX7 91 yX7_isDead, .instanceMethod yX7_isDead, .selects RX7 yX7_isDead yX7_isDead, .initialized RX7, .code yX7_isDead cX7_isDead 2 (some .boolean), .methodLink RX7 32 yX7_of, .instanceMethod yX7_of, .selects RX7 yX7_of yX7_of, .code yX7_of cX7_of 3 (some .int), .methodLink RX7 161 yX7_counts, .instanceMethod yX7_counts, .selects RX7 yX7_counts yX7_counts, .code yX7_counts cX7_counts 2 (some .int)] ++ wsX70)
def wsX7_middleLife : List Cond := .code yX7_middleLife cX7_middleLife 6 (some .int) :: ([.fieldLink RX7 7 "LampRacksModel" "z" "[I", .methodLink RX7 167 yX7_lampsOf, .instanceMethod yX7_lampsOf, .selects RX7 yX7_lampsOf yX7_lampsOf, .initialized RX7, .code yX7_lampsOf cX7_lampsOf 7 (some .int), .methodLink RX7 91 yX7_isDead, .instanceMethod yX7_isDead, .selects RX7 yX7_isDead yX7_isDead, .code yX7_isDead cX7_isDead 2 (some .boolean), .methodLink RX7 32 yX7_of, .instanceMethod yX7_of, .selects RX7 yX7_of yX7_of, .code yX7_of cX7_of 3 (some .int), .methodLink RX7 161 yX7_counts, .instanceMethod yX7_counts, .selects RX7 yX7_counts yX7_counts, .code yX7_counts cX7_counts 2 (some .int)] ++ wsX70)
def wsX7_early : List Cond := .code yX7_early cX7_early 2 (some .int) :: ([.fieldLink RX7 7 "LampRacksModel" "z" "[I", .methodLink RX7 167 yX7_lampsOf, .instanceMethod yX7_lampsOf, .selects RX7 yX7_lampsOf yX7_lampsOf, .initialized RX7, .code yX7_lampsOf cX7_lampsOf 7 (some .int), .methodLink RX7 91 yX7_isDead, .instanceMethod yX7_isDead, .selects RX7 yX7_isDead yX7_isDead, .code yX7_isDead cX7_isDead 2 (some .boolean), .methodLink RX7 32 yX7_of, .instanceMethod yX7_of, .selects RX7 yX7_of yX7_of, .code yX7_of cX7_of 3 (some .int), .methodLink RX7 161 yX7_counts, .instanceMethod yX7_counts, .selects RX7 yX7_counts yX7_counts, .code yX7_counts cX7_counts 2 (some .int)] ++ wsX70)
def wsX7_batch_r1 : List Cond := [Cond.fieldLink RX7 7 "LampRacksModel" "z" "[I", Cond.methodLink RX7 55 yX7_isBatch, Cond.static yX7_isBatch, Cond.initialized RX7, Cond.code yX7_isBatch cX7_isBatch 1 (some .boolean), Cond.methodLink RX7 28 yX7_in, Cond.static yX7_in, Cond.code yX7_in cX7_in 3 (some .boolean), Cond.methodLink RX7 167 yX7_lampsOf, Cond.instanceMethod yX7_lampsOf, Cond.selects RX7 yX7_lampsOf yX7_lampsOf, Cond.code yX7_lampsOf cX7_lampsOf 7 (some .int), Cond.methodLink RX7 91 yX7_isDead, Cond.instanceMethod yX7_isDead, Cond.selects RX7 yX7_isDead yX7_isDead, Cond.code yX7_isDead cX7_isDead 2 (some .boolean), Cond.methodLink RX7 32 yX7_of, Cond.instanceMethod yX7_of, Cond.selects RX7 yX7_of yX7_of, Cond.code yX7_of cX7_of 3 (some .int), Cond.methodLink RX7 161 yX7_counts, Cond.instanceMethod yX7_counts, Cond.selects RX7 yX7_counts yX7_counts, Cond.code yX7_counts cX7_counts 2 (some .int)]
def wsX7_batch_r2 : List Cond := [Cond.methodLink RX7 170 yX7_early, Cond.instanceMethod yX7_early, Cond.selects RX7 yX7_early yX7_early, Cond.code yX7_early cX7_early 2 (some .int), Cond.methodLink RX7 173 yX7_middleLife, Cond.instanceMethod yX7_middleLife, Cond.selects RX7 yX7_middleLife yX7_middleLife, Cond.code yX7_middleLife cX7_middleLife 6 (some .int)]
def wsX7_batch : List Cond := .code yX7_batch cX7_batch 3 (some .int) :: ((wsX7_batch_r1 ++ wsX7_batch_r2) ++ wsX70)
def wsX7_lasted_r1 : List Cond := [Cond.constant RX7 104 (99999), Cond.methodLink RX7 55 yX7_isBatch, Cond.static yX7_isBatch, Cond.initialized RX7, Cond.code yX7_isBatch cX7_isBatch 1 (some .boolean), Cond.methodLink RX7 28 yX7_in, Cond.static yX7_in, Cond.code yX7_in cX7_in 3 (some .boolean), Cond.methodLink RX7 167 yX7_lampsOf, Cond.instanceMethod yX7_lampsOf, Cond.selects RX7 yX7_lampsOf yX7_lampsOf, Cond.code yX7_lampsOf cX7_lampsOf 7 (some .int), Cond.fieldLink RX7 7 "LampRacksModel" "z" "[I", Cond.methodLink RX7 91 yX7_isDead, Cond.instanceMethod yX7_isDead, Cond.selects RX7 yX7_isDead yX7_isDead, Cond.code yX7_isDead cX7_isDead 2 (some .boolean), Cond.methodLink RX7 32 yX7_of, Cond.instanceMethod yX7_of, Cond.selects RX7 yX7_of yX7_of, Cond.code yX7_of cX7_of 3 (some .int), Cond.methodLink RX7 161 yX7_counts, Cond.instanceMethod yX7_counts, Cond.selects RX7 yX7_counts yX7_counts]
def wsX7_lasted_r2 : List Cond := [Cond.code yX7_counts cX7_counts 2 (some .int)]
def wsX7_lasted : List Cond := .code yX7_lasted cX7_lasted 3 (some .int) :: ((wsX7_lasted_r1 ++ wsX7_lasted_r2) ++ wsX70)
def wsX7_endsAhead : List Cond := .code yX7_endsAhead cX7_endsAhead 4 (some .int) :: ([.fieldLink RX7 7 "LampRacksModel" "z" "[I", .methodLink RX7 91 yX7_isDead, .instanceMethod yX7_isDead, .selects RX7 yX7_isDead yX7_isDead, .initialized RX7, .code yX7_isDead cX7_isDead 2 (some .boolean), .methodLink RX7 32 yX7_of, .instanceMethod yX7_of, .selects RX7 yX7_of yX7_of, .code yX7_of cX7_of 3 (some .int)] ++ wsX70)
def wsX7_ended : List Cond := .code yX7_ended cX7_ended 4 (some .int) :: ([.fieldLink RX7 7 "LampRacksModel" "z" "[I", .methodLink RX7 91 yX7_isDead, .instanceMethod yX7_isDead, .selects RX7 yX7_isDead yX7_isDead, .initialized RX7, .code yX7_isDead cX7_isDead 2 (some .boolean), .methodLink RX7 32 yX7_of, .instanceMethod yX7_of, .selects RX7 yX7_of yX7_of, .code yX7_of cX7_of 3 (some .int), .methodLink RX7 176 yX7_endsAhead, .instanceMethod yX7_endsAhead, .selects RX7 yX7_endsAhead yX7_endsAhead, .code yX7_endsAhead cX7_endsAhead 4 (some .int)] ++ wsX70)
def wsX7_lasts_r1 : List Cond := [Cond.methodLink RX7 158 yX7_isLamp, Cond.instanceMethod yX7_isLamp, Cond.selects RX7 yX7_isLamp yX7_isLamp, Cond.initialized RX7, Cond.code yX7_isLamp cX7_isLamp 2 (some .boolean), Cond.fieldLink RX7 7 "LampRacksModel" "z" "[I", Cond.methodLink RX7 28 yX7_in, Cond.static yX7_in, Cond.code yX7_in cX7_in 3 (some .boolean), Cond.methodLink RX7 91 yX7_isDead, Cond.instanceMethod yX7_isDead, Cond.selects RX7 yX7_isDead yX7_isDead, Cond.code yX7_isDead cX7_isDead 2 (some .boolean), Cond.methodLink RX7 32 yX7_of, Cond.instanceMethod yX7_of, Cond.selects RX7 yX7_of yX7_of, Cond.code yX7_of cX7_of 3 (some .int), Cond.methodLink RX7 97 yX7_isHot, Cond.instanceMethod yX7_isHot, Cond.selects RX7 yX7_isHot yX7_isHot, Cond.code yX7_isHot cX7_isHot 2 (some .boolean), Cond.methodLink RX7 100 yX7_wearAt, Cond.instanceMethod yX7_wearAt, Cond.selects RX7 yX7_wearAt yX7_wearAt]
def wsX7_lasts_r2 : List Cond := [Cond.code yX7_wearAt cX7_wearAt 4 (some .int)]
def wsX7_lasts : List Cond := .code yX7_lasts cX7_lasts 4 (some .int) :: ((wsX7_lasts_r1 ++ wsX7_lasts_r2) ++ wsX70)
def wsX7_reason_r1 : List Cond := [Cond.methodLink RX7 158 yX7_isLamp, Cond.instanceMethod yX7_isLamp, Cond.selects RX7 yX7_isLamp yX7_isLamp, Cond.initialized RX7, Cond.code yX7_isLamp cX7_isLamp 2 (some .boolean), Cond.fieldLink RX7 7 "LampRacksModel" "z" "[I", Cond.methodLink RX7 28 yX7_in, Cond.static yX7_in, Cond.code yX7_in cX7_in 3 (some .boolean), Cond.methodLink RX7 91 yX7_isDead, Cond.instanceMethod yX7_isDead, Cond.selects RX7 yX7_isDead yX7_isDead, Cond.code yX7_isDead cX7_isDead 2 (some .boolean), Cond.methodLink RX7 32 yX7_of, Cond.instanceMethod yX7_of, Cond.selects RX7 yX7_of yX7_of, Cond.code yX7_of cX7_of 3 (some .int), Cond.methodLink RX7 94 yX7_burns, Cond.instanceMethod yX7_burns, Cond.selects RX7 yX7_burns yX7_burns, Cond.code yX7_burns cX7_burns 2 (some .boolean), Cond.methodLink RX7 85 yX7_ofRack, Cond.instanceMethod yX7_ofRack, Cond.selects RX7 yX7_ofRack yX7_ofRack]
def wsX7_reason_r2 : List Cond := [Cond.code yX7_ofRack cX7_ofRack 3 (some .int)]
def wsX7_reason : List Cond := .code yX7_reason cX7_reason 2 (some .int) :: ((wsX7_reason_r1 ++ wsX7_reason_r2) ++ wsX70)
def wsX7_firstEndedAt : List Cond := .code yX7_firstEndedAt cX7_firstEndedAt 4 (some .int) :: ([.fieldLink RX7 7 "LampRacksModel" "z" "[I", .methodLink RX7 32 yX7_of, .instanceMethod yX7_of, .selects RX7 yX7_of yX7_of, .initialized RX7, .code yX7_of cX7_of 3 (some .int)] ++ wsX70)
def wsX7_next_r1 : List Cond := [Cond.fieldLink RX7 7 "LampRacksModel" "z" "[I", Cond.fieldLink RX7 13 "LampRacksModel" "spare" "[I", Cond.methodLink RX7 28 yX7_in, Cond.static yX7_in, Cond.initialized RX7, Cond.code yX7_in cX7_in 3 (some .boolean), Cond.methodLink RX7 40 yX7_copyState, Cond.static yX7_copyState, Cond.code yX7_copyState cX7_copyState 5 none, Cond.methodLink RX7 105 yX7_anHour, Cond.instanceMethod yX7_anHour, Cond.selects RX7 yX7_anHour yX7_anHour, Cond.code yX7_anHour cX7_anHour 5 (some .int), Cond.methodLink RX7 94 yX7_burns, Cond.instanceMethod yX7_burns, Cond.selects RX7 yX7_burns yX7_burns, Cond.code yX7_burns cX7_burns 2 (some .boolean), Cond.methodLink RX7 91 yX7_isDead, Cond.instanceMethod yX7_isDead, Cond.selects RX7 yX7_isDead yX7_isDead, Cond.code yX7_isDead cX7_isDead 2 (some .boolean), Cond.methodLink RX7 32 yX7_of, Cond.instanceMethod yX7_of, Cond.selects RX7 yX7_of yX7_of]
def wsX7_next_r2 : List Cond := [Cond.code yX7_of cX7_of 3 (some .int), Cond.methodLink RX7 85 yX7_ofRack, Cond.instanceMethod yX7_ofRack, Cond.selects RX7 yX7_ofRack yX7_ofRack, Cond.code yX7_ofRack cX7_ofRack 3 (some .int), Cond.methodLink RX7 68 yX7_lay, Cond.instanceMethod yX7_lay, Cond.selects RX7 yX7_lay yX7_lay, Cond.code yX7_lay cX7_lay 4 none, Cond.methodLink RX7 97 yX7_isHot, Cond.instanceMethod yX7_isHot, Cond.selects RX7 yX7_isHot yX7_isHot, Cond.code yX7_isHot cX7_isHot 2 (some .boolean), Cond.methodLink RX7 100 yX7_wearAt, Cond.instanceMethod yX7_wearAt, Cond.selects RX7 yX7_wearAt yX7_wearAt, Cond.code yX7_wearAt cX7_wearAt 4 (some .int), Cond.methodLink RX7 179 yX7_firstEndedAt, Cond.instanceMethod yX7_firstEndedAt, Cond.selects RX7 yX7_firstEndedAt yX7_firstEndedAt, Cond.code yX7_firstEndedAt cX7_firstEndedAt 4 (some .int)]
def wsX7_next : List Cond := .code yX7_next cX7_next 5 (some .int) :: ((wsX7_next_r1 ++ wsX7_next_r2) ++ wsX70)
def wsX7_sum : List Cond := .code yX7_sum cX7_sum 4 (some .int) :: ([.fieldLink RX7 7 "LampRacksModel" "z" "[I", .methodLink RX7 32 yX7_of, .instanceMethod yX7_of, .selects RX7 yX7_of yX7_of, .initialized RX7, .code yX7_of cX7_of 3 (some .int)] ++ wsX70)
def wsX7_burning : List Cond := .code yX7_burning cX7_burning 3 (some .int) :: ([.fieldLink RX7 7 "LampRacksModel" "z" "[I", .methodLink RX7 94 yX7_burns, .instanceMethod yX7_burns, .selects RX7 yX7_burns yX7_burns, .initialized RX7, .code yX7_burns cX7_burns 2 (some .boolean), .methodLink RX7 91 yX7_isDead, .instanceMethod yX7_isDead, .selects RX7 yX7_isDead yX7_isDead, .code yX7_isDead cX7_isDead 2 (some .boolean), .methodLink RX7 32 yX7_of, .instanceMethod yX7_of, .selects RX7 yX7_of yX7_of, .code yX7_of cX7_of 3 (some .int), .methodLink RX7 85 yX7_ofRack, .instanceMethod yX7_ofRack, .selects RX7 yX7_ofRack yX7_ofRack, .code yX7_ofRack cX7_ofRack 3 (some .int)] ++ wsX70)
def wsX7_dead : List Cond := .code yX7_dead cX7_dead 3 (some .int) :: ([.fieldLink RX7 7 "LampRacksModel" "z" "[I", .methodLink RX7 91 yX7_isDead, .instanceMethod yX7_isDead, .selects RX7 yX7_isDead yX7_isDead, .initialized RX7, .code yX7_isDead cX7_isDead 2 (some .boolean), .methodLink RX7 32 yX7_of, .instanceMethod yX7_of, .selects RX7 yX7_of yX7_of, .code yX7_of cX7_of 3 (some .int)] ++ wsX70)
def wsX7_count_r1 : List Cond := [Cond.fieldLink RX7 7 "LampRacksModel" "z" "[I", Cond.fieldLink RX7 36 "LampRacksModel" "states" "I", Cond.fieldLink RX7 116 "LampRacksModel" "length" "I", Cond.methodLink RX7 164 yX7_lampsIn, Cond.instanceMethod yX7_lampsIn, Cond.selects RX7 yX7_lampsIn yX7_lampsIn, Cond.initialized RX7, Cond.code yX7_lampsIn cX7_lampsIn 5 (some .int), Cond.methodLink RX7 32 yX7_of, Cond.instanceMethod yX7_of, Cond.selects RX7 yX7_of yX7_of, Cond.code yX7_of cX7_of 3 (some .int), Cond.methodLink RX7 91 yX7_isDead, Cond.instanceMethod yX7_isDead, Cond.selects RX7 yX7_isDead yX7_isDead, Cond.code yX7_isDead cX7_isDead 2 (some .boolean), Cond.methodLink RX7 182 yX7_burning, Cond.instanceMethod yX7_burning, Cond.selects RX7 yX7_burning yX7_burning, Cond.code yX7_burning cX7_burning 3 (some .int), Cond.methodLink RX7 94 yX7_burns, Cond.instanceMethod yX7_burns, Cond.selects RX7 yX7_burns yX7_burns, Cond.code yX7_burns cX7_burns 2 (some .boolean)]
def wsX7_count_r2 : List Cond := [Cond.methodLink RX7 85 yX7_ofRack, Cond.instanceMethod yX7_ofRack, Cond.selects RX7 yX7_ofRack yX7_ofRack, Cond.code yX7_ofRack cX7_ofRack 3 (some .int), Cond.methodLink RX7 185 yX7_dead, Cond.instanceMethod yX7_dead, Cond.selects RX7 yX7_dead yX7_dead, Cond.code yX7_dead cX7_dead 3 (some .int), Cond.methodLink RX7 188 yX7_sum, Cond.instanceMethod yX7_sum, Cond.selects RX7 yX7_sum yX7_sum, Cond.code yX7_sum cX7_sum 4 (some .int)]
def wsX7_count : List Cond := .code yX7_count cX7_count 2 (some .int) :: ((wsX7_count_r1 ++ wsX7_count_r2) ++ wsX70)
def wsJ9_max_7cf53 : List Cond := .code yJ9_max_7cf53 cJ9_max_7cf53 2 (some .int) :: ([])
def wsJ9_min_7cf53 : List Cond := .code yJ9_min_7cf53 cJ9_min_7cf53 2 (some .int) :: ([])
def wsL_law_r1 : List Cond := [Cond.classLink RL 7 RX6, Cond.instantiable RX6 9, Cond.initialized RX6, Cond.classLink RL 10 RX7, Cond.instantiable RX7 13, Cond.initialized RX7, Cond.methodLink RL 9 yX6_init, Cond.instanceMethod yX6_init, Cond.code yX6_init cX6_init 1 none, Cond.methodLink RX6 1 objectInit, Cond.instanceMethod objectInit, Cond.code objectInit ⟨#[0xb1]⟩ 1 none, Cond.classLink RX6 7 RX4, Cond.instantiable RX4 6, Cond.initialized RX4, Cond.fieldLink RX6 10 "LampRacks" "now" "LLampRacks$State;", Cond.fieldLink RX6 16 "LampRacks" "before" "LLampRacks$State;", Cond.fieldLink RX6 19 "LampRacks" "ahead" "LLampRacks$State;", Cond.fieldLink RX6 22 "LampRacks" "snapshot" "LLampRacks$State;", Cond.fieldLink RX6 25 "LampRacks" "hasSnapshot" "Z", Cond.classLink RX6 29 RX1, Cond.instantiable RX1 2, Cond.initialized RX1, Cond.fieldLink RX6 32 "LampRacks" "history" "LLampRacks$History;"]
def wsL_law_r2 : List Cond := [Cond.classLink RX6 36 RX5, Cond.instantiable RX5 10, Cond.initialized RX5, Cond.fieldLink RX6 39 "LampRacks" "text" "LLampRacks$Text;", Cond.fieldLink RX6 43 "LampRacks" "stoppedThing" "I", Cond.fieldLink RX6 47 "LampRacks" "stoppedError" "I", Cond.instanceMethod yX4_init, Cond.code yX4_init cX4_init 1 none, Cond.methodLink RX4 3 objectInit, Cond.fieldLink RX4 9 "LampRacks$State" "hour" "I", Cond.fieldLink RX4 15 "LampRacks$State" "wantedVolts" "I", Cond.fieldLink RX4 18 "LampRacks$State" "doublingVolts" "I", Cond.classLink RX4 21 RX0, Cond.instantiable RX0 2, Cond.initialized RX0, Cond.fieldLink RX4 24 "LampRacks$State" "batches" "LLampRacks$Batches;", Cond.classLink RX4 28 RX2, Cond.instantiable RX2 7, Cond.initialized RX2, Cond.fieldLink RX4 31 "LampRacks$State" "lamps" "LLampRacks$Lamps;", Cond.classLink RX4 35 RX3, Cond.instantiable RX3 5, Cond.initialized RX3, Cond.fieldLink RX4 38 "LampRacks$State" "racks" "LLampRacks$Racks;"]
def wsL_law_r3 : List Cond := [Cond.methodLink RX4 23 yX0_init, Cond.instanceMethod yX0_init, Cond.code yX0_init cX0_init 2 none, Cond.methodLink RX0 3 objectInit, Cond.arrayClass .int, Cond.fieldLink RX0 9 "LampRacks$Batches" "life" "[I", Cond.fieldLink RX0 15 "LampRacks$Batches" "spread" "[I", Cond.instanceMethod yX2_init, Cond.code yX2_init cX2_init 1 none, Cond.methodLink RX2 3 objectInit, Cond.fieldLink RX2 9 "LampRacks$Lamps" "size" "I", Cond.fieldLink RX2 15 "LampRacks$Lamps" "batch" "[I", Cond.fieldLink RX2 19 "LampRacks$Lamps" "spot" "[I", Cond.fieldLink RX2 22 "LampRacks$Lamps" "canLast" "[I", Cond.fieldLink RX2 25 "LampRacks$Lamps" "wear" "[I", Cond.fieldLink RX2 28 "LampRacks$Lamps" "burned" "[I", Cond.fieldLink RX2 31 "LampRacks$Lamps" "end" "[I", Cond.methodLink RX4 37 yX3_init, Cond.instanceMethod yX3_init, Cond.code yX3_init cX3_init 1 none, Cond.methodLink RX3 3 objectInit, Cond.fieldLink RX3 9 "LampRacks$Racks" "lampAt" "[I", Cond.fieldLink RX3 15 "LampRacks$Racks" "volts" "[I", Cond.fieldLink RX3 18 "LampRacks$Racks" "stepHours" "[I"]
def wsL_law_r4 : List Cond := [Cond.fieldLink RX3 21 "LampRacks$Racks" "stepVolts" "[I", Cond.fieldLink RX3 24 "LampRacks$Racks" "hoursOfStep" "[I", Cond.methodLink RX3 27 yJ7_fill_53178, Cond.static yJ7_fill_53178, Cond.initialized RJ7, Cond.code yJ7_fill_53178 cJ7_fill_53178 4 none, Cond.methodLink RX6 31 yX1_init, Cond.instanceMethod yX1_init, Cond.code yX1_init cX1_init 2 none, Cond.methodLink RX1 3 objectInit, Cond.fieldLink RX1 9 "LampRacks$History" "size" "I", Cond.classLink RX1 15 RX4, Cond.fieldLink RX1 17 "LampRacks$History" "states" "[LLampRacks$State;", Cond.instanceMethod yX5_init, Cond.code yX5_init cX5_init 1 none, Cond.methodLink RX5 3 objectInit, Cond.fieldLink RX5 9 "LampRacks$Text" "length" "I", Cond.arrayClass .char, Cond.fieldLink RX5 15 "LampRacks$Text" "characters" "[C", Cond.fieldLink RX5 19 "LampRacks$Text" "position" "I", Cond.fieldLink RX5 22 "LampRacks$Text" "things" "I", Cond.fieldLink RX5 25 "LampRacks$Text" "kind" "I", Cond.fieldLink RX5 28 "LampRacks$Text" "rack" "I", Cond.fieldLink RX5 31 "LampRacks$Text" "place" "I"]
def wsL_law_r5 : List Cond := [Cond.fieldLink RX5 34 "LampRacks$Text" "hours" "I", Cond.fieldLink RX5 37 "LampRacks$Text" "direction" "I", Cond.fieldLink RX5 40 "LampRacks$Text" "number" "I", Cond.methodLink RL 12 yX7_init, Cond.instanceMethod yX7_init, Cond.code yX7_init cX7_init 2 none, Cond.methodLink RX7 1 objectInit, Cond.fieldLink RX7 7 "LampRacksModel" "z" "[I", Cond.fieldLink RX7 13 "LampRacksModel" "spare" "[I", Cond.fieldLink RX7 16 "LampRacksModel" "past" "[I", Cond.fieldLink RX7 19 "LampRacksModel" "kept" "[I", Cond.fieldLink RX7 22 "LampRacksModel" "text" "[I", Cond.fieldLink RX7 25 "LampRacksModel" "told" "[I", Cond.methodLink RL 13 yX6_setBatch, Cond.instanceMethod yX6_setBatch, Cond.selects RX6 yX6_setBatch yX6_setBatch, Cond.code yX6_setBatch cX6_setBatch 4 (some .int), Cond.methodLink RX6 50 yX4_copyFrom, Cond.instanceMethod yX4_copyFrom, Cond.selects RX4 yX4_copyFrom yX4_copyFrom, Cond.code yX4_copyFrom cX4_copyFrom 2 none, Cond.methodLink RX4 42 yX0_copyFrom, Cond.instanceMethod yX0_copyFrom, Cond.selects RX0 yX0_copyFrom yX0_copyFrom]
def wsL_law_r6 : List Cond := [Cond.code yX0_copyFrom cX0_copyFrom 2 none, Cond.static yX6_copy, Cond.code yX6_copy cX6_copy 2 none, Cond.methodLink RX6 236 Lib.Math.min.name, Cond.static Lib.Math.min.name, Cond.initialized "java/lang/Math", Cond.code Lib.Math.min.name Lib.Math.min.code 2 (some .int), Cond.methodLink RX6 241 arraycopyName, Cond.native arraycopyName, Cond.static arraycopyName, Cond.initialized "java/lang/System", Cond.methodLink RX4 46 yX2_copyFrom, Cond.instanceMethod yX2_copyFrom, Cond.selects RX2 yX2_copyFrom yX2_copyFrom, Cond.code yX2_copyFrom cX2_copyFrom 2 none, Cond.methodLink RX4 49 yX3_copyFrom, Cond.instanceMethod yX3_copyFrom, Cond.selects RX3 yX3_copyFrom yX3_copyFrom, Cond.code yX3_copyFrom cX3_copyFrom 2 none, Cond.methodLink RX6 54 yX4_changeBatch, Cond.instanceMethod yX4_changeBatch, Cond.selects RX4 yX4_changeBatch yX4_changeBatch, Cond.code yX4_changeBatch cX4_changeBatch 5 (some .int), Cond.fieldLink RX4 60 "LampRacks$Batches" "life" "[I"]
def wsL_law_r7 : List Cond := [Cond.fieldLink RX4 64 "LampRacks$Batches" "spread" "[I", Cond.static yX6_isBatch, Cond.code yX6_isBatch cX6_isBatch 1 (some .boolean), Cond.methodLink RX6 117 yX6_isWithin, Cond.static yX6_isWithin, Cond.code yX6_isWithin cX6_isWithin 3 (some .boolean), Cond.methodLink RX6 58 yX6_recorded, Cond.instanceMethod yX6_recorded, Cond.selects RX6 yX6_recorded yX6_recorded, Cond.code yX6_recorded cX6_recorded 2 (some .int), Cond.methodLink RX6 210 yX1_append, Cond.instanceMethod yX1_append, Cond.selects RX1 yX1_append yX1_append, Cond.code yX1_append cX1_append 2 none, Cond.methodLink RX1 22 yX1_dropOldest, Cond.instanceMethod yX1_dropOldest, Cond.selects RX1 yX1_dropOldest yX1_dropOldest, Cond.code yX1_dropOldest cX1_dropOldest 3 none, Cond.methodLink RX1 25 yX4_copyFrom, Cond.methodLink RL 17 yX7_setBatch, Cond.instanceMethod yX7_setBatch, Cond.selects RX7 yX7_setBatch yX7_setBatch, Cond.code yX7_setBatch cX7_setBatch 6 (some .int), Cond.methodLink RX7 55 yX7_isBatch]
def wsL_law_r8 : List Cond := [Cond.static yX7_isBatch, Cond.code yX7_isBatch cX7_isBatch 1 (some .boolean), Cond.methodLink RX7 28 yX7_in, Cond.static yX7_in, Cond.code yX7_in cX7_in 3 (some .boolean), Cond.methodLink RX7 52 yX7_record, Cond.instanceMethod yX7_record, Cond.selects RX7 yX7_record yX7_record, Cond.code yX7_record cX7_record 1 none, Cond.methodLink RX7 44 yX7_recordRow, Cond.instanceMethod yX7_recordRow, Cond.selects RX7 yX7_recordRow yX7_recordRow, Cond.code yX7_recordRow cX7_recordRow 3 none, Cond.fieldLink RX7 36 "LampRacksModel" "states" "I", Cond.methodLink RX7 40 yX7_copyState, Cond.static yX7_copyState, Cond.code yX7_copyState cX7_copyState 5 none, Cond.methodLink RL 18 yX6_put, Cond.instanceMethod yX6_put, Cond.selects RX6 yX6_put yX6_put, Cond.code yX6_put cX6_put 4 (some .int), Cond.methodLink RX6 62 yX4_insertLamp, Cond.instanceMethod yX4_insertLamp, Cond.selects RX4 yX4_insertLamp yX4_insertLamp]
def wsL_law_r9 : List Cond := [Cond.code yX4_insertLamp cX4_insertLamp 6 (some .int), Cond.fieldLink RX4 75 "LampRacks$Racks" "lampAt" "[I", Cond.fieldLink RX4 82 "LampRacks$Lamps" "size" "I", Cond.static yX6_isPlace, Cond.code yX6_isPlace cX6_isPlace 2 (some .boolean), Cond.methodLink RX6 230 yX6_isRack, Cond.static yX6_isRack, Cond.code yX6_isRack cX6_isRack 1 (some .boolean), Cond.static yX6_spotOf, Cond.code yX6_spotOf cX6_spotOf 2 (some .int), Cond.methodLink RX4 78 yX2_isFull, Cond.instanceMethod yX2_isFull, Cond.selects RX2 yX2_isFull yX2_isFull, Cond.code yX2_isFull cX2_isFull 1 (some .boolean), Cond.methodLink RX4 85 yX0_hoursOfLamp, Cond.instanceMethod yX0_hoursOfLamp, Cond.selects RX0 yX0_hoursOfLamp yX0_hoursOfLamp, Cond.code yX0_hoursOfLamp cX0_hoursOfLamp 5 (some .int), Cond.methodLink RX0 30 Lib.Math.max.name, Cond.static Lib.Math.max.name, Cond.code Lib.Math.max.name Lib.Math.max.code 2 (some .int), Cond.static yX6_shareOf, Cond.code yX6_shareOf cX6_shareOf 1 (some .int), Cond.static yX6_isWeak]
def wsL_law_r10 : List Cond := [Cond.code yX6_isWeak cX6_isWeak 1 (some .boolean), Cond.methodLink RX6 233 yX6_shareOf, Cond.methodLink RX4 88 yX2_append, Cond.instanceMethod yX2_append, Cond.selects RX2 yX2_append yX2_append, Cond.code yX2_append cX2_append 5 (some .int), Cond.methodLink RL 21 yX7_put, Cond.instanceMethod yX7_put, Cond.selects RX7 yX7_put yX7_put, Cond.code yX7_put cX7_put 5 (some .int), Cond.methodLink RX7 72 yX7_whyNotPut, Cond.instanceMethod yX7_whyNotPut, Cond.selects RX7 yX7_whyNotPut yX7_whyNotPut, Cond.code yX7_whyNotPut cX7_whyNotPut 4 (some .int), Cond.methodLink RX7 59 yX7_isRack, Cond.static yX7_isRack, Cond.code yX7_isRack cX7_isRack 1 (some .boolean), Cond.methodLink RX7 62 yX7_isPlace, Cond.static yX7_isPlace, Cond.code yX7_isPlace cX7_isPlace 1 (some .boolean), Cond.methodLink RX7 65 yX7_lampAt, Cond.instanceMethod yX7_lampAt, Cond.selects RX7 yX7_lampAt yX7_lampAt, Cond.code yX7_lampAt cX7_lampAt 5 (some .int)]
def wsL_law_r11 : List Cond := [Cond.methodLink RX7 32 yX7_of, Cond.instanceMethod yX7_of, Cond.selects RX7 yX7_of yX7_of, Cond.code yX7_of cX7_of 3 (some .int), Cond.methodLink RX7 76 yX7_putNow, Cond.instanceMethod yX7_putNow, Cond.selects RX7 yX7_putNow yX7_putNow, Cond.code yX7_putNow cX7_putNow 8 (some .int), Cond.methodLink RX7 68 yX7_lay, Cond.instanceMethod yX7_lay, Cond.selects RX7 yX7_lay yX7_lay, Cond.code yX7_lay cX7_lay 4 none, Cond.methodLink RL 22 yX6_takeOut, Cond.instanceMethod yX6_takeOut, Cond.selects RX6 yX6_takeOut yX6_takeOut, Cond.code yX6_takeOut cX6_takeOut 3 (some .int), Cond.methodLink RX6 65 yX4_removeLamp, Cond.instanceMethod yX4_removeLamp, Cond.selects RX4 yX4_removeLamp yX4_removeLamp, Cond.code yX4_removeLamp cX4_removeLamp 5 (some .int), Cond.fieldLink RX4 92 "LampRacks$Lamps" "spot" "[I", Cond.methodLink RL 26 yX7_takeOut, Cond.instanceMethod yX7_takeOut, Cond.selects RX7 yX7_takeOut yX7_takeOut]
def wsL_law_r12 : List Cond := [Cond.code yX7_takeOut cX7_takeOut 4 (some .int), Cond.methodLink RX7 79 yX7_moveTo, Cond.instanceMethod yX7_moveTo, Cond.selects RX7 yX7_moveTo yX7_moveTo, Cond.code yX7_moveTo cX7_moveTo 4 none, Cond.methodLink RL 27 yX6_swap, Cond.instanceMethod yX6_swap, Cond.selects RX6 yX6_swap yX6_swap, Cond.code yX6_swap cX6_swap 5 (some .int), Cond.methodLink RX6 69 yX4_exchange, Cond.instanceMethod yX4_exchange, Cond.selects RX4 yX4_exchange yX4_exchange, Cond.code yX4_exchange cX4_exchange 9 (some .int), Cond.methodLink RX4 95 yX4_moveTo, Cond.instanceMethod yX4_moveTo, Cond.selects RX4 yX4_moveTo yX4_moveTo, Cond.code yX4_moveTo cX4_moveTo 3 (some .int), Cond.methodLink RL 31 yX7_swap, Cond.instanceMethod yX7_swap, Cond.selects RX7 yX7_swap yX7_swap, Cond.code yX7_swap cX7_swap 8 (some .int), Cond.methodLink RL 32 yX6_setVolts, Cond.instanceMethod yX6_setVolts, Cond.selects RX6 yX6_setVolts yX6_setVolts]
def wsL_law_r13 : List Cond := [Cond.code yX6_setVolts cX6_setVolts 3 (some .int), Cond.methodLink RX6 73 yX4_changeVolts, Cond.instanceMethod yX4_changeVolts, Cond.selects RX4 yX4_changeVolts yX4_changeVolts, Cond.code yX4_changeVolts cX4_changeVolts 4 (some .int), Cond.fieldLink RX4 101 "LampRacks$Racks" "volts" "[I", Cond.methodLink RL 35 yX7_setVolts, Cond.instanceMethod yX7_setVolts, Cond.selects RX7 yX7_setVolts yX7_setVolts, Cond.code yX7_setVolts cX7_setVolts 5 (some .int), Cond.methodLink RX7 82 yX7_whyNotVolts, Cond.instanceMethod yX7_whyNotVolts, Cond.selects RX7 yX7_whyNotVolts yX7_whyNotVolts, Cond.code yX7_whyNotVolts cX7_whyNotVolts 3 (some .int), Cond.methodLink RX7 85 yX7_ofRack, Cond.instanceMethod yX7_ofRack, Cond.selects RX7 yX7_ofRack yX7_ofRack, Cond.code yX7_ofRack cX7_ofRack 3 (some .int), Cond.methodLink RL 36 yX6_setSteps, Cond.instanceMethod yX6_setSteps, Cond.selects RX6 yX6_setSteps yX6_setSteps, Cond.code yX6_setSteps cX6_setSteps 4 (some .int), Cond.methodLink RX6 76 yX4_changeSteps, Cond.instanceMethod yX4_changeSteps]
def wsL_law_r14 : List Cond := [Cond.selects RX4 yX4_changeSteps yX4_changeSteps, Cond.code yX4_changeSteps cX4_changeSteps 5 (some .int), Cond.fieldLink RX4 104 "LampRacks$Racks" "stepHours" "[I", Cond.fieldLink RX4 107 "LampRacks$Racks" "stepVolts" "[I", Cond.fieldLink RX4 110 "LampRacks$Racks" "hoursOfStep" "[I", Cond.methodLink RL 39 yX7_setSteps, Cond.instanceMethod yX7_setSteps, Cond.selects RX7 yX7_setSteps yX7_setSteps, Cond.code yX7_setSteps cX7_setSteps 5 (some .int), Cond.methodLink RX7 88 yX7_stepsNow, Cond.instanceMethod yX7_stepsNow, Cond.selects RX7 yX7_stepsNow yX7_stepsNow, Cond.code yX7_stepsNow cX7_stepsNow 5 none, Cond.methodLink RL 40 yX6_set, Cond.instanceMethod yX6_set, Cond.selects RX6 yX6_set yX6_set, Cond.code yX6_set cX6_set 3 (some .int), Cond.methodLink RX6 79 yX4_changeSetting, Cond.instanceMethod yX4_changeSetting, Cond.selects RX4 yX4_changeSetting yX4_changeSetting, Cond.code yX4_changeSetting cX4_changeSetting 3 (some .int), Cond.methodLink RX4 113 yX4_changeWantedVolts, Cond.instanceMethod yX4_changeWantedVolts, Cond.selects RX4 yX4_changeWantedVolts yX4_changeWantedVolts]
def wsL_law_r15 : List Cond := [Cond.code yX4_changeWantedVolts cX4_changeWantedVolts 3 (some .int), Cond.methodLink RX4 117 yX4_changeDoublingVolts, Cond.instanceMethod yX4_changeDoublingVolts, Cond.selects RX4 yX4_changeDoublingVolts yX4_changeDoublingVolts, Cond.code yX4_changeDoublingVolts cX4_changeDoublingVolts 3 (some .int), Cond.methodLink RL 43 yX7_set, Cond.instanceMethod yX7_set, Cond.selects RX7 yX7_set yX7_set, Cond.code yX7_set cX7_set 4 (some .int), Cond.methodLink RL 44 yX6_pass, Cond.instanceMethod yX6_pass, Cond.selects RX6 yX6_pass yX6_pass, Cond.code yX6_pass cX6_pass 2 (some .int), Cond.methodLink RX6 82 yX4_letPass, Cond.instanceMethod yX4_letPass, Cond.selects RX4 yX4_letPass yX4_letPass, Cond.code yX4_letPass cX4_letPass 2 (some .int), Cond.constant RX4 120 (99999), Cond.methodLink RX4 121 yX4_passHours, Cond.instanceMethod yX4_passHours, Cond.selects RX4 yX4_passHours yX4_passHours, Cond.code yX4_passHours cX4_passHours 4 (some .int), Cond.methodLink RX4 124 yX4_passHoursOfRack, Cond.instanceMethod yX4_passHoursOfRack]
def wsL_law_r16 : List Cond := [Cond.selects RX4 yX4_passHoursOfRack yX4_passHoursOfRack, Cond.code yX4_passHoursOfRack cX4_passHoursOfRack 6 (some .int), Cond.methodLink RX4 130 Lib.Math.max.name, Cond.methodLink RX4 127 yX3_hoursAtSameVolts, Cond.instanceMethod yX3_hoursAtSameVolts, Cond.selects RX3 yX3_hoursAtSameVolts yX3_hoursAtSameVolts, Cond.code yX3_hoursAtSameVolts cX3_hoursAtSameVolts 3 (some .int), Cond.methodLink RX3 37 Lib.Math.min.name, Cond.methodLink RX3 46 yX3_voltsAfterStep, Cond.instanceMethod yX3_voltsAfterStep, Cond.selects RX3 yX3_voltsAfterStep yX3_voltsAfterStep, Cond.code yX3_voltsAfterStep cX3_voltsAfterStep 2 (some .int), Cond.methodLink RX3 43 Lib.Math.max.name, Cond.methodLink RX3 50 yX3_hoursToStep, Cond.instanceMethod yX3_hoursToStep, Cond.selects RX3 yX3_hoursToStep yX3_hoursToStep, Cond.code yX3_hoursToStep cX3_hoursToStep 2 (some .int), Cond.methodLink RX4 135 yX4_burnRack, Cond.instanceMethod yX4_burnRack, Cond.selects RX4 yX4_burnRack yX4_burnRack, Cond.code yX4_burnRack cX4_burnRack 10 (some .int), Cond.methodLink RX4 158 Lib.Math.min.name, Cond.fieldLink RX4 165 "LampRacks$Lamps" "end" "[I", Cond.methodLink RX4 142 yX3_isDark]
def wsL_law_r17 : List Cond := [Cond.instanceMethod yX3_isDark, Cond.selects RX3 yX3_isDark yX3_isDark, Cond.code yX3_isDark cX3_isDark 2 (some .boolean), Cond.methodLink RX4 145 yX2_isDead, Cond.instanceMethod yX2_isDead, Cond.selects RX2 yX2_isDead yX2_isDead, Cond.code yX2_isDead cX2_isDead 2 (some .boolean), Cond.static yX6_isHot, Cond.code yX6_isHot cX6_isHot 1 (some .boolean), Cond.methodLink RX4 151 yX4_wearOfHour, Cond.instanceMethod yX4_wearOfHour, Cond.selects RX4 yX4_wearOfHour yX4_wearOfHour, Cond.code yX4_wearOfHour cX4_wearOfHour 5 (some .int), Cond.methodLink RX4 155 yX2_hoursLeft, Cond.instanceMethod yX2_hoursLeft, Cond.selects RX2 yX2_hoursLeft yX2_hoursLeft, Cond.code yX2_hoursLeft cX2_hoursLeft 5 (some .int), Cond.methodLink RX2 46 Lib.Math.max.name, Cond.methodLink RX4 161 yX2_burn, Cond.instanceMethod yX2_burn, Cond.selects RX2 yX2_burn yX2_burn, Cond.code yX2_burn cX2_burn 4 none, Cond.methodLink RX4 138 yX3_countHours, Cond.instanceMethod yX3_countHours]
def wsL_law_r18 : List Cond := [Cond.selects RX3 yX3_countHours yX3_countHours, Cond.code yX3_countHours cX3_countHours 5 none, Cond.methodLink RL 48 yX7_pass, Cond.instanceMethod yX7_pass, Cond.selects RX7 yX7_pass yX7_pass, Cond.code yX7_pass cX7_pass 3 (some .int), Cond.methodLink RX7 109 yX7_whyNotPass, Cond.instanceMethod yX7_whyNotPass, Cond.selects RX7 yX7_whyNotPass yX7_whyNotPass, Cond.code yX7_whyNotPass cX7_whyNotPass 2 (some .int), Cond.constant RX7 104 (99999), Cond.methodLink RX7 113 yX7_passNow, Cond.instanceMethod yX7_passNow, Cond.selects RX7 yX7_passNow yX7_passNow, Cond.code yX7_passNow cX7_passNow 4 (some .int), Cond.methodLink RX7 105 yX7_anHour, Cond.instanceMethod yX7_anHour, Cond.selects RX7 yX7_anHour yX7_anHour, Cond.code yX7_anHour cX7_anHour 5 (some .int), Cond.methodLink RX7 94 yX7_burns, Cond.instanceMethod yX7_burns, Cond.selects RX7 yX7_burns yX7_burns, Cond.code yX7_burns cX7_burns 2 (some .boolean), Cond.methodLink RX7 91 yX7_isDead]
def wsL_law_r19 : List Cond := [Cond.instanceMethod yX7_isDead, Cond.selects RX7 yX7_isDead yX7_isDead, Cond.code yX7_isDead cX7_isDead 2 (some .boolean), Cond.methodLink RX7 97 yX7_isHot, Cond.instanceMethod yX7_isHot, Cond.selects RX7 yX7_isHot yX7_isHot, Cond.code yX7_isHot cX7_isHot 2 (some .boolean), Cond.methodLink RX7 100 yX7_wearAt, Cond.instanceMethod yX7_wearAt, Cond.selects RX7 yX7_wearAt yX7_wearAt, Cond.code yX7_wearAt cX7_wearAt 4 (some .int), Cond.methodLink RL 49 yX6_type, Cond.instanceMethod yX6_type, Cond.selects RX6 yX6_type yX6_type, Cond.code yX6_type cX6_type 2 (some .int), Cond.methodLink RX6 85 yX5_append, Cond.instanceMethod yX5_append, Cond.selects RX5 yX5_append yX5_append, Cond.code yX5_append cX5_append 2 (some .int), Cond.methodLink RL 53 yX7_type, Cond.instanceMethod yX7_type, Cond.selects RX7 yX7_type yX7_type, Cond.code yX7_type cX7_type 2 (some .int), Cond.fieldLink RX7 116 "LampRacksModel" "length" "I"]
def wsL_law_r20 : List Cond := [Cond.methodLink RL 54 yX6_clearText, Cond.instanceMethod yX6_clearText, Cond.selects RX6 yX6_clearText yX6_clearText, Cond.code yX6_clearText cX6_clearText 1 (some .int), Cond.methodLink RX6 89 yX5_empty, Cond.instanceMethod yX5_empty, Cond.selects RX5 yX5_empty yX5_empty, Cond.code yX5_empty cX5_empty 2 (some .int), Cond.methodLink RL 58 yX7_clearText, Cond.instanceMethod yX7_clearText, Cond.selects RX7 yX7_clearText yX7_clearText, Cond.code yX7_clearText cX7_clearText 2 (some .int), Cond.methodLink RL 59 yX6_perform, Cond.instanceMethod yX6_perform, Cond.selects RX6 yX6_perform yX6_perform, Cond.code yX6_perform cX6_perform 5 (some .int), Cond.fieldLink RX6 96 "LampRacks$Text" "things" "I", Cond.methodLink RX6 93 yX5_findFault, Cond.instanceMethod yX5_findFault, Cond.selects RX5 yX5_findFault yX5_findFault, Cond.code yX5_findFault cX5_findFault 2 (some .int), Cond.methodLink RX5 43 yX5_startReading, Cond.instanceMethod yX5_startReading, Cond.selects RX5 yX5_startReading yX5_startReading]
def wsL_law_r21 : List Cond := [Cond.code yX5_startReading cX5_startReading 1 none, Cond.methodLink RX5 46 yX5_readThing, Cond.instanceMethod yX5_readThing, Cond.selects RX5 yX5_readThing yX5_readThing, Cond.code yX5_readThing cX5_readThing 1 (some .boolean), Cond.methodLink RX5 54 yX5_current, Cond.instanceMethod yX5_current, Cond.selects RX5 yX5_current yX5_current, Cond.code yX5_current cX5_current 1 (some .int), Cond.methodLink RX5 50 yX5_readSign, Cond.instanceMethod yX5_readSign, Cond.selects RX5 yX5_readSign yX5_readSign, Cond.code yX5_readSign cX5_readSign 2 (some .boolean), Cond.methodLink RX5 58 yX5_readSpot, Cond.instanceMethod yX5_readSpot, Cond.selects RX5 yX5_readSpot yX5_readSpot, Cond.code yX5_readSpot cX5_readSpot 1 (some .boolean), Cond.methodLink RX5 75 yX5_readRack, Cond.instanceMethod yX5_readRack, Cond.selects RX5 yX5_readRack yX5_readRack, Cond.code yX5_readRack cX5_readRack 1 (some .boolean), Cond.methodLink RX5 61 yX5_readDigit, Cond.instanceMethod yX5_readDigit, Cond.selects RX5 yX5_readDigit yX5_readDigit]
def wsL_law_r22 : List Cond := [Cond.code yX5_readDigit cX5_readDigit 2 (some .boolean), Cond.methodLink RX5 65 yX5_readRackAndColon, Cond.instanceMethod yX5_readRackAndColon, Cond.selects RX5 yX5_readRackAndColon yX5_readRackAndColon, Cond.code yX5_readRackAndColon cX5_readRackAndColon 1 (some .boolean), Cond.methodLink RX5 68 yX5_readNumber, Cond.instanceMethod yX5_readNumber, Cond.selects RX5 yX5_readNumber yX5_readNumber, Cond.code yX5_readNumber cX5_readNumber 3 (some .boolean), Cond.methodLink RX5 85 yX5_isNextDigit, Cond.instanceMethod yX5_isNextDigit, Cond.selects RX5 yX5_isNextDigit yX5_isNextDigit, Cond.code yX5_isNextDigit cX5_isNextDigit 2 (some .boolean), Cond.methodLink RX5 72 yX5_readSteps, Cond.instanceMethod yX5_readSteps, Cond.selects RX5 yX5_readSteps yX5_readSteps, Cond.code yX5_readSteps cX5_readSteps 1 (some .boolean), Cond.methodLink RX5 78 yX5_readDirection, Cond.instanceMethod yX5_readDirection, Cond.selects RX5 yX5_readDirection yX5_readDirection, Cond.code yX5_readDirection cX5_readDirection 1 (some .boolean), Cond.methodLink RX6 99 yX5_startReading, Cond.methodLink RX6 102 yX5_readThing, Cond.methodLink RX6 106 yX6_doThing]
def wsL_law_r23 : List Cond := [Cond.instanceMethod yX6_doThing, Cond.selects RX6 yX6_doThing yX6_doThing, Cond.code yX6_doThing cX6_doThing 1 (some .int), Cond.fieldLink RX6 212 "LampRacks$Text" "kind" "I", Cond.fieldLink RX6 215 "LampRacks$Text" "rack" "I", Cond.fieldLink RX6 218 "LampRacks$Text" "place" "I", Cond.fieldLink RX6 221 "LampRacks$Text" "number" "I", Cond.fieldLink RX6 224 "LampRacks$Text" "hours" "I", Cond.fieldLink RX6 227 "LampRacks$Text" "direction" "I", Cond.methodLink RX6 109 yX6_isError, Cond.static yX6_isError, Cond.code yX6_isError cX6_isError 1 (some .boolean), Cond.methodLink RX6 113 yX5_readSign, Cond.methodLink RL 62 yX7_perform, Cond.instanceMethod yX7_perform, Cond.selects RX7 yX7_perform yX7_perform, Cond.code yX7_perform cX7_perform 3 (some .int), Cond.fieldLink RX7 119 "LampRacksModel" "spot" "I", Cond.fieldLink RX7 126 "LampRacksModel" "toldMany" "I", Cond.fieldLink RX7 148 "LampRacksModel" "stopNumber" "I", Cond.fieldLink RX7 151 "LampRacksModel" "stopError" "I", Cond.methodLink RX7 142 yX7_readText, Cond.instanceMethod yX7_readText, Cond.selects RX7 yX7_readText yX7_readText]
def wsL_law_r24 : List Cond := [Cond.code yX7_readText cX7_readText 2 (some .boolean), Cond.methodLink RX7 139 yX7_readThing, Cond.instanceMethod yX7_readThing, Cond.selects RX7 yX7_readThing yX7_readThing, Cond.code yX7_readThing cX7_readThing 3 (some .boolean), Cond.methodLink RX7 129 yX7_number, Cond.instanceMethod yX7_number, Cond.selects RX7 yX7_number yX7_number, Cond.code yX7_number cX7_number 7 (some .boolean), Cond.methodLink RX7 122 yX7_sees, Cond.instanceMethod yX7_sees, Cond.selects RX7 yX7_sees yX7_sees, Cond.code yX7_sees cX7_sees 3 (some .boolean), Cond.methodLink RX7 132 yX7_takes, Cond.instanceMethod yX7_takes, Cond.selects RX7 yX7_takes yX7_takes, Cond.code yX7_takes cX7_takes 3 (some .boolean), Cond.methodLink RX7 135 yX7_readSteps, Cond.instanceMethod yX7_readSteps, Cond.selects RX7 yX7_readSteps yX7_readSteps, Cond.code yX7_readSteps cX7_readSteps 3 (some .boolean), Cond.methodLink RX7 145 yX7_whyNot, Cond.instanceMethod yX7_whyNot, Cond.selects RX7 yX7_whyNot yX7_whyNot]
def wsL_law_r25 : List Cond := [Cond.code yX7_whyNot cX7_whyNot 4 (some .int), Cond.methodLink RX7 154 yX7_doThing, Cond.instanceMethod yX7_doThing, Cond.selects RX7 yX7_doThing yX7_doThing, Cond.code yX7_doThing cX7_doThing 5 none, Cond.methodLink RL 63 yX6_stopped, Cond.instanceMethod yX6_stopped, Cond.selects RX6 yX6_stopped yX6_stopped, Cond.code yX6_stopped cX6_stopped 2 (some .int), Cond.methodLink RL 66 yX7_stopped, Cond.instanceMethod yX7_stopped, Cond.selects RX7 yX7_stopped yX7_stopped, Cond.code yX7_stopped cX7_stopped 2 (some .int), Cond.methodLink RL 67 yX6_undo, Cond.instanceMethod yX6_undo, Cond.selects RX6 yX6_undo yX6_undo, Cond.code yX6_undo cX6_undo 1 (some .int), Cond.fieldLink RX6 121 "LampRacks$History" "size" "I", Cond.methodLink RX6 124 yX1_moveLatestTo, Cond.instanceMethod yX1_moveLatestTo, Cond.selects RX1 yX1_moveLatestTo yX1_moveLatestTo, Cond.code yX1_moveLatestTo cX1_moveLatestTo 2 none, Cond.methodLink RL 70 yX7_undo, Cond.instanceMethod yX7_undo]
def wsL_law_r26 : List Cond := [Cond.selects RX7 yX7_undo yX7_undo, Cond.code yX7_undo cX7_undo 1 (some .int), Cond.methodLink RL 71 yX6_keep, Cond.instanceMethod yX6_keep, Cond.selects RX6 yX6_keep yX6_keep, Cond.code yX6_keep cX6_keep 1 (some .int), Cond.fieldLink RX6 127 "LampRacks$State" "lamps" "LLampRacks$Lamps;", Cond.fieldLink RX6 131 "LampRacks$Lamps" "size" "I", Cond.methodLink RL 74 yX7_keep, Cond.instanceMethod yX7_keep, Cond.selects RX7 yX7_keep yX7_keep, Cond.code yX7_keep cX7_keep 1 (some .int), Cond.fieldLink RX7 48 "LampRacksModel" "isKept" "Z", Cond.methodLink RL 75 yX6_restore, Cond.instanceMethod yX6_restore, Cond.selects RX6 yX6_restore yX6_restore, Cond.code yX6_restore cX6_restore 1 (some .int), Cond.methodLink RL 78 yX7_restore, Cond.instanceMethod yX7_restore, Cond.selects RX7 yX7_restore yX7_restore, Cond.code yX7_restore cX7_restore 1 (some .int), Cond.methodLink RL 79 yX6_lamp, Cond.instanceMethod yX6_lamp, Cond.selects RX6 yX6_lamp yX6_lamp]
def wsL_law_r27 : List Cond := [Cond.code yX6_lamp cX6_lamp 3 (some .int), Cond.methodLink RX6 134 yX4_tellOfLamp, Cond.instanceMethod yX4_tellOfLamp, Cond.selects RX4 yX4_tellOfLamp yX4_tellOfLamp, Cond.code yX4_tellOfLamp cX4_tellOfLamp 4 (some .int), Cond.fieldLink RX4 171 "LampRacks$Lamps" "batch" "[I", Cond.fieldLink RX4 174 "LampRacks$Lamps" "canLast" "[I", Cond.fieldLink RX4 177 "LampRacks$Lamps" "wear" "[I", Cond.fieldLink RX4 180 "LampRacks$Lamps" "burned" "[I", Cond.methodLink RX4 168 yX2_has, Cond.instanceMethod yX2_has, Cond.selects RX2 yX2_has yX2_has, Cond.code yX2_has cX2_has 2 (some .boolean), Cond.methodLink RX4 183 yX2_hoursCounted, Cond.instanceMethod yX2_hoursCounted, Cond.selects RX2 yX2_hoursCounted yX2_hoursCounted, Cond.code yX2_hoursCounted cX2_hoursCounted 2 (some .int), Cond.static yX6_oneIf, Cond.code yX6_oneIf cX6_oneIf 1 (some .int), Cond.methodLink RL 82 yX7_lamp, Cond.instanceMethod yX7_lamp, Cond.selects RX7 yX7_lamp yX7_lamp, Cond.code yX7_lamp cX7_lamp 3 (some .int), Cond.methodLink RX7 158 yX7_isLamp]
def wsL_law_r28 : List Cond := [Cond.instanceMethod yX7_isLamp, Cond.selects RX7 yX7_isLamp yX7_isLamp, Cond.code yX7_isLamp cX7_isLamp 2 (some .boolean), Cond.methodLink RX7 161 yX7_counts, Cond.instanceMethod yX7_counts, Cond.selects RX7 yX7_counts yX7_counts, Cond.code yX7_counts cX7_counts 2 (some .int), Cond.methodLink RL 83 yX6_rack, Cond.instanceMethod yX6_rack, Cond.selects RX6 yX6_rack yX6_rack, Cond.code yX6_rack cX6_rack 3 (some .int), Cond.methodLink RX6 137 yX4_tellOfRack, Cond.instanceMethod yX4_tellOfRack, Cond.selects RX4 yX4_tellOfRack yX4_tellOfRack, Cond.code yX4_tellOfRack cX4_tellOfRack 4 (some .int), Cond.methodLink RX4 193 yX4_countInRack, Cond.instanceMethod yX4_countInRack, Cond.selects RX4 yX4_countInRack yX4_countInRack, Cond.code yX4_countInRack cX4_countInRack 6 (some .int), Cond.methodLink RX4 196 yX3_hoursToStep, Cond.methodLink RL 86 yX7_rack, Cond.instanceMethod yX7_rack, Cond.selects RX7 yX7_rack yX7_rack, Cond.code yX7_rack cX7_rack 4 (some .int)]
def wsL_law_r29 : List Cond := [Cond.methodLink RX7 164 yX7_lampsIn, Cond.instanceMethod yX7_lampsIn, Cond.selects RX7 yX7_lampsIn yX7_lampsIn, Cond.code yX7_lampsIn cX7_lampsIn 5 (some .int), Cond.methodLink RL 87 yX6_at, Cond.instanceMethod yX6_at, Cond.selects RX6 yX6_at yX6_at, Cond.code yX6_at cX6_at 4 (some .int), Cond.fieldLink RX6 144 "LampRacks$State" "racks" "LLampRacks$Racks;", Cond.fieldLink RX6 148 "LampRacks$Racks" "lampAt" "[I", Cond.methodLink RX6 140 yX6_isPlace, Cond.methodLink RX6 154 yX6_spotOf, Cond.methodLink RL 90 yX7_at, Cond.instanceMethod yX7_at, Cond.selects RX7 yX7_at yX7_at, Cond.code yX7_at cX7_at 3 (some .int), Cond.methodLink RL 91 yX6_batch, Cond.instanceMethod yX6_batch, Cond.selects RX6 yX6_batch yX6_batch, Cond.code yX6_batch cX6_batch 3 (some .int), Cond.methodLink RX6 157 yX4_tellOfBatch, Cond.instanceMethod yX4_tellOfBatch, Cond.selects RX4 yX4_tellOfBatch yX4_tellOfBatch, Cond.code yX4_tellOfBatch cX4_tellOfBatch 5 (some .int)]
def wsL_law_r30 : List Cond := [Cond.methodLink RX4 199 yX2_countDeadOf, Cond.instanceMethod yX2_countDeadOf, Cond.selects RX2 yX2_countDeadOf yX2_countDeadOf, Cond.code yX2_countDeadOf cX2_countDeadOf 4 (some .int), Cond.methodLink RX2 56 yX2_isDeadOf, Cond.instanceMethod yX2_isDeadOf, Cond.selects RX2 yX2_isDeadOf yX2_isDeadOf, Cond.code yX2_isDeadOf cX2_isDeadOf 3 (some .boolean), Cond.methodLink RX2 42 yX2_isDead, Cond.methodLink RX4 202 yX2_countDeadBelow, Cond.instanceMethod yX2_countDeadBelow, Cond.selects RX2 yX2_countDeadBelow yX2_countDeadBelow, Cond.code yX2_countDeadBelow cX2_countDeadBelow 5 (some .int), Cond.methodLink RX2 60 yX2_hoursCounted, Cond.methodLink RX4 205 yX2_countOf, Cond.instanceMethod yX2_countOf, Cond.selects RX2 yX2_countOf yX2_countOf, Cond.code yX2_countOf cX2_countOf 4 (some .int), Cond.methodLink RX4 208 yX2_middleLife, Cond.instanceMethod yX2_middleLife, Cond.selects RX2 yX2_middleLife yX2_middleLife, Cond.code yX2_middleLife cX2_middleLife 4 (some .int), Cond.methodLink RX2 73 yX2_countOf, Cond.methodLink RX2 76 yX2_countShorterOf]
def wsL_law_r31 : List Cond := [Cond.instanceMethod yX2_countShorterOf, Cond.selects RX2 yX2_countShorterOf yX2_countShorterOf, Cond.code yX2_countShorterOf cX2_countShorterOf 8 (some .int), Cond.methodLink RL 94 yX7_batch, Cond.instanceMethod yX7_batch, Cond.selects RX7 yX7_batch yX7_batch, Cond.code yX7_batch cX7_batch 3 (some .int), Cond.methodLink RX7 167 yX7_lampsOf, Cond.instanceMethod yX7_lampsOf, Cond.selects RX7 yX7_lampsOf yX7_lampsOf, Cond.code yX7_lampsOf cX7_lampsOf 7 (some .int), Cond.methodLink RX7 170 yX7_early, Cond.instanceMethod yX7_early, Cond.selects RX7 yX7_early yX7_early, Cond.code yX7_early cX7_early 2 (some .int), Cond.methodLink RX7 173 yX7_middleLife, Cond.instanceMethod yX7_middleLife, Cond.selects RX7 yX7_middleLife yX7_middleLife, Cond.code yX7_middleLife cX7_middleLife 6 (some .int), Cond.methodLink RL 95 yX6_lasted, Cond.instanceMethod yX6_lasted, Cond.selects RX6 yX6_lasted yX6_lasted, Cond.code yX6_lasted cX6_lasted 3 (some .int), Cond.constant RX6 163 (99999)]
def wsL_law_r32 : List Cond := [Cond.methodLink RX6 160 yX6_isBatch, Cond.methodLink RX6 164 yX2_countThatLasted, Cond.instanceMethod yX2_countThatLasted, Cond.selects RX2 yX2_countThatLasted yX2_countThatLasted, Cond.code yX2_countThatLasted cX2_countThatLasted 5 (some .int), Cond.methodLink RL 98 yX7_lasted, Cond.instanceMethod yX7_lasted, Cond.selects RX7 yX7_lasted yX7_lasted, Cond.code yX7_lasted cX7_lasted 3 (some .int), Cond.methodLink RL 99 yX6_ended, Cond.instanceMethod yX6_ended, Cond.selects RX6 yX6_ended yX6_ended, Cond.code yX6_ended cX6_ended 3 (some .int), Cond.methodLink RX6 167 yX2_findEnded, Cond.instanceMethod yX2_findEnded, Cond.selects RX2 yX2_findEnded yX2_findEnded, Cond.code yX2_findEnded cX2_findEnded 3 (some .int), Cond.methodLink RX2 70 yX2_countEndedBefore, Cond.instanceMethod yX2_countEndedBefore, Cond.selects RX2 yX2_countEndedBefore yX2_countEndedBefore, Cond.code yX2_countEndedBefore cX2_countEndedBefore 5 (some .int), Cond.methodLink RL 102 yX7_ended, Cond.instanceMethod yX7_ended, Cond.selects RX7 yX7_ended yX7_ended]
def wsL_law_r33 : List Cond := [Cond.code yX7_ended cX7_ended 4 (some .int), Cond.methodLink RX7 176 yX7_endsAhead, Cond.instanceMethod yX7_endsAhead, Cond.selects RX7 yX7_endsAhead yX7_endsAhead, Cond.code yX7_endsAhead cX7_endsAhead 4 (some .int), Cond.methodLink RL 103 yX6_lasts, Cond.instanceMethod yX6_lasts, Cond.selects RX6 yX6_lasts yX6_lasts, Cond.code yX6_lasts cX6_lasts 4 (some .int), Cond.fieldLink RX6 176 "LampRacks$Lamps" "spot" "[I", Cond.methodLink RX6 170 yX2_has, Cond.methodLink RX6 173 yX2_isDead, Cond.methodLink RX6 179 yX6_isHot, Cond.methodLink RX6 182 yX4_wearOfHour, Cond.methodLink RX6 186 yX2_hoursLeft, Cond.methodLink RL 106 yX7_lasts, Cond.instanceMethod yX7_lasts, Cond.selects RX7 yX7_lasts yX7_lasts, Cond.code yX7_lasts cX7_lasts 4 (some .int), Cond.methodLink RL 107 yX6_reason, Cond.instanceMethod yX6_reason, Cond.selects RX6 yX6_reason yX6_reason, Cond.code yX6_reason cX6_reason 2 (some .int), Cond.methodLink RX6 189 yX4_whyDark]
def wsL_law_r34 : List Cond := [Cond.instanceMethod yX4_whyDark, Cond.selects RX4 yX4_whyDark yX4_whyDark, Cond.code yX4_whyDark cX4_whyDark 3 (some .int), Cond.methodLink RL 110 yX7_reason, Cond.instanceMethod yX7_reason, Cond.selects RX7 yX7_reason yX7_reason, Cond.code yX7_reason cX7_reason 2 (some .int), Cond.methodLink RL 111 yX6_next, Cond.instanceMethod yX6_next, Cond.selects RX6 yX6_next yX6_next, Cond.code yX6_next cX6_next 3 (some .int), Cond.fieldLink RX6 195 "LampRacks$State" "hour" "I", Cond.fieldLink RX6 201 "LampRacks$Lamps" "end" "[I", Cond.methodLink RX6 192 yX4_passHours, Cond.methodLink RX6 198 yX2_findFirstEndedAfter, Cond.instanceMethod yX2_findFirstEndedAfter, Cond.selects RX2 yX2_findFirstEndedAfter yX2_findFirstEndedAfter, Cond.code yX2_findFirstEndedAfter cX2_findFirstEndedAfter 4 (some .int), Cond.methodLink RL 114 yX7_next, Cond.instanceMethod yX7_next, Cond.selects RX7 yX7_next yX7_next, Cond.code yX7_next cX7_next 5 (some .int), Cond.methodLink RX7 179 yX7_firstEndedAt, Cond.instanceMethod yX7_firstEndedAt]
def wsL_law_r35 : List Cond := [Cond.selects RX7 yX7_firstEndedAt yX7_firstEndedAt, Cond.code yX7_firstEndedAt cX7_firstEndedAt 4 (some .int), Cond.methodLink RL 115 yX6_count, Cond.instanceMethod yX6_count, Cond.selects RX6 yX6_count yX6_count, Cond.code yX6_count cX6_count 2 (some .int), Cond.fieldLink RX6 204 "LampRacks$Text" "length" "I", Cond.methodLink RX6 207 yX4_tellOfAll, Cond.instanceMethod yX4_tellOfAll, Cond.selects RX4 yX4_tellOfAll yX4_tellOfAll, Cond.code yX4_tellOfAll cX4_tellOfAll 2 (some .int), Cond.methodLink RX4 211 yX2_countInRacks, Cond.instanceMethod yX2_countInRacks, Cond.selects RX2 yX2_countInRacks yX2_countInRacks, Cond.code yX2_countInRacks cX2_countInRacks 3 (some .int), Cond.methodLink RX4 215 yX4_countBurning, Cond.instanceMethod yX4_countBurning, Cond.selects RX4 yX4_countBurning yX4_countBurning, Cond.code yX4_countBurning cX4_countBurning 3 (some .int), Cond.methodLink RX4 228 yX4_whyDark, Cond.methodLink RX4 218 yX2_countDead, Cond.instanceMethod yX2_countDead, Cond.selects RX2 yX2_countDead yX2_countDead, Cond.code yX2_countDead cX2_countDead 3 (some .int)]
def wsL_law_r36 : List Cond := [Cond.methodLink RX4 221 yX2_countWeak, Cond.instanceMethod yX2_countWeak, Cond.selects RX2 yX2_countWeak yX2_countWeak, Cond.code yX2_countWeak cX2_countWeak 3 (some .int), Cond.methodLink RX4 224 yX2_sumOf, Cond.instanceMethod yX2_sumOf, Cond.selects RX2 yX2_sumOf yX2_sumOf, Cond.code yX2_sumOf cX2_sumOf 4 (some .int), Cond.methodLink RX2 67 Lib.Math.min.name, Cond.methodLink RL 118 yX7_count, Cond.instanceMethod yX7_count, Cond.selects RX7 yX7_count yX7_count, Cond.code yX7_count cX7_count 2 (some .int), Cond.methodLink RX7 182 yX7_burning, Cond.instanceMethod yX7_burning, Cond.selects RX7 yX7_burning yX7_burning, Cond.code yX7_burning cX7_burning 3 (some .int), Cond.methodLink RX7 185 yX7_dead, Cond.instanceMethod yX7_dead, Cond.selects RX7 yX7_dead yX7_dead, Cond.code yX7_dead cX7_dead 3 (some .int), Cond.methodLink RX7 188 yX7_sum, Cond.instanceMethod yX7_sum, Cond.selects RX7 yX7_sum yX7_sum]
def wsL_law_r37 : List Cond := [Cond.code yX7_sum cX7_sum 4 (some .int)]
def wsL_law : List Cond := (wsL_law_r1 ++ (wsL_law_r2 ++ (wsL_law_r3 ++ (wsL_law_r4 ++ (wsL_law_r5 ++ (wsL_law_r6 ++ (wsL_law_r7 ++ (wsL_law_r8 ++ (wsL_law_r9 ++ (wsL_law_r10 ++ (wsL_law_r11 ++ (wsL_law_r12 ++ (wsL_law_r13 ++ (wsL_law_r14 ++ (wsL_law_r15 ++ (wsL_law_r16 ++ (wsL_law_r17 ++ (wsL_law_r18 ++ (wsL_law_r19 ++ (wsL_law_r20 ++ (wsL_law_r21 ++ (wsL_law_r22 ++ (wsL_law_r23 ++ (wsL_law_r24 ++ (wsL_law_r25 ++ (wsL_law_r26 ++ (wsL_law_r27 ++ (wsL_law_r28 ++ (wsL_law_r29 ++ (wsL_law_r30 ++ (wsL_law_r31 ++ (wsL_law_r32 ++ (wsL_law_r33 ++ (wsL_law_r34 ++ (wsL_law_r35 ++ (wsL_law_r36 ++ wsL_law_r37)))))))))))))))))))))))))))))))))))) ++ wsX60 ++ wsX70 ++ wsX40 ++ wsX10 ++ wsX50 ++ wsX00 ++ wsX20 ++ wsX30 ++ ([] : List Cond)
set_option maxRecDepth 20000 in
theorem wsL_law_in : ∀ w ∈ wsL_law, w ∈ lw_tbl := fun w h => (goodIn_p wsL_law [74, 77, 82, 88, 104, 142, 146, 195, 212, 756, 285, 289, 293, 296, 299, 306, 311, 316, 319, 322, 327, 331, 335, 824, 827, 830, 816, 820, 804, 340, 344, 347, 350, 353, 357, 361, 371, 364, 367, 375, 834, 838, 841, 844, 848, 852, 856, 860, 379, 383, 864, 868, 387, 391, 395, 872, 399, 403, 876, 880, 884, 408, 412, 888, 892, 416, 420, 424, 428, 896, 432, 436, 441, 445, 449, 453, 459, 464, 468, 472, 475, 479, 483, 489, 493, 900, 904, 909, 913, 917, 921, 925, 929, 497, 501, 933, 505, 509, 937, 513, 517, 521, 525, 529, 533, 537, 541, 545, 550, 554, 558, 562, 566, 572, 575, 941, 945, 949, 953, 957, 961, 965, 969, 973, 580, 977, 584, 588, 801, 592, 808, 596, 812, 600, 604, 608, 613, 616, 981, 985, 989, 621, 625, 629, 993, 997, 634, 1001, 640, 644, 648, 652, 658, 663, 667, 672, 1005, 1009, 1013, 1017, 676, 682, 1021, 686, 690, 694, 1025, 1029, 698, 1033, 707, 711, 1037, 715, 720, 1041, 1045, 724, 728, 732, 736, 741, 745, 750, 1049, 1053, 1057, 1061] (by decide +kernel) (by decide +kernel) w h).1
theorem inlX0 : ∀ w ∈ wsX00, w ∈ wsL_law := fun _ h => List.mem_append_left _ (List.mem_append_left _ (List.mem_append_left _ (List.mem_append_right _ h)))
theorem inX0 : ∀ w ∈ wsX00, w ∈ lw_tbl := fun w h => wsL_law_in w (inlX0 w h)
theorem inlX1 : ∀ w ∈ wsX10, w ∈ wsL_law := fun _ h => List.mem_append_left _ (List.mem_append_left _ (List.mem_append_left _ (List.mem_append_left _ (List.mem_append_left _ (List.mem_append_right _ h)))))
theorem inX1 : ∀ w ∈ wsX10, w ∈ lw_tbl := fun w h => wsL_law_in w (inlX1 w h)
theorem inlX2 : ∀ w ∈ wsX20, w ∈ wsL_law := fun _ h => List.mem_append_left _ (List.mem_append_left _ (List.mem_append_right _ h))
theorem inX2 : ∀ w ∈ wsX20, w ∈ lw_tbl := fun w h => wsL_law_in w (inlX2 w h)
theorem inlX3 : ∀ w ∈ wsX30, w ∈ wsL_law := fun _ h => List.mem_append_left _ (List.mem_append_right _ h)
theorem inX3 : ∀ w ∈ wsX30, w ∈ lw_tbl := fun w h => wsL_law_in w (inlX3 w h)
theorem inlX4 : ∀ w ∈ wsX40, w ∈ wsL_law := fun _ h => List.mem_append_left _ (List.mem_append_left _ (List.mem_append_left _ (List.mem_append_left _ (List.mem_append_left _ (List.mem_append_left _ (List.mem_append_right _ h))))))
theorem inX4 : ∀ w ∈ wsX40, w ∈ lw_tbl := fun w h => wsL_law_in w (inlX4 w h)
theorem inlX5 : ∀ w ∈ wsX50, w ∈ wsL_law := fun _ h => List.mem_append_left _ (List.mem_append_left _ (List.mem_append_left _ (List.mem_append_left _ (List.mem_append_right _ h))))
theorem inX5 : ∀ w ∈ wsX50, w ∈ lw_tbl := fun w h => wsL_law_in w (inlX5 w h)
theorem inlX6 : ∀ w ∈ wsX60, w ∈ wsL_law := fun _ h => List.mem_append_left _ (List.mem_append_left _ (List.mem_append_left _ (List.mem_append_left _ (List.mem_append_left _ (List.mem_append_left _ (List.mem_append_left _ (List.mem_append_left _ (List.mem_append_right _ h))))))))
theorem inX6 : ∀ w ∈ wsX60, w ∈ lw_tbl := fun w h => wsL_law_in w (inlX6 w h)
theorem inlX7 : ∀ w ∈ wsX70, w ∈ wsL_law := fun _ h => List.mem_append_left _ (List.mem_append_left _ (List.mem_append_left _ (List.mem_append_left _ (List.mem_append_left _ (List.mem_append_left _ (List.mem_append_left _ (List.mem_append_right _ h)))))))
theorem inX7 : ∀ w ∈ wsX70, w ∈ lw_tbl := fun w h => wsL_law_in w (inlX7 w h)
theorem inJ9 : ∀ w ∈ wsJ90, w ∈ lw_tbl := by decide +kernel
theorem inJ10 : ∀ w ∈ wsJ100, w ∈ lw_tbl := by decide +kernel
theorem inJ7 : ∀ w ∈ wsJ70, w ∈ lw_tbl := by decide +kernel
theorem dX0_init_0 : decode cX0_init 0 = .ok (.aload_n 0, 1) := by decide +kernel
theorem dX0_init_1 : decode cX0_init 1 = .ok (.invokespecial 3, 3) := by decide +kernel
theorem dX0_init_4 : decode cX0_init 4 = .ok (.aload_n 0, 1) := by decide +kernel
theorem dX0_init_5 : decode cX0_init 5 = .ok (.bipush 6, 2) := by decide +kernel
theorem dX0_init_7 : decode cX0_init 7 = .ok (.newarray .int, 2) := by decide +kernel
theorem dX0_init_9 : decode cX0_init 9 = .ok (.putfield 9, 3) := by decide +kernel
theorem dX0_init_12 : decode cX0_init 12 = .ok (.aload_n 0, 1) := by decide +kernel
theorem dX0_init_13 : decode cX0_init 13 = .ok (.bipush 6, 2) := by decide +kernel
theorem dX0_init_15 : decode cX0_init 15 = .ok (.newarray .int, 2) := by decide +kernel
theorem dX0_init_17 : decode cX0_init 17 = .ok (.putfield 15, 3) := by decide +kernel
theorem dX0_init_20 : decode cX0_init 20 = .ok (.iconst 0, 1) := by decide +kernel
theorem dX0_init_21 : decode cX0_init 21 = .ok (.istore_n 1, 1) := by decide +kernel
theorem dX0_init_22 : decode cX0_init 22 = .ok (.iload_n 1, 1) := by decide +kernel
theorem dX0_init_23 : decode cX0_init 23 = .ok (.bipush 6, 2) := by decide +kernel
theorem dX0_init_25 : decode cX0_init 25 = .ok (.if_icmp .ge 28, 3) := by decide +kernel
theorem dX0_init_28 : decode cX0_init 28 = .ok (.aload_n 0, 1) := by decide +kernel
theorem dX0_init_29 : decode cX0_init 29 = .ok (.getfield 9, 3) := by decide +kernel
theorem dX0_init_32 : decode cX0_init 32 = .ok (.iload_n 1, 1) := by decide +kernel
theorem dX0_init_33 : decode cX0_init 33 = .ok (.sipush 1000, 3) := by decide +kernel
theorem dX0_init_36 : decode cX0_init 36 = .ok (.iastore, 1) := by decide +kernel
theorem dX0_init_37 : decode cX0_init 37 = .ok (.aload_n 0, 1) := by decide +kernel
theorem dX0_init_38 : decode cX0_init 38 = .ok (.getfield 15, 3) := by decide +kernel
theorem dX0_init_41 : decode cX0_init 41 = .ok (.iload_n 1, 1) := by decide +kernel
theorem dX0_init_42 : decode cX0_init 42 = .ok (.bipush 10, 2) := by decide +kernel
theorem dX0_init_44 : decode cX0_init 44 = .ok (.iload_n 1, 1) := by decide +kernel
theorem dX0_init_45 : decode cX0_init 45 = .ok (.imul, 1) := by decide +kernel
theorem dX0_init_46 : decode cX0_init 46 = .ok (.iastore, 1) := by decide +kernel
theorem dX0_init_47 : decode cX0_init 47 = .ok (.iinc 1 1, 3) := by decide +kernel
theorem dX0_init_50 : decode cX0_init 50 = .ok (.goto (-28), 3) := by decide +kernel
theorem dX0_init_53 : decode cX0_init 53 = .ok (.return_, 1) := by decide +kernel
set_option maxRecDepth 20000 in
theorem ggX0_copyFrom_X6_copy : GoodIn wsX0_copyFrom wsX6_copy := goodIn_r _ [5, 6, 7, 8, 9, 10, 11, 12, 13] (by decide +kernel) (by decide +kernel)
set_option maxRecDepth 20000 in
theorem gX0_copyFrom_X6_copy_n18 : GoodIn wsX0_copyFrom (wsX6_copy) := ggX0_copyFrom_X6_copy
theorem dX0_copyFrom_0 : decode cX0_copyFrom 0 = .ok (.aload_n 1, 1) := by decide +kernel
theorem dX0_copyFrom_1 : decode cX0_copyFrom 1 = .ok (.getfield 9, 3) := by decide +kernel
theorem dX0_copyFrom_4 : decode cX0_copyFrom 4 = .ok (.aload_n 0, 1) := by decide +kernel
theorem dX0_copyFrom_5 : decode cX0_copyFrom 5 = .ok (.getfield 9, 3) := by decide +kernel
theorem dX0_copyFrom_8 : decode cX0_copyFrom 8 = .ok (.invokestatic 18, 3) := by decide +kernel
theorem dX0_copyFrom_11 : decode cX0_copyFrom 11 = .ok (.aload_n 1, 1) := by decide +kernel
theorem dX0_copyFrom_12 : decode cX0_copyFrom 12 = .ok (.getfield 15, 3) := by decide +kernel
theorem dX0_copyFrom_15 : decode cX0_copyFrom 15 = .ok (.aload_n 0, 1) := by decide +kernel
theorem dX0_copyFrom_16 : decode cX0_copyFrom 16 = .ok (.getfield 15, 3) := by decide +kernel
theorem dX0_copyFrom_19 : decode cX0_copyFrom 19 = .ok (.invokestatic 18, 3) := by decide +kernel
theorem dX0_copyFrom_22 : decode cX0_copyFrom 22 = .ok (.return_, 1) := by decide +kernel
set_option maxRecDepth 20000 in
theorem ggX0_hoursOfLamp_X6_shareOf : GoodIn wsX0_hoursOfLamp wsX6_shareOf := goodIn_r _ [9] (by decide +kernel) (by decide +kernel)
set_option maxRecDepth 20000 in
theorem gX0_hoursOfLamp_X6_shareOf_n22 : GoodIn wsX0_hoursOfLamp (wsX6_shareOf) := ggX0_hoursOfLamp_X6_shareOf
set_option maxRecDepth 20000 in
theorem ggX0_hoursOfLamp_X6_isWeak : GoodIn wsX0_hoursOfLamp wsX6_isWeak := goodIn_r _ [11, 12, 7, 8, 9] (by decide +kernel) (by decide +kernel)
set_option maxRecDepth 20000 in
theorem gX0_hoursOfLamp_X6_isWeak_n26 : GoodIn wsX0_hoursOfLamp (wsX6_isWeak) := ggX0_hoursOfLamp_X6_isWeak
theorem dX0_hoursOfLamp_0 : decode cX0_hoursOfLamp 0 = .ok (.aload_n 0, 1) := by decide +kernel
theorem dX0_hoursOfLamp_1 : decode cX0_hoursOfLamp 1 = .ok (.getfield 9, 3) := by decide +kernel
theorem dX0_hoursOfLamp_4 : decode cX0_hoursOfLamp 4 = .ok (.iload_n 1, 1) := by decide +kernel
theorem dX0_hoursOfLamp_5 : decode cX0_hoursOfLamp 5 = .ok (.iaload, 1) := by decide +kernel
theorem dX0_hoursOfLamp_6 : decode cX0_hoursOfLamp 6 = .ok (.aload_n 0, 1) := by decide +kernel
theorem dX0_hoursOfLamp_7 : decode cX0_hoursOfLamp 7 = .ok (.getfield 15, 3) := by decide +kernel
theorem dX0_hoursOfLamp_10 : decode cX0_hoursOfLamp 10 = .ok (.iload_n 1, 1) := by decide +kernel
theorem dX0_hoursOfLamp_11 : decode cX0_hoursOfLamp 11 = .ok (.iaload, 1) := by decide +kernel
theorem dX0_hoursOfLamp_12 : decode cX0_hoursOfLamp 12 = .ok (.imul, 1) := by decide +kernel
theorem dX0_hoursOfLamp_13 : decode cX0_hoursOfLamp 13 = .ok (.iload_n 2, 1) := by decide +kernel
theorem dX0_hoursOfLamp_14 : decode cX0_hoursOfLamp 14 = .ok (.invokestatic 22, 3) := by decide +kernel
theorem dX0_hoursOfLamp_17 : decode cX0_hoursOfLamp 17 = .ok (.imul, 1) := by decide +kernel
theorem dX0_hoursOfLamp_18 : decode cX0_hoursOfLamp 18 = .ok (.sipush 1000, 3) := by decide +kernel
theorem dX0_hoursOfLamp_21 : decode cX0_hoursOfLamp 21 = .ok (.idiv, 1) := by decide +kernel
theorem dX0_hoursOfLamp_22 : decode cX0_hoursOfLamp 22 = .ok (.istore_n 3, 1) := by decide +kernel
theorem dX0_hoursOfLamp_23 : decode cX0_hoursOfLamp 23 = .ok (.aload_n 0, 1) := by decide +kernel
theorem dX0_hoursOfLamp_24 : decode cX0_hoursOfLamp 24 = .ok (.getfield 9, 3) := by decide +kernel
theorem dX0_hoursOfLamp_27 : decode cX0_hoursOfLamp 27 = .ok (.iload_n 1, 1) := by decide +kernel
theorem dX0_hoursOfLamp_28 : decode cX0_hoursOfLamp 28 = .ok (.iaload, 1) := by decide +kernel
theorem dX0_hoursOfLamp_29 : decode cX0_hoursOfLamp 29 = .ok (.iload_n 3, 1) := by decide +kernel
theorem dX0_hoursOfLamp_30 : decode cX0_hoursOfLamp 30 = .ok (.isub, 1) := by decide +kernel
theorem dX0_hoursOfLamp_31 : decode cX0_hoursOfLamp 31 = .ok (.istore 4, 2) := by decide +kernel
theorem dX0_hoursOfLamp_33 : decode cX0_hoursOfLamp 33 = .ok (.iconst 1, 1) := by decide +kernel
theorem dX0_hoursOfLamp_34 : decode cX0_hoursOfLamp 34 = .ok (.iload_n 2, 1) := by decide +kernel
theorem dX0_hoursOfLamp_35 : decode cX0_hoursOfLamp 35 = .ok (.invokestatic 26, 3) := by decide +kernel
theorem dX0_hoursOfLamp_38 : decode cX0_hoursOfLamp 38 = .ok (.ifCond .eq 11, 3) := by decide +kernel
theorem dX0_hoursOfLamp_41 : decode cX0_hoursOfLamp 41 = .ok (.iload 4, 2) := by decide +kernel
theorem dX0_hoursOfLamp_43 : decode cX0_hoursOfLamp 43 = .ok (.bipush 10, 2) := by decide +kernel
theorem dX0_hoursOfLamp_45 : decode cX0_hoursOfLamp 45 = .ok (.idiv, 1) := by decide +kernel
theorem dX0_hoursOfLamp_46 : decode cX0_hoursOfLamp 46 = .ok (.goto 5, 3) := by decide +kernel
theorem dX0_hoursOfLamp_49 : decode cX0_hoursOfLamp 49 = .ok (.iload 4, 2) := by decide +kernel
theorem dX0_hoursOfLamp_51 : decode cX0_hoursOfLamp 51 = .ok (.invokestatic 30, 3) := by decide +kernel
theorem dX0_hoursOfLamp_54 : decode cX0_hoursOfLamp 54 = .ok (.ireturn, 1) := by decide +kernel
set_option maxRecDepth 20000 in
theorem ggX1_init_X4_init : GoodIn wsX1_init wsX4_init := goodIn_r _ [10, 11, 2, 3, 12, 13, 14, 15, 16, 17, 18, 19, 20, 21, 22, 23, 24, 25, 26, 27, 28, 29, 30, 31, 32, 33, 34, 35, 36, 37, 38, 39, 40, 41, 42, 43, 44, 45, 46, 47, 48, 49, 50, 51, 52, 53, 54, 55, 56, 59, 60, 61, 62, 63, 64, 65, 66, 67, 68, 69, 70, 71, 72, 73, 74, 75, 76, 77, 78] (by decide +kernel) (by decide +kernel)
set_option maxRecDepth 20000 in
theorem gX1_init_X4_init_n21 : GoodIn wsX1_init (wsX4_init) := ggX1_init_X4_init
theorem dX1_init_0 : decode cX1_init 0 = .ok (.aload_n 0, 1) := by decide +kernel
theorem dX1_init_1 : decode cX1_init 1 = .ok (.invokespecial 3, 3) := by decide +kernel
theorem dX1_init_4 : decode cX1_init 4 = .ok (.aload_n 0, 1) := by decide +kernel
theorem dX1_init_5 : decode cX1_init 5 = .ok (.iconst 0, 1) := by decide +kernel
theorem dX1_init_6 : decode cX1_init 6 = .ok (.putfield 9, 3) := by decide +kernel
theorem dX1_init_9 : decode cX1_init 9 = .ok (.aload_n 0, 1) := by decide +kernel
theorem dX1_init_10 : decode cX1_init 10 = .ok (.iconst 4, 1) := by decide +kernel
theorem dX1_init_11 : decode cX1_init 11 = .ok (.anewarray 15, 3) := by decide +kernel
theorem dX1_init_14 : decode cX1_init 14 = .ok (.putfield 17, 3) := by decide +kernel
theorem dX1_init_17 : decode cX1_init 17 = .ok (.iconst 0, 1) := by decide +kernel
theorem dX1_init_18 : decode cX1_init 18 = .ok (.istore_n 1, 1) := by decide +kernel
theorem dX1_init_19 : decode cX1_init 19 = .ok (.iload_n 1, 1) := by decide +kernel
theorem dX1_init_20 : decode cX1_init 20 = .ok (.iconst 4, 1) := by decide +kernel
theorem dX1_init_21 : decode cX1_init 21 = .ok (.if_icmp .ge 22, 3) := by decide +kernel
theorem dX1_init_24 : decode cX1_init 24 = .ok (.aload_n 0, 1) := by decide +kernel
theorem dX1_init_25 : decode cX1_init 25 = .ok (.getfield 17, 3) := by decide +kernel
theorem dX1_init_28 : decode cX1_init 28 = .ok (.iload_n 1, 1) := by decide +kernel
theorem dX1_init_29 : decode cX1_init 29 = .ok (.new 15, 3) := by decide +kernel
theorem dX1_init_32 : decode cX1_init 32 = .ok (.dup, 1) := by decide +kernel
theorem dX1_init_33 : decode cX1_init 33 = .ok (.invokespecial 21, 3) := by decide +kernel
theorem dX1_init_36 : decode cX1_init 36 = .ok (.aastore, 1) := by decide +kernel
theorem dX1_init_37 : decode cX1_init 37 = .ok (.iinc 1 1, 3) := by decide +kernel
theorem dX1_init_40 : decode cX1_init 40 = .ok (.goto (-21), 3) := by decide +kernel
theorem dX1_init_43 : decode cX1_init 43 = .ok (.return_, 1) := by decide +kernel
set_option maxRecDepth 20000 in
theorem ggX1_append_X1_dropOldest : GoodIn wsX1_append wsX1_dropOldest := goodIn_r _ [7, 2, 1, 59, 60] (by decide +kernel) (by decide +kernel)
set_option maxRecDepth 20000 in
theorem gX1_append_X1_dropOldest : GoodIn wsX1_append (wsV RX1 22 RX1 yX1_dropOldest wsX1_dropOldest) := goodIn_app (goodIn_of _ (by decide +kernel)) ggX1_append_X1_dropOldest
set_option maxRecDepth 20000 in
theorem ggX1_append_X4_copyFrom : GoodIn wsX1_append wsX4_copyFrom := goodIn_r _ [12, 13, 14, 15, 16, 17, 18, 19, 20, 21, 22, 23, 24, 25, 26, 27, 28, 29, 30, 31, 32, 33, 34, 35, 36, 37, 38, 39, 40, 41, 42, 43, 44, 45, 46, 47, 48, 49, 50, 51, 52, 53, 54, 55, 56, 57, 58, 61, 62, 63, 64, 65, 66, 67, 68, 69, 70, 71, 72, 73, 74, 75, 76, 77, 78, 79, 80] (by decide +kernel) (by decide +kernel)
set_option maxRecDepth 20000 in
theorem gX1_append_X4_copyFrom : GoodIn wsX1_append (wsV RX1 25 RX4 yX4_copyFrom wsX4_copyFrom) := goodIn_app (goodIn_of _ (by decide +kernel)) ggX1_append_X4_copyFrom
theorem dX1_append_0 : decode cX1_append 0 = .ok (.aload_n 0, 1) := by decide +kernel
theorem dX1_append_1 : decode cX1_append 1 = .ok (.getfield 9, 3) := by decide +kernel
theorem dX1_append_4 : decode cX1_append 4 = .ok (.iconst 4, 1) := by decide +kernel
theorem dX1_append_5 : decode cX1_append 5 = .ok (.if_icmp .lt 7, 3) := by decide +kernel
theorem dX1_append_8 : decode cX1_append 8 = .ok (.aload_n 0, 1) := by decide +kernel
theorem dX1_append_9 : decode cX1_append 9 = .ok (.invokevirtual 22, 3) := by decide +kernel
theorem dX1_append_12 : decode cX1_append 12 = .ok (.aload_n 0, 1) := by decide +kernel
theorem dX1_append_13 : decode cX1_append 13 = .ok (.getfield 17, 3) := by decide +kernel
theorem dX1_append_16 : decode cX1_append 16 = .ok (.aload_n 0, 1) := by decide +kernel
theorem dX1_append_17 : decode cX1_append 17 = .ok (.getfield 9, 3) := by decide +kernel
theorem dX1_append_20 : decode cX1_append 20 = .ok (.aaload, 1) := by decide +kernel
theorem dX1_append_21 : decode cX1_append 21 = .ok (.aload_n 1, 1) := by decide +kernel
theorem dX1_append_22 : decode cX1_append 22 = .ok (.invokevirtual 25, 3) := by decide +kernel
theorem dX1_append_25 : decode cX1_append 25 = .ok (.aload_n 0, 1) := by decide +kernel
theorem dX1_append_26 : decode cX1_append 26 = .ok (.dup, 1) := by decide +kernel
theorem dX1_append_27 : decode cX1_append 27 = .ok (.getfield 9, 3) := by decide +kernel
theorem dX1_append_30 : decode cX1_append 30 = .ok (.iconst 1, 1) := by decide +kernel
theorem dX1_append_31 : decode cX1_append 31 = .ok (.iadd, 1) := by decide +kernel
theorem dX1_append_32 : decode cX1_append 32 = .ok (.putfield 9, 3) := by decide +kernel
theorem dX1_append_35 : decode cX1_append 35 = .ok (.return_, 1) := by decide +kernel
theorem dX1_dropOldest_0 : decode cX1_dropOldest 0 = .ok (.aload_n 0, 1) := by decide +kernel
theorem dX1_dropOldest_1 : decode cX1_dropOldest 1 = .ok (.getfield 17, 3) := by decide +kernel
theorem dX1_dropOldest_4 : decode cX1_dropOldest 4 = .ok (.iconst 0, 1) := by decide +kernel
theorem dX1_dropOldest_5 : decode cX1_dropOldest 5 = .ok (.aaload, 1) := by decide +kernel
theorem dX1_dropOldest_6 : decode cX1_dropOldest 6 = .ok (.astore_n 1, 1) := by decide +kernel
theorem dX1_dropOldest_7 : decode cX1_dropOldest 7 = .ok (.iconst 1, 1) := by decide +kernel
theorem dX1_dropOldest_8 : decode cX1_dropOldest 8 = .ok (.istore_n 2, 1) := by decide +kernel
theorem dX1_dropOldest_9 : decode cX1_dropOldest 9 = .ok (.iload_n 2, 1) := by decide +kernel
theorem dX1_dropOldest_10 : decode cX1_dropOldest 10 = .ok (.iconst 4, 1) := by decide +kernel
theorem dX1_dropOldest_11 : decode cX1_dropOldest 11 = .ok (.if_icmp .ge 23, 3) := by decide +kernel
theorem dX1_dropOldest_14 : decode cX1_dropOldest 14 = .ok (.aload_n 0, 1) := by decide +kernel
theorem dX1_dropOldest_15 : decode cX1_dropOldest 15 = .ok (.getfield 17, 3) := by decide +kernel
theorem dX1_dropOldest_18 : decode cX1_dropOldest 18 = .ok (.iload_n 2, 1) := by decide +kernel
theorem dX1_dropOldest_19 : decode cX1_dropOldest 19 = .ok (.iconst 1, 1) := by decide +kernel
theorem dX1_dropOldest_20 : decode cX1_dropOldest 20 = .ok (.isub, 1) := by decide +kernel
theorem dX1_dropOldest_21 : decode cX1_dropOldest 21 = .ok (.aload_n 0, 1) := by decide +kernel
theorem dX1_dropOldest_22 : decode cX1_dropOldest 22 = .ok (.getfield 17, 3) := by decide +kernel
theorem dX1_dropOldest_25 : decode cX1_dropOldest 25 = .ok (.iload_n 2, 1) := by decide +kernel
theorem dX1_dropOldest_26 : decode cX1_dropOldest 26 = .ok (.aaload, 1) := by decide +kernel
theorem dX1_dropOldest_27 : decode cX1_dropOldest 27 = .ok (.aastore, 1) := by decide +kernel
theorem dX1_dropOldest_28 : decode cX1_dropOldest 28 = .ok (.iinc 2 1, 3) := by decide +kernel
theorem dX1_dropOldest_31 : decode cX1_dropOldest 31 = .ok (.goto (-22), 3) := by decide +kernel
theorem dX1_dropOldest_34 : decode cX1_dropOldest 34 = .ok (.aload_n 0, 1) := by decide +kernel
theorem dX1_dropOldest_35 : decode cX1_dropOldest 35 = .ok (.getfield 17, 3) := by decide +kernel
theorem dX1_dropOldest_38 : decode cX1_dropOldest 38 = .ok (.iconst 3, 1) := by decide +kernel
theorem dX1_dropOldest_39 : decode cX1_dropOldest 39 = .ok (.aload_n 1, 1) := by decide +kernel
theorem dX1_dropOldest_40 : decode cX1_dropOldest 40 = .ok (.aastore, 1) := by decide +kernel
theorem dX1_dropOldest_41 : decode cX1_dropOldest 41 = .ok (.aload_n 0, 1) := by decide +kernel
theorem dX1_dropOldest_42 : decode cX1_dropOldest 42 = .ok (.dup, 1) := by decide +kernel
theorem dX1_dropOldest_43 : decode cX1_dropOldest 43 = .ok (.getfield 9, 3) := by decide +kernel
theorem dX1_dropOldest_46 : decode cX1_dropOldest 46 = .ok (.iconst 1, 1) := by decide +kernel
theorem dX1_dropOldest_47 : decode cX1_dropOldest 47 = .ok (.isub, 1) := by decide +kernel
theorem dX1_dropOldest_48 : decode cX1_dropOldest 48 = .ok (.putfield 9, 3) := by decide +kernel
theorem dX1_dropOldest_51 : decode cX1_dropOldest 51 = .ok (.return_, 1) := by decide +kernel
set_option maxRecDepth 20000 in
theorem ggX1_moveLatestTo_X4_copyFrom : GoodIn wsX1_moveLatestTo wsX4_copyFrom := goodIn_r _ [7, 8, 9, 10, 11, 12, 13, 14, 15, 16, 17, 18, 19, 20, 21, 22, 23, 24, 25, 26, 27, 28, 29, 30, 31, 32, 33, 34, 35, 36, 37, 38, 39, 40, 41, 42, 43, 44, 45, 46, 47, 48, 49, 50, 51, 52, 53, 56, 57, 58, 59, 60, 61, 62, 63, 64, 65, 66, 67, 68, 69, 70, 71, 72, 73, 74, 75] (by decide +kernel) (by decide +kernel)
set_option maxRecDepth 20000 in
theorem gX1_moveLatestTo_X4_copyFrom : GoodIn wsX1_moveLatestTo (wsV RX1 25 RX4 yX4_copyFrom wsX4_copyFrom) := goodIn_app (goodIn_of _ (by decide +kernel)) ggX1_moveLatestTo_X4_copyFrom
theorem dX1_moveLatestTo_0 : decode cX1_moveLatestTo 0 = .ok (.aload_n 0, 1) := by decide +kernel
theorem dX1_moveLatestTo_1 : decode cX1_moveLatestTo 1 = .ok (.getfield 9, 3) := by decide +kernel
theorem dX1_moveLatestTo_4 : decode cX1_moveLatestTo 4 = .ok (.ifCond .le 26, 3) := by decide +kernel
theorem dX1_moveLatestTo_7 : decode cX1_moveLatestTo 7 = .ok (.aload_n 0, 1) := by decide +kernel
theorem dX1_moveLatestTo_8 : decode cX1_moveLatestTo 8 = .ok (.dup, 1) := by decide +kernel
theorem dX1_moveLatestTo_9 : decode cX1_moveLatestTo 9 = .ok (.getfield 9, 3) := by decide +kernel
theorem dX1_moveLatestTo_12 : decode cX1_moveLatestTo 12 = .ok (.iconst 1, 1) := by decide +kernel
theorem dX1_moveLatestTo_13 : decode cX1_moveLatestTo 13 = .ok (.isub, 1) := by decide +kernel
theorem dX1_moveLatestTo_14 : decode cX1_moveLatestTo 14 = .ok (.putfield 9, 3) := by decide +kernel
theorem dX1_moveLatestTo_17 : decode cX1_moveLatestTo 17 = .ok (.aload_n 1, 1) := by decide +kernel
theorem dX1_moveLatestTo_18 : decode cX1_moveLatestTo 18 = .ok (.aload_n 0, 1) := by decide +kernel
theorem dX1_moveLatestTo_19 : decode cX1_moveLatestTo 19 = .ok (.getfield 17, 3) := by decide +kernel
theorem dX1_moveLatestTo_22 : decode cX1_moveLatestTo 22 = .ok (.aload_n 0, 1) := by decide +kernel
theorem dX1_moveLatestTo_23 : decode cX1_moveLatestTo 23 = .ok (.getfield 9, 3) := by decide +kernel
theorem dX1_moveLatestTo_26 : decode cX1_moveLatestTo 26 = .ok (.aaload, 1) := by decide +kernel
theorem dX1_moveLatestTo_27 : decode cX1_moveLatestTo 27 = .ok (.invokevirtual 25, 3) := by decide +kernel
theorem dX1_moveLatestTo_30 : decode cX1_moveLatestTo 30 = .ok (.return_, 1) := by decide +kernel
theorem dX2_init_0 : decode cX2_init 0 = .ok (.aload_n 0, 1) := by decide +kernel
theorem dX2_init_1 : decode cX2_init 1 = .ok (.invokespecial 3, 3) := by decide +kernel
theorem dX2_init_4 : decode cX2_init 4 = .ok (.aload_n 0, 1) := by decide +kernel
theorem dX2_init_5 : decode cX2_init 5 = .ok (.iconst 0, 1) := by decide +kernel
theorem dX2_init_6 : decode cX2_init 6 = .ok (.putfield 9, 3) := by decide +kernel
theorem dX2_init_9 : decode cX2_init 9 = .ok (.aload_n 0, 1) := by decide +kernel
theorem dX2_init_10 : decode cX2_init 10 = .ok (.bipush 60, 2) := by decide +kernel
theorem dX2_init_12 : decode cX2_init 12 = .ok (.newarray .int, 2) := by decide +kernel
theorem dX2_init_14 : decode cX2_init 14 = .ok (.putfield 15, 3) := by decide +kernel
theorem dX2_init_17 : decode cX2_init 17 = .ok (.aload_n 0, 1) := by decide +kernel
theorem dX2_init_18 : decode cX2_init 18 = .ok (.bipush 60, 2) := by decide +kernel
theorem dX2_init_20 : decode cX2_init 20 = .ok (.newarray .int, 2) := by decide +kernel
theorem dX2_init_22 : decode cX2_init 22 = .ok (.putfield 19, 3) := by decide +kernel
theorem dX2_init_25 : decode cX2_init 25 = .ok (.aload_n 0, 1) := by decide +kernel
theorem dX2_init_26 : decode cX2_init 26 = .ok (.bipush 60, 2) := by decide +kernel
theorem dX2_init_28 : decode cX2_init 28 = .ok (.newarray .int, 2) := by decide +kernel
theorem dX2_init_30 : decode cX2_init 30 = .ok (.putfield 22, 3) := by decide +kernel
theorem dX2_init_33 : decode cX2_init 33 = .ok (.aload_n 0, 1) := by decide +kernel
theorem dX2_init_34 : decode cX2_init 34 = .ok (.bipush 60, 2) := by decide +kernel
theorem dX2_init_36 : decode cX2_init 36 = .ok (.newarray .int, 2) := by decide +kernel
theorem dX2_init_38 : decode cX2_init 38 = .ok (.putfield 25, 3) := by decide +kernel
theorem dX2_init_41 : decode cX2_init 41 = .ok (.aload_n 0, 1) := by decide +kernel
theorem dX2_init_42 : decode cX2_init 42 = .ok (.bipush 60, 2) := by decide +kernel
theorem dX2_init_44 : decode cX2_init 44 = .ok (.newarray .int, 2) := by decide +kernel
theorem dX2_init_46 : decode cX2_init 46 = .ok (.putfield 28, 3) := by decide +kernel
theorem dX2_init_49 : decode cX2_init 49 = .ok (.aload_n 0, 1) := by decide +kernel
theorem dX2_init_50 : decode cX2_init 50 = .ok (.bipush 60, 2) := by decide +kernel
theorem dX2_init_52 : decode cX2_init 52 = .ok (.newarray .int, 2) := by decide +kernel
theorem dX2_init_54 : decode cX2_init 54 = .ok (.putfield 31, 3) := by decide +kernel
theorem dX2_init_57 : decode cX2_init 57 = .ok (.return_, 1) := by decide +kernel
set_option maxRecDepth 20000 in
theorem ggX2_copyFrom_X6_copy : GoodIn wsX2_copyFrom wsX6_copy := goodIn_r _ [10, 11, 12, 13, 14, 15, 16, 17, 18] (by decide +kernel) (by decide +kernel)
set_option maxRecDepth 20000 in
theorem gX2_copyFrom_X6_copy_n34 : GoodIn wsX2_copyFrom (wsX6_copy) := ggX2_copyFrom_X6_copy
theorem dX2_copyFrom_0 : decode cX2_copyFrom 0 = .ok (.aload_n 0, 1) := by decide +kernel
theorem dX2_copyFrom_1 : decode cX2_copyFrom 1 = .ok (.aload_n 1, 1) := by decide +kernel
theorem dX2_copyFrom_2 : decode cX2_copyFrom 2 = .ok (.getfield 9, 3) := by decide +kernel
theorem dX2_copyFrom_5 : decode cX2_copyFrom 5 = .ok (.putfield 9, 3) := by decide +kernel
theorem dX2_copyFrom_8 : decode cX2_copyFrom 8 = .ok (.aload_n 1, 1) := by decide +kernel
theorem dX2_copyFrom_9 : decode cX2_copyFrom 9 = .ok (.getfield 15, 3) := by decide +kernel
theorem dX2_copyFrom_12 : decode cX2_copyFrom 12 = .ok (.aload_n 0, 1) := by decide +kernel
theorem dX2_copyFrom_13 : decode cX2_copyFrom 13 = .ok (.getfield 15, 3) := by decide +kernel
theorem dX2_copyFrom_16 : decode cX2_copyFrom 16 = .ok (.invokestatic 34, 3) := by decide +kernel
theorem dX2_copyFrom_19 : decode cX2_copyFrom 19 = .ok (.aload_n 1, 1) := by decide +kernel
theorem dX2_copyFrom_20 : decode cX2_copyFrom 20 = .ok (.getfield 19, 3) := by decide +kernel
theorem dX2_copyFrom_23 : decode cX2_copyFrom 23 = .ok (.aload_n 0, 1) := by decide +kernel
theorem dX2_copyFrom_24 : decode cX2_copyFrom 24 = .ok (.getfield 19, 3) := by decide +kernel
theorem dX2_copyFrom_27 : decode cX2_copyFrom 27 = .ok (.invokestatic 34, 3) := by decide +kernel
theorem dX2_copyFrom_30 : decode cX2_copyFrom 30 = .ok (.aload_n 1, 1) := by decide +kernel
theorem dX2_copyFrom_31 : decode cX2_copyFrom 31 = .ok (.getfield 22, 3) := by decide +kernel
theorem dX2_copyFrom_34 : decode cX2_copyFrom 34 = .ok (.aload_n 0, 1) := by decide +kernel
theorem dX2_copyFrom_35 : decode cX2_copyFrom 35 = .ok (.getfield 22, 3) := by decide +kernel
theorem dX2_copyFrom_38 : decode cX2_copyFrom 38 = .ok (.invokestatic 34, 3) := by decide +kernel
theorem dX2_copyFrom_41 : decode cX2_copyFrom 41 = .ok (.aload_n 1, 1) := by decide +kernel
theorem dX2_copyFrom_42 : decode cX2_copyFrom 42 = .ok (.getfield 25, 3) := by decide +kernel
theorem dX2_copyFrom_45 : decode cX2_copyFrom 45 = .ok (.aload_n 0, 1) := by decide +kernel
theorem dX2_copyFrom_46 : decode cX2_copyFrom 46 = .ok (.getfield 25, 3) := by decide +kernel
theorem dX2_copyFrom_49 : decode cX2_copyFrom 49 = .ok (.invokestatic 34, 3) := by decide +kernel
theorem dX2_copyFrom_52 : decode cX2_copyFrom 52 = .ok (.aload_n 1, 1) := by decide +kernel
theorem dX2_copyFrom_53 : decode cX2_copyFrom 53 = .ok (.getfield 28, 3) := by decide +kernel
theorem dX2_copyFrom_56 : decode cX2_copyFrom 56 = .ok (.aload_n 0, 1) := by decide +kernel
theorem dX2_copyFrom_57 : decode cX2_copyFrom 57 = .ok (.getfield 28, 3) := by decide +kernel
theorem dX2_copyFrom_60 : decode cX2_copyFrom 60 = .ok (.invokestatic 34, 3) := by decide +kernel
theorem dX2_copyFrom_63 : decode cX2_copyFrom 63 = .ok (.aload_n 1, 1) := by decide +kernel
theorem dX2_copyFrom_64 : decode cX2_copyFrom 64 = .ok (.getfield 31, 3) := by decide +kernel
theorem dX2_copyFrom_67 : decode cX2_copyFrom 67 = .ok (.aload_n 0, 1) := by decide +kernel
theorem dX2_copyFrom_68 : decode cX2_copyFrom 68 = .ok (.getfield 31, 3) := by decide +kernel
theorem dX2_copyFrom_71 : decode cX2_copyFrom 71 = .ok (.invokestatic 34, 3) := by decide +kernel
theorem dX2_copyFrom_74 : decode cX2_copyFrom 74 = .ok (.return_, 1) := by decide +kernel
set_option maxRecDepth 20000 in
theorem ggX2_has_X6_isWithin : GoodIn wsX2_has wsX6_isWithin := goodIn_r _ [4] (by decide +kernel) (by decide +kernel)
set_option maxRecDepth 20000 in
theorem gX2_has_X6_isWithin_n38 : GoodIn wsX2_has (wsX6_isWithin) := ggX2_has_X6_isWithin
theorem dX2_has_0 : decode cX2_has 0 = .ok (.iload_n 1, 1) := by decide +kernel
theorem dX2_has_1 : decode cX2_has 1 = .ok (.iconst 0, 1) := by decide +kernel
theorem dX2_has_2 : decode cX2_has 2 = .ok (.aload_n 0, 1) := by decide +kernel
theorem dX2_has_3 : decode cX2_has 3 = .ok (.getfield 9, 3) := by decide +kernel
theorem dX2_has_6 : decode cX2_has 6 = .ok (.iconst 1, 1) := by decide +kernel
theorem dX2_has_7 : decode cX2_has 7 = .ok (.isub, 1) := by decide +kernel
theorem dX2_has_8 : decode cX2_has 8 = .ok (.invokestatic 38, 3) := by decide +kernel
theorem dX2_has_11 : decode cX2_has 11 = .ok (.ireturn, 1) := by decide +kernel
theorem dX2_isFull_0 : decode cX2_isFull 0 = .ok (.aload_n 0, 1) := by decide +kernel
theorem dX2_isFull_1 : decode cX2_isFull 1 = .ok (.getfield 9, 3) := by decide +kernel
theorem dX2_isFull_4 : decode cX2_isFull 4 = .ok (.bipush 60, 2) := by decide +kernel
theorem dX2_isFull_6 : decode cX2_isFull 6 = .ok (.if_icmp .lt 7, 3) := by decide +kernel
theorem dX2_isFull_9 : decode cX2_isFull 9 = .ok (.iconst 1, 1) := by decide +kernel
theorem dX2_isFull_10 : decode cX2_isFull 10 = .ok (.goto 4, 3) := by decide +kernel
theorem dX2_isFull_13 : decode cX2_isFull 13 = .ok (.iconst 0, 1) := by decide +kernel
theorem dX2_isFull_14 : decode cX2_isFull 14 = .ok (.ireturn, 1) := by decide +kernel
theorem dX2_append_0 : decode cX2_append 0 = .ok (.aload_n 0, 1) := by decide +kernel
theorem dX2_append_1 : decode cX2_append 1 = .ok (.getfield 9, 3) := by decide +kernel
theorem dX2_append_4 : decode cX2_append 4 = .ok (.istore 4, 2) := by decide +kernel
theorem dX2_append_6 : decode cX2_append 6 = .ok (.aload_n 0, 1) := by decide +kernel
theorem dX2_append_7 : decode cX2_append 7 = .ok (.getfield 15, 3) := by decide +kernel
theorem dX2_append_10 : decode cX2_append 10 = .ok (.iload 4, 2) := by decide +kernel
theorem dX2_append_12 : decode cX2_append 12 = .ok (.iload_n 1, 1) := by decide +kernel
theorem dX2_append_13 : decode cX2_append 13 = .ok (.iastore, 1) := by decide +kernel
theorem dX2_append_14 : decode cX2_append 14 = .ok (.aload_n 0, 1) := by decide +kernel
theorem dX2_append_15 : decode cX2_append 15 = .ok (.getfield 19, 3) := by decide +kernel
theorem dX2_append_18 : decode cX2_append 18 = .ok (.iload 4, 2) := by decide +kernel
theorem dX2_append_20 : decode cX2_append 20 = .ok (.iload_n 2, 1) := by decide +kernel
theorem dX2_append_21 : decode cX2_append 21 = .ok (.iastore, 1) := by decide +kernel
theorem dX2_append_22 : decode cX2_append 22 = .ok (.aload_n 0, 1) := by decide +kernel
theorem dX2_append_23 : decode cX2_append 23 = .ok (.getfield 22, 3) := by decide +kernel
theorem dX2_append_26 : decode cX2_append 26 = .ok (.iload 4, 2) := by decide +kernel
theorem dX2_append_28 : decode cX2_append 28 = .ok (.iload_n 3, 1) := by decide +kernel
theorem dX2_append_29 : decode cX2_append 29 = .ok (.iastore, 1) := by decide +kernel
theorem dX2_append_30 : decode cX2_append 30 = .ok (.aload_n 0, 1) := by decide +kernel
theorem dX2_append_31 : decode cX2_append 31 = .ok (.getfield 25, 3) := by decide +kernel
theorem dX2_append_34 : decode cX2_append 34 = .ok (.iload 4, 2) := by decide +kernel
theorem dX2_append_36 : decode cX2_append 36 = .ok (.iconst 0, 1) := by decide +kernel
theorem dX2_append_37 : decode cX2_append 37 = .ok (.iastore, 1) := by decide +kernel
theorem dX2_append_38 : decode cX2_append 38 = .ok (.aload_n 0, 1) := by decide +kernel
theorem dX2_append_39 : decode cX2_append 39 = .ok (.getfield 28, 3) := by decide +kernel
theorem dX2_append_42 : decode cX2_append 42 = .ok (.iload 4, 2) := by decide +kernel
theorem dX2_append_44 : decode cX2_append 44 = .ok (.iconst 0, 1) := by decide +kernel
theorem dX2_append_45 : decode cX2_append 45 = .ok (.iastore, 1) := by decide +kernel
theorem dX2_append_46 : decode cX2_append 46 = .ok (.aload_n 0, 1) := by decide +kernel
theorem dX2_append_47 : decode cX2_append 47 = .ok (.getfield 31, 3) := by decide +kernel
theorem dX2_append_50 : decode cX2_append 50 = .ok (.iload 4, 2) := by decide +kernel
theorem dX2_append_52 : decode cX2_append 52 = .ok (.iconst (-1), 1) := by decide +kernel
theorem dX2_append_53 : decode cX2_append 53 = .ok (.iastore, 1) := by decide +kernel
theorem dX2_append_54 : decode cX2_append 54 = .ok (.aload_n 0, 1) := by decide +kernel
theorem dX2_append_55 : decode cX2_append 55 = .ok (.dup, 1) := by decide +kernel
theorem dX2_append_56 : decode cX2_append 56 = .ok (.getfield 9, 3) := by decide +kernel
theorem dX2_append_59 : decode cX2_append 59 = .ok (.iconst 1, 1) := by decide +kernel
theorem dX2_append_60 : decode cX2_append 60 = .ok (.iadd, 1) := by decide +kernel
theorem dX2_append_61 : decode cX2_append 61 = .ok (.putfield 9, 3) := by decide +kernel
theorem dX2_append_64 : decode cX2_append 64 = .ok (.iload 4, 2) := by decide +kernel
theorem dX2_append_66 : decode cX2_append 66 = .ok (.ireturn, 1) := by decide +kernel
theorem dX2_isDead_0 : decode cX2_isDead 0 = .ok (.aload_n 0, 1) := by decide +kernel
theorem dX2_isDead_1 : decode cX2_isDead 1 = .ok (.getfield 31, 3) := by decide +kernel
theorem dX2_isDead_4 : decode cX2_isDead 4 = .ok (.iload_n 1, 1) := by decide +kernel
theorem dX2_isDead_5 : decode cX2_isDead 5 = .ok (.iaload, 1) := by decide +kernel
theorem dX2_isDead_6 : decode cX2_isDead 6 = .ok (.iconst (-1), 1) := by decide +kernel
theorem dX2_isDead_7 : decode cX2_isDead 7 = .ok (.if_icmp .eq 7, 3) := by decide +kernel
theorem dX2_isDead_10 : decode cX2_isDead 10 = .ok (.iconst 1, 1) := by decide +kernel
theorem dX2_isDead_11 : decode cX2_isDead 11 = .ok (.goto 4, 3) := by decide +kernel
theorem dX2_isDead_14 : decode cX2_isDead 14 = .ok (.iconst 0, 1) := by decide +kernel
theorem dX2_isDead_15 : decode cX2_isDead 15 = .ok (.ireturn, 1) := by decide +kernel
set_option maxRecDepth 20000 in
theorem ggX2_isDeadOf_X2_isDead : GoodIn wsX2_isDeadOf wsX2_isDead := goodIn_r _ [6, 7, 8, 9, 10, 11, 12, 13, 14] (by decide +kernel) (by decide +kernel)
set_option maxRecDepth 20000 in
theorem gX2_isDeadOf_X2_isDead : GoodIn wsX2_isDeadOf (wsV RX2 42 RX2 yX2_isDead wsX2_isDead) := goodIn_app (goodIn_of _ (by decide +kernel)) ggX2_isDeadOf_X2_isDead
theorem dX2_isDeadOf_0 : decode cX2_isDeadOf 0 = .ok (.aload_n 0, 1) := by decide +kernel
theorem dX2_isDeadOf_1 : decode cX2_isDeadOf 1 = .ok (.getfield 15, 3) := by decide +kernel
theorem dX2_isDeadOf_4 : decode cX2_isDeadOf 4 = .ok (.iload_n 1, 1) := by decide +kernel
theorem dX2_isDeadOf_5 : decode cX2_isDeadOf 5 = .ok (.iaload, 1) := by decide +kernel
theorem dX2_isDeadOf_6 : decode cX2_isDeadOf 6 = .ok (.iload_n 2, 1) := by decide +kernel
theorem dX2_isDeadOf_7 : decode cX2_isDeadOf 7 = .ok (.if_icmp .ne 15, 3) := by decide +kernel
theorem dX2_isDeadOf_10 : decode cX2_isDeadOf 10 = .ok (.aload_n 0, 1) := by decide +kernel
theorem dX2_isDeadOf_11 : decode cX2_isDeadOf 11 = .ok (.iload_n 1, 1) := by decide +kernel
theorem dX2_isDeadOf_12 : decode cX2_isDeadOf 12 = .ok (.invokevirtual 42, 3) := by decide +kernel
theorem dX2_isDeadOf_15 : decode cX2_isDeadOf 15 = .ok (.ifCond .eq 7, 3) := by decide +kernel
theorem dX2_isDeadOf_18 : decode cX2_isDeadOf 18 = .ok (.iconst 1, 1) := by decide +kernel
theorem dX2_isDeadOf_19 : decode cX2_isDeadOf 19 = .ok (.goto 4, 3) := by decide +kernel
theorem dX2_isDeadOf_22 : decode cX2_isDeadOf 22 = .ok (.iconst 0, 1) := by decide +kernel
theorem dX2_isDeadOf_23 : decode cX2_isDeadOf 23 = .ok (.ireturn, 1) := by decide +kernel
theorem dX2_hoursCounted_0 : decode cX2_hoursCounted 0 = .ok (.aload_n 0, 1) := by decide +kernel
theorem dX2_hoursCounted_1 : decode cX2_hoursCounted 1 = .ok (.getfield 25, 3) := by decide +kernel
theorem dX2_hoursCounted_4 : decode cX2_hoursCounted 4 = .ok (.iload_n 1, 1) := by decide +kernel
theorem dX2_hoursCounted_5 : decode cX2_hoursCounted 5 = .ok (.iaload, 1) := by decide +kernel
theorem dX2_hoursCounted_6 : decode cX2_hoursCounted 6 = .ok (.bipush 10, 2) := by decide +kernel
theorem dX2_hoursCounted_8 : decode cX2_hoursCounted 8 = .ok (.idiv, 1) := by decide +kernel
theorem dX2_hoursCounted_9 : decode cX2_hoursCounted 9 = .ok (.ireturn, 1) := by decide +kernel
theorem dX2_hoursLeft_0 : decode cX2_hoursLeft 0 = .ok (.iconst 1, 1) := by decide +kernel
theorem dX2_hoursLeft_1 : decode cX2_hoursLeft 1 = .ok (.iload_n 2, 1) := by decide +kernel
theorem dX2_hoursLeft_2 : decode cX2_hoursLeft 2 = .ok (.invokestatic 46, 3) := by decide +kernel
theorem dX2_hoursLeft_5 : decode cX2_hoursLeft 5 = .ok (.istore_n 3, 1) := by decide +kernel
theorem dX2_hoursLeft_6 : decode cX2_hoursLeft 6 = .ok (.bipush 10, 2) := by decide +kernel
theorem dX2_hoursLeft_8 : decode cX2_hoursLeft 8 = .ok (.aload_n 0, 1) := by decide +kernel
theorem dX2_hoursLeft_9 : decode cX2_hoursLeft 9 = .ok (.getfield 22, 3) := by decide +kernel
theorem dX2_hoursLeft_12 : decode cX2_hoursLeft 12 = .ok (.iload_n 1, 1) := by decide +kernel
theorem dX2_hoursLeft_13 : decode cX2_hoursLeft 13 = .ok (.iaload, 1) := by decide +kernel
theorem dX2_hoursLeft_14 : decode cX2_hoursLeft 14 = .ok (.imul, 1) := by decide +kernel
theorem dX2_hoursLeft_15 : decode cX2_hoursLeft 15 = .ok (.aload_n 0, 1) := by decide +kernel
theorem dX2_hoursLeft_16 : decode cX2_hoursLeft 16 = .ok (.getfield 25, 3) := by decide +kernel
theorem dX2_hoursLeft_19 : decode cX2_hoursLeft 19 = .ok (.iload_n 1, 1) := by decide +kernel
theorem dX2_hoursLeft_20 : decode cX2_hoursLeft 20 = .ok (.iaload, 1) := by decide +kernel
theorem dX2_hoursLeft_21 : decode cX2_hoursLeft 21 = .ok (.isub, 1) := by decide +kernel
theorem dX2_hoursLeft_22 : decode cX2_hoursLeft 22 = .ok (.istore 4, 2) := by decide +kernel
theorem dX2_hoursLeft_24 : decode cX2_hoursLeft 24 = .ok (.iload 4, 2) := by decide +kernel
theorem dX2_hoursLeft_26 : decode cX2_hoursLeft 26 = .ok (.iload_n 3, 1) := by decide +kernel
theorem dX2_hoursLeft_27 : decode cX2_hoursLeft 27 = .ok (.iadd, 1) := by decide +kernel
theorem dX2_hoursLeft_28 : decode cX2_hoursLeft 28 = .ok (.iconst 1, 1) := by decide +kernel
theorem dX2_hoursLeft_29 : decode cX2_hoursLeft 29 = .ok (.isub, 1) := by decide +kernel
theorem dX2_hoursLeft_30 : decode cX2_hoursLeft 30 = .ok (.iload_n 3, 1) := by decide +kernel
theorem dX2_hoursLeft_31 : decode cX2_hoursLeft 31 = .ok (.idiv, 1) := by decide +kernel
theorem dX2_hoursLeft_32 : decode cX2_hoursLeft 32 = .ok (.ireturn, 1) := by decide +kernel
theorem dX2_burn_0 : decode cX2_burn 0 = .ok (.aload_n 0, 1) := by decide +kernel
theorem dX2_burn_1 : decode cX2_burn 1 = .ok (.getfield 28, 3) := by decide +kernel
theorem dX2_burn_4 : decode cX2_burn 4 = .ok (.iload_n 1, 1) := by decide +kernel
theorem dX2_burn_5 : decode cX2_burn 5 = .ok (.dup2, 1) := by decide +kernel
theorem dX2_burn_6 : decode cX2_burn 6 = .ok (.iaload, 1) := by decide +kernel
theorem dX2_burn_7 : decode cX2_burn 7 = .ok (.iload_n 3, 1) := by decide +kernel
theorem dX2_burn_8 : decode cX2_burn 8 = .ok (.iadd, 1) := by decide +kernel
theorem dX2_burn_9 : decode cX2_burn 9 = .ok (.iastore, 1) := by decide +kernel
theorem dX2_burn_10 : decode cX2_burn 10 = .ok (.aload_n 0, 1) := by decide +kernel
theorem dX2_burn_11 : decode cX2_burn 11 = .ok (.getfield 25, 3) := by decide +kernel
theorem dX2_burn_14 : decode cX2_burn 14 = .ok (.iload_n 1, 1) := by decide +kernel
theorem dX2_burn_15 : decode cX2_burn 15 = .ok (.dup2, 1) := by decide +kernel
theorem dX2_burn_16 : decode cX2_burn 16 = .ok (.iaload, 1) := by decide +kernel
theorem dX2_burn_17 : decode cX2_burn 17 = .ok (.iload_n 3, 1) := by decide +kernel
theorem dX2_burn_18 : decode cX2_burn 18 = .ok (.iload_n 2, 1) := by decide +kernel
theorem dX2_burn_19 : decode cX2_burn 19 = .ok (.imul, 1) := by decide +kernel
theorem dX2_burn_20 : decode cX2_burn 20 = .ok (.iadd, 1) := by decide +kernel
theorem dX2_burn_21 : decode cX2_burn 21 = .ok (.iastore, 1) := by decide +kernel
theorem dX2_burn_22 : decode cX2_burn 22 = .ok (.return_, 1) := by decide +kernel
set_option maxRecDepth 20000 in
theorem ggX2_countOf_X6_oneIf : GoodIn wsX2_countOf wsX6_oneIf := goodIn_r _ [5] (by decide +kernel) (by decide +kernel)
set_option maxRecDepth 20000 in
theorem gX2_countOf_X6_oneIf_n52 : GoodIn wsX2_countOf (wsX6_oneIf) := ggX2_countOf_X6_oneIf
theorem dX2_countOf_0 : decode cX2_countOf 0 = .ok (.iconst 0, 1) := by decide +kernel
theorem dX2_countOf_1 : decode cX2_countOf 1 = .ok (.istore_n 2, 1) := by decide +kernel
theorem dX2_countOf_2 : decode cX2_countOf 2 = .ok (.iconst 0, 1) := by decide +kernel
theorem dX2_countOf_3 : decode cX2_countOf 3 = .ok (.istore_n 3, 1) := by decide +kernel
theorem dX2_countOf_4 : decode cX2_countOf 4 = .ok (.iload_n 3, 1) := by decide +kernel
theorem dX2_countOf_5 : decode cX2_countOf 5 = .ok (.aload_n 0, 1) := by decide +kernel
theorem dX2_countOf_6 : decode cX2_countOf 6 = .ok (.getfield 9, 3) := by decide +kernel
theorem dX2_countOf_9 : decode cX2_countOf 9 = .ok (.if_icmp .ge 30, 3) := by decide +kernel
theorem dX2_countOf_12 : decode cX2_countOf 12 = .ok (.iload_n 2, 1) := by decide +kernel
theorem dX2_countOf_13 : decode cX2_countOf 13 = .ok (.aload_n 0, 1) := by decide +kernel
theorem dX2_countOf_14 : decode cX2_countOf 14 = .ok (.getfield 15, 3) := by decide +kernel
theorem dX2_countOf_17 : decode cX2_countOf 17 = .ok (.iload_n 3, 1) := by decide +kernel
theorem dX2_countOf_18 : decode cX2_countOf 18 = .ok (.iaload, 1) := by decide +kernel
theorem dX2_countOf_19 : decode cX2_countOf 19 = .ok (.iload_n 1, 1) := by decide +kernel
theorem dX2_countOf_20 : decode cX2_countOf 20 = .ok (.if_icmp .ne 7, 3) := by decide +kernel
theorem dX2_countOf_23 : decode cX2_countOf 23 = .ok (.iconst 1, 1) := by decide +kernel
theorem dX2_countOf_24 : decode cX2_countOf 24 = .ok (.goto 4, 3) := by decide +kernel
theorem dX2_countOf_27 : decode cX2_countOf 27 = .ok (.iconst 0, 1) := by decide +kernel
theorem dX2_countOf_28 : decode cX2_countOf 28 = .ok (.invokestatic 52, 3) := by decide +kernel
theorem dX2_countOf_31 : decode cX2_countOf 31 = .ok (.iadd, 1) := by decide +kernel
theorem dX2_countOf_32 : decode cX2_countOf 32 = .ok (.istore_n 2, 1) := by decide +kernel
theorem dX2_countOf_33 : decode cX2_countOf 33 = .ok (.iinc 3 1, 3) := by decide +kernel
theorem dX2_countOf_36 : decode cX2_countOf 36 = .ok (.goto (-32), 3) := by decide +kernel
theorem dX2_countOf_39 : decode cX2_countOf 39 = .ok (.iload_n 2, 1) := by decide +kernel
theorem dX2_countOf_40 : decode cX2_countOf 40 = .ok (.ireturn, 1) := by decide +kernel
set_option maxRecDepth 20000 in
theorem ggX2_countDeadOf_X2_isDeadOf : GoodIn wsX2_countDeadOf wsX2_isDeadOf := goodIn_r _ [6, 7, 8, 9, 10, 5, 11, 12, 16, 17, 18, 19, 20, 21, 22] (by decide +kernel) (by decide +kernel)
set_option maxRecDepth 20000 in
theorem gX2_countDeadOf_X2_isDeadOf : GoodIn wsX2_countDeadOf (wsV RX2 56 RX2 yX2_isDeadOf wsX2_isDeadOf) := goodIn_app (goodIn_of _ (by decide +kernel)) ggX2_countDeadOf_X2_isDeadOf
set_option maxRecDepth 20000 in
theorem ggX2_countDeadOf_X6_oneIf : GoodIn wsX2_countDeadOf wsX6_oneIf := goodIn_r _ [15] (by decide +kernel) (by decide +kernel)
set_option maxRecDepth 20000 in
theorem gX2_countDeadOf_X6_oneIf_n52 : GoodIn wsX2_countDeadOf (wsX6_oneIf) := ggX2_countDeadOf_X6_oneIf
theorem dX2_countDeadOf_0 : decode cX2_countDeadOf 0 = .ok (.iconst 0, 1) := by decide +kernel
theorem dX2_countDeadOf_1 : decode cX2_countDeadOf 1 = .ok (.istore_n 2, 1) := by decide +kernel
theorem dX2_countDeadOf_2 : decode cX2_countDeadOf 2 = .ok (.iconst 0, 1) := by decide +kernel
theorem dX2_countDeadOf_3 : decode cX2_countDeadOf 3 = .ok (.istore_n 3, 1) := by decide +kernel
theorem dX2_countDeadOf_4 : decode cX2_countDeadOf 4 = .ok (.iload_n 3, 1) := by decide +kernel
theorem dX2_countDeadOf_5 : decode cX2_countDeadOf 5 = .ok (.aload_n 0, 1) := by decide +kernel
theorem dX2_countDeadOf_6 : decode cX2_countDeadOf 6 = .ok (.getfield 9, 3) := by decide +kernel
theorem dX2_countDeadOf_9 : decode cX2_countDeadOf 9 = .ok (.if_icmp .ge 21, 3) := by decide +kernel
theorem dX2_countDeadOf_12 : decode cX2_countDeadOf 12 = .ok (.iload_n 2, 1) := by decide +kernel
theorem dX2_countDeadOf_13 : decode cX2_countDeadOf 13 = .ok (.aload_n 0, 1) := by decide +kernel
theorem dX2_countDeadOf_14 : decode cX2_countDeadOf 14 = .ok (.iload_n 3, 1) := by decide +kernel
theorem dX2_countDeadOf_15 : decode cX2_countDeadOf 15 = .ok (.iload_n 1, 1) := by decide +kernel
theorem dX2_countDeadOf_16 : decode cX2_countDeadOf 16 = .ok (.invokevirtual 56, 3) := by decide +kernel
theorem dX2_countDeadOf_19 : decode cX2_countDeadOf 19 = .ok (.invokestatic 52, 3) := by decide +kernel
theorem dX2_countDeadOf_22 : decode cX2_countDeadOf 22 = .ok (.iadd, 1) := by decide +kernel
theorem dX2_countDeadOf_23 : decode cX2_countDeadOf 23 = .ok (.istore_n 2, 1) := by decide +kernel
theorem dX2_countDeadOf_24 : decode cX2_countDeadOf 24 = .ok (.iinc 3 1, 3) := by decide +kernel
theorem dX2_countDeadOf_27 : decode cX2_countDeadOf 27 = .ok (.goto (-23), 3) := by decide +kernel
theorem dX2_countDeadOf_30 : decode cX2_countDeadOf 30 = .ok (.iload_n 2, 1) := by decide +kernel
theorem dX2_countDeadOf_31 : decode cX2_countDeadOf 31 = .ok (.ireturn, 1) := by decide +kernel
set_option maxRecDepth 20000 in
theorem ggX2_countDeadBelow_X2_isDeadOf : GoodIn wsX2_countDeadBelow wsX2_isDeadOf := goodIn_r _ [6, 7, 8, 9, 10, 5, 11, 12, 21, 22, 23, 24, 25, 26, 27] (by decide +kernel) (by decide +kernel)
set_option maxRecDepth 20000 in
theorem gX2_countDeadBelow_X2_isDeadOf : GoodIn wsX2_countDeadBelow (wsV RX2 56 RX2 yX2_isDeadOf wsX2_isDeadOf) := goodIn_app (goodIn_of _ (by decide +kernel)) ggX2_countDeadBelow_X2_isDeadOf
set_option maxRecDepth 20000 in
theorem ggX2_countDeadBelow_X2_hoursCounted : GoodIn wsX2_countDeadBelow wsX2_hoursCounted := goodIn_r _ [16, 17, 21, 22, 23, 24, 25, 26, 27] (by decide +kernel) (by decide +kernel)
set_option maxRecDepth 20000 in
theorem gX2_countDeadBelow_X2_hoursCounted : GoodIn wsX2_countDeadBelow (wsV RX2 60 RX2 yX2_hoursCounted wsX2_hoursCounted) := goodIn_app (goodIn_of _ (by decide +kernel)) ggX2_countDeadBelow_X2_hoursCounted
set_option maxRecDepth 20000 in
theorem ggX2_countDeadBelow_X6_oneIf : GoodIn wsX2_countDeadBelow wsX6_oneIf := goodIn_r _ [20] (by decide +kernel) (by decide +kernel)
set_option maxRecDepth 20000 in
theorem gX2_countDeadBelow_X6_oneIf_n52 : GoodIn wsX2_countDeadBelow (wsX6_oneIf) := ggX2_countDeadBelow_X6_oneIf
theorem dX2_countDeadBelow_0 : decode cX2_countDeadBelow 0 = .ok (.iconst 0, 1) := by decide +kernel
theorem dX2_countDeadBelow_1 : decode cX2_countDeadBelow 1 = .ok (.istore_n 3, 1) := by decide +kernel
theorem dX2_countDeadBelow_2 : decode cX2_countDeadBelow 2 = .ok (.iconst 0, 1) := by decide +kernel
theorem dX2_countDeadBelow_3 : decode cX2_countDeadBelow 3 = .ok (.istore 4, 2) := by decide +kernel
theorem dX2_countDeadBelow_5 : decode cX2_countDeadBelow 5 = .ok (.iload 4, 2) := by decide +kernel
theorem dX2_countDeadBelow_7 : decode cX2_countDeadBelow 7 = .ok (.aload_n 0, 1) := by decide +kernel
theorem dX2_countDeadBelow_8 : decode cX2_countDeadBelow 8 = .ok (.getfield 9, 3) := by decide +kernel
theorem dX2_countDeadBelow_11 : decode cX2_countDeadBelow 11 = .ok (.if_icmp .ge 40, 3) := by decide +kernel
theorem dX2_countDeadBelow_14 : decode cX2_countDeadBelow 14 = .ok (.iload_n 3, 1) := by decide +kernel
theorem dX2_countDeadBelow_15 : decode cX2_countDeadBelow 15 = .ok (.aload_n 0, 1) := by decide +kernel
theorem dX2_countDeadBelow_16 : decode cX2_countDeadBelow 16 = .ok (.iload 4, 2) := by decide +kernel
theorem dX2_countDeadBelow_18 : decode cX2_countDeadBelow 18 = .ok (.iload_n 1, 1) := by decide +kernel
theorem dX2_countDeadBelow_19 : decode cX2_countDeadBelow 19 = .ok (.invokevirtual 56, 3) := by decide +kernel
theorem dX2_countDeadBelow_22 : decode cX2_countDeadBelow 22 = .ok (.ifCond .eq 17, 3) := by decide +kernel
theorem dX2_countDeadBelow_25 : decode cX2_countDeadBelow 25 = .ok (.aload_n 0, 1) := by decide +kernel
theorem dX2_countDeadBelow_26 : decode cX2_countDeadBelow 26 = .ok (.iload 4, 2) := by decide +kernel
theorem dX2_countDeadBelow_28 : decode cX2_countDeadBelow 28 = .ok (.invokevirtual 60, 3) := by decide +kernel
theorem dX2_countDeadBelow_31 : decode cX2_countDeadBelow 31 = .ok (.iload_n 2, 1) := by decide +kernel
theorem dX2_countDeadBelow_32 : decode cX2_countDeadBelow 32 = .ok (.if_icmp .ge 7, 3) := by decide +kernel
theorem dX2_countDeadBelow_35 : decode cX2_countDeadBelow 35 = .ok (.iconst 1, 1) := by decide +kernel
theorem dX2_countDeadBelow_36 : decode cX2_countDeadBelow 36 = .ok (.goto 4, 3) := by decide +kernel
theorem dX2_countDeadBelow_39 : decode cX2_countDeadBelow 39 = .ok (.iconst 0, 1) := by decide +kernel
theorem dX2_countDeadBelow_40 : decode cX2_countDeadBelow 40 = .ok (.invokestatic 52, 3) := by decide +kernel
theorem dX2_countDeadBelow_43 : decode cX2_countDeadBelow 43 = .ok (.iadd, 1) := by decide +kernel
theorem dX2_countDeadBelow_44 : decode cX2_countDeadBelow 44 = .ok (.istore_n 3, 1) := by decide +kernel
theorem dX2_countDeadBelow_45 : decode cX2_countDeadBelow 45 = .ok (.iinc 4 1, 3) := by decide +kernel
theorem dX2_countDeadBelow_48 : decode cX2_countDeadBelow 48 = .ok (.goto (-43), 3) := by decide +kernel
theorem dX2_countDeadBelow_51 : decode cX2_countDeadBelow 51 = .ok (.iload_n 3, 1) := by decide +kernel
theorem dX2_countDeadBelow_52 : decode cX2_countDeadBelow 52 = .ok (.ireturn, 1) := by decide +kernel
set_option maxRecDepth 20000 in
theorem ggX2_countThatLasted_X2_hoursCounted : GoodIn wsX2_countThatLasted wsX2_hoursCounted := goodIn_r _ [7, 8, 12, 13, 14, 15, 16, 17, 18] (by decide +kernel) (by decide +kernel)
set_option maxRecDepth 20000 in
theorem gX2_countThatLasted_X2_hoursCounted : GoodIn wsX2_countThatLasted (wsV RX2 60 RX2 yX2_hoursCounted wsX2_hoursCounted) := goodIn_app (goodIn_of _ (by decide +kernel)) ggX2_countThatLasted_X2_hoursCounted
set_option maxRecDepth 20000 in
theorem ggX2_countThatLasted_X6_oneIf : GoodIn wsX2_countThatLasted wsX6_oneIf := goodIn_r _ [11] (by decide +kernel) (by decide +kernel)
set_option maxRecDepth 20000 in
theorem gX2_countThatLasted_X6_oneIf_n52 : GoodIn wsX2_countThatLasted (wsX6_oneIf) := ggX2_countThatLasted_X6_oneIf
theorem dX2_countThatLasted_0 : decode cX2_countThatLasted 0 = .ok (.iconst 0, 1) := by decide +kernel
theorem dX2_countThatLasted_1 : decode cX2_countThatLasted 1 = .ok (.istore_n 3, 1) := by decide +kernel
theorem dX2_countThatLasted_2 : decode cX2_countThatLasted 2 = .ok (.iconst 0, 1) := by decide +kernel
theorem dX2_countThatLasted_3 : decode cX2_countThatLasted 3 = .ok (.istore 4, 2) := by decide +kernel
theorem dX2_countThatLasted_5 : decode cX2_countThatLasted 5 = .ok (.iload 4, 2) := by decide +kernel
theorem dX2_countThatLasted_7 : decode cX2_countThatLasted 7 = .ok (.aload_n 0, 1) := by decide +kernel
theorem dX2_countThatLasted_8 : decode cX2_countThatLasted 8 = .ok (.getfield 9, 3) := by decide +kernel
theorem dX2_countThatLasted_11 : decode cX2_countThatLasted 11 = .ok (.if_icmp .ge 41, 3) := by decide +kernel
theorem dX2_countThatLasted_14 : decode cX2_countThatLasted 14 = .ok (.iload_n 3, 1) := by decide +kernel
theorem dX2_countThatLasted_15 : decode cX2_countThatLasted 15 = .ok (.aload_n 0, 1) := by decide +kernel
theorem dX2_countThatLasted_16 : decode cX2_countThatLasted 16 = .ok (.getfield 15, 3) := by decide +kernel
theorem dX2_countThatLasted_19 : decode cX2_countThatLasted 19 = .ok (.iload 4, 2) := by decide +kernel
theorem dX2_countThatLasted_21 : decode cX2_countThatLasted 21 = .ok (.iaload, 1) := by decide +kernel
theorem dX2_countThatLasted_22 : decode cX2_countThatLasted 22 = .ok (.iload_n 1, 1) := by decide +kernel
theorem dX2_countThatLasted_23 : decode cX2_countThatLasted 23 = .ok (.if_icmp .ne 17, 3) := by decide +kernel
theorem dX2_countThatLasted_26 : decode cX2_countThatLasted 26 = .ok (.aload_n 0, 1) := by decide +kernel
theorem dX2_countThatLasted_27 : decode cX2_countThatLasted 27 = .ok (.iload 4, 2) := by decide +kernel
theorem dX2_countThatLasted_29 : decode cX2_countThatLasted 29 = .ok (.invokevirtual 60, 3) := by decide +kernel
theorem dX2_countThatLasted_32 : decode cX2_countThatLasted 32 = .ok (.iload_n 2, 1) := by decide +kernel
theorem dX2_countThatLasted_33 : decode cX2_countThatLasted 33 = .ok (.if_icmp .lt 7, 3) := by decide +kernel
theorem dX2_countThatLasted_36 : decode cX2_countThatLasted 36 = .ok (.iconst 1, 1) := by decide +kernel
theorem dX2_countThatLasted_37 : decode cX2_countThatLasted 37 = .ok (.goto 4, 3) := by decide +kernel
theorem dX2_countThatLasted_40 : decode cX2_countThatLasted 40 = .ok (.iconst 0, 1) := by decide +kernel
theorem dX2_countThatLasted_41 : decode cX2_countThatLasted 41 = .ok (.invokestatic 52, 3) := by decide +kernel
theorem dX2_countThatLasted_44 : decode cX2_countThatLasted 44 = .ok (.iadd, 1) := by decide +kernel
theorem dX2_countThatLasted_45 : decode cX2_countThatLasted 45 = .ok (.istore_n 3, 1) := by decide +kernel
theorem dX2_countThatLasted_46 : decode cX2_countThatLasted 46 = .ok (.iinc 4 1, 3) := by decide +kernel
theorem dX2_countThatLasted_49 : decode cX2_countThatLasted 49 = .ok (.goto (-44), 3) := by decide +kernel
theorem dX2_countThatLasted_52 : decode cX2_countThatLasted 52 = .ok (.iload_n 3, 1) := by decide +kernel
theorem dX2_countThatLasted_53 : decode cX2_countThatLasted 53 = .ok (.ireturn, 1) := by decide +kernel
set_option maxRecDepth 20000 in
theorem ggX2_countDead_X2_isDead : GoodIn wsX2_countDead wsX2_isDead := goodIn_r _ [6, 7, 11, 12, 13, 14, 15, 16, 17] (by decide +kernel) (by decide +kernel)
set_option maxRecDepth 20000 in
theorem gX2_countDead_X2_isDead : GoodIn wsX2_countDead (wsV RX2 42 RX2 yX2_isDead wsX2_isDead) := goodIn_app (goodIn_of _ (by decide +kernel)) ggX2_countDead_X2_isDead
set_option maxRecDepth 20000 in
theorem ggX2_countDead_X6_oneIf : GoodIn wsX2_countDead wsX6_oneIf := goodIn_r _ [10] (by decide +kernel) (by decide +kernel)
set_option maxRecDepth 20000 in
theorem gX2_countDead_X6_oneIf_n52 : GoodIn wsX2_countDead (wsX6_oneIf) := ggX2_countDead_X6_oneIf
theorem dX2_countDead_0 : decode cX2_countDead 0 = .ok (.iconst 0, 1) := by decide +kernel
theorem dX2_countDead_1 : decode cX2_countDead 1 = .ok (.istore_n 1, 1) := by decide +kernel
theorem dX2_countDead_2 : decode cX2_countDead 2 = .ok (.iconst 0, 1) := by decide +kernel
theorem dX2_countDead_3 : decode cX2_countDead 3 = .ok (.istore_n 2, 1) := by decide +kernel
theorem dX2_countDead_4 : decode cX2_countDead 4 = .ok (.iload_n 2, 1) := by decide +kernel
theorem dX2_countDead_5 : decode cX2_countDead 5 = .ok (.aload_n 0, 1) := by decide +kernel
theorem dX2_countDead_6 : decode cX2_countDead 6 = .ok (.getfield 9, 3) := by decide +kernel
theorem dX2_countDead_9 : decode cX2_countDead 9 = .ok (.if_icmp .ge 20, 3) := by decide +kernel
theorem dX2_countDead_12 : decode cX2_countDead 12 = .ok (.iload_n 1, 1) := by decide +kernel
theorem dX2_countDead_13 : decode cX2_countDead 13 = .ok (.aload_n 0, 1) := by decide +kernel
theorem dX2_countDead_14 : decode cX2_countDead 14 = .ok (.iload_n 2, 1) := by decide +kernel
theorem dX2_countDead_15 : decode cX2_countDead 15 = .ok (.invokevirtual 42, 3) := by decide +kernel
theorem dX2_countDead_18 : decode cX2_countDead 18 = .ok (.invokestatic 52, 3) := by decide +kernel
theorem dX2_countDead_21 : decode cX2_countDead 21 = .ok (.iadd, 1) := by decide +kernel
theorem dX2_countDead_22 : decode cX2_countDead 22 = .ok (.istore_n 1, 1) := by decide +kernel
theorem dX2_countDead_23 : decode cX2_countDead 23 = .ok (.iinc 2 1, 3) := by decide +kernel
theorem dX2_countDead_26 : decode cX2_countDead 26 = .ok (.goto (-22), 3) := by decide +kernel
theorem dX2_countDead_29 : decode cX2_countDead 29 = .ok (.iload_n 1, 1) := by decide +kernel
theorem dX2_countDead_30 : decode cX2_countDead 30 = .ok (.ireturn, 1) := by decide +kernel
set_option maxRecDepth 20000 in
theorem ggX2_countInRacks_X6_oneIf : GoodIn wsX2_countInRacks wsX6_oneIf := goodIn_r _ [5] (by decide +kernel) (by decide +kernel)
set_option maxRecDepth 20000 in
theorem gX2_countInRacks_X6_oneIf_n52 : GoodIn wsX2_countInRacks (wsX6_oneIf) := ggX2_countInRacks_X6_oneIf
theorem dX2_countInRacks_0 : decode cX2_countInRacks 0 = .ok (.iconst 0, 1) := by decide +kernel
theorem dX2_countInRacks_1 : decode cX2_countInRacks 1 = .ok (.istore_n 1, 1) := by decide +kernel
theorem dX2_countInRacks_2 : decode cX2_countInRacks 2 = .ok (.iconst 0, 1) := by decide +kernel
theorem dX2_countInRacks_3 : decode cX2_countInRacks 3 = .ok (.istore_n 2, 1) := by decide +kernel
theorem dX2_countInRacks_4 : decode cX2_countInRacks 4 = .ok (.iload_n 2, 1) := by decide +kernel
theorem dX2_countInRacks_5 : decode cX2_countInRacks 5 = .ok (.aload_n 0, 1) := by decide +kernel
theorem dX2_countInRacks_6 : decode cX2_countInRacks 6 = .ok (.getfield 9, 3) := by decide +kernel
theorem dX2_countInRacks_9 : decode cX2_countInRacks 9 = .ok (.if_icmp .ge 30, 3) := by decide +kernel
theorem dX2_countInRacks_12 : decode cX2_countInRacks 12 = .ok (.iload_n 1, 1) := by decide +kernel
theorem dX2_countInRacks_13 : decode cX2_countInRacks 13 = .ok (.aload_n 0, 1) := by decide +kernel
theorem dX2_countInRacks_14 : decode cX2_countInRacks 14 = .ok (.getfield 19, 3) := by decide +kernel
theorem dX2_countInRacks_17 : decode cX2_countInRacks 17 = .ok (.iload_n 2, 1) := by decide +kernel
theorem dX2_countInRacks_18 : decode cX2_countInRacks 18 = .ok (.iaload, 1) := by decide +kernel
theorem dX2_countInRacks_19 : decode cX2_countInRacks 19 = .ok (.iconst (-1), 1) := by decide +kernel
theorem dX2_countInRacks_20 : decode cX2_countInRacks 20 = .ok (.if_icmp .eq 7, 3) := by decide +kernel
theorem dX2_countInRacks_23 : decode cX2_countInRacks 23 = .ok (.iconst 1, 1) := by decide +kernel
theorem dX2_countInRacks_24 : decode cX2_countInRacks 24 = .ok (.goto 4, 3) := by decide +kernel
theorem dX2_countInRacks_27 : decode cX2_countInRacks 27 = .ok (.iconst 0, 1) := by decide +kernel
theorem dX2_countInRacks_28 : decode cX2_countInRacks 28 = .ok (.invokestatic 52, 3) := by decide +kernel
theorem dX2_countInRacks_31 : decode cX2_countInRacks 31 = .ok (.iadd, 1) := by decide +kernel
theorem dX2_countInRacks_32 : decode cX2_countInRacks 32 = .ok (.istore_n 1, 1) := by decide +kernel
theorem dX2_countInRacks_33 : decode cX2_countInRacks 33 = .ok (.iinc 2 1, 3) := by decide +kernel
theorem dX2_countInRacks_36 : decode cX2_countInRacks 36 = .ok (.goto (-32), 3) := by decide +kernel
theorem dX2_countInRacks_39 : decode cX2_countInRacks 39 = .ok (.iload_n 1, 1) := by decide +kernel
theorem dX2_countInRacks_40 : decode cX2_countInRacks 40 = .ok (.ireturn, 1) := by decide +kernel
set_option maxRecDepth 20000 in
theorem ggX2_countWeak_X6_isWeak : GoodIn wsX2_countWeak wsX6_isWeak := goodIn_r _ [4, 5, 6, 3, 7] (by decide +kernel) (by decide +kernel)
set_option maxRecDepth 20000 in
theorem gX2_countWeak_X6_isWeak_n64 : GoodIn wsX2_countWeak (wsX6_isWeak) := ggX2_countWeak_X6_isWeak
set_option maxRecDepth 20000 in
theorem ggX2_countWeak_X6_oneIf : GoodIn wsX2_countWeak wsX6_oneIf := goodIn_r _ [9] (by decide +kernel) (by decide +kernel)
set_option maxRecDepth 20000 in
theorem gX2_countWeak_X6_oneIf_n52 : GoodIn wsX2_countWeak (wsX6_oneIf) := ggX2_countWeak_X6_oneIf
theorem dX2_countWeak_0 : decode cX2_countWeak 0 = .ok (.iconst 0, 1) := by decide +kernel
theorem dX2_countWeak_1 : decode cX2_countWeak 1 = .ok (.istore_n 1, 1) := by decide +kernel
theorem dX2_countWeak_2 : decode cX2_countWeak 2 = .ok (.iconst 0, 1) := by decide +kernel
theorem dX2_countWeak_3 : decode cX2_countWeak 3 = .ok (.istore_n 2, 1) := by decide +kernel
theorem dX2_countWeak_4 : decode cX2_countWeak 4 = .ok (.iload_n 2, 1) := by decide +kernel
theorem dX2_countWeak_5 : decode cX2_countWeak 5 = .ok (.aload_n 0, 1) := by decide +kernel
theorem dX2_countWeak_6 : decode cX2_countWeak 6 = .ok (.getfield 9, 3) := by decide +kernel
theorem dX2_countWeak_9 : decode cX2_countWeak 9 = .ok (.if_icmp .ge 19, 3) := by decide +kernel
theorem dX2_countWeak_12 : decode cX2_countWeak 12 = .ok (.iload_n 1, 1) := by decide +kernel
theorem dX2_countWeak_13 : decode cX2_countWeak 13 = .ok (.iload_n 2, 1) := by decide +kernel
theorem dX2_countWeak_14 : decode cX2_countWeak 14 = .ok (.invokestatic 64, 3) := by decide +kernel
theorem dX2_countWeak_17 : decode cX2_countWeak 17 = .ok (.invokestatic 52, 3) := by decide +kernel
theorem dX2_countWeak_20 : decode cX2_countWeak 20 = .ok (.iadd, 1) := by decide +kernel
theorem dX2_countWeak_21 : decode cX2_countWeak 21 = .ok (.istore_n 1, 1) := by decide +kernel
theorem dX2_countWeak_22 : decode cX2_countWeak 22 = .ok (.iinc 2 1, 3) := by decide +kernel
theorem dX2_countWeak_25 : decode cX2_countWeak 25 = .ok (.goto (-21), 3) := by decide +kernel
theorem dX2_countWeak_28 : decode cX2_countWeak 28 = .ok (.iload_n 1, 1) := by decide +kernel
theorem dX2_countWeak_29 : decode cX2_countWeak 29 = .ok (.ireturn, 1) := by decide +kernel
theorem dX2_sumOf_0 : decode cX2_sumOf 0 = .ok (.iconst 0, 1) := by decide +kernel
theorem dX2_sumOf_1 : decode cX2_sumOf 1 = .ok (.istore_n 2, 1) := by decide +kernel
theorem dX2_sumOf_2 : decode cX2_sumOf 2 = .ok (.iconst 0, 1) := by decide +kernel
theorem dX2_sumOf_3 : decode cX2_sumOf 3 = .ok (.istore_n 3, 1) := by decide +kernel
theorem dX2_sumOf_4 : decode cX2_sumOf 4 = .ok (.iload_n 3, 1) := by decide +kernel
theorem dX2_sumOf_5 : decode cX2_sumOf 5 = .ok (.aload_n 0, 1) := by decide +kernel
theorem dX2_sumOf_6 : decode cX2_sumOf 6 = .ok (.getfield 9, 3) := by decide +kernel
theorem dX2_sumOf_9 : decode cX2_sumOf 9 = .ok (.aload_n 1, 1) := by decide +kernel
theorem dX2_sumOf_10 : decode cX2_sumOf 10 = .ok (.arraylength, 1) := by decide +kernel
theorem dX2_sumOf_11 : decode cX2_sumOf 11 = .ok (.invokestatic 67, 3) := by decide +kernel
theorem dX2_sumOf_14 : decode cX2_sumOf 14 = .ok (.if_icmp .ge 15, 3) := by decide +kernel
theorem dX2_sumOf_17 : decode cX2_sumOf 17 = .ok (.iload_n 2, 1) := by decide +kernel
theorem dX2_sumOf_18 : decode cX2_sumOf 18 = .ok (.aload_n 1, 1) := by decide +kernel
theorem dX2_sumOf_19 : decode cX2_sumOf 19 = .ok (.iload_n 3, 1) := by decide +kernel
theorem dX2_sumOf_20 : decode cX2_sumOf 20 = .ok (.iaload, 1) := by decide +kernel
theorem dX2_sumOf_21 : decode cX2_sumOf 21 = .ok (.iadd, 1) := by decide +kernel
theorem dX2_sumOf_22 : decode cX2_sumOf 22 = .ok (.istore_n 2, 1) := by decide +kernel
theorem dX2_sumOf_23 : decode cX2_sumOf 23 = .ok (.iinc 3 1, 3) := by decide +kernel
theorem dX2_sumOf_26 : decode cX2_sumOf 26 = .ok (.goto (-22), 3) := by decide +kernel
theorem dX2_sumOf_29 : decode cX2_sumOf 29 = .ok (.iload_n 2, 1) := by decide +kernel
theorem dX2_sumOf_30 : decode cX2_sumOf 30 = .ok (.ireturn, 1) := by decide +kernel
set_option maxRecDepth 20000 in
theorem ggX2_findEnded_X2_isDead : GoodIn wsX2_findEnded wsX2_isDead := goodIn_r _ [6, 7, 15, 16, 17, 18, 19, 20, 21] (by decide +kernel) (by decide +kernel)
set_option maxRecDepth 20000 in
theorem gX2_findEnded_X2_isDead : GoodIn wsX2_findEnded (wsV RX2 42 RX2 yX2_isDead wsX2_isDead) := goodIn_app (goodIn_of _ (by decide +kernel)) ggX2_findEnded_X2_isDead
set_option maxRecDepth 20000 in
theorem ggX2_findEnded_X2_countEndedBefore : GoodIn wsX2_findEnded wsX2_countEndedBefore := goodIn_r _ [11, 1, 7, 2, 3, 4, 5, 6, 12, 13, 14, 15, 16, 17, 18, 19, 20, 21] (by decide +kernel) (by decide +kernel)
set_option maxRecDepth 20000 in
theorem gX2_findEnded_X2_countEndedBefore : GoodIn wsX2_findEnded (wsV RX2 70 RX2 yX2_countEndedBefore wsX2_countEndedBefore) := goodIn_app (goodIn_of _ (by decide +kernel)) ggX2_findEnded_X2_countEndedBefore
theorem dX2_findEnded_0 : decode cX2_findEnded 0 = .ok (.iconst 0, 1) := by decide +kernel
theorem dX2_findEnded_1 : decode cX2_findEnded 1 = .ok (.istore_n 2, 1) := by decide +kernel
theorem dX2_findEnded_2 : decode cX2_findEnded 2 = .ok (.iload_n 2, 1) := by decide +kernel
theorem dX2_findEnded_3 : decode cX2_findEnded 3 = .ok (.aload_n 0, 1) := by decide +kernel
theorem dX2_findEnded_4 : decode cX2_findEnded 4 = .ok (.getfield 9, 3) := by decide +kernel
theorem dX2_findEnded_7 : decode cX2_findEnded 7 = .ok (.if_icmp .ge 28, 3) := by decide +kernel
theorem dX2_findEnded_10 : decode cX2_findEnded 10 = .ok (.aload_n 0, 1) := by decide +kernel
theorem dX2_findEnded_11 : decode cX2_findEnded 11 = .ok (.iload_n 2, 1) := by decide +kernel
theorem dX2_findEnded_12 : decode cX2_findEnded 12 = .ok (.invokevirtual 42, 3) := by decide +kernel
theorem dX2_findEnded_15 : decode cX2_findEnded 15 = .ok (.ifCond .eq 14, 3) := by decide +kernel
theorem dX2_findEnded_18 : decode cX2_findEnded 18 = .ok (.aload_n 0, 1) := by decide +kernel
theorem dX2_findEnded_19 : decode cX2_findEnded 19 = .ok (.iload_n 2, 1) := by decide +kernel
theorem dX2_findEnded_20 : decode cX2_findEnded 20 = .ok (.invokevirtual 70, 3) := by decide +kernel
theorem dX2_findEnded_23 : decode cX2_findEnded 23 = .ok (.iload_n 1, 1) := by decide +kernel
theorem dX2_findEnded_24 : decode cX2_findEnded 24 = .ok (.if_icmp .ne 5, 3) := by decide +kernel
theorem dX2_findEnded_27 : decode cX2_findEnded 27 = .ok (.iload_n 2, 1) := by decide +kernel
theorem dX2_findEnded_28 : decode cX2_findEnded 28 = .ok (.ireturn, 1) := by decide +kernel
theorem dX2_findEnded_29 : decode cX2_findEnded 29 = .ok (.iinc 2 1, 3) := by decide +kernel
theorem dX2_findEnded_32 : decode cX2_findEnded 32 = .ok (.goto (-30), 3) := by decide +kernel
theorem dX2_findEnded_35 : decode cX2_findEnded 35 = .ok (.iconst (-1), 1) := by decide +kernel
theorem dX2_findEnded_36 : decode cX2_findEnded 36 = .ok (.ireturn, 1) := by decide +kernel
set_option maxRecDepth 20000 in
theorem ggX2_countEndedBefore_X2_isDead : GoodIn wsX2_countEndedBefore wsX2_isDead := goodIn_r _ [7, 2, 11, 12, 13, 14, 15, 16, 17] (by decide +kernel) (by decide +kernel)
set_option maxRecDepth 20000 in
theorem gX2_countEndedBefore_X2_isDead : GoodIn wsX2_countEndedBefore (wsV RX2 42 RX2 yX2_isDead wsX2_isDead) := goodIn_app (goodIn_of _ (by decide +kernel)) ggX2_countEndedBefore_X2_isDead
set_option maxRecDepth 20000 in
theorem ggX2_countEndedBefore_X6_oneIf : GoodIn wsX2_countEndedBefore wsX6_oneIf := goodIn_r _ [10] (by decide +kernel) (by decide +kernel)
set_option maxRecDepth 20000 in
theorem gX2_countEndedBefore_X6_oneIf_n52 : GoodIn wsX2_countEndedBefore (wsX6_oneIf) := ggX2_countEndedBefore_X6_oneIf
theorem dX2_countEndedBefore_0 : decode cX2_countEndedBefore 0 = .ok (.iconst 0, 1) := by decide +kernel
theorem dX2_countEndedBefore_1 : decode cX2_countEndedBefore 1 = .ok (.istore_n 2, 1) := by decide +kernel
theorem dX2_countEndedBefore_2 : decode cX2_countEndedBefore 2 = .ok (.iconst 0, 1) := by decide +kernel
theorem dX2_countEndedBefore_3 : decode cX2_countEndedBefore 3 = .ok (.istore_n 3, 1) := by decide +kernel
theorem dX2_countEndedBefore_4 : decode cX2_countEndedBefore 4 = .ok (.iload_n 3, 1) := by decide +kernel
theorem dX2_countEndedBefore_5 : decode cX2_countEndedBefore 5 = .ok (.aload_n 0, 1) := by decide +kernel
theorem dX2_countEndedBefore_6 : decode cX2_countEndedBefore 6 = .ok (.getfield 9, 3) := by decide +kernel
theorem dX2_countEndedBefore_9 : decode cX2_countEndedBefore 9 = .ok (.if_icmp .ge 75, 3) := by decide +kernel
theorem dX2_countEndedBefore_12 : decode cX2_countEndedBefore 12 = .ok (.aload_n 0, 1) := by decide +kernel
theorem dX2_countEndedBefore_13 : decode cX2_countEndedBefore 13 = .ok (.getfield 31, 3) := by decide +kernel
theorem dX2_countEndedBefore_16 : decode cX2_countEndedBefore 16 = .ok (.iload_n 3, 1) := by decide +kernel
theorem dX2_countEndedBefore_17 : decode cX2_countEndedBefore 17 = .ok (.iaload, 1) := by decide +kernel
theorem dX2_countEndedBefore_18 : decode cX2_countEndedBefore 18 = .ok (.aload_n 0, 1) := by decide +kernel
theorem dX2_countEndedBefore_19 : decode cX2_countEndedBefore 19 = .ok (.getfield 31, 3) := by decide +kernel
theorem dX2_countEndedBefore_22 : decode cX2_countEndedBefore 22 = .ok (.iload_n 1, 1) := by decide +kernel
theorem dX2_countEndedBefore_23 : decode cX2_countEndedBefore 23 = .ok (.iaload, 1) := by decide +kernel
theorem dX2_countEndedBefore_24 : decode cX2_countEndedBefore 24 = .ok (.if_icmp .lt 23, 3) := by decide +kernel
theorem dX2_countEndedBefore_27 : decode cX2_countEndedBefore 27 = .ok (.aload_n 0, 1) := by decide +kernel
theorem dX2_countEndedBefore_28 : decode cX2_countEndedBefore 28 = .ok (.getfield 31, 3) := by decide +kernel
theorem dX2_countEndedBefore_31 : decode cX2_countEndedBefore 31 = .ok (.iload_n 3, 1) := by decide +kernel
theorem dX2_countEndedBefore_32 : decode cX2_countEndedBefore 32 = .ok (.iaload, 1) := by decide +kernel
theorem dX2_countEndedBefore_33 : decode cX2_countEndedBefore 33 = .ok (.aload_n 0, 1) := by decide +kernel
theorem dX2_countEndedBefore_34 : decode cX2_countEndedBefore 34 = .ok (.getfield 31, 3) := by decide +kernel
theorem dX2_countEndedBefore_37 : decode cX2_countEndedBefore 37 = .ok (.iload_n 1, 1) := by decide +kernel
theorem dX2_countEndedBefore_38 : decode cX2_countEndedBefore 38 = .ok (.iaload, 1) := by decide +kernel
theorem dX2_countEndedBefore_39 : decode cX2_countEndedBefore 39 = .ok (.if_icmp .ne 12, 3) := by decide +kernel
theorem dX2_countEndedBefore_42 : decode cX2_countEndedBefore 42 = .ok (.iload_n 3, 1) := by decide +kernel
theorem dX2_countEndedBefore_43 : decode cX2_countEndedBefore 43 = .ok (.iload_n 1, 1) := by decide +kernel
theorem dX2_countEndedBefore_44 : decode cX2_countEndedBefore 44 = .ok (.if_icmp .ge 7, 3) := by decide +kernel
theorem dX2_countEndedBefore_47 : decode cX2_countEndedBefore 47 = .ok (.iconst 1, 1) := by decide +kernel
theorem dX2_countEndedBefore_48 : decode cX2_countEndedBefore 48 = .ok (.goto 4, 3) := by decide +kernel
theorem dX2_countEndedBefore_51 : decode cX2_countEndedBefore 51 = .ok (.iconst 0, 1) := by decide +kernel
theorem dX2_countEndedBefore_52 : decode cX2_countEndedBefore 52 = .ok (.istore 4, 2) := by decide +kernel
theorem dX2_countEndedBefore_54 : decode cX2_countEndedBefore 54 = .ok (.iload_n 2, 1) := by decide +kernel
theorem dX2_countEndedBefore_55 : decode cX2_countEndedBefore 55 = .ok (.aload_n 0, 1) := by decide +kernel
theorem dX2_countEndedBefore_56 : decode cX2_countEndedBefore 56 = .ok (.iload_n 3, 1) := by decide +kernel
theorem dX2_countEndedBefore_57 : decode cX2_countEndedBefore 57 = .ok (.invokevirtual 42, 3) := by decide +kernel
theorem dX2_countEndedBefore_60 : decode cX2_countEndedBefore 60 = .ok (.ifCond .eq 12, 3) := by decide +kernel
theorem dX2_countEndedBefore_63 : decode cX2_countEndedBefore 63 = .ok (.iload 4, 2) := by decide +kernel
theorem dX2_countEndedBefore_65 : decode cX2_countEndedBefore 65 = .ok (.ifCond .eq 7, 3) := by decide +kernel
theorem dX2_countEndedBefore_68 : decode cX2_countEndedBefore 68 = .ok (.iconst 1, 1) := by decide +kernel
theorem dX2_countEndedBefore_69 : decode cX2_countEndedBefore 69 = .ok (.goto 4, 3) := by decide +kernel
theorem dX2_countEndedBefore_72 : decode cX2_countEndedBefore 72 = .ok (.iconst 0, 1) := by decide +kernel
theorem dX2_countEndedBefore_73 : decode cX2_countEndedBefore 73 = .ok (.invokestatic 52, 3) := by decide +kernel
theorem dX2_countEndedBefore_76 : decode cX2_countEndedBefore 76 = .ok (.iadd, 1) := by decide +kernel
theorem dX2_countEndedBefore_77 : decode cX2_countEndedBefore 77 = .ok (.istore_n 2, 1) := by decide +kernel
theorem dX2_countEndedBefore_78 : decode cX2_countEndedBefore 78 = .ok (.iinc 3 1, 3) := by decide +kernel
theorem dX2_countEndedBefore_81 : decode cX2_countEndedBefore 81 = .ok (.goto (-77), 3) := by decide +kernel
theorem dX2_countEndedBefore_84 : decode cX2_countEndedBefore 84 = .ok (.iload_n 2, 1) := by decide +kernel
theorem dX2_countEndedBefore_85 : decode cX2_countEndedBefore 85 = .ok (.ireturn, 1) := by decide +kernel
theorem dX2_findFirstEndedAfter_0 : decode cX2_findFirstEndedAfter 0 = .ok (.iconst (-1), 1) := by decide +kernel
theorem dX2_findFirstEndedAfter_1 : decode cX2_findFirstEndedAfter 1 = .ok (.istore_n 2, 1) := by decide +kernel
theorem dX2_findFirstEndedAfter_2 : decode cX2_findFirstEndedAfter 2 = .ok (.iconst 0, 1) := by decide +kernel
theorem dX2_findFirstEndedAfter_3 : decode cX2_findFirstEndedAfter 3 = .ok (.istore_n 3, 1) := by decide +kernel
theorem dX2_findFirstEndedAfter_4 : decode cX2_findFirstEndedAfter 4 = .ok (.iload_n 3, 1) := by decide +kernel
theorem dX2_findFirstEndedAfter_5 : decode cX2_findFirstEndedAfter 5 = .ok (.aload_n 0, 1) := by decide +kernel
theorem dX2_findFirstEndedAfter_6 : decode cX2_findFirstEndedAfter 6 = .ok (.getfield 9, 3) := by decide +kernel
theorem dX2_findFirstEndedAfter_9 : decode cX2_findFirstEndedAfter 9 = .ok (.if_icmp .ge 41, 3) := by decide +kernel
theorem dX2_findFirstEndedAfter_12 : decode cX2_findFirstEndedAfter 12 = .ok (.aload_n 0, 1) := by decide +kernel
theorem dX2_findFirstEndedAfter_13 : decode cX2_findFirstEndedAfter 13 = .ok (.getfield 31, 3) := by decide +kernel
theorem dX2_findFirstEndedAfter_16 : decode cX2_findFirstEndedAfter 16 = .ok (.iload_n 3, 1) := by decide +kernel
theorem dX2_findFirstEndedAfter_17 : decode cX2_findFirstEndedAfter 17 = .ok (.iaload, 1) := by decide +kernel
theorem dX2_findFirstEndedAfter_18 : decode cX2_findFirstEndedAfter 18 = .ok (.iload_n 1, 1) := by decide +kernel
theorem dX2_findFirstEndedAfter_19 : decode cX2_findFirstEndedAfter 19 = .ok (.if_icmp .le 25, 3) := by decide +kernel
theorem dX2_findFirstEndedAfter_22 : decode cX2_findFirstEndedAfter 22 = .ok (.iload_n 2, 1) := by decide +kernel
theorem dX2_findFirstEndedAfter_23 : decode cX2_findFirstEndedAfter 23 = .ok (.iconst (-1), 1) := by decide +kernel
theorem dX2_findFirstEndedAfter_24 : decode cX2_findFirstEndedAfter 24 = .ok (.if_icmp .eq 18, 3) := by decide +kernel
theorem dX2_findFirstEndedAfter_27 : decode cX2_findFirstEndedAfter 27 = .ok (.aload_n 0, 1) := by decide +kernel
theorem dX2_findFirstEndedAfter_28 : decode cX2_findFirstEndedAfter 28 = .ok (.getfield 31, 3) := by decide +kernel
theorem dX2_findFirstEndedAfter_31 : decode cX2_findFirstEndedAfter 31 = .ok (.iload_n 3, 1) := by decide +kernel
theorem dX2_findFirstEndedAfter_32 : decode cX2_findFirstEndedAfter 32 = .ok (.iaload, 1) := by decide +kernel
theorem dX2_findFirstEndedAfter_33 : decode cX2_findFirstEndedAfter 33 = .ok (.aload_n 0, 1) := by decide +kernel
theorem dX2_findFirstEndedAfter_34 : decode cX2_findFirstEndedAfter 34 = .ok (.getfield 31, 3) := by decide +kernel
theorem dX2_findFirstEndedAfter_37 : decode cX2_findFirstEndedAfter 37 = .ok (.iload_n 2, 1) := by decide +kernel
theorem dX2_findFirstEndedAfter_38 : decode cX2_findFirstEndedAfter 38 = .ok (.iaload, 1) := by decide +kernel
theorem dX2_findFirstEndedAfter_39 : decode cX2_findFirstEndedAfter 39 = .ok (.if_icmp .ge 5, 3) := by decide +kernel
theorem dX2_findFirstEndedAfter_42 : decode cX2_findFirstEndedAfter 42 = .ok (.iload_n 3, 1) := by decide +kernel
theorem dX2_findFirstEndedAfter_43 : decode cX2_findFirstEndedAfter 43 = .ok (.istore_n 2, 1) := by decide +kernel
theorem dX2_findFirstEndedAfter_44 : decode cX2_findFirstEndedAfter 44 = .ok (.iinc 3 1, 3) := by decide +kernel
theorem dX2_findFirstEndedAfter_47 : decode cX2_findFirstEndedAfter 47 = .ok (.goto (-43), 3) := by decide +kernel
theorem dX2_findFirstEndedAfter_50 : decode cX2_findFirstEndedAfter 50 = .ok (.iload_n 2, 1) := by decide +kernel
theorem dX2_findFirstEndedAfter_51 : decode cX2_findFirstEndedAfter 51 = .ok (.ireturn, 1) := by decide +kernel
set_option maxRecDepth 20000 in
theorem ggX2_middleLife_X2_countOf : GoodIn wsX2_middleLife wsX2_countOf := goodIn_r _ [6, 1, 7, 8, 9, 10, 29, 30, 31, 32, 33, 34, 35] (by decide +kernel) (by decide +kernel)
set_option maxRecDepth 20000 in
theorem gX2_middleLife_X2_countOf : GoodIn wsX2_middleLife (wsV RX2 73 RX2 yX2_countOf wsX2_countOf) := goodIn_app (goodIn_of _ (by decide +kernel)) ggX2_middleLife_X2_countOf
set_option maxRecDepth 20000 in
theorem ggX2_middleLife_X2_isDeadOf : GoodIn wsX2_middleLife wsX2_isDeadOf := goodIn_r _ [14, 7, 15, 16, 17, 5, 18, 19, 29, 30, 31, 32, 33, 34, 35] (by decide +kernel) (by decide +kernel)
set_option maxRecDepth 20000 in
theorem gX2_middleLife_X2_isDeadOf : GoodIn wsX2_middleLife (wsV RX2 56 RX2 yX2_isDeadOf wsX2_isDeadOf) := goodIn_app (goodIn_of _ (by decide +kernel)) ggX2_middleLife_X2_isDeadOf
set_option maxRecDepth 20000 in
theorem ggX2_middleLife_X2_countShorterOf : GoodIn wsX2_middleLife wsX2_countShorterOf := goodIn_r _ [23, 1, 24, 25, 26, 5, 27, 28, 11, 12, 13, 14, 7, 15, 16, 17, 18, 19, 8, 9, 10, 29, 30, 31, 32, 33, 34, 35] (by decide +kernel) (by decide +kernel)
set_option maxRecDepth 20000 in
theorem gX2_middleLife_X2_countShorterOf : GoodIn wsX2_middleLife (wsV RX2 76 RX2 yX2_countShorterOf wsX2_countShorterOf) := goodIn_app (goodIn_of _ (by decide +kernel)) ggX2_middleLife_X2_countShorterOf
set_option maxRecDepth 20000 in
theorem ggX2_middleLife_X2_hoursCounted : GoodIn wsX2_middleLife wsX2_hoursCounted := goodIn_r _ [27, 28, 29, 30, 31, 32, 33, 34, 35] (by decide +kernel) (by decide +kernel)
set_option maxRecDepth 20000 in
theorem gX2_middleLife_X2_hoursCounted : GoodIn wsX2_middleLife (wsV RX2 60 RX2 yX2_hoursCounted wsX2_hoursCounted) := goodIn_app (goodIn_of _ (by decide +kernel)) ggX2_middleLife_X2_hoursCounted
theorem dX2_middleLife_0 : decode cX2_middleLife 0 = .ok (.aload_n 0, 1) := by decide +kernel
theorem dX2_middleLife_1 : decode cX2_middleLife 1 = .ok (.iload_n 1, 1) := by decide +kernel
theorem dX2_middleLife_2 : decode cX2_middleLife 2 = .ok (.invokevirtual 73, 3) := by decide +kernel
theorem dX2_middleLife_5 : decode cX2_middleLife 5 = .ok (.iconst 1, 1) := by decide +kernel
theorem dX2_middleLife_6 : decode cX2_middleLife 6 = .ok (.iadd, 1) := by decide +kernel
theorem dX2_middleLife_7 : decode cX2_middleLife 7 = .ok (.iconst 2, 1) := by decide +kernel
theorem dX2_middleLife_8 : decode cX2_middleLife 8 = .ok (.idiv, 1) := by decide +kernel
theorem dX2_middleLife_9 : decode cX2_middleLife 9 = .ok (.iconst 1, 1) := by decide +kernel
theorem dX2_middleLife_10 : decode cX2_middleLife 10 = .ok (.isub, 1) := by decide +kernel
theorem dX2_middleLife_11 : decode cX2_middleLife 11 = .ok (.istore_n 2, 1) := by decide +kernel
theorem dX2_middleLife_12 : decode cX2_middleLife 12 = .ok (.iconst 0, 1) := by decide +kernel
theorem dX2_middleLife_13 : decode cX2_middleLife 13 = .ok (.istore_n 3, 1) := by decide +kernel
theorem dX2_middleLife_14 : decode cX2_middleLife 14 = .ok (.iload_n 3, 1) := by decide +kernel
theorem dX2_middleLife_15 : decode cX2_middleLife 15 = .ok (.aload_n 0, 1) := by decide +kernel
theorem dX2_middleLife_16 : decode cX2_middleLife 16 = .ok (.getfield 9, 3) := by decide +kernel
theorem dX2_middleLife_19 : decode cX2_middleLife 19 = .ok (.if_icmp .ge 34, 3) := by decide +kernel
theorem dX2_middleLife_22 : decode cX2_middleLife 22 = .ok (.aload_n 0, 1) := by decide +kernel
theorem dX2_middleLife_23 : decode cX2_middleLife 23 = .ok (.iload_n 3, 1) := by decide +kernel
theorem dX2_middleLife_24 : decode cX2_middleLife 24 = .ok (.iload_n 1, 1) := by decide +kernel
theorem dX2_middleLife_25 : decode cX2_middleLife 25 = .ok (.invokevirtual 56, 3) := by decide +kernel
theorem dX2_middleLife_28 : decode cX2_middleLife 28 = .ok (.ifCond .eq 19, 3) := by decide +kernel
theorem dX2_middleLife_31 : decode cX2_middleLife 31 = .ok (.aload_n 0, 1) := by decide +kernel
theorem dX2_middleLife_32 : decode cX2_middleLife 32 = .ok (.iload_n 1, 1) := by decide +kernel
theorem dX2_middleLife_33 : decode cX2_middleLife 33 = .ok (.iload_n 3, 1) := by decide +kernel
theorem dX2_middleLife_34 : decode cX2_middleLife 34 = .ok (.invokevirtual 76, 3) := by decide +kernel
theorem dX2_middleLife_37 : decode cX2_middleLife 37 = .ok (.iload_n 2, 1) := by decide +kernel
theorem dX2_middleLife_38 : decode cX2_middleLife 38 = .ok (.if_icmp .ne 9, 3) := by decide +kernel
theorem dX2_middleLife_41 : decode cX2_middleLife 41 = .ok (.aload_n 0, 1) := by decide +kernel
theorem dX2_middleLife_42 : decode cX2_middleLife 42 = .ok (.iload_n 3, 1) := by decide +kernel
theorem dX2_middleLife_43 : decode cX2_middleLife 43 = .ok (.invokevirtual 60, 3) := by decide +kernel
theorem dX2_middleLife_46 : decode cX2_middleLife 46 = .ok (.ireturn, 1) := by decide +kernel
theorem dX2_middleLife_47 : decode cX2_middleLife 47 = .ok (.iinc 3 1, 3) := by decide +kernel
theorem dX2_middleLife_50 : decode cX2_middleLife 50 = .ok (.goto (-36), 3) := by decide +kernel
theorem dX2_middleLife_53 : decode cX2_middleLife 53 = .ok (.sipush (-1005), 3) := by decide +kernel
theorem dX2_middleLife_56 : decode cX2_middleLife 56 = .ok (.ireturn, 1) := by decide +kernel
set_option maxRecDepth 20000 in
theorem ggX2_countShorterOf_X2_hoursCounted : GoodIn wsX2_countShorterOf wsX2_hoursCounted := goodIn_r _ [6, 7, 21, 22, 23, 24, 25, 26, 27] (by decide +kernel) (by decide +kernel)
set_option maxRecDepth 20000 in
theorem gX2_countShorterOf_X2_hoursCounted : GoodIn wsX2_countShorterOf (wsV RX2 60 RX2 yX2_hoursCounted wsX2_hoursCounted) := goodIn_app (goodIn_of _ (by decide +kernel)) ggX2_countShorterOf_X2_hoursCounted
set_option maxRecDepth 20000 in
theorem ggX2_countShorterOf_X2_isDeadOf : GoodIn wsX2_countShorterOf wsX2_isDeadOf := goodIn_r _ [11, 12, 13, 14, 15, 5, 16, 17, 21, 22, 23, 24, 25, 26, 27] (by decide +kernel) (by decide +kernel)
set_option maxRecDepth 20000 in
theorem gX2_countShorterOf_X2_isDeadOf : GoodIn wsX2_countShorterOf (wsV RX2 56 RX2 yX2_isDeadOf wsX2_isDeadOf) := goodIn_app (goodIn_of _ (by decide +kernel)) ggX2_countShorterOf_X2_isDeadOf
set_option maxRecDepth 20000 in
theorem ggX2_countShorterOf_X6_oneIf : GoodIn wsX2_countShorterOf wsX6_oneIf := goodIn_r _ [20] (by decide +kernel) (by decide +kernel)
set_option maxRecDepth 20000 in
theorem gX2_countShorterOf_X6_oneIf_n52 : GoodIn wsX2_countShorterOf (wsX6_oneIf) := ggX2_countShorterOf_X6_oneIf
theorem dX2_countShorterOf_0 : decode cX2_countShorterOf 0 = .ok (.aload_n 0, 1) := by decide +kernel
theorem dX2_countShorterOf_1 : decode cX2_countShorterOf 1 = .ok (.iload_n 2, 1) := by decide +kernel
theorem dX2_countShorterOf_2 : decode cX2_countShorterOf 2 = .ok (.invokevirtual 60, 3) := by decide +kernel
theorem dX2_countShorterOf_5 : decode cX2_countShorterOf 5 = .ok (.istore_n 3, 1) := by decide +kernel
theorem dX2_countShorterOf_6 : decode cX2_countShorterOf 6 = .ok (.iconst 0, 1) := by decide +kernel
theorem dX2_countShorterOf_7 : decode cX2_countShorterOf 7 = .ok (.istore 4, 2) := by decide +kernel
theorem dX2_countShorterOf_9 : decode cX2_countShorterOf 9 = .ok (.iconst 0, 1) := by decide +kernel
theorem dX2_countShorterOf_10 : decode cX2_countShorterOf 10 = .ok (.istore 5, 2) := by decide +kernel
theorem dX2_countShorterOf_12 : decode cX2_countShorterOf 12 = .ok (.iload 5, 2) := by decide +kernel
theorem dX2_countShorterOf_14 : decode cX2_countShorterOf 14 = .ok (.aload_n 0, 1) := by decide +kernel
theorem dX2_countShorterOf_15 : decode cX2_countShorterOf 15 = .ok (.getfield 9, 3) := by decide +kernel
theorem dX2_countShorterOf_18 : decode cX2_countShorterOf 18 = .ok (.if_icmp .ge 70, 3) := by decide +kernel
theorem dX2_countShorterOf_21 : decode cX2_countShorterOf 21 = .ok (.aload_n 0, 1) := by decide +kernel
theorem dX2_countShorterOf_22 : decode cX2_countShorterOf 22 = .ok (.iload 5, 2) := by decide +kernel
theorem dX2_countShorterOf_24 : decode cX2_countShorterOf 24 = .ok (.invokevirtual 60, 3) := by decide +kernel
theorem dX2_countShorterOf_27 : decode cX2_countShorterOf 27 = .ok (.istore 6, 2) := by decide +kernel
theorem dX2_countShorterOf_29 : decode cX2_countShorterOf 29 = .ok (.iload 6, 2) := by decide +kernel
theorem dX2_countShorterOf_31 : decode cX2_countShorterOf 31 = .ok (.iload_n 3, 1) := by decide +kernel
theorem dX2_countShorterOf_32 : decode cX2_countShorterOf 32 = .ok (.if_icmp .lt 15, 3) := by decide +kernel
theorem dX2_countShorterOf_35 : decode cX2_countShorterOf 35 = .ok (.iload 6, 2) := by decide +kernel
theorem dX2_countShorterOf_37 : decode cX2_countShorterOf 37 = .ok (.iload_n 3, 1) := by decide +kernel
theorem dX2_countShorterOf_38 : decode cX2_countShorterOf 38 = .ok (.if_icmp .ne 13, 3) := by decide +kernel
theorem dX2_countShorterOf_41 : decode cX2_countShorterOf 41 = .ok (.iload 5, 2) := by decide +kernel
theorem dX2_countShorterOf_43 : decode cX2_countShorterOf 43 = .ok (.iload_n 2, 1) := by decide +kernel
theorem dX2_countShorterOf_44 : decode cX2_countShorterOf 44 = .ok (.if_icmp .ge 7, 3) := by decide +kernel
theorem dX2_countShorterOf_47 : decode cX2_countShorterOf 47 = .ok (.iconst 1, 1) := by decide +kernel
theorem dX2_countShorterOf_48 : decode cX2_countShorterOf 48 = .ok (.goto 4, 3) := by decide +kernel
theorem dX2_countShorterOf_51 : decode cX2_countShorterOf 51 = .ok (.iconst 0, 1) := by decide +kernel
theorem dX2_countShorterOf_52 : decode cX2_countShorterOf 52 = .ok (.istore 7, 2) := by decide +kernel
theorem dX2_countShorterOf_54 : decode cX2_countShorterOf 54 = .ok (.iload 4, 2) := by decide +kernel
theorem dX2_countShorterOf_56 : decode cX2_countShorterOf 56 = .ok (.aload_n 0, 1) := by decide +kernel
theorem dX2_countShorterOf_57 : decode cX2_countShorterOf 57 = .ok (.iload 5, 2) := by decide +kernel
theorem dX2_countShorterOf_59 : decode cX2_countShorterOf 59 = .ok (.iload_n 1, 1) := by decide +kernel
theorem dX2_countShorterOf_60 : decode cX2_countShorterOf 60 = .ok (.invokevirtual 56, 3) := by decide +kernel
theorem dX2_countShorterOf_63 : decode cX2_countShorterOf 63 = .ok (.ifCond .eq 12, 3) := by decide +kernel
theorem dX2_countShorterOf_66 : decode cX2_countShorterOf 66 = .ok (.iload 7, 2) := by decide +kernel
theorem dX2_countShorterOf_68 : decode cX2_countShorterOf 68 = .ok (.ifCond .eq 7, 3) := by decide +kernel
theorem dX2_countShorterOf_71 : decode cX2_countShorterOf 71 = .ok (.iconst 1, 1) := by decide +kernel
theorem dX2_countShorterOf_72 : decode cX2_countShorterOf 72 = .ok (.goto 4, 3) := by decide +kernel
theorem dX2_countShorterOf_75 : decode cX2_countShorterOf 75 = .ok (.iconst 0, 1) := by decide +kernel
theorem dX2_countShorterOf_76 : decode cX2_countShorterOf 76 = .ok (.invokestatic 52, 3) := by decide +kernel
theorem dX2_countShorterOf_79 : decode cX2_countShorterOf 79 = .ok (.iadd, 1) := by decide +kernel
theorem dX2_countShorterOf_80 : decode cX2_countShorterOf 80 = .ok (.istore 4, 2) := by decide +kernel
theorem dX2_countShorterOf_82 : decode cX2_countShorterOf 82 = .ok (.iinc 5 1, 3) := by decide +kernel
theorem dX2_countShorterOf_85 : decode cX2_countShorterOf 85 = .ok (.goto (-73), 3) := by decide +kernel
theorem dX2_countShorterOf_88 : decode cX2_countShorterOf 88 = .ok (.iload 4, 2) := by decide +kernel
theorem dX2_countShorterOf_90 : decode cX2_countShorterOf 90 = .ok (.ireturn, 1) := by decide +kernel
set_option maxRecDepth 20000 in
theorem ggX3_init_J7_fill_53178 : GoodIn wsX3_init wsJ7_fill_53178 := goodIn_r _ [13] (by decide +kernel) (by decide +kernel)
set_option maxRecDepth 20000 in
theorem gX3_init_J7_fill_53178 : GoodIn wsX3_init (va_wsS RX3 27 yJ7_fill_53178 wsJ7_fill_53178) := goodIn_app (goodIn_of _ (by decide +kernel)) ggX3_init_J7_fill_53178
theorem dX3_init_0 : decode cX3_init 0 = .ok (.aload_n 0, 1) := by decide +kernel
theorem dX3_init_1 : decode cX3_init 1 = .ok (.invokespecial 3, 3) := by decide +kernel
theorem dX3_init_4 : decode cX3_init 4 = .ok (.aload_n 0, 1) := by decide +kernel
theorem dX3_init_5 : decode cX3_init 5 = .ok (.bipush 24, 2) := by decide +kernel
theorem dX3_init_7 : decode cX3_init 7 = .ok (.newarray .int, 2) := by decide +kernel
theorem dX3_init_9 : decode cX3_init 9 = .ok (.putfield 9, 3) := by decide +kernel
theorem dX3_init_12 : decode cX3_init 12 = .ok (.aload_n 0, 1) := by decide +kernel
theorem dX3_init_13 : decode cX3_init 13 = .ok (.iconst 3, 1) := by decide +kernel
theorem dX3_init_14 : decode cX3_init 14 = .ok (.newarray .int, 2) := by decide +kernel
theorem dX3_init_16 : decode cX3_init 16 = .ok (.putfield 15, 3) := by decide +kernel
theorem dX3_init_19 : decode cX3_init 19 = .ok (.aload_n 0, 1) := by decide +kernel
theorem dX3_init_20 : decode cX3_init 20 = .ok (.iconst 3, 1) := by decide +kernel
theorem dX3_init_21 : decode cX3_init 21 = .ok (.newarray .int, 2) := by decide +kernel
theorem dX3_init_23 : decode cX3_init 23 = .ok (.putfield 18, 3) := by decide +kernel
theorem dX3_init_26 : decode cX3_init 26 = .ok (.aload_n 0, 1) := by decide +kernel
theorem dX3_init_27 : decode cX3_init 27 = .ok (.iconst 3, 1) := by decide +kernel
theorem dX3_init_28 : decode cX3_init 28 = .ok (.newarray .int, 2) := by decide +kernel
theorem dX3_init_30 : decode cX3_init 30 = .ok (.putfield 21, 3) := by decide +kernel
theorem dX3_init_33 : decode cX3_init 33 = .ok (.aload_n 0, 1) := by decide +kernel
theorem dX3_init_34 : decode cX3_init 34 = .ok (.iconst 3, 1) := by decide +kernel
theorem dX3_init_35 : decode cX3_init 35 = .ok (.newarray .int, 2) := by decide +kernel
theorem dX3_init_37 : decode cX3_init 37 = .ok (.putfield 24, 3) := by decide +kernel
theorem dX3_init_40 : decode cX3_init 40 = .ok (.aload_n 0, 1) := by decide +kernel
theorem dX3_init_41 : decode cX3_init 41 = .ok (.getfield 9, 3) := by decide +kernel
theorem dX3_init_44 : decode cX3_init 44 = .ok (.iconst (-1), 1) := by decide +kernel
theorem dX3_init_45 : decode cX3_init 45 = .ok (.invokestatic 27, 3) := by decide +kernel
theorem dX3_init_48 : decode cX3_init 48 = .ok (.aload_n 0, 1) := by decide +kernel
theorem dX3_init_49 : decode cX3_init 49 = .ok (.getfield 15, 3) := by decide +kernel
theorem dX3_init_52 : decode cX3_init 52 = .ok (.sipush 230, 3) := by decide +kernel
theorem dX3_init_55 : decode cX3_init 55 = .ok (.invokestatic 27, 3) := by decide +kernel
theorem dX3_init_58 : decode cX3_init 58 = .ok (.return_, 1) := by decide +kernel
set_option maxRecDepth 20000 in
theorem ggX3_copyFrom_X6_copy : GoodIn wsX3_copyFrom wsX6_copy := goodIn_r _ [8, 9, 10, 11, 12, 13, 14, 15, 16] (by decide +kernel) (by decide +kernel)
set_option maxRecDepth 20000 in
theorem gX3_copyFrom_X6_copy_n33 : GoodIn wsX3_copyFrom (wsX6_copy) := ggX3_copyFrom_X6_copy
theorem dX3_copyFrom_0 : decode cX3_copyFrom 0 = .ok (.aload_n 1, 1) := by decide +kernel
theorem dX3_copyFrom_1 : decode cX3_copyFrom 1 = .ok (.getfield 9, 3) := by decide +kernel
theorem dX3_copyFrom_4 : decode cX3_copyFrom 4 = .ok (.aload_n 0, 1) := by decide +kernel
theorem dX3_copyFrom_5 : decode cX3_copyFrom 5 = .ok (.getfield 9, 3) := by decide +kernel
theorem dX3_copyFrom_8 : decode cX3_copyFrom 8 = .ok (.invokestatic 33, 3) := by decide +kernel
theorem dX3_copyFrom_11 : decode cX3_copyFrom 11 = .ok (.aload_n 1, 1) := by decide +kernel
theorem dX3_copyFrom_12 : decode cX3_copyFrom 12 = .ok (.getfield 15, 3) := by decide +kernel
theorem dX3_copyFrom_15 : decode cX3_copyFrom 15 = .ok (.aload_n 0, 1) := by decide +kernel
theorem dX3_copyFrom_16 : decode cX3_copyFrom 16 = .ok (.getfield 15, 3) := by decide +kernel
theorem dX3_copyFrom_19 : decode cX3_copyFrom 19 = .ok (.invokestatic 33, 3) := by decide +kernel
theorem dX3_copyFrom_22 : decode cX3_copyFrom 22 = .ok (.aload_n 1, 1) := by decide +kernel
theorem dX3_copyFrom_23 : decode cX3_copyFrom 23 = .ok (.getfield 18, 3) := by decide +kernel
theorem dX3_copyFrom_26 : decode cX3_copyFrom 26 = .ok (.aload_n 0, 1) := by decide +kernel
theorem dX3_copyFrom_27 : decode cX3_copyFrom 27 = .ok (.getfield 18, 3) := by decide +kernel
theorem dX3_copyFrom_30 : decode cX3_copyFrom 30 = .ok (.invokestatic 33, 3) := by decide +kernel
theorem dX3_copyFrom_33 : decode cX3_copyFrom 33 = .ok (.aload_n 1, 1) := by decide +kernel
theorem dX3_copyFrom_34 : decode cX3_copyFrom 34 = .ok (.getfield 21, 3) := by decide +kernel
theorem dX3_copyFrom_37 : decode cX3_copyFrom 37 = .ok (.aload_n 0, 1) := by decide +kernel
theorem dX3_copyFrom_38 : decode cX3_copyFrom 38 = .ok (.getfield 21, 3) := by decide +kernel
theorem dX3_copyFrom_41 : decode cX3_copyFrom 41 = .ok (.invokestatic 33, 3) := by decide +kernel
theorem dX3_copyFrom_44 : decode cX3_copyFrom 44 = .ok (.aload_n 1, 1) := by decide +kernel
theorem dX3_copyFrom_45 : decode cX3_copyFrom 45 = .ok (.getfield 24, 3) := by decide +kernel
theorem dX3_copyFrom_48 : decode cX3_copyFrom 48 = .ok (.aload_n 0, 1) := by decide +kernel
theorem dX3_copyFrom_49 : decode cX3_copyFrom 49 = .ok (.getfield 24, 3) := by decide +kernel
theorem dX3_copyFrom_52 : decode cX3_copyFrom 52 = .ok (.invokestatic 33, 3) := by decide +kernel
theorem dX3_copyFrom_55 : decode cX3_copyFrom 55 = .ok (.return_, 1) := by decide +kernel
theorem dX3_isDark_0 : decode cX3_isDark 0 = .ok (.aload_n 0, 1) := by decide +kernel
theorem dX3_isDark_1 : decode cX3_isDark 1 = .ok (.getfield 15, 3) := by decide +kernel
theorem dX3_isDark_4 : decode cX3_isDark 4 = .ok (.iload_n 1, 1) := by decide +kernel
theorem dX3_isDark_5 : decode cX3_isDark 5 = .ok (.iaload, 1) := by decide +kernel
theorem dX3_isDark_6 : decode cX3_isDark 6 = .ok (.ifCond .ne 7, 3) := by decide +kernel
theorem dX3_isDark_9 : decode cX3_isDark 9 = .ok (.iconst 1, 1) := by decide +kernel
theorem dX3_isDark_10 : decode cX3_isDark 10 = .ok (.goto 4, 3) := by decide +kernel
theorem dX3_isDark_13 : decode cX3_isDark 13 = .ok (.iconst 0, 1) := by decide +kernel
theorem dX3_isDark_14 : decode cX3_isDark 14 = .ok (.ireturn, 1) := by decide +kernel
theorem dX3_voltsAfterStep_0 : decode cX3_voltsAfterStep 0 = .ok (.iconst 0, 1) := by decide +kernel
theorem dX3_voltsAfterStep_1 : decode cX3_voltsAfterStep 1 = .ok (.sipush 300, 3) := by decide +kernel
theorem dX3_voltsAfterStep_4 : decode cX3_voltsAfterStep 4 = .ok (.aload_n 0, 1) := by decide +kernel
theorem dX3_voltsAfterStep_5 : decode cX3_voltsAfterStep 5 = .ok (.getfield 15, 3) := by decide +kernel
theorem dX3_voltsAfterStep_8 : decode cX3_voltsAfterStep 8 = .ok (.iload_n 1, 1) := by decide +kernel
theorem dX3_voltsAfterStep_9 : decode cX3_voltsAfterStep 9 = .ok (.iaload, 1) := by decide +kernel
theorem dX3_voltsAfterStep_10 : decode cX3_voltsAfterStep 10 = .ok (.aload_n 0, 1) := by decide +kernel
theorem dX3_voltsAfterStep_11 : decode cX3_voltsAfterStep 11 = .ok (.getfield 21, 3) := by decide +kernel
theorem dX3_voltsAfterStep_14 : decode cX3_voltsAfterStep 14 = .ok (.iload_n 1, 1) := by decide +kernel
theorem dX3_voltsAfterStep_15 : decode cX3_voltsAfterStep 15 = .ok (.iaload, 1) := by decide +kernel
theorem dX3_voltsAfterStep_16 : decode cX3_voltsAfterStep 16 = .ok (.iadd, 1) := by decide +kernel
theorem dX3_voltsAfterStep_17 : decode cX3_voltsAfterStep 17 = .ok (.invokestatic 37, 3) := by decide +kernel
theorem dX3_voltsAfterStep_20 : decode cX3_voltsAfterStep 20 = .ok (.invokestatic 43, 3) := by decide +kernel
theorem dX3_voltsAfterStep_23 : decode cX3_voltsAfterStep 23 = .ok (.ireturn, 1) := by decide +kernel
theorem dX3_hoursToStep_0 : decode cX3_hoursToStep 0 = .ok (.aload_n 0, 1) := by decide +kernel
theorem dX3_hoursToStep_1 : decode cX3_hoursToStep 1 = .ok (.getfield 18, 3) := by decide +kernel
theorem dX3_hoursToStep_4 : decode cX3_hoursToStep 4 = .ok (.iload_n 1, 1) := by decide +kernel
theorem dX3_hoursToStep_5 : decode cX3_hoursToStep 5 = .ok (.iaload, 1) := by decide +kernel
theorem dX3_hoursToStep_6 : decode cX3_hoursToStep 6 = .ok (.ifCond .ne 9, 3) := by decide +kernel
theorem dX3_hoursToStep_9 : decode cX3_hoursToStep 9 = .ok (.sipush (-1005), 3) := by decide +kernel
theorem dX3_hoursToStep_12 : decode cX3_hoursToStep 12 = .ok (.goto 16, 3) := by decide +kernel
theorem dX3_hoursToStep_15 : decode cX3_hoursToStep 15 = .ok (.aload_n 0, 1) := by decide +kernel
theorem dX3_hoursToStep_16 : decode cX3_hoursToStep 16 = .ok (.getfield 18, 3) := by decide +kernel
theorem dX3_hoursToStep_19 : decode cX3_hoursToStep 19 = .ok (.iload_n 1, 1) := by decide +kernel
theorem dX3_hoursToStep_20 : decode cX3_hoursToStep 20 = .ok (.iaload, 1) := by decide +kernel
theorem dX3_hoursToStep_21 : decode cX3_hoursToStep 21 = .ok (.aload_n 0, 1) := by decide +kernel
theorem dX3_hoursToStep_22 : decode cX3_hoursToStep 22 = .ok (.getfield 24, 3) := by decide +kernel
theorem dX3_hoursToStep_25 : decode cX3_hoursToStep 25 = .ok (.iload_n 1, 1) := by decide +kernel
theorem dX3_hoursToStep_26 : decode cX3_hoursToStep 26 = .ok (.iaload, 1) := by decide +kernel
theorem dX3_hoursToStep_27 : decode cX3_hoursToStep 27 = .ok (.isub, 1) := by decide +kernel
theorem dX3_hoursToStep_28 : decode cX3_hoursToStep 28 = .ok (.ireturn, 1) := by decide +kernel
set_option maxRecDepth 20000 in
theorem ggX3_hoursAtSameVolts_X3_voltsAfterStep : GoodIn wsX3_hoursAtSameVolts wsX3_voltsAfterStep := goodIn_r _ [11, 2, 12, 3, 4, 5, 6, 13, 14, 15, 21, 22, 23, 24, 25] (by decide +kernel) (by decide +kernel)
set_option maxRecDepth 20000 in
theorem gX3_hoursAtSameVolts_X3_voltsAfterStep : GoodIn wsX3_hoursAtSameVolts (wsV RX3 46 RX3 yX3_voltsAfterStep wsX3_voltsAfterStep) := goodIn_app (goodIn_of _ (by decide +kernel)) ggX3_hoursAtSameVolts_X3_voltsAfterStep
set_option maxRecDepth 20000 in
theorem ggX3_hoursAtSameVolts_X3_hoursToStep : GoodIn wsX3_hoursAtSameVolts wsX3_hoursToStep := goodIn_r _ [19, 1, 20, 21, 22, 23, 24, 25] (by decide +kernel) (by decide +kernel)
set_option maxRecDepth 20000 in
theorem gX3_hoursAtSameVolts_X3_hoursToStep : GoodIn wsX3_hoursAtSameVolts (wsV RX3 50 RX3 yX3_hoursToStep wsX3_hoursToStep) := goodIn_app (goodIn_of _ (by decide +kernel)) ggX3_hoursAtSameVolts_X3_hoursToStep
theorem dX3_hoursAtSameVolts_0 : decode cX3_hoursAtSameVolts 0 = .ok (.aload_n 0, 1) := by decide +kernel
theorem dX3_hoursAtSameVolts_1 : decode cX3_hoursAtSameVolts 1 = .ok (.getfield 18, 3) := by decide +kernel
theorem dX3_hoursAtSameVolts_4 : decode cX3_hoursAtSameVolts 4 = .ok (.iload_n 1, 1) := by decide +kernel
theorem dX3_hoursAtSameVolts_5 : decode cX3_hoursAtSameVolts 5 = .ok (.iaload, 1) := by decide +kernel
theorem dX3_hoursAtSameVolts_6 : decode cX3_hoursAtSameVolts 6 = .ok (.ifCond .eq 17, 3) := by decide +kernel
theorem dX3_hoursAtSameVolts_9 : decode cX3_hoursAtSameVolts 9 = .ok (.aload_n 0, 1) := by decide +kernel
theorem dX3_hoursAtSameVolts_10 : decode cX3_hoursAtSameVolts 10 = .ok (.iload_n 1, 1) := by decide +kernel
theorem dX3_hoursAtSameVolts_11 : decode cX3_hoursAtSameVolts 11 = .ok (.invokevirtual 46, 3) := by decide +kernel
theorem dX3_hoursAtSameVolts_14 : decode cX3_hoursAtSameVolts 14 = .ok (.aload_n 0, 1) := by decide +kernel
theorem dX3_hoursAtSameVolts_15 : decode cX3_hoursAtSameVolts 15 = .ok (.getfield 15, 3) := by decide +kernel
theorem dX3_hoursAtSameVolts_18 : decode cX3_hoursAtSameVolts 18 = .ok (.iload_n 1, 1) := by decide +kernel
theorem dX3_hoursAtSameVolts_19 : decode cX3_hoursAtSameVolts 19 = .ok (.iaload, 1) := by decide +kernel
theorem dX3_hoursAtSameVolts_20 : decode cX3_hoursAtSameVolts 20 = .ok (.if_icmp .ne 5, 3) := by decide +kernel
theorem dX3_hoursAtSameVolts_23 : decode cX3_hoursAtSameVolts 23 = .ok (.iload_n 2, 1) := by decide +kernel
theorem dX3_hoursAtSameVolts_24 : decode cX3_hoursAtSameVolts 24 = .ok (.ireturn, 1) := by decide +kernel
theorem dX3_hoursAtSameVolts_25 : decode cX3_hoursAtSameVolts 25 = .ok (.iload_n 2, 1) := by decide +kernel
theorem dX3_hoursAtSameVolts_26 : decode cX3_hoursAtSameVolts 26 = .ok (.aload_n 0, 1) := by decide +kernel
theorem dX3_hoursAtSameVolts_27 : decode cX3_hoursAtSameVolts 27 = .ok (.iload_n 1, 1) := by decide +kernel
theorem dX3_hoursAtSameVolts_28 : decode cX3_hoursAtSameVolts 28 = .ok (.invokevirtual 50, 3) := by decide +kernel
theorem dX3_hoursAtSameVolts_31 : decode cX3_hoursAtSameVolts 31 = .ok (.invokestatic 37, 3) := by decide +kernel
theorem dX3_hoursAtSameVolts_34 : decode cX3_hoursAtSameVolts 34 = .ok (.ireturn, 1) := by decide +kernel
set_option maxRecDepth 20000 in
theorem ggX3_countHours_X3_voltsAfterStep : GoodIn wsX3_countHours wsX3_voltsAfterStep := goodIn_r _ [8, 3, 9, 10, 11, 12, 13, 14, 15, 16, 17, 18, 19, 20, 21] (by decide +kernel) (by decide +kernel)
set_option maxRecDepth 20000 in
theorem gX3_countHours_X3_voltsAfterStep : GoodIn wsX3_countHours (wsV RX3 46 RX3 yX3_voltsAfterStep wsX3_voltsAfterStep) := goodIn_app (goodIn_of _ (by decide +kernel)) ggX3_countHours_X3_voltsAfterStep
theorem dX3_countHours_0 : decode cX3_countHours 0 = .ok (.aload_n 0, 1) := by decide +kernel
theorem dX3_countHours_1 : decode cX3_countHours 1 = .ok (.getfield 18, 3) := by decide +kernel
theorem dX3_countHours_4 : decode cX3_countHours 4 = .ok (.iload_n 1, 1) := by decide +kernel
theorem dX3_countHours_5 : decode cX3_countHours 5 = .ok (.iaload, 1) := by decide +kernel
theorem dX3_countHours_6 : decode cX3_countHours 6 = .ok (.istore_n 3, 1) := by decide +kernel
theorem dX3_countHours_7 : decode cX3_countHours 7 = .ok (.iload_n 3, 1) := by decide +kernel
theorem dX3_countHours_8 : decode cX3_countHours 8 = .ok (.ifCond .ne 4, 3) := by decide +kernel
theorem dX3_countHours_11 : decode cX3_countHours 11 = .ok (.return_, 1) := by decide +kernel
theorem dX3_countHours_12 : decode cX3_countHours 12 = .ok (.aload_n 0, 1) := by decide +kernel
theorem dX3_countHours_13 : decode cX3_countHours 13 = .ok (.getfield 24, 3) := by decide +kernel
theorem dX3_countHours_16 : decode cX3_countHours 16 = .ok (.iload_n 1, 1) := by decide +kernel
theorem dX3_countHours_17 : decode cX3_countHours 17 = .ok (.iaload, 1) := by decide +kernel
theorem dX3_countHours_18 : decode cX3_countHours 18 = .ok (.iload_n 2, 1) := by decide +kernel
theorem dX3_countHours_19 : decode cX3_countHours 19 = .ok (.iadd, 1) := by decide +kernel
theorem dX3_countHours_20 : decode cX3_countHours 20 = .ok (.istore 4, 2) := by decide +kernel
theorem dX3_countHours_22 : decode cX3_countHours 22 = .ok (.iload 4, 2) := by decide +kernel
theorem dX3_countHours_24 : decode cX3_countHours 24 = .ok (.iload_n 3, 1) := by decide +kernel
theorem dX3_countHours_25 : decode cX3_countHours 25 = .ok (.if_icmp .lt 14, 3) := by decide +kernel
theorem dX3_countHours_28 : decode cX3_countHours 28 = .ok (.aload_n 0, 1) := by decide +kernel
theorem dX3_countHours_29 : decode cX3_countHours 29 = .ok (.getfield 15, 3) := by decide +kernel
theorem dX3_countHours_32 : decode cX3_countHours 32 = .ok (.iload_n 1, 1) := by decide +kernel
theorem dX3_countHours_33 : decode cX3_countHours 33 = .ok (.aload_n 0, 1) := by decide +kernel
theorem dX3_countHours_34 : decode cX3_countHours 34 = .ok (.iload_n 1, 1) := by decide +kernel
theorem dX3_countHours_35 : decode cX3_countHours 35 = .ok (.invokevirtual 46, 3) := by decide +kernel
theorem dX3_countHours_38 : decode cX3_countHours 38 = .ok (.iastore, 1) := by decide +kernel
theorem dX3_countHours_39 : decode cX3_countHours 39 = .ok (.aload_n 0, 1) := by decide +kernel
theorem dX3_countHours_40 : decode cX3_countHours 40 = .ok (.getfield 24, 3) := by decide +kernel
theorem dX3_countHours_43 : decode cX3_countHours 43 = .ok (.iload_n 1, 1) := by decide +kernel
theorem dX3_countHours_44 : decode cX3_countHours 44 = .ok (.iload 4, 2) := by decide +kernel
theorem dX3_countHours_46 : decode cX3_countHours 46 = .ok (.iload_n 3, 1) := by decide +kernel
theorem dX3_countHours_47 : decode cX3_countHours 47 = .ok (.irem, 1) := by decide +kernel
theorem dX3_countHours_48 : decode cX3_countHours 48 = .ok (.iastore, 1) := by decide +kernel
theorem dX3_countHours_49 : decode cX3_countHours 49 = .ok (.return_, 1) := by decide +kernel
set_option maxRecDepth 20000 in
theorem ggX4_init_X0_init : GoodIn wsX4_init wsX0_init := goodIn_r _ [21, 22, 2, 3, 23, 24, 25, 55, 56] (by decide +kernel) (by decide +kernel)
set_option maxRecDepth 20000 in
theorem gX4_init_X0_init : GoodIn wsX4_init (wsX0_init) := ggX4_init_X0_init
set_option maxRecDepth 20000 in
theorem ggX4_init_X2_init : GoodIn wsX4_init wsX2_init := goodIn_r _ [27, 28, 2, 3, 29, 23, 30, 31, 32, 33, 34, 35, 57, 58, 59, 60, 61, 62, 63] (by decide +kernel) (by decide +kernel)
set_option maxRecDepth 20000 in
theorem gX4_init_X2_init_n30 : GoodIn wsX4_init (wsX2_init) := ggX4_init_X2_init
set_option maxRecDepth 20000 in
theorem ggX4_init_X3_init : GoodIn wsX4_init wsX3_init := goodIn_r _ [38, 39, 2, 3, 23, 40, 41, 42, 43, 44, 45, 46, 47, 48, 64, 65, 66, 67, 68] (by decide +kernel) (by decide +kernel)
set_option maxRecDepth 20000 in
theorem gX4_init_X3_init : GoodIn wsX4_init (wsX3_init) := ggX4_init_X3_init
theorem dX4_init_0 : decode cX4_init 0 = .ok (.aload_n 0, 1) := by decide +kernel
theorem dX4_init_1 : decode cX4_init 1 = .ok (.invokespecial 3, 3) := by decide +kernel
theorem dX4_init_4 : decode cX4_init 4 = .ok (.aload_n 0, 1) := by decide +kernel
theorem dX4_init_5 : decode cX4_init 5 = .ok (.iconst 0, 1) := by decide +kernel
theorem dX4_init_6 : decode cX4_init 6 = .ok (.putfield 9, 3) := by decide +kernel
theorem dX4_init_9 : decode cX4_init 9 = .ok (.aload_n 0, 1) := by decide +kernel
theorem dX4_init_10 : decode cX4_init 10 = .ok (.sipush 230, 3) := by decide +kernel
theorem dX4_init_13 : decode cX4_init 13 = .ok (.putfield 15, 3) := by decide +kernel
theorem dX4_init_16 : decode cX4_init 16 = .ok (.aload_n 0, 1) := by decide +kernel
theorem dX4_init_17 : decode cX4_init 17 = .ok (.bipush 10, 2) := by decide +kernel
theorem dX4_init_19 : decode cX4_init 19 = .ok (.putfield 18, 3) := by decide +kernel
theorem dX4_init_22 : decode cX4_init 22 = .ok (.aload_n 0, 1) := by decide +kernel
theorem dX4_init_23 : decode cX4_init 23 = .ok (.new 21, 3) := by decide +kernel
theorem dX4_init_26 : decode cX4_init 26 = .ok (.dup, 1) := by decide +kernel
theorem dX4_init_27 : decode cX4_init 27 = .ok (.invokespecial 23, 3) := by decide +kernel
theorem dX4_init_30 : decode cX4_init 30 = .ok (.putfield 24, 3) := by decide +kernel
theorem dX4_init_33 : decode cX4_init 33 = .ok (.aload_n 0, 1) := by decide +kernel
theorem dX4_init_34 : decode cX4_init 34 = .ok (.new 28, 3) := by decide +kernel
theorem dX4_init_37 : decode cX4_init 37 = .ok (.dup, 1) := by decide +kernel
theorem dX4_init_38 : decode cX4_init 38 = .ok (.invokespecial 30, 3) := by decide +kernel
theorem dX4_init_41 : decode cX4_init 41 = .ok (.putfield 31, 3) := by decide +kernel
theorem dX4_init_44 : decode cX4_init 44 = .ok (.aload_n 0, 1) := by decide +kernel
theorem dX4_init_45 : decode cX4_init 45 = .ok (.new 35, 3) := by decide +kernel
theorem dX4_init_48 : decode cX4_init 48 = .ok (.dup, 1) := by decide +kernel
theorem dX4_init_49 : decode cX4_init 49 = .ok (.invokespecial 37, 3) := by decide +kernel
theorem dX4_init_52 : decode cX4_init 52 = .ok (.putfield 38, 3) := by decide +kernel
theorem dX4_init_55 : decode cX4_init 55 = .ok (.return_, 1) := by decide +kernel
set_option maxRecDepth 20000 in
theorem ggX4_copyFrom_X0_copyFrom : GoodIn wsX4_copyFrom wsX0_copyFrom := goodIn_r _ [11, 12, 13, 14, 15, 16, 17, 18, 19, 20, 21, 22, 23, 24, 53, 54] (by decide +kernel) (by decide +kernel)
set_option maxRecDepth 20000 in
theorem gX4_copyFrom_X0_copyFrom : GoodIn wsX4_copyFrom (wsV RX4 42 RX0 yX0_copyFrom wsX0_copyFrom) := goodIn_app (goodIn_of _ (by decide +kernel)) ggX4_copyFrom_X0_copyFrom
set_option maxRecDepth 20000 in
theorem ggX4_copyFrom_X2_copyFrom : GoodIn wsX4_copyFrom wsX2_copyFrom := goodIn_r _ [29, 30, 31, 32, 33, 34, 35, 36, 14, 15, 16, 17, 18, 19, 20, 21, 22, 23, 24, 55, 56, 57, 58, 59, 60, 61] (by decide +kernel) (by decide +kernel)
set_option maxRecDepth 20000 in
theorem gX4_copyFrom_X2_copyFrom : GoodIn wsX4_copyFrom (wsV RX4 46 RX2 yX2_copyFrom wsX2_copyFrom) := goodIn_app (goodIn_of _ (by decide +kernel)) ggX4_copyFrom_X2_copyFrom
set_option maxRecDepth 20000 in
theorem ggX4_copyFrom_X3_copyFrom : GoodIn wsX4_copyFrom wsX3_copyFrom := goodIn_r _ [41, 42, 43, 44, 45, 46, 14, 15, 16, 17, 18, 19, 20, 21, 22, 23, 24, 62, 63, 64, 65, 66] (by decide +kernel) (by decide +kernel)
set_option maxRecDepth 20000 in
theorem gX4_copyFrom_X3_copyFrom : GoodIn wsX4_copyFrom (wsV RX4 49 RX3 yX3_copyFrom wsX3_copyFrom) := goodIn_app (goodIn_of _ (by decide +kernel)) ggX4_copyFrom_X3_copyFrom
theorem dX4_copyFrom_0 : decode cX4_copyFrom 0 = .ok (.aload_n 0, 1) := by decide +kernel
theorem dX4_copyFrom_1 : decode cX4_copyFrom 1 = .ok (.aload_n 1, 1) := by decide +kernel
theorem dX4_copyFrom_2 : decode cX4_copyFrom 2 = .ok (.getfield 9, 3) := by decide +kernel
theorem dX4_copyFrom_5 : decode cX4_copyFrom 5 = .ok (.putfield 9, 3) := by decide +kernel
theorem dX4_copyFrom_8 : decode cX4_copyFrom 8 = .ok (.aload_n 0, 1) := by decide +kernel
theorem dX4_copyFrom_9 : decode cX4_copyFrom 9 = .ok (.aload_n 1, 1) := by decide +kernel
theorem dX4_copyFrom_10 : decode cX4_copyFrom 10 = .ok (.getfield 15, 3) := by decide +kernel
theorem dX4_copyFrom_13 : decode cX4_copyFrom 13 = .ok (.putfield 15, 3) := by decide +kernel
theorem dX4_copyFrom_16 : decode cX4_copyFrom 16 = .ok (.aload_n 0, 1) := by decide +kernel
theorem dX4_copyFrom_17 : decode cX4_copyFrom 17 = .ok (.aload_n 1, 1) := by decide +kernel
theorem dX4_copyFrom_18 : decode cX4_copyFrom 18 = .ok (.getfield 18, 3) := by decide +kernel
theorem dX4_copyFrom_21 : decode cX4_copyFrom 21 = .ok (.putfield 18, 3) := by decide +kernel
theorem dX4_copyFrom_24 : decode cX4_copyFrom 24 = .ok (.aload_n 0, 1) := by decide +kernel
theorem dX4_copyFrom_25 : decode cX4_copyFrom 25 = .ok (.getfield 24, 3) := by decide +kernel
theorem dX4_copyFrom_28 : decode cX4_copyFrom 28 = .ok (.aload_n 1, 1) := by decide +kernel
theorem dX4_copyFrom_29 : decode cX4_copyFrom 29 = .ok (.getfield 24, 3) := by decide +kernel
theorem dX4_copyFrom_32 : decode cX4_copyFrom 32 = .ok (.invokevirtual 42, 3) := by decide +kernel
theorem dX4_copyFrom_35 : decode cX4_copyFrom 35 = .ok (.aload_n 0, 1) := by decide +kernel
theorem dX4_copyFrom_36 : decode cX4_copyFrom 36 = .ok (.getfield 31, 3) := by decide +kernel
theorem dX4_copyFrom_39 : decode cX4_copyFrom 39 = .ok (.aload_n 1, 1) := by decide +kernel
theorem dX4_copyFrom_40 : decode cX4_copyFrom 40 = .ok (.getfield 31, 3) := by decide +kernel
theorem dX4_copyFrom_43 : decode cX4_copyFrom 43 = .ok (.invokevirtual 46, 3) := by decide +kernel
theorem dX4_copyFrom_46 : decode cX4_copyFrom 46 = .ok (.aload_n 0, 1) := by decide +kernel
theorem dX4_copyFrom_47 : decode cX4_copyFrom 47 = .ok (.getfield 38, 3) := by decide +kernel
theorem dX4_copyFrom_50 : decode cX4_copyFrom 50 = .ok (.aload_n 1, 1) := by decide +kernel
theorem dX4_copyFrom_51 : decode cX4_copyFrom 51 = .ok (.getfield 38, 3) := by decide +kernel
theorem dX4_copyFrom_54 : decode cX4_copyFrom 54 = .ok (.invokevirtual 49, 3) := by decide +kernel
theorem dX4_copyFrom_57 : decode cX4_copyFrom 57 = .ok (.return_, 1) := by decide +kernel
set_option maxRecDepth 20000 in
theorem ggX4_changeBatch_X6_isBatch : GoodIn wsX4_changeBatch wsX6_isBatch := goodIn_r _ [6, 7, 8, 5, 9] (by decide +kernel) (by decide +kernel)
set_option maxRecDepth 20000 in
theorem gX4_changeBatch_X6_isBatch_n52 : GoodIn wsX4_changeBatch (wsX6_isBatch) := ggX4_changeBatch_X6_isBatch
set_option maxRecDepth 20000 in
theorem ggX4_changeBatch_X6_isWithin : GoodIn wsX4_changeBatch wsX6_isWithin := goodIn_r _ [9] (by decide +kernel) (by decide +kernel)
set_option maxRecDepth 20000 in
theorem gX4_changeBatch_X6_isWithin_n56 : GoodIn wsX4_changeBatch (wsX6_isWithin) := ggX4_changeBatch_X6_isWithin
theorem dX4_changeBatch_0 : decode cX4_changeBatch 0 = .ok (.iload_n 1, 1) := by decide +kernel
theorem dX4_changeBatch_1 : decode cX4_changeBatch 1 = .ok (.invokestatic 52, 3) := by decide +kernel
theorem dX4_changeBatch_4 : decode cX4_changeBatch 4 = .ok (.ifCond .ne 7, 3) := by decide +kernel
theorem dX4_changeBatch_7 : decode cX4_changeBatch 7 = .ok (.sipush (-1001), 3) := by decide +kernel
theorem dX4_changeBatch_10 : decode cX4_changeBatch 10 = .ok (.ireturn, 1) := by decide +kernel
theorem dX4_changeBatch_11 : decode cX4_changeBatch 11 = .ok (.iload_n 2, 1) := by decide +kernel
theorem dX4_changeBatch_12 : decode cX4_changeBatch 12 = .ok (.bipush 10, 2) := by decide +kernel
theorem dX4_changeBatch_14 : decode cX4_changeBatch 14 = .ok (.sipush 9999, 3) := by decide +kernel
theorem dX4_changeBatch_17 : decode cX4_changeBatch 17 = .ok (.invokestatic 56, 3) := by decide +kernel
theorem dX4_changeBatch_20 : decode cX4_changeBatch 20 = .ok (.ifCond .eq 13, 3) := by decide +kernel
theorem dX4_changeBatch_23 : decode cX4_changeBatch 23 = .ok (.iload_n 3, 1) := by decide +kernel
theorem dX4_changeBatch_24 : decode cX4_changeBatch 24 = .ok (.iconst 0, 1) := by decide +kernel
theorem dX4_changeBatch_25 : decode cX4_changeBatch 25 = .ok (.bipush 90, 2) := by decide +kernel
theorem dX4_changeBatch_27 : decode cX4_changeBatch 27 = .ok (.invokestatic 56, 3) := by decide +kernel
theorem dX4_changeBatch_30 : decode cX4_changeBatch 30 = .ok (.ifCond .ne 7, 3) := by decide +kernel
theorem dX4_changeBatch_33 : decode cX4_changeBatch 33 = .ok (.sipush (-1002), 3) := by decide +kernel
theorem dX4_changeBatch_36 : decode cX4_changeBatch 36 = .ok (.ireturn, 1) := by decide +kernel
theorem dX4_changeBatch_37 : decode cX4_changeBatch 37 = .ok (.aload_n 0, 1) := by decide +kernel
theorem dX4_changeBatch_38 : decode cX4_changeBatch 38 = .ok (.getfield 24, 3) := by decide +kernel
theorem dX4_changeBatch_41 : decode cX4_changeBatch 41 = .ok (.getfield 60, 3) := by decide +kernel
theorem dX4_changeBatch_44 : decode cX4_changeBatch 44 = .ok (.iload_n 1, 1) := by decide +kernel
theorem dX4_changeBatch_45 : decode cX4_changeBatch 45 = .ok (.iaload, 1) := by decide +kernel
theorem dX4_changeBatch_46 : decode cX4_changeBatch 46 = .ok (.istore 4, 2) := by decide +kernel
theorem dX4_changeBatch_48 : decode cX4_changeBatch 48 = .ok (.iload 4, 2) := by decide +kernel
theorem dX4_changeBatch_50 : decode cX4_changeBatch 50 = .ok (.iload_n 2, 1) := by decide +kernel
theorem dX4_changeBatch_51 : decode cX4_changeBatch 51 = .ok (.if_icmp .ne 20, 3) := by decide +kernel
theorem dX4_changeBatch_54 : decode cX4_changeBatch 54 = .ok (.aload_n 0, 1) := by decide +kernel
theorem dX4_changeBatch_55 : decode cX4_changeBatch 55 = .ok (.getfield 24, 3) := by decide +kernel
theorem dX4_changeBatch_58 : decode cX4_changeBatch 58 = .ok (.getfield 64, 3) := by decide +kernel
theorem dX4_changeBatch_61 : decode cX4_changeBatch 61 = .ok (.iload_n 1, 1) := by decide +kernel
theorem dX4_changeBatch_62 : decode cX4_changeBatch 62 = .ok (.iaload, 1) := by decide +kernel
theorem dX4_changeBatch_63 : decode cX4_changeBatch 63 = .ok (.iload_n 3, 1) := by decide +kernel
theorem dX4_changeBatch_64 : decode cX4_changeBatch 64 = .ok (.if_icmp .ne 7, 3) := by decide +kernel
theorem dX4_changeBatch_67 : decode cX4_changeBatch 67 = .ok (.sipush (-1005), 3) := by decide +kernel
theorem dX4_changeBatch_70 : decode cX4_changeBatch 70 = .ok (.ireturn, 1) := by decide +kernel
theorem dX4_changeBatch_71 : decode cX4_changeBatch 71 = .ok (.aload_n 0, 1) := by decide +kernel
theorem dX4_changeBatch_72 : decode cX4_changeBatch 72 = .ok (.getfield 24, 3) := by decide +kernel
theorem dX4_changeBatch_75 : decode cX4_changeBatch 75 = .ok (.getfield 60, 3) := by decide +kernel
theorem dX4_changeBatch_78 : decode cX4_changeBatch 78 = .ok (.iload_n 1, 1) := by decide +kernel
theorem dX4_changeBatch_79 : decode cX4_changeBatch 79 = .ok (.iload_n 2, 1) := by decide +kernel
theorem dX4_changeBatch_80 : decode cX4_changeBatch 80 = .ok (.iastore, 1) := by decide +kernel
theorem dX4_changeBatch_81 : decode cX4_changeBatch 81 = .ok (.aload_n 0, 1) := by decide +kernel
theorem dX4_changeBatch_82 : decode cX4_changeBatch 82 = .ok (.getfield 24, 3) := by decide +kernel
theorem dX4_changeBatch_85 : decode cX4_changeBatch 85 = .ok (.getfield 64, 3) := by decide +kernel
theorem dX4_changeBatch_88 : decode cX4_changeBatch 88 = .ok (.iload_n 1, 1) := by decide +kernel
theorem dX4_changeBatch_89 : decode cX4_changeBatch 89 = .ok (.iload_n 3, 1) := by decide +kernel
theorem dX4_changeBatch_90 : decode cX4_changeBatch 90 = .ok (.iastore, 1) := by decide +kernel
theorem dX4_changeBatch_91 : decode cX4_changeBatch 91 = .ok (.iload 4, 2) := by decide +kernel
theorem dX4_changeBatch_93 : decode cX4_changeBatch 93 = .ok (.ireturn, 1) := by decide +kernel
set_option maxRecDepth 20000 in
theorem ggX4_insertLamp_X6_isPlace : GoodIn wsX4_insertLamp wsX6_isPlace := goodIn_r _ [8, 9, 10, 7, 11, 12, 13, 14] (by decide +kernel) (by decide +kernel)
set_option maxRecDepth 20000 in
theorem gX4_insertLamp_X6_isPlace_n67 : GoodIn wsX4_insertLamp (wsX6_isPlace) := ggX4_insertLamp_X6_isPlace
set_option maxRecDepth 20000 in
theorem ggX4_insertLamp_X6_isBatch : GoodIn wsX4_insertLamp wsX6_isBatch := goodIn_r _ [16, 12, 13, 7, 14] (by decide +kernel) (by decide +kernel)
set_option maxRecDepth 20000 in
theorem gX4_insertLamp_X6_isBatch_n52 : GoodIn wsX4_insertLamp (wsX6_isBatch) := ggX4_insertLamp_X6_isBatch
set_option maxRecDepth 20000 in
theorem ggX4_insertLamp_X6_spotOf : GoodIn wsX4_insertLamp wsX6_spotOf := goodIn_r _ [18] (by decide +kernel) (by decide +kernel)
set_option maxRecDepth 20000 in
theorem gX4_insertLamp_X6_spotOf_n71 : GoodIn wsX4_insertLamp (wsX6_spotOf) := ggX4_insertLamp_X6_spotOf
set_option maxRecDepth 20000 in
theorem ggX4_insertLamp_X2_isFull : GoodIn wsX4_insertLamp wsX2_isFull := goodIn_r _ [23, 24, 62, 63, 64, 65, 66, 67, 68] (by decide +kernel) (by decide +kernel)
set_option maxRecDepth 20000 in
theorem gX4_insertLamp_X2_isFull : GoodIn wsX4_insertLamp (wsV RX4 78 RX2 yX2_isFull wsX2_isFull) := goodIn_app (goodIn_of _ (by decide +kernel)) ggX4_insertLamp_X2_isFull
set_option maxRecDepth 20000 in
theorem ggX4_insertLamp_X0_hoursOfLamp : GoodIn wsX4_insertLamp wsX0_hoursOfLamp := goodIn_r _ [29, 30, 31, 32, 33, 34, 35, 36, 7, 37, 38, 39, 40, 69, 70] (by decide +kernel) (by decide +kernel)
set_option maxRecDepth 20000 in
theorem gX4_insertLamp_X0_hoursOfLamp : GoodIn wsX4_insertLamp (wsV RX4 85 RX0 yX0_hoursOfLamp wsX0_hoursOfLamp) := goodIn_app (goodIn_of _ (by decide +kernel)) ggX4_insertLamp_X0_hoursOfLamp
set_option maxRecDepth 20000 in
theorem ggX4_insertLamp_X2_append : GoodIn wsX4_insertLamp wsX2_append := goodIn_r _ [44, 24, 45, 46, 47, 48, 49, 50, 62, 63, 64, 65, 66, 67, 68] (by decide +kernel) (by decide +kernel)
set_option maxRecDepth 20000 in
theorem gX4_insertLamp_X2_append : GoodIn wsX4_insertLamp (wsV RX4 88 RX2 yX2_append wsX2_append) := goodIn_app (goodIn_of _ (by decide +kernel)) ggX4_insertLamp_X2_append
theorem dX4_insertLamp_0 : decode cX4_insertLamp 0 = .ok (.iload_n 1, 1) := by decide +kernel
theorem dX4_insertLamp_1 : decode cX4_insertLamp 1 = .ok (.iload_n 2, 1) := by decide +kernel
theorem dX4_insertLamp_2 : decode cX4_insertLamp 2 = .ok (.invokestatic 67, 3) := by decide +kernel
theorem dX4_insertLamp_5 : decode cX4_insertLamp 5 = .ok (.ifCond .eq 10, 3) := by decide +kernel
theorem dX4_insertLamp_8 : decode cX4_insertLamp 8 = .ok (.iload_n 3, 1) := by decide +kernel
theorem dX4_insertLamp_9 : decode cX4_insertLamp 9 = .ok (.invokestatic 52, 3) := by decide +kernel
theorem dX4_insertLamp_12 : decode cX4_insertLamp 12 = .ok (.ifCond .ne 7, 3) := by decide +kernel
theorem dX4_insertLamp_15 : decode cX4_insertLamp 15 = .ok (.sipush (-1001), 3) := by decide +kernel
theorem dX4_insertLamp_18 : decode cX4_insertLamp 18 = .ok (.ireturn, 1) := by decide +kernel
theorem dX4_insertLamp_19 : decode cX4_insertLamp 19 = .ok (.iload_n 1, 1) := by decide +kernel
theorem dX4_insertLamp_20 : decode cX4_insertLamp 20 = .ok (.iload_n 2, 1) := by decide +kernel
theorem dX4_insertLamp_21 : decode cX4_insertLamp 21 = .ok (.invokestatic 71, 3) := by decide +kernel
theorem dX4_insertLamp_24 : decode cX4_insertLamp 24 = .ok (.istore 4, 2) := by decide +kernel
theorem dX4_insertLamp_26 : decode cX4_insertLamp 26 = .ok (.aload_n 0, 1) := by decide +kernel
theorem dX4_insertLamp_27 : decode cX4_insertLamp 27 = .ok (.getfield 38, 3) := by decide +kernel
theorem dX4_insertLamp_30 : decode cX4_insertLamp 30 = .ok (.getfield 75, 3) := by decide +kernel
theorem dX4_insertLamp_33 : decode cX4_insertLamp 33 = .ok (.iload 4, 2) := by decide +kernel
theorem dX4_insertLamp_35 : decode cX4_insertLamp 35 = .ok (.iaload, 1) := by decide +kernel
theorem dX4_insertLamp_36 : decode cX4_insertLamp 36 = .ok (.iconst (-1), 1) := by decide +kernel
theorem dX4_insertLamp_37 : decode cX4_insertLamp 37 = .ok (.if_icmp .eq 7, 3) := by decide +kernel
theorem dX4_insertLamp_40 : decode cX4_insertLamp 40 = .ok (.sipush (-1004), 3) := by decide +kernel
theorem dX4_insertLamp_43 : decode cX4_insertLamp 43 = .ok (.ireturn, 1) := by decide +kernel
theorem dX4_insertLamp_44 : decode cX4_insertLamp 44 = .ok (.aload_n 0, 1) := by decide +kernel
theorem dX4_insertLamp_45 : decode cX4_insertLamp 45 = .ok (.getfield 31, 3) := by decide +kernel
theorem dX4_insertLamp_48 : decode cX4_insertLamp 48 = .ok (.invokevirtual 78, 3) := by decide +kernel
theorem dX4_insertLamp_51 : decode cX4_insertLamp 51 = .ok (.ifCond .eq 7, 3) := by decide +kernel
theorem dX4_insertLamp_54 : decode cX4_insertLamp 54 = .ok (.sipush (-1003), 3) := by decide +kernel
theorem dX4_insertLamp_57 : decode cX4_insertLamp 57 = .ok (.ireturn, 1) := by decide +kernel
theorem dX4_insertLamp_58 : decode cX4_insertLamp 58 = .ok (.aload_n 0, 1) := by decide +kernel
theorem dX4_insertLamp_59 : decode cX4_insertLamp 59 = .ok (.getfield 31, 3) := by decide +kernel
theorem dX4_insertLamp_62 : decode cX4_insertLamp 62 = .ok (.iload_n 3, 1) := by decide +kernel
theorem dX4_insertLamp_63 : decode cX4_insertLamp 63 = .ok (.iload 4, 2) := by decide +kernel
theorem dX4_insertLamp_65 : decode cX4_insertLamp 65 = .ok (.aload_n 0, 1) := by decide +kernel
theorem dX4_insertLamp_66 : decode cX4_insertLamp 66 = .ok (.getfield 24, 3) := by decide +kernel
theorem dX4_insertLamp_69 : decode cX4_insertLamp 69 = .ok (.iload_n 3, 1) := by decide +kernel
theorem dX4_insertLamp_70 : decode cX4_insertLamp 70 = .ok (.aload_n 0, 1) := by decide +kernel
theorem dX4_insertLamp_71 : decode cX4_insertLamp 71 = .ok (.getfield 31, 3) := by decide +kernel
theorem dX4_insertLamp_74 : decode cX4_insertLamp 74 = .ok (.getfield 82, 3) := by decide +kernel
theorem dX4_insertLamp_77 : decode cX4_insertLamp 77 = .ok (.invokevirtual 85, 3) := by decide +kernel
theorem dX4_insertLamp_80 : decode cX4_insertLamp 80 = .ok (.invokevirtual 88, 3) := by decide +kernel
theorem dX4_insertLamp_83 : decode cX4_insertLamp 83 = .ok (.istore 5, 2) := by decide +kernel
theorem dX4_insertLamp_85 : decode cX4_insertLamp 85 = .ok (.aload_n 0, 1) := by decide +kernel
theorem dX4_insertLamp_86 : decode cX4_insertLamp 86 = .ok (.getfield 38, 3) := by decide +kernel
theorem dX4_insertLamp_89 : decode cX4_insertLamp 89 = .ok (.getfield 75, 3) := by decide +kernel
theorem dX4_insertLamp_92 : decode cX4_insertLamp 92 = .ok (.iload 4, 2) := by decide +kernel
theorem dX4_insertLamp_94 : decode cX4_insertLamp 94 = .ok (.iload 5, 2) := by decide +kernel
theorem dX4_insertLamp_96 : decode cX4_insertLamp 96 = .ok (.iastore, 1) := by decide +kernel
theorem dX4_insertLamp_97 : decode cX4_insertLamp 97 = .ok (.iload 5, 2) := by decide +kernel
theorem dX4_insertLamp_99 : decode cX4_insertLamp 99 = .ok (.ireturn, 1) := by decide +kernel
set_option maxRecDepth 20000 in
theorem ggX4_removeLamp_X6_isPlace : GoodIn wsX4_removeLamp wsX6_isPlace := goodIn_r _ [7, 8, 9, 6, 10, 11, 12, 13] (by decide +kernel) (by decide +kernel)
set_option maxRecDepth 20000 in
theorem gX4_removeLamp_X6_isPlace_n67 : GoodIn wsX4_removeLamp (wsX6_isPlace) := ggX4_removeLamp_X6_isPlace
set_option maxRecDepth 20000 in
theorem ggX4_removeLamp_X6_spotOf : GoodIn wsX4_removeLamp wsX6_spotOf := goodIn_r _ [15] (by decide +kernel) (by decide +kernel)
set_option maxRecDepth 20000 in
theorem gX4_removeLamp_X6_spotOf_n71 : GoodIn wsX4_removeLamp (wsX6_spotOf) := ggX4_removeLamp_X6_spotOf
theorem dX4_removeLamp_0 : decode cX4_removeLamp 0 = .ok (.iload_n 1, 1) := by decide +kernel
theorem dX4_removeLamp_1 : decode cX4_removeLamp 1 = .ok (.iload_n 2, 1) := by decide +kernel
theorem dX4_removeLamp_2 : decode cX4_removeLamp 2 = .ok (.invokestatic 67, 3) := by decide +kernel
theorem dX4_removeLamp_5 : decode cX4_removeLamp 5 = .ok (.ifCond .ne 7, 3) := by decide +kernel
theorem dX4_removeLamp_8 : decode cX4_removeLamp 8 = .ok (.sipush (-1001), 3) := by decide +kernel
theorem dX4_removeLamp_11 : decode cX4_removeLamp 11 = .ok (.ireturn, 1) := by decide +kernel
theorem dX4_removeLamp_12 : decode cX4_removeLamp 12 = .ok (.iload_n 1, 1) := by decide +kernel
theorem dX4_removeLamp_13 : decode cX4_removeLamp 13 = .ok (.iload_n 2, 1) := by decide +kernel
theorem dX4_removeLamp_14 : decode cX4_removeLamp 14 = .ok (.invokestatic 71, 3) := by decide +kernel
theorem dX4_removeLamp_17 : decode cX4_removeLamp 17 = .ok (.istore_n 3, 1) := by decide +kernel
theorem dX4_removeLamp_18 : decode cX4_removeLamp 18 = .ok (.aload_n 0, 1) := by decide +kernel
theorem dX4_removeLamp_19 : decode cX4_removeLamp 19 = .ok (.getfield 38, 3) := by decide +kernel
theorem dX4_removeLamp_22 : decode cX4_removeLamp 22 = .ok (.getfield 75, 3) := by decide +kernel
theorem dX4_removeLamp_25 : decode cX4_removeLamp 25 = .ok (.iload_n 3, 1) := by decide +kernel
theorem dX4_removeLamp_26 : decode cX4_removeLamp 26 = .ok (.iaload, 1) := by decide +kernel
theorem dX4_removeLamp_27 : decode cX4_removeLamp 27 = .ok (.istore 4, 2) := by decide +kernel
theorem dX4_removeLamp_29 : decode cX4_removeLamp 29 = .ok (.iload 4, 2) := by decide +kernel
theorem dX4_removeLamp_31 : decode cX4_removeLamp 31 = .ok (.iconst (-1), 1) := by decide +kernel
theorem dX4_removeLamp_32 : decode cX4_removeLamp 32 = .ok (.if_icmp .ne 7, 3) := by decide +kernel
theorem dX4_removeLamp_35 : decode cX4_removeLamp 35 = .ok (.sipush (-1005), 3) := by decide +kernel
theorem dX4_removeLamp_38 : decode cX4_removeLamp 38 = .ok (.ireturn, 1) := by decide +kernel
theorem dX4_removeLamp_39 : decode cX4_removeLamp 39 = .ok (.aload_n 0, 1) := by decide +kernel
theorem dX4_removeLamp_40 : decode cX4_removeLamp 40 = .ok (.getfield 38, 3) := by decide +kernel
theorem dX4_removeLamp_43 : decode cX4_removeLamp 43 = .ok (.getfield 75, 3) := by decide +kernel
theorem dX4_removeLamp_46 : decode cX4_removeLamp 46 = .ok (.iload_n 3, 1) := by decide +kernel
theorem dX4_removeLamp_47 : decode cX4_removeLamp 47 = .ok (.iconst (-1), 1) := by decide +kernel
theorem dX4_removeLamp_48 : decode cX4_removeLamp 48 = .ok (.iastore, 1) := by decide +kernel
theorem dX4_removeLamp_49 : decode cX4_removeLamp 49 = .ok (.aload_n 0, 1) := by decide +kernel
theorem dX4_removeLamp_50 : decode cX4_removeLamp 50 = .ok (.getfield 31, 3) := by decide +kernel
theorem dX4_removeLamp_53 : decode cX4_removeLamp 53 = .ok (.getfield 92, 3) := by decide +kernel
theorem dX4_removeLamp_56 : decode cX4_removeLamp 56 = .ok (.iload 4, 2) := by decide +kernel
theorem dX4_removeLamp_58 : decode cX4_removeLamp 58 = .ok (.iconst (-1), 1) := by decide +kernel
theorem dX4_removeLamp_59 : decode cX4_removeLamp 59 = .ok (.iastore, 1) := by decide +kernel
theorem dX4_removeLamp_60 : decode cX4_removeLamp 60 = .ok (.iload 4, 2) := by decide +kernel
theorem dX4_removeLamp_62 : decode cX4_removeLamp 62 = .ok (.ireturn, 1) := by decide +kernel
set_option maxRecDepth 20000 in
theorem ggX4_exchange_X6_isPlace : GoodIn wsX4_exchange wsX6_isPlace := goodIn_r _ [5, 6, 7, 4, 8, 9, 10, 11] (by decide +kernel) (by decide +kernel)
set_option maxRecDepth 20000 in
theorem gX4_exchange_X6_isPlace_n67 : GoodIn wsX4_exchange (wsX6_isPlace) := ggX4_exchange_X6_isPlace
set_option maxRecDepth 20000 in
theorem ggX4_exchange_X6_spotOf : GoodIn wsX4_exchange wsX6_spotOf := goodIn_r _ [13] (by decide +kernel) (by decide +kernel)
set_option maxRecDepth 20000 in
theorem gX4_exchange_X6_spotOf_n71 : GoodIn wsX4_exchange (wsX6_spotOf) := ggX4_exchange_X6_spotOf
set_option maxRecDepth 20000 in
theorem ggX4_exchange_X4_moveTo : GoodIn wsX4_exchange wsX4_moveTo := goodIn_r _ [18, 1, 2, 19, 20, 21, 22, 23, 24, 25, 26, 27, 28, 29, 30, 31, 32, 33, 34, 35, 36, 37, 38] (by decide +kernel) (by decide +kernel)
set_option maxRecDepth 20000 in
theorem gX4_exchange_X4_moveTo : GoodIn wsX4_exchange (wsV RX4 95 RX4 yX4_moveTo wsX4_moveTo) := goodIn_app (goodIn_of _ (by decide +kernel)) ggX4_exchange_X4_moveTo
theorem dX4_exchange_0 : decode cX4_exchange 0 = .ok (.iload_n 1, 1) := by decide +kernel
theorem dX4_exchange_1 : decode cX4_exchange 1 = .ok (.iload_n 2, 1) := by decide +kernel
theorem dX4_exchange_2 : decode cX4_exchange 2 = .ok (.invokestatic 67, 3) := by decide +kernel
theorem dX4_exchange_5 : decode cX4_exchange 5 = .ok (.ifCond .eq 12, 3) := by decide +kernel
theorem dX4_exchange_8 : decode cX4_exchange 8 = .ok (.iload_n 3, 1) := by decide +kernel
theorem dX4_exchange_9 : decode cX4_exchange 9 = .ok (.iload 4, 2) := by decide +kernel
theorem dX4_exchange_11 : decode cX4_exchange 11 = .ok (.invokestatic 67, 3) := by decide +kernel
theorem dX4_exchange_14 : decode cX4_exchange 14 = .ok (.ifCond .ne 7, 3) := by decide +kernel
theorem dX4_exchange_17 : decode cX4_exchange 17 = .ok (.sipush (-1001), 3) := by decide +kernel
theorem dX4_exchange_20 : decode cX4_exchange 20 = .ok (.ireturn, 1) := by decide +kernel
theorem dX4_exchange_21 : decode cX4_exchange 21 = .ok (.iload_n 1, 1) := by decide +kernel
theorem dX4_exchange_22 : decode cX4_exchange 22 = .ok (.iload_n 2, 1) := by decide +kernel
theorem dX4_exchange_23 : decode cX4_exchange 23 = .ok (.invokestatic 71, 3) := by decide +kernel
theorem dX4_exchange_26 : decode cX4_exchange 26 = .ok (.istore 5, 2) := by decide +kernel
theorem dX4_exchange_28 : decode cX4_exchange 28 = .ok (.iload_n 3, 1) := by decide +kernel
theorem dX4_exchange_29 : decode cX4_exchange 29 = .ok (.iload 4, 2) := by decide +kernel
theorem dX4_exchange_31 : decode cX4_exchange 31 = .ok (.invokestatic 71, 3) := by decide +kernel
theorem dX4_exchange_34 : decode cX4_exchange 34 = .ok (.istore 6, 2) := by decide +kernel
theorem dX4_exchange_36 : decode cX4_exchange 36 = .ok (.aload_n 0, 1) := by decide +kernel
theorem dX4_exchange_37 : decode cX4_exchange 37 = .ok (.getfield 38, 3) := by decide +kernel
theorem dX4_exchange_40 : decode cX4_exchange 40 = .ok (.getfield 75, 3) := by decide +kernel
theorem dX4_exchange_43 : decode cX4_exchange 43 = .ok (.iload 5, 2) := by decide +kernel
theorem dX4_exchange_45 : decode cX4_exchange 45 = .ok (.iaload, 1) := by decide +kernel
theorem dX4_exchange_46 : decode cX4_exchange 46 = .ok (.istore 7, 2) := by decide +kernel
theorem dX4_exchange_48 : decode cX4_exchange 48 = .ok (.aload_n 0, 1) := by decide +kernel
theorem dX4_exchange_49 : decode cX4_exchange 49 = .ok (.getfield 38, 3) := by decide +kernel
theorem dX4_exchange_52 : decode cX4_exchange 52 = .ok (.getfield 75, 3) := by decide +kernel
theorem dX4_exchange_55 : decode cX4_exchange 55 = .ok (.iload 6, 2) := by decide +kernel
theorem dX4_exchange_57 : decode cX4_exchange 57 = .ok (.iaload, 1) := by decide +kernel
theorem dX4_exchange_58 : decode cX4_exchange 58 = .ok (.istore 8, 2) := by decide +kernel
theorem dX4_exchange_60 : decode cX4_exchange 60 = .ok (.iload 5, 2) := by decide +kernel
theorem dX4_exchange_62 : decode cX4_exchange 62 = .ok (.iload 6, 2) := by decide +kernel
theorem dX4_exchange_64 : decode cX4_exchange 64 = .ok (.if_icmp .eq 15, 3) := by decide +kernel
theorem dX4_exchange_67 : decode cX4_exchange 67 = .ok (.iload 7, 2) := by decide +kernel
theorem dX4_exchange_69 : decode cX4_exchange 69 = .ok (.iconst (-1), 1) := by decide +kernel
theorem dX4_exchange_70 : decode cX4_exchange 70 = .ok (.if_icmp .ne 13, 3) := by decide +kernel
theorem dX4_exchange_73 : decode cX4_exchange 73 = .ok (.iload 8, 2) := by decide +kernel
theorem dX4_exchange_75 : decode cX4_exchange 75 = .ok (.iconst (-1), 1) := by decide +kernel
theorem dX4_exchange_76 : decode cX4_exchange 76 = .ok (.if_icmp .ne 7, 3) := by decide +kernel
theorem dX4_exchange_79 : decode cX4_exchange 79 = .ok (.sipush (-1005), 3) := by decide +kernel
theorem dX4_exchange_82 : decode cX4_exchange 82 = .ok (.ireturn, 1) := by decide +kernel
theorem dX4_exchange_83 : decode cX4_exchange 83 = .ok (.aload_n 0, 1) := by decide +kernel
theorem dX4_exchange_84 : decode cX4_exchange 84 = .ok (.iload 6, 2) := by decide +kernel
theorem dX4_exchange_86 : decode cX4_exchange 86 = .ok (.iload 7, 2) := by decide +kernel
theorem dX4_exchange_88 : decode cX4_exchange 88 = .ok (.invokevirtual 95, 3) := by decide +kernel
theorem dX4_exchange_91 : decode cX4_exchange 91 = .ok (.aload_n 0, 1) := by decide +kernel
theorem dX4_exchange_92 : decode cX4_exchange 92 = .ok (.iload 5, 2) := by decide +kernel
theorem dX4_exchange_94 : decode cX4_exchange 94 = .ok (.iload 8, 2) := by decide +kernel
theorem dX4_exchange_96 : decode cX4_exchange 96 = .ok (.invokevirtual 95, 3) := by decide +kernel
theorem dX4_exchange_99 : decode cX4_exchange 99 = .ok (.iadd, 1) := by decide +kernel
theorem dX4_exchange_100 : decode cX4_exchange 100 = .ok (.ireturn, 1) := by decide +kernel
theorem dX4_moveTo_0 : decode cX4_moveTo 0 = .ok (.aload_n 0, 1) := by decide +kernel
theorem dX4_moveTo_1 : decode cX4_moveTo 1 = .ok (.getfield 38, 3) := by decide +kernel
theorem dX4_moveTo_4 : decode cX4_moveTo 4 = .ok (.getfield 75, 3) := by decide +kernel
theorem dX4_moveTo_7 : decode cX4_moveTo 7 = .ok (.iload_n 1, 1) := by decide +kernel
theorem dX4_moveTo_8 : decode cX4_moveTo 8 = .ok (.iload_n 2, 1) := by decide +kernel
theorem dX4_moveTo_9 : decode cX4_moveTo 9 = .ok (.iastore, 1) := by decide +kernel
theorem dX4_moveTo_10 : decode cX4_moveTo 10 = .ok (.iload_n 2, 1) := by decide +kernel
theorem dX4_moveTo_11 : decode cX4_moveTo 11 = .ok (.iconst (-1), 1) := by decide +kernel
theorem dX4_moveTo_12 : decode cX4_moveTo 12 = .ok (.if_icmp .ne 5, 3) := by decide +kernel
theorem dX4_moveTo_15 : decode cX4_moveTo 15 = .ok (.iconst 0, 1) := by decide +kernel
theorem dX4_moveTo_16 : decode cX4_moveTo 16 = .ok (.ireturn, 1) := by decide +kernel
theorem dX4_moveTo_17 : decode cX4_moveTo 17 = .ok (.aload_n 0, 1) := by decide +kernel
theorem dX4_moveTo_18 : decode cX4_moveTo 18 = .ok (.getfield 31, 3) := by decide +kernel
theorem dX4_moveTo_21 : decode cX4_moveTo 21 = .ok (.getfield 92, 3) := by decide +kernel
theorem dX4_moveTo_24 : decode cX4_moveTo 24 = .ok (.iload_n 2, 1) := by decide +kernel
theorem dX4_moveTo_25 : decode cX4_moveTo 25 = .ok (.iload_n 1, 1) := by decide +kernel
theorem dX4_moveTo_26 : decode cX4_moveTo 26 = .ok (.iastore, 1) := by decide +kernel
theorem dX4_moveTo_27 : decode cX4_moveTo 27 = .ok (.iconst 1, 1) := by decide +kernel
theorem dX4_moveTo_28 : decode cX4_moveTo 28 = .ok (.ireturn, 1) := by decide +kernel
set_option maxRecDepth 20000 in
theorem ggX4_changeVolts_X6_isRack : GoodIn wsX4_changeVolts wsX6_isRack := goodIn_r _ [5, 6, 7, 4, 8] (by decide +kernel) (by decide +kernel)
set_option maxRecDepth 20000 in
theorem gX4_changeVolts_X6_isRack_n98 : GoodIn wsX4_changeVolts (wsX6_isRack) := ggX4_changeVolts_X6_isRack
set_option maxRecDepth 20000 in
theorem ggX4_changeVolts_X6_isWithin : GoodIn wsX4_changeVolts wsX6_isWithin := goodIn_r _ [8] (by decide +kernel) (by decide +kernel)
set_option maxRecDepth 20000 in
theorem gX4_changeVolts_X6_isWithin_n56 : GoodIn wsX4_changeVolts (wsX6_isWithin) := ggX4_changeVolts_X6_isWithin
theorem dX4_changeVolts_0 : decode cX4_changeVolts 0 = .ok (.iload_n 1, 1) := by decide +kernel
theorem dX4_changeVolts_1 : decode cX4_changeVolts 1 = .ok (.invokestatic 98, 3) := by decide +kernel
theorem dX4_changeVolts_4 : decode cX4_changeVolts 4 = .ok (.ifCond .ne 7, 3) := by decide +kernel
theorem dX4_changeVolts_7 : decode cX4_changeVolts 7 = .ok (.sipush (-1001), 3) := by decide +kernel
theorem dX4_changeVolts_10 : decode cX4_changeVolts 10 = .ok (.ireturn, 1) := by decide +kernel
theorem dX4_changeVolts_11 : decode cX4_changeVolts 11 = .ok (.iload_n 2, 1) := by decide +kernel
theorem dX4_changeVolts_12 : decode cX4_changeVolts 12 = .ok (.iconst 0, 1) := by decide +kernel
theorem dX4_changeVolts_13 : decode cX4_changeVolts 13 = .ok (.sipush 300, 3) := by decide +kernel
theorem dX4_changeVolts_16 : decode cX4_changeVolts 16 = .ok (.invokestatic 56, 3) := by decide +kernel
theorem dX4_changeVolts_19 : decode cX4_changeVolts 19 = .ok (.ifCond .ne 7, 3) := by decide +kernel
theorem dX4_changeVolts_22 : decode cX4_changeVolts 22 = .ok (.sipush (-1002), 3) := by decide +kernel
theorem dX4_changeVolts_25 : decode cX4_changeVolts 25 = .ok (.ireturn, 1) := by decide +kernel
theorem dX4_changeVolts_26 : decode cX4_changeVolts 26 = .ok (.aload_n 0, 1) := by decide +kernel
theorem dX4_changeVolts_27 : decode cX4_changeVolts 27 = .ok (.getfield 38, 3) := by decide +kernel
theorem dX4_changeVolts_30 : decode cX4_changeVolts 30 = .ok (.getfield 101, 3) := by decide +kernel
theorem dX4_changeVolts_33 : decode cX4_changeVolts 33 = .ok (.iload_n 1, 1) := by decide +kernel
theorem dX4_changeVolts_34 : decode cX4_changeVolts 34 = .ok (.iaload, 1) := by decide +kernel
theorem dX4_changeVolts_35 : decode cX4_changeVolts 35 = .ok (.istore_n 3, 1) := by decide +kernel
theorem dX4_changeVolts_36 : decode cX4_changeVolts 36 = .ok (.iload_n 3, 1) := by decide +kernel
theorem dX4_changeVolts_37 : decode cX4_changeVolts 37 = .ok (.iload_n 2, 1) := by decide +kernel
theorem dX4_changeVolts_38 : decode cX4_changeVolts 38 = .ok (.if_icmp .ne 7, 3) := by decide +kernel
theorem dX4_changeVolts_41 : decode cX4_changeVolts 41 = .ok (.sipush (-1005), 3) := by decide +kernel
theorem dX4_changeVolts_44 : decode cX4_changeVolts 44 = .ok (.ireturn, 1) := by decide +kernel
theorem dX4_changeVolts_45 : decode cX4_changeVolts 45 = .ok (.aload_n 0, 1) := by decide +kernel
theorem dX4_changeVolts_46 : decode cX4_changeVolts 46 = .ok (.getfield 38, 3) := by decide +kernel
theorem dX4_changeVolts_49 : decode cX4_changeVolts 49 = .ok (.getfield 101, 3) := by decide +kernel
theorem dX4_changeVolts_52 : decode cX4_changeVolts 52 = .ok (.iload_n 1, 1) := by decide +kernel
theorem dX4_changeVolts_53 : decode cX4_changeVolts 53 = .ok (.iload_n 2, 1) := by decide +kernel
theorem dX4_changeVolts_54 : decode cX4_changeVolts 54 = .ok (.iastore, 1) := by decide +kernel
theorem dX4_changeVolts_55 : decode cX4_changeVolts 55 = .ok (.iload_n 3, 1) := by decide +kernel
theorem dX4_changeVolts_56 : decode cX4_changeVolts 56 = .ok (.ireturn, 1) := by decide +kernel
set_option maxRecDepth 20000 in
theorem ggX4_changeSteps_X6_isRack : GoodIn wsX4_changeSteps wsX6_isRack := goodIn_r _ [7, 8, 9, 6, 10] (by decide +kernel) (by decide +kernel)
set_option maxRecDepth 20000 in
theorem gX4_changeSteps_X6_isRack_n98 : GoodIn wsX4_changeSteps (wsX6_isRack) := ggX4_changeSteps_X6_isRack
set_option maxRecDepth 20000 in
theorem ggX4_changeSteps_X6_isWithin : GoodIn wsX4_changeSteps wsX6_isWithin := goodIn_r _ [10] (by decide +kernel) (by decide +kernel)
set_option maxRecDepth 20000 in
theorem gX4_changeSteps_X6_isWithin_n56 : GoodIn wsX4_changeSteps (wsX6_isWithin) := ggX4_changeSteps_X6_isWithin
theorem dX4_changeSteps_0 : decode cX4_changeSteps 0 = .ok (.iload_n 1, 1) := by decide +kernel
theorem dX4_changeSteps_1 : decode cX4_changeSteps 1 = .ok (.invokestatic 98, 3) := by decide +kernel
theorem dX4_changeSteps_4 : decode cX4_changeSteps 4 = .ok (.ifCond .ne 7, 3) := by decide +kernel
theorem dX4_changeSteps_7 : decode cX4_changeSteps 7 = .ok (.sipush (-1001), 3) := by decide +kernel
theorem dX4_changeSteps_10 : decode cX4_changeSteps 10 = .ok (.ireturn, 1) := by decide +kernel
theorem dX4_changeSteps_11 : decode cX4_changeSteps 11 = .ok (.iload_n 2, 1) := by decide +kernel
theorem dX4_changeSteps_12 : decode cX4_changeSteps 12 = .ok (.iconst 0, 1) := by decide +kernel
theorem dX4_changeSteps_13 : decode cX4_changeSteps 13 = .ok (.bipush 99, 2) := by decide +kernel
theorem dX4_changeSteps_15 : decode cX4_changeSteps 15 = .ok (.invokestatic 56, 3) := by decide +kernel
theorem dX4_changeSteps_18 : decode cX4_changeSteps 18 = .ok (.ifCond .eq 14, 3) := by decide +kernel
theorem dX4_changeSteps_21 : decode cX4_changeSteps 21 = .ok (.iload_n 3, 1) := by decide +kernel
theorem dX4_changeSteps_22 : decode cX4_changeSteps 22 = .ok (.bipush (-50), 2) := by decide +kernel
theorem dX4_changeSteps_24 : decode cX4_changeSteps 24 = .ok (.bipush 50, 2) := by decide +kernel
theorem dX4_changeSteps_26 : decode cX4_changeSteps 26 = .ok (.invokestatic 56, 3) := by decide +kernel
theorem dX4_changeSteps_29 : decode cX4_changeSteps 29 = .ok (.ifCond .ne 7, 3) := by decide +kernel
theorem dX4_changeSteps_32 : decode cX4_changeSteps 32 = .ok (.sipush (-1002), 3) := by decide +kernel
theorem dX4_changeSteps_35 : decode cX4_changeSteps 35 = .ok (.ireturn, 1) := by decide +kernel
theorem dX4_changeSteps_36 : decode cX4_changeSteps 36 = .ok (.aload_n 0, 1) := by decide +kernel
theorem dX4_changeSteps_37 : decode cX4_changeSteps 37 = .ok (.getfield 38, 3) := by decide +kernel
theorem dX4_changeSteps_40 : decode cX4_changeSteps 40 = .ok (.getfield 104, 3) := by decide +kernel
theorem dX4_changeSteps_43 : decode cX4_changeSteps 43 = .ok (.iload_n 1, 1) := by decide +kernel
theorem dX4_changeSteps_44 : decode cX4_changeSteps 44 = .ok (.iaload, 1) := by decide +kernel
theorem dX4_changeSteps_45 : decode cX4_changeSteps 45 = .ok (.istore 4, 2) := by decide +kernel
theorem dX4_changeSteps_47 : decode cX4_changeSteps 47 = .ok (.aload_n 0, 1) := by decide +kernel
theorem dX4_changeSteps_48 : decode cX4_changeSteps 48 = .ok (.getfield 38, 3) := by decide +kernel
theorem dX4_changeSteps_51 : decode cX4_changeSteps 51 = .ok (.getfield 104, 3) := by decide +kernel
theorem dX4_changeSteps_54 : decode cX4_changeSteps 54 = .ok (.iload_n 1, 1) := by decide +kernel
theorem dX4_changeSteps_55 : decode cX4_changeSteps 55 = .ok (.iload_n 2, 1) := by decide +kernel
theorem dX4_changeSteps_56 : decode cX4_changeSteps 56 = .ok (.iastore, 1) := by decide +kernel
theorem dX4_changeSteps_57 : decode cX4_changeSteps 57 = .ok (.aload_n 0, 1) := by decide +kernel
theorem dX4_changeSteps_58 : decode cX4_changeSteps 58 = .ok (.getfield 38, 3) := by decide +kernel
theorem dX4_changeSteps_61 : decode cX4_changeSteps 61 = .ok (.getfield 107, 3) := by decide +kernel
theorem dX4_changeSteps_64 : decode cX4_changeSteps 64 = .ok (.iload_n 1, 1) := by decide +kernel
theorem dX4_changeSteps_65 : decode cX4_changeSteps 65 = .ok (.iload_n 3, 1) := by decide +kernel
theorem dX4_changeSteps_66 : decode cX4_changeSteps 66 = .ok (.iastore, 1) := by decide +kernel
theorem dX4_changeSteps_67 : decode cX4_changeSteps 67 = .ok (.aload_n 0, 1) := by decide +kernel
theorem dX4_changeSteps_68 : decode cX4_changeSteps 68 = .ok (.getfield 38, 3) := by decide +kernel
theorem dX4_changeSteps_71 : decode cX4_changeSteps 71 = .ok (.getfield 110, 3) := by decide +kernel
theorem dX4_changeSteps_74 : decode cX4_changeSteps 74 = .ok (.iload_n 1, 1) := by decide +kernel
theorem dX4_changeSteps_75 : decode cX4_changeSteps 75 = .ok (.iconst 0, 1) := by decide +kernel
theorem dX4_changeSteps_76 : decode cX4_changeSteps 76 = .ok (.iastore, 1) := by decide +kernel
theorem dX4_changeSteps_77 : decode cX4_changeSteps 77 = .ok (.iload 4, 2) := by decide +kernel
theorem dX4_changeSteps_79 : decode cX4_changeSteps 79 = .ok (.ireturn, 1) := by decide +kernel
set_option maxRecDepth 20000 in
theorem ggX4_changeSetting_X4_changeWantedVolts : GoodIn wsX4_changeSetting wsX4_changeWantedVolts := goodIn_r _ [5, 6, 7, 8, 9, 15, 16, 17, 18, 19, 20] (by decide +kernel) (by decide +kernel)
set_option maxRecDepth 20000 in
theorem gX4_changeSetting_X4_changeWantedVolts : GoodIn wsX4_changeSetting (wsV RX4 113 RX4 yX4_changeWantedVolts wsX4_changeWantedVolts) := goodIn_app (goodIn_of _ (by decide +kernel)) ggX4_changeSetting_X4_changeWantedVolts
set_option maxRecDepth 20000 in
theorem ggX4_changeSetting_X4_changeDoublingVolts : GoodIn wsX4_changeSetting wsX4_changeDoublingVolts := goodIn_r _ [13, 14, 7, 8, 9, 15, 16, 17, 18, 19, 20] (by decide +kernel) (by decide +kernel)
set_option maxRecDepth 20000 in
theorem gX4_changeSetting_X4_changeDoublingVolts : GoodIn wsX4_changeSetting (wsV RX4 117 RX4 yX4_changeDoublingVolts wsX4_changeDoublingVolts) := goodIn_app (goodIn_of _ (by decide +kernel)) ggX4_changeSetting_X4_changeDoublingVolts
theorem dX4_changeSetting_0 : decode cX4_changeSetting 0 = .ok (.iload_n 1, 1) := by decide +kernel
theorem dX4_changeSetting_1 : decode cX4_changeSetting 1 = .ok (.lookupswitch 39 #[(0, 27), (1, 33)], 27) := by decide +kernel
theorem dX4_changeSetting_28 : decode cX4_changeSetting 28 = .ok (.aload_n 0, 1) := by decide +kernel
theorem dX4_changeSetting_29 : decode cX4_changeSetting 29 = .ok (.iload_n 2, 1) := by decide +kernel
theorem dX4_changeSetting_30 : decode cX4_changeSetting 30 = .ok (.invokevirtual 113, 3) := by decide +kernel
theorem dX4_changeSetting_33 : decode cX4_changeSetting 33 = .ok (.ireturn, 1) := by decide +kernel
theorem dX4_changeSetting_34 : decode cX4_changeSetting 34 = .ok (.aload_n 0, 1) := by decide +kernel
theorem dX4_changeSetting_35 : decode cX4_changeSetting 35 = .ok (.iload_n 2, 1) := by decide +kernel
theorem dX4_changeSetting_36 : decode cX4_changeSetting 36 = .ok (.invokevirtual 117, 3) := by decide +kernel
theorem dX4_changeSetting_39 : decode cX4_changeSetting 39 = .ok (.ireturn, 1) := by decide +kernel
theorem dX4_changeSetting_40 : decode cX4_changeSetting 40 = .ok (.sipush (-1001), 3) := by decide +kernel
theorem dX4_changeSetting_43 : decode cX4_changeSetting 43 = .ok (.ireturn, 1) := by decide +kernel
set_option maxRecDepth 20000 in
theorem ggX4_changeWantedVolts_X6_isWithin : GoodIn wsX4_changeWantedVolts wsX6_isWithin := goodIn_r _ [4] (by decide +kernel) (by decide +kernel)
set_option maxRecDepth 20000 in
theorem gX4_changeWantedVolts_X6_isWithin_n56 : GoodIn wsX4_changeWantedVolts (wsX6_isWithin) := ggX4_changeWantedVolts_X6_isWithin
theorem dX4_changeWantedVolts_0 : decode cX4_changeWantedVolts 0 = .ok (.iload_n 1, 1) := by decide +kernel
theorem dX4_changeWantedVolts_1 : decode cX4_changeWantedVolts 1 = .ok (.bipush 100, 2) := by decide +kernel
theorem dX4_changeWantedVolts_3 : decode cX4_changeWantedVolts 3 = .ok (.sipush 300, 3) := by decide +kernel
theorem dX4_changeWantedVolts_6 : decode cX4_changeWantedVolts 6 = .ok (.invokestatic 56, 3) := by decide +kernel
theorem dX4_changeWantedVolts_9 : decode cX4_changeWantedVolts 9 = .ok (.ifCond .ne 7, 3) := by decide +kernel
theorem dX4_changeWantedVolts_12 : decode cX4_changeWantedVolts 12 = .ok (.sipush (-1002), 3) := by decide +kernel
theorem dX4_changeWantedVolts_15 : decode cX4_changeWantedVolts 15 = .ok (.ireturn, 1) := by decide +kernel
theorem dX4_changeWantedVolts_16 : decode cX4_changeWantedVolts 16 = .ok (.aload_n 0, 1) := by decide +kernel
theorem dX4_changeWantedVolts_17 : decode cX4_changeWantedVolts 17 = .ok (.getfield 15, 3) := by decide +kernel
theorem dX4_changeWantedVolts_20 : decode cX4_changeWantedVolts 20 = .ok (.istore_n 2, 1) := by decide +kernel
theorem dX4_changeWantedVolts_21 : decode cX4_changeWantedVolts 21 = .ok (.aload_n 0, 1) := by decide +kernel
theorem dX4_changeWantedVolts_22 : decode cX4_changeWantedVolts 22 = .ok (.iload_n 1, 1) := by decide +kernel
theorem dX4_changeWantedVolts_23 : decode cX4_changeWantedVolts 23 = .ok (.putfield 15, 3) := by decide +kernel
theorem dX4_changeWantedVolts_26 : decode cX4_changeWantedVolts 26 = .ok (.iload_n 2, 1) := by decide +kernel
theorem dX4_changeWantedVolts_27 : decode cX4_changeWantedVolts 27 = .ok (.iload_n 1, 1) := by decide +kernel
theorem dX4_changeWantedVolts_28 : decode cX4_changeWantedVolts 28 = .ok (.if_icmp .ne 9, 3) := by decide +kernel
theorem dX4_changeWantedVolts_31 : decode cX4_changeWantedVolts 31 = .ok (.sipush (-1005), 3) := by decide +kernel
theorem dX4_changeWantedVolts_34 : decode cX4_changeWantedVolts 34 = .ok (.goto 4, 3) := by decide +kernel
theorem dX4_changeWantedVolts_37 : decode cX4_changeWantedVolts 37 = .ok (.iload_n 2, 1) := by decide +kernel
theorem dX4_changeWantedVolts_38 : decode cX4_changeWantedVolts 38 = .ok (.ireturn, 1) := by decide +kernel
set_option maxRecDepth 20000 in
theorem ggX4_changeDoublingVolts_X6_isWithin : GoodIn wsX4_changeDoublingVolts wsX6_isWithin := goodIn_r _ [4] (by decide +kernel) (by decide +kernel)
set_option maxRecDepth 20000 in
theorem gX4_changeDoublingVolts_X6_isWithin_n56 : GoodIn wsX4_changeDoublingVolts (wsX6_isWithin) := ggX4_changeDoublingVolts_X6_isWithin
theorem dX4_changeDoublingVolts_0 : decode cX4_changeDoublingVolts 0 = .ok (.iload_n 1, 1) := by decide +kernel
theorem dX4_changeDoublingVolts_1 : decode cX4_changeDoublingVolts 1 = .ok (.iconst 1, 1) := by decide +kernel
theorem dX4_changeDoublingVolts_2 : decode cX4_changeDoublingVolts 2 = .ok (.bipush 100, 2) := by decide +kernel
theorem dX4_changeDoublingVolts_4 : decode cX4_changeDoublingVolts 4 = .ok (.invokestatic 56, 3) := by decide +kernel
theorem dX4_changeDoublingVolts_7 : decode cX4_changeDoublingVolts 7 = .ok (.ifCond .ne 7, 3) := by decide +kernel
theorem dX4_changeDoublingVolts_10 : decode cX4_changeDoublingVolts 10 = .ok (.sipush (-1002), 3) := by decide +kernel
theorem dX4_changeDoublingVolts_13 : decode cX4_changeDoublingVolts 13 = .ok (.ireturn, 1) := by decide +kernel
theorem dX4_changeDoublingVolts_14 : decode cX4_changeDoublingVolts 14 = .ok (.aload_n 0, 1) := by decide +kernel
theorem dX4_changeDoublingVolts_15 : decode cX4_changeDoublingVolts 15 = .ok (.getfield 18, 3) := by decide +kernel
theorem dX4_changeDoublingVolts_18 : decode cX4_changeDoublingVolts 18 = .ok (.istore_n 2, 1) := by decide +kernel
theorem dX4_changeDoublingVolts_19 : decode cX4_changeDoublingVolts 19 = .ok (.aload_n 0, 1) := by decide +kernel
theorem dX4_changeDoublingVolts_20 : decode cX4_changeDoublingVolts 20 = .ok (.iload_n 1, 1) := by decide +kernel
theorem dX4_changeDoublingVolts_21 : decode cX4_changeDoublingVolts 21 = .ok (.putfield 18, 3) := by decide +kernel
theorem dX4_changeDoublingVolts_24 : decode cX4_changeDoublingVolts 24 = .ok (.iload_n 2, 1) := by decide +kernel
theorem dX4_changeDoublingVolts_25 : decode cX4_changeDoublingVolts 25 = .ok (.iload_n 1, 1) := by decide +kernel
theorem dX4_changeDoublingVolts_26 : decode cX4_changeDoublingVolts 26 = .ok (.if_icmp .ne 9, 3) := by decide +kernel
theorem dX4_changeDoublingVolts_29 : decode cX4_changeDoublingVolts 29 = .ok (.sipush (-1005), 3) := by decide +kernel
theorem dX4_changeDoublingVolts_32 : decode cX4_changeDoublingVolts 32 = .ok (.goto 4, 3) := by decide +kernel
theorem dX4_changeDoublingVolts_35 : decode cX4_changeDoublingVolts 35 = .ok (.iload_n 2, 1) := by decide +kernel
theorem dX4_changeDoublingVolts_36 : decode cX4_changeDoublingVolts 36 = .ok (.ireturn, 1) := by decide +kernel
set_option maxRecDepth 20000 in
theorem ggX4_letPass_X6_isWithin : GoodIn wsX4_letPass wsX6_isWithin := goodIn_r _ [5] (by decide +kernel) (by decide +kernel)
set_option maxRecDepth 20000 in
theorem gX4_letPass_X6_isWithin_n56 : GoodIn wsX4_letPass (wsX6_isWithin) := ggX4_letPass_X6_isWithin
set_option maxRecDepth 20000 in
theorem ggX4_letPass_X4_passHours : GoodIn wsX4_letPass wsX4_passHours := goodIn_r _ [10, 1, 11, 12, 13, 9, 14, 15, 16, 17, 18, 19, 20, 21, 22, 23, 24, 25, 26, 27, 28, 29, 30, 31, 32, 33, 34, 35, 36, 37, 38, 39, 40, 41, 42, 43, 44, 45, 46, 47, 48, 49, 50, 51, 52, 53, 54, 4, 55, 56, 57, 58, 59, 60, 61, 62, 63, 64, 3, 5, 65, 66, 67, 68, 69, 70, 71, 72, 73, 74, 75, 76, 77, 78, 79, 80, 81, 82, 83, 84, 85, 86, 87, 88, 89, 90, 91, 92, 93, 94, 95, 96, 97, 98, 99, 100, 101, 102, 103, 104] (by decide +kernel) (by decide +kernel)
set_option maxRecDepth 20000 in
theorem gX4_letPass_X4_passHours : GoodIn wsX4_letPass (wsV RX4 121 RX4 yX4_passHours wsX4_passHours) := goodIn_app (goodIn_of _ (by decide +kernel)) ggX4_letPass_X4_passHours
theorem dX4_letPass_0 : decode cX4_letPass 0 = .ok (.iload_n 1, 1) := by decide +kernel
theorem dX4_letPass_1 : decode cX4_letPass 1 = .ok (.iconst 1, 1) := by decide +kernel
theorem dX4_letPass_2 : decode cX4_letPass 2 = .ok (.sipush 999, 3) := by decide +kernel
theorem dX4_letPass_5 : decode cX4_letPass 5 = .ok (.invokestatic 56, 3) := by decide +kernel
theorem dX4_letPass_8 : decode cX4_letPass 8 = .ok (.ifCond .ne 7, 3) := by decide +kernel
theorem dX4_letPass_11 : decode cX4_letPass 11 = .ok (.sipush (-1002), 3) := by decide +kernel
theorem dX4_letPass_14 : decode cX4_letPass 14 = .ok (.ireturn, 1) := by decide +kernel
theorem dX4_letPass_15 : decode cX4_letPass 15 = .ok (.aload_n 0, 1) := by decide +kernel
theorem dX4_letPass_16 : decode cX4_letPass 16 = .ok (.getfield 9, 3) := by decide +kernel
theorem dX4_letPass_19 : decode cX4_letPass 19 = .ok (.iload_n 1, 1) := by decide +kernel
theorem dX4_letPass_20 : decode cX4_letPass 20 = .ok (.iadd, 1) := by decide +kernel
theorem dX4_letPass_21 : decode cX4_letPass 21 = .ok (.ldc 120, 2) := by decide +kernel
theorem dX4_letPass_23 : decode cX4_letPass 23 = .ok (.if_icmp .le 7, 3) := by decide +kernel
theorem dX4_letPass_26 : decode cX4_letPass 26 = .ok (.sipush (-1003), 3) := by decide +kernel
theorem dX4_letPass_29 : decode cX4_letPass 29 = .ok (.ireturn, 1) := by decide +kernel
theorem dX4_letPass_30 : decode cX4_letPass 30 = .ok (.aload_n 0, 1) := by decide +kernel
theorem dX4_letPass_31 : decode cX4_letPass 31 = .ok (.iload_n 1, 1) := by decide +kernel
theorem dX4_letPass_32 : decode cX4_letPass 32 = .ok (.invokevirtual 121, 3) := by decide +kernel
theorem dX4_letPass_35 : decode cX4_letPass 35 = .ok (.ireturn, 1) := by decide +kernel
set_option maxRecDepth 20000 in
theorem ggX4_passHours_X4_passHoursOfRack : GoodIn wsX4_passHours wsX4_passHoursOfRack := goodIn_r _ [6, 7, 8, 9, 10, 11, 1, 12, 13, 14, 15, 16, 17, 18, 19, 20, 21, 22, 23, 24, 25, 26, 27, 28, 29, 30, 31, 32, 33, 34, 35, 5, 36, 37, 38, 39, 40, 41, 42, 43, 44, 45, 46, 47, 48, 49, 50, 51, 52, 53, 54, 55, 56, 57, 58, 59, 60, 61, 62, 63, 64, 65, 66, 67, 68, 69, 70, 71, 72, 73, 74, 75, 76, 77, 78, 79, 80, 81, 82, 83, 84, 85, 86, 87, 88, 89, 90, 91, 92, 93, 94, 95, 96, 97, 98, 99] (by decide +kernel) (by decide +kernel)
set_option maxRecDepth 20000 in
theorem gX4_passHours_X4_passHoursOfRack : GoodIn wsX4_passHours (wsV RX4 124 RX4 yX4_passHoursOfRack wsX4_passHoursOfRack) := goodIn_app (goodIn_of _ (by decide +kernel)) ggX4_passHours_X4_passHoursOfRack
theorem dX4_passHours_0 : decode cX4_passHours 0 = .ok (.iconst 0, 1) := by decide +kernel
theorem dX4_passHours_1 : decode cX4_passHours 1 = .ok (.istore_n 2, 1) := by decide +kernel
theorem dX4_passHours_2 : decode cX4_passHours 2 = .ok (.iconst 0, 1) := by decide +kernel
theorem dX4_passHours_3 : decode cX4_passHours 3 = .ok (.istore_n 3, 1) := by decide +kernel
theorem dX4_passHours_4 : decode cX4_passHours 4 = .ok (.iload_n 3, 1) := by decide +kernel
theorem dX4_passHours_5 : decode cX4_passHours 5 = .ok (.iconst 3, 1) := by decide +kernel
theorem dX4_passHours_6 : decode cX4_passHours 6 = .ok (.if_icmp .ge 18, 3) := by decide +kernel
theorem dX4_passHours_9 : decode cX4_passHours 9 = .ok (.iload_n 2, 1) := by decide +kernel
theorem dX4_passHours_10 : decode cX4_passHours 10 = .ok (.aload_n 0, 1) := by decide +kernel
theorem dX4_passHours_11 : decode cX4_passHours 11 = .ok (.iload_n 3, 1) := by decide +kernel
theorem dX4_passHours_12 : decode cX4_passHours 12 = .ok (.iload_n 1, 1) := by decide +kernel
theorem dX4_passHours_13 : decode cX4_passHours 13 = .ok (.invokevirtual 124, 3) := by decide +kernel
theorem dX4_passHours_16 : decode cX4_passHours 16 = .ok (.iadd, 1) := by decide +kernel
theorem dX4_passHours_17 : decode cX4_passHours 17 = .ok (.istore_n 2, 1) := by decide +kernel
theorem dX4_passHours_18 : decode cX4_passHours 18 = .ok (.iinc 3 1, 3) := by decide +kernel
theorem dX4_passHours_21 : decode cX4_passHours 21 = .ok (.goto (-17), 3) := by decide +kernel
theorem dX4_passHours_24 : decode cX4_passHours 24 = .ok (.aload_n 0, 1) := by decide +kernel
theorem dX4_passHours_25 : decode cX4_passHours 25 = .ok (.dup, 1) := by decide +kernel
theorem dX4_passHours_26 : decode cX4_passHours 26 = .ok (.getfield 9, 3) := by decide +kernel
theorem dX4_passHours_29 : decode cX4_passHours 29 = .ok (.iload_n 1, 1) := by decide +kernel
theorem dX4_passHours_30 : decode cX4_passHours 30 = .ok (.iadd, 1) := by decide +kernel
theorem dX4_passHours_31 : decode cX4_passHours 31 = .ok (.putfield 9, 3) := by decide +kernel
theorem dX4_passHours_34 : decode cX4_passHours 34 = .ok (.iload_n 2, 1) := by decide +kernel
theorem dX4_passHours_35 : decode cX4_passHours 35 = .ok (.ireturn, 1) := by decide +kernel
set_option maxRecDepth 20000 in
theorem ggX4_passHoursOfRack_X3_hoursAtSameVolts : GoodIn wsX4_passHoursOfRack wsX3_hoursAtSameVolts := goodIn_r _ [11, 12, 13, 14, 15, 4, 16, 17, 18, 19, 10, 20, 21, 22, 3, 5, 23, 24, 25, 26, 27, 84, 85, 86, 87, 88] (by decide +kernel) (by decide +kernel)
set_option maxRecDepth 20000 in
theorem gX4_passHoursOfRack_X3_hoursAtSameVolts : GoodIn wsX4_passHoursOfRack (wsV RX4 127 RX3 yX3_hoursAtSameVolts wsX3_hoursAtSameVolts) := goodIn_app (goodIn_of _ (by decide +kernel)) ggX4_passHoursOfRack_X3_hoursAtSameVolts
set_option maxRecDepth 20000 in
theorem ggX4_passHoursOfRack_X4_burnRack : GoodIn wsX4_passHoursOfRack wsX4_burnRack := goodIn_r _ [32, 1, 33, 34, 35, 36, 15, 4, 16, 37, 38, 39, 40, 10, 41, 13, 42, 43, 44, 45, 46, 47, 48, 49, 50, 51, 52, 53, 54, 55, 56, 57, 58, 31, 59, 60, 61, 2, 3, 5, 62, 63, 64, 65, 66, 67, 68, 69, 70, 71, 72, 73, 78, 79, 80, 81, 82, 83, 84, 85, 86, 87, 88, 89, 90, 91, 92, 93, 94, 95] (by decide +kernel) (by decide +kernel)
set_option maxRecDepth 20000 in
theorem gX4_passHoursOfRack_X4_burnRack : GoodIn wsX4_passHoursOfRack (wsV RX4 135 RX4 yX4_burnRack wsX4_burnRack) := goodIn_app (goodIn_of _ (by decide +kernel)) ggX4_passHoursOfRack_X4_burnRack
set_option maxRecDepth 20000 in
theorem ggX4_passHoursOfRack_X3_countHours : GoodIn wsX4_passHoursOfRack wsX3_countHours := goodIn_r _ [77, 12, 27, 13, 17, 18, 19, 10, 20, 21, 14, 15, 4, 16, 22, 3, 5, 84, 85, 86, 87, 88] (by decide +kernel) (by decide +kernel)
set_option maxRecDepth 20000 in
theorem gX4_passHoursOfRack_X3_countHours : GoodIn wsX4_passHoursOfRack (wsV RX4 138 RX3 yX3_countHours wsX3_countHours) := goodIn_app (goodIn_of _ (by decide +kernel)) ggX4_passHoursOfRack_X3_countHours
theorem dX4_passHoursOfRack_0 : decode cX4_passHoursOfRack 0 = .ok (.iconst 0, 1) := by decide +kernel
theorem dX4_passHoursOfRack_1 : decode cX4_passHoursOfRack 1 = .ok (.istore_n 3, 1) := by decide +kernel
theorem dX4_passHoursOfRack_2 : decode cX4_passHoursOfRack 2 = .ok (.iconst 1, 1) := by decide +kernel
theorem dX4_passHoursOfRack_3 : decode cX4_passHoursOfRack 3 = .ok (.istore 4, 2) := by decide +kernel
theorem dX4_passHoursOfRack_5 : decode cX4_passHoursOfRack 5 = .ok (.iconst 0, 1) := by decide +kernel
theorem dX4_passHoursOfRack_6 : decode cX4_passHoursOfRack 6 = .ok (.istore 5, 2) := by decide +kernel
theorem dX4_passHoursOfRack_8 : decode cX4_passHoursOfRack 8 = .ok (.iload 5, 2) := by decide +kernel
theorem dX4_passHoursOfRack_10 : decode cX4_passHoursOfRack 10 = .ok (.iload_n 2, 1) := by decide +kernel
theorem dX4_passHoursOfRack_11 : decode cX4_passHoursOfRack 11 = .ok (.if_icmp .ge 58, 3) := by decide +kernel
theorem dX4_passHoursOfRack_14 : decode cX4_passHoursOfRack 14 = .ok (.iconst 1, 1) := by decide +kernel
theorem dX4_passHoursOfRack_15 : decode cX4_passHoursOfRack 15 = .ok (.aload_n 0, 1) := by decide +kernel
theorem dX4_passHoursOfRack_16 : decode cX4_passHoursOfRack 16 = .ok (.getfield 38, 3) := by decide +kernel
theorem dX4_passHoursOfRack_19 : decode cX4_passHoursOfRack 19 = .ok (.iload_n 1, 1) := by decide +kernel
theorem dX4_passHoursOfRack_20 : decode cX4_passHoursOfRack 20 = .ok (.iload_n 2, 1) := by decide +kernel
theorem dX4_passHoursOfRack_21 : decode cX4_passHoursOfRack 21 = .ok (.iload 5, 2) := by decide +kernel
theorem dX4_passHoursOfRack_23 : decode cX4_passHoursOfRack 23 = .ok (.isub, 1) := by decide +kernel
theorem dX4_passHoursOfRack_24 : decode cX4_passHoursOfRack 24 = .ok (.invokevirtual 127, 3) := by decide +kernel
theorem dX4_passHoursOfRack_27 : decode cX4_passHoursOfRack 27 = .ok (.invokestatic 130, 3) := by decide +kernel
theorem dX4_passHoursOfRack_30 : decode cX4_passHoursOfRack 30 = .ok (.istore 4, 2) := by decide +kernel
theorem dX4_passHoursOfRack_32 : decode cX4_passHoursOfRack 32 = .ok (.iload_n 3, 1) := by decide +kernel
theorem dX4_passHoursOfRack_33 : decode cX4_passHoursOfRack 33 = .ok (.aload_n 0, 1) := by decide +kernel
theorem dX4_passHoursOfRack_34 : decode cX4_passHoursOfRack 34 = .ok (.iload_n 1, 1) := by decide +kernel
theorem dX4_passHoursOfRack_35 : decode cX4_passHoursOfRack 35 = .ok (.iload 4, 2) := by decide +kernel
theorem dX4_passHoursOfRack_37 : decode cX4_passHoursOfRack 37 = .ok (.aload_n 0, 1) := by decide +kernel
theorem dX4_passHoursOfRack_38 : decode cX4_passHoursOfRack 38 = .ok (.getfield 9, 3) := by decide +kernel
theorem dX4_passHoursOfRack_41 : decode cX4_passHoursOfRack 41 = .ok (.iload 5, 2) := by decide +kernel
theorem dX4_passHoursOfRack_43 : decode cX4_passHoursOfRack 43 = .ok (.iadd, 1) := by decide +kernel
theorem dX4_passHoursOfRack_44 : decode cX4_passHoursOfRack 44 = .ok (.invokevirtual 135, 3) := by decide +kernel
theorem dX4_passHoursOfRack_47 : decode cX4_passHoursOfRack 47 = .ok (.iadd, 1) := by decide +kernel
theorem dX4_passHoursOfRack_48 : decode cX4_passHoursOfRack 48 = .ok (.istore_n 3, 1) := by decide +kernel
theorem dX4_passHoursOfRack_49 : decode cX4_passHoursOfRack 49 = .ok (.aload_n 0, 1) := by decide +kernel
theorem dX4_passHoursOfRack_50 : decode cX4_passHoursOfRack 50 = .ok (.getfield 38, 3) := by decide +kernel
theorem dX4_passHoursOfRack_53 : decode cX4_passHoursOfRack 53 = .ok (.iload_n 1, 1) := by decide +kernel
theorem dX4_passHoursOfRack_54 : decode cX4_passHoursOfRack 54 = .ok (.iload 4, 2) := by decide +kernel
theorem dX4_passHoursOfRack_56 : decode cX4_passHoursOfRack 56 = .ok (.invokevirtual 138, 3) := by decide +kernel
theorem dX4_passHoursOfRack_59 : decode cX4_passHoursOfRack 59 = .ok (.iload 5, 2) := by decide +kernel
theorem dX4_passHoursOfRack_61 : decode cX4_passHoursOfRack 61 = .ok (.iload 4, 2) := by decide +kernel
theorem dX4_passHoursOfRack_63 : decode cX4_passHoursOfRack 63 = .ok (.iadd, 1) := by decide +kernel
theorem dX4_passHoursOfRack_64 : decode cX4_passHoursOfRack 64 = .ok (.istore 5, 2) := by decide +kernel
theorem dX4_passHoursOfRack_66 : decode cX4_passHoursOfRack 66 = .ok (.goto (-58), 3) := by decide +kernel
theorem dX4_passHoursOfRack_69 : decode cX4_passHoursOfRack 69 = .ok (.iload_n 3, 1) := by decide +kernel
theorem dX4_passHoursOfRack_70 : decode cX4_passHoursOfRack 70 = .ok (.ireturn, 1) := by decide +kernel
set_option maxRecDepth 20000 in
theorem ggX4_burnRack_X3_isDark : GoodIn wsX4_burnRack wsX3_isDark := goodIn_r _ [14, 15, 58, 59, 60, 61, 62] (by decide +kernel) (by decide +kernel)
set_option maxRecDepth 20000 in
theorem gX4_burnRack_X3_isDark : GoodIn wsX4_burnRack (wsV RX4 142 RX3 yX3_isDark wsX3_isDark) := goodIn_app (goodIn_of _ (by decide +kernel)) ggX4_burnRack_X3_isDark
set_option maxRecDepth 20000 in
theorem ggX4_burnRack_X6_spotOf : GoodIn wsX4_burnRack wsX6_spotOf := goodIn_r _ [18] (by decide +kernel) (by decide +kernel)
set_option maxRecDepth 20000 in
theorem gX4_burnRack_X6_spotOf_n71 : GoodIn wsX4_burnRack (wsX6_spotOf) := ggX4_burnRack_X6_spotOf
set_option maxRecDepth 20000 in
theorem ggX4_burnRack_X2_isDead : GoodIn wsX4_burnRack wsX2_isDead := goodIn_r _ [23, 24, 63, 64, 65, 66, 67, 68, 69] (by decide +kernel) (by decide +kernel)
set_option maxRecDepth 20000 in
theorem gX4_burnRack_X2_isDead : GoodIn wsX4_burnRack (wsV RX4 145 RX2 yX2_isDead wsX2_isDead) := goodIn_app (goodIn_of _ (by decide +kernel)) ggX4_burnRack_X2_isDead
set_option maxRecDepth 20000 in
theorem ggX4_burnRack_X6_isHot : GoodIn wsX4_burnRack wsX6_isHot := goodIn_r _ [26, 27, 28, 17, 29] (by decide +kernel) (by decide +kernel)
set_option maxRecDepth 20000 in
theorem gX4_burnRack_X6_isHot_n148 : GoodIn wsX4_burnRack (wsX6_isHot) := ggX4_burnRack_X6_isHot
set_option maxRecDepth 20000 in
theorem ggX4_burnRack_X4_wearOfHour : GoodIn wsX4_burnRack wsX4_wearOfHour := goodIn_r _ [34, 35, 36, 37, 38, 7, 39, 52, 53, 54, 55, 56, 57] (by decide +kernel) (by decide +kernel)
set_option maxRecDepth 20000 in
theorem gX4_burnRack_X4_wearOfHour : GoodIn wsX4_burnRack (wsV RX4 151 RX4 yX4_wearOfHour wsX4_wearOfHour) := goodIn_app (goodIn_of _ (by decide +kernel)) ggX4_burnRack_X4_wearOfHour
set_option maxRecDepth 20000 in
theorem ggX4_burnRack_X2_hoursLeft : GoodIn wsX4_burnRack wsX2_hoursLeft := goodIn_r _ [43, 44, 38, 7, 39, 45, 46, 63, 64, 65, 66, 67, 68, 69] (by decide +kernel) (by decide +kernel)
set_option maxRecDepth 20000 in
theorem gX4_burnRack_X2_hoursLeft : GoodIn wsX4_burnRack (wsV RX4 155 RX2 yX2_hoursLeft wsX2_hoursLeft) := goodIn_app (goodIn_of _ (by decide +kernel)) ggX4_burnRack_X2_hoursLeft
set_option maxRecDepth 20000 in
theorem ggX4_burnRack_X2_burn : GoodIn wsX4_burnRack wsX2_burn := goodIn_r _ [50, 51, 46, 63, 64, 65, 66, 67, 68, 69] (by decide +kernel) (by decide +kernel)
set_option maxRecDepth 20000 in
theorem gX4_burnRack_X2_burn : GoodIn wsX4_burnRack (wsV RX4 161 RX2 yX2_burn wsX2_burn) := goodIn_app (goodIn_of _ (by decide +kernel)) ggX4_burnRack_X2_burn
theorem dX4_burnRack_0 : decode cX4_burnRack 0 = .ok (.aload_n 0, 1) := by decide +kernel
theorem dX4_burnRack_1 : decode cX4_burnRack 1 = .ok (.getfield 38, 3) := by decide +kernel
theorem dX4_burnRack_4 : decode cX4_burnRack 4 = .ok (.iload_n 1, 1) := by decide +kernel
theorem dX4_burnRack_5 : decode cX4_burnRack 5 = .ok (.invokevirtual 142, 3) := by decide +kernel
theorem dX4_burnRack_8 : decode cX4_burnRack 8 = .ok (.ifCond .eq 5, 3) := by decide +kernel
theorem dX4_burnRack_11 : decode cX4_burnRack 11 = .ok (.iconst 0, 1) := by decide +kernel
theorem dX4_burnRack_12 : decode cX4_burnRack 12 = .ok (.ireturn, 1) := by decide +kernel
theorem dX4_burnRack_13 : decode cX4_burnRack 13 = .ok (.iconst 0, 1) := by decide +kernel
theorem dX4_burnRack_14 : decode cX4_burnRack 14 = .ok (.istore 4, 2) := by decide +kernel
theorem dX4_burnRack_16 : decode cX4_burnRack 16 = .ok (.iconst 0, 1) := by decide +kernel
theorem dX4_burnRack_17 : decode cX4_burnRack 17 = .ok (.istore 5, 2) := by decide +kernel
theorem dX4_burnRack_19 : decode cX4_burnRack 19 = .ok (.iload 5, 2) := by decide +kernel
theorem dX4_burnRack_21 : decode cX4_burnRack 21 = .ok (.bipush 8, 2) := by decide +kernel
theorem dX4_burnRack_23 : decode cX4_burnRack 23 = .ok (.if_icmp .ge 120, 3) := by decide +kernel
theorem dX4_burnRack_26 : decode cX4_burnRack 26 = .ok (.iload_n 1, 1) := by decide +kernel
theorem dX4_burnRack_27 : decode cX4_burnRack 27 = .ok (.iload 5, 2) := by decide +kernel
theorem dX4_burnRack_29 : decode cX4_burnRack 29 = .ok (.invokestatic 71, 3) := by decide +kernel
theorem dX4_burnRack_32 : decode cX4_burnRack 32 = .ok (.istore 6, 2) := by decide +kernel
theorem dX4_burnRack_34 : decode cX4_burnRack 34 = .ok (.aload_n 0, 1) := by decide +kernel
theorem dX4_burnRack_35 : decode cX4_burnRack 35 = .ok (.getfield 38, 3) := by decide +kernel
theorem dX4_burnRack_38 : decode cX4_burnRack 38 = .ok (.getfield 75, 3) := by decide +kernel
theorem dX4_burnRack_41 : decode cX4_burnRack 41 = .ok (.iload 6, 2) := by decide +kernel
theorem dX4_burnRack_43 : decode cX4_burnRack 43 = .ok (.iaload, 1) := by decide +kernel
theorem dX4_burnRack_44 : decode cX4_burnRack 44 = .ok (.istore 7, 2) := by decide +kernel
theorem dX4_burnRack_46 : decode cX4_burnRack 46 = .ok (.iload 7, 2) := by decide +kernel
theorem dX4_burnRack_48 : decode cX4_burnRack 48 = .ok (.iconst (-1), 1) := by decide +kernel
theorem dX4_burnRack_49 : decode cX4_burnRack 49 = .ok (.if_icmp .eq 88, 3) := by decide +kernel
theorem dX4_burnRack_52 : decode cX4_burnRack 52 = .ok (.aload_n 0, 1) := by decide +kernel
theorem dX4_burnRack_53 : decode cX4_burnRack 53 = .ok (.getfield 31, 3) := by decide +kernel
theorem dX4_burnRack_56 : decode cX4_burnRack 56 = .ok (.iload 7, 2) := by decide +kernel
theorem dX4_burnRack_58 : decode cX4_burnRack 58 = .ok (.invokevirtual 145, 3) := by decide +kernel
theorem dX4_burnRack_61 : decode cX4_burnRack 61 = .ok (.ifCond .ne 76, 3) := by decide +kernel
theorem dX4_burnRack_64 : decode cX4_burnRack 64 = .ok (.aload_n 0, 1) := by decide +kernel
theorem dX4_burnRack_65 : decode cX4_burnRack 65 = .ok (.aload_n 0, 1) := by decide +kernel
theorem dX4_burnRack_66 : decode cX4_burnRack 66 = .ok (.getfield 38, 3) := by decide +kernel
theorem dX4_burnRack_69 : decode cX4_burnRack 69 = .ok (.getfield 101, 3) := by decide +kernel
theorem dX4_burnRack_72 : decode cX4_burnRack 72 = .ok (.iload_n 1, 1) := by decide +kernel
theorem dX4_burnRack_73 : decode cX4_burnRack 73 = .ok (.iaload, 1) := by decide +kernel
theorem dX4_burnRack_74 : decode cX4_burnRack 74 = .ok (.iload 6, 2) := by decide +kernel
theorem dX4_burnRack_76 : decode cX4_burnRack 76 = .ok (.invokestatic 148, 3) := by decide +kernel
theorem dX4_burnRack_79 : decode cX4_burnRack 79 = .ok (.invokevirtual 151, 3) := by decide +kernel
theorem dX4_burnRack_82 : decode cX4_burnRack 82 = .ok (.istore 8, 2) := by decide +kernel
theorem dX4_burnRack_84 : decode cX4_burnRack 84 = .ok (.aload_n 0, 1) := by decide +kernel
theorem dX4_burnRack_85 : decode cX4_burnRack 85 = .ok (.getfield 31, 3) := by decide +kernel
theorem dX4_burnRack_88 : decode cX4_burnRack 88 = .ok (.iload 7, 2) := by decide +kernel
theorem dX4_burnRack_90 : decode cX4_burnRack 90 = .ok (.iload 8, 2) := by decide +kernel
theorem dX4_burnRack_92 : decode cX4_burnRack 92 = .ok (.invokevirtual 155, 3) := by decide +kernel
theorem dX4_burnRack_95 : decode cX4_burnRack 95 = .ok (.istore 9, 2) := by decide +kernel
theorem dX4_burnRack_97 : decode cX4_burnRack 97 = .ok (.aload_n 0, 1) := by decide +kernel
theorem dX4_burnRack_98 : decode cX4_burnRack 98 = .ok (.getfield 31, 3) := by decide +kernel
theorem dX4_burnRack_101 : decode cX4_burnRack 101 = .ok (.iload 7, 2) := by decide +kernel
theorem dX4_burnRack_103 : decode cX4_burnRack 103 = .ok (.iload 8, 2) := by decide +kernel
theorem dX4_burnRack_105 : decode cX4_burnRack 105 = .ok (.iload 9, 2) := by decide +kernel
theorem dX4_burnRack_107 : decode cX4_burnRack 107 = .ok (.iload_n 2, 1) := by decide +kernel
theorem dX4_burnRack_108 : decode cX4_burnRack 108 = .ok (.invokestatic 158, 3) := by decide +kernel
theorem dX4_burnRack_111 : decode cX4_burnRack 111 = .ok (.invokevirtual 161, 3) := by decide +kernel
theorem dX4_burnRack_114 : decode cX4_burnRack 114 = .ok (.iload 9, 2) := by decide +kernel
theorem dX4_burnRack_116 : decode cX4_burnRack 116 = .ok (.iload_n 2, 1) := by decide +kernel
theorem dX4_burnRack_117 : decode cX4_burnRack 117 = .ok (.if_icmp .gt 20, 3) := by decide +kernel
theorem dX4_burnRack_120 : decode cX4_burnRack 120 = .ok (.aload_n 0, 1) := by decide +kernel
theorem dX4_burnRack_121 : decode cX4_burnRack 121 = .ok (.getfield 31, 3) := by decide +kernel
theorem dX4_burnRack_124 : decode cX4_burnRack 124 = .ok (.getfield 165, 3) := by decide +kernel
theorem dX4_burnRack_127 : decode cX4_burnRack 127 = .ok (.iload 7, 2) := by decide +kernel
theorem dX4_burnRack_129 : decode cX4_burnRack 129 = .ok (.iload_n 3, 1) := by decide +kernel
theorem dX4_burnRack_130 : decode cX4_burnRack 130 = .ok (.iload 9, 2) := by decide +kernel
theorem dX4_burnRack_132 : decode cX4_burnRack 132 = .ok (.iadd, 1) := by decide +kernel
theorem dX4_burnRack_133 : decode cX4_burnRack 133 = .ok (.iastore, 1) := by decide +kernel
theorem dX4_burnRack_134 : decode cX4_burnRack 134 = .ok (.iinc 4 1, 3) := by decide +kernel
theorem dX4_burnRack_137 : decode cX4_burnRack 137 = .ok (.iinc 5 1, 3) := by decide +kernel
theorem dX4_burnRack_140 : decode cX4_burnRack 140 = .ok (.goto (-121), 3) := by decide +kernel
theorem dX4_burnRack_143 : decode cX4_burnRack 143 = .ok (.iload 4, 2) := by decide +kernel
theorem dX4_burnRack_145 : decode cX4_burnRack 145 = .ok (.ireturn, 1) := by decide +kernel
theorem dX4_wearOfHour_0 : decode cX4_wearOfHour 0 = .ok (.bipush 10, 2) := by decide +kernel
theorem dX4_wearOfHour_2 : decode cX4_wearOfHour 2 = .ok (.iload_n 1, 1) := by decide +kernel
theorem dX4_wearOfHour_3 : decode cX4_wearOfHour 3 = .ok (.aload_n 0, 1) := by decide +kernel
theorem dX4_wearOfHour_4 : decode cX4_wearOfHour 4 = .ok (.getfield 15, 3) := by decide +kernel
theorem dX4_wearOfHour_7 : decode cX4_wearOfHour 7 = .ok (.isub, 1) := by decide +kernel
theorem dX4_wearOfHour_8 : decode cX4_wearOfHour 8 = .ok (.imul, 1) := by decide +kernel
theorem dX4_wearOfHour_9 : decode cX4_wearOfHour 9 = .ok (.iconst 1, 1) := by decide +kernel
theorem dX4_wearOfHour_10 : decode cX4_wearOfHour 10 = .ok (.aload_n 0, 1) := by decide +kernel
theorem dX4_wearOfHour_11 : decode cX4_wearOfHour 11 = .ok (.getfield 18, 3) := by decide +kernel
theorem dX4_wearOfHour_14 : decode cX4_wearOfHour 14 = .ok (.invokestatic 130, 3) := by decide +kernel
theorem dX4_wearOfHour_17 : decode cX4_wearOfHour 17 = .ok (.idiv, 1) := by decide +kernel
theorem dX4_wearOfHour_18 : decode cX4_wearOfHour 18 = .ok (.istore_n 3, 1) := by decide +kernel
theorem dX4_wearOfHour_19 : decode cX4_wearOfHour 19 = .ok (.iconst 1, 1) := by decide +kernel
theorem dX4_wearOfHour_20 : decode cX4_wearOfHour 20 = .ok (.bipush 10, 2) := by decide +kernel
theorem dX4_wearOfHour_22 : decode cX4_wearOfHour 22 = .ok (.iload_n 3, 1) := by decide +kernel
theorem dX4_wearOfHour_23 : decode cX4_wearOfHour 23 = .ok (.iadd, 1) := by decide +kernel
theorem dX4_wearOfHour_24 : decode cX4_wearOfHour 24 = .ok (.invokestatic 130, 3) := by decide +kernel
theorem dX4_wearOfHour_27 : decode cX4_wearOfHour 27 = .ok (.istore 4, 2) := by decide +kernel
theorem dX4_wearOfHour_29 : decode cX4_wearOfHour 29 = .ok (.iload_n 2, 1) := by decide +kernel
theorem dX4_wearOfHour_30 : decode cX4_wearOfHour 30 = .ok (.ifCond .eq 14, 3) := by decide +kernel
theorem dX4_wearOfHour_33 : decode cX4_wearOfHour 33 = .ok (.iload 4, 2) := by decide +kernel
theorem dX4_wearOfHour_35 : decode cX4_wearOfHour 35 = .ok (.iload 4, 2) := by decide +kernel
theorem dX4_wearOfHour_37 : decode cX4_wearOfHour 37 = .ok (.bipush 10, 2) := by decide +kernel
theorem dX4_wearOfHour_39 : decode cX4_wearOfHour 39 = .ok (.idiv, 1) := by decide +kernel
theorem dX4_wearOfHour_40 : decode cX4_wearOfHour 40 = .ok (.iadd, 1) := by decide +kernel
theorem dX4_wearOfHour_41 : decode cX4_wearOfHour 41 = .ok (.goto 5, 3) := by decide +kernel
theorem dX4_wearOfHour_44 : decode cX4_wearOfHour 44 = .ok (.iload 4, 2) := by decide +kernel
theorem dX4_wearOfHour_46 : decode cX4_wearOfHour 46 = .ok (.ireturn, 1) := by decide +kernel
set_option maxRecDepth 20000 in
theorem ggX4_whyDark_X2_isDead : GoodIn wsX4_whyDark wsX2_isDead := goodIn_r _ [8, 9, 22, 23, 24, 25, 26, 27, 28] (by decide +kernel) (by decide +kernel)
set_option maxRecDepth 20000 in
theorem gX4_whyDark_X2_isDead : GoodIn wsX4_whyDark (wsV RX4 145 RX2 yX2_isDead wsX2_isDead) := goodIn_app (goodIn_of _ (by decide +kernel)) ggX4_whyDark_X2_isDead
set_option maxRecDepth 20000 in
theorem ggX4_whyDark_X3_isDark : GoodIn wsX4_whyDark wsX3_isDark := goodIn_r _ [14, 15, 29, 30, 31, 32, 33] (by decide +kernel) (by decide +kernel)
set_option maxRecDepth 20000 in
theorem gX4_whyDark_X3_isDark : GoodIn wsX4_whyDark (wsV RX4 142 RX3 yX3_isDark wsX3_isDark) := goodIn_app (goodIn_of _ (by decide +kernel)) ggX4_whyDark_X3_isDark
theorem dX4_whyDark_0 : decode cX4_whyDark 0 = .ok (.aload_n 0, 1) := by decide +kernel
theorem dX4_whyDark_1 : decode cX4_whyDark 1 = .ok (.getfield 31, 3) := by decide +kernel
theorem dX4_whyDark_4 : decode cX4_whyDark 4 = .ok (.iload_n 1, 1) := by decide +kernel
theorem dX4_whyDark_5 : decode cX4_whyDark 5 = .ok (.invokevirtual 145, 3) := by decide +kernel
theorem dX4_whyDark_8 : decode cX4_whyDark 8 = .ok (.ifCond .eq 5, 3) := by decide +kernel
theorem dX4_whyDark_11 : decode cX4_whyDark 11 = .ok (.iconst 1, 1) := by decide +kernel
theorem dX4_whyDark_12 : decode cX4_whyDark 12 = .ok (.ireturn, 1) := by decide +kernel
theorem dX4_whyDark_13 : decode cX4_whyDark 13 = .ok (.aload_n 0, 1) := by decide +kernel
theorem dX4_whyDark_14 : decode cX4_whyDark 14 = .ok (.getfield 31, 3) := by decide +kernel
theorem dX4_whyDark_17 : decode cX4_whyDark 17 = .ok (.getfield 92, 3) := by decide +kernel
theorem dX4_whyDark_20 : decode cX4_whyDark 20 = .ok (.iload_n 1, 1) := by decide +kernel
theorem dX4_whyDark_21 : decode cX4_whyDark 21 = .ok (.iaload, 1) := by decide +kernel
theorem dX4_whyDark_22 : decode cX4_whyDark 22 = .ok (.istore_n 2, 1) := by decide +kernel
theorem dX4_whyDark_23 : decode cX4_whyDark 23 = .ok (.iload_n 2, 1) := by decide +kernel
theorem dX4_whyDark_24 : decode cX4_whyDark 24 = .ok (.iconst (-1), 1) := by decide +kernel
theorem dX4_whyDark_25 : decode cX4_whyDark 25 = .ok (.if_icmp .ne 5, 3) := by decide +kernel
theorem dX4_whyDark_28 : decode cX4_whyDark 28 = .ok (.iconst 2, 1) := by decide +kernel
theorem dX4_whyDark_29 : decode cX4_whyDark 29 = .ok (.ireturn, 1) := by decide +kernel
theorem dX4_whyDark_30 : decode cX4_whyDark 30 = .ok (.aload_n 0, 1) := by decide +kernel
theorem dX4_whyDark_31 : decode cX4_whyDark 31 = .ok (.getfield 38, 3) := by decide +kernel
theorem dX4_whyDark_34 : decode cX4_whyDark 34 = .ok (.iload_n 2, 1) := by decide +kernel
theorem dX4_whyDark_35 : decode cX4_whyDark 35 = .ok (.bipush 8, 2) := by decide +kernel
theorem dX4_whyDark_37 : decode cX4_whyDark 37 = .ok (.idiv, 1) := by decide +kernel
theorem dX4_whyDark_38 : decode cX4_whyDark 38 = .ok (.invokevirtual 142, 3) := by decide +kernel
theorem dX4_whyDark_41 : decode cX4_whyDark 41 = .ok (.ifCond .eq 7, 3) := by decide +kernel
theorem dX4_whyDark_44 : decode cX4_whyDark 44 = .ok (.iconst 3, 1) := by decide +kernel
theorem dX4_whyDark_45 : decode cX4_whyDark 45 = .ok (.goto 4, 3) := by decide +kernel
theorem dX4_whyDark_48 : decode cX4_whyDark 48 = .ok (.iconst 0, 1) := by decide +kernel
theorem dX4_whyDark_49 : decode cX4_whyDark 49 = .ok (.ireturn, 1) := by decide +kernel
set_option maxRecDepth 20000 in
theorem ggX4_tellOfLamp_X2_has : GoodIn wsX4_tellOfLamp wsX2_has := goodIn_r _ [12, 13, 14, 15, 16, 40, 41, 42, 43, 44, 45, 46] (by decide +kernel) (by decide +kernel)
set_option maxRecDepth 20000 in
theorem gX4_tellOfLamp_X2_has : GoodIn wsX4_tellOfLamp (wsV RX4 168 RX2 yX2_has wsX2_has) := goodIn_app (goodIn_of _ (by decide +kernel)) ggX4_tellOfLamp_X2_has
set_option maxRecDepth 20000 in
theorem ggX4_tellOfLamp_X2_hoursCounted : GoodIn wsX4_tellOfLamp wsX2_hoursCounted := goodIn_r _ [20, 21, 40, 41, 42, 43, 44, 45, 46] (by decide +kernel) (by decide +kernel)
set_option maxRecDepth 20000 in
theorem gX4_tellOfLamp_X2_hoursCounted : GoodIn wsX4_tellOfLamp (wsV RX4 183 RX2 yX2_hoursCounted wsX2_hoursCounted) := goodIn_app (goodIn_of _ (by decide +kernel)) ggX4_tellOfLamp_X2_hoursCounted
set_option maxRecDepth 20000 in
theorem ggX4_tellOfLamp_X2_isDead : GoodIn wsX4_tellOfLamp wsX2_isDead := goodIn_r _ [25, 26, 40, 41, 42, 43, 44, 45, 46] (by decide +kernel) (by decide +kernel)
set_option maxRecDepth 20000 in
theorem gX4_tellOfLamp_X2_isDead : GoodIn wsX4_tellOfLamp (wsV RX4 145 RX2 yX2_isDead wsX2_isDead) := goodIn_app (goodIn_of _ (by decide +kernel)) ggX4_tellOfLamp_X2_isDead
set_option maxRecDepth 20000 in
theorem ggX4_tellOfLamp_X6_oneIf : GoodIn wsX4_tellOfLamp wsX6_oneIf := goodIn_r _ [28] (by decide +kernel) (by decide +kernel)
set_option maxRecDepth 20000 in
theorem gX4_tellOfLamp_X6_oneIf_n186 : GoodIn wsX4_tellOfLamp (wsX6_oneIf) := ggX4_tellOfLamp_X6_oneIf
set_option maxRecDepth 20000 in
theorem ggX4_tellOfLamp_X6_isWeak : GoodIn wsX4_tellOfLamp wsX6_isWeak := goodIn_r _ [30, 31, 32, 15, 33] (by decide +kernel) (by decide +kernel)
set_option maxRecDepth 20000 in
theorem gX4_tellOfLamp_X6_isWeak_n190 : GoodIn wsX4_tellOfLamp (wsX6_isWeak) := ggX4_tellOfLamp_X6_isWeak
theorem dX4_tellOfLamp_0 : decode cX4_tellOfLamp 0 = .ok (.aload_n 0, 1) := by decide +kernel
theorem dX4_tellOfLamp_1 : decode cX4_tellOfLamp 1 = .ok (.getfield 31, 3) := by decide +kernel
theorem dX4_tellOfLamp_4 : decode cX4_tellOfLamp 4 = .ok (.iload_n 1, 1) := by decide +kernel
theorem dX4_tellOfLamp_5 : decode cX4_tellOfLamp 5 = .ok (.invokevirtual 168, 3) := by decide +kernel
theorem dX4_tellOfLamp_8 : decode cX4_tellOfLamp 8 = .ok (.ifCond .ne 7, 3) := by decide +kernel
theorem dX4_tellOfLamp_11 : decode cX4_tellOfLamp 11 = .ok (.sipush (-1001), 3) := by decide +kernel
theorem dX4_tellOfLamp_14 : decode cX4_tellOfLamp 14 = .ok (.ireturn, 1) := by decide +kernel
theorem dX4_tellOfLamp_15 : decode cX4_tellOfLamp 15 = .ok (.aload_n 0, 1) := by decide +kernel
theorem dX4_tellOfLamp_16 : decode cX4_tellOfLamp 16 = .ok (.getfield 31, 3) := by decide +kernel
theorem dX4_tellOfLamp_19 : decode cX4_tellOfLamp 19 = .ok (.getfield 92, 3) := by decide +kernel
theorem dX4_tellOfLamp_22 : decode cX4_tellOfLamp 22 = .ok (.iload_n 1, 1) := by decide +kernel
theorem dX4_tellOfLamp_23 : decode cX4_tellOfLamp 23 = .ok (.iaload, 1) := by decide +kernel
theorem dX4_tellOfLamp_24 : decode cX4_tellOfLamp 24 = .ok (.istore_n 3, 1) := by decide +kernel
theorem dX4_tellOfLamp_25 : decode cX4_tellOfLamp 25 = .ok (.iload_n 2, 1) := by decide +kernel
theorem dX4_tellOfLamp_26 : decode cX4_tellOfLamp 26 = .ok (.tableswitch 182 0 9 #[54, 64, 80, 96, 106, 116, 126, 135, 147, 174], 54) := by decide +kernel
theorem dX4_tellOfLamp_80 : decode cX4_tellOfLamp 80 = .ok (.aload_n 0, 1) := by decide +kernel
theorem dX4_tellOfLamp_81 : decode cX4_tellOfLamp 81 = .ok (.getfield 31, 3) := by decide +kernel
theorem dX4_tellOfLamp_84 : decode cX4_tellOfLamp 84 = .ok (.getfield 171, 3) := by decide +kernel
theorem dX4_tellOfLamp_87 : decode cX4_tellOfLamp 87 = .ok (.iload_n 1, 1) := by decide +kernel
theorem dX4_tellOfLamp_88 : decode cX4_tellOfLamp 88 = .ok (.iaload, 1) := by decide +kernel
theorem dX4_tellOfLamp_89 : decode cX4_tellOfLamp 89 = .ok (.ireturn, 1) := by decide +kernel
theorem dX4_tellOfLamp_90 : decode cX4_tellOfLamp 90 = .ok (.iload_n 3, 1) := by decide +kernel
theorem dX4_tellOfLamp_91 : decode cX4_tellOfLamp 91 = .ok (.iconst (-1), 1) := by decide +kernel
theorem dX4_tellOfLamp_92 : decode cX4_tellOfLamp 92 = .ok (.if_icmp .ne 9, 3) := by decide +kernel
theorem dX4_tellOfLamp_95 : decode cX4_tellOfLamp 95 = .ok (.sipush (-1005), 3) := by decide +kernel
theorem dX4_tellOfLamp_98 : decode cX4_tellOfLamp 98 = .ok (.goto 7, 3) := by decide +kernel
theorem dX4_tellOfLamp_101 : decode cX4_tellOfLamp 101 = .ok (.iload_n 3, 1) := by decide +kernel
theorem dX4_tellOfLamp_102 : decode cX4_tellOfLamp 102 = .ok (.bipush 8, 2) := by decide +kernel
theorem dX4_tellOfLamp_104 : decode cX4_tellOfLamp 104 = .ok (.idiv, 1) := by decide +kernel
theorem dX4_tellOfLamp_105 : decode cX4_tellOfLamp 105 = .ok (.ireturn, 1) := by decide +kernel
theorem dX4_tellOfLamp_106 : decode cX4_tellOfLamp 106 = .ok (.iload_n 3, 1) := by decide +kernel
theorem dX4_tellOfLamp_107 : decode cX4_tellOfLamp 107 = .ok (.iconst (-1), 1) := by decide +kernel
theorem dX4_tellOfLamp_108 : decode cX4_tellOfLamp 108 = .ok (.if_icmp .ne 9, 3) := by decide +kernel
theorem dX4_tellOfLamp_111 : decode cX4_tellOfLamp 111 = .ok (.sipush (-1005), 3) := by decide +kernel
theorem dX4_tellOfLamp_114 : decode cX4_tellOfLamp 114 = .ok (.goto 7, 3) := by decide +kernel
theorem dX4_tellOfLamp_117 : decode cX4_tellOfLamp 117 = .ok (.iload_n 3, 1) := by decide +kernel
theorem dX4_tellOfLamp_118 : decode cX4_tellOfLamp 118 = .ok (.bipush 8, 2) := by decide +kernel
theorem dX4_tellOfLamp_120 : decode cX4_tellOfLamp 120 = .ok (.irem, 1) := by decide +kernel
theorem dX4_tellOfLamp_121 : decode cX4_tellOfLamp 121 = .ok (.ireturn, 1) := by decide +kernel
theorem dX4_tellOfLamp_122 : decode cX4_tellOfLamp 122 = .ok (.aload_n 0, 1) := by decide +kernel
theorem dX4_tellOfLamp_123 : decode cX4_tellOfLamp 123 = .ok (.getfield 31, 3) := by decide +kernel
theorem dX4_tellOfLamp_126 : decode cX4_tellOfLamp 126 = .ok (.getfield 174, 3) := by decide +kernel
theorem dX4_tellOfLamp_129 : decode cX4_tellOfLamp 129 = .ok (.iload_n 1, 1) := by decide +kernel
theorem dX4_tellOfLamp_130 : decode cX4_tellOfLamp 130 = .ok (.iaload, 1) := by decide +kernel
theorem dX4_tellOfLamp_131 : decode cX4_tellOfLamp 131 = .ok (.ireturn, 1) := by decide +kernel
theorem dX4_tellOfLamp_132 : decode cX4_tellOfLamp 132 = .ok (.aload_n 0, 1) := by decide +kernel
theorem dX4_tellOfLamp_133 : decode cX4_tellOfLamp 133 = .ok (.getfield 31, 3) := by decide +kernel
theorem dX4_tellOfLamp_136 : decode cX4_tellOfLamp 136 = .ok (.getfield 177, 3) := by decide +kernel
theorem dX4_tellOfLamp_139 : decode cX4_tellOfLamp 139 = .ok (.iload_n 1, 1) := by decide +kernel
theorem dX4_tellOfLamp_140 : decode cX4_tellOfLamp 140 = .ok (.iaload, 1) := by decide +kernel
theorem dX4_tellOfLamp_141 : decode cX4_tellOfLamp 141 = .ok (.ireturn, 1) := by decide +kernel
theorem dX4_tellOfLamp_142 : decode cX4_tellOfLamp 142 = .ok (.aload_n 0, 1) := by decide +kernel
theorem dX4_tellOfLamp_143 : decode cX4_tellOfLamp 143 = .ok (.getfield 31, 3) := by decide +kernel
theorem dX4_tellOfLamp_146 : decode cX4_tellOfLamp 146 = .ok (.getfield 180, 3) := by decide +kernel
theorem dX4_tellOfLamp_149 : decode cX4_tellOfLamp 149 = .ok (.iload_n 1, 1) := by decide +kernel
theorem dX4_tellOfLamp_150 : decode cX4_tellOfLamp 150 = .ok (.iaload, 1) := by decide +kernel
theorem dX4_tellOfLamp_151 : decode cX4_tellOfLamp 151 = .ok (.ireturn, 1) := by decide +kernel
theorem dX4_tellOfLamp_152 : decode cX4_tellOfLamp 152 = .ok (.aload_n 0, 1) := by decide +kernel
theorem dX4_tellOfLamp_153 : decode cX4_tellOfLamp 153 = .ok (.getfield 31, 3) := by decide +kernel
theorem dX4_tellOfLamp_156 : decode cX4_tellOfLamp 156 = .ok (.iload_n 1, 1) := by decide +kernel
theorem dX4_tellOfLamp_157 : decode cX4_tellOfLamp 157 = .ok (.invokevirtual 183, 3) := by decide +kernel
theorem dX4_tellOfLamp_160 : decode cX4_tellOfLamp 160 = .ok (.ireturn, 1) := by decide +kernel
theorem dX4_tellOfLamp_161 : decode cX4_tellOfLamp 161 = .ok (.aload_n 0, 1) := by decide +kernel
theorem dX4_tellOfLamp_162 : decode cX4_tellOfLamp 162 = .ok (.getfield 31, 3) := by decide +kernel
theorem dX4_tellOfLamp_165 : decode cX4_tellOfLamp 165 = .ok (.iload_n 1, 1) := by decide +kernel
theorem dX4_tellOfLamp_166 : decode cX4_tellOfLamp 166 = .ok (.invokevirtual 145, 3) := by decide +kernel
theorem dX4_tellOfLamp_169 : decode cX4_tellOfLamp 169 = .ok (.invokestatic 186, 3) := by decide +kernel
theorem dX4_tellOfLamp_172 : decode cX4_tellOfLamp 172 = .ok (.ireturn, 1) := by decide +kernel
theorem dX4_tellOfLamp_173 : decode cX4_tellOfLamp 173 = .ok (.aload_n 0, 1) := by decide +kernel
theorem dX4_tellOfLamp_174 : decode cX4_tellOfLamp 174 = .ok (.getfield 31, 3) := by decide +kernel
theorem dX4_tellOfLamp_177 : decode cX4_tellOfLamp 177 = .ok (.iload_n 1, 1) := by decide +kernel
theorem dX4_tellOfLamp_178 : decode cX4_tellOfLamp 178 = .ok (.invokevirtual 145, 3) := by decide +kernel
theorem dX4_tellOfLamp_181 : decode cX4_tellOfLamp 181 = .ok (.ifCond .eq 15, 3) := by decide +kernel
theorem dX4_tellOfLamp_184 : decode cX4_tellOfLamp 184 = .ok (.aload_n 0, 1) := by decide +kernel
theorem dX4_tellOfLamp_185 : decode cX4_tellOfLamp 185 = .ok (.getfield 31, 3) := by decide +kernel
theorem dX4_tellOfLamp_188 : decode cX4_tellOfLamp 188 = .ok (.getfield 165, 3) := by decide +kernel
theorem dX4_tellOfLamp_191 : decode cX4_tellOfLamp 191 = .ok (.iload_n 1, 1) := by decide +kernel
theorem dX4_tellOfLamp_192 : decode cX4_tellOfLamp 192 = .ok (.iaload, 1) := by decide +kernel
theorem dX4_tellOfLamp_193 : decode cX4_tellOfLamp 193 = .ok (.goto 6, 3) := by decide +kernel
theorem dX4_tellOfLamp_196 : decode cX4_tellOfLamp 196 = .ok (.sipush (-1005), 3) := by decide +kernel
theorem dX4_tellOfLamp_199 : decode cX4_tellOfLamp 199 = .ok (.ireturn, 1) := by decide +kernel
theorem dX4_tellOfLamp_200 : decode cX4_tellOfLamp 200 = .ok (.iload_n 1, 1) := by decide +kernel
theorem dX4_tellOfLamp_201 : decode cX4_tellOfLamp 201 = .ok (.invokestatic 190, 3) := by decide +kernel
theorem dX4_tellOfLamp_204 : decode cX4_tellOfLamp 204 = .ok (.invokestatic 186, 3) := by decide +kernel
theorem dX4_tellOfLamp_207 : decode cX4_tellOfLamp 207 = .ok (.ireturn, 1) := by decide +kernel
theorem dX4_tellOfLamp_208 : decode cX4_tellOfLamp 208 = .ok (.sipush (-1002), 3) := by decide +kernel
theorem dX4_tellOfLamp_211 : decode cX4_tellOfLamp 211 = .ok (.ireturn, 1) := by decide +kernel
set_option maxRecDepth 20000 in
theorem ggX4_tellOfRack_X6_isRack : GoodIn wsX4_tellOfRack wsX6_isRack := goodIn_r _ [7, 8, 9, 6, 10] (by decide +kernel) (by decide +kernel)
set_option maxRecDepth 20000 in
theorem gX4_tellOfRack_X6_isRack_n98 : GoodIn wsX4_tellOfRack (wsX6_isRack) := ggX4_tellOfRack_X6_isRack
set_option maxRecDepth 20000 in
theorem ggX4_tellOfRack_X4_countInRack : GoodIn wsX4_tellOfRack wsX4_countInRack := goodIn_r _ [15, 1, 16, 17, 18, 6, 19, 20, 21, 22, 23, 24, 25, 26, 27, 50, 51, 52, 53, 54, 55, 56, 57, 58, 59, 60, 61, 62, 63, 64, 65, 66, 67] (by decide +kernel) (by decide +kernel)
set_option maxRecDepth 20000 in
theorem gX4_tellOfRack_X4_countInRack : GoodIn wsX4_tellOfRack (wsV RX4 193 RX4 yX4_countInRack wsX4_countInRack) := goodIn_app (goodIn_of _ (by decide +kernel)) ggX4_tellOfRack_X4_countInRack
set_option maxRecDepth 20000 in
theorem ggX4_tellOfRack_X3_isDark : GoodIn wsX4_tellOfRack wsX3_isDark := goodIn_r _ [32, 33, 56, 57, 58, 59, 60] (by decide +kernel) (by decide +kernel)
set_option maxRecDepth 20000 in
theorem gX4_tellOfRack_X3_isDark : GoodIn wsX4_tellOfRack (wsV RX4 142 RX3 yX3_isDark wsX3_isDark) := goodIn_app (goodIn_of _ (by decide +kernel)) ggX4_tellOfRack_X3_isDark
set_option maxRecDepth 20000 in
theorem ggX4_tellOfRack_X4_wearOfHour : GoodIn wsX4_tellOfRack wsX4_wearOfHour := goodIn_r _ [37, 38, 39, 40, 41, 42, 43, 50, 51, 52, 53, 54, 55] (by decide +kernel) (by decide +kernel)
set_option maxRecDepth 20000 in
theorem gX4_tellOfRack_X4_wearOfHour : GoodIn wsX4_tellOfRack (wsV RX4 151 RX4 yX4_wearOfHour wsX4_wearOfHour) := goodIn_app (goodIn_of _ (by decide +kernel)) ggX4_tellOfRack_X4_wearOfHour
set_option maxRecDepth 20000 in
theorem ggX4_tellOfRack_X3_hoursToStep : GoodIn wsX4_tellOfRack wsX3_hoursToStep := goodIn_r _ [47, 48, 49, 56, 57, 58, 59, 60] (by decide +kernel) (by decide +kernel)
set_option maxRecDepth 20000 in
theorem gX4_tellOfRack_X3_hoursToStep : GoodIn wsX4_tellOfRack (wsV RX4 196 RX3 yX3_hoursToStep wsX3_hoursToStep) := goodIn_app (goodIn_of _ (by decide +kernel)) ggX4_tellOfRack_X3_hoursToStep
theorem dX4_tellOfRack_0 : decode cX4_tellOfRack 0 = .ok (.iload_n 1, 1) := by decide +kernel
theorem dX4_tellOfRack_1 : decode cX4_tellOfRack 1 = .ok (.invokestatic 98, 3) := by decide +kernel
theorem dX4_tellOfRack_4 : decode cX4_tellOfRack 4 = .ok (.ifCond .ne 7, 3) := by decide +kernel
theorem dX4_tellOfRack_7 : decode cX4_tellOfRack 7 = .ok (.sipush (-1001), 3) := by decide +kernel
theorem dX4_tellOfRack_10 : decode cX4_tellOfRack 10 = .ok (.ireturn, 1) := by decide +kernel
theorem dX4_tellOfRack_11 : decode cX4_tellOfRack 11 = .ok (.aload_n 0, 1) := by decide +kernel
theorem dX4_tellOfRack_12 : decode cX4_tellOfRack 12 = .ok (.getfield 38, 3) := by decide +kernel
theorem dX4_tellOfRack_15 : decode cX4_tellOfRack 15 = .ok (.getfield 101, 3) := by decide +kernel
theorem dX4_tellOfRack_18 : decode cX4_tellOfRack 18 = .ok (.iload_n 1, 1) := by decide +kernel
theorem dX4_tellOfRack_19 : decode cX4_tellOfRack 19 = .ok (.iaload, 1) := by decide +kernel
theorem dX4_tellOfRack_20 : decode cX4_tellOfRack 20 = .ok (.istore_n 3, 1) := by decide +kernel
theorem dX4_tellOfRack_21 : decode cX4_tellOfRack 21 = .ok (.iload_n 2, 1) := by decide +kernel
theorem dX4_tellOfRack_22 : decode cX4_tellOfRack 22 = .ok (.tableswitch 135 0 7 #[46, 48, 55, 62, 84, 106, 116, 126], 46) := by decide +kernel
theorem dX4_tellOfRack_68 : decode cX4_tellOfRack 68 = .ok (.iload_n 3, 1) := by decide +kernel
theorem dX4_tellOfRack_69 : decode cX4_tellOfRack 69 = .ok (.ireturn, 1) := by decide +kernel
theorem dX4_tellOfRack_70 : decode cX4_tellOfRack 70 = .ok (.aload_n 0, 1) := by decide +kernel
theorem dX4_tellOfRack_71 : decode cX4_tellOfRack 71 = .ok (.iload_n 1, 1) := by decide +kernel
theorem dX4_tellOfRack_72 : decode cX4_tellOfRack 72 = .ok (.iconst 1, 1) := by decide +kernel
theorem dX4_tellOfRack_73 : decode cX4_tellOfRack 73 = .ok (.invokevirtual 193, 3) := by decide +kernel
theorem dX4_tellOfRack_76 : decode cX4_tellOfRack 76 = .ok (.ireturn, 1) := by decide +kernel
theorem dX4_tellOfRack_77 : decode cX4_tellOfRack 77 = .ok (.aload_n 0, 1) := by decide +kernel
theorem dX4_tellOfRack_78 : decode cX4_tellOfRack 78 = .ok (.iload_n 1, 1) := by decide +kernel
theorem dX4_tellOfRack_79 : decode cX4_tellOfRack 79 = .ok (.iconst 0, 1) := by decide +kernel
theorem dX4_tellOfRack_80 : decode cX4_tellOfRack 80 = .ok (.invokevirtual 193, 3) := by decide +kernel
theorem dX4_tellOfRack_83 : decode cX4_tellOfRack 83 = .ok (.ireturn, 1) := by decide +kernel
theorem dX4_tellOfRack_84 : decode cX4_tellOfRack 84 = .ok (.aload_n 0, 1) := by decide +kernel
theorem dX4_tellOfRack_85 : decode cX4_tellOfRack 85 = .ok (.getfield 38, 3) := by decide +kernel
theorem dX4_tellOfRack_88 : decode cX4_tellOfRack 88 = .ok (.iload_n 1, 1) := by decide +kernel
theorem dX4_tellOfRack_89 : decode cX4_tellOfRack 89 = .ok (.invokevirtual 142, 3) := by decide +kernel
theorem dX4_tellOfRack_92 : decode cX4_tellOfRack 92 = .ok (.ifCond .eq 7, 3) := by decide +kernel
theorem dX4_tellOfRack_95 : decode cX4_tellOfRack 95 = .ok (.iconst 0, 1) := by decide +kernel
theorem dX4_tellOfRack_96 : decode cX4_tellOfRack 96 = .ok (.goto 9, 3) := by decide +kernel
theorem dX4_tellOfRack_99 : decode cX4_tellOfRack 99 = .ok (.aload_n 0, 1) := by decide +kernel
theorem dX4_tellOfRack_100 : decode cX4_tellOfRack 100 = .ok (.iload_n 3, 1) := by decide +kernel
theorem dX4_tellOfRack_101 : decode cX4_tellOfRack 101 = .ok (.iconst 0, 1) := by decide +kernel
theorem dX4_tellOfRack_102 : decode cX4_tellOfRack 102 = .ok (.invokevirtual 151, 3) := by decide +kernel
theorem dX4_tellOfRack_105 : decode cX4_tellOfRack 105 = .ok (.ireturn, 1) := by decide +kernel
theorem dX4_tellOfRack_106 : decode cX4_tellOfRack 106 = .ok (.aload_n 0, 1) := by decide +kernel
theorem dX4_tellOfRack_107 : decode cX4_tellOfRack 107 = .ok (.getfield 38, 3) := by decide +kernel
theorem dX4_tellOfRack_110 : decode cX4_tellOfRack 110 = .ok (.iload_n 1, 1) := by decide +kernel
theorem dX4_tellOfRack_111 : decode cX4_tellOfRack 111 = .ok (.invokevirtual 142, 3) := by decide +kernel
theorem dX4_tellOfRack_114 : decode cX4_tellOfRack 114 = .ok (.ifCond .eq 7, 3) := by decide +kernel
theorem dX4_tellOfRack_117 : decode cX4_tellOfRack 117 = .ok (.iconst 0, 1) := by decide +kernel
theorem dX4_tellOfRack_118 : decode cX4_tellOfRack 118 = .ok (.goto 9, 3) := by decide +kernel
theorem dX4_tellOfRack_121 : decode cX4_tellOfRack 121 = .ok (.aload_n 0, 1) := by decide +kernel
theorem dX4_tellOfRack_122 : decode cX4_tellOfRack 122 = .ok (.iload_n 3, 1) := by decide +kernel
theorem dX4_tellOfRack_123 : decode cX4_tellOfRack 123 = .ok (.iconst 1, 1) := by decide +kernel
theorem dX4_tellOfRack_124 : decode cX4_tellOfRack 124 = .ok (.invokevirtual 151, 3) := by decide +kernel
theorem dX4_tellOfRack_127 : decode cX4_tellOfRack 127 = .ok (.ireturn, 1) := by decide +kernel
theorem dX4_tellOfRack_128 : decode cX4_tellOfRack 128 = .ok (.aload_n 0, 1) := by decide +kernel
theorem dX4_tellOfRack_129 : decode cX4_tellOfRack 129 = .ok (.getfield 38, 3) := by decide +kernel
theorem dX4_tellOfRack_132 : decode cX4_tellOfRack 132 = .ok (.getfield 104, 3) := by decide +kernel
theorem dX4_tellOfRack_135 : decode cX4_tellOfRack 135 = .ok (.iload_n 1, 1) := by decide +kernel
theorem dX4_tellOfRack_136 : decode cX4_tellOfRack 136 = .ok (.iaload, 1) := by decide +kernel
theorem dX4_tellOfRack_137 : decode cX4_tellOfRack 137 = .ok (.ireturn, 1) := by decide +kernel
theorem dX4_tellOfRack_138 : decode cX4_tellOfRack 138 = .ok (.aload_n 0, 1) := by decide +kernel
theorem dX4_tellOfRack_139 : decode cX4_tellOfRack 139 = .ok (.getfield 38, 3) := by decide +kernel
theorem dX4_tellOfRack_142 : decode cX4_tellOfRack 142 = .ok (.getfield 107, 3) := by decide +kernel
theorem dX4_tellOfRack_145 : decode cX4_tellOfRack 145 = .ok (.iload_n 1, 1) := by decide +kernel
theorem dX4_tellOfRack_146 : decode cX4_tellOfRack 146 = .ok (.iaload, 1) := by decide +kernel
theorem dX4_tellOfRack_147 : decode cX4_tellOfRack 147 = .ok (.ireturn, 1) := by decide +kernel
theorem dX4_tellOfRack_148 : decode cX4_tellOfRack 148 = .ok (.aload_n 0, 1) := by decide +kernel
theorem dX4_tellOfRack_149 : decode cX4_tellOfRack 149 = .ok (.getfield 38, 3) := by decide +kernel
theorem dX4_tellOfRack_152 : decode cX4_tellOfRack 152 = .ok (.iload_n 1, 1) := by decide +kernel
theorem dX4_tellOfRack_153 : decode cX4_tellOfRack 153 = .ok (.invokevirtual 196, 3) := by decide +kernel
theorem dX4_tellOfRack_156 : decode cX4_tellOfRack 156 = .ok (.ireturn, 1) := by decide +kernel
theorem dX4_tellOfRack_157 : decode cX4_tellOfRack 157 = .ok (.sipush (-1002), 3) := by decide +kernel
theorem dX4_tellOfRack_160 : decode cX4_tellOfRack 160 = .ok (.ireturn, 1) := by decide +kernel
set_option maxRecDepth 20000 in
theorem ggX4_countInRack_X6_spotOf : GoodIn wsX4_countInRack wsX6_spotOf := goodIn_r _ [6] (by decide +kernel) (by decide +kernel)
set_option maxRecDepth 20000 in
theorem gX4_countInRack_X6_spotOf_n71 : GoodIn wsX4_countInRack (wsX6_spotOf) := ggX4_countInRack_X6_spotOf
set_option maxRecDepth 20000 in
theorem ggX4_countInRack_X2_isDead : GoodIn wsX4_countInRack wsX2_isDead := goodIn_r _ [11, 12, 26, 27, 28, 29, 30, 31, 32] (by decide +kernel) (by decide +kernel)
set_option maxRecDepth 20000 in
theorem gX4_countInRack_X2_isDead : GoodIn wsX4_countInRack (wsV RX4 145 RX2 yX2_isDead wsX2_isDead) := goodIn_app (goodIn_of _ (by decide +kernel)) ggX4_countInRack_X2_isDead
set_option maxRecDepth 20000 in
theorem ggX4_countInRack_X6_oneIf : GoodIn wsX4_countInRack wsX6_oneIf := goodIn_r _ [14] (by decide +kernel) (by decide +kernel)
set_option maxRecDepth 20000 in
theorem gX4_countInRack_X6_oneIf_n186 : GoodIn wsX4_countInRack (wsX6_oneIf) := ggX4_countInRack_X6_oneIf
theorem dX4_countInRack_0 : decode cX4_countInRack 0 = .ok (.iconst 0, 1) := by decide +kernel
theorem dX4_countInRack_1 : decode cX4_countInRack 1 = .ok (.istore_n 3, 1) := by decide +kernel
theorem dX4_countInRack_2 : decode cX4_countInRack 2 = .ok (.iconst 0, 1) := by decide +kernel
theorem dX4_countInRack_3 : decode cX4_countInRack 3 = .ok (.istore 4, 2) := by decide +kernel
theorem dX4_countInRack_5 : decode cX4_countInRack 5 = .ok (.iload 4, 2) := by decide +kernel
theorem dX4_countInRack_7 : decode cX4_countInRack 7 = .ok (.bipush 8, 2) := by decide +kernel
theorem dX4_countInRack_9 : decode cX4_countInRack 9 = .ok (.if_icmp .ge 58, 3) := by decide +kernel
theorem dX4_countInRack_12 : decode cX4_countInRack 12 = .ok (.aload_n 0, 1) := by decide +kernel
theorem dX4_countInRack_13 : decode cX4_countInRack 13 = .ok (.getfield 38, 3) := by decide +kernel
theorem dX4_countInRack_16 : decode cX4_countInRack 16 = .ok (.getfield 75, 3) := by decide +kernel
theorem dX4_countInRack_19 : decode cX4_countInRack 19 = .ok (.iload_n 1, 1) := by decide +kernel
theorem dX4_countInRack_20 : decode cX4_countInRack 20 = .ok (.iload 4, 2) := by decide +kernel
theorem dX4_countInRack_22 : decode cX4_countInRack 22 = .ok (.invokestatic 71, 3) := by decide +kernel
theorem dX4_countInRack_25 : decode cX4_countInRack 25 = .ok (.iaload, 1) := by decide +kernel
theorem dX4_countInRack_26 : decode cX4_countInRack 26 = .ok (.istore 5, 2) := by decide +kernel
theorem dX4_countInRack_28 : decode cX4_countInRack 28 = .ok (.iload_n 3, 1) := by decide +kernel
theorem dX4_countInRack_29 : decode cX4_countInRack 29 = .ok (.iload 5, 2) := by decide +kernel
theorem dX4_countInRack_31 : decode cX4_countInRack 31 = .ok (.iconst (-1), 1) := by decide +kernel
theorem dX4_countInRack_32 : decode cX4_countInRack 32 = .ok (.if_icmp .eq 23, 3) := by decide +kernel
theorem dX4_countInRack_35 : decode cX4_countInRack 35 = .ok (.iload_n 2, 1) := by decide +kernel
theorem dX4_countInRack_36 : decode cX4_countInRack 36 = .ok (.ifCond .ne 15, 3) := by decide +kernel
theorem dX4_countInRack_39 : decode cX4_countInRack 39 = .ok (.aload_n 0, 1) := by decide +kernel
theorem dX4_countInRack_40 : decode cX4_countInRack 40 = .ok (.getfield 31, 3) := by decide +kernel
theorem dX4_countInRack_43 : decode cX4_countInRack 43 = .ok (.iload 5, 2) := by decide +kernel
theorem dX4_countInRack_45 : decode cX4_countInRack 45 = .ok (.invokevirtual 145, 3) := by decide +kernel
theorem dX4_countInRack_48 : decode cX4_countInRack 48 = .ok (.ifCond .ne 7, 3) := by decide +kernel
theorem dX4_countInRack_51 : decode cX4_countInRack 51 = .ok (.iconst 1, 1) := by decide +kernel
theorem dX4_countInRack_52 : decode cX4_countInRack 52 = .ok (.goto 4, 3) := by decide +kernel
theorem dX4_countInRack_55 : decode cX4_countInRack 55 = .ok (.iconst 0, 1) := by decide +kernel
theorem dX4_countInRack_56 : decode cX4_countInRack 56 = .ok (.invokestatic 186, 3) := by decide +kernel
theorem dX4_countInRack_59 : decode cX4_countInRack 59 = .ok (.iadd, 1) := by decide +kernel
theorem dX4_countInRack_60 : decode cX4_countInRack 60 = .ok (.istore_n 3, 1) := by decide +kernel
theorem dX4_countInRack_61 : decode cX4_countInRack 61 = .ok (.iinc 4 1, 3) := by decide +kernel
theorem dX4_countInRack_64 : decode cX4_countInRack 64 = .ok (.goto (-59), 3) := by decide +kernel
theorem dX4_countInRack_67 : decode cX4_countInRack 67 = .ok (.iload_n 3, 1) := by decide +kernel
theorem dX4_countInRack_68 : decode cX4_countInRack 68 = .ok (.ireturn, 1) := by decide +kernel
set_option maxRecDepth 20000 in
theorem ggX4_tellOfBatch_X6_isBatch : GoodIn wsX4_tellOfBatch wsX6_isBatch := goodIn_r _ [7, 8, 9, 6, 10] (by decide +kernel) (by decide +kernel)
set_option maxRecDepth 20000 in
theorem gX4_tellOfBatch_X6_isBatch_n52 : GoodIn wsX4_tellOfBatch (wsX6_isBatch) := ggX4_tellOfBatch_X6_isBatch
set_option maxRecDepth 20000 in
theorem ggX4_tellOfBatch_X2_countDeadOf : GoodIn wsX4_tellOfBatch wsX2_countDeadOf := goodIn_r _ [15, 16, 17, 18, 19, 14, 20, 21, 22, 23, 24, 25, 26, 27, 6, 28, 59, 60, 61, 62, 63, 64, 65] (by decide +kernel) (by decide +kernel)
set_option maxRecDepth 20000 in
theorem gX4_tellOfBatch_X2_countDeadOf : GoodIn wsX4_tellOfBatch (wsV RX4 199 RX2 yX2_countDeadOf wsX2_countDeadOf) := goodIn_app (goodIn_of _ (by decide +kernel)) ggX4_tellOfBatch_X2_countDeadOf
set_option maxRecDepth 20000 in
theorem ggX4_tellOfBatch_X2_countDeadBelow : GoodIn wsX4_tellOfBatch wsX2_countDeadBelow := goodIn_r _ [32, 16, 17, 18, 19, 14, 20, 21, 22, 23, 24, 25, 26, 33, 34, 35, 36, 37, 27, 6, 28, 59, 60, 61, 62, 63, 64, 65] (by decide +kernel) (by decide +kernel)
set_option maxRecDepth 20000 in
theorem gX4_tellOfBatch_X2_countDeadBelow : GoodIn wsX4_tellOfBatch (wsV RX4 202 RX2 yX2_countDeadBelow wsX2_countDeadBelow) := goodIn_app (goodIn_of _ (by decide +kernel)) ggX4_tellOfBatch_X2_countDeadBelow
set_option maxRecDepth 20000 in
theorem ggX4_tellOfBatch_X2_countOf : GoodIn wsX4_tellOfBatch wsX2_countOf := goodIn_r _ [41, 16, 21, 27, 6, 28, 59, 60, 61, 62, 63, 64, 65] (by decide +kernel) (by decide +kernel)
set_option maxRecDepth 20000 in
theorem gX4_tellOfBatch_X2_countOf : GoodIn wsX4_tellOfBatch (wsV RX4 205 RX2 yX2_countOf wsX2_countOf) := goodIn_app (goodIn_of _ (by decide +kernel)) ggX4_tellOfBatch_X2_countOf
set_option maxRecDepth 20000 in
theorem ggX4_tellOfBatch_X2_middleLife : GoodIn wsX4_tellOfBatch wsX2_middleLife := goodIn_r _ [45, 16, 46, 39, 40, 14, 41, 21, 27, 6, 28, 17, 18, 19, 20, 22, 23, 24, 25, 26, 47, 48, 49, 50, 33, 34, 35, 36, 37, 59, 60, 61, 62, 63, 64, 65] (by decide +kernel) (by decide +kernel)
set_option maxRecDepth 20000 in
theorem gX4_tellOfBatch_X2_middleLife : GoodIn wsX4_tellOfBatch (wsV RX4 208 RX2 yX2_middleLife wsX2_middleLife) := goodIn_app (goodIn_of _ (by decide +kernel)) ggX4_tellOfBatch_X2_middleLife
set_option maxRecDepth 20000 in
theorem ggX4_tellOfBatch_X6_oneIf : GoodIn wsX4_tellOfBatch wsX6_oneIf := goodIn_r _ [28] (by decide +kernel) (by decide +kernel)
set_option maxRecDepth 20000 in
theorem gX4_tellOfBatch_X6_oneIf_n186 : GoodIn wsX4_tellOfBatch (wsX6_oneIf) := ggX4_tellOfBatch_X6_oneIf
theorem dX4_tellOfBatch_0 : decode cX4_tellOfBatch 0 = .ok (.iload_n 1, 1) := by decide +kernel
theorem dX4_tellOfBatch_1 : decode cX4_tellOfBatch 1 = .ok (.invokestatic 52, 3) := by decide +kernel
theorem dX4_tellOfBatch_4 : decode cX4_tellOfBatch 4 = .ok (.ifCond .ne 7, 3) := by decide +kernel
theorem dX4_tellOfBatch_7 : decode cX4_tellOfBatch 7 = .ok (.sipush (-1001), 3) := by decide +kernel
theorem dX4_tellOfBatch_10 : decode cX4_tellOfBatch 10 = .ok (.ireturn, 1) := by decide +kernel
theorem dX4_tellOfBatch_11 : decode cX4_tellOfBatch 11 = .ok (.aload_n 0, 1) := by decide +kernel
theorem dX4_tellOfBatch_12 : decode cX4_tellOfBatch 12 = .ok (.getfield 31, 3) := by decide +kernel
theorem dX4_tellOfBatch_15 : decode cX4_tellOfBatch 15 = .ok (.iload_n 1, 1) := by decide +kernel
theorem dX4_tellOfBatch_16 : decode cX4_tellOfBatch 16 = .ok (.invokevirtual 199, 3) := by decide +kernel
theorem dX4_tellOfBatch_19 : decode cX4_tellOfBatch 19 = .ok (.istore_n 3, 1) := by decide +kernel
theorem dX4_tellOfBatch_20 : decode cX4_tellOfBatch 20 = .ok (.aload_n 0, 1) := by decide +kernel
theorem dX4_tellOfBatch_21 : decode cX4_tellOfBatch 21 = .ok (.getfield 31, 3) := by decide +kernel
theorem dX4_tellOfBatch_24 : decode cX4_tellOfBatch 24 = .ok (.iload_n 1, 1) := by decide +kernel
theorem dX4_tellOfBatch_25 : decode cX4_tellOfBatch 25 = .ok (.aload_n 0, 1) := by decide +kernel
theorem dX4_tellOfBatch_26 : decode cX4_tellOfBatch 26 = .ok (.getfield 24, 3) := by decide +kernel
theorem dX4_tellOfBatch_29 : decode cX4_tellOfBatch 29 = .ok (.getfield 60, 3) := by decide +kernel
theorem dX4_tellOfBatch_32 : decode cX4_tellOfBatch 32 = .ok (.iload_n 1, 1) := by decide +kernel
theorem dX4_tellOfBatch_33 : decode cX4_tellOfBatch 33 = .ok (.iaload, 1) := by decide +kernel
theorem dX4_tellOfBatch_34 : decode cX4_tellOfBatch 34 = .ok (.iconst 2, 1) := by decide +kernel
theorem dX4_tellOfBatch_35 : decode cX4_tellOfBatch 35 = .ok (.idiv, 1) := by decide +kernel
theorem dX4_tellOfBatch_36 : decode cX4_tellOfBatch 36 = .ok (.invokevirtual 202, 3) := by decide +kernel
theorem dX4_tellOfBatch_39 : decode cX4_tellOfBatch 39 = .ok (.istore 4, 2) := by decide +kernel
theorem dX4_tellOfBatch_41 : decode cX4_tellOfBatch 41 = .ok (.iload_n 2, 1) := by decide +kernel
theorem dX4_tellOfBatch_42 : decode cX4_tellOfBatch 42 = .ok (.tableswitch 102 0 6 #[42, 52, 62, 71, 73, 76, 85], 42) := by decide +kernel
theorem dX4_tellOfBatch_84 : decode cX4_tellOfBatch 84 = .ok (.aload_n 0, 1) := by decide +kernel
theorem dX4_tellOfBatch_85 : decode cX4_tellOfBatch 85 = .ok (.getfield 24, 3) := by decide +kernel
theorem dX4_tellOfBatch_88 : decode cX4_tellOfBatch 88 = .ok (.getfield 60, 3) := by decide +kernel
theorem dX4_tellOfBatch_91 : decode cX4_tellOfBatch 91 = .ok (.iload_n 1, 1) := by decide +kernel
theorem dX4_tellOfBatch_92 : decode cX4_tellOfBatch 92 = .ok (.iaload, 1) := by decide +kernel
theorem dX4_tellOfBatch_93 : decode cX4_tellOfBatch 93 = .ok (.ireturn, 1) := by decide +kernel
theorem dX4_tellOfBatch_94 : decode cX4_tellOfBatch 94 = .ok (.aload_n 0, 1) := by decide +kernel
theorem dX4_tellOfBatch_95 : decode cX4_tellOfBatch 95 = .ok (.getfield 24, 3) := by decide +kernel
theorem dX4_tellOfBatch_98 : decode cX4_tellOfBatch 98 = .ok (.getfield 64, 3) := by decide +kernel
theorem dX4_tellOfBatch_101 : decode cX4_tellOfBatch 101 = .ok (.iload_n 1, 1) := by decide +kernel
theorem dX4_tellOfBatch_102 : decode cX4_tellOfBatch 102 = .ok (.iaload, 1) := by decide +kernel
theorem dX4_tellOfBatch_103 : decode cX4_tellOfBatch 103 = .ok (.ireturn, 1) := by decide +kernel
theorem dX4_tellOfBatch_104 : decode cX4_tellOfBatch 104 = .ok (.aload_n 0, 1) := by decide +kernel
theorem dX4_tellOfBatch_105 : decode cX4_tellOfBatch 105 = .ok (.getfield 31, 3) := by decide +kernel
theorem dX4_tellOfBatch_108 : decode cX4_tellOfBatch 108 = .ok (.iload_n 1, 1) := by decide +kernel
theorem dX4_tellOfBatch_109 : decode cX4_tellOfBatch 109 = .ok (.invokevirtual 205, 3) := by decide +kernel
theorem dX4_tellOfBatch_112 : decode cX4_tellOfBatch 112 = .ok (.ireturn, 1) := by decide +kernel
theorem dX4_tellOfBatch_113 : decode cX4_tellOfBatch 113 = .ok (.iload_n 3, 1) := by decide +kernel
theorem dX4_tellOfBatch_114 : decode cX4_tellOfBatch 114 = .ok (.ireturn, 1) := by decide +kernel
theorem dX4_tellOfBatch_115 : decode cX4_tellOfBatch 115 = .ok (.iload 4, 2) := by decide +kernel
theorem dX4_tellOfBatch_117 : decode cX4_tellOfBatch 117 = .ok (.ireturn, 1) := by decide +kernel
theorem dX4_tellOfBatch_118 : decode cX4_tellOfBatch 118 = .ok (.aload_n 0, 1) := by decide +kernel
theorem dX4_tellOfBatch_119 : decode cX4_tellOfBatch 119 = .ok (.getfield 31, 3) := by decide +kernel
theorem dX4_tellOfBatch_122 : decode cX4_tellOfBatch 122 = .ok (.iload_n 1, 1) := by decide +kernel
theorem dX4_tellOfBatch_123 : decode cX4_tellOfBatch 123 = .ok (.invokevirtual 208, 3) := by decide +kernel
theorem dX4_tellOfBatch_126 : decode cX4_tellOfBatch 126 = .ok (.ireturn, 1) := by decide +kernel
theorem dX4_tellOfBatch_127 : decode cX4_tellOfBatch 127 = .ok (.iconst 2, 1) := by decide +kernel
theorem dX4_tellOfBatch_128 : decode cX4_tellOfBatch 128 = .ok (.iload 4, 2) := by decide +kernel
theorem dX4_tellOfBatch_130 : decode cX4_tellOfBatch 130 = .ok (.imul, 1) := by decide +kernel
theorem dX4_tellOfBatch_131 : decode cX4_tellOfBatch 131 = .ok (.iload_n 3, 1) := by decide +kernel
theorem dX4_tellOfBatch_132 : decode cX4_tellOfBatch 132 = .ok (.if_icmp .le 7, 3) := by decide +kernel
theorem dX4_tellOfBatch_135 : decode cX4_tellOfBatch 135 = .ok (.iconst 1, 1) := by decide +kernel
theorem dX4_tellOfBatch_136 : decode cX4_tellOfBatch 136 = .ok (.goto 4, 3) := by decide +kernel
theorem dX4_tellOfBatch_139 : decode cX4_tellOfBatch 139 = .ok (.iconst 0, 1) := by decide +kernel
theorem dX4_tellOfBatch_140 : decode cX4_tellOfBatch 140 = .ok (.invokestatic 186, 3) := by decide +kernel
theorem dX4_tellOfBatch_143 : decode cX4_tellOfBatch 143 = .ok (.ireturn, 1) := by decide +kernel
theorem dX4_tellOfBatch_144 : decode cX4_tellOfBatch 144 = .ok (.sipush (-1002), 3) := by decide +kernel
theorem dX4_tellOfBatch_147 : decode cX4_tellOfBatch 147 = .ok (.ireturn, 1) := by decide +kernel
set_option maxRecDepth 20000 in
theorem ggX4_tellOfAll_X2_countInRacks : GoodIn wsX4_tellOfAll wsX2_countInRacks := goodIn_r _ [12, 13, 14, 15, 16, 17, 68, 69, 70, 71, 72, 73, 74] (by decide +kernel) (by decide +kernel)
set_option maxRecDepth 20000 in
theorem gX4_tellOfAll_X2_countInRacks : GoodIn wsX4_tellOfAll (wsV RX4 211 RX2 yX2_countInRacks wsX2_countInRacks) := goodIn_app (goodIn_of _ (by decide +kernel)) ggX4_tellOfAll_X2_countInRacks
set_option maxRecDepth 20000 in
theorem ggX4_tellOfAll_X4_countBurning : GoodIn wsX4_tellOfAll wsX4_countBurning := goodIn_r _ [22, 2, 3, 23, 24, 25, 21, 26, 27, 28, 29, 30, 31, 11, 32, 33, 34, 35, 36, 37, 38, 39, 15, 16, 17, 62, 63, 64, 65, 66, 67, 68, 69, 70, 71, 72, 73, 74, 75, 76, 77, 78, 79] (by decide +kernel) (by decide +kernel)
set_option maxRecDepth 20000 in
theorem gX4_tellOfAll_X4_countBurning : GoodIn wsX4_tellOfAll (wsV RX4 215 RX4 yX4_countBurning wsX4_countBurning) := goodIn_app (goodIn_of _ (by decide +kernel)) ggX4_tellOfAll_X4_countBurning
set_option maxRecDepth 20000 in
theorem ggX4_tellOfAll_X2_countDead : GoodIn wsX4_tellOfAll wsX2_countDead := goodIn_r _ [43, 13, 44, 30, 31, 11, 32, 33, 15, 16, 17, 68, 69, 70, 71, 72, 73, 74] (by decide +kernel) (by decide +kernel)
set_option maxRecDepth 20000 in
theorem gX4_tellOfAll_X2_countDead : GoodIn wsX4_tellOfAll (wsV RX4 218 RX2 yX2_countDead wsX2_countDead) := goodIn_app (goodIn_of _ (by decide +kernel)) ggX4_tellOfAll_X2_countDead
set_option maxRecDepth 20000 in
theorem ggX4_tellOfAll_X2_countWeak : GoodIn wsX4_tellOfAll wsX2_countWeak := goodIn_r _ [48, 13, 49, 16, 50, 51, 52, 53, 15, 17, 68, 69, 70, 71, 72, 73, 74] (by decide +kernel) (by decide +kernel)
set_option maxRecDepth 20000 in
theorem gX4_tellOfAll_X2_countWeak : GoodIn wsX4_tellOfAll (wsV RX4 221 RX2 yX2_countWeak wsX2_countWeak) := goodIn_app (goodIn_of _ (by decide +kernel)) ggX4_tellOfAll_X2_countWeak
set_option maxRecDepth 20000 in
theorem ggX4_tellOfAll_X2_sumOf : GoodIn wsX4_tellOfAll wsX2_sumOf := goodIn_r _ [57, 13, 58, 59, 60, 61, 68, 69, 70, 71, 72, 73, 74] (by decide +kernel) (by decide +kernel)
set_option maxRecDepth 20000 in
theorem gX4_tellOfAll_X2_sumOf : GoodIn wsX4_tellOfAll (wsV RX4 224 RX2 yX2_sumOf wsX2_sumOf) := goodIn_app (goodIn_of _ (by decide +kernel)) ggX4_tellOfAll_X2_sumOf
theorem dX4_tellOfAll_0 : decode cX4_tellOfAll 0 = .ok (.iload_n 1, 1) := by decide +kernel
theorem dX4_tellOfAll_1 : decode cX4_tellOfAll 1 = .ok (.tableswitch 137 0 9 #[55, 60, 68, 76, 81, 89, 97, 112, 127, 132], 55) := by decide +kernel
theorem dX4_tellOfAll_56 : decode cX4_tellOfAll 56 = .ok (.aload_n 0, 1) := by decide +kernel
theorem dX4_tellOfAll_57 : decode cX4_tellOfAll 57 = .ok (.getfield 9, 3) := by decide +kernel
theorem dX4_tellOfAll_60 : decode cX4_tellOfAll 60 = .ok (.ireturn, 1) := by decide +kernel
theorem dX4_tellOfAll_61 : decode cX4_tellOfAll 61 = .ok (.aload_n 0, 1) := by decide +kernel
theorem dX4_tellOfAll_62 : decode cX4_tellOfAll 62 = .ok (.getfield 31, 3) := by decide +kernel
theorem dX4_tellOfAll_65 : decode cX4_tellOfAll 65 = .ok (.getfield 82, 3) := by decide +kernel
theorem dX4_tellOfAll_68 : decode cX4_tellOfAll 68 = .ok (.ireturn, 1) := by decide +kernel
theorem dX4_tellOfAll_69 : decode cX4_tellOfAll 69 = .ok (.aload_n 0, 1) := by decide +kernel
theorem dX4_tellOfAll_70 : decode cX4_tellOfAll 70 = .ok (.getfield 31, 3) := by decide +kernel
theorem dX4_tellOfAll_73 : decode cX4_tellOfAll 73 = .ok (.invokevirtual 211, 3) := by decide +kernel
theorem dX4_tellOfAll_76 : decode cX4_tellOfAll 76 = .ok (.ireturn, 1) := by decide +kernel
theorem dX4_tellOfAll_77 : decode cX4_tellOfAll 77 = .ok (.aload_n 0, 1) := by decide +kernel
theorem dX4_tellOfAll_78 : decode cX4_tellOfAll 78 = .ok (.invokevirtual 215, 3) := by decide +kernel
theorem dX4_tellOfAll_81 : decode cX4_tellOfAll 81 = .ok (.ireturn, 1) := by decide +kernel
theorem dX4_tellOfAll_82 : decode cX4_tellOfAll 82 = .ok (.aload_n 0, 1) := by decide +kernel
theorem dX4_tellOfAll_83 : decode cX4_tellOfAll 83 = .ok (.getfield 31, 3) := by decide +kernel
theorem dX4_tellOfAll_86 : decode cX4_tellOfAll 86 = .ok (.invokevirtual 218, 3) := by decide +kernel
theorem dX4_tellOfAll_89 : decode cX4_tellOfAll 89 = .ok (.ireturn, 1) := by decide +kernel
theorem dX4_tellOfAll_90 : decode cX4_tellOfAll 90 = .ok (.aload_n 0, 1) := by decide +kernel
theorem dX4_tellOfAll_91 : decode cX4_tellOfAll 91 = .ok (.getfield 31, 3) := by decide +kernel
theorem dX4_tellOfAll_94 : decode cX4_tellOfAll 94 = .ok (.invokevirtual 221, 3) := by decide +kernel
theorem dX4_tellOfAll_97 : decode cX4_tellOfAll 97 = .ok (.ireturn, 1) := by decide +kernel
theorem dX4_tellOfAll_98 : decode cX4_tellOfAll 98 = .ok (.aload_n 0, 1) := by decide +kernel
theorem dX4_tellOfAll_99 : decode cX4_tellOfAll 99 = .ok (.getfield 31, 3) := by decide +kernel
theorem dX4_tellOfAll_102 : decode cX4_tellOfAll 102 = .ok (.aload_n 0, 1) := by decide +kernel
theorem dX4_tellOfAll_103 : decode cX4_tellOfAll 103 = .ok (.getfield 31, 3) := by decide +kernel
theorem dX4_tellOfAll_106 : decode cX4_tellOfAll 106 = .ok (.getfield 180, 3) := by decide +kernel
theorem dX4_tellOfAll_109 : decode cX4_tellOfAll 109 = .ok (.invokevirtual 224, 3) := by decide +kernel
theorem dX4_tellOfAll_112 : decode cX4_tellOfAll 112 = .ok (.ireturn, 1) := by decide +kernel
theorem dX4_tellOfAll_113 : decode cX4_tellOfAll 113 = .ok (.aload_n 0, 1) := by decide +kernel
theorem dX4_tellOfAll_114 : decode cX4_tellOfAll 114 = .ok (.getfield 31, 3) := by decide +kernel
theorem dX4_tellOfAll_117 : decode cX4_tellOfAll 117 = .ok (.aload_n 0, 1) := by decide +kernel
theorem dX4_tellOfAll_118 : decode cX4_tellOfAll 118 = .ok (.getfield 31, 3) := by decide +kernel
theorem dX4_tellOfAll_121 : decode cX4_tellOfAll 121 = .ok (.getfield 177, 3) := by decide +kernel
theorem dX4_tellOfAll_124 : decode cX4_tellOfAll 124 = .ok (.invokevirtual 224, 3) := by decide +kernel
theorem dX4_tellOfAll_127 : decode cX4_tellOfAll 127 = .ok (.ireturn, 1) := by decide +kernel
theorem dX4_tellOfAll_128 : decode cX4_tellOfAll 128 = .ok (.aload_n 0, 1) := by decide +kernel
theorem dX4_tellOfAll_129 : decode cX4_tellOfAll 129 = .ok (.getfield 15, 3) := by decide +kernel
theorem dX4_tellOfAll_132 : decode cX4_tellOfAll 132 = .ok (.ireturn, 1) := by decide +kernel
theorem dX4_tellOfAll_133 : decode cX4_tellOfAll 133 = .ok (.aload_n 0, 1) := by decide +kernel
theorem dX4_tellOfAll_134 : decode cX4_tellOfAll 134 = .ok (.getfield 18, 3) := by decide +kernel
theorem dX4_tellOfAll_137 : decode cX4_tellOfAll 137 = .ok (.ireturn, 1) := by decide +kernel
theorem dX4_tellOfAll_138 : decode cX4_tellOfAll 138 = .ok (.sipush (-1002), 3) := by decide +kernel
theorem dX4_tellOfAll_141 : decode cX4_tellOfAll 141 = .ok (.ireturn, 1) := by decide +kernel
set_option maxRecDepth 20000 in
theorem ggX4_countBurning_X4_whyDark : GoodIn wsX4_countBurning wsX4_whyDark := goodIn_r _ [7, 1, 8, 9, 10, 11, 12, 13, 14, 15, 16, 17, 18, 19, 20, 21, 25, 26, 27, 28, 29, 30, 31, 32, 33, 34, 35, 36, 37, 38, 39, 40, 41, 42] (by decide +kernel) (by decide +kernel)
set_option maxRecDepth 20000 in
theorem gX4_countBurning_X4_whyDark : GoodIn wsX4_countBurning (wsV RX4 228 RX4 yX4_whyDark wsX4_whyDark) := goodIn_app (goodIn_of _ (by decide +kernel)) ggX4_countBurning_X4_whyDark
set_option maxRecDepth 20000 in
theorem ggX4_countBurning_X6_oneIf : GoodIn wsX4_countBurning wsX6_oneIf := goodIn_r _ [24] (by decide +kernel) (by decide +kernel)
set_option maxRecDepth 20000 in
theorem gX4_countBurning_X6_oneIf_n186 : GoodIn wsX4_countBurning (wsX6_oneIf) := ggX4_countBurning_X6_oneIf
theorem dX4_countBurning_0 : decode cX4_countBurning 0 = .ok (.iconst 0, 1) := by decide +kernel
theorem dX4_countBurning_1 : decode cX4_countBurning 1 = .ok (.istore_n 1, 1) := by decide +kernel
theorem dX4_countBurning_2 : decode cX4_countBurning 2 = .ok (.iconst 0, 1) := by decide +kernel
theorem dX4_countBurning_3 : decode cX4_countBurning 3 = .ok (.istore_n 2, 1) := by decide +kernel
theorem dX4_countBurning_4 : decode cX4_countBurning 4 = .ok (.iload_n 2, 1) := by decide +kernel
theorem dX4_countBurning_5 : decode cX4_countBurning 5 = .ok (.aload_n 0, 1) := by decide +kernel
theorem dX4_countBurning_6 : decode cX4_countBurning 6 = .ok (.getfield 31, 3) := by decide +kernel
theorem dX4_countBurning_9 : decode cX4_countBurning 9 = .ok (.getfield 82, 3) := by decide +kernel
theorem dX4_countBurning_12 : decode cX4_countBurning 12 = .ok (.if_icmp .ge 28, 3) := by decide +kernel
theorem dX4_countBurning_15 : decode cX4_countBurning 15 = .ok (.iload_n 1, 1) := by decide +kernel
theorem dX4_countBurning_16 : decode cX4_countBurning 16 = .ok (.aload_n 0, 1) := by decide +kernel
theorem dX4_countBurning_17 : decode cX4_countBurning 17 = .ok (.iload_n 2, 1) := by decide +kernel
theorem dX4_countBurning_18 : decode cX4_countBurning 18 = .ok (.invokevirtual 228, 3) := by decide +kernel
theorem dX4_countBurning_21 : decode cX4_countBurning 21 = .ok (.ifCond .ne 7, 3) := by decide +kernel
theorem dX4_countBurning_24 : decode cX4_countBurning 24 = .ok (.iconst 1, 1) := by decide +kernel
theorem dX4_countBurning_25 : decode cX4_countBurning 25 = .ok (.goto 4, 3) := by decide +kernel
theorem dX4_countBurning_28 : decode cX4_countBurning 28 = .ok (.iconst 0, 1) := by decide +kernel
theorem dX4_countBurning_29 : decode cX4_countBurning 29 = .ok (.invokestatic 186, 3) := by decide +kernel
theorem dX4_countBurning_32 : decode cX4_countBurning 32 = .ok (.iadd, 1) := by decide +kernel
theorem dX4_countBurning_33 : decode cX4_countBurning 33 = .ok (.istore_n 1, 1) := by decide +kernel
theorem dX4_countBurning_34 : decode cX4_countBurning 34 = .ok (.iinc 2 1, 3) := by decide +kernel
theorem dX4_countBurning_37 : decode cX4_countBurning 37 = .ok (.goto (-33), 3) := by decide +kernel
theorem dX4_countBurning_40 : decode cX4_countBurning 40 = .ok (.iload_n 1, 1) := by decide +kernel
theorem dX4_countBurning_41 : decode cX4_countBurning 41 = .ok (.ireturn, 1) := by decide +kernel
theorem dX5_init_0 : decode cX5_init 0 = .ok (.aload_n 0, 1) := by decide +kernel
theorem dX5_init_1 : decode cX5_init 1 = .ok (.invokespecial 3, 3) := by decide +kernel
theorem dX5_init_4 : decode cX5_init 4 = .ok (.aload_n 0, 1) := by decide +kernel
theorem dX5_init_5 : decode cX5_init 5 = .ok (.iconst 0, 1) := by decide +kernel
theorem dX5_init_6 : decode cX5_init 6 = .ok (.putfield 9, 3) := by decide +kernel
theorem dX5_init_9 : decode cX5_init 9 = .ok (.aload_n 0, 1) := by decide +kernel
theorem dX5_init_10 : decode cX5_init 10 = .ok (.bipush 60, 2) := by decide +kernel
theorem dX5_init_12 : decode cX5_init 12 = .ok (.newarray .char, 2) := by decide +kernel
theorem dX5_init_14 : decode cX5_init 14 = .ok (.putfield 15, 3) := by decide +kernel
theorem dX5_init_17 : decode cX5_init 17 = .ok (.aload_n 0, 1) := by decide +kernel
theorem dX5_init_18 : decode cX5_init 18 = .ok (.iconst 0, 1) := by decide +kernel
theorem dX5_init_19 : decode cX5_init 19 = .ok (.putfield 19, 3) := by decide +kernel
theorem dX5_init_22 : decode cX5_init 22 = .ok (.aload_n 0, 1) := by decide +kernel
theorem dX5_init_23 : decode cX5_init 23 = .ok (.iconst 0, 1) := by decide +kernel
theorem dX5_init_24 : decode cX5_init 24 = .ok (.putfield 22, 3) := by decide +kernel
theorem dX5_init_27 : decode cX5_init 27 = .ok (.aload_n 0, 1) := by decide +kernel
theorem dX5_init_28 : decode cX5_init 28 = .ok (.iconst (-1), 1) := by decide +kernel
theorem dX5_init_29 : decode cX5_init 29 = .ok (.putfield 25, 3) := by decide +kernel
theorem dX5_init_32 : decode cX5_init 32 = .ok (.aload_n 0, 1) := by decide +kernel
theorem dX5_init_33 : decode cX5_init 33 = .ok (.iconst 0, 1) := by decide +kernel
theorem dX5_init_34 : decode cX5_init 34 = .ok (.putfield 28, 3) := by decide +kernel
theorem dX5_init_37 : decode cX5_init 37 = .ok (.aload_n 0, 1) := by decide +kernel
theorem dX5_init_38 : decode cX5_init 38 = .ok (.iconst 0, 1) := by decide +kernel
theorem dX5_init_39 : decode cX5_init 39 = .ok (.putfield 31, 3) := by decide +kernel
theorem dX5_init_42 : decode cX5_init 42 = .ok (.aload_n 0, 1) := by decide +kernel
theorem dX5_init_43 : decode cX5_init 43 = .ok (.iconst 0, 1) := by decide +kernel
theorem dX5_init_44 : decode cX5_init 44 = .ok (.putfield 34, 3) := by decide +kernel
theorem dX5_init_47 : decode cX5_init 47 = .ok (.aload_n 0, 1) := by decide +kernel
theorem dX5_init_48 : decode cX5_init 48 = .ok (.iconst 1, 1) := by decide +kernel
theorem dX5_init_49 : decode cX5_init 49 = .ok (.putfield 37, 3) := by decide +kernel
theorem dX5_init_52 : decode cX5_init 52 = .ok (.aload_n 0, 1) := by decide +kernel
theorem dX5_init_53 : decode cX5_init 53 = .ok (.iconst 0, 1) := by decide +kernel
theorem dX5_init_54 : decode cX5_init 54 = .ok (.putfield 40, 3) := by decide +kernel
theorem dX5_init_57 : decode cX5_init 57 = .ok (.return_, 1) := by decide +kernel
theorem dX5_append_0 : decode cX5_append 0 = .ok (.aload_n 0, 1) := by decide +kernel
theorem dX5_append_1 : decode cX5_append 1 = .ok (.getfield 9, 3) := by decide +kernel
theorem dX5_append_4 : decode cX5_append 4 = .ok (.bipush 60, 2) := by decide +kernel
theorem dX5_append_6 : decode cX5_append 6 = .ok (.if_icmp .lt 7, 3) := by decide +kernel
theorem dX5_append_9 : decode cX5_append 9 = .ok (.sipush (-1003), 3) := by decide +kernel
theorem dX5_append_12 : decode cX5_append 12 = .ok (.ireturn, 1) := by decide +kernel
theorem dX5_append_13 : decode cX5_append 13 = .ok (.aload_n 0, 1) := by decide +kernel
theorem dX5_append_14 : decode cX5_append 14 = .ok (.getfield 15, 3) := by decide +kernel
theorem dX5_append_17 : decode cX5_append 17 = .ok (.aload_n 0, 1) := by decide +kernel
theorem dX5_append_18 : decode cX5_append 18 = .ok (.getfield 9, 3) := by decide +kernel
theorem dX5_append_21 : decode cX5_append 21 = .ok (.iload_n 1, 1) := by decide +kernel
theorem dX5_append_22 : decode cX5_append 22 = .ok (.castore, 1) := by decide +kernel
theorem dX5_append_23 : decode cX5_append 23 = .ok (.aload_n 0, 1) := by decide +kernel
theorem dX5_append_24 : decode cX5_append 24 = .ok (.dup, 1) := by decide +kernel
theorem dX5_append_25 : decode cX5_append 25 = .ok (.getfield 9, 3) := by decide +kernel
theorem dX5_append_28 : decode cX5_append 28 = .ok (.iconst 1, 1) := by decide +kernel
theorem dX5_append_29 : decode cX5_append 29 = .ok (.iadd, 1) := by decide +kernel
theorem dX5_append_30 : decode cX5_append 30 = .ok (.putfield 9, 3) := by decide +kernel
theorem dX5_append_33 : decode cX5_append 33 = .ok (.aload_n 0, 1) := by decide +kernel
theorem dX5_append_34 : decode cX5_append 34 = .ok (.getfield 9, 3) := by decide +kernel
theorem dX5_append_37 : decode cX5_append 37 = .ok (.ireturn, 1) := by decide +kernel
theorem dX5_empty_0 : decode cX5_empty 0 = .ok (.aload_n 0, 1) := by decide +kernel
theorem dX5_empty_1 : decode cX5_empty 1 = .ok (.getfield 9, 3) := by decide +kernel
theorem dX5_empty_4 : decode cX5_empty 4 = .ok (.istore_n 1, 1) := by decide +kernel
theorem dX5_empty_5 : decode cX5_empty 5 = .ok (.aload_n 0, 1) := by decide +kernel
theorem dX5_empty_6 : decode cX5_empty 6 = .ok (.iconst 0, 1) := by decide +kernel
theorem dX5_empty_7 : decode cX5_empty 7 = .ok (.putfield 9, 3) := by decide +kernel
theorem dX5_empty_10 : decode cX5_empty 10 = .ok (.iload_n 1, 1) := by decide +kernel
theorem dX5_empty_11 : decode cX5_empty 11 = .ok (.ireturn, 1) := by decide +kernel
theorem dX5_startReading_0 : decode cX5_startReading 0 = .ok (.aload_n 0, 1) := by decide +kernel
theorem dX5_startReading_1 : decode cX5_startReading 1 = .ok (.iconst 0, 1) := by decide +kernel
theorem dX5_startReading_2 : decode cX5_startReading 2 = .ok (.putfield 19, 3) := by decide +kernel
theorem dX5_startReading_5 : decode cX5_startReading 5 = .ok (.return_, 1) := by decide +kernel
set_option maxRecDepth 20000 in
theorem ggX5_findFault_X5_startReading : GoodIn wsX5_findFault wsX5_startReading := goodIn_r _ [8, 2, 63, 64, 65, 66, 67, 68, 69, 70, 71, 72] (by decide +kernel) (by decide +kernel)
set_option maxRecDepth 20000 in
theorem gX5_findFault_X5_startReading : GoodIn wsX5_findFault (wsV RX5 43 RX5 yX5_startReading wsX5_startReading) := goodIn_app (goodIn_of _ (by decide +kernel)) ggX5_findFault_X5_startReading
set_option maxRecDepth 20000 in
theorem ggX5_findFault_X5_readThing : GoodIn wsX5_findFault wsX5_readThing := goodIn_r _ [12, 13, 14, 15, 16, 7, 17, 2, 3, 18, 19, 20, 21, 22, 23, 24, 25, 26, 27, 28, 29, 30, 31, 32, 33, 34, 35, 36, 37, 38, 39, 40, 41, 42, 43, 44, 45, 46, 47, 48, 49, 50, 51, 52, 53, 54, 55, 56, 57, 58, 59, 60, 61, 62, 63, 64, 65, 66, 67, 68, 69, 70, 71, 72] (by decide +kernel) (by decide +kernel)
set_option maxRecDepth 20000 in
theorem gX5_findFault_X5_readThing : GoodIn wsX5_findFault (wsV RX5 46 RX5 yX5_readThing wsX5_readThing) := goodIn_app (goodIn_of _ (by decide +kernel)) ggX5_findFault_X5_readThing
set_option maxRecDepth 20000 in
theorem ggX5_findFault_X5_readSign : GoodIn wsX5_findFault wsX5_readSign := goodIn_r _ [22, 2, 14, 15, 16, 7, 17, 3, 18, 63, 64, 65, 66, 67, 68, 69, 70, 71, 72] (by decide +kernel) (by decide +kernel)
set_option maxRecDepth 20000 in
theorem gX5_findFault_X5_readSign : GoodIn wsX5_findFault (wsV RX5 50 RX5 yX5_readSign wsX5_readSign) := goodIn_app (goodIn_of _ (by decide +kernel)) ggX5_findFault_X5_readSign
theorem dX5_findFault_0 : decode cX5_findFault 0 = .ok (.aload_n 0, 1) := by decide +kernel
theorem dX5_findFault_1 : decode cX5_findFault 1 = .ok (.invokevirtual 43, 3) := by decide +kernel
theorem dX5_findFault_4 : decode cX5_findFault 4 = .ok (.aload_n 0, 1) := by decide +kernel
theorem dX5_findFault_5 : decode cX5_findFault 5 = .ok (.iconst 0, 1) := by decide +kernel
theorem dX5_findFault_6 : decode cX5_findFault 6 = .ok (.putfield 22, 3) := by decide +kernel
theorem dX5_findFault_9 : decode cX5_findFault 9 = .ok (.iconst 1, 1) := by decide +kernel
theorem dX5_findFault_10 : decode cX5_findFault 10 = .ok (.istore_n 1, 1) := by decide +kernel
theorem dX5_findFault_11 : decode cX5_findFault 11 = .ok (.iload_n 1, 1) := by decide +kernel
theorem dX5_findFault_12 : decode cX5_findFault 12 = .ok (.bipush 60, 2) := by decide +kernel
theorem dX5_findFault_14 : decode cX5_findFault 14 = .ok (.if_icmp .gt 53, 3) := by decide +kernel
theorem dX5_findFault_17 : decode cX5_findFault 17 = .ok (.aload_n 0, 1) := by decide +kernel
theorem dX5_findFault_18 : decode cX5_findFault 18 = .ok (.invokevirtual 46, 3) := by decide +kernel
theorem dX5_findFault_21 : decode cX5_findFault 21 = .ok (.ifCond .ne 8, 3) := by decide +kernel
theorem dX5_findFault_24 : decode cX5_findFault 24 = .ok (.aload_n 0, 1) := by decide +kernel
theorem dX5_findFault_25 : decode cX5_findFault 25 = .ok (.getfield 19, 3) := by decide +kernel
theorem dX5_findFault_28 : decode cX5_findFault 28 = .ok (.ireturn, 1) := by decide +kernel
theorem dX5_findFault_29 : decode cX5_findFault 29 = .ok (.aload_n 0, 1) := by decide +kernel
theorem dX5_findFault_30 : decode cX5_findFault 30 = .ok (.iload_n 1, 1) := by decide +kernel
theorem dX5_findFault_31 : decode cX5_findFault 31 = .ok (.putfield 22, 3) := by decide +kernel
theorem dX5_findFault_34 : decode cX5_findFault 34 = .ok (.aload_n 0, 1) := by decide +kernel
theorem dX5_findFault_35 : decode cX5_findFault 35 = .ok (.getfield 19, 3) := by decide +kernel
theorem dX5_findFault_38 : decode cX5_findFault 38 = .ok (.aload_n 0, 1) := by decide +kernel
theorem dX5_findFault_39 : decode cX5_findFault 39 = .ok (.getfield 9, 3) := by decide +kernel
theorem dX5_findFault_42 : decode cX5_findFault 42 = .ok (.if_icmp .ne 5, 3) := by decide +kernel
theorem dX5_findFault_45 : decode cX5_findFault 45 = .ok (.iconst (-1), 1) := by decide +kernel
theorem dX5_findFault_46 : decode cX5_findFault 46 = .ok (.ireturn, 1) := by decide +kernel
theorem dX5_findFault_47 : decode cX5_findFault 47 = .ok (.aload_n 0, 1) := by decide +kernel
theorem dX5_findFault_48 : decode cX5_findFault 48 = .ok (.bipush 59, 2) := by decide +kernel
theorem dX5_findFault_50 : decode cX5_findFault 50 = .ok (.invokevirtual 50, 3) := by decide +kernel
theorem dX5_findFault_53 : decode cX5_findFault 53 = .ok (.ifCond .ne 8, 3) := by decide +kernel
theorem dX5_findFault_56 : decode cX5_findFault 56 = .ok (.aload_n 0, 1) := by decide +kernel
theorem dX5_findFault_57 : decode cX5_findFault 57 = .ok (.getfield 19, 3) := by decide +kernel
theorem dX5_findFault_60 : decode cX5_findFault 60 = .ok (.ireturn, 1) := by decide +kernel
theorem dX5_findFault_61 : decode cX5_findFault 61 = .ok (.iinc 1 1, 3) := by decide +kernel
theorem dX5_findFault_64 : decode cX5_findFault 64 = .ok (.goto (-53), 3) := by decide +kernel
theorem dX5_findFault_67 : decode cX5_findFault 67 = .ok (.aload_n 0, 1) := by decide +kernel
theorem dX5_findFault_68 : decode cX5_findFault 68 = .ok (.getfield 19, 3) := by decide +kernel
theorem dX5_findFault_71 : decode cX5_findFault 71 = .ok (.ireturn, 1) := by decide +kernel
set_option maxRecDepth 20000 in
theorem ggX5_readThing_X5_current : GoodIn wsX5_readThing wsX5_current := goodIn_r _ [6, 7, 8, 9, 54, 55, 56, 57, 58, 59, 60, 61, 62, 63] (by decide +kernel) (by decide +kernel)
set_option maxRecDepth 20000 in
theorem gX5_readThing_X5_current : GoodIn wsX5_readThing (wsV RX5 54 RX5 yX5_current wsX5_current) := goodIn_app (goodIn_of _ (by decide +kernel)) ggX5_readThing_X5_current
set_option maxRecDepth 20000 in
theorem ggX5_readThing_X5_readSign : GoodIn wsX5_readThing wsX5_readSign := goodIn_r _ [13, 7, 2, 3, 4, 5, 6, 8, 9, 54, 55, 56, 57, 58, 59, 60, 61, 62, 63] (by decide +kernel) (by decide +kernel)
set_option maxRecDepth 20000 in
theorem gX5_readThing_X5_readSign : GoodIn wsX5_readThing (wsV RX5 50 RX5 yX5_readSign wsX5_readSign) := goodIn_app (goodIn_of _ (by decide +kernel)) ggX5_readThing_X5_readSign
set_option maxRecDepth 20000 in
theorem ggX5_readThing_X5_readSpot : GoodIn wsX5_readThing wsX5_readSpot := goodIn_r _ [17, 18, 19, 20, 21, 22, 5, 23, 24, 25, 26, 27, 28, 7, 2, 3, 4, 6, 8, 9, 29, 30, 31, 54, 55, 56, 57, 58, 59, 60, 61, 62, 63] (by decide +kernel) (by decide +kernel)
set_option maxRecDepth 20000 in
theorem gX5_readThing_X5_readSpot : GoodIn wsX5_readThing (wsV RX5 58 RX5 yX5_readSpot wsX5_readSpot) := goodIn_app (goodIn_of _ (by decide +kernel)) ggX5_readThing_X5_readSpot
set_option maxRecDepth 20000 in
theorem ggX5_readThing_X5_readDigit : GoodIn wsX5_readThing wsX5_readDigit := goodIn_r _ [28, 18, 7, 2, 3, 4, 5, 6, 8, 9, 29, 30, 31, 54, 55, 56, 57, 58, 59, 60, 61, 62, 63] (by decide +kernel) (by decide +kernel)
set_option maxRecDepth 20000 in
theorem gX5_readThing_X5_readDigit : GoodIn wsX5_readThing (wsV RX5 61 RX5 yX5_readDigit wsX5_readDigit) := goodIn_app (goodIn_of _ (by decide +kernel)) ggX5_readThing_X5_readDigit
set_option maxRecDepth 20000 in
theorem ggX5_readThing_X5_readRackAndColon : GoodIn wsX5_readThing wsX5_readRackAndColon := goodIn_r _ [35, 20, 21, 22, 5, 23, 18, 24, 25, 26, 27, 28, 7, 2, 3, 4, 6, 8, 9, 29, 30, 31, 10, 11, 12, 13, 54, 55, 56, 57, 58, 59, 60, 61, 62, 63] (by decide +kernel) (by decide +kernel)
set_option maxRecDepth 20000 in
theorem gX5_readThing_X5_readRackAndColon : GoodIn wsX5_readThing (wsV RX5 65 RX5 yX5_readRackAndColon wsX5_readRackAndColon) := goodIn_app (goodIn_of _ (by decide +kernel)) ggX5_readThing_X5_readRackAndColon
set_option maxRecDepth 20000 in
theorem ggX5_readThing_X5_readNumber : GoodIn wsX5_readThing wsX5_readNumber := goodIn_r _ [39, 18, 7, 8, 2, 3, 4, 5, 6, 9, 29, 30, 31, 40, 41, 42, 43, 54, 55, 56, 57, 58, 59, 60, 61, 62, 63] (by decide +kernel) (by decide +kernel)
set_option maxRecDepth 20000 in
theorem gX5_readThing_X5_readNumber : GoodIn wsX5_readThing (wsV RX5 68 RX5 yX5_readNumber wsX5_readNumber) := goodIn_app (goodIn_of _ (by decide +kernel)) ggX5_readThing_X5_readNumber
set_option maxRecDepth 20000 in
theorem ggX5_readThing_X5_readSteps : GoodIn wsX5_readThing wsX5_readSteps := goodIn_r _ [47, 18, 48, 36, 37, 38, 5, 39, 7, 8, 2, 3, 4, 6, 9, 29, 30, 31, 40, 41, 42, 43, 49, 50, 51, 52, 53, 10, 11, 12, 13, 54, 55, 56, 57, 58, 59, 60, 61, 62, 63] (by decide +kernel) (by decide +kernel)
set_option maxRecDepth 20000 in
theorem gX5_readThing_X5_readSteps : GoodIn wsX5_readThing (wsV RX5 72 RX5 yX5_readSteps wsX5_readSteps) := goodIn_app (goodIn_of _ (by decide +kernel)) ggX5_readThing_X5_readSteps
theorem dX5_readThing_0 : decode cX5_readThing 0 = .ok (.aload_n 0, 1) := by decide +kernel
theorem dX5_readThing_1 : decode cX5_readThing 1 = .ok (.aload_n 0, 1) := by decide +kernel
theorem dX5_readThing_2 : decode cX5_readThing 2 = .ok (.invokevirtual 54, 3) := by decide +kernel
theorem dX5_readThing_5 : decode cX5_readThing 5 = .ok (.putfield 25, 3) := by decide +kernel
theorem dX5_readThing_8 : decode cX5_readThing 8 = .ok (.aload_n 0, 1) := by decide +kernel
theorem dX5_readThing_9 : decode cX5_readThing 9 = .ok (.getfield 25, 3) := by decide +kernel
theorem dX5_readThing_12 : decode cX5_readThing 12 = .ok (.lookupswitch 201 #[(46, 175), (112, 52), (115, 146), (116, 91), (118, 113)], 52) := by decide +kernel
theorem dX5_readThing_64 : decode cX5_readThing 64 = .ok (.aload_n 0, 1) := by decide +kernel
theorem dX5_readThing_65 : decode cX5_readThing 65 = .ok (.bipush 112, 2) := by decide +kernel
theorem dX5_readThing_67 : decode cX5_readThing 67 = .ok (.invokevirtual 50, 3) := by decide +kernel
theorem dX5_readThing_70 : decode cX5_readThing 70 = .ok (.ifCond .eq 31, 3) := by decide +kernel
theorem dX5_readThing_73 : decode cX5_readThing 73 = .ok (.aload_n 0, 1) := by decide +kernel
theorem dX5_readThing_74 : decode cX5_readThing 74 = .ok (.invokevirtual 58, 3) := by decide +kernel
theorem dX5_readThing_77 : decode cX5_readThing 77 = .ok (.ifCond .eq 24, 3) := by decide +kernel
theorem dX5_readThing_80 : decode cX5_readThing 80 = .ok (.aload_n 0, 1) := by decide +kernel
theorem dX5_readThing_81 : decode cX5_readThing 81 = .ok (.bipush 58, 2) := by decide +kernel
theorem dX5_readThing_83 : decode cX5_readThing 83 = .ok (.invokevirtual 50, 3) := by decide +kernel
theorem dX5_readThing_86 : decode cX5_readThing 86 = .ok (.ifCond .eq 15, 3) := by decide +kernel
theorem dX5_readThing_89 : decode cX5_readThing 89 = .ok (.aload_n 0, 1) := by decide +kernel
theorem dX5_readThing_90 : decode cX5_readThing 90 = .ok (.iconst 5, 1) := by decide +kernel
theorem dX5_readThing_91 : decode cX5_readThing 91 = .ok (.invokevirtual 61, 3) := by decide +kernel
theorem dX5_readThing_94 : decode cX5_readThing 94 = .ok (.ifCond .eq 7, 3) := by decide +kernel
theorem dX5_readThing_97 : decode cX5_readThing 97 = .ok (.iconst 1, 1) := by decide +kernel
theorem dX5_readThing_98 : decode cX5_readThing 98 = .ok (.goto 4, 3) := by decide +kernel
theorem dX5_readThing_101 : decode cX5_readThing 101 = .ok (.iconst 0, 1) := by decide +kernel
theorem dX5_readThing_102 : decode cX5_readThing 102 = .ok (.ireturn, 1) := by decide +kernel
theorem dX5_readThing_103 : decode cX5_readThing 103 = .ok (.aload_n 0, 1) := by decide +kernel
theorem dX5_readThing_104 : decode cX5_readThing 104 = .ok (.bipush 116, 2) := by decide +kernel
theorem dX5_readThing_106 : decode cX5_readThing 106 = .ok (.invokevirtual 50, 3) := by decide +kernel
theorem dX5_readThing_109 : decode cX5_readThing 109 = .ok (.ifCond .eq 14, 3) := by decide +kernel
theorem dX5_readThing_112 : decode cX5_readThing 112 = .ok (.aload_n 0, 1) := by decide +kernel
theorem dX5_readThing_113 : decode cX5_readThing 113 = .ok (.invokevirtual 58, 3) := by decide +kernel
theorem dX5_readThing_116 : decode cX5_readThing 116 = .ok (.ifCond .eq 7, 3) := by decide +kernel
theorem dX5_readThing_119 : decode cX5_readThing 119 = .ok (.iconst 1, 1) := by decide +kernel
theorem dX5_readThing_120 : decode cX5_readThing 120 = .ok (.goto 4, 3) := by decide +kernel
theorem dX5_readThing_123 : decode cX5_readThing 123 = .ok (.iconst 0, 1) := by decide +kernel
theorem dX5_readThing_124 : decode cX5_readThing 124 = .ok (.ireturn, 1) := by decide +kernel
theorem dX5_readThing_125 : decode cX5_readThing 125 = .ok (.aload_n 0, 1) := by decide +kernel
theorem dX5_readThing_126 : decode cX5_readThing 126 = .ok (.bipush 118, 2) := by decide +kernel
theorem dX5_readThing_128 : decode cX5_readThing 128 = .ok (.invokevirtual 50, 3) := by decide +kernel
theorem dX5_readThing_131 : decode cX5_readThing 131 = .ok (.ifCond .eq 25, 3) := by decide +kernel
theorem dX5_readThing_134 : decode cX5_readThing 134 = .ok (.aload_n 0, 1) := by decide +kernel
theorem dX5_readThing_135 : decode cX5_readThing 135 = .ok (.invokevirtual 65, 3) := by decide +kernel
theorem dX5_readThing_138 : decode cX5_readThing 138 = .ok (.ifCond .eq 18, 3) := by decide +kernel
theorem dX5_readThing_141 : decode cX5_readThing 141 = .ok (.aload_n 0, 1) := by decide +kernel
theorem dX5_readThing_142 : decode cX5_readThing 142 = .ok (.iconst 0, 1) := by decide +kernel
theorem dX5_readThing_143 : decode cX5_readThing 143 = .ok (.sipush 300, 3) := by decide +kernel
theorem dX5_readThing_146 : decode cX5_readThing 146 = .ok (.invokevirtual 68, 3) := by decide +kernel
theorem dX5_readThing_149 : decode cX5_readThing 149 = .ok (.ifCond .eq 7, 3) := by decide +kernel
theorem dX5_readThing_152 : decode cX5_readThing 152 = .ok (.iconst 1, 1) := by decide +kernel
theorem dX5_readThing_153 : decode cX5_readThing 153 = .ok (.goto 4, 3) := by decide +kernel
theorem dX5_readThing_156 : decode cX5_readThing 156 = .ok (.iconst 0, 1) := by decide +kernel
theorem dX5_readThing_157 : decode cX5_readThing 157 = .ok (.ireturn, 1) := by decide +kernel
theorem dX5_readThing_158 : decode cX5_readThing 158 = .ok (.aload_n 0, 1) := by decide +kernel
theorem dX5_readThing_159 : decode cX5_readThing 159 = .ok (.bipush 115, 2) := by decide +kernel
theorem dX5_readThing_161 : decode cX5_readThing 161 = .ok (.invokevirtual 50, 3) := by decide +kernel
theorem dX5_readThing_164 : decode cX5_readThing 164 = .ok (.ifCond .eq 21, 3) := by decide +kernel
theorem dX5_readThing_167 : decode cX5_readThing 167 = .ok (.aload_n 0, 1) := by decide +kernel
theorem dX5_readThing_168 : decode cX5_readThing 168 = .ok (.invokevirtual 65, 3) := by decide +kernel
theorem dX5_readThing_171 : decode cX5_readThing 171 = .ok (.ifCond .eq 14, 3) := by decide +kernel
theorem dX5_readThing_174 : decode cX5_readThing 174 = .ok (.aload_n 0, 1) := by decide +kernel
theorem dX5_readThing_175 : decode cX5_readThing 175 = .ok (.invokevirtual 72, 3) := by decide +kernel
theorem dX5_readThing_178 : decode cX5_readThing 178 = .ok (.ifCond .eq 7, 3) := by decide +kernel
theorem dX5_readThing_181 : decode cX5_readThing 181 = .ok (.iconst 1, 1) := by decide +kernel
theorem dX5_readThing_182 : decode cX5_readThing 182 = .ok (.goto 4, 3) := by decide +kernel
theorem dX5_readThing_185 : decode cX5_readThing 185 = .ok (.iconst 0, 1) := by decide +kernel
theorem dX5_readThing_186 : decode cX5_readThing 186 = .ok (.ireturn, 1) := by decide +kernel
theorem dX5_readThing_187 : decode cX5_readThing 187 = .ok (.aload_n 0, 1) := by decide +kernel
theorem dX5_readThing_188 : decode cX5_readThing 188 = .ok (.bipush 46, 2) := by decide +kernel
theorem dX5_readThing_190 : decode cX5_readThing 190 = .ok (.invokevirtual 50, 3) := by decide +kernel
theorem dX5_readThing_193 : decode cX5_readThing 193 = .ok (.ifCond .eq 18, 3) := by decide +kernel
theorem dX5_readThing_196 : decode cX5_readThing 196 = .ok (.aload_n 0, 1) := by decide +kernel
theorem dX5_readThing_197 : decode cX5_readThing 197 = .ok (.iconst 1, 1) := by decide +kernel
theorem dX5_readThing_198 : decode cX5_readThing 198 = .ok (.sipush 999, 3) := by decide +kernel
theorem dX5_readThing_201 : decode cX5_readThing 201 = .ok (.invokevirtual 68, 3) := by decide +kernel
theorem dX5_readThing_204 : decode cX5_readThing 204 = .ok (.ifCond .eq 7, 3) := by decide +kernel
theorem dX5_readThing_207 : decode cX5_readThing 207 = .ok (.iconst 1, 1) := by decide +kernel
theorem dX5_readThing_208 : decode cX5_readThing 208 = .ok (.goto 4, 3) := by decide +kernel
theorem dX5_readThing_211 : decode cX5_readThing 211 = .ok (.iconst 0, 1) := by decide +kernel
theorem dX5_readThing_212 : decode cX5_readThing 212 = .ok (.ireturn, 1) := by decide +kernel
theorem dX5_readThing_213 : decode cX5_readThing 213 = .ok (.iconst 0, 1) := by decide +kernel
theorem dX5_readThing_214 : decode cX5_readThing 214 = .ok (.ireturn, 1) := by decide +kernel
set_option maxRecDepth 20000 in
theorem ggX5_readSign_X5_current : GoodIn wsX5_readSign wsX5_current := goodIn_r _ [6, 1, 7, 8, 9, 10, 11, 12, 13, 14, 15, 16, 17, 18] (by decide +kernel) (by decide +kernel)
set_option maxRecDepth 20000 in
theorem gX5_readSign_X5_current : GoodIn wsX5_readSign (wsV RX5 54 RX5 yX5_current wsX5_current) := goodIn_app (goodIn_of _ (by decide +kernel)) ggX5_readSign_X5_current
theorem dX5_readSign_0 : decode cX5_readSign 0 = .ok (.aload_n 0, 1) := by decide +kernel
theorem dX5_readSign_1 : decode cX5_readSign 1 = .ok (.invokevirtual 54, 3) := by decide +kernel
theorem dX5_readSign_4 : decode cX5_readSign 4 = .ok (.iload_n 1, 1) := by decide +kernel
theorem dX5_readSign_5 : decode cX5_readSign 5 = .ok (.if_icmp .eq 5, 3) := by decide +kernel
theorem dX5_readSign_8 : decode cX5_readSign 8 = .ok (.iconst 0, 1) := by decide +kernel
theorem dX5_readSign_9 : decode cX5_readSign 9 = .ok (.ireturn, 1) := by decide +kernel
theorem dX5_readSign_10 : decode cX5_readSign 10 = .ok (.aload_n 0, 1) := by decide +kernel
theorem dX5_readSign_11 : decode cX5_readSign 11 = .ok (.dup, 1) := by decide +kernel
theorem dX5_readSign_12 : decode cX5_readSign 12 = .ok (.getfield 19, 3) := by decide +kernel
theorem dX5_readSign_15 : decode cX5_readSign 15 = .ok (.iconst 1, 1) := by decide +kernel
theorem dX5_readSign_16 : decode cX5_readSign 16 = .ok (.iadd, 1) := by decide +kernel
theorem dX5_readSign_17 : decode cX5_readSign 17 = .ok (.putfield 19, 3) := by decide +kernel
theorem dX5_readSign_20 : decode cX5_readSign 20 = .ok (.iconst 1, 1) := by decide +kernel
theorem dX5_readSign_21 : decode cX5_readSign 21 = .ok (.ireturn, 1) := by decide +kernel
theorem dX5_current_0 : decode cX5_current 0 = .ok (.aload_n 0, 1) := by decide +kernel
theorem dX5_current_1 : decode cX5_current 1 = .ok (.getfield 19, 3) := by decide +kernel
theorem dX5_current_4 : decode cX5_current 4 = .ok (.aload_n 0, 1) := by decide +kernel
theorem dX5_current_5 : decode cX5_current 5 = .ok (.getfield 9, 3) := by decide +kernel
theorem dX5_current_8 : decode cX5_current 8 = .ok (.if_icmp .ge 15, 3) := by decide +kernel
theorem dX5_current_11 : decode cX5_current 11 = .ok (.aload_n 0, 1) := by decide +kernel
theorem dX5_current_12 : decode cX5_current 12 = .ok (.getfield 15, 3) := by decide +kernel
theorem dX5_current_15 : decode cX5_current 15 = .ok (.aload_n 0, 1) := by decide +kernel
theorem dX5_current_16 : decode cX5_current 16 = .ok (.getfield 19, 3) := by decide +kernel
theorem dX5_current_19 : decode cX5_current 19 = .ok (.caload, 1) := by decide +kernel
theorem dX5_current_20 : decode cX5_current 20 = .ok (.goto 4, 3) := by decide +kernel
theorem dX5_current_23 : decode cX5_current 23 = .ok (.iconst (-1), 1) := by decide +kernel
theorem dX5_current_24 : decode cX5_current 24 = .ok (.ireturn, 1) := by decide +kernel
set_option maxRecDepth 20000 in
theorem ggX5_readSpot_X5_readRack : GoodIn wsX5_readSpot wsX5_readRack := goodIn_r _ [7, 1, 8, 9, 10, 11, 6, 12, 13, 14, 15, 16, 17, 18, 19, 20, 21, 22, 23, 24, 25, 26, 27, 28, 29, 30, 31, 32] (by decide +kernel) (by decide +kernel)
set_option maxRecDepth 20000 in
theorem gX5_readSpot_X5_readRack : GoodIn wsX5_readSpot (wsV RX5 75 RX5 yX5_readRack wsX5_readRack) := goodIn_app (goodIn_of _ (by decide +kernel)) ggX5_readSpot_X5_readRack
set_option maxRecDepth 20000 in
theorem ggX5_readSpot_X5_readDigit : GoodIn wsX5_readSpot wsX5_readDigit := goodIn_r _ [12, 1, 13, 14, 15, 16, 6, 17, 18, 19, 20, 21, 22, 23, 24, 25, 26, 27, 28, 29, 30, 31, 32] (by decide +kernel) (by decide +kernel)
set_option maxRecDepth 20000 in
theorem gX5_readSpot_X5_readDigit : GoodIn wsX5_readSpot (wsV RX5 61 RX5 yX5_readDigit wsX5_readDigit) := goodIn_app (goodIn_of _ (by decide +kernel)) ggX5_readSpot_X5_readDigit
theorem dX5_readSpot_0 : decode cX5_readSpot 0 = .ok (.aload_n 0, 1) := by decide +kernel
theorem dX5_readSpot_1 : decode cX5_readSpot 1 = .ok (.invokevirtual 75, 3) := by decide +kernel
theorem dX5_readSpot_4 : decode cX5_readSpot 4 = .ok (.ifCond .eq 12, 3) := by decide +kernel
theorem dX5_readSpot_7 : decode cX5_readSpot 7 = .ok (.aload_n 0, 1) := by decide +kernel
theorem dX5_readSpot_8 : decode cX5_readSpot 8 = .ok (.bipush 7, 2) := by decide +kernel
theorem dX5_readSpot_10 : decode cX5_readSpot 10 = .ok (.invokevirtual 61, 3) := by decide +kernel
theorem dX5_readSpot_13 : decode cX5_readSpot 13 = .ok (.ifCond .ne 5, 3) := by decide +kernel
theorem dX5_readSpot_16 : decode cX5_readSpot 16 = .ok (.iconst 0, 1) := by decide +kernel
theorem dX5_readSpot_17 : decode cX5_readSpot 17 = .ok (.ireturn, 1) := by decide +kernel
theorem dX5_readSpot_18 : decode cX5_readSpot 18 = .ok (.aload_n 0, 1) := by decide +kernel
theorem dX5_readSpot_19 : decode cX5_readSpot 19 = .ok (.aload_n 0, 1) := by decide +kernel
theorem dX5_readSpot_20 : decode cX5_readSpot 20 = .ok (.getfield 40, 3) := by decide +kernel
theorem dX5_readSpot_23 : decode cX5_readSpot 23 = .ok (.putfield 31, 3) := by decide +kernel
theorem dX5_readSpot_26 : decode cX5_readSpot 26 = .ok (.iconst 1, 1) := by decide +kernel
theorem dX5_readSpot_27 : decode cX5_readSpot 27 = .ok (.ireturn, 1) := by decide +kernel
set_option maxRecDepth 20000 in
theorem ggX5_readRackAndColon_X5_readRack : GoodIn wsX5_readRackAndColon wsX5_readRack := goodIn_r _ [5, 6, 7, 8, 9, 10, 4, 11, 12, 13, 14, 15, 16, 17, 18, 19, 20, 21, 26, 27, 28, 29, 30, 31, 32, 33, 34, 35] (by decide +kernel) (by decide +kernel)
set_option maxRecDepth 20000 in
theorem gX5_readRackAndColon_X5_readRack : GoodIn wsX5_readRackAndColon (wsV RX5 75 RX5 yX5_readRack wsX5_readRack) := goodIn_app (goodIn_of _ (by decide +kernel)) ggX5_readRackAndColon_X5_readRack
set_option maxRecDepth 20000 in
theorem ggX5_readRackAndColon_X5_readSign : GoodIn wsX5_readRackAndColon wsX5_readSign := goodIn_r _ [25, 12, 13, 14, 15, 4, 16, 17, 18, 26, 27, 28, 29, 30, 31, 32, 33, 34, 35] (by decide +kernel) (by decide +kernel)
set_option maxRecDepth 20000 in
theorem gX5_readRackAndColon_X5_readSign : GoodIn wsX5_readRackAndColon (wsV RX5 50 RX5 yX5_readSign wsX5_readSign) := goodIn_app (goodIn_of _ (by decide +kernel)) ggX5_readRackAndColon_X5_readSign
theorem dX5_readRackAndColon_0 : decode cX5_readRackAndColon 0 = .ok (.aload_n 0, 1) := by decide +kernel
theorem dX5_readRackAndColon_1 : decode cX5_readRackAndColon 1 = .ok (.invokevirtual 75, 3) := by decide +kernel
theorem dX5_readRackAndColon_4 : decode cX5_readRackAndColon 4 = .ok (.ifCond .eq 16, 3) := by decide +kernel
theorem dX5_readRackAndColon_7 : decode cX5_readRackAndColon 7 = .ok (.aload_n 0, 1) := by decide +kernel
theorem dX5_readRackAndColon_8 : decode cX5_readRackAndColon 8 = .ok (.bipush 58, 2) := by decide +kernel
theorem dX5_readRackAndColon_10 : decode cX5_readRackAndColon 10 = .ok (.invokevirtual 50, 3) := by decide +kernel
theorem dX5_readRackAndColon_13 : decode cX5_readRackAndColon 13 = .ok (.ifCond .eq 7, 3) := by decide +kernel
theorem dX5_readRackAndColon_16 : decode cX5_readRackAndColon 16 = .ok (.iconst 1, 1) := by decide +kernel
theorem dX5_readRackAndColon_17 : decode cX5_readRackAndColon 17 = .ok (.goto 4, 3) := by decide +kernel
theorem dX5_readRackAndColon_20 : decode cX5_readRackAndColon 20 = .ok (.iconst 0, 1) := by decide +kernel
theorem dX5_readRackAndColon_21 : decode cX5_readRackAndColon 21 = .ok (.ireturn, 1) := by decide +kernel
set_option maxRecDepth 20000 in
theorem ggX5_readRack_X5_readDigit : GoodIn wsX5_readRack wsX5_readDigit := goodIn_r _ [7, 1, 8, 9, 10, 11, 6, 12, 13, 14, 15, 16, 17, 18, 19, 20, 21, 22, 23, 24, 25, 26, 27] (by decide +kernel) (by decide +kernel)
set_option maxRecDepth 20000 in
theorem gX5_readRack_X5_readDigit : GoodIn wsX5_readRack (wsV RX5 61 RX5 yX5_readDigit wsX5_readDigit) := goodIn_app (goodIn_of _ (by decide +kernel)) ggX5_readRack_X5_readDigit
theorem dX5_readRack_0 : decode cX5_readRack 0 = .ok (.aload_n 0, 1) := by decide +kernel
theorem dX5_readRack_1 : decode cX5_readRack 1 = .ok (.iconst 2, 1) := by decide +kernel
theorem dX5_readRack_2 : decode cX5_readRack 2 = .ok (.invokevirtual 61, 3) := by decide +kernel
theorem dX5_readRack_5 : decode cX5_readRack 5 = .ok (.ifCond .ne 5, 3) := by decide +kernel
theorem dX5_readRack_8 : decode cX5_readRack 8 = .ok (.iconst 0, 1) := by decide +kernel
theorem dX5_readRack_9 : decode cX5_readRack 9 = .ok (.ireturn, 1) := by decide +kernel
theorem dX5_readRack_10 : decode cX5_readRack 10 = .ok (.aload_n 0, 1) := by decide +kernel
theorem dX5_readRack_11 : decode cX5_readRack 11 = .ok (.aload_n 0, 1) := by decide +kernel
theorem dX5_readRack_12 : decode cX5_readRack 12 = .ok (.getfield 40, 3) := by decide +kernel
theorem dX5_readRack_15 : decode cX5_readRack 15 = .ok (.putfield 28, 3) := by decide +kernel
theorem dX5_readRack_18 : decode cX5_readRack 18 = .ok (.iconst 1, 1) := by decide +kernel
theorem dX5_readRack_19 : decode cX5_readRack 19 = .ok (.ireturn, 1) := by decide +kernel
set_option maxRecDepth 20000 in
theorem ggX5_readSteps_X5_readNumber : GoodIn wsX5_readSteps wsX5_readNumber := goodIn_r _ [7, 1, 8, 9, 10, 11, 12, 6, 13, 14, 15, 16, 17, 18, 19, 20, 21, 31, 32, 33, 34, 35, 36, 37, 38, 39, 40] (by decide +kernel) (by decide +kernel)
set_option maxRecDepth 20000 in
theorem gX5_readSteps_X5_readNumber : GoodIn wsX5_readSteps (wsV RX5 68 RX5 yX5_readNumber wsX5_readNumber) := goodIn_app (goodIn_of _ (by decide +kernel)) ggX5_readSteps_X5_readNumber
set_option maxRecDepth 20000 in
theorem ggX5_readSteps_X5_readDirection : GoodIn wsX5_readSteps wsX5_readDirection := goodIn_r _ [25, 26, 10, 11, 12, 6, 13, 8, 9, 14, 27, 28, 29, 30, 31, 32, 33, 34, 35, 36, 37, 38, 39, 40] (by decide +kernel) (by decide +kernel)
set_option maxRecDepth 20000 in
theorem gX5_readSteps_X5_readDirection : GoodIn wsX5_readSteps (wsV RX5 78 RX5 yX5_readDirection wsX5_readDirection) := goodIn_app (goodIn_of _ (by decide +kernel)) ggX5_readSteps_X5_readDirection
theorem dX5_readSteps_0 : decode cX5_readSteps 0 = .ok (.aload_n 0, 1) := by decide +kernel
theorem dX5_readSteps_1 : decode cX5_readSteps 1 = .ok (.iconst 0, 1) := by decide +kernel
theorem dX5_readSteps_2 : decode cX5_readSteps 2 = .ok (.bipush 99, 2) := by decide +kernel
theorem dX5_readSteps_4 : decode cX5_readSteps 4 = .ok (.invokevirtual 68, 3) := by decide +kernel
theorem dX5_readSteps_7 : decode cX5_readSteps 7 = .ok (.ifCond .ne 5, 3) := by decide +kernel
theorem dX5_readSteps_10 : decode cX5_readSteps 10 = .ok (.iconst 0, 1) := by decide +kernel
theorem dX5_readSteps_11 : decode cX5_readSteps 11 = .ok (.ireturn, 1) := by decide +kernel
theorem dX5_readSteps_12 : decode cX5_readSteps 12 = .ok (.aload_n 0, 1) := by decide +kernel
theorem dX5_readSteps_13 : decode cX5_readSteps 13 = .ok (.aload_n 0, 1) := by decide +kernel
theorem dX5_readSteps_14 : decode cX5_readSteps 14 = .ok (.getfield 40, 3) := by decide +kernel
theorem dX5_readSteps_17 : decode cX5_readSteps 17 = .ok (.putfield 34, 3) := by decide +kernel
theorem dX5_readSteps_20 : decode cX5_readSteps 20 = .ok (.aload_n 0, 1) := by decide +kernel
theorem dX5_readSteps_21 : decode cX5_readSteps 21 = .ok (.invokevirtual 78, 3) := by decide +kernel
theorem dX5_readSteps_24 : decode cX5_readSteps 24 = .ok (.ifCond .eq 17, 3) := by decide +kernel
theorem dX5_readSteps_27 : decode cX5_readSteps 27 = .ok (.aload_n 0, 1) := by decide +kernel
theorem dX5_readSteps_28 : decode cX5_readSteps 28 = .ok (.iconst 0, 1) := by decide +kernel
theorem dX5_readSteps_29 : decode cX5_readSteps 29 = .ok (.bipush 50, 2) := by decide +kernel
theorem dX5_readSteps_31 : decode cX5_readSteps 31 = .ok (.invokevirtual 68, 3) := by decide +kernel
theorem dX5_readSteps_34 : decode cX5_readSteps 34 = .ok (.ifCond .eq 7, 3) := by decide +kernel
theorem dX5_readSteps_37 : decode cX5_readSteps 37 = .ok (.iconst 1, 1) := by decide +kernel
theorem dX5_readSteps_38 : decode cX5_readSteps 38 = .ok (.goto 4, 3) := by decide +kernel
theorem dX5_readSteps_41 : decode cX5_readSteps 41 = .ok (.iconst 0, 1) := by decide +kernel
theorem dX5_readSteps_42 : decode cX5_readSteps 42 = .ok (.ireturn, 1) := by decide +kernel
set_option maxRecDepth 20000 in
theorem ggX5_readDirection_X5_current : GoodIn wsX5_readDirection wsX5_current := goodIn_r _ [6, 7, 8, 9, 14, 15, 16, 17, 18, 19, 20, 21, 22, 23] (by decide +kernel) (by decide +kernel)
set_option maxRecDepth 20000 in
theorem gX5_readDirection_X5_current : GoodIn wsX5_readDirection (wsV RX5 54 RX5 yX5_current wsX5_current) := goodIn_app (goodIn_of _ (by decide +kernel)) ggX5_readDirection_X5_current
set_option maxRecDepth 20000 in
theorem ggX5_readDirection_X5_readSign : GoodIn wsX5_readDirection wsX5_readSign := goodIn_r _ [13, 7, 2, 3, 4, 5, 6, 8, 9, 14, 15, 16, 17, 18, 19, 20, 21, 22, 23] (by decide +kernel) (by decide +kernel)
set_option maxRecDepth 20000 in
theorem gX5_readDirection_X5_readSign : GoodIn wsX5_readDirection (wsV RX5 50 RX5 yX5_readSign wsX5_readSign) := goodIn_app (goodIn_of _ (by decide +kernel)) ggX5_readDirection_X5_readSign
theorem dX5_readDirection_0 : decode cX5_readDirection 0 = .ok (.aload_n 0, 1) := by decide +kernel
theorem dX5_readDirection_1 : decode cX5_readDirection 1 = .ok (.aload_n 0, 1) := by decide +kernel
theorem dX5_readDirection_2 : decode cX5_readDirection 2 = .ok (.invokevirtual 54, 3) := by decide +kernel
theorem dX5_readDirection_5 : decode cX5_readDirection 5 = .ok (.bipush 45, 2) := by decide +kernel
theorem dX5_readDirection_7 : decode cX5_readDirection 7 = .ok (.if_icmp .ne 7, 3) := by decide +kernel
theorem dX5_readDirection_10 : decode cX5_readDirection 10 = .ok (.iconst (-1), 1) := by decide +kernel
theorem dX5_readDirection_11 : decode cX5_readDirection 11 = .ok (.goto 4, 3) := by decide +kernel
theorem dX5_readDirection_14 : decode cX5_readDirection 14 = .ok (.iconst 1, 1) := by decide +kernel
theorem dX5_readDirection_15 : decode cX5_readDirection 15 = .ok (.putfield 37, 3) := by decide +kernel
theorem dX5_readDirection_18 : decode cX5_readDirection 18 = .ok (.aload_n 0, 1) := by decide +kernel
theorem dX5_readDirection_19 : decode cX5_readDirection 19 = .ok (.bipush 45, 2) := by decide +kernel
theorem dX5_readDirection_21 : decode cX5_readDirection 21 = .ok (.invokevirtual 50, 3) := by decide +kernel
theorem dX5_readDirection_24 : decode cX5_readDirection 24 = .ok (.ifCond .ne 12, 3) := by decide +kernel
theorem dX5_readDirection_27 : decode cX5_readDirection 27 = .ok (.aload_n 0, 1) := by decide +kernel
theorem dX5_readDirection_28 : decode cX5_readDirection 28 = .ok (.bipush 43, 2) := by decide +kernel
theorem dX5_readDirection_30 : decode cX5_readDirection 30 = .ok (.invokevirtual 50, 3) := by decide +kernel
theorem dX5_readDirection_33 : decode cX5_readDirection 33 = .ok (.ifCond .eq 7, 3) := by decide +kernel
theorem dX5_readDirection_36 : decode cX5_readDirection 36 = .ok (.iconst 1, 1) := by decide +kernel
theorem dX5_readDirection_37 : decode cX5_readDirection 37 = .ok (.goto 4, 3) := by decide +kernel
theorem dX5_readDirection_40 : decode cX5_readDirection 40 = .ok (.iconst 0, 1) := by decide +kernel
theorem dX5_readDirection_41 : decode cX5_readDirection 41 = .ok (.ireturn, 1) := by decide +kernel
set_option maxRecDepth 20000 in
theorem ggX5_readDigit_X5_current : GoodIn wsX5_readDigit wsX5_current := goodIn_r _ [7, 2, 8, 9, 13, 14, 15, 16, 17, 18, 19, 20, 21, 22] (by decide +kernel) (by decide +kernel)
set_option maxRecDepth 20000 in
theorem gX5_readDigit_X5_current : GoodIn wsX5_readDigit (wsV RX5 54 RX5 yX5_current wsX5_current) := goodIn_app (goodIn_of _ (by decide +kernel)) ggX5_readDigit_X5_current
set_option maxRecDepth 20000 in
theorem ggX5_readDigit_X6_isWithin : GoodIn wsX5_readDigit wsX6_isWithin := goodIn_r _ [12] (by decide +kernel) (by decide +kernel)
set_option maxRecDepth 20000 in
theorem gX5_readDigit_X6_isWithin_n81 : GoodIn wsX5_readDigit (wsX6_isWithin) := ggX5_readDigit_X6_isWithin
theorem dX5_readDigit_0 : decode cX5_readDigit 0 = .ok (.aload_n 0, 1) := by decide +kernel
theorem dX5_readDigit_1 : decode cX5_readDigit 1 = .ok (.invokevirtual 54, 3) := by decide +kernel
theorem dX5_readDigit_4 : decode cX5_readDigit 4 = .ok (.bipush 48, 2) := by decide +kernel
theorem dX5_readDigit_6 : decode cX5_readDigit 6 = .ok (.bipush 48, 2) := by decide +kernel
theorem dX5_readDigit_8 : decode cX5_readDigit 8 = .ok (.iload_n 1, 1) := by decide +kernel
theorem dX5_readDigit_9 : decode cX5_readDigit 9 = .ok (.iadd, 1) := by decide +kernel
theorem dX5_readDigit_10 : decode cX5_readDigit 10 = .ok (.invokestatic 81, 3) := by decide +kernel
theorem dX5_readDigit_13 : decode cX5_readDigit 13 = .ok (.ifCond .ne 5, 3) := by decide +kernel
theorem dX5_readDigit_16 : decode cX5_readDigit 16 = .ok (.iconst 0, 1) := by decide +kernel
theorem dX5_readDigit_17 : decode cX5_readDigit 17 = .ok (.ireturn, 1) := by decide +kernel
theorem dX5_readDigit_18 : decode cX5_readDigit 18 = .ok (.aload_n 0, 1) := by decide +kernel
theorem dX5_readDigit_19 : decode cX5_readDigit 19 = .ok (.aload_n 0, 1) := by decide +kernel
theorem dX5_readDigit_20 : decode cX5_readDigit 20 = .ok (.invokevirtual 54, 3) := by decide +kernel
theorem dX5_readDigit_23 : decode cX5_readDigit 23 = .ok (.bipush 48, 2) := by decide +kernel
theorem dX5_readDigit_25 : decode cX5_readDigit 25 = .ok (.isub, 1) := by decide +kernel
theorem dX5_readDigit_26 : decode cX5_readDigit 26 = .ok (.putfield 40, 3) := by decide +kernel
theorem dX5_readDigit_29 : decode cX5_readDigit 29 = .ok (.aload_n 0, 1) := by decide +kernel
theorem dX5_readDigit_30 : decode cX5_readDigit 30 = .ok (.dup, 1) := by decide +kernel
theorem dX5_readDigit_31 : decode cX5_readDigit 31 = .ok (.getfield 19, 3) := by decide +kernel
theorem dX5_readDigit_34 : decode cX5_readDigit 34 = .ok (.iconst 1, 1) := by decide +kernel
theorem dX5_readDigit_35 : decode cX5_readDigit 35 = .ok (.iadd, 1) := by decide +kernel
theorem dX5_readDigit_36 : decode cX5_readDigit 36 = .ok (.putfield 19, 3) := by decide +kernel
theorem dX5_readDigit_39 : decode cX5_readDigit 39 = .ok (.iconst 1, 1) := by decide +kernel
theorem dX5_readDigit_40 : decode cX5_readDigit 40 = .ok (.ireturn, 1) := by decide +kernel
set_option maxRecDepth 20000 in
theorem ggX5_readNumber_X5_current : GoodIn wsX5_readNumber wsX5_current := goodIn_r _ [8, 2, 3, 9, 17, 18, 19, 20, 21, 22, 23, 24, 25, 26] (by decide +kernel) (by decide +kernel)
set_option maxRecDepth 20000 in
theorem gX5_readNumber_X5_current : GoodIn wsX5_readNumber (wsV RX5 54 RX5 yX5_current wsX5_current) := goodIn_app (goodIn_of _ (by decide +kernel)) ggX5_readNumber_X5_current
set_option maxRecDepth 20000 in
theorem ggX5_readNumber_X6_isWithin : GoodIn wsX5_readNumber wsX6_isWithin := goodIn_r _ [12] (by decide +kernel) (by decide +kernel)
set_option maxRecDepth 20000 in
theorem gX5_readNumber_X6_isWithin_n81 : GoodIn wsX5_readNumber (wsX6_isWithin) := ggX5_readNumber_X6_isWithin
set_option maxRecDepth 20000 in
theorem ggX5_readNumber_X5_isNextDigit : GoodIn wsX5_readNumber wsX5_isNextDigit := goodIn_r _ [16, 1, 4, 5, 6, 7, 8, 2, 3, 9, 10, 11, 12, 17, 18, 19, 20, 21, 22, 23, 24, 25, 26] (by decide +kernel) (by decide +kernel)
set_option maxRecDepth 20000 in
theorem gX5_readNumber_X5_isNextDigit : GoodIn wsX5_readNumber (wsV RX5 85 RX5 yX5_isNextDigit wsX5_isNextDigit) := goodIn_app (goodIn_of _ (by decide +kernel)) ggX5_readNumber_X5_isNextDigit
theorem dX5_readNumber_0 : decode cX5_readNumber 0 = .ok (.aload_n 0, 1) := by decide +kernel
theorem dX5_readNumber_1 : decode cX5_readNumber 1 = .ok (.invokevirtual 54, 3) := by decide +kernel
theorem dX5_readNumber_4 : decode cX5_readNumber 4 = .ok (.bipush 48, 2) := by decide +kernel
theorem dX5_readNumber_6 : decode cX5_readNumber 6 = .ok (.iload_n 1, 1) := by decide +kernel
theorem dX5_readNumber_7 : decode cX5_readNumber 7 = .ok (.iadd, 1) := by decide +kernel
theorem dX5_readNumber_8 : decode cX5_readNumber 8 = .ok (.bipush 57, 2) := by decide +kernel
theorem dX5_readNumber_10 : decode cX5_readNumber 10 = .ok (.invokestatic 81, 3) := by decide +kernel
theorem dX5_readNumber_13 : decode cX5_readNumber 13 = .ok (.ifCond .ne 5, 3) := by decide +kernel
theorem dX5_readNumber_16 : decode cX5_readNumber 16 = .ok (.iconst 0, 1) := by decide +kernel
theorem dX5_readNumber_17 : decode cX5_readNumber 17 = .ok (.ireturn, 1) := by decide +kernel
theorem dX5_readNumber_18 : decode cX5_readNumber 18 = .ok (.aload_n 0, 1) := by decide +kernel
theorem dX5_readNumber_19 : decode cX5_readNumber 19 = .ok (.aload_n 0, 1) := by decide +kernel
theorem dX5_readNumber_20 : decode cX5_readNumber 20 = .ok (.invokevirtual 54, 3) := by decide +kernel
theorem dX5_readNumber_23 : decode cX5_readNumber 23 = .ok (.bipush 48, 2) := by decide +kernel
theorem dX5_readNumber_25 : decode cX5_readNumber 25 = .ok (.isub, 1) := by decide +kernel
theorem dX5_readNumber_26 : decode cX5_readNumber 26 = .ok (.putfield 40, 3) := by decide +kernel
theorem dX5_readNumber_29 : decode cX5_readNumber 29 = .ok (.aload_n 0, 1) := by decide +kernel
theorem dX5_readNumber_30 : decode cX5_readNumber 30 = .ok (.dup, 1) := by decide +kernel
theorem dX5_readNumber_31 : decode cX5_readNumber 31 = .ok (.getfield 19, 3) := by decide +kernel
theorem dX5_readNumber_34 : decode cX5_readNumber 34 = .ok (.iconst 1, 1) := by decide +kernel
theorem dX5_readNumber_35 : decode cX5_readNumber 35 = .ok (.iadd, 1) := by decide +kernel
theorem dX5_readNumber_36 : decode cX5_readNumber 36 = .ok (.putfield 19, 3) := by decide +kernel
theorem dX5_readNumber_39 : decode cX5_readNumber 39 = .ok (.aload_n 0, 1) := by decide +kernel
theorem dX5_readNumber_40 : decode cX5_readNumber 40 = .ok (.getfield 19, 3) := by decide +kernel
theorem dX5_readNumber_43 : decode cX5_readNumber 43 = .ok (.aload_n 0, 1) := by decide +kernel
theorem dX5_readNumber_44 : decode cX5_readNumber 44 = .ok (.getfield 9, 3) := by decide +kernel
theorem dX5_readNumber_47 : decode cX5_readNumber 47 = .ok (.if_icmp .ge 50, 3) := by decide +kernel
theorem dX5_readNumber_50 : decode cX5_readNumber 50 = .ok (.aload_n 0, 1) := by decide +kernel
theorem dX5_readNumber_51 : decode cX5_readNumber 51 = .ok (.getfield 40, 3) := by decide +kernel
theorem dX5_readNumber_54 : decode cX5_readNumber 54 = .ok (.ifCond .le 43, 3) := by decide +kernel
theorem dX5_readNumber_57 : decode cX5_readNumber 57 = .ok (.aload_n 0, 1) := by decide +kernel
theorem dX5_readNumber_58 : decode cX5_readNumber 58 = .ok (.iload_n 2, 1) := by decide +kernel
theorem dX5_readNumber_59 : decode cX5_readNumber 59 = .ok (.invokevirtual 85, 3) := by decide +kernel
theorem dX5_readNumber_62 : decode cX5_readNumber 62 = .ok (.ifCond .eq 35, 3) := by decide +kernel
theorem dX5_readNumber_65 : decode cX5_readNumber 65 = .ok (.aload_n 0, 1) := by decide +kernel
theorem dX5_readNumber_66 : decode cX5_readNumber 66 = .ok (.bipush 10, 2) := by decide +kernel
theorem dX5_readNumber_68 : decode cX5_readNumber 68 = .ok (.aload_n 0, 1) := by decide +kernel
theorem dX5_readNumber_69 : decode cX5_readNumber 69 = .ok (.getfield 40, 3) := by decide +kernel
theorem dX5_readNumber_72 : decode cX5_readNumber 72 = .ok (.imul, 1) := by decide +kernel
theorem dX5_readNumber_73 : decode cX5_readNumber 73 = .ok (.aload_n 0, 1) := by decide +kernel
theorem dX5_readNumber_74 : decode cX5_readNumber 74 = .ok (.invokevirtual 54, 3) := by decide +kernel
theorem dX5_readNumber_77 : decode cX5_readNumber 77 = .ok (.iadd, 1) := by decide +kernel
theorem dX5_readNumber_78 : decode cX5_readNumber 78 = .ok (.bipush 48, 2) := by decide +kernel
theorem dX5_readNumber_80 : decode cX5_readNumber 80 = .ok (.isub, 1) := by decide +kernel
theorem dX5_readNumber_81 : decode cX5_readNumber 81 = .ok (.putfield 40, 3) := by decide +kernel
theorem dX5_readNumber_84 : decode cX5_readNumber 84 = .ok (.aload_n 0, 1) := by decide +kernel
theorem dX5_readNumber_85 : decode cX5_readNumber 85 = .ok (.dup, 1) := by decide +kernel
theorem dX5_readNumber_86 : decode cX5_readNumber 86 = .ok (.getfield 19, 3) := by decide +kernel
theorem dX5_readNumber_89 : decode cX5_readNumber 89 = .ok (.iconst 1, 1) := by decide +kernel
theorem dX5_readNumber_90 : decode cX5_readNumber 90 = .ok (.iadd, 1) := by decide +kernel
theorem dX5_readNumber_91 : decode cX5_readNumber 91 = .ok (.putfield 19, 3) := by decide +kernel
theorem dX5_readNumber_94 : decode cX5_readNumber 94 = .ok (.goto (-55), 3) := by decide +kernel
theorem dX5_readNumber_97 : decode cX5_readNumber 97 = .ok (.iconst 1, 1) := by decide +kernel
theorem dX5_readNumber_98 : decode cX5_readNumber 98 = .ok (.ireturn, 1) := by decide +kernel
set_option maxRecDepth 20000 in
theorem ggX5_isNextDigit_X5_current : GoodIn wsX5_isNextDigit wsX5_current := goodIn_r _ [6, 7, 8, 9, 13, 14, 15, 16, 17, 18, 19, 20, 21, 22] (by decide +kernel) (by decide +kernel)
set_option maxRecDepth 20000 in
theorem gX5_isNextDigit_X5_current : GoodIn wsX5_isNextDigit (wsV RX5 54 RX5 yX5_current wsX5_current) := goodIn_app (goodIn_of _ (by decide +kernel)) ggX5_isNextDigit_X5_current
set_option maxRecDepth 20000 in
theorem ggX5_isNextDigit_X6_isWithin : GoodIn wsX5_isNextDigit wsX6_isWithin := goodIn_r _ [12] (by decide +kernel) (by decide +kernel)
set_option maxRecDepth 20000 in
theorem gX5_isNextDigit_X6_isWithin_n81 : GoodIn wsX5_isNextDigit (wsX6_isWithin) := ggX5_isNextDigit_X6_isWithin
theorem dX5_isNextDigit_0 : decode cX5_isNextDigit 0 = .ok (.aload_n 0, 1) := by decide +kernel
theorem dX5_isNextDigit_1 : decode cX5_isNextDigit 1 = .ok (.invokevirtual 54, 3) := by decide +kernel
theorem dX5_isNextDigit_4 : decode cX5_isNextDigit 4 = .ok (.bipush 48, 2) := by decide +kernel
theorem dX5_isNextDigit_6 : decode cX5_isNextDigit 6 = .ok (.bipush 57, 2) := by decide +kernel
theorem dX5_isNextDigit_8 : decode cX5_isNextDigit 8 = .ok (.invokestatic 81, 3) := by decide +kernel
theorem dX5_isNextDigit_11 : decode cX5_isNextDigit 11 = .ok (.ifCond .eq 26, 3) := by decide +kernel
theorem dX5_isNextDigit_14 : decode cX5_isNextDigit 14 = .ok (.bipush 10, 2) := by decide +kernel
theorem dX5_isNextDigit_16 : decode cX5_isNextDigit 16 = .ok (.aload_n 0, 1) := by decide +kernel
theorem dX5_isNextDigit_17 : decode cX5_isNextDigit 17 = .ok (.getfield 40, 3) := by decide +kernel
theorem dX5_isNextDigit_20 : decode cX5_isNextDigit 20 = .ok (.imul, 1) := by decide +kernel
theorem dX5_isNextDigit_21 : decode cX5_isNextDigit 21 = .ok (.aload_n 0, 1) := by decide +kernel
theorem dX5_isNextDigit_22 : decode cX5_isNextDigit 22 = .ok (.invokevirtual 54, 3) := by decide +kernel
theorem dX5_isNextDigit_25 : decode cX5_isNextDigit 25 = .ok (.iadd, 1) := by decide +kernel
theorem dX5_isNextDigit_26 : decode cX5_isNextDigit 26 = .ok (.bipush 48, 2) := by decide +kernel
theorem dX5_isNextDigit_28 : decode cX5_isNextDigit 28 = .ok (.isub, 1) := by decide +kernel
theorem dX5_isNextDigit_29 : decode cX5_isNextDigit 29 = .ok (.iload_n 1, 1) := by decide +kernel
theorem dX5_isNextDigit_30 : decode cX5_isNextDigit 30 = .ok (.if_icmp .gt 7, 3) := by decide +kernel
theorem dX5_isNextDigit_33 : decode cX5_isNextDigit 33 = .ok (.iconst 1, 1) := by decide +kernel
theorem dX5_isNextDigit_34 : decode cX5_isNextDigit 34 = .ok (.goto 4, 3) := by decide +kernel
theorem dX5_isNextDigit_37 : decode cX5_isNextDigit 37 = .ok (.iconst 0, 1) := by decide +kernel
theorem dX5_isNextDigit_38 : decode cX5_isNextDigit 38 = .ok (.ireturn, 1) := by decide +kernel
set_option maxRecDepth 20000 in
theorem ggX6_init_X4_init : GoodIn wsX6_init wsX4_init := goodIn_r _ [23, 24, 2, 3, 25, 26, 27, 28, 29, 30, 31, 32, 33, 34, 35, 36, 37, 38, 39, 40, 41, 42, 43, 44, 45, 46, 47, 48, 49, 50, 51, 52, 53, 54, 55, 56, 57, 58, 59, 60, 61, 62, 63, 64, 65, 66, 67, 68, 69, 91, 92, 93, 94, 95, 96, 118, 119, 120, 121, 122, 123, 124, 125, 126, 127, 128, 129, 130, 131] (by decide +kernel) (by decide +kernel)
set_option maxRecDepth 20000 in
theorem gX6_init_X4_init_n9 : GoodIn wsX6_init (wsX4_init) := ggX6_init_X4_init
set_option maxRecDepth 20000 in
theorem ggX6_init_X1_init : GoodIn wsX6_init wsX1_init := goodIn_r _ [72, 73, 2, 3, 74, 75, 76, 5, 6, 22, 23, 24, 25, 26, 27, 28, 29, 30, 31, 32, 33, 34, 35, 36, 37, 38, 39, 40, 41, 42, 43, 44, 45, 46, 47, 48, 49, 50, 51, 52, 53, 54, 55, 56, 57, 58, 59, 60, 61, 62, 63, 64, 65, 66, 67, 68, 69, 106, 107, 91, 92, 93, 94, 95, 96, 118, 119, 120, 121, 122, 123, 124, 125, 126, 127, 128, 129, 130, 131] (by decide +kernel) (by decide +kernel)
set_option maxRecDepth 20000 in
theorem gX6_init_X1_init : GoodIn wsX6_init (wsX1_init) := ggX6_init_X1_init
set_option maxRecDepth 20000 in
theorem ggX6_init_X5_init : GoodIn wsX6_init wsX5_init := goodIn_r _ [78, 79, 2, 3, 80, 81, 82, 83, 84, 85, 86, 87, 88, 89, 90, 108, 109, 110, 111, 112, 113, 114, 115, 116, 117] (by decide +kernel) (by decide +kernel)
set_option maxRecDepth 20000 in
theorem gX6_init_X5_init_n38 : GoodIn wsX6_init (wsX5_init) := ggX6_init_X5_init
theorem dX6_init_0 : decode cX6_init 0 = .ok (.aload_n 0, 1) := by decide +kernel
theorem dX6_init_1 : decode cX6_init 1 = .ok (.invokespecial 1, 3) := by decide +kernel
theorem dX6_init_4 : decode cX6_init 4 = .ok (.aload_n 0, 1) := by decide +kernel
theorem dX6_init_5 : decode cX6_init 5 = .ok (.new 7, 3) := by decide +kernel
theorem dX6_init_8 : decode cX6_init 8 = .ok (.dup, 1) := by decide +kernel
theorem dX6_init_9 : decode cX6_init 9 = .ok (.invokespecial 9, 3) := by decide +kernel
theorem dX6_init_12 : decode cX6_init 12 = .ok (.putfield 10, 3) := by decide +kernel
theorem dX6_init_15 : decode cX6_init 15 = .ok (.aload_n 0, 1) := by decide +kernel
theorem dX6_init_16 : decode cX6_init 16 = .ok (.new 7, 3) := by decide +kernel
theorem dX6_init_19 : decode cX6_init 19 = .ok (.dup, 1) := by decide +kernel
theorem dX6_init_20 : decode cX6_init 20 = .ok (.invokespecial 9, 3) := by decide +kernel
theorem dX6_init_23 : decode cX6_init 23 = .ok (.putfield 16, 3) := by decide +kernel
theorem dX6_init_26 : decode cX6_init 26 = .ok (.aload_n 0, 1) := by decide +kernel
theorem dX6_init_27 : decode cX6_init 27 = .ok (.new 7, 3) := by decide +kernel
theorem dX6_init_30 : decode cX6_init 30 = .ok (.dup, 1) := by decide +kernel
theorem dX6_init_31 : decode cX6_init 31 = .ok (.invokespecial 9, 3) := by decide +kernel
theorem dX6_init_34 : decode cX6_init 34 = .ok (.putfield 19, 3) := by decide +kernel
theorem dX6_init_37 : decode cX6_init 37 = .ok (.aload_n 0, 1) := by decide +kernel
theorem dX6_init_38 : decode cX6_init 38 = .ok (.new 7, 3) := by decide +kernel
theorem dX6_init_41 : decode cX6_init 41 = .ok (.dup, 1) := by decide +kernel
theorem dX6_init_42 : decode cX6_init 42 = .ok (.invokespecial 9, 3) := by decide +kernel
theorem dX6_init_45 : decode cX6_init 45 = .ok (.putfield 22, 3) := by decide +kernel
theorem dX6_init_48 : decode cX6_init 48 = .ok (.aload_n 0, 1) := by decide +kernel
theorem dX6_init_49 : decode cX6_init 49 = .ok (.iconst 0, 1) := by decide +kernel
theorem dX6_init_50 : decode cX6_init 50 = .ok (.putfield 25, 3) := by decide +kernel
theorem dX6_init_53 : decode cX6_init 53 = .ok (.aload_n 0, 1) := by decide +kernel
theorem dX6_init_54 : decode cX6_init 54 = .ok (.new 29, 3) := by decide +kernel
theorem dX6_init_57 : decode cX6_init 57 = .ok (.dup, 1) := by decide +kernel
theorem dX6_init_58 : decode cX6_init 58 = .ok (.invokespecial 31, 3) := by decide +kernel
theorem dX6_init_61 : decode cX6_init 61 = .ok (.putfield 32, 3) := by decide +kernel
theorem dX6_init_64 : decode cX6_init 64 = .ok (.aload_n 0, 1) := by decide +kernel
theorem dX6_init_65 : decode cX6_init 65 = .ok (.new 36, 3) := by decide +kernel
theorem dX6_init_68 : decode cX6_init 68 = .ok (.dup, 1) := by decide +kernel
theorem dX6_init_69 : decode cX6_init 69 = .ok (.invokespecial 38, 3) := by decide +kernel
theorem dX6_init_72 : decode cX6_init 72 = .ok (.putfield 39, 3) := by decide +kernel
theorem dX6_init_75 : decode cX6_init 75 = .ok (.aload_n 0, 1) := by decide +kernel
theorem dX6_init_76 : decode cX6_init 76 = .ok (.iconst 0, 1) := by decide +kernel
theorem dX6_init_77 : decode cX6_init 77 = .ok (.putfield 43, 3) := by decide +kernel
theorem dX6_init_80 : decode cX6_init 80 = .ok (.aload_n 0, 1) := by decide +kernel
theorem dX6_init_81 : decode cX6_init 81 = .ok (.iconst 0, 1) := by decide +kernel
theorem dX6_init_82 : decode cX6_init 82 = .ok (.putfield 47, 3) := by decide +kernel
theorem dX6_init_85 : decode cX6_init 85 = .ok (.return_, 1) := by decide +kernel
set_option maxRecDepth 20000 in
theorem ggX6_setBatch_X4_copyFrom : GoodIn wsX6_setBatch wsX4_copyFrom := goodIn_r _ [7, 8, 9, 10, 11, 12, 13, 14, 15, 16, 17, 18, 19, 20, 21, 22, 23, 24, 25, 26, 27, 28, 29, 30, 31, 32, 33, 34, 35, 36, 37, 38, 39, 40, 41, 42, 43, 44, 45, 46, 47, 48, 49, 50, 51, 52, 53, 91, 92, 93, 94, 95, 96, 97, 98, 99, 100, 101, 102, 103, 104, 105, 106, 107, 108, 109, 110] (by decide +kernel) (by decide +kernel)
set_option maxRecDepth 20000 in
theorem gX6_setBatch_X4_copyFrom : GoodIn wsX6_setBatch (wsV RX6 50 RX4 yX4_copyFrom wsX4_copyFrom) := goodIn_app (goodIn_of _ (by decide +kernel)) ggX6_setBatch_X4_copyFrom
set_option maxRecDepth 20000 in
theorem ggX6_setBatch_X4_changeBatch : GoodIn wsX6_setBatch wsX4_changeBatch := goodIn_r _ [57, 11, 58, 59, 60, 22, 61, 62, 63, 64, 91, 92, 93, 94, 95, 96, 97, 98] (by decide +kernel) (by decide +kernel)
set_option maxRecDepth 20000 in
theorem gX6_setBatch_X4_changeBatch : GoodIn wsX6_setBatch (wsV RX6 54 RX4 yX4_changeBatch wsX4_changeBatch) := goodIn_app (goodIn_of _ (by decide +kernel)) ggX6_setBatch_X4_changeBatch
set_option maxRecDepth 20000 in
theorem ggX6_setBatch_X6_recorded : GoodIn wsX6_setBatch wsX6_recorded := goodIn_r _ [68, 69, 1, 70, 71, 72, 73, 74, 75, 76, 77, 78, 79, 80, 81, 4, 5, 6, 7, 8, 9, 10, 11, 12, 13, 14, 15, 16, 17, 18, 19, 20, 21, 22, 23, 24, 25, 26, 27, 28, 29, 30, 31, 32, 33, 34, 35, 36, 37, 38, 39, 40, 41, 42, 43, 44, 45, 46, 47, 48, 49, 50, 51, 52, 53, 82, 83, 84, 85, 86, 87, 88, 89, 90, 111, 112, 91, 92, 93, 94, 95, 96, 97, 98, 99, 100, 101, 102, 103, 104, 105, 106, 107, 108, 109, 110] (by decide +kernel) (by decide +kernel)
set_option maxRecDepth 20000 in
theorem gX6_setBatch_X6_recorded : GoodIn wsX6_setBatch (wsV RX6 58 RX6 yX6_recorded wsX6_recorded) := goodIn_app (goodIn_of _ (by decide +kernel)) ggX6_setBatch_X6_recorded
theorem dX6_setBatch_0 : decode cX6_setBatch 0 = .ok (.aload_n 0, 1) := by decide +kernel
theorem dX6_setBatch_1 : decode cX6_setBatch 1 = .ok (.getfield 16, 3) := by decide +kernel
theorem dX6_setBatch_4 : decode cX6_setBatch 4 = .ok (.aload_n 0, 1) := by decide +kernel
theorem dX6_setBatch_5 : decode cX6_setBatch 5 = .ok (.getfield 10, 3) := by decide +kernel
theorem dX6_setBatch_8 : decode cX6_setBatch 8 = .ok (.invokevirtual 50, 3) := by decide +kernel
theorem dX6_setBatch_11 : decode cX6_setBatch 11 = .ok (.aload_n 0, 1) := by decide +kernel
theorem dX6_setBatch_12 : decode cX6_setBatch 12 = .ok (.aload_n 0, 1) := by decide +kernel
theorem dX6_setBatch_13 : decode cX6_setBatch 13 = .ok (.getfield 10, 3) := by decide +kernel
theorem dX6_setBatch_16 : decode cX6_setBatch 16 = .ok (.iload_n 1, 1) := by decide +kernel
theorem dX6_setBatch_17 : decode cX6_setBatch 17 = .ok (.iload_n 2, 1) := by decide +kernel
theorem dX6_setBatch_18 : decode cX6_setBatch 18 = .ok (.iload_n 3, 1) := by decide +kernel
theorem dX6_setBatch_19 : decode cX6_setBatch 19 = .ok (.invokevirtual 54, 3) := by decide +kernel
theorem dX6_setBatch_22 : decode cX6_setBatch 22 = .ok (.invokevirtual 58, 3) := by decide +kernel
theorem dX6_setBatch_25 : decode cX6_setBatch 25 = .ok (.ireturn, 1) := by decide +kernel
set_option maxRecDepth 20000 in
theorem ggX6_put_X4_copyFrom : GoodIn wsX6_put wsX4_copyFrom := goodIn_r _ [7, 8, 9, 10, 11, 12, 13, 14, 15, 16, 17, 18, 19, 20, 21, 22, 23, 24, 25, 26, 27, 28, 29, 30, 31, 32, 33, 34, 35, 36, 37, 38, 39, 40, 41, 42, 43, 44, 45, 46, 47, 48, 49, 50, 51, 52, 53, 118, 119, 120, 121, 122, 123, 124, 125, 126, 127, 128, 129, 130, 131, 132, 133, 134, 135, 136, 137] (by decide +kernel) (by decide +kernel)
set_option maxRecDepth 20000 in
theorem gX6_put_X4_copyFrom : GoodIn wsX6_put (wsV RX6 50 RX4 yX4_copyFrom wsX4_copyFrom) := goodIn_app (goodIn_of _ (by decide +kernel)) ggX6_put_X4_copyFrom
set_option maxRecDepth 20000 in
theorem ggX6_put_X4_insertLamp : GoodIn wsX6_put wsX4_insertLamp := goodIn_r _ [57, 13, 58, 12, 11, 59, 60, 22, 61, 62, 63, 64, 65, 66, 67, 68, 69, 70, 71, 72, 73, 74, 35, 75, 37, 76, 77, 78, 17, 79, 19, 20, 80, 81, 26, 82, 83, 84, 85, 86, 87, 88, 89, 90, 91, 38, 39, 40, 41, 42, 43, 118, 119, 120, 121, 122, 123, 133, 134, 135, 136, 137, 126, 127, 128, 129, 130, 131, 132, 124, 125] (by decide +kernel) (by decide +kernel)
set_option maxRecDepth 20000 in
theorem gX6_put_X4_insertLamp : GoodIn wsX6_put (wsV RX6 62 RX4 yX4_insertLamp wsX4_insertLamp) := goodIn_app (goodIn_of _ (by decide +kernel)) ggX6_put_X4_insertLamp
set_option maxRecDepth 20000 in
theorem ggX6_put_X6_recorded : GoodIn wsX6_put wsX6_recorded := goodIn_r _ [95, 96, 1, 97, 98, 99, 100, 101, 102, 103, 104, 105, 106, 107, 108, 4, 5, 6, 7, 8, 9, 10, 11, 12, 13, 14, 15, 16, 17, 18, 19, 20, 21, 22, 23, 24, 25, 26, 27, 28, 29, 30, 31, 32, 33, 34, 35, 36, 37, 38, 39, 40, 41, 42, 43, 44, 45, 46, 47, 48, 49, 50, 51, 52, 53, 109, 110, 111, 112, 113, 114, 115, 116, 117, 138, 139, 118, 119, 120, 121, 122, 123, 124, 125, 126, 127, 128, 129, 130, 131, 132, 133, 134, 135, 136, 137] (by decide +kernel) (by decide +kernel)
set_option maxRecDepth 20000 in
theorem gX6_put_X6_recorded : GoodIn wsX6_put (wsV RX6 58 RX6 yX6_recorded wsX6_recorded) := goodIn_app (goodIn_of _ (by decide +kernel)) ggX6_put_X6_recorded
theorem dX6_put_0 : decode cX6_put 0 = .ok (.aload_n 0, 1) := by decide +kernel
theorem dX6_put_1 : decode cX6_put 1 = .ok (.getfield 16, 3) := by decide +kernel
theorem dX6_put_4 : decode cX6_put 4 = .ok (.aload_n 0, 1) := by decide +kernel
theorem dX6_put_5 : decode cX6_put 5 = .ok (.getfield 10, 3) := by decide +kernel
theorem dX6_put_8 : decode cX6_put 8 = .ok (.invokevirtual 50, 3) := by decide +kernel
theorem dX6_put_11 : decode cX6_put 11 = .ok (.aload_n 0, 1) := by decide +kernel
theorem dX6_put_12 : decode cX6_put 12 = .ok (.aload_n 0, 1) := by decide +kernel
theorem dX6_put_13 : decode cX6_put 13 = .ok (.getfield 10, 3) := by decide +kernel
theorem dX6_put_16 : decode cX6_put 16 = .ok (.iload_n 1, 1) := by decide +kernel
theorem dX6_put_17 : decode cX6_put 17 = .ok (.iload_n 2, 1) := by decide +kernel
theorem dX6_put_18 : decode cX6_put 18 = .ok (.iload_n 3, 1) := by decide +kernel
theorem dX6_put_19 : decode cX6_put 19 = .ok (.invokevirtual 62, 3) := by decide +kernel
theorem dX6_put_22 : decode cX6_put 22 = .ok (.invokevirtual 58, 3) := by decide +kernel
theorem dX6_put_25 : decode cX6_put 25 = .ok (.ireturn, 1) := by decide +kernel
set_option maxRecDepth 20000 in
theorem ggX6_takeOut_X4_copyFrom : GoodIn wsX6_takeOut wsX4_copyFrom := goodIn_r _ [7, 8, 9, 10, 11, 12, 13, 14, 15, 16, 17, 18, 19, 20, 21, 22, 23, 24, 25, 26, 27, 28, 29, 30, 31, 32, 33, 34, 35, 36, 37, 38, 39, 40, 41, 42, 43, 44, 45, 46, 47, 48, 49, 50, 51, 52, 53, 96, 97, 98, 99, 100, 101, 102, 103, 104, 105, 106, 107, 108, 109, 110, 111, 112, 113, 114, 115] (by decide +kernel) (by decide +kernel)
set_option maxRecDepth 20000 in
theorem gX6_takeOut_X4_copyFrom : GoodIn wsX6_takeOut (wsV RX6 50 RX4 yX4_copyFrom wsX4_copyFrom) := goodIn_app (goodIn_of _ (by decide +kernel)) ggX6_takeOut_X4_copyFrom
set_option maxRecDepth 20000 in
theorem ggX6_takeOut_X4_removeLamp : GoodIn wsX6_takeOut wsX4_removeLamp := goodIn_r _ [57, 13, 58, 12, 59, 60, 22, 61, 62, 63, 64, 65, 66, 67, 68, 69, 96, 97, 98, 99, 100, 101, 111, 112, 113, 114, 115, 104, 105, 106, 107, 108, 109, 110] (by decide +kernel) (by decide +kernel)
set_option maxRecDepth 20000 in
theorem gX6_takeOut_X4_removeLamp : GoodIn wsX6_takeOut (wsV RX6 65 RX4 yX4_removeLamp wsX4_removeLamp) := goodIn_app (goodIn_of _ (by decide +kernel)) ggX6_takeOut_X4_removeLamp
set_option maxRecDepth 20000 in
theorem ggX6_takeOut_X6_recorded : GoodIn wsX6_takeOut wsX6_recorded := goodIn_r _ [73, 74, 1, 75, 76, 77, 78, 79, 80, 81, 82, 83, 84, 85, 86, 4, 5, 6, 7, 8, 9, 10, 11, 12, 13, 14, 15, 16, 17, 18, 19, 20, 21, 22, 23, 24, 25, 26, 27, 28, 29, 30, 31, 32, 33, 34, 35, 36, 37, 38, 39, 40, 41, 42, 43, 44, 45, 46, 47, 48, 49, 50, 51, 52, 53, 87, 88, 89, 90, 91, 92, 93, 94, 95, 116, 117, 96, 97, 98, 99, 100, 101, 102, 103, 104, 105, 106, 107, 108, 109, 110, 111, 112, 113, 114, 115] (by decide +kernel) (by decide +kernel)
set_option maxRecDepth 20000 in
theorem gX6_takeOut_X6_recorded : GoodIn wsX6_takeOut (wsV RX6 58 RX6 yX6_recorded wsX6_recorded) := goodIn_app (goodIn_of _ (by decide +kernel)) ggX6_takeOut_X6_recorded
theorem dX6_takeOut_0 : decode cX6_takeOut 0 = .ok (.aload_n 0, 1) := by decide +kernel
theorem dX6_takeOut_1 : decode cX6_takeOut 1 = .ok (.getfield 16, 3) := by decide +kernel
theorem dX6_takeOut_4 : decode cX6_takeOut 4 = .ok (.aload_n 0, 1) := by decide +kernel
theorem dX6_takeOut_5 : decode cX6_takeOut 5 = .ok (.getfield 10, 3) := by decide +kernel
theorem dX6_takeOut_8 : decode cX6_takeOut 8 = .ok (.invokevirtual 50, 3) := by decide +kernel
theorem dX6_takeOut_11 : decode cX6_takeOut 11 = .ok (.aload_n 0, 1) := by decide +kernel
theorem dX6_takeOut_12 : decode cX6_takeOut 12 = .ok (.aload_n 0, 1) := by decide +kernel
theorem dX6_takeOut_13 : decode cX6_takeOut 13 = .ok (.getfield 10, 3) := by decide +kernel
theorem dX6_takeOut_16 : decode cX6_takeOut 16 = .ok (.iload_n 1, 1) := by decide +kernel
theorem dX6_takeOut_17 : decode cX6_takeOut 17 = .ok (.iload_n 2, 1) := by decide +kernel
theorem dX6_takeOut_18 : decode cX6_takeOut 18 = .ok (.invokevirtual 65, 3) := by decide +kernel
theorem dX6_takeOut_21 : decode cX6_takeOut 21 = .ok (.invokevirtual 58, 3) := by decide +kernel
theorem dX6_takeOut_24 : decode cX6_takeOut 24 = .ok (.ireturn, 1) := by decide +kernel
set_option maxRecDepth 20000 in
theorem ggX6_swap_X4_copyFrom : GoodIn wsX6_swap wsX4_copyFrom := goodIn_r _ [7, 8, 9, 10, 11, 12, 13, 14, 15, 16, 17, 18, 19, 20, 21, 22, 23, 24, 25, 26, 27, 28, 29, 30, 31, 32, 33, 34, 35, 36, 37, 38, 39, 40, 41, 42, 43, 44, 45, 46, 47, 48, 49, 50, 51, 52, 53, 100, 101, 102, 103, 104, 105, 106, 107, 108, 109, 110, 111, 112, 113, 114, 115, 116, 117, 118, 119] (by decide +kernel) (by decide +kernel)
set_option maxRecDepth 20000 in
theorem gX6_swap_X4_copyFrom : GoodIn wsX6_swap (wsV RX6 50 RX4 yX4_copyFrom wsX4_copyFrom) := goodIn_app (goodIn_of _ (by decide +kernel)) ggX6_swap_X4_copyFrom
set_option maxRecDepth 20000 in
theorem ggX6_swap_X4_exchange : GoodIn wsX6_swap wsX4_exchange := goodIn_r _ [57, 13, 58, 59, 22, 60, 61, 62, 63, 64, 65, 66, 67, 68, 69, 70, 71, 6, 72, 12, 73, 100, 101, 102, 103, 104, 105, 115, 116, 117, 118, 119, 108, 109, 110, 111, 112, 113, 114] (by decide +kernel) (by decide +kernel)
set_option maxRecDepth 20000 in
theorem gX6_swap_X4_exchange : GoodIn wsX6_swap (wsV RX6 69 RX4 yX4_exchange wsX4_exchange) := goodIn_app (goodIn_of _ (by decide +kernel)) ggX6_swap_X4_exchange
set_option maxRecDepth 20000 in
theorem ggX6_swap_X6_recorded : GoodIn wsX6_swap wsX6_recorded := goodIn_r _ [77, 78, 1, 79, 80, 81, 82, 83, 84, 85, 86, 87, 88, 89, 90, 4, 5, 6, 7, 8, 9, 10, 11, 12, 13, 14, 15, 16, 17, 18, 19, 20, 21, 22, 23, 24, 25, 26, 27, 28, 29, 30, 31, 32, 33, 34, 35, 36, 37, 38, 39, 40, 41, 42, 43, 44, 45, 46, 47, 48, 49, 50, 51, 52, 53, 91, 92, 93, 94, 95, 96, 97, 98, 99, 120, 121, 100, 101, 102, 103, 104, 105, 106, 107, 108, 109, 110, 111, 112, 113, 114, 115, 116, 117, 118, 119] (by decide +kernel) (by decide +kernel)
set_option maxRecDepth 20000 in
theorem gX6_swap_X6_recorded : GoodIn wsX6_swap (wsV RX6 58 RX6 yX6_recorded wsX6_recorded) := goodIn_app (goodIn_of _ (by decide +kernel)) ggX6_swap_X6_recorded
theorem dX6_swap_0 : decode cX6_swap 0 = .ok (.aload_n 0, 1) := by decide +kernel
theorem dX6_swap_1 : decode cX6_swap 1 = .ok (.getfield 16, 3) := by decide +kernel
theorem dX6_swap_4 : decode cX6_swap 4 = .ok (.aload_n 0, 1) := by decide +kernel
theorem dX6_swap_5 : decode cX6_swap 5 = .ok (.getfield 10, 3) := by decide +kernel
theorem dX6_swap_8 : decode cX6_swap 8 = .ok (.invokevirtual 50, 3) := by decide +kernel
theorem dX6_swap_11 : decode cX6_swap 11 = .ok (.aload_n 0, 1) := by decide +kernel
theorem dX6_swap_12 : decode cX6_swap 12 = .ok (.aload_n 0, 1) := by decide +kernel
theorem dX6_swap_13 : decode cX6_swap 13 = .ok (.getfield 10, 3) := by decide +kernel
theorem dX6_swap_16 : decode cX6_swap 16 = .ok (.iload_n 1, 1) := by decide +kernel
theorem dX6_swap_17 : decode cX6_swap 17 = .ok (.iload_n 2, 1) := by decide +kernel
theorem dX6_swap_18 : decode cX6_swap 18 = .ok (.iload_n 3, 1) := by decide +kernel
theorem dX6_swap_19 : decode cX6_swap 19 = .ok (.iload 4, 2) := by decide +kernel
theorem dX6_swap_21 : decode cX6_swap 21 = .ok (.invokevirtual 69, 3) := by decide +kernel
theorem dX6_swap_24 : decode cX6_swap 24 = .ok (.invokevirtual 58, 3) := by decide +kernel
theorem dX6_swap_27 : decode cX6_swap 27 = .ok (.ireturn, 1) := by decide +kernel
set_option maxRecDepth 20000 in
theorem ggX6_setVolts_X4_copyFrom : GoodIn wsX6_setVolts wsX4_copyFrom := goodIn_r _ [7, 8, 9, 10, 11, 12, 13, 14, 15, 16, 17, 18, 19, 20, 21, 22, 23, 24, 25, 26, 27, 28, 29, 30, 31, 32, 33, 34, 35, 36, 37, 38, 39, 40, 41, 42, 43, 44, 45, 46, 47, 48, 49, 50, 51, 52, 53, 90, 91, 92, 93, 94, 95, 96, 97, 98, 99, 100, 101, 102, 103, 104, 105, 106, 107, 108, 109] (by decide +kernel) (by decide +kernel)
set_option maxRecDepth 20000 in
theorem gX6_setVolts_X4_copyFrom : GoodIn wsX6_setVolts (wsV RX6 50 RX4 yX4_copyFrom wsX4_copyFrom) := goodIn_app (goodIn_of _ (by decide +kernel)) ggX6_setVolts_X4_copyFrom
set_option maxRecDepth 20000 in
theorem ggX6_setVolts_X4_changeVolts : GoodIn wsX6_setVolts wsX4_changeVolts := goodIn_r _ [57, 13, 58, 59, 22, 60, 61, 62, 63, 90, 91, 92, 93, 94, 95, 105, 106, 107, 108, 109] (by decide +kernel) (by decide +kernel)
set_option maxRecDepth 20000 in
theorem gX6_setVolts_X4_changeVolts : GoodIn wsX6_setVolts (wsV RX6 73 RX4 yX4_changeVolts wsX4_changeVolts) := goodIn_app (goodIn_of _ (by decide +kernel)) ggX6_setVolts_X4_changeVolts
set_option maxRecDepth 20000 in
theorem ggX6_setVolts_X6_recorded : GoodIn wsX6_setVolts wsX6_recorded := goodIn_r _ [67, 68, 1, 69, 70, 71, 72, 73, 74, 75, 76, 77, 78, 79, 80, 4, 5, 6, 7, 8, 9, 10, 11, 12, 13, 14, 15, 16, 17, 18, 19, 20, 21, 22, 23, 24, 25, 26, 27, 28, 29, 30, 31, 32, 33, 34, 35, 36, 37, 38, 39, 40, 41, 42, 43, 44, 45, 46, 47, 48, 49, 50, 51, 52, 53, 81, 82, 83, 84, 85, 86, 87, 88, 89, 110, 111, 90, 91, 92, 93, 94, 95, 96, 97, 98, 99, 100, 101, 102, 103, 104, 105, 106, 107, 108, 109] (by decide +kernel) (by decide +kernel)
set_option maxRecDepth 20000 in
theorem gX6_setVolts_X6_recorded : GoodIn wsX6_setVolts (wsV RX6 58 RX6 yX6_recorded wsX6_recorded) := goodIn_app (goodIn_of _ (by decide +kernel)) ggX6_setVolts_X6_recorded
theorem dX6_setVolts_0 : decode cX6_setVolts 0 = .ok (.aload_n 0, 1) := by decide +kernel
theorem dX6_setVolts_1 : decode cX6_setVolts 1 = .ok (.getfield 16, 3) := by decide +kernel
theorem dX6_setVolts_4 : decode cX6_setVolts 4 = .ok (.aload_n 0, 1) := by decide +kernel
theorem dX6_setVolts_5 : decode cX6_setVolts 5 = .ok (.getfield 10, 3) := by decide +kernel
theorem dX6_setVolts_8 : decode cX6_setVolts 8 = .ok (.invokevirtual 50, 3) := by decide +kernel
theorem dX6_setVolts_11 : decode cX6_setVolts 11 = .ok (.aload_n 0, 1) := by decide +kernel
theorem dX6_setVolts_12 : decode cX6_setVolts 12 = .ok (.aload_n 0, 1) := by decide +kernel
theorem dX6_setVolts_13 : decode cX6_setVolts 13 = .ok (.getfield 10, 3) := by decide +kernel
theorem dX6_setVolts_16 : decode cX6_setVolts 16 = .ok (.iload_n 1, 1) := by decide +kernel
theorem dX6_setVolts_17 : decode cX6_setVolts 17 = .ok (.iload_n 2, 1) := by decide +kernel
theorem dX6_setVolts_18 : decode cX6_setVolts 18 = .ok (.invokevirtual 73, 3) := by decide +kernel
theorem dX6_setVolts_21 : decode cX6_setVolts 21 = .ok (.invokevirtual 58, 3) := by decide +kernel
theorem dX6_setVolts_24 : decode cX6_setVolts 24 = .ok (.ireturn, 1) := by decide +kernel
set_option maxRecDepth 20000 in
theorem ggX6_setSteps_X4_copyFrom : GoodIn wsX6_setSteps wsX4_copyFrom := goodIn_r _ [7, 8, 9, 10, 11, 12, 13, 14, 15, 16, 17, 18, 19, 20, 21, 22, 23, 24, 25, 26, 27, 28, 29, 30, 31, 32, 33, 34, 35, 36, 37, 38, 39, 40, 41, 42, 43, 44, 45, 46, 47, 48, 49, 50, 51, 52, 53, 92, 93, 94, 95, 96, 97, 98, 99, 100, 101, 102, 103, 104, 105, 106, 107, 108, 109, 110, 111] (by decide +kernel) (by decide +kernel)
set_option maxRecDepth 20000 in
theorem gX6_setSteps_X4_copyFrom : GoodIn wsX6_setSteps (wsV RX6 50 RX4 yX4_copyFrom wsX4_copyFrom) := goodIn_app (goodIn_of _ (by decide +kernel)) ggX6_setSteps_X4_copyFrom
set_option maxRecDepth 20000 in
theorem ggX6_setSteps_X4_changeSteps : GoodIn wsX6_setSteps wsX4_changeSteps := goodIn_r _ [57, 13, 58, 59, 60, 61, 22, 62, 63, 64, 65, 92, 93, 94, 95, 96, 97, 107, 108, 109, 110, 111] (by decide +kernel) (by decide +kernel)
set_option maxRecDepth 20000 in
theorem gX6_setSteps_X4_changeSteps : GoodIn wsX6_setSteps (wsV RX6 76 RX4 yX4_changeSteps wsX4_changeSteps) := goodIn_app (goodIn_of _ (by decide +kernel)) ggX6_setSteps_X4_changeSteps
set_option maxRecDepth 20000 in
theorem ggX6_setSteps_X6_recorded : GoodIn wsX6_setSteps wsX6_recorded := goodIn_r _ [69, 70, 1, 71, 72, 73, 74, 75, 76, 77, 78, 79, 80, 81, 82, 4, 5, 6, 7, 8, 9, 10, 11, 12, 13, 14, 15, 16, 17, 18, 19, 20, 21, 22, 23, 24, 25, 26, 27, 28, 29, 30, 31, 32, 33, 34, 35, 36, 37, 38, 39, 40, 41, 42, 43, 44, 45, 46, 47, 48, 49, 50, 51, 52, 53, 83, 84, 85, 86, 87, 88, 89, 90, 91, 112, 113, 92, 93, 94, 95, 96, 97, 98, 99, 100, 101, 102, 103, 104, 105, 106, 107, 108, 109, 110, 111] (by decide +kernel) (by decide +kernel)
set_option maxRecDepth 20000 in
theorem gX6_setSteps_X6_recorded : GoodIn wsX6_setSteps (wsV RX6 58 RX6 yX6_recorded wsX6_recorded) := goodIn_app (goodIn_of _ (by decide +kernel)) ggX6_setSteps_X6_recorded
theorem dX6_setSteps_0 : decode cX6_setSteps 0 = .ok (.aload_n 0, 1) := by decide +kernel
theorem dX6_setSteps_1 : decode cX6_setSteps 1 = .ok (.getfield 16, 3) := by decide +kernel
theorem dX6_setSteps_4 : decode cX6_setSteps 4 = .ok (.aload_n 0, 1) := by decide +kernel
theorem dX6_setSteps_5 : decode cX6_setSteps 5 = .ok (.getfield 10, 3) := by decide +kernel
theorem dX6_setSteps_8 : decode cX6_setSteps 8 = .ok (.invokevirtual 50, 3) := by decide +kernel
theorem dX6_setSteps_11 : decode cX6_setSteps 11 = .ok (.aload_n 0, 1) := by decide +kernel
theorem dX6_setSteps_12 : decode cX6_setSteps 12 = .ok (.aload_n 0, 1) := by decide +kernel
theorem dX6_setSteps_13 : decode cX6_setSteps 13 = .ok (.getfield 10, 3) := by decide +kernel
theorem dX6_setSteps_16 : decode cX6_setSteps 16 = .ok (.iload_n 1, 1) := by decide +kernel
theorem dX6_setSteps_17 : decode cX6_setSteps 17 = .ok (.iload_n 2, 1) := by decide +kernel
theorem dX6_setSteps_18 : decode cX6_setSteps 18 = .ok (.iload_n 3, 1) := by decide +kernel
theorem dX6_setSteps_19 : decode cX6_setSteps 19 = .ok (.invokevirtual 76, 3) := by decide +kernel
theorem dX6_setSteps_22 : decode cX6_setSteps 22 = .ok (.invokevirtual 58, 3) := by decide +kernel
theorem dX6_setSteps_25 : decode cX6_setSteps 25 = .ok (.ireturn, 1) := by decide +kernel
set_option maxRecDepth 20000 in
theorem ggX6_set_X4_copyFrom : GoodIn wsX6_set wsX4_copyFrom := goodIn_r _ [7, 8, 9, 10, 11, 12, 13, 14, 15, 16, 17, 18, 19, 20, 21, 22, 23, 24, 25, 26, 27, 28, 29, 30, 31, 32, 33, 34, 35, 36, 37, 38, 39, 40, 41, 42, 43, 44, 45, 46, 47, 48, 49, 50, 51, 52, 53, 94, 95, 96, 97, 98, 99, 100, 101, 102, 103, 104, 105, 106, 107, 108, 109, 110, 111, 112, 113] (by decide +kernel) (by decide +kernel)
set_option maxRecDepth 20000 in
theorem gX6_set_X4_copyFrom : GoodIn wsX6_set (wsV RX6 50 RX4 yX4_copyFrom wsX4_copyFrom) := goodIn_app (goodIn_of _ (by decide +kernel)) ggX6_set_X4_copyFrom
set_option maxRecDepth 20000 in
theorem ggX6_set_X4_changeSetting : GoodIn wsX6_set wsX4_changeSetting := goodIn_r _ [57, 58, 59, 60, 6, 61, 9, 62, 22, 63, 64, 65, 66, 67, 10, 94, 95, 96, 97, 98, 99] (by decide +kernel) (by decide +kernel)
set_option maxRecDepth 20000 in
theorem gX6_set_X4_changeSetting : GoodIn wsX6_set (wsV RX6 79 RX4 yX4_changeSetting wsX4_changeSetting) := goodIn_app (goodIn_of _ (by decide +kernel)) ggX6_set_X4_changeSetting
set_option maxRecDepth 20000 in
theorem ggX6_set_X6_recorded : GoodIn wsX6_set wsX6_recorded := goodIn_r _ [71, 72, 1, 73, 74, 75, 76, 77, 78, 79, 80, 81, 82, 83, 84, 4, 5, 6, 7, 8, 9, 10, 11, 12, 13, 14, 15, 16, 17, 18, 19, 20, 21, 22, 23, 24, 25, 26, 27, 28, 29, 30, 31, 32, 33, 34, 35, 36, 37, 38, 39, 40, 41, 42, 43, 44, 45, 46, 47, 48, 49, 50, 51, 52, 53, 85, 86, 87, 88, 89, 90, 91, 92, 93, 114, 115, 94, 95, 96, 97, 98, 99, 100, 101, 102, 103, 104, 105, 106, 107, 108, 109, 110, 111, 112, 113] (by decide +kernel) (by decide +kernel)
set_option maxRecDepth 20000 in
theorem gX6_set_X6_recorded : GoodIn wsX6_set (wsV RX6 58 RX6 yX6_recorded wsX6_recorded) := goodIn_app (goodIn_of _ (by decide +kernel)) ggX6_set_X6_recorded
theorem dX6_set_0 : decode cX6_set 0 = .ok (.aload_n 0, 1) := by decide +kernel
theorem dX6_set_1 : decode cX6_set 1 = .ok (.getfield 16, 3) := by decide +kernel
theorem dX6_set_4 : decode cX6_set 4 = .ok (.aload_n 0, 1) := by decide +kernel
theorem dX6_set_5 : decode cX6_set 5 = .ok (.getfield 10, 3) := by decide +kernel
theorem dX6_set_8 : decode cX6_set 8 = .ok (.invokevirtual 50, 3) := by decide +kernel
theorem dX6_set_11 : decode cX6_set 11 = .ok (.aload_n 0, 1) := by decide +kernel
theorem dX6_set_12 : decode cX6_set 12 = .ok (.aload_n 0, 1) := by decide +kernel
theorem dX6_set_13 : decode cX6_set 13 = .ok (.getfield 10, 3) := by decide +kernel
theorem dX6_set_16 : decode cX6_set 16 = .ok (.iload_n 1, 1) := by decide +kernel
theorem dX6_set_17 : decode cX6_set 17 = .ok (.iload_n 2, 1) := by decide +kernel
theorem dX6_set_18 : decode cX6_set 18 = .ok (.invokevirtual 79, 3) := by decide +kernel
theorem dX6_set_21 : decode cX6_set 21 = .ok (.invokevirtual 58, 3) := by decide +kernel
theorem dX6_set_24 : decode cX6_set 24 = .ok (.ireturn, 1) := by decide +kernel
set_option maxRecDepth 20000 in
theorem ggX6_pass_X4_copyFrom : GoodIn wsX6_pass wsX4_copyFrom := goodIn_r _ [7, 8, 9, 10, 11, 12, 13, 14, 15, 16, 17, 18, 19, 20, 21, 22, 23, 24, 25, 26, 27, 28, 29, 30, 31, 32, 33, 34, 35, 36, 37, 38, 39, 40, 41, 42, 43, 44, 45, 46, 47, 48, 49, 50, 51, 52, 53, 150, 151, 152, 153, 154, 155, 156, 157, 158, 159, 160, 161, 162, 163, 164, 165, 166, 167, 168, 169] (by decide +kernel) (by decide +kernel)
set_option maxRecDepth 20000 in
theorem gX6_pass_X4_copyFrom : GoodIn wsX6_pass (wsV RX6 50 RX4 yX4_copyFrom wsX4_copyFrom) := goodIn_app (goodIn_of _ (by decide +kernel)) ggX6_pass_X4_copyFrom
set_option maxRecDepth 20000 in
theorem ggX6_pass_X4_letPass : GoodIn wsX6_pass wsX4_letPass := goodIn_r _ [57, 8, 58, 59, 22, 60, 61, 62, 63, 6, 64, 65, 66, 67, 68, 13, 69, 70, 26, 71, 72, 73, 74, 47, 75, 51, 50, 76, 25, 27, 77, 78, 79, 80, 52, 81, 82, 83, 84, 85, 53, 86, 87, 88, 89, 90, 12, 91, 92, 93, 94, 95, 96, 97, 98, 99, 100, 101, 102, 35, 103, 43, 104, 105, 106, 107, 108, 109, 110, 9, 10, 111, 112, 113, 114, 115, 40, 41, 116, 117, 118, 119, 42, 120, 121, 122, 123, 150, 151, 152, 153, 154, 155, 165, 166, 167, 168, 169, 158, 159, 160, 161, 162, 163, 164] (by decide +kernel) (by decide +kernel)
set_option maxRecDepth 20000 in
theorem gX6_pass_X4_letPass : GoodIn wsX6_pass (wsV RX6 82 RX4 yX4_letPass wsX4_letPass) := goodIn_app (goodIn_of _ (by decide +kernel)) ggX6_pass_X4_letPass
set_option maxRecDepth 20000 in
theorem ggX6_pass_X6_recorded : GoodIn wsX6_pass wsX6_recorded := goodIn_r _ [127, 128, 1, 129, 130, 131, 132, 133, 134, 135, 136, 137, 138, 139, 140, 4, 5, 6, 7, 8, 9, 10, 11, 12, 13, 14, 15, 16, 17, 18, 19, 20, 21, 22, 23, 24, 25, 26, 27, 28, 29, 30, 31, 32, 33, 34, 35, 36, 37, 38, 39, 40, 41, 42, 43, 44, 45, 46, 47, 48, 49, 50, 51, 52, 53, 141, 142, 143, 144, 145, 146, 147, 148, 149, 170, 171, 150, 151, 152, 153, 154, 155, 156, 157, 158, 159, 160, 161, 162, 163, 164, 165, 166, 167, 168, 169] (by decide +kernel) (by decide +kernel)
set_option maxRecDepth 20000 in
theorem gX6_pass_X6_recorded : GoodIn wsX6_pass (wsV RX6 58 RX6 yX6_recorded wsX6_recorded) := goodIn_app (goodIn_of _ (by decide +kernel)) ggX6_pass_X6_recorded
theorem dX6_pass_0 : decode cX6_pass 0 = .ok (.aload_n 0, 1) := by decide +kernel
theorem dX6_pass_1 : decode cX6_pass 1 = .ok (.getfield 16, 3) := by decide +kernel
theorem dX6_pass_4 : decode cX6_pass 4 = .ok (.aload_n 0, 1) := by decide +kernel
theorem dX6_pass_5 : decode cX6_pass 5 = .ok (.getfield 10, 3) := by decide +kernel
theorem dX6_pass_8 : decode cX6_pass 8 = .ok (.invokevirtual 50, 3) := by decide +kernel
theorem dX6_pass_11 : decode cX6_pass 11 = .ok (.aload_n 0, 1) := by decide +kernel
theorem dX6_pass_12 : decode cX6_pass 12 = .ok (.aload_n 0, 1) := by decide +kernel
theorem dX6_pass_13 : decode cX6_pass 13 = .ok (.getfield 10, 3) := by decide +kernel
theorem dX6_pass_16 : decode cX6_pass 16 = .ok (.iload_n 1, 1) := by decide +kernel
theorem dX6_pass_17 : decode cX6_pass 17 = .ok (.invokevirtual 82, 3) := by decide +kernel
theorem dX6_pass_20 : decode cX6_pass 20 = .ok (.invokevirtual 58, 3) := by decide +kernel
theorem dX6_pass_23 : decode cX6_pass 23 = .ok (.ireturn, 1) := by decide +kernel
set_option maxRecDepth 20000 in
theorem ggX6_type_X5_append : GoodIn wsX6_type wsX5_append := goodIn_r _ [6, 7, 8, 18, 19, 20, 21, 22, 23, 24, 25, 26, 27] (by decide +kernel) (by decide +kernel)
set_option maxRecDepth 20000 in
theorem gX6_type_X5_append : GoodIn wsX6_type (wsV RX6 85 RX5 yX5_append wsX5_append) := goodIn_app (goodIn_of _ (by decide +kernel)) ggX6_type_X5_append
theorem dX6_type_0 : decode cX6_type 0 = .ok (.aload_n 0, 1) := by decide +kernel
theorem dX6_type_1 : decode cX6_type 1 = .ok (.getfield 39, 3) := by decide +kernel
theorem dX6_type_4 : decode cX6_type 4 = .ok (.iload_n 1, 1) := by decide +kernel
theorem dX6_type_5 : decode cX6_type 5 = .ok (.invokevirtual 85, 3) := by decide +kernel
theorem dX6_type_8 : decode cX6_type 8 = .ok (.ireturn, 1) := by decide +kernel
set_option maxRecDepth 20000 in
theorem ggX6_clearText_X5_empty : GoodIn wsX6_clearText wsX5_empty := goodIn_r _ [6, 7, 17, 18, 19, 20, 21, 22, 23, 24, 25, 26] (by decide +kernel) (by decide +kernel)
set_option maxRecDepth 20000 in
theorem gX6_clearText_X5_empty : GoodIn wsX6_clearText (wsV RX6 89 RX5 yX5_empty wsX5_empty) := goodIn_app (goodIn_of _ (by decide +kernel)) ggX6_clearText_X5_empty
theorem dX6_clearText_0 : decode cX6_clearText 0 = .ok (.aload_n 0, 1) := by decide +kernel
theorem dX6_clearText_1 : decode cX6_clearText 1 = .ok (.getfield 39, 3) := by decide +kernel
theorem dX6_clearText_4 : decode cX6_clearText 4 = .ok (.invokevirtual 89, 3) := by decide +kernel
theorem dX6_clearText_7 : decode cX6_clearText 7 = .ok (.ireturn, 1) := by decide +kernel
set_option maxRecDepth 20000 in
theorem ggX6_perform_X5_findFault : GoodIn wsX6_perform wsX5_findFault := goodIn_r _ [11, 12, 13, 14, 15, 16, 17, 10, 18, 19, 20, 21, 22, 23, 24, 25, 26, 27, 28, 29, 30, 31, 32, 33, 34, 35, 36, 37, 38, 39, 40, 41, 42, 43, 44, 45, 46, 47, 48, 49, 50, 51, 52, 53, 54, 55, 56, 57, 58, 59, 60, 61, 62, 63, 64, 65, 66, 67, 68, 69, 70, 71, 72, 279, 280, 281, 282, 283, 284, 285, 286, 287, 288] (by decide +kernel) (by decide +kernel)
set_option maxRecDepth 20000 in
theorem gX6_perform_X5_findFault : GoodIn wsX6_perform (wsV RX6 93 RX5 yX5_findFault wsX5_findFault) := goodIn_app (goodIn_of _ (by decide +kernel)) ggX6_perform_X5_findFault
set_option maxRecDepth 20000 in
theorem ggX6_perform_X4_copyFrom : GoodIn wsX6_perform wsX4_copyFrom := goodIn_r _ [77, 78, 79, 80, 81, 82, 83, 84, 85, 86, 87, 88, 89, 90, 91, 49, 92, 93, 94, 95, 96, 97, 98, 99, 100, 101, 102, 103, 104, 105, 106, 107, 108, 109, 110, 111, 112, 113, 114, 115, 116, 117, 118, 119, 120, 121, 122, 289, 290, 291, 292, 293, 294, 295, 296, 297, 298, 299, 300, 301, 302, 303, 304, 305, 306, 307, 308] (by decide +kernel) (by decide +kernel)
set_option maxRecDepth 20000 in
theorem gX6_perform_X4_copyFrom : GoodIn wsX6_perform (wsV RX6 50 RX4 yX4_copyFrom wsX4_copyFrom) := goodIn_app (goodIn_of _ (by decide +kernel)) ggX6_perform_X4_copyFrom
set_option maxRecDepth 20000 in
theorem ggX6_perform_X5_startReading : GoodIn wsX6_perform wsX5_startReading := goodIn_r _ [18, 13, 279, 280, 281, 282, 283, 284, 285, 286, 287, 288] (by decide +kernel) (by decide +kernel)
set_option maxRecDepth 20000 in
theorem gX6_perform_X5_startReading : GoodIn wsX6_perform (wsV RX6 99 RX5 yX5_startReading wsX5_startReading) := goodIn_app (goodIn_of _ (by decide +kernel)) ggX6_perform_X5_startReading
set_option maxRecDepth 20000 in
theorem ggX6_perform_X5_readThing : GoodIn wsX6_perform wsX5_readThing := goodIn_r _ [22, 23, 24, 25, 26, 10, 27, 13, 14, 28, 29, 30, 31, 32, 33, 34, 35, 36, 37, 38, 39, 40, 41, 42, 43, 44, 45, 46, 47, 48, 49, 50, 51, 52, 53, 54, 55, 56, 57, 58, 59, 60, 61, 62, 63, 64, 65, 66, 67, 68, 69, 70, 71, 72, 279, 280, 281, 282, 283, 284, 285, 286, 287, 288] (by decide +kernel) (by decide +kernel)
set_option maxRecDepth 20000 in
theorem gX6_perform_X5_readThing : GoodIn wsX6_perform (wsV RX6 102 RX5 yX5_readThing wsX5_readThing) := goodIn_app (goodIn_of _ (by decide +kernel)) ggX6_perform_X5_readThing
set_option maxRecDepth 20000 in
theorem ggX6_perform_X6_doThing : GoodIn wsX6_perform wsX6_doThing := goodIn_r _ [128, 1, 129, 3, 130, 131, 132, 133, 134, 135, 136, 137, 76, 138, 83, 139, 82, 81, 140, 141, 49, 142, 143, 144, 145, 146, 48, 50, 147, 148, 149, 150, 151, 152, 153, 104, 154, 106, 155, 156, 157, 87, 158, 89, 90, 159, 160, 95, 161, 162, 163, 164, 165, 166, 167, 168, 169, 170, 107, 108, 109, 110, 111, 112, 171, 172, 173, 174, 175, 176, 177, 178, 179, 180, 181, 182, 183, 184, 185, 186, 187, 188, 189, 190, 191, 78, 192, 193, 194, 195, 196, 197, 198, 199, 200, 201, 202, 203, 204, 116, 205, 120, 119, 206, 94, 96, 207, 208, 209, 210, 121, 211, 212, 213, 214, 215, 122, 216, 217, 218, 219, 220, 221, 222, 223, 224, 225, 226, 227, 228, 229, 230, 231, 232, 233, 234, 235, 79, 80, 236, 237, 238, 239, 240, 241, 242, 243, 244, 245, 246, 247, 248, 270, 271, 272, 273, 274, 275, 276, 277, 278, 279, 280, 281, 282, 283, 284, 285, 286, 287, 288, 289, 290, 291, 292, 293, 294, 304, 305, 306, 307, 308, 297, 298, 299, 300, 301, 302, 303, 295, 296] (by decide +kernel) (by decide +kernel)
set_option maxRecDepth 20000 in
theorem gX6_perform_X6_doThing : GoodIn wsX6_perform (wsV RX6 106 RX6 yX6_doThing wsX6_doThing) := goodIn_app (goodIn_of _ (by decide +kernel)) ggX6_perform_X6_doThing
set_option maxRecDepth 20000 in
theorem ggX6_perform_X6_isError : GoodIn wsX6_perform wsX6_isError := goodIn_r _ [251] (by decide +kernel) (by decide +kernel)
set_option maxRecDepth 20000 in
theorem gX6_perform_X6_isError : GoodIn wsX6_perform (va_wsS RX6 109 yX6_isError wsX6_isError) := goodIn_app (goodIn_of _ (by decide +kernel)) ggX6_perform_X6_isError
set_option maxRecDepth 20000 in
theorem ggX6_perform_X5_readSign : GoodIn wsX6_perform wsX5_readSign := goodIn_r _ [32, 13, 24, 25, 26, 10, 27, 14, 28, 279, 280, 281, 282, 283, 284, 285, 286, 287, 288] (by decide +kernel) (by decide +kernel)
set_option maxRecDepth 20000 in
theorem gX6_perform_X5_readSign : GoodIn wsX6_perform (wsV RX6 113 RX5 yX5_readSign wsX5_readSign) := goodIn_app (goodIn_of _ (by decide +kernel)) ggX6_perform_X5_readSign
set_option maxRecDepth 20000 in
theorem ggX6_perform_X6_recorded : GoodIn wsX6_perform wsX6_recorded := goodIn_r _ [256, 257, 2, 258, 259, 260, 261, 262, 263, 264, 265, 266, 267, 268, 269, 74, 75, 76, 77, 78, 79, 80, 81, 82, 83, 84, 85, 86, 87, 88, 89, 90, 91, 49, 92, 93, 94, 95, 96, 97, 98, 99, 100, 101, 102, 103, 104, 105, 106, 107, 108, 109, 110, 111, 112, 113, 114, 115, 116, 117, 118, 119, 120, 121, 122, 270, 271, 272, 273, 274, 275, 276, 277, 278, 309, 310, 289, 290, 291, 292, 293, 294, 295, 296, 297, 298, 299, 300, 301, 302, 303, 304, 305, 306, 307, 308] (by decide +kernel) (by decide +kernel)
set_option maxRecDepth 20000 in
theorem gX6_perform_X6_recorded : GoodIn wsX6_perform (wsV RX6 58 RX6 yX6_recorded wsX6_recorded) := goodIn_app (goodIn_of _ (by decide +kernel)) ggX6_perform_X6_recorded
theorem dX6_perform_0 : decode cX6_perform 0 = .ok (.aload_n 0, 1) := by decide +kernel
theorem dX6_perform_1 : decode cX6_perform 1 = .ok (.getfield 39, 3) := by decide +kernel
theorem dX6_perform_4 : decode cX6_perform 4 = .ok (.invokevirtual 93, 3) := by decide +kernel
theorem dX6_perform_7 : decode cX6_perform 7 = .ok (.istore_n 1, 1) := by decide +kernel
theorem dX6_perform_8 : decode cX6_perform 8 = .ok (.iload_n 1, 1) := by decide +kernel
theorem dX6_perform_9 : decode cX6_perform 9 = .ok (.iconst (-1), 1) := by decide +kernel
theorem dX6_perform_10 : decode cX6_perform 10 = .ok (.if_icmp .eq 9, 3) := by decide +kernel
theorem dX6_perform_13 : decode cX6_perform 13 = .ok (.sipush (-1100), 3) := by decide +kernel
theorem dX6_perform_16 : decode cX6_perform 16 = .ok (.iload_n 1, 1) := by decide +kernel
theorem dX6_perform_17 : decode cX6_perform 17 = .ok (.isub, 1) := by decide +kernel
theorem dX6_perform_18 : decode cX6_perform 18 = .ok (.ireturn, 1) := by decide +kernel
theorem dX6_perform_19 : decode cX6_perform 19 = .ok (.aload_n 0, 1) := by decide +kernel
theorem dX6_perform_20 : decode cX6_perform 20 = .ok (.getfield 16, 3) := by decide +kernel
theorem dX6_perform_23 : decode cX6_perform 23 = .ok (.aload_n 0, 1) := by decide +kernel
theorem dX6_perform_24 : decode cX6_perform 24 = .ok (.getfield 10, 3) := by decide +kernel
theorem dX6_perform_27 : decode cX6_perform 27 = .ok (.invokevirtual 50, 3) := by decide +kernel
theorem dX6_perform_30 : decode cX6_perform 30 = .ok (.aload_n 0, 1) := by decide +kernel
theorem dX6_perform_31 : decode cX6_perform 31 = .ok (.getfield 39, 3) := by decide +kernel
theorem dX6_perform_34 : decode cX6_perform 34 = .ok (.getfield 96, 3) := by decide +kernel
theorem dX6_perform_37 : decode cX6_perform 37 = .ok (.istore_n 2, 1) := by decide +kernel
theorem dX6_perform_38 : decode cX6_perform 38 = .ok (.aload_n 0, 1) := by decide +kernel
theorem dX6_perform_39 : decode cX6_perform 39 = .ok (.getfield 39, 3) := by decide +kernel
theorem dX6_perform_42 : decode cX6_perform 42 = .ok (.invokevirtual 99, 3) := by decide +kernel
theorem dX6_perform_45 : decode cX6_perform 45 = .ok (.iconst 0, 1) := by decide +kernel
theorem dX6_perform_46 : decode cX6_perform 46 = .ok (.istore_n 3, 1) := by decide +kernel
theorem dX6_perform_47 : decode cX6_perform 47 = .ok (.iload_n 3, 1) := by decide +kernel
theorem dX6_perform_48 : decode cX6_perform 48 = .ok (.iload_n 2, 1) := by decide +kernel
theorem dX6_perform_49 : decode cX6_perform 49 = .ok (.if_icmp .ge 67, 3) := by decide +kernel
theorem dX6_perform_52 : decode cX6_perform 52 = .ok (.aload_n 0, 1) := by decide +kernel
theorem dX6_perform_53 : decode cX6_perform 53 = .ok (.getfield 39, 3) := by decide +kernel
theorem dX6_perform_56 : decode cX6_perform 56 = .ok (.invokevirtual 102, 3) := by decide +kernel
theorem dX6_perform_59 : decode cX6_perform 59 = .ok (.pop, 1) := by decide +kernel
theorem dX6_perform_60 : decode cX6_perform 60 = .ok (.aload_n 0, 1) := by decide +kernel
theorem dX6_perform_61 : decode cX6_perform 61 = .ok (.invokevirtual 106, 3) := by decide +kernel
theorem dX6_perform_64 : decode cX6_perform 64 = .ok (.istore 4, 2) := by decide +kernel
theorem dX6_perform_66 : decode cX6_perform 66 = .ok (.iload 4, 2) := by decide +kernel
theorem dX6_perform_68 : decode cX6_perform 68 = .ok (.invokestatic 109, 3) := by decide +kernel
theorem dX6_perform_71 : decode cX6_perform 71 = .ok (.ifCond .eq 29, 3) := by decide +kernel
theorem dX6_perform_74 : decode cX6_perform 74 = .ok (.aload_n 0, 1) := by decide +kernel
theorem dX6_perform_75 : decode cX6_perform 75 = .ok (.getfield 10, 3) := by decide +kernel
theorem dX6_perform_78 : decode cX6_perform 78 = .ok (.aload_n 0, 1) := by decide +kernel
theorem dX6_perform_79 : decode cX6_perform 79 = .ok (.getfield 16, 3) := by decide +kernel
theorem dX6_perform_82 : decode cX6_perform 82 = .ok (.invokevirtual 50, 3) := by decide +kernel
theorem dX6_perform_85 : decode cX6_perform 85 = .ok (.aload_n 0, 1) := by decide +kernel
theorem dX6_perform_86 : decode cX6_perform 86 = .ok (.iload_n 3, 1) := by decide +kernel
theorem dX6_perform_87 : decode cX6_perform 87 = .ok (.putfield 43, 3) := by decide +kernel
theorem dX6_perform_90 : decode cX6_perform 90 = .ok (.aload_n 0, 1) := by decide +kernel
theorem dX6_perform_91 : decode cX6_perform 91 = .ok (.iload 4, 2) := by decide +kernel
theorem dX6_perform_93 : decode cX6_perform 93 = .ok (.putfield 47, 3) := by decide +kernel
theorem dX6_perform_96 : decode cX6_perform 96 = .ok (.sipush (-1004), 3) := by decide +kernel
theorem dX6_perform_99 : decode cX6_perform 99 = .ok (.ireturn, 1) := by decide +kernel
theorem dX6_perform_100 : decode cX6_perform 100 = .ok (.aload_n 0, 1) := by decide +kernel
theorem dX6_perform_101 : decode cX6_perform 101 = .ok (.getfield 39, 3) := by decide +kernel
theorem dX6_perform_104 : decode cX6_perform 104 = .ok (.bipush 59, 2) := by decide +kernel
theorem dX6_perform_106 : decode cX6_perform 106 = .ok (.invokevirtual 113, 3) := by decide +kernel
theorem dX6_perform_109 : decode cX6_perform 109 = .ok (.pop, 1) := by decide +kernel
theorem dX6_perform_110 : decode cX6_perform 110 = .ok (.iinc 3 1, 3) := by decide +kernel
theorem dX6_perform_113 : decode cX6_perform 113 = .ok (.goto (-66), 3) := by decide +kernel
theorem dX6_perform_116 : decode cX6_perform 116 = .ok (.aload_n 0, 1) := by decide +kernel
theorem dX6_perform_117 : decode cX6_perform 117 = .ok (.iload_n 2, 1) := by decide +kernel
theorem dX6_perform_118 : decode cX6_perform 118 = .ok (.invokevirtual 58, 3) := by decide +kernel
theorem dX6_perform_121 : decode cX6_perform 121 = .ok (.ireturn, 1) := by decide +kernel
set_option maxRecDepth 20000 in
theorem ggX6_stopped_X6_isWithin : GoodIn wsX6_stopped wsX6_isWithin := goodIn_r _ [6] (by decide +kernel) (by decide +kernel)
set_option maxRecDepth 20000 in
theorem gX6_stopped_X6_isWithin : GoodIn wsX6_stopped (va_wsS RX6 117 yX6_isWithin wsX6_isWithin) := goodIn_app (goodIn_of _ (by decide +kernel)) ggX6_stopped_X6_isWithin
theorem dX6_stopped_0 : decode cX6_stopped 0 = .ok (.iload_n 1, 1) := by decide +kernel
theorem dX6_stopped_1 : decode cX6_stopped 1 = .ok (.iconst 0, 1) := by decide +kernel
theorem dX6_stopped_2 : decode cX6_stopped 2 = .ok (.iconst 1, 1) := by decide +kernel
theorem dX6_stopped_3 : decode cX6_stopped 3 = .ok (.invokestatic 117, 3) := by decide +kernel
theorem dX6_stopped_6 : decode cX6_stopped 6 = .ok (.ifCond .ne 7, 3) := by decide +kernel
theorem dX6_stopped_9 : decode cX6_stopped 9 = .ok (.sipush (-1002), 3) := by decide +kernel
theorem dX6_stopped_12 : decode cX6_stopped 12 = .ok (.ireturn, 1) := by decide +kernel
theorem dX6_stopped_13 : decode cX6_stopped 13 = .ok (.aload_n 0, 1) := by decide +kernel
theorem dX6_stopped_14 : decode cX6_stopped 14 = .ok (.getfield 47, 3) := by decide +kernel
theorem dX6_stopped_17 : decode cX6_stopped 17 = .ok (.ifCond .ne 7, 3) := by decide +kernel
theorem dX6_stopped_20 : decode cX6_stopped 20 = .ok (.sipush (-1005), 3) := by decide +kernel
theorem dX6_stopped_23 : decode cX6_stopped 23 = .ok (.ireturn, 1) := by decide +kernel
theorem dX6_stopped_24 : decode cX6_stopped 24 = .ok (.iload_n 1, 1) := by decide +kernel
theorem dX6_stopped_25 : decode cX6_stopped 25 = .ok (.ifCond .ne 10, 3) := by decide +kernel
theorem dX6_stopped_28 : decode cX6_stopped 28 = .ok (.aload_n 0, 1) := by decide +kernel
theorem dX6_stopped_29 : decode cX6_stopped 29 = .ok (.getfield 43, 3) := by decide +kernel
theorem dX6_stopped_32 : decode cX6_stopped 32 = .ok (.goto 7, 3) := by decide +kernel
theorem dX6_stopped_35 : decode cX6_stopped 35 = .ok (.aload_n 0, 1) := by decide +kernel
theorem dX6_stopped_36 : decode cX6_stopped 36 = .ok (.getfield 47, 3) := by decide +kernel
theorem dX6_stopped_39 : decode cX6_stopped 39 = .ok (.ireturn, 1) := by decide +kernel
set_option maxRecDepth 20000 in
theorem ggX6_undo_X1_moveLatestTo : GoodIn wsX6_undo wsX1_moveLatestTo := goodIn_r _ [8, 9, 10, 11, 12, 13, 14, 15, 16, 17, 18, 19, 20, 21, 22, 23, 24, 25, 26, 27, 28, 29, 30, 31, 32, 33, 34, 35, 36, 37, 38, 39, 40, 41, 42, 43, 44, 45, 46, 47, 48, 49, 50, 51, 52, 53, 54, 55, 56, 57, 58, 59, 60, 61, 71, 72, 73, 74, 75, 76, 77, 78, 79, 80, 81, 82, 83, 84, 85, 86, 87, 88, 89, 90, 91, 92] (by decide +kernel) (by decide +kernel)
set_option maxRecDepth 20000 in
theorem gX6_undo_X1_moveLatestTo : GoodIn wsX6_undo (wsV RX6 124 RX1 yX1_moveLatestTo wsX1_moveLatestTo) := goodIn_app (goodIn_of _ (by decide +kernel)) ggX6_undo_X1_moveLatestTo
theorem dX6_undo_0 : decode cX6_undo 0 = .ok (.aload_n 0, 1) := by decide +kernel
theorem dX6_undo_1 : decode cX6_undo 1 = .ok (.getfield 32, 3) := by decide +kernel
theorem dX6_undo_4 : decode cX6_undo 4 = .ok (.getfield 121, 3) := by decide +kernel
theorem dX6_undo_7 : decode cX6_undo 7 = .ok (.ifCond .ne 7, 3) := by decide +kernel
theorem dX6_undo_10 : decode cX6_undo 10 = .ok (.sipush (-1005), 3) := by decide +kernel
theorem dX6_undo_13 : decode cX6_undo 13 = .ok (.ireturn, 1) := by decide +kernel
theorem dX6_undo_14 : decode cX6_undo 14 = .ok (.aload_n 0, 1) := by decide +kernel
theorem dX6_undo_15 : decode cX6_undo 15 = .ok (.getfield 32, 3) := by decide +kernel
theorem dX6_undo_18 : decode cX6_undo 18 = .ok (.aload_n 0, 1) := by decide +kernel
theorem dX6_undo_19 : decode cX6_undo 19 = .ok (.getfield 10, 3) := by decide +kernel
theorem dX6_undo_22 : decode cX6_undo 22 = .ok (.invokevirtual 124, 3) := by decide +kernel
theorem dX6_undo_25 : decode cX6_undo 25 = .ok (.aload_n 0, 1) := by decide +kernel
theorem dX6_undo_26 : decode cX6_undo 26 = .ok (.getfield 32, 3) := by decide +kernel
theorem dX6_undo_29 : decode cX6_undo 29 = .ok (.getfield 121, 3) := by decide +kernel
theorem dX6_undo_32 : decode cX6_undo 32 = .ok (.ireturn, 1) := by decide +kernel
set_option maxRecDepth 20000 in
theorem ggX6_keep_X4_copyFrom : GoodIn wsX6_keep wsX4_copyFrom := goodIn_r _ [10, 11, 12, 13, 14, 15, 16, 17, 18, 19, 20, 21, 22, 23, 24, 25, 26, 27, 28, 29, 30, 31, 32, 33, 34, 35, 36, 37, 38, 39, 40, 41, 42, 43, 44, 45, 46, 47, 48, 49, 50, 51, 52, 53, 54, 55, 56, 66, 67, 68, 69, 70, 71, 79, 80, 72, 73, 74, 75, 76, 77, 78, 81, 82, 83, 84, 85] (by decide +kernel) (by decide +kernel)
set_option maxRecDepth 20000 in
theorem gX6_keep_X4_copyFrom : GoodIn wsX6_keep (wsV RX6 50 RX4 yX4_copyFrom wsX4_copyFrom) := goodIn_app (goodIn_of _ (by decide +kernel)) ggX6_keep_X4_copyFrom
theorem dX6_keep_0 : decode cX6_keep 0 = .ok (.aload_n 0, 1) := by decide +kernel
theorem dX6_keep_1 : decode cX6_keep 1 = .ok (.getfield 22, 3) := by decide +kernel
theorem dX6_keep_4 : decode cX6_keep 4 = .ok (.aload_n 0, 1) := by decide +kernel
theorem dX6_keep_5 : decode cX6_keep 5 = .ok (.getfield 10, 3) := by decide +kernel
theorem dX6_keep_8 : decode cX6_keep 8 = .ok (.invokevirtual 50, 3) := by decide +kernel
theorem dX6_keep_11 : decode cX6_keep 11 = .ok (.aload_n 0, 1) := by decide +kernel
theorem dX6_keep_12 : decode cX6_keep 12 = .ok (.iconst 1, 1) := by decide +kernel
theorem dX6_keep_13 : decode cX6_keep 13 = .ok (.putfield 25, 3) := by decide +kernel
theorem dX6_keep_16 : decode cX6_keep 16 = .ok (.aload_n 0, 1) := by decide +kernel
theorem dX6_keep_17 : decode cX6_keep 17 = .ok (.getfield 10, 3) := by decide +kernel
theorem dX6_keep_20 : decode cX6_keep 20 = .ok (.getfield 127, 3) := by decide +kernel
theorem dX6_keep_23 : decode cX6_keep 23 = .ok (.getfield 131, 3) := by decide +kernel
theorem dX6_keep_26 : decode cX6_keep 26 = .ok (.ireturn, 1) := by decide +kernel
set_option maxRecDepth 20000 in
theorem ggX6_restore_X4_copyFrom : GoodIn wsX6_restore wsX4_copyFrom := goodIn_r _ [11, 12, 13, 14, 15, 16, 17, 18, 19, 20, 21, 22, 23, 24, 25, 26, 27, 28, 29, 30, 31, 32, 33, 34, 35, 36, 37, 38, 39, 40, 41, 42, 43, 44, 45, 46, 47, 48, 49, 50, 51, 52, 53, 54, 55, 56, 57, 84, 85, 86, 87, 88, 89, 97, 98, 90, 91, 92, 93, 94, 95, 96, 99, 100, 101, 102, 103] (by decide +kernel) (by decide +kernel)
set_option maxRecDepth 20000 in
theorem gX6_restore_X4_copyFrom : GoodIn wsX6_restore (wsV RX6 50 RX4 yX4_copyFrom wsX4_copyFrom) := goodIn_app (goodIn_of _ (by decide +kernel)) ggX6_restore_X4_copyFrom
set_option maxRecDepth 20000 in
theorem ggX6_restore_X6_recorded : GoodIn wsX6_restore wsX6_recorded := goodIn_r _ [61, 62, 2, 63, 64, 65, 66, 67, 68, 69, 70, 71, 72, 73, 74, 8, 9, 10, 11, 12, 13, 14, 15, 16, 17, 18, 19, 20, 21, 22, 23, 24, 25, 26, 27, 28, 29, 30, 31, 32, 33, 34, 35, 36, 37, 38, 39, 40, 41, 42, 43, 44, 45, 46, 47, 48, 49, 50, 51, 52, 53, 54, 55, 56, 57, 75, 76, 77, 78, 79, 80, 81, 82, 83, 104, 105, 84, 85, 86, 87, 88, 89, 97, 98, 90, 91, 92, 93, 94, 95, 96, 99, 100, 101, 102, 103] (by decide +kernel) (by decide +kernel)
set_option maxRecDepth 20000 in
theorem gX6_restore_X6_recorded : GoodIn wsX6_restore (wsV RX6 58 RX6 yX6_recorded wsX6_recorded) := goodIn_app (goodIn_of _ (by decide +kernel)) ggX6_restore_X6_recorded
theorem dX6_restore_0 : decode cX6_restore 0 = .ok (.aload_n 0, 1) := by decide +kernel
theorem dX6_restore_1 : decode cX6_restore 1 = .ok (.getfield 25, 3) := by decide +kernel
theorem dX6_restore_4 : decode cX6_restore 4 = .ok (.ifCond .ne 7, 3) := by decide +kernel
theorem dX6_restore_7 : decode cX6_restore 7 = .ok (.sipush (-1005), 3) := by decide +kernel
theorem dX6_restore_10 : decode cX6_restore 10 = .ok (.ireturn, 1) := by decide +kernel
theorem dX6_restore_11 : decode cX6_restore 11 = .ok (.aload_n 0, 1) := by decide +kernel
theorem dX6_restore_12 : decode cX6_restore 12 = .ok (.getfield 16, 3) := by decide +kernel
theorem dX6_restore_15 : decode cX6_restore 15 = .ok (.aload_n 0, 1) := by decide +kernel
theorem dX6_restore_16 : decode cX6_restore 16 = .ok (.getfield 10, 3) := by decide +kernel
theorem dX6_restore_19 : decode cX6_restore 19 = .ok (.invokevirtual 50, 3) := by decide +kernel
theorem dX6_restore_22 : decode cX6_restore 22 = .ok (.aload_n 0, 1) := by decide +kernel
theorem dX6_restore_23 : decode cX6_restore 23 = .ok (.getfield 10, 3) := by decide +kernel
theorem dX6_restore_26 : decode cX6_restore 26 = .ok (.aload_n 0, 1) := by decide +kernel
theorem dX6_restore_27 : decode cX6_restore 27 = .ok (.getfield 22, 3) := by decide +kernel
theorem dX6_restore_30 : decode cX6_restore 30 = .ok (.invokevirtual 50, 3) := by decide +kernel
theorem dX6_restore_33 : decode cX6_restore 33 = .ok (.aload_n 0, 1) := by decide +kernel
theorem dX6_restore_34 : decode cX6_restore 34 = .ok (.aload_n 0, 1) := by decide +kernel
theorem dX6_restore_35 : decode cX6_restore 35 = .ok (.getfield 10, 3) := by decide +kernel
theorem dX6_restore_38 : decode cX6_restore 38 = .ok (.getfield 127, 3) := by decide +kernel
theorem dX6_restore_41 : decode cX6_restore 41 = .ok (.getfield 131, 3) := by decide +kernel
theorem dX6_restore_44 : decode cX6_restore 44 = .ok (.invokevirtual 58, 3) := by decide +kernel
theorem dX6_restore_47 : decode cX6_restore 47 = .ok (.ireturn, 1) := by decide +kernel
set_option maxRecDepth 20000 in
theorem ggX6_lamp_X4_tellOfLamp : GoodIn wsX6_lamp wsX4_tellOfLamp := goodIn_r _ [6, 7, 8, 9, 10, 11, 12, 13, 14, 15, 16, 17, 18, 19, 20, 21, 22, 23, 24, 25, 26, 27, 28, 29, 30, 31, 32, 33, 34, 35, 36, 37, 38, 39, 49, 50, 51, 52, 53, 54, 55, 56, 57, 58, 59, 60, 61] (by decide +kernel) (by decide +kernel)
set_option maxRecDepth 20000 in
theorem gX6_lamp_X4_tellOfLamp : GoodIn wsX6_lamp (wsV RX6 134 RX4 yX4_tellOfLamp wsX4_tellOfLamp) := goodIn_app (goodIn_of _ (by decide +kernel)) ggX6_lamp_X4_tellOfLamp
theorem dX6_lamp_0 : decode cX6_lamp 0 = .ok (.aload_n 0, 1) := by decide +kernel
theorem dX6_lamp_1 : decode cX6_lamp 1 = .ok (.getfield 10, 3) := by decide +kernel
theorem dX6_lamp_4 : decode cX6_lamp 4 = .ok (.iload_n 1, 1) := by decide +kernel
theorem dX6_lamp_5 : decode cX6_lamp 5 = .ok (.iload_n 2, 1) := by decide +kernel
theorem dX6_lamp_6 : decode cX6_lamp 6 = .ok (.invokevirtual 134, 3) := by decide +kernel
theorem dX6_lamp_9 : decode cX6_lamp 9 = .ok (.ireturn, 1) := by decide +kernel
set_option maxRecDepth 20000 in
theorem ggX6_rack_X4_tellOfRack : GoodIn wsX6_rack wsX4_tellOfRack := goodIn_r _ [6, 7, 8, 9, 10, 11, 12, 13, 14, 15, 16, 17, 18, 19, 5, 20, 21, 22, 23, 24, 25, 26, 27, 28, 29, 30, 31, 32, 33, 34, 35, 36, 37, 38, 39, 40, 41, 42, 43, 44, 45, 46, 47, 48, 49, 50, 51, 52, 53, 54, 64, 65, 66, 67, 68, 69, 70, 71, 72, 73, 74, 75, 76, 77, 78, 79, 80, 81] (by decide +kernel) (by decide +kernel)
set_option maxRecDepth 20000 in
theorem gX6_rack_X4_tellOfRack : GoodIn wsX6_rack (wsV RX6 137 RX4 yX4_tellOfRack wsX4_tellOfRack) := goodIn_app (goodIn_of _ (by decide +kernel)) ggX6_rack_X4_tellOfRack
theorem dX6_rack_0 : decode cX6_rack 0 = .ok (.aload_n 0, 1) := by decide +kernel
theorem dX6_rack_1 : decode cX6_rack 1 = .ok (.getfield 10, 3) := by decide +kernel
theorem dX6_rack_4 : decode cX6_rack 4 = .ok (.iload_n 1, 1) := by decide +kernel
theorem dX6_rack_5 : decode cX6_rack 5 = .ok (.iload_n 2, 1) := by decide +kernel
theorem dX6_rack_6 : decode cX6_rack 6 = .ok (.invokevirtual 137, 3) := by decide +kernel
theorem dX6_rack_9 : decode cX6_rack 9 = .ok (.ireturn, 1) := by decide +kernel
set_option maxRecDepth 20000 in
theorem ggX6_at_X6_isPlace : GoodIn wsX6_at wsX6_isPlace := goodIn_r _ [7, 8, 9, 6, 10, 11, 12, 13] (by decide +kernel) (by decide +kernel)
set_option maxRecDepth 20000 in
theorem gX6_at_X6_isPlace : GoodIn wsX6_at (va_wsS RX6 140 yX6_isPlace wsX6_isPlace) := goodIn_app (goodIn_of _ (by decide +kernel)) ggX6_at_X6_isPlace
set_option maxRecDepth 20000 in
theorem ggX6_at_X6_spotOf : GoodIn wsX6_at wsX6_spotOf := goodIn_r _ [16] (by decide +kernel) (by decide +kernel)
set_option maxRecDepth 20000 in
theorem gX6_at_X6_spotOf : GoodIn wsX6_at (va_wsS RX6 154 yX6_spotOf wsX6_spotOf) := goodIn_app (goodIn_of _ (by decide +kernel)) ggX6_at_X6_spotOf
theorem dX6_at_0 : decode cX6_at 0 = .ok (.iload_n 1, 1) := by decide +kernel
theorem dX6_at_1 : decode cX6_at 1 = .ok (.iload_n 2, 1) := by decide +kernel
theorem dX6_at_2 : decode cX6_at 2 = .ok (.invokestatic 140, 3) := by decide +kernel
theorem dX6_at_5 : decode cX6_at 5 = .ok (.ifCond .ne 7, 3) := by decide +kernel
theorem dX6_at_8 : decode cX6_at 8 = .ok (.sipush (-1001), 3) := by decide +kernel
theorem dX6_at_11 : decode cX6_at 11 = .ok (.ireturn, 1) := by decide +kernel
theorem dX6_at_12 : decode cX6_at 12 = .ok (.aload_n 0, 1) := by decide +kernel
theorem dX6_at_13 : decode cX6_at 13 = .ok (.getfield 10, 3) := by decide +kernel
theorem dX6_at_16 : decode cX6_at 16 = .ok (.getfield 144, 3) := by decide +kernel
theorem dX6_at_19 : decode cX6_at 19 = .ok (.getfield 148, 3) := by decide +kernel
theorem dX6_at_22 : decode cX6_at 22 = .ok (.iload_n 1, 1) := by decide +kernel
theorem dX6_at_23 : decode cX6_at 23 = .ok (.iload_n 2, 1) := by decide +kernel
theorem dX6_at_24 : decode cX6_at 24 = .ok (.invokestatic 154, 3) := by decide +kernel
theorem dX6_at_27 : decode cX6_at 27 = .ok (.iaload, 1) := by decide +kernel
theorem dX6_at_28 : decode cX6_at 28 = .ok (.istore_n 3, 1) := by decide +kernel
theorem dX6_at_29 : decode cX6_at 29 = .ok (.iload_n 3, 1) := by decide +kernel
theorem dX6_at_30 : decode cX6_at 30 = .ok (.iconst (-1), 1) := by decide +kernel
theorem dX6_at_31 : decode cX6_at 31 = .ok (.if_icmp .ne 9, 3) := by decide +kernel
theorem dX6_at_34 : decode cX6_at 34 = .ok (.sipush (-1005), 3) := by decide +kernel
theorem dX6_at_37 : decode cX6_at 37 = .ok (.goto 4, 3) := by decide +kernel
theorem dX6_at_40 : decode cX6_at 40 = .ok (.iload_n 3, 1) := by decide +kernel
theorem dX6_at_41 : decode cX6_at 41 = .ok (.ireturn, 1) := by decide +kernel
set_option maxRecDepth 20000 in
theorem ggX6_batch_X4_tellOfBatch : GoodIn wsX6_batch wsX4_tellOfBatch := goodIn_r _ [6, 7, 8, 9, 10, 11, 12, 13, 14, 15, 16, 17, 18, 19, 20, 21, 22, 23, 24, 25, 26, 27, 28, 29, 30, 31, 32, 33, 34, 35, 36, 37, 38, 39, 40, 41, 42, 43, 44, 45, 46, 47, 48, 49, 50, 51, 52, 53, 54, 55, 56, 66, 67, 68, 69, 70, 71, 72, 73, 74, 75, 76, 77, 78, 79, 80] (by decide +kernel) (by decide +kernel)
set_option maxRecDepth 20000 in
theorem gX6_batch_X4_tellOfBatch : GoodIn wsX6_batch (wsV RX6 157 RX4 yX4_tellOfBatch wsX4_tellOfBatch) := goodIn_app (goodIn_of _ (by decide +kernel)) ggX6_batch_X4_tellOfBatch
theorem dX6_batch_0 : decode cX6_batch 0 = .ok (.aload_n 0, 1) := by decide +kernel
theorem dX6_batch_1 : decode cX6_batch 1 = .ok (.getfield 10, 3) := by decide +kernel
theorem dX6_batch_4 : decode cX6_batch 4 = .ok (.iload_n 1, 1) := by decide +kernel
theorem dX6_batch_5 : decode cX6_batch 5 = .ok (.iload_n 2, 1) := by decide +kernel
theorem dX6_batch_6 : decode cX6_batch 6 = .ok (.invokevirtual 157, 3) := by decide +kernel
theorem dX6_batch_9 : decode cX6_batch 9 = .ok (.ireturn, 1) := by decide +kernel
set_option maxRecDepth 20000 in
theorem ggX6_lasted_X6_isBatch : GoodIn wsX6_lasted wsX6_isBatch := goodIn_r _ [7, 8, 9, 6, 10] (by decide +kernel) (by decide +kernel)
set_option maxRecDepth 20000 in
theorem gX6_lasted_X6_isBatch : GoodIn wsX6_lasted (va_wsS RX6 160 yX6_isBatch wsX6_isBatch) := goodIn_app (goodIn_of _ (by decide +kernel)) ggX6_lasted_X6_isBatch
set_option maxRecDepth 20000 in
theorem ggX6_lasted_X6_isWithin : GoodIn wsX6_lasted wsX6_isWithin := goodIn_r _ [10] (by decide +kernel) (by decide +kernel)
set_option maxRecDepth 20000 in
theorem gX6_lasted_X6_isWithin : GoodIn wsX6_lasted (va_wsS RX6 117 yX6_isWithin wsX6_isWithin) := goodIn_app (goodIn_of _ (by decide +kernel)) ggX6_lasted_X6_isWithin
set_option maxRecDepth 20000 in
theorem ggX6_lasted_X2_countThatLasted : GoodIn wsX6_lasted wsX2_countThatLasted := goodIn_r _ [15, 16, 17, 18, 19, 20, 14, 21, 22, 23, 6, 24, 40, 41, 42, 43, 44, 45, 46] (by decide +kernel) (by decide +kernel)
set_option maxRecDepth 20000 in
theorem gX6_lasted_X2_countThatLasted : GoodIn wsX6_lasted (wsV RX6 164 RX2 yX2_countThatLasted wsX2_countThatLasted) := goodIn_app (goodIn_of _ (by decide +kernel)) ggX6_lasted_X2_countThatLasted
theorem dX6_lasted_0 : decode cX6_lasted 0 = .ok (.iload_n 1, 1) := by decide +kernel
theorem dX6_lasted_1 : decode cX6_lasted 1 = .ok (.invokestatic 160, 3) := by decide +kernel
theorem dX6_lasted_4 : decode cX6_lasted 4 = .ok (.ifCond .ne 7, 3) := by decide +kernel
theorem dX6_lasted_7 : decode cX6_lasted 7 = .ok (.sipush (-1001), 3) := by decide +kernel
theorem dX6_lasted_10 : decode cX6_lasted 10 = .ok (.ireturn, 1) := by decide +kernel
theorem dX6_lasted_11 : decode cX6_lasted 11 = .ok (.iload_n 2, 1) := by decide +kernel
theorem dX6_lasted_12 : decode cX6_lasted 12 = .ok (.iconst 0, 1) := by decide +kernel
theorem dX6_lasted_13 : decode cX6_lasted 13 = .ok (.ldc 163, 2) := by decide +kernel
theorem dX6_lasted_15 : decode cX6_lasted 15 = .ok (.invokestatic 117, 3) := by decide +kernel
theorem dX6_lasted_18 : decode cX6_lasted 18 = .ok (.ifCond .ne 7, 3) := by decide +kernel
theorem dX6_lasted_21 : decode cX6_lasted 21 = .ok (.sipush (-1002), 3) := by decide +kernel
theorem dX6_lasted_24 : decode cX6_lasted 24 = .ok (.ireturn, 1) := by decide +kernel
theorem dX6_lasted_25 : decode cX6_lasted 25 = .ok (.aload_n 0, 1) := by decide +kernel
theorem dX6_lasted_26 : decode cX6_lasted 26 = .ok (.getfield 10, 3) := by decide +kernel
theorem dX6_lasted_29 : decode cX6_lasted 29 = .ok (.getfield 127, 3) := by decide +kernel
theorem dX6_lasted_32 : decode cX6_lasted 32 = .ok (.iload_n 1, 1) := by decide +kernel
theorem dX6_lasted_33 : decode cX6_lasted 33 = .ok (.iload_n 2, 1) := by decide +kernel
theorem dX6_lasted_34 : decode cX6_lasted 34 = .ok (.invokevirtual 164, 3) := by decide +kernel
theorem dX6_lasted_37 : decode cX6_lasted 37 = .ok (.ireturn, 1) := by decide +kernel
set_option maxRecDepth 20000 in
theorem ggX6_ended_X2_findEnded : GoodIn wsX6_ended wsX2_findEnded := goodIn_r _ [7, 8, 9, 10, 11, 6, 12, 13, 14, 15, 16, 17, 18, 19, 20, 36, 37, 38, 39, 40, 41, 42] (by decide +kernel) (by decide +kernel)
set_option maxRecDepth 20000 in
theorem gX6_ended_X2_findEnded : GoodIn wsX6_ended (wsV RX6 167 RX2 yX2_findEnded wsX2_findEnded) := goodIn_app (goodIn_of _ (by decide +kernel)) ggX6_ended_X2_findEnded
theorem dX6_ended_0 : decode cX6_ended 0 = .ok (.iload_n 1, 1) := by decide +kernel
theorem dX6_ended_1 : decode cX6_ended 1 = .ok (.ifCond .ge 7, 3) := by decide +kernel
theorem dX6_ended_4 : decode cX6_ended 4 = .ok (.sipush (-1002), 3) := by decide +kernel
theorem dX6_ended_7 : decode cX6_ended 7 = .ok (.ireturn, 1) := by decide +kernel
theorem dX6_ended_8 : decode cX6_ended 8 = .ok (.aload_n 0, 1) := by decide +kernel
theorem dX6_ended_9 : decode cX6_ended 9 = .ok (.getfield 10, 3) := by decide +kernel
theorem dX6_ended_12 : decode cX6_ended 12 = .ok (.getfield 127, 3) := by decide +kernel
theorem dX6_ended_15 : decode cX6_ended 15 = .ok (.iload_n 1, 1) := by decide +kernel
theorem dX6_ended_16 : decode cX6_ended 16 = .ok (.invokevirtual 167, 3) := by decide +kernel
theorem dX6_ended_19 : decode cX6_ended 19 = .ok (.istore_n 2, 1) := by decide +kernel
theorem dX6_ended_20 : decode cX6_ended 20 = .ok (.iload_n 2, 1) := by decide +kernel
theorem dX6_ended_21 : decode cX6_ended 21 = .ok (.iconst (-1), 1) := by decide +kernel
theorem dX6_ended_22 : decode cX6_ended 22 = .ok (.if_icmp .ne 9, 3) := by decide +kernel
theorem dX6_ended_25 : decode cX6_ended 25 = .ok (.sipush (-1005), 3) := by decide +kernel
theorem dX6_ended_28 : decode cX6_ended 28 = .ok (.goto 4, 3) := by decide +kernel
theorem dX6_ended_31 : decode cX6_ended 31 = .ok (.iload_n 2, 1) := by decide +kernel
theorem dX6_ended_32 : decode cX6_ended 32 = .ok (.ireturn, 1) := by decide +kernel
set_option maxRecDepth 20000 in
theorem ggX6_lasts_X2_has : GoodIn wsX6_lasts wsX2_has := goodIn_r _ [8, 9, 10, 11, 12, 55, 56, 57, 58, 59, 60, 61] (by decide +kernel) (by decide +kernel)
set_option maxRecDepth 20000 in
theorem gX6_lasts_X2_has : GoodIn wsX6_lasts (wsV RX6 170 RX2 yX2_has wsX2_has) := goodIn_app (goodIn_of _ (by decide +kernel)) ggX6_lasts_X2_has
set_option maxRecDepth 20000 in
theorem ggX6_lasts_X6_isWithin : GoodIn wsX6_lasts wsX6_isWithin := goodIn_r _ [12] (by decide +kernel) (by decide +kernel)
set_option maxRecDepth 20000 in
theorem gX6_lasts_X6_isWithin : GoodIn wsX6_lasts (va_wsS RX6 117 yX6_isWithin wsX6_isWithin) := goodIn_app (goodIn_of _ (by decide +kernel)) ggX6_lasts_X6_isWithin
set_option maxRecDepth 20000 in
theorem ggX6_lasts_X2_isDead : GoodIn wsX6_lasts wsX2_isDead := goodIn_r _ [17, 18, 55, 56, 57, 58, 59, 60, 61] (by decide +kernel) (by decide +kernel)
set_option maxRecDepth 20000 in
theorem gX6_lasts_X2_isDead : GoodIn wsX6_lasts (wsV RX6 173 RX2 yX2_isDead wsX2_isDead) := goodIn_app (goodIn_of _ (by decide +kernel)) ggX6_lasts_X2_isDead
set_option maxRecDepth 20000 in
theorem ggX6_lasts_X6_isHot : GoodIn wsX6_lasts wsX6_isHot := goodIn_r _ [21, 13, 10, 11, 12] (by decide +kernel) (by decide +kernel)
set_option maxRecDepth 20000 in
theorem gX6_lasts_X6_isHot : GoodIn wsX6_lasts (va_wsS RX6 179 yX6_isHot wsX6_isHot) := goodIn_app (goodIn_of _ (by decide +kernel)) ggX6_lasts_X6_isHot
set_option maxRecDepth 20000 in
theorem ggX6_lasts_X4_wearOfHour : GoodIn wsX6_lasts wsX4_wearOfHour := goodIn_r _ [26, 27, 28, 29, 30, 31, 32, 49, 50, 51, 52, 53, 54] (by decide +kernel) (by decide +kernel)
set_option maxRecDepth 20000 in
theorem gX6_lasts_X4_wearOfHour : GoodIn wsX6_lasts (wsV RX6 182 RX4 yX4_wearOfHour wsX4_wearOfHour) := goodIn_app (goodIn_of _ (by decide +kernel)) ggX6_lasts_X4_wearOfHour
set_option maxRecDepth 20000 in
theorem ggX6_lasts_X2_hoursLeft : GoodIn wsX6_lasts wsX2_hoursLeft := goodIn_r _ [36, 37, 30, 31, 32, 38, 39, 55, 56, 57, 58, 59, 60, 61] (by decide +kernel) (by decide +kernel)
set_option maxRecDepth 20000 in
theorem gX6_lasts_X2_hoursLeft : GoodIn wsX6_lasts (wsV RX6 186 RX2 yX2_hoursLeft wsX2_hoursLeft) := goodIn_app (goodIn_of _ (by decide +kernel)) ggX6_lasts_X2_hoursLeft
theorem dX6_lasts_0 : decode cX6_lasts 0 = .ok (.aload_n 0, 1) := by decide +kernel
theorem dX6_lasts_1 : decode cX6_lasts 1 = .ok (.getfield 10, 3) := by decide +kernel
theorem dX6_lasts_4 : decode cX6_lasts 4 = .ok (.getfield 127, 3) := by decide +kernel
theorem dX6_lasts_7 : decode cX6_lasts 7 = .ok (.iload_n 1, 1) := by decide +kernel
theorem dX6_lasts_8 : decode cX6_lasts 8 = .ok (.invokevirtual 170, 3) := by decide +kernel
theorem dX6_lasts_11 : decode cX6_lasts 11 = .ok (.ifCond .ne 7, 3) := by decide +kernel
theorem dX6_lasts_14 : decode cX6_lasts 14 = .ok (.sipush (-1001), 3) := by decide +kernel
theorem dX6_lasts_17 : decode cX6_lasts 17 = .ok (.ireturn, 1) := by decide +kernel
theorem dX6_lasts_18 : decode cX6_lasts 18 = .ok (.iload_n 2, 1) := by decide +kernel
theorem dX6_lasts_19 : decode cX6_lasts 19 = .ok (.iconst 1, 1) := by decide +kernel
theorem dX6_lasts_20 : decode cX6_lasts 20 = .ok (.sipush 300, 3) := by decide +kernel
theorem dX6_lasts_23 : decode cX6_lasts 23 = .ok (.invokestatic 117, 3) := by decide +kernel
theorem dX6_lasts_26 : decode cX6_lasts 26 = .ok (.ifCond .ne 7, 3) := by decide +kernel
theorem dX6_lasts_29 : decode cX6_lasts 29 = .ok (.sipush (-1002), 3) := by decide +kernel
theorem dX6_lasts_32 : decode cX6_lasts 32 = .ok (.ireturn, 1) := by decide +kernel
theorem dX6_lasts_33 : decode cX6_lasts 33 = .ok (.aload_n 0, 1) := by decide +kernel
theorem dX6_lasts_34 : decode cX6_lasts 34 = .ok (.getfield 10, 3) := by decide +kernel
theorem dX6_lasts_37 : decode cX6_lasts 37 = .ok (.getfield 127, 3) := by decide +kernel
theorem dX6_lasts_40 : decode cX6_lasts 40 = .ok (.iload_n 1, 1) := by decide +kernel
theorem dX6_lasts_41 : decode cX6_lasts 41 = .ok (.invokevirtual 173, 3) := by decide +kernel
theorem dX6_lasts_44 : decode cX6_lasts 44 = .ok (.ifCond .eq 7, 3) := by decide +kernel
theorem dX6_lasts_47 : decode cX6_lasts 47 = .ok (.sipush (-1004), 3) := by decide +kernel
theorem dX6_lasts_50 : decode cX6_lasts 50 = .ok (.ireturn, 1) := by decide +kernel
theorem dX6_lasts_51 : decode cX6_lasts 51 = .ok (.aload_n 0, 1) := by decide +kernel
theorem dX6_lasts_52 : decode cX6_lasts 52 = .ok (.getfield 10, 3) := by decide +kernel
theorem dX6_lasts_55 : decode cX6_lasts 55 = .ok (.iload_n 2, 1) := by decide +kernel
theorem dX6_lasts_56 : decode cX6_lasts 56 = .ok (.aload_n 0, 1) := by decide +kernel
theorem dX6_lasts_57 : decode cX6_lasts 57 = .ok (.getfield 10, 3) := by decide +kernel
theorem dX6_lasts_60 : decode cX6_lasts 60 = .ok (.getfield 127, 3) := by decide +kernel
theorem dX6_lasts_63 : decode cX6_lasts 63 = .ok (.getfield 176, 3) := by decide +kernel
theorem dX6_lasts_66 : decode cX6_lasts 66 = .ok (.iload_n 1, 1) := by decide +kernel
theorem dX6_lasts_67 : decode cX6_lasts 67 = .ok (.iaload, 1) := by decide +kernel
theorem dX6_lasts_68 : decode cX6_lasts 68 = .ok (.invokestatic 179, 3) := by decide +kernel
theorem dX6_lasts_71 : decode cX6_lasts 71 = .ok (.invokevirtual 182, 3) := by decide +kernel
theorem dX6_lasts_74 : decode cX6_lasts 74 = .ok (.istore_n 3, 1) := by decide +kernel
theorem dX6_lasts_75 : decode cX6_lasts 75 = .ok (.aload_n 0, 1) := by decide +kernel
theorem dX6_lasts_76 : decode cX6_lasts 76 = .ok (.getfield 10, 3) := by decide +kernel
theorem dX6_lasts_79 : decode cX6_lasts 79 = .ok (.getfield 127, 3) := by decide +kernel
theorem dX6_lasts_82 : decode cX6_lasts 82 = .ok (.iload_n 1, 1) := by decide +kernel
theorem dX6_lasts_83 : decode cX6_lasts 83 = .ok (.iload_n 3, 1) := by decide +kernel
theorem dX6_lasts_84 : decode cX6_lasts 84 = .ok (.invokevirtual 186, 3) := by decide +kernel
theorem dX6_lasts_87 : decode cX6_lasts 87 = .ok (.ireturn, 1) := by decide +kernel
set_option maxRecDepth 20000 in
theorem ggX6_reason_X2_has : GoodIn wsX6_reason wsX2_has := goodIn_r _ [7, 8, 9, 10, 11, 46, 47, 48, 49, 50, 51, 52] (by decide +kernel) (by decide +kernel)
set_option maxRecDepth 20000 in
theorem gX6_reason_X2_has : GoodIn wsX6_reason (wsV RX6 170 RX2 yX2_has wsX2_has) := goodIn_app (goodIn_of _ (by decide +kernel)) ggX6_reason_X2_has
set_option maxRecDepth 20000 in
theorem ggX6_reason_X4_whyDark : GoodIn wsX6_reason wsX4_whyDark := goodIn_r _ [16, 17, 18, 19, 20, 21, 22, 6, 23, 24, 25, 26, 27, 28, 29, 30, 40, 41, 42, 43, 44, 45, 46, 47, 48, 49, 50, 51, 52, 53, 54, 55, 56, 57] (by decide +kernel) (by decide +kernel)
set_option maxRecDepth 20000 in
theorem gX6_reason_X4_whyDark : GoodIn wsX6_reason (wsV RX6 189 RX4 yX4_whyDark wsX4_whyDark) := goodIn_app (goodIn_of _ (by decide +kernel)) ggX6_reason_X4_whyDark
theorem dX6_reason_0 : decode cX6_reason 0 = .ok (.aload_n 0, 1) := by decide +kernel
theorem dX6_reason_1 : decode cX6_reason 1 = .ok (.getfield 10, 3) := by decide +kernel
theorem dX6_reason_4 : decode cX6_reason 4 = .ok (.getfield 127, 3) := by decide +kernel
theorem dX6_reason_7 : decode cX6_reason 7 = .ok (.iload_n 1, 1) := by decide +kernel
theorem dX6_reason_8 : decode cX6_reason 8 = .ok (.invokevirtual 170, 3) := by decide +kernel
theorem dX6_reason_11 : decode cX6_reason 11 = .ok (.ifCond .ne 7, 3) := by decide +kernel
theorem dX6_reason_14 : decode cX6_reason 14 = .ok (.sipush (-1001), 3) := by decide +kernel
theorem dX6_reason_17 : decode cX6_reason 17 = .ok (.ireturn, 1) := by decide +kernel
theorem dX6_reason_18 : decode cX6_reason 18 = .ok (.aload_n 0, 1) := by decide +kernel
theorem dX6_reason_19 : decode cX6_reason 19 = .ok (.getfield 10, 3) := by decide +kernel
theorem dX6_reason_22 : decode cX6_reason 22 = .ok (.iload_n 1, 1) := by decide +kernel
theorem dX6_reason_23 : decode cX6_reason 23 = .ok (.invokevirtual 189, 3) := by decide +kernel
theorem dX6_reason_26 : decode cX6_reason 26 = .ok (.ireturn, 1) := by decide +kernel
set_option maxRecDepth 20000 in
theorem ggX6_next_X6_isWithin : GoodIn wsX6_next wsX6_isWithin := goodIn_r _ [9] (by decide +kernel) (by decide +kernel)
set_option maxRecDepth 20000 in
theorem gX6_next_X6_isWithin : GoodIn wsX6_next (va_wsS RX6 117 yX6_isWithin wsX6_isWithin) := goodIn_app (goodIn_of _ (by decide +kernel)) ggX6_next_X6_isWithin
set_option maxRecDepth 20000 in
theorem ggX6_next_X4_copyFrom : GoodIn wsX6_next wsX4_copyFrom := goodIn_r _ [14, 15, 16, 17, 18, 19, 20, 21, 22, 23, 24, 25, 26, 27, 28, 8, 29, 30, 31, 32, 33, 34, 35, 36, 37, 38, 39, 40, 41, 42, 43, 44, 45, 46, 47, 48, 49, 50, 51, 52, 53, 54, 55, 56, 57, 58, 59, 135, 136, 137, 138, 139, 140, 148, 149, 141, 142, 143, 144, 145, 146, 147, 150, 151, 152, 153, 154] (by decide +kernel) (by decide +kernel)
set_option maxRecDepth 20000 in
theorem gX6_next_X4_copyFrom : GoodIn wsX6_next (wsV RX6 50 RX4 yX4_copyFrom wsX4_copyFrom) := goodIn_app (goodIn_of _ (by decide +kernel)) ggX6_next_X4_copyFrom
set_option maxRecDepth 20000 in
theorem ggX6_next_X4_passHours : GoodIn wsX6_next wsX4_passHours := goodIn_r _ [63, 15, 64, 65, 66, 13, 67, 20, 68, 69, 32, 70, 71, 72, 73, 53, 74, 57, 56, 75, 31, 33, 76, 77, 78, 79, 58, 80, 81, 82, 83, 84, 59, 85, 86, 87, 88, 89, 19, 90, 91, 92, 93, 94, 95, 96, 97, 8, 98, 99, 100, 101, 41, 102, 49, 103, 104, 6, 7, 9, 105, 106, 107, 108, 16, 17, 109, 110, 111, 112, 113, 46, 47, 114, 115, 116, 117, 48, 118, 119, 120, 121, 135, 136, 137, 138, 139, 140, 150, 151, 152, 153, 154, 141, 142, 143, 144, 145, 146, 147] (by decide +kernel) (by decide +kernel)
set_option maxRecDepth 20000 in
theorem gX6_next_X4_passHours : GoodIn wsX6_next (wsV RX6 192 RX4 yX4_passHours wsX4_passHours) := goodIn_app (goodIn_of _ (by decide +kernel)) ggX6_next_X4_passHours
set_option maxRecDepth 20000 in
theorem ggX6_next_X2_findFirstEndedAfter : GoodIn wsX6_next wsX2_findFirstEndedAfter := goodIn_r _ [125, 43, 49, 141, 142, 143, 144, 145, 146, 147] (by decide +kernel) (by decide +kernel)
set_option maxRecDepth 20000 in
theorem gX6_next_X2_findFirstEndedAfter : GoodIn wsX6_next (wsV RX6 198 RX2 yX2_findFirstEndedAfter wsX2_findFirstEndedAfter) := goodIn_app (goodIn_of _ (by decide +kernel)) ggX6_next_X2_findFirstEndedAfter
theorem dX6_next_0 : decode cX6_next 0 = .ok (.iload_n 1, 1) := by decide +kernel
theorem dX6_next_1 : decode cX6_next 1 = .ok (.iconst 0, 1) := by decide +kernel
theorem dX6_next_2 : decode cX6_next 2 = .ok (.iconst 1, 1) := by decide +kernel
theorem dX6_next_3 : decode cX6_next 3 = .ok (.invokestatic 117, 3) := by decide +kernel
theorem dX6_next_6 : decode cX6_next 6 = .ok (.ifCond .ne 7, 3) := by decide +kernel
theorem dX6_next_9 : decode cX6_next 9 = .ok (.sipush (-1002), 3) := by decide +kernel
theorem dX6_next_12 : decode cX6_next 12 = .ok (.ireturn, 1) := by decide +kernel
theorem dX6_next_13 : decode cX6_next 13 = .ok (.aload_n 0, 1) := by decide +kernel
theorem dX6_next_14 : decode cX6_next 14 = .ok (.getfield 19, 3) := by decide +kernel
theorem dX6_next_17 : decode cX6_next 17 = .ok (.aload_n 0, 1) := by decide +kernel
theorem dX6_next_18 : decode cX6_next 18 = .ok (.getfield 10, 3) := by decide +kernel
theorem dX6_next_21 : decode cX6_next 21 = .ok (.invokevirtual 50, 3) := by decide +kernel
theorem dX6_next_24 : decode cX6_next 24 = .ok (.aload_n 0, 1) := by decide +kernel
theorem dX6_next_25 : decode cX6_next 25 = .ok (.getfield 19, 3) := by decide +kernel
theorem dX6_next_28 : decode cX6_next 28 = .ok (.sipush 3000, 3) := by decide +kernel
theorem dX6_next_31 : decode cX6_next 31 = .ok (.invokevirtual 192, 3) := by decide +kernel
theorem dX6_next_34 : decode cX6_next 34 = .ok (.pop, 1) := by decide +kernel
theorem dX6_next_35 : decode cX6_next 35 = .ok (.aload_n 0, 1) := by decide +kernel
theorem dX6_next_36 : decode cX6_next 36 = .ok (.getfield 19, 3) := by decide +kernel
theorem dX6_next_39 : decode cX6_next 39 = .ok (.getfield 127, 3) := by decide +kernel
theorem dX6_next_42 : decode cX6_next 42 = .ok (.aload_n 0, 1) := by decide +kernel
theorem dX6_next_43 : decode cX6_next 43 = .ok (.getfield 10, 3) := by decide +kernel
theorem dX6_next_46 : decode cX6_next 46 = .ok (.getfield 195, 3) := by decide +kernel
theorem dX6_next_49 : decode cX6_next 49 = .ok (.invokevirtual 198, 3) := by decide +kernel
theorem dX6_next_52 : decode cX6_next 52 = .ok (.istore_n 2, 1) := by decide +kernel
theorem dX6_next_53 : decode cX6_next 53 = .ok (.iload_n 2, 1) := by decide +kernel
theorem dX6_next_54 : decode cX6_next 54 = .ok (.iconst (-1), 1) := by decide +kernel
theorem dX6_next_55 : decode cX6_next 55 = .ok (.if_icmp .ne 7, 3) := by decide +kernel
theorem dX6_next_58 : decode cX6_next 58 = .ok (.sipush (-1005), 3) := by decide +kernel
theorem dX6_next_61 : decode cX6_next 61 = .ok (.ireturn, 1) := by decide +kernel
theorem dX6_next_62 : decode cX6_next 62 = .ok (.iload_n 1, 1) := by decide +kernel
theorem dX6_next_63 : decode cX6_next 63 = .ok (.ifCond .ne 7, 3) := by decide +kernel
theorem dX6_next_66 : decode cX6_next 66 = .ok (.iload_n 2, 1) := by decide +kernel
theorem dX6_next_67 : decode cX6_next 67 = .ok (.goto 23, 3) := by decide +kernel
theorem dX6_next_70 : decode cX6_next 70 = .ok (.aload_n 0, 1) := by decide +kernel
theorem dX6_next_71 : decode cX6_next 71 = .ok (.getfield 19, 3) := by decide +kernel
theorem dX6_next_74 : decode cX6_next 74 = .ok (.getfield 127, 3) := by decide +kernel
theorem dX6_next_77 : decode cX6_next 77 = .ok (.getfield 201, 3) := by decide +kernel
theorem dX6_next_80 : decode cX6_next 80 = .ok (.iload_n 2, 1) := by decide +kernel
theorem dX6_next_81 : decode cX6_next 81 = .ok (.iaload, 1) := by decide +kernel
theorem dX6_next_82 : decode cX6_next 82 = .ok (.aload_n 0, 1) := by decide +kernel
theorem dX6_next_83 : decode cX6_next 83 = .ok (.getfield 10, 3) := by decide +kernel
theorem dX6_next_86 : decode cX6_next 86 = .ok (.getfield 195, 3) := by decide +kernel
theorem dX6_next_89 : decode cX6_next 89 = .ok (.isub, 1) := by decide +kernel
theorem dX6_next_90 : decode cX6_next 90 = .ok (.ireturn, 1) := by decide +kernel
set_option maxRecDepth 20000 in
theorem ggX6_count_X4_tellOfAll : GoodIn wsX6_count wsX4_tellOfAll := goodIn_r _ [10, 11, 12, 13, 14, 15, 16, 17, 18, 19, 20, 21, 22, 23, 24, 25, 26, 27, 28, 29, 30, 9, 31, 32, 33, 34, 35, 36, 37, 38, 39, 40, 41, 42, 43, 44, 45, 46, 47, 48, 49, 50, 51, 52, 53, 54, 55, 56, 57, 58, 59, 60, 61, 62, 63, 64, 65, 66, 67, 68, 69, 70, 92, 93, 94, 95, 96, 97, 98, 99, 100, 101, 102, 103, 104, 105, 106, 107, 108, 109] (by decide +kernel) (by decide +kernel)
set_option maxRecDepth 20000 in
theorem gX6_count_X4_tellOfAll : GoodIn wsX6_count (wsV RX6 207 RX4 yX4_tellOfAll wsX4_tellOfAll) := goodIn_app (goodIn_of _ (by decide +kernel)) ggX6_count_X4_tellOfAll
theorem dX6_count_0 : decode cX6_count 0 = .ok (.iload_n 1, 1) := by decide +kernel
theorem dX6_count_1 : decode cX6_count 1 = .ok (.lookupswitch 43 #[(10, 27), (11, 35)], 27) := by decide +kernel
theorem dX6_count_28 : decode cX6_count 28 = .ok (.aload_n 0, 1) := by decide +kernel
theorem dX6_count_29 : decode cX6_count 29 = .ok (.getfield 32, 3) := by decide +kernel
theorem dX6_count_32 : decode cX6_count 32 = .ok (.getfield 121, 3) := by decide +kernel
theorem dX6_count_35 : decode cX6_count 35 = .ok (.ireturn, 1) := by decide +kernel
theorem dX6_count_36 : decode cX6_count 36 = .ok (.aload_n 0, 1) := by decide +kernel
theorem dX6_count_37 : decode cX6_count 37 = .ok (.getfield 39, 3) := by decide +kernel
theorem dX6_count_40 : decode cX6_count 40 = .ok (.getfield 204, 3) := by decide +kernel
theorem dX6_count_43 : decode cX6_count 43 = .ok (.ireturn, 1) := by decide +kernel
theorem dX6_count_44 : decode cX6_count 44 = .ok (.aload_n 0, 1) := by decide +kernel
theorem dX6_count_45 : decode cX6_count 45 = .ok (.getfield 10, 3) := by decide +kernel
theorem dX6_count_48 : decode cX6_count 48 = .ok (.iload_n 1, 1) := by decide +kernel
theorem dX6_count_49 : decode cX6_count 49 = .ok (.invokevirtual 207, 3) := by decide +kernel
theorem dX6_count_52 : decode cX6_count 52 = .ok (.ireturn, 1) := by decide +kernel
set_option maxRecDepth 20000 in
theorem ggX6_recorded_X1_append : GoodIn wsX6_recorded wsX1_append := goodIn_r _ [7, 8, 9, 10, 11, 12, 6, 13, 14, 15, 16, 17, 18, 19, 20, 21, 22, 23, 24, 25, 26, 27, 28, 29, 30, 31, 32, 33, 34, 35, 36, 37, 38, 39, 40, 41, 42, 43, 44, 45, 46, 47, 48, 49, 50, 51, 52, 53, 54, 55, 56, 57, 58, 59, 60, 61, 62, 63, 64, 74, 75, 76, 77, 78, 79, 80, 81, 82, 83, 84, 85, 86, 87, 88, 89, 90, 91, 92, 93, 94, 95] (by decide +kernel) (by decide +kernel)
set_option maxRecDepth 20000 in
theorem gX6_recorded_X1_append : GoodIn wsX6_recorded (wsV RX6 210 RX1 yX1_append wsX1_append) := goodIn_app (goodIn_of _ (by decide +kernel)) ggX6_recorded_X1_append
theorem dX6_recorded_0 : decode cX6_recorded 0 = .ok (.iload_n 1, 1) := by decide +kernel
theorem dX6_recorded_1 : decode cX6_recorded 1 = .ok (.ifCond .lt 14, 3) := by decide +kernel
theorem dX6_recorded_4 : decode cX6_recorded 4 = .ok (.aload_n 0, 1) := by decide +kernel
theorem dX6_recorded_5 : decode cX6_recorded 5 = .ok (.getfield 32, 3) := by decide +kernel
theorem dX6_recorded_8 : decode cX6_recorded 8 = .ok (.aload_n 0, 1) := by decide +kernel
theorem dX6_recorded_9 : decode cX6_recorded 9 = .ok (.getfield 16, 3) := by decide +kernel
theorem dX6_recorded_12 : decode cX6_recorded 12 = .ok (.invokevirtual 210, 3) := by decide +kernel
theorem dX6_recorded_15 : decode cX6_recorded 15 = .ok (.iload_n 1, 1) := by decide +kernel
theorem dX6_recorded_16 : decode cX6_recorded 16 = .ok (.ireturn, 1) := by decide +kernel
set_option maxRecDepth 20000 in
theorem ggX6_doThing_X4_insertLamp : GoodIn wsX6_doThing wsX4_insertLamp := goodIn_r _ [13, 14, 15, 16, 17, 18, 19, 20, 21, 22, 23, 24, 25, 26, 27, 28, 29, 30, 31, 32, 33, 34, 35, 36, 37, 38, 39, 40, 41, 42, 43, 44, 45, 46, 47, 48, 49, 50, 51, 52, 53, 54, 55, 56, 57, 58, 59, 60, 61, 62, 63, 171, 172, 173, 174, 175, 176, 177, 178, 179, 180, 181, 182, 183, 184, 185, 186, 187, 188, 189, 190] (by decide +kernel) (by decide +kernel)
set_option maxRecDepth 20000 in
theorem gX6_doThing_X4_insertLamp : GoodIn wsX6_doThing (wsV RX6 62 RX4 yX4_insertLamp wsX4_insertLamp) := goodIn_app (goodIn_of _ (by decide +kernel)) ggX6_doThing_X4_insertLamp
set_option maxRecDepth 20000 in
theorem ggX6_doThing_X4_removeLamp : GoodIn wsX6_doThing wsX4_removeLamp := goodIn_r _ [67, 14, 15, 16, 68, 19, 20, 21, 22, 23, 24, 25, 26, 27, 30, 31, 171, 172, 173, 174, 175, 176, 177, 178, 179, 180, 181, 182, 183, 184, 185, 186, 187, 188] (by decide +kernel) (by decide +kernel)
set_option maxRecDepth 20000 in
theorem gX6_doThing_X4_removeLamp : GoodIn wsX6_doThing (wsV RX6 65 RX4 yX4_removeLamp wsX4_removeLamp) := goodIn_app (goodIn_of _ (by decide +kernel)) ggX6_doThing_X4_removeLamp
set_option maxRecDepth 20000 in
theorem ggX6_doThing_X4_changeVolts : GoodIn wsX6_doThing wsX4_changeVolts := goodIn_r _ [72, 14, 73, 23, 20, 24, 25, 26, 27, 171, 172, 173, 174, 175, 176, 177, 178, 179, 180, 181] (by decide +kernel) (by decide +kernel)
set_option maxRecDepth 20000 in
theorem gX6_doThing_X4_changeVolts : GoodIn wsX6_doThing (wsV RX6 73 RX4 yX4_changeVolts wsX4_changeVolts) := goodIn_app (goodIn_of _ (by decide +kernel)) ggX6_doThing_X4_changeVolts
set_option maxRecDepth 20000 in
theorem ggX6_doThing_X4_changeSteps : GoodIn wsX6_doThing wsX4_changeSteps := goodIn_r _ [77, 14, 78, 79, 80, 23, 20, 24, 25, 26, 27, 171, 172, 173, 174, 175, 176, 177, 178, 179, 180, 181] (by decide +kernel) (by decide +kernel)
set_option maxRecDepth 20000 in
theorem gX6_doThing_X4_changeSteps : GoodIn wsX6_doThing (wsV RX6 76 RX4 yX4_changeSteps wsX4_changeSteps) := goodIn_app (goodIn_of _ (by decide +kernel)) ggX6_doThing_X4_changeSteps
set_option maxRecDepth 20000 in
theorem ggX6_doThing_X4_letPass : GoodIn wsX6_doThing wsX4_letPass := goodIn_r _ [84, 85, 86, 26, 20, 27, 87, 88, 89, 12, 90, 91, 92, 93, 94, 14, 95, 46, 47, 48, 96, 97, 98, 99, 100, 101, 102, 103, 104, 105, 106, 107, 108, 109, 110, 111, 112, 113, 114, 115, 116, 117, 118, 119, 120, 15, 16, 73, 121, 122, 123, 124, 125, 126, 30, 31, 127, 128, 129, 35, 130, 63, 131, 132, 25, 133, 134, 135, 136, 137, 138, 139, 140, 141, 142, 143, 60, 61, 144, 145, 146, 147, 62, 148, 149, 150, 151, 171, 172, 173, 174, 175, 176, 177, 178, 179, 180, 181, 182, 183, 184, 185, 186, 187, 188] (by decide +kernel) (by decide +kernel)
set_option maxRecDepth 20000 in
theorem gX6_doThing_X4_letPass : GoodIn wsX6_doThing (wsV RX6 82 RX4 yX4_letPass wsX4_letPass) := goodIn_app (goodIn_of _ (by decide +kernel)) ggX6_doThing_X4_letPass
theorem dX6_doThing_0 : decode cX6_doThing 0 = .ok (.aload_n 0, 1) := by decide +kernel
theorem dX6_doThing_1 : decode cX6_doThing 1 = .ok (.getfield 39, 3) := by decide +kernel
theorem dX6_doThing_4 : decode cX6_doThing 4 = .ok (.getfield 212, 3) := by decide +kernel
theorem dX6_doThing_7 : decode cX6_doThing 7 = .ok (.tableswitch 151 112 118 #[41, 151, 151, 114, 70, 151, 92], 41) := by decide +kernel
theorem dX6_doThing_48 : decode cX6_doThing 48 = .ok (.aload_n 0, 1) := by decide +kernel
theorem dX6_doThing_49 : decode cX6_doThing 49 = .ok (.getfield 10, 3) := by decide +kernel
theorem dX6_doThing_52 : decode cX6_doThing 52 = .ok (.aload_n 0, 1) := by decide +kernel
theorem dX6_doThing_53 : decode cX6_doThing 53 = .ok (.getfield 39, 3) := by decide +kernel
theorem dX6_doThing_56 : decode cX6_doThing 56 = .ok (.getfield 215, 3) := by decide +kernel
theorem dX6_doThing_59 : decode cX6_doThing 59 = .ok (.aload_n 0, 1) := by decide +kernel
theorem dX6_doThing_60 : decode cX6_doThing 60 = .ok (.getfield 39, 3) := by decide +kernel
theorem dX6_doThing_63 : decode cX6_doThing 63 = .ok (.getfield 218, 3) := by decide +kernel
theorem dX6_doThing_66 : decode cX6_doThing 66 = .ok (.aload_n 0, 1) := by decide +kernel
theorem dX6_doThing_67 : decode cX6_doThing 67 = .ok (.getfield 39, 3) := by decide +kernel
theorem dX6_doThing_70 : decode cX6_doThing 70 = .ok (.getfield 221, 3) := by decide +kernel
theorem dX6_doThing_73 : decode cX6_doThing 73 = .ok (.invokevirtual 62, 3) := by decide +kernel
theorem dX6_doThing_76 : decode cX6_doThing 76 = .ok (.ireturn, 1) := by decide +kernel
theorem dX6_doThing_77 : decode cX6_doThing 77 = .ok (.aload_n 0, 1) := by decide +kernel
theorem dX6_doThing_78 : decode cX6_doThing 78 = .ok (.getfield 10, 3) := by decide +kernel
theorem dX6_doThing_81 : decode cX6_doThing 81 = .ok (.aload_n 0, 1) := by decide +kernel
theorem dX6_doThing_82 : decode cX6_doThing 82 = .ok (.getfield 39, 3) := by decide +kernel
theorem dX6_doThing_85 : decode cX6_doThing 85 = .ok (.getfield 215, 3) := by decide +kernel
theorem dX6_doThing_88 : decode cX6_doThing 88 = .ok (.aload_n 0, 1) := by decide +kernel
theorem dX6_doThing_89 : decode cX6_doThing 89 = .ok (.getfield 39, 3) := by decide +kernel
theorem dX6_doThing_92 : decode cX6_doThing 92 = .ok (.getfield 218, 3) := by decide +kernel
theorem dX6_doThing_95 : decode cX6_doThing 95 = .ok (.invokevirtual 65, 3) := by decide +kernel
theorem dX6_doThing_98 : decode cX6_doThing 98 = .ok (.ireturn, 1) := by decide +kernel
theorem dX6_doThing_99 : decode cX6_doThing 99 = .ok (.aload_n 0, 1) := by decide +kernel
theorem dX6_doThing_100 : decode cX6_doThing 100 = .ok (.getfield 10, 3) := by decide +kernel
theorem dX6_doThing_103 : decode cX6_doThing 103 = .ok (.aload_n 0, 1) := by decide +kernel
theorem dX6_doThing_104 : decode cX6_doThing 104 = .ok (.getfield 39, 3) := by decide +kernel
theorem dX6_doThing_107 : decode cX6_doThing 107 = .ok (.getfield 215, 3) := by decide +kernel
theorem dX6_doThing_110 : decode cX6_doThing 110 = .ok (.aload_n 0, 1) := by decide +kernel
theorem dX6_doThing_111 : decode cX6_doThing 111 = .ok (.getfield 39, 3) := by decide +kernel
theorem dX6_doThing_114 : decode cX6_doThing 114 = .ok (.getfield 221, 3) := by decide +kernel
theorem dX6_doThing_117 : decode cX6_doThing 117 = .ok (.invokevirtual 73, 3) := by decide +kernel
theorem dX6_doThing_120 : decode cX6_doThing 120 = .ok (.ireturn, 1) := by decide +kernel
theorem dX6_doThing_121 : decode cX6_doThing 121 = .ok (.aload_n 0, 1) := by decide +kernel
theorem dX6_doThing_122 : decode cX6_doThing 122 = .ok (.getfield 10, 3) := by decide +kernel
theorem dX6_doThing_125 : decode cX6_doThing 125 = .ok (.aload_n 0, 1) := by decide +kernel
theorem dX6_doThing_126 : decode cX6_doThing 126 = .ok (.getfield 39, 3) := by decide +kernel
theorem dX6_doThing_129 : decode cX6_doThing 129 = .ok (.getfield 215, 3) := by decide +kernel
theorem dX6_doThing_132 : decode cX6_doThing 132 = .ok (.aload_n 0, 1) := by decide +kernel
theorem dX6_doThing_133 : decode cX6_doThing 133 = .ok (.getfield 39, 3) := by decide +kernel
theorem dX6_doThing_136 : decode cX6_doThing 136 = .ok (.getfield 224, 3) := by decide +kernel
theorem dX6_doThing_139 : decode cX6_doThing 139 = .ok (.aload_n 0, 1) := by decide +kernel
theorem dX6_doThing_140 : decode cX6_doThing 140 = .ok (.getfield 39, 3) := by decide +kernel
theorem dX6_doThing_143 : decode cX6_doThing 143 = .ok (.getfield 227, 3) := by decide +kernel
theorem dX6_doThing_146 : decode cX6_doThing 146 = .ok (.aload_n 0, 1) := by decide +kernel
theorem dX6_doThing_147 : decode cX6_doThing 147 = .ok (.getfield 39, 3) := by decide +kernel
theorem dX6_doThing_150 : decode cX6_doThing 150 = .ok (.getfield 221, 3) := by decide +kernel
theorem dX6_doThing_153 : decode cX6_doThing 153 = .ok (.imul, 1) := by decide +kernel
theorem dX6_doThing_154 : decode cX6_doThing 154 = .ok (.invokevirtual 76, 3) := by decide +kernel
theorem dX6_doThing_157 : decode cX6_doThing 157 = .ok (.ireturn, 1) := by decide +kernel
theorem dX6_doThing_158 : decode cX6_doThing 158 = .ok (.aload_n 0, 1) := by decide +kernel
theorem dX6_doThing_159 : decode cX6_doThing 159 = .ok (.getfield 10, 3) := by decide +kernel
theorem dX6_doThing_162 : decode cX6_doThing 162 = .ok (.aload_n 0, 1) := by decide +kernel
theorem dX6_doThing_163 : decode cX6_doThing 163 = .ok (.getfield 39, 3) := by decide +kernel
theorem dX6_doThing_166 : decode cX6_doThing 166 = .ok (.getfield 221, 3) := by decide +kernel
theorem dX6_doThing_169 : decode cX6_doThing 169 = .ok (.invokevirtual 82, 3) := by decide +kernel
theorem dX6_doThing_172 : decode cX6_doThing 172 = .ok (.ireturn, 1) := by decide +kernel
theorem dX6_isError_0 : decode cX6_isError 0 = .ok (.iload_n 0, 1) := by decide +kernel
theorem dX6_isError_1 : decode cX6_isError 1 = .ok (.ifCond .ge 14, 3) := by decide +kernel
theorem dX6_isError_4 : decode cX6_isError 4 = .ok (.iload_n 0, 1) := by decide +kernel
theorem dX6_isError_5 : decode cX6_isError 5 = .ok (.sipush (-1005), 3) := by decide +kernel
theorem dX6_isError_8 : decode cX6_isError 8 = .ok (.if_icmp .eq 7, 3) := by decide +kernel
theorem dX6_isError_11 : decode cX6_isError 11 = .ok (.iconst 1, 1) := by decide +kernel
theorem dX6_isError_12 : decode cX6_isError 12 = .ok (.goto 4, 3) := by decide +kernel
theorem dX6_isError_15 : decode cX6_isError 15 = .ok (.iconst 0, 1) := by decide +kernel
theorem dX6_isError_16 : decode cX6_isError 16 = .ok (.ireturn, 1) := by decide +kernel
theorem dX6_isWithin_0 : decode cX6_isWithin 0 = .ok (.iload_n 0, 1) := by decide +kernel
theorem dX6_isWithin_1 : decode cX6_isWithin 1 = .ok (.iload_n 1, 1) := by decide +kernel
theorem dX6_isWithin_2 : decode cX6_isWithin 2 = .ok (.if_icmp .lt 12, 3) := by decide +kernel
theorem dX6_isWithin_5 : decode cX6_isWithin 5 = .ok (.iload_n 0, 1) := by decide +kernel
theorem dX6_isWithin_6 : decode cX6_isWithin 6 = .ok (.iload_n 2, 1) := by decide +kernel
theorem dX6_isWithin_7 : decode cX6_isWithin 7 = .ok (.if_icmp .gt 7, 3) := by decide +kernel
theorem dX6_isWithin_10 : decode cX6_isWithin 10 = .ok (.iconst 1, 1) := by decide +kernel
theorem dX6_isWithin_11 : decode cX6_isWithin 11 = .ok (.goto 4, 3) := by decide +kernel
theorem dX6_isWithin_14 : decode cX6_isWithin 14 = .ok (.iconst 0, 1) := by decide +kernel
theorem dX6_isWithin_15 : decode cX6_isWithin 15 = .ok (.ireturn, 1) := by decide +kernel
set_option maxRecDepth 20000 in
theorem ggX6_isBatch_X6_isWithin : GoodIn wsX6_isBatch wsX6_isWithin := goodIn_r _ [4] (by decide +kernel) (by decide +kernel)
set_option maxRecDepth 20000 in
theorem gX6_isBatch_X6_isWithin : GoodIn wsX6_isBatch (va_wsS RX6 117 yX6_isWithin wsX6_isWithin) := goodIn_app (goodIn_of _ (by decide +kernel)) ggX6_isBatch_X6_isWithin
theorem dX6_isBatch_0 : decode cX6_isBatch 0 = .ok (.iload_n 0, 1) := by decide +kernel
theorem dX6_isBatch_1 : decode cX6_isBatch 1 = .ok (.iconst 0, 1) := by decide +kernel
theorem dX6_isBatch_2 : decode cX6_isBatch 2 = .ok (.iconst 5, 1) := by decide +kernel
theorem dX6_isBatch_3 : decode cX6_isBatch 3 = .ok (.invokestatic 117, 3) := by decide +kernel
theorem dX6_isBatch_6 : decode cX6_isBatch 6 = .ok (.ireturn, 1) := by decide +kernel
set_option maxRecDepth 20000 in
theorem ggX6_isRack_X6_isWithin : GoodIn wsX6_isRack wsX6_isWithin := goodIn_r _ [4] (by decide +kernel) (by decide +kernel)
set_option maxRecDepth 20000 in
theorem gX6_isRack_X6_isWithin : GoodIn wsX6_isRack (va_wsS RX6 117 yX6_isWithin wsX6_isWithin) := goodIn_app (goodIn_of _ (by decide +kernel)) ggX6_isRack_X6_isWithin
theorem dX6_isRack_0 : decode cX6_isRack 0 = .ok (.iload_n 0, 1) := by decide +kernel
theorem dX6_isRack_1 : decode cX6_isRack 1 = .ok (.iconst 0, 1) := by decide +kernel
theorem dX6_isRack_2 : decode cX6_isRack 2 = .ok (.iconst 2, 1) := by decide +kernel
theorem dX6_isRack_3 : decode cX6_isRack 3 = .ok (.invokestatic 117, 3) := by decide +kernel
theorem dX6_isRack_6 : decode cX6_isRack 6 = .ok (.ireturn, 1) := by decide +kernel
set_option maxRecDepth 20000 in
theorem ggX6_isPlace_X6_isRack : GoodIn wsX6_isPlace wsX6_isRack := goodIn_r _ [4, 5, 6, 3, 7] (by decide +kernel) (by decide +kernel)
set_option maxRecDepth 20000 in
theorem gX6_isPlace_X6_isRack : GoodIn wsX6_isPlace (va_wsS RX6 230 yX6_isRack wsX6_isRack) := goodIn_app (goodIn_of _ (by decide +kernel)) ggX6_isPlace_X6_isRack
set_option maxRecDepth 20000 in
theorem ggX6_isPlace_X6_isWithin : GoodIn wsX6_isPlace wsX6_isWithin := goodIn_r _ [7] (by decide +kernel) (by decide +kernel)
set_option maxRecDepth 20000 in
theorem gX6_isPlace_X6_isWithin : GoodIn wsX6_isPlace (va_wsS RX6 117 yX6_isWithin wsX6_isWithin) := goodIn_app (goodIn_of _ (by decide +kernel)) ggX6_isPlace_X6_isWithin
theorem dX6_isPlace_0 : decode cX6_isPlace 0 = .ok (.iload_n 0, 1) := by decide +kernel
theorem dX6_isPlace_1 : decode cX6_isPlace 1 = .ok (.invokestatic 230, 3) := by decide +kernel
theorem dX6_isPlace_4 : decode cX6_isPlace 4 = .ok (.ifCond .eq 17, 3) := by decide +kernel
theorem dX6_isPlace_7 : decode cX6_isPlace 7 = .ok (.iload_n 1, 1) := by decide +kernel
theorem dX6_isPlace_8 : decode cX6_isPlace 8 = .ok (.iconst 0, 1) := by decide +kernel
theorem dX6_isPlace_9 : decode cX6_isPlace 9 = .ok (.bipush 7, 2) := by decide +kernel
theorem dX6_isPlace_11 : decode cX6_isPlace 11 = .ok (.invokestatic 117, 3) := by decide +kernel
theorem dX6_isPlace_14 : decode cX6_isPlace 14 = .ok (.ifCond .eq 7, 3) := by decide +kernel
theorem dX6_isPlace_17 : decode cX6_isPlace 17 = .ok (.iconst 1, 1) := by decide +kernel
theorem dX6_isPlace_18 : decode cX6_isPlace 18 = .ok (.goto 4, 3) := by decide +kernel
theorem dX6_isPlace_21 : decode cX6_isPlace 21 = .ok (.iconst 0, 1) := by decide +kernel
theorem dX6_isPlace_22 : decode cX6_isPlace 22 = .ok (.ireturn, 1) := by decide +kernel
theorem dX6_spotOf_0 : decode cX6_spotOf 0 = .ok (.iload_n 0, 1) := by decide +kernel
theorem dX6_spotOf_1 : decode cX6_spotOf 1 = .ok (.bipush 8, 2) := by decide +kernel
theorem dX6_spotOf_3 : decode cX6_spotOf 3 = .ok (.imul, 1) := by decide +kernel
theorem dX6_spotOf_4 : decode cX6_spotOf 4 = .ok (.iload_n 1, 1) := by decide +kernel
theorem dX6_spotOf_5 : decode cX6_spotOf 5 = .ok (.iadd, 1) := by decide +kernel
theorem dX6_spotOf_6 : decode cX6_spotOf 6 = .ok (.ireturn, 1) := by decide +kernel
set_option maxRecDepth 20000 in
theorem ggX6_isHot_X6_isWithin : GoodIn wsX6_isHot wsX6_isWithin := goodIn_r _ [4] (by decide +kernel) (by decide +kernel)
set_option maxRecDepth 20000 in
theorem gX6_isHot_X6_isWithin : GoodIn wsX6_isHot (va_wsS RX6 117 yX6_isWithin wsX6_isWithin) := goodIn_app (goodIn_of _ (by decide +kernel)) ggX6_isHot_X6_isWithin
theorem dX6_isHot_0 : decode cX6_isHot 0 = .ok (.iload_n 0, 1) := by decide +kernel
theorem dX6_isHot_1 : decode cX6_isHot 1 = .ok (.iconst (-1), 1) := by decide +kernel
theorem dX6_isHot_2 : decode cX6_isHot 2 = .ok (.if_icmp .eq 19, 3) := by decide +kernel
theorem dX6_isHot_5 : decode cX6_isHot 5 = .ok (.iload_n 0, 1) := by decide +kernel
theorem dX6_isHot_6 : decode cX6_isHot 6 = .ok (.bipush 8, 2) := by decide +kernel
theorem dX6_isHot_8 : decode cX6_isHot 8 = .ok (.irem, 1) := by decide +kernel
theorem dX6_isHot_9 : decode cX6_isHot 9 = .ok (.iconst 3, 1) := by decide +kernel
theorem dX6_isHot_10 : decode cX6_isHot 10 = .ok (.iconst 4, 1) := by decide +kernel
theorem dX6_isHot_11 : decode cX6_isHot 11 = .ok (.invokestatic 117, 3) := by decide +kernel
theorem dX6_isHot_14 : decode cX6_isHot 14 = .ok (.ifCond .eq 7, 3) := by decide +kernel
theorem dX6_isHot_17 : decode cX6_isHot 17 = .ok (.iconst 1, 1) := by decide +kernel
theorem dX6_isHot_18 : decode cX6_isHot 18 = .ok (.goto 4, 3) := by decide +kernel
theorem dX6_isHot_21 : decode cX6_isHot 21 = .ok (.iconst 0, 1) := by decide +kernel
theorem dX6_isHot_22 : decode cX6_isHot 22 = .ok (.ireturn, 1) := by decide +kernel
theorem dX6_shareOf_0 : decode cX6_shareOf 0 = .ok (.bipush 7, 2) := by decide +kernel
theorem dX6_shareOf_2 : decode cX6_shareOf 2 = .ok (.iload_n 0, 1) := by decide +kernel
theorem dX6_shareOf_3 : decode cX6_shareOf 3 = .ok (.imul, 1) := by decide +kernel
theorem dX6_shareOf_4 : decode cX6_shareOf 4 = .ok (.bipush 10, 2) := by decide +kernel
theorem dX6_shareOf_6 : decode cX6_shareOf 6 = .ok (.irem, 1) := by decide +kernel
theorem dX6_shareOf_7 : decode cX6_shareOf 7 = .ok (.ireturn, 1) := by decide +kernel
set_option maxRecDepth 20000 in
theorem ggX6_isWeak_X6_shareOf : GoodIn wsX6_isWeak wsX6_shareOf := goodIn_r _ [4] (by decide +kernel) (by decide +kernel)
set_option maxRecDepth 20000 in
theorem gX6_isWeak_X6_shareOf : GoodIn wsX6_isWeak (va_wsS RX6 233 yX6_shareOf wsX6_shareOf) := goodIn_app (goodIn_of _ (by decide +kernel)) ggX6_isWeak_X6_shareOf
theorem dX6_isWeak_0 : decode cX6_isWeak 0 = .ok (.iload_n 0, 1) := by decide +kernel
theorem dX6_isWeak_1 : decode cX6_isWeak 1 = .ok (.invokestatic 233, 3) := by decide +kernel
theorem dX6_isWeak_4 : decode cX6_isWeak 4 = .ok (.bipush 9, 2) := by decide +kernel
theorem dX6_isWeak_6 : decode cX6_isWeak 6 = .ok (.if_icmp .ne 7, 3) := by decide +kernel
theorem dX6_isWeak_9 : decode cX6_isWeak 9 = .ok (.iconst 1, 1) := by decide +kernel
theorem dX6_isWeak_10 : decode cX6_isWeak 10 = .ok (.goto 4, 3) := by decide +kernel
theorem dX6_isWeak_13 : decode cX6_isWeak 13 = .ok (.iconst 0, 1) := by decide +kernel
theorem dX6_isWeak_14 : decode cX6_isWeak 14 = .ok (.ireturn, 1) := by decide +kernel
theorem dX6_oneIf_0 : decode cX6_oneIf 0 = .ok (.iload_n 0, 1) := by decide +kernel
theorem dX6_oneIf_1 : decode cX6_oneIf 1 = .ok (.ifCond .eq 7, 3) := by decide +kernel
theorem dX6_oneIf_4 : decode cX6_oneIf 4 = .ok (.iconst 1, 1) := by decide +kernel
theorem dX6_oneIf_5 : decode cX6_oneIf 5 = .ok (.goto 4, 3) := by decide +kernel
theorem dX6_oneIf_8 : decode cX6_oneIf 8 = .ok (.iconst 0, 1) := by decide +kernel
theorem dX6_oneIf_9 : decode cX6_oneIf 9 = .ok (.ireturn, 1) := by decide +kernel
theorem dX6_copy_0 : decode cX6_copy 0 = .ok (.aload_n 0, 1) := by decide +kernel
theorem dX6_copy_1 : decode cX6_copy 1 = .ok (.iconst 0, 1) := by decide +kernel
theorem dX6_copy_2 : decode cX6_copy 2 = .ok (.aload_n 1, 1) := by decide +kernel
theorem dX6_copy_3 : decode cX6_copy 3 = .ok (.iconst 0, 1) := by decide +kernel
theorem dX6_copy_4 : decode cX6_copy 4 = .ok (.aload_n 0, 1) := by decide +kernel
theorem dX6_copy_5 : decode cX6_copy 5 = .ok (.arraylength, 1) := by decide +kernel
theorem dX6_copy_6 : decode cX6_copy 6 = .ok (.aload_n 1, 1) := by decide +kernel
theorem dX6_copy_7 : decode cX6_copy 7 = .ok (.arraylength, 1) := by decide +kernel
theorem dX6_copy_8 : decode cX6_copy 8 = .ok (.invokestatic 236, 3) := by decide +kernel
theorem dX6_copy_11 : decode cX6_copy 11 = .ok (.invokestatic 241, 3) := by decide +kernel
theorem dX6_copy_14 : decode cX6_copy 14 = .ok (.return_, 1) := by decide +kernel
theorem dX7_init_0 : decode cX7_init 0 = .ok (.aload_n 0, 1) := by decide +kernel
theorem dX7_init_1 : decode cX7_init 1 = .ok (.invokespecial 1, 3) := by decide +kernel
theorem dX7_init_4 : decode cX7_init 4 = .ok (.aload_n 0, 1) := by decide +kernel
theorem dX7_init_5 : decode cX7_init 5 = .ok (.sipush 508, 3) := by decide +kernel
theorem dX7_init_8 : decode cX7_init 8 = .ok (.newarray .int, 2) := by decide +kernel
theorem dX7_init_10 : decode cX7_init 10 = .ok (.putfield 7, 3) := by decide +kernel
theorem dX7_init_13 : decode cX7_init 13 = .ok (.aload_n 0, 1) := by decide +kernel
theorem dX7_init_14 : decode cX7_init 14 = .ok (.sipush 508, 3) := by decide +kernel
theorem dX7_init_17 : decode cX7_init 17 = .ok (.newarray .int, 2) := by decide +kernel
theorem dX7_init_19 : decode cX7_init 19 = .ok (.putfield 13, 3) := by decide +kernel
theorem dX7_init_22 : decode cX7_init 22 = .ok (.aload_n 0, 1) := by decide +kernel
theorem dX7_init_23 : decode cX7_init 23 = .ok (.sipush 2032, 3) := by decide +kernel
theorem dX7_init_26 : decode cX7_init 26 = .ok (.newarray .int, 2) := by decide +kernel
theorem dX7_init_28 : decode cX7_init 28 = .ok (.putfield 16, 3) := by decide +kernel
theorem dX7_init_31 : decode cX7_init 31 = .ok (.aload_n 0, 1) := by decide +kernel
theorem dX7_init_32 : decode cX7_init 32 = .ok (.sipush 508, 3) := by decide +kernel
theorem dX7_init_35 : decode cX7_init 35 = .ok (.newarray .int, 2) := by decide +kernel
theorem dX7_init_37 : decode cX7_init 37 = .ok (.putfield 19, 3) := by decide +kernel
theorem dX7_init_40 : decode cX7_init 40 = .ok (.aload_n 0, 1) := by decide +kernel
theorem dX7_init_41 : decode cX7_init 41 = .ok (.bipush 60, 2) := by decide +kernel
theorem dX7_init_43 : decode cX7_init 43 = .ok (.newarray .int, 2) := by decide +kernel
theorem dX7_init_45 : decode cX7_init 45 = .ok (.putfield 22, 3) := by decide +kernel
theorem dX7_init_48 : decode cX7_init 48 = .ok (.aload_n 0, 1) := by decide +kernel
theorem dX7_init_49 : decode cX7_init 49 = .ok (.bipush 84, 2) := by decide +kernel
theorem dX7_init_51 : decode cX7_init 51 = .ok (.newarray .int, 2) := by decide +kernel
theorem dX7_init_53 : decode cX7_init 53 = .ok (.putfield 25, 3) := by decide +kernel
theorem dX7_init_56 : decode cX7_init 56 = .ok (.aload_n 0, 1) := by decide +kernel
theorem dX7_init_57 : decode cX7_init 57 = .ok (.getfield 7, 3) := by decide +kernel
theorem dX7_init_60 : decode cX7_init 60 = .ok (.iconst 0, 1) := by decide +kernel
theorem dX7_init_61 : decode cX7_init 61 = .ok (.sipush 230, 3) := by decide +kernel
theorem dX7_init_64 : decode cX7_init 64 = .ok (.iastore, 1) := by decide +kernel
theorem dX7_init_65 : decode cX7_init 65 = .ok (.aload_n 0, 1) := by decide +kernel
theorem dX7_init_66 : decode cX7_init 66 = .ok (.getfield 7, 3) := by decide +kernel
theorem dX7_init_69 : decode cX7_init 69 = .ok (.iconst 1, 1) := by decide +kernel
theorem dX7_init_70 : decode cX7_init 70 = .ok (.bipush 10, 2) := by decide +kernel
theorem dX7_init_72 : decode cX7_init 72 = .ok (.iastore, 1) := by decide +kernel
theorem dX7_init_73 : decode cX7_init 73 = .ok (.iconst 0, 1) := by decide +kernel
theorem dX7_init_74 : decode cX7_init 74 = .ok (.istore_n 1, 1) := by decide +kernel
theorem dX7_init_75 : decode cX7_init 75 = .ok (.iload_n 1, 1) := by decide +kernel
theorem dX7_init_76 : decode cX7_init 76 = .ok (.bipush 6, 2) := by decide +kernel
theorem dX7_init_78 : decode cX7_init 78 = .ok (.if_icmp .ge 38, 3) := by decide +kernel
theorem dX7_init_81 : decode cX7_init 81 = .ok (.aload_n 0, 1) := by decide +kernel
theorem dX7_init_82 : decode cX7_init 82 = .ok (.getfield 7, 3) := by decide +kernel
theorem dX7_init_85 : decode cX7_init 85 = .ok (.iconst 4, 1) := by decide +kernel
theorem dX7_init_86 : decode cX7_init 86 = .ok (.iconst 2, 1) := by decide +kernel
theorem dX7_init_87 : decode cX7_init 87 = .ok (.iload_n 1, 1) := by decide +kernel
theorem dX7_init_88 : decode cX7_init 88 = .ok (.imul, 1) := by decide +kernel
theorem dX7_init_89 : decode cX7_init 89 = .ok (.iadd, 1) := by decide +kernel
theorem dX7_init_90 : decode cX7_init 90 = .ok (.sipush 1000, 3) := by decide +kernel
theorem dX7_init_93 : decode cX7_init 93 = .ok (.iastore, 1) := by decide +kernel
theorem dX7_init_94 : decode cX7_init 94 = .ok (.aload_n 0, 1) := by decide +kernel
theorem dX7_init_95 : decode cX7_init 95 = .ok (.getfield 7, 3) := by decide +kernel
theorem dX7_init_98 : decode cX7_init 98 = .ok (.iconst 4, 1) := by decide +kernel
theorem dX7_init_99 : decode cX7_init 99 = .ok (.iconst 2, 1) := by decide +kernel
theorem dX7_init_100 : decode cX7_init 100 = .ok (.iload_n 1, 1) := by decide +kernel
theorem dX7_init_101 : decode cX7_init 101 = .ok (.imul, 1) := by decide +kernel
theorem dX7_init_102 : decode cX7_init 102 = .ok (.iadd, 1) := by decide +kernel
theorem dX7_init_103 : decode cX7_init 103 = .ok (.iconst 1, 1) := by decide +kernel
theorem dX7_init_104 : decode cX7_init 104 = .ok (.iadd, 1) := by decide +kernel
theorem dX7_init_105 : decode cX7_init 105 = .ok (.bipush 10, 2) := by decide +kernel
theorem dX7_init_107 : decode cX7_init 107 = .ok (.iload_n 1, 1) := by decide +kernel
theorem dX7_init_108 : decode cX7_init 108 = .ok (.imul, 1) := by decide +kernel
theorem dX7_init_109 : decode cX7_init 109 = .ok (.iastore, 1) := by decide +kernel
theorem dX7_init_110 : decode cX7_init 110 = .ok (.iinc 1 1, 3) := by decide +kernel
theorem dX7_init_113 : decode cX7_init 113 = .ok (.goto (-38), 3) := by decide +kernel
theorem dX7_init_116 : decode cX7_init 116 = .ok (.iconst 0, 1) := by decide +kernel
theorem dX7_init_117 : decode cX7_init 117 = .ok (.istore_n 1, 1) := by decide +kernel
theorem dX7_init_118 : decode cX7_init 118 = .ok (.iload_n 1, 1) := by decide +kernel
theorem dX7_init_119 : decode cX7_init 119 = .ok (.iconst 3, 1) := by decide +kernel
theorem dX7_init_120 : decode cX7_init 120 = .ok (.if_icmp .ge 23, 3) := by decide +kernel
theorem dX7_init_123 : decode cX7_init 123 = .ok (.aload_n 0, 1) := by decide +kernel
theorem dX7_init_124 : decode cX7_init 124 = .ok (.getfield 7, 3) := by decide +kernel
theorem dX7_init_127 : decode cX7_init 127 = .ok (.bipush 16, 2) := by decide +kernel
theorem dX7_init_129 : decode cX7_init 129 = .ok (.iconst 4, 1) := by decide +kernel
theorem dX7_init_130 : decode cX7_init 130 = .ok (.iload_n 1, 1) := by decide +kernel
theorem dX7_init_131 : decode cX7_init 131 = .ok (.imul, 1) := by decide +kernel
theorem dX7_init_132 : decode cX7_init 132 = .ok (.iadd, 1) := by decide +kernel
theorem dX7_init_133 : decode cX7_init 133 = .ok (.sipush 230, 3) := by decide +kernel
theorem dX7_init_136 : decode cX7_init 136 = .ok (.iastore, 1) := by decide +kernel
theorem dX7_init_137 : decode cX7_init 137 = .ok (.iinc 1 1, 3) := by decide +kernel
theorem dX7_init_140 : decode cX7_init 140 = .ok (.goto (-22), 3) := by decide +kernel
theorem dX7_init_143 : decode cX7_init 143 = .ok (.return_, 1) := by decide +kernel
theorem dX7_in_0 : decode cX7_in 0 = .ok (.iload_n 0, 1) := by decide +kernel
theorem dX7_in_1 : decode cX7_in 1 = .ok (.iload_n 1, 1) := by decide +kernel
theorem dX7_in_2 : decode cX7_in 2 = .ok (.if_icmp .lt 12, 3) := by decide +kernel
theorem dX7_in_5 : decode cX7_in 5 = .ok (.iload_n 0, 1) := by decide +kernel
theorem dX7_in_6 : decode cX7_in 6 = .ok (.iload_n 2, 1) := by decide +kernel
theorem dX7_in_7 : decode cX7_in 7 = .ok (.if_icmp .gt 7, 3) := by decide +kernel
theorem dX7_in_10 : decode cX7_in 10 = .ok (.iconst 1, 1) := by decide +kernel
theorem dX7_in_11 : decode cX7_in 11 = .ok (.goto 4, 3) := by decide +kernel
theorem dX7_in_14 : decode cX7_in 14 = .ok (.iconst 0, 1) := by decide +kernel
theorem dX7_in_15 : decode cX7_in 15 = .ok (.ireturn, 1) := by decide +kernel
set_option maxRecDepth 20000 in
theorem ggX7_isRack_X7_in : GoodIn wsX7_isRack wsX7_in := goodIn_r _ [4] (by decide +kernel) (by decide +kernel)
set_option maxRecDepth 20000 in
theorem gX7_isRack_X7_in : GoodIn wsX7_isRack (va_wsS RX7 28 yX7_in wsX7_in) := goodIn_app (goodIn_of _ (by decide +kernel)) ggX7_isRack_X7_in
theorem dX7_isRack_0 : decode cX7_isRack 0 = .ok (.iload_n 0, 1) := by decide +kernel
theorem dX7_isRack_1 : decode cX7_isRack 1 = .ok (.iconst 0, 1) := by decide +kernel
theorem dX7_isRack_2 : decode cX7_isRack 2 = .ok (.iconst 2, 1) := by decide +kernel
theorem dX7_isRack_3 : decode cX7_isRack 3 = .ok (.invokestatic 28, 3) := by decide +kernel
theorem dX7_isRack_6 : decode cX7_isRack 6 = .ok (.ireturn, 1) := by decide +kernel
set_option maxRecDepth 20000 in
theorem ggX7_isPlace_X7_in : GoodIn wsX7_isPlace wsX7_in := goodIn_r _ [4] (by decide +kernel) (by decide +kernel)
set_option maxRecDepth 20000 in
theorem gX7_isPlace_X7_in : GoodIn wsX7_isPlace (va_wsS RX7 28 yX7_in wsX7_in) := goodIn_app (goodIn_of _ (by decide +kernel)) ggX7_isPlace_X7_in
theorem dX7_isPlace_0 : decode cX7_isPlace 0 = .ok (.iload_n 0, 1) := by decide +kernel
theorem dX7_isPlace_1 : decode cX7_isPlace 1 = .ok (.iconst 0, 1) := by decide +kernel
theorem dX7_isPlace_2 : decode cX7_isPlace 2 = .ok (.bipush 7, 2) := by decide +kernel
theorem dX7_isPlace_4 : decode cX7_isPlace 4 = .ok (.invokestatic 28, 3) := by decide +kernel
theorem dX7_isPlace_7 : decode cX7_isPlace 7 = .ok (.ireturn, 1) := by decide +kernel
set_option maxRecDepth 20000 in
theorem ggX7_isBatch_X7_in : GoodIn wsX7_isBatch wsX7_in := goodIn_r _ [4] (by decide +kernel) (by decide +kernel)
set_option maxRecDepth 20000 in
theorem gX7_isBatch_X7_in : GoodIn wsX7_isBatch (va_wsS RX7 28 yX7_in wsX7_in) := goodIn_app (goodIn_of _ (by decide +kernel)) ggX7_isBatch_X7_in
theorem dX7_isBatch_0 : decode cX7_isBatch 0 = .ok (.iload_n 0, 1) := by decide +kernel
theorem dX7_isBatch_1 : decode cX7_isBatch 1 = .ok (.iconst 0, 1) := by decide +kernel
theorem dX7_isBatch_2 : decode cX7_isBatch 2 = .ok (.iconst 5, 1) := by decide +kernel
theorem dX7_isBatch_3 : decode cX7_isBatch 3 = .ok (.invokestatic 28, 3) := by decide +kernel
theorem dX7_isBatch_6 : decode cX7_isBatch 6 = .ok (.ireturn, 1) := by decide +kernel
set_option maxRecDepth 20000 in
theorem ggX7_isLamp_X7_in : GoodIn wsX7_isLamp wsX7_in := goodIn_r _ [5] (by decide +kernel) (by decide +kernel)
set_option maxRecDepth 20000 in
theorem gX7_isLamp_X7_in : GoodIn wsX7_isLamp (va_wsS RX7 28 yX7_in wsX7_in) := goodIn_app (goodIn_of _ (by decide +kernel)) ggX7_isLamp_X7_in
theorem dX7_isLamp_0 : decode cX7_isLamp 0 = .ok (.iload_n 1, 1) := by decide +kernel
theorem dX7_isLamp_1 : decode cX7_isLamp 1 = .ok (.iconst 0, 1) := by decide +kernel
theorem dX7_isLamp_2 : decode cX7_isLamp 2 = .ok (.aload_n 0, 1) := by decide +kernel
theorem dX7_isLamp_3 : decode cX7_isLamp 3 = .ok (.getfield 7, 3) := by decide +kernel
theorem dX7_isLamp_6 : decode cX7_isLamp 6 = .ok (.iconst 3, 1) := by decide +kernel
theorem dX7_isLamp_7 : decode cX7_isLamp 7 = .ok (.iaload, 1) := by decide +kernel
theorem dX7_isLamp_8 : decode cX7_isLamp 8 = .ok (.iconst 1, 1) := by decide +kernel
theorem dX7_isLamp_9 : decode cX7_isLamp 9 = .ok (.isub, 1) := by decide +kernel
theorem dX7_isLamp_10 : decode cX7_isLamp 10 = .ok (.invokestatic 28, 3) := by decide +kernel
theorem dX7_isLamp_13 : decode cX7_isLamp 13 = .ok (.ireturn, 1) := by decide +kernel
theorem dX7_of_0 : decode cX7_of 0 = .ok (.aload_n 0, 1) := by decide +kernel
theorem dX7_of_1 : decode cX7_of 1 = .ok (.getfield 7, 3) := by decide +kernel
theorem dX7_of_4 : decode cX7_of 4 = .ok (.bipush 28, 2) := by decide +kernel
theorem dX7_of_6 : decode cX7_of 6 = .ok (.bipush 8, 2) := by decide +kernel
theorem dX7_of_8 : decode cX7_of 8 = .ok (.iload_n 1, 1) := by decide +kernel
theorem dX7_of_9 : decode cX7_of 9 = .ok (.imul, 1) := by decide +kernel
theorem dX7_of_10 : decode cX7_of 10 = .ok (.iadd, 1) := by decide +kernel
theorem dX7_of_11 : decode cX7_of 11 = .ok (.iload_n 2, 1) := by decide +kernel
theorem dX7_of_12 : decode cX7_of 12 = .ok (.iadd, 1) := by decide +kernel
theorem dX7_of_13 : decode cX7_of 13 = .ok (.iaload, 1) := by decide +kernel
theorem dX7_of_14 : decode cX7_of 14 = .ok (.ireturn, 1) := by decide +kernel
theorem dX7_lay_0 : decode cX7_lay 0 = .ok (.aload_n 0, 1) := by decide +kernel
theorem dX7_lay_1 : decode cX7_lay 1 = .ok (.getfield 7, 3) := by decide +kernel
theorem dX7_lay_4 : decode cX7_lay 4 = .ok (.bipush 28, 2) := by decide +kernel
theorem dX7_lay_6 : decode cX7_lay 6 = .ok (.bipush 8, 2) := by decide +kernel
theorem dX7_lay_8 : decode cX7_lay 8 = .ok (.iload_n 1, 1) := by decide +kernel
theorem dX7_lay_9 : decode cX7_lay 9 = .ok (.imul, 1) := by decide +kernel
theorem dX7_lay_10 : decode cX7_lay 10 = .ok (.iadd, 1) := by decide +kernel
theorem dX7_lay_11 : decode cX7_lay 11 = .ok (.iload_n 2, 1) := by decide +kernel
theorem dX7_lay_12 : decode cX7_lay 12 = .ok (.iadd, 1) := by decide +kernel
theorem dX7_lay_13 : decode cX7_lay 13 = .ok (.iload_n 3, 1) := by decide +kernel
theorem dX7_lay_14 : decode cX7_lay 14 = .ok (.iastore, 1) := by decide +kernel
theorem dX7_lay_15 : decode cX7_lay 15 = .ok (.return_, 1) := by decide +kernel
theorem dX7_ofRack_0 : decode cX7_ofRack 0 = .ok (.aload_n 0, 1) := by decide +kernel
theorem dX7_ofRack_1 : decode cX7_ofRack 1 = .ok (.getfield 7, 3) := by decide +kernel
theorem dX7_ofRack_4 : decode cX7_ofRack 4 = .ok (.bipush 16, 2) := by decide +kernel
theorem dX7_ofRack_6 : decode cX7_ofRack 6 = .ok (.iconst 4, 1) := by decide +kernel
theorem dX7_ofRack_7 : decode cX7_ofRack 7 = .ok (.iload_n 1, 1) := by decide +kernel
theorem dX7_ofRack_8 : decode cX7_ofRack 8 = .ok (.imul, 1) := by decide +kernel
theorem dX7_ofRack_9 : decode cX7_ofRack 9 = .ok (.iadd, 1) := by decide +kernel
theorem dX7_ofRack_10 : decode cX7_ofRack 10 = .ok (.iload_n 2, 1) := by decide +kernel
theorem dX7_ofRack_11 : decode cX7_ofRack 11 = .ok (.iadd, 1) := by decide +kernel
theorem dX7_ofRack_12 : decode cX7_ofRack 12 = .ok (.iaload, 1) := by decide +kernel
theorem dX7_ofRack_13 : decode cX7_ofRack 13 = .ok (.ireturn, 1) := by decide +kernel
set_option maxRecDepth 20000 in
theorem ggX7_isDead_X7_of : GoodIn wsX7_isDead wsX7_of := goodIn_r _ [5, 6, 7, 8, 9, 10, 11, 12, 13, 14, 15, 16, 17, 18, 19] (by decide +kernel) (by decide +kernel)
set_option maxRecDepth 20000 in
theorem gX7_isDead_X7_of : GoodIn wsX7_isDead (wsV RX7 32 RX7 yX7_of wsX7_of) := goodIn_app (goodIn_of _ (by decide +kernel)) ggX7_isDead_X7_of
theorem dX7_isDead_0 : decode cX7_isDead 0 = .ok (.aload_n 0, 1) := by decide +kernel
theorem dX7_isDead_1 : decode cX7_isDead 1 = .ok (.iload_n 1, 1) := by decide +kernel
theorem dX7_isDead_2 : decode cX7_isDead 2 = .ok (.bipush 6, 2) := by decide +kernel
theorem dX7_isDead_4 : decode cX7_isDead 4 = .ok (.invokevirtual 32, 3) := by decide +kernel
theorem dX7_isDead_7 : decode cX7_isDead 7 = .ok (.sipush (-1005), 3) := by decide +kernel
theorem dX7_isDead_10 : decode cX7_isDead 10 = .ok (.if_icmp .eq 7, 3) := by decide +kernel
theorem dX7_isDead_13 : decode cX7_isDead 13 = .ok (.iconst 1, 1) := by decide +kernel
theorem dX7_isDead_14 : decode cX7_isDead 14 = .ok (.goto 4, 3) := by decide +kernel
theorem dX7_isDead_17 : decode cX7_isDead 17 = .ok (.iconst 0, 1) := by decide +kernel
theorem dX7_isDead_18 : decode cX7_isDead 18 = .ok (.ireturn, 1) := by decide +kernel
set_option maxRecDepth 20000 in
theorem ggX7_lampAt_X7_of : GoodIn wsX7_lampAt wsX7_of := goodIn_r _ [6, 1, 7, 8, 9, 10, 11, 12, 13, 14, 15, 16, 17, 18, 19] (by decide +kernel) (by decide +kernel)
set_option maxRecDepth 20000 in
theorem gX7_lampAt_X7_of : GoodIn wsX7_lampAt (wsV RX7 32 RX7 yX7_of wsX7_of) := goodIn_app (goodIn_of _ (by decide +kernel)) ggX7_lampAt_X7_of
theorem dX7_lampAt_0 : decode cX7_lampAt 0 = .ok (.sipush (-1005), 3) := by decide +kernel
theorem dX7_lampAt_3 : decode cX7_lampAt 3 = .ok (.istore_n 3, 1) := by decide +kernel
theorem dX7_lampAt_4 : decode cX7_lampAt 4 = .ok (.iconst 0, 1) := by decide +kernel
theorem dX7_lampAt_5 : decode cX7_lampAt 5 = .ok (.istore 4, 2) := by decide +kernel
theorem dX7_lampAt_7 : decode cX7_lampAt 7 = .ok (.iload 4, 2) := by decide +kernel
theorem dX7_lampAt_9 : decode cX7_lampAt 9 = .ok (.aload_n 0, 1) := by decide +kernel
theorem dX7_lampAt_10 : decode cX7_lampAt 10 = .ok (.getfield 7, 3) := by decide +kernel
theorem dX7_lampAt_13 : decode cX7_lampAt 13 = .ok (.iconst 3, 1) := by decide +kernel
theorem dX7_lampAt_14 : decode cX7_lampAt 14 = .ok (.iaload, 1) := by decide +kernel
theorem dX7_lampAt_15 : decode cX7_lampAt 15 = .ok (.if_icmp .ge 38, 3) := by decide +kernel
theorem dX7_lampAt_18 : decode cX7_lampAt 18 = .ok (.aload_n 0, 1) := by decide +kernel
theorem dX7_lampAt_19 : decode cX7_lampAt 19 = .ok (.iload 4, 2) := by decide +kernel
theorem dX7_lampAt_21 : decode cX7_lampAt 21 = .ok (.iconst 1, 1) := by decide +kernel
theorem dX7_lampAt_22 : decode cX7_lampAt 22 = .ok (.invokevirtual 32, 3) := by decide +kernel
theorem dX7_lampAt_25 : decode cX7_lampAt 25 = .ok (.iload_n 1, 1) := by decide +kernel
theorem dX7_lampAt_26 : decode cX7_lampAt 26 = .ok (.if_icmp .ne 19, 3) := by decide +kernel
theorem dX7_lampAt_29 : decode cX7_lampAt 29 = .ok (.aload_n 0, 1) := by decide +kernel
theorem dX7_lampAt_30 : decode cX7_lampAt 30 = .ok (.iload 4, 2) := by decide +kernel
theorem dX7_lampAt_32 : decode cX7_lampAt 32 = .ok (.iconst 2, 1) := by decide +kernel
theorem dX7_lampAt_33 : decode cX7_lampAt 33 = .ok (.invokevirtual 32, 3) := by decide +kernel
theorem dX7_lampAt_36 : decode cX7_lampAt 36 = .ok (.iload_n 2, 1) := by decide +kernel
theorem dX7_lampAt_37 : decode cX7_lampAt 37 = .ok (.if_icmp .ne 8, 3) := by decide +kernel
theorem dX7_lampAt_40 : decode cX7_lampAt 40 = .ok (.iload 4, 2) := by decide +kernel
theorem dX7_lampAt_42 : decode cX7_lampAt 42 = .ok (.goto 4, 3) := by decide +kernel
theorem dX7_lampAt_45 : decode cX7_lampAt 45 = .ok (.iload_n 3, 1) := by decide +kernel
theorem dX7_lampAt_46 : decode cX7_lampAt 46 = .ok (.istore_n 3, 1) := by decide +kernel
theorem dX7_lampAt_47 : decode cX7_lampAt 47 = .ok (.iinc 4 1, 3) := by decide +kernel
theorem dX7_lampAt_50 : decode cX7_lampAt 50 = .ok (.goto (-43), 3) := by decide +kernel
theorem dX7_lampAt_53 : decode cX7_lampAt 53 = .ok (.iload_n 3, 1) := by decide +kernel
theorem dX7_lampAt_54 : decode cX7_lampAt 54 = .ok (.ireturn, 1) := by decide +kernel
theorem dX7_copyState_0 : decode cX7_copyState 0 = .ok (.iconst 0, 1) := by decide +kernel
theorem dX7_copyState_1 : decode cX7_copyState 1 = .ok (.istore 4, 2) := by decide +kernel
theorem dX7_copyState_3 : decode cX7_copyState 3 = .ok (.iload 4, 2) := by decide +kernel
theorem dX7_copyState_5 : decode cX7_copyState 5 = .ok (.sipush 508, 3) := by decide +kernel
theorem dX7_copyState_8 : decode cX7_copyState 8 = .ok (.if_icmp .ge 21, 3) := by decide +kernel
theorem dX7_copyState_11 : decode cX7_copyState 11 = .ok (.aload_n 2, 1) := by decide +kernel
theorem dX7_copyState_12 : decode cX7_copyState 12 = .ok (.iload_n 3, 1) := by decide +kernel
theorem dX7_copyState_13 : decode cX7_copyState 13 = .ok (.iload 4, 2) := by decide +kernel
theorem dX7_copyState_15 : decode cX7_copyState 15 = .ok (.iadd, 1) := by decide +kernel
theorem dX7_copyState_16 : decode cX7_copyState 16 = .ok (.aload_n 0, 1) := by decide +kernel
theorem dX7_copyState_17 : decode cX7_copyState 17 = .ok (.iload_n 1, 1) := by decide +kernel
theorem dX7_copyState_18 : decode cX7_copyState 18 = .ok (.iload 4, 2) := by decide +kernel
theorem dX7_copyState_20 : decode cX7_copyState 20 = .ok (.iadd, 1) := by decide +kernel
theorem dX7_copyState_21 : decode cX7_copyState 21 = .ok (.iaload, 1) := by decide +kernel
theorem dX7_copyState_22 : decode cX7_copyState 22 = .ok (.iastore, 1) := by decide +kernel
theorem dX7_copyState_23 : decode cX7_copyState 23 = .ok (.iinc 4 1, 3) := by decide +kernel
theorem dX7_copyState_26 : decode cX7_copyState 26 = .ok (.goto (-23), 3) := by decide +kernel
theorem dX7_copyState_29 : decode cX7_copyState 29 = .ok (.return_, 1) := by decide +kernel
set_option maxRecDepth 20000 in
theorem ggX7_recordRow_X7_copyState : GoodIn wsX7_recordRow wsX7_copyState := goodIn_r _ [6] (by decide +kernel) (by decide +kernel)
set_option maxRecDepth 20000 in
theorem gX7_recordRow_X7_copyState : GoodIn wsX7_recordRow (va_wsS RX7 40 yX7_copyState wsX7_copyState) := goodIn_app (goodIn_of _ (by decide +kernel)) ggX7_recordRow_X7_copyState
theorem dX7_recordRow_0 : decode cX7_recordRow 0 = .ok (.aload_n 0, 1) := by decide +kernel
theorem dX7_recordRow_1 : decode cX7_recordRow 1 = .ok (.getfield 36, 3) := by decide +kernel
theorem dX7_recordRow_4 : decode cX7_recordRow 4 = .ok (.iconst 4, 1) := by decide +kernel
theorem dX7_recordRow_5 : decode cX7_recordRow 5 = .ok (.if_icmp .ne 44, 3) := by decide +kernel
theorem dX7_recordRow_8 : decode cX7_recordRow 8 = .ok (.iconst 0, 1) := by decide +kernel
theorem dX7_recordRow_9 : decode cX7_recordRow 9 = .ok (.istore_n 2, 1) := by decide +kernel
theorem dX7_recordRow_10 : decode cX7_recordRow 10 = .ok (.iload_n 2, 1) := by decide +kernel
theorem dX7_recordRow_11 : decode cX7_recordRow 11 = .ok (.sipush 1524, 3) := by decide +kernel
theorem dX7_recordRow_14 : decode cX7_recordRow 14 = .ok (.if_icmp .ge 25, 3) := by decide +kernel
theorem dX7_recordRow_17 : decode cX7_recordRow 17 = .ok (.aload_n 0, 1) := by decide +kernel
theorem dX7_recordRow_18 : decode cX7_recordRow 18 = .ok (.getfield 16, 3) := by decide +kernel
theorem dX7_recordRow_21 : decode cX7_recordRow 21 = .ok (.iload_n 2, 1) := by decide +kernel
theorem dX7_recordRow_22 : decode cX7_recordRow 22 = .ok (.aload_n 0, 1) := by decide +kernel
theorem dX7_recordRow_23 : decode cX7_recordRow 23 = .ok (.getfield 16, 3) := by decide +kernel
theorem dX7_recordRow_26 : decode cX7_recordRow 26 = .ok (.iload_n 2, 1) := by decide +kernel
theorem dX7_recordRow_27 : decode cX7_recordRow 27 = .ok (.sipush 508, 3) := by decide +kernel
theorem dX7_recordRow_30 : decode cX7_recordRow 30 = .ok (.iadd, 1) := by decide +kernel
theorem dX7_recordRow_31 : decode cX7_recordRow 31 = .ok (.iaload, 1) := by decide +kernel
theorem dX7_recordRow_32 : decode cX7_recordRow 32 = .ok (.iastore, 1) := by decide +kernel
theorem dX7_recordRow_33 : decode cX7_recordRow 33 = .ok (.iinc 2 1, 3) := by decide +kernel
theorem dX7_recordRow_36 : decode cX7_recordRow 36 = .ok (.goto (-26), 3) := by decide +kernel
theorem dX7_recordRow_39 : decode cX7_recordRow 39 = .ok (.aload_n 0, 1) := by decide +kernel
theorem dX7_recordRow_40 : decode cX7_recordRow 40 = .ok (.dup, 1) := by decide +kernel
theorem dX7_recordRow_41 : decode cX7_recordRow 41 = .ok (.getfield 36, 3) := by decide +kernel
theorem dX7_recordRow_44 : decode cX7_recordRow 44 = .ok (.iconst 1, 1) := by decide +kernel
theorem dX7_recordRow_45 : decode cX7_recordRow 45 = .ok (.isub, 1) := by decide +kernel
theorem dX7_recordRow_46 : decode cX7_recordRow 46 = .ok (.putfield 36, 3) := by decide +kernel
theorem dX7_recordRow_49 : decode cX7_recordRow 49 = .ok (.aload_n 1, 1) := by decide +kernel
theorem dX7_recordRow_50 : decode cX7_recordRow 50 = .ok (.iconst 0, 1) := by decide +kernel
theorem dX7_recordRow_51 : decode cX7_recordRow 51 = .ok (.aload_n 0, 1) := by decide +kernel
theorem dX7_recordRow_52 : decode cX7_recordRow 52 = .ok (.getfield 16, 3) := by decide +kernel
theorem dX7_recordRow_55 : decode cX7_recordRow 55 = .ok (.sipush 508, 3) := by decide +kernel
theorem dX7_recordRow_58 : decode cX7_recordRow 58 = .ok (.aload_n 0, 1) := by decide +kernel
theorem dX7_recordRow_59 : decode cX7_recordRow 59 = .ok (.getfield 36, 3) := by decide +kernel
theorem dX7_recordRow_62 : decode cX7_recordRow 62 = .ok (.imul, 1) := by decide +kernel
theorem dX7_recordRow_63 : decode cX7_recordRow 63 = .ok (.invokestatic 40, 3) := by decide +kernel
theorem dX7_recordRow_66 : decode cX7_recordRow 66 = .ok (.aload_n 0, 1) := by decide +kernel
theorem dX7_recordRow_67 : decode cX7_recordRow 67 = .ok (.dup, 1) := by decide +kernel
theorem dX7_recordRow_68 : decode cX7_recordRow 68 = .ok (.getfield 36, 3) := by decide +kernel
theorem dX7_recordRow_71 : decode cX7_recordRow 71 = .ok (.iconst 1, 1) := by decide +kernel
theorem dX7_recordRow_72 : decode cX7_recordRow 72 = .ok (.iadd, 1) := by decide +kernel
theorem dX7_recordRow_73 : decode cX7_recordRow 73 = .ok (.putfield 36, 3) := by decide +kernel
theorem dX7_recordRow_76 : decode cX7_recordRow 76 = .ok (.return_, 1) := by decide +kernel
set_option maxRecDepth 20000 in
theorem ggX7_record_X7_recordRow : GoodIn wsX7_record wsX7_recordRow := goodIn_r _ [6, 7, 8, 9, 10, 5, 11, 12, 13, 14, 15, 16, 17, 18, 19, 20, 21, 22, 23, 24] (by decide +kernel) (by decide +kernel)
set_option maxRecDepth 20000 in
theorem gX7_record_X7_recordRow : GoodIn wsX7_record (wsV RX7 44 RX7 yX7_recordRow wsX7_recordRow) := goodIn_app (goodIn_of _ (by decide +kernel)) ggX7_record_X7_recordRow
theorem dX7_record_0 : decode cX7_record 0 = .ok (.aload_n 0, 1) := by decide +kernel
theorem dX7_record_1 : decode cX7_record 1 = .ok (.aload_n 0, 1) := by decide +kernel
theorem dX7_record_2 : decode cX7_record 2 = .ok (.getfield 7, 3) := by decide +kernel
theorem dX7_record_5 : decode cX7_record 5 = .ok (.invokevirtual 44, 3) := by decide +kernel
theorem dX7_record_8 : decode cX7_record 8 = .ok (.return_, 1) := by decide +kernel
set_option maxRecDepth 20000 in
theorem ggX7_undo_X7_copyState : GoodIn wsX7_undo wsX7_copyState := goodIn_r _ [7] (by decide +kernel) (by decide +kernel)
set_option maxRecDepth 20000 in
theorem gX7_undo_X7_copyState : GoodIn wsX7_undo (va_wsS RX7 40 yX7_copyState wsX7_copyState) := goodIn_app (goodIn_of _ (by decide +kernel)) ggX7_undo_X7_copyState
theorem dX7_undo_0 : decode cX7_undo 0 = .ok (.aload_n 0, 1) := by decide +kernel
theorem dX7_undo_1 : decode cX7_undo 1 = .ok (.getfield 36, 3) := by decide +kernel
theorem dX7_undo_4 : decode cX7_undo 4 = .ok (.ifCond .ne 7, 3) := by decide +kernel
theorem dX7_undo_7 : decode cX7_undo 7 = .ok (.sipush (-1005), 3) := by decide +kernel
theorem dX7_undo_10 : decode cX7_undo 10 = .ok (.ireturn, 1) := by decide +kernel
theorem dX7_undo_11 : decode cX7_undo 11 = .ok (.aload_n 0, 1) := by decide +kernel
theorem dX7_undo_12 : decode cX7_undo 12 = .ok (.dup, 1) := by decide +kernel
theorem dX7_undo_13 : decode cX7_undo 13 = .ok (.getfield 36, 3) := by decide +kernel
theorem dX7_undo_16 : decode cX7_undo 16 = .ok (.iconst 1, 1) := by decide +kernel
theorem dX7_undo_17 : decode cX7_undo 17 = .ok (.isub, 1) := by decide +kernel
theorem dX7_undo_18 : decode cX7_undo 18 = .ok (.putfield 36, 3) := by decide +kernel
theorem dX7_undo_21 : decode cX7_undo 21 = .ok (.aload_n 0, 1) := by decide +kernel
theorem dX7_undo_22 : decode cX7_undo 22 = .ok (.getfield 16, 3) := by decide +kernel
theorem dX7_undo_25 : decode cX7_undo 25 = .ok (.sipush 508, 3) := by decide +kernel
theorem dX7_undo_28 : decode cX7_undo 28 = .ok (.aload_n 0, 1) := by decide +kernel
theorem dX7_undo_29 : decode cX7_undo 29 = .ok (.getfield 36, 3) := by decide +kernel
theorem dX7_undo_32 : decode cX7_undo 32 = .ok (.imul, 1) := by decide +kernel
theorem dX7_undo_33 : decode cX7_undo 33 = .ok (.aload_n 0, 1) := by decide +kernel
theorem dX7_undo_34 : decode cX7_undo 34 = .ok (.getfield 7, 3) := by decide +kernel
theorem dX7_undo_37 : decode cX7_undo 37 = .ok (.iconst 0, 1) := by decide +kernel
theorem dX7_undo_38 : decode cX7_undo 38 = .ok (.invokestatic 40, 3) := by decide +kernel
theorem dX7_undo_41 : decode cX7_undo 41 = .ok (.aload_n 0, 1) := by decide +kernel
theorem dX7_undo_42 : decode cX7_undo 42 = .ok (.getfield 36, 3) := by decide +kernel
theorem dX7_undo_45 : decode cX7_undo 45 = .ok (.ireturn, 1) := by decide +kernel
set_option maxRecDepth 20000 in
theorem ggX7_keep_X7_copyState : GoodIn wsX7_keep wsX7_copyState := goodIn_r _ [7] (by decide +kernel) (by decide +kernel)
set_option maxRecDepth 20000 in
theorem gX7_keep_X7_copyState : GoodIn wsX7_keep (va_wsS RX7 40 yX7_copyState wsX7_copyState) := goodIn_app (goodIn_of _ (by decide +kernel)) ggX7_keep_X7_copyState
theorem dX7_keep_0 : decode cX7_keep 0 = .ok (.aload_n 0, 1) := by decide +kernel
theorem dX7_keep_1 : decode cX7_keep 1 = .ok (.getfield 7, 3) := by decide +kernel
theorem dX7_keep_4 : decode cX7_keep 4 = .ok (.iconst 0, 1) := by decide +kernel
theorem dX7_keep_5 : decode cX7_keep 5 = .ok (.aload_n 0, 1) := by decide +kernel
theorem dX7_keep_6 : decode cX7_keep 6 = .ok (.getfield 19, 3) := by decide +kernel
theorem dX7_keep_9 : decode cX7_keep 9 = .ok (.iconst 0, 1) := by decide +kernel
theorem dX7_keep_10 : decode cX7_keep 10 = .ok (.invokestatic 40, 3) := by decide +kernel
theorem dX7_keep_13 : decode cX7_keep 13 = .ok (.aload_n 0, 1) := by decide +kernel
theorem dX7_keep_14 : decode cX7_keep 14 = .ok (.iconst 1, 1) := by decide +kernel
theorem dX7_keep_15 : decode cX7_keep 15 = .ok (.putfield 48, 3) := by decide +kernel
theorem dX7_keep_18 : decode cX7_keep 18 = .ok (.aload_n 0, 1) := by decide +kernel
theorem dX7_keep_19 : decode cX7_keep 19 = .ok (.getfield 7, 3) := by decide +kernel
theorem dX7_keep_22 : decode cX7_keep 22 = .ok (.iconst 3, 1) := by decide +kernel
theorem dX7_keep_23 : decode cX7_keep 23 = .ok (.iaload, 1) := by decide +kernel
theorem dX7_keep_24 : decode cX7_keep 24 = .ok (.ireturn, 1) := by decide +kernel
set_option maxRecDepth 20000 in
theorem ggX7_restore_X7_record : GoodIn wsX7_restore wsX7_record := goodIn_r _ [8, 3, 9, 10, 11, 7, 12, 13, 14, 15, 16, 17, 18, 19, 20, 21, 22, 23, 24, 25, 26, 27, 28, 29, 30] (by decide +kernel) (by decide +kernel)
set_option maxRecDepth 20000 in
theorem gX7_restore_X7_record : GoodIn wsX7_restore (wsV RX7 52 RX7 yX7_record wsX7_record) := goodIn_app (goodIn_of _ (by decide +kernel)) ggX7_restore_X7_record
set_option maxRecDepth 20000 in
theorem ggX7_restore_X7_copyState : GoodIn wsX7_restore wsX7_copyState := goodIn_r _ [17] (by decide +kernel) (by decide +kernel)
set_option maxRecDepth 20000 in
theorem gX7_restore_X7_copyState : GoodIn wsX7_restore (va_wsS RX7 40 yX7_copyState wsX7_copyState) := goodIn_app (goodIn_of _ (by decide +kernel)) ggX7_restore_X7_copyState
theorem dX7_restore_0 : decode cX7_restore 0 = .ok (.aload_n 0, 1) := by decide +kernel
theorem dX7_restore_1 : decode cX7_restore 1 = .ok (.getfield 48, 3) := by decide +kernel
theorem dX7_restore_4 : decode cX7_restore 4 = .ok (.ifCond .ne 7, 3) := by decide +kernel
theorem dX7_restore_7 : decode cX7_restore 7 = .ok (.sipush (-1005), 3) := by decide +kernel
theorem dX7_restore_10 : decode cX7_restore 10 = .ok (.ireturn, 1) := by decide +kernel
theorem dX7_restore_11 : decode cX7_restore 11 = .ok (.aload_n 0, 1) := by decide +kernel
theorem dX7_restore_12 : decode cX7_restore 12 = .ok (.invokevirtual 52, 3) := by decide +kernel
theorem dX7_restore_15 : decode cX7_restore 15 = .ok (.aload_n 0, 1) := by decide +kernel
theorem dX7_restore_16 : decode cX7_restore 16 = .ok (.getfield 19, 3) := by decide +kernel
theorem dX7_restore_19 : decode cX7_restore 19 = .ok (.iconst 0, 1) := by decide +kernel
theorem dX7_restore_20 : decode cX7_restore 20 = .ok (.aload_n 0, 1) := by decide +kernel
theorem dX7_restore_21 : decode cX7_restore 21 = .ok (.getfield 7, 3) := by decide +kernel
theorem dX7_restore_24 : decode cX7_restore 24 = .ok (.iconst 0, 1) := by decide +kernel
theorem dX7_restore_25 : decode cX7_restore 25 = .ok (.invokestatic 40, 3) := by decide +kernel
theorem dX7_restore_28 : decode cX7_restore 28 = .ok (.aload_n 0, 1) := by decide +kernel
theorem dX7_restore_29 : decode cX7_restore 29 = .ok (.getfield 7, 3) := by decide +kernel
theorem dX7_restore_32 : decode cX7_restore 32 = .ok (.iconst 3, 1) := by decide +kernel
theorem dX7_restore_33 : decode cX7_restore 33 = .ok (.iaload, 1) := by decide +kernel
theorem dX7_restore_34 : decode cX7_restore 34 = .ok (.ireturn, 1) := by decide +kernel
set_option maxRecDepth 20000 in
theorem ggX7_setBatch_X7_isBatch : GoodIn wsX7_setBatch wsX7_isBatch := goodIn_r _ [5, 6, 7, 4, 8] (by decide +kernel) (by decide +kernel)
set_option maxRecDepth 20000 in
theorem gX7_setBatch_X7_isBatch : GoodIn wsX7_setBatch (va_wsS RX7 55 yX7_isBatch wsX7_isBatch) := goodIn_app (goodIn_of _ (by decide +kernel)) ggX7_setBatch_X7_isBatch
set_option maxRecDepth 20000 in
theorem ggX7_setBatch_X7_in : GoodIn wsX7_setBatch wsX7_in := goodIn_r _ [8] (by decide +kernel) (by decide +kernel)
set_option maxRecDepth 20000 in
theorem gX7_setBatch_X7_in : GoodIn wsX7_setBatch (va_wsS RX7 28 yX7_in wsX7_in) := goodIn_app (goodIn_of _ (by decide +kernel)) ggX7_setBatch_X7_in
set_option maxRecDepth 20000 in
theorem ggX7_setBatch_X7_record : GoodIn wsX7_setBatch wsX7_record := goodIn_r _ [12, 1, 13, 14, 15, 4, 16, 17, 18, 19, 20, 21, 22, 23, 24, 25, 26, 27, 28, 29, 30, 31, 32, 33, 34] (by decide +kernel) (by decide +kernel)
set_option maxRecDepth 20000 in
theorem gX7_setBatch_X7_record : GoodIn wsX7_setBatch (wsV RX7 52 RX7 yX7_record wsX7_record) := goodIn_app (goodIn_of _ (by decide +kernel)) ggX7_setBatch_X7_record
theorem dX7_setBatch_0 : decode cX7_setBatch 0 = .ok (.iload_n 1, 1) := by decide +kernel
theorem dX7_setBatch_1 : decode cX7_setBatch 1 = .ok (.invokestatic 55, 3) := by decide +kernel
theorem dX7_setBatch_4 : decode cX7_setBatch 4 = .ok (.ifCond .ne 7, 3) := by decide +kernel
theorem dX7_setBatch_7 : decode cX7_setBatch 7 = .ok (.sipush (-1001), 3) := by decide +kernel
theorem dX7_setBatch_10 : decode cX7_setBatch 10 = .ok (.ireturn, 1) := by decide +kernel
theorem dX7_setBatch_11 : decode cX7_setBatch 11 = .ok (.iload_n 2, 1) := by decide +kernel
theorem dX7_setBatch_12 : decode cX7_setBatch 12 = .ok (.bipush 10, 2) := by decide +kernel
theorem dX7_setBatch_14 : decode cX7_setBatch 14 = .ok (.sipush 9999, 3) := by decide +kernel
theorem dX7_setBatch_17 : decode cX7_setBatch 17 = .ok (.invokestatic 28, 3) := by decide +kernel
theorem dX7_setBatch_20 : decode cX7_setBatch 20 = .ok (.ifCond .eq 13, 3) := by decide +kernel
theorem dX7_setBatch_23 : decode cX7_setBatch 23 = .ok (.iload_n 3, 1) := by decide +kernel
theorem dX7_setBatch_24 : decode cX7_setBatch 24 = .ok (.iconst 0, 1) := by decide +kernel
theorem dX7_setBatch_25 : decode cX7_setBatch 25 = .ok (.bipush 90, 2) := by decide +kernel
theorem dX7_setBatch_27 : decode cX7_setBatch 27 = .ok (.invokestatic 28, 3) := by decide +kernel
theorem dX7_setBatch_30 : decode cX7_setBatch 30 = .ok (.ifCond .ne 7, 3) := by decide +kernel
theorem dX7_setBatch_33 : decode cX7_setBatch 33 = .ok (.sipush (-1002), 3) := by decide +kernel
theorem dX7_setBatch_36 : decode cX7_setBatch 36 = .ok (.ireturn, 1) := by decide +kernel
theorem dX7_setBatch_37 : decode cX7_setBatch 37 = .ok (.iconst 4, 1) := by decide +kernel
theorem dX7_setBatch_38 : decode cX7_setBatch 38 = .ok (.iconst 2, 1) := by decide +kernel
theorem dX7_setBatch_39 : decode cX7_setBatch 39 = .ok (.iload_n 1, 1) := by decide +kernel
theorem dX7_setBatch_40 : decode cX7_setBatch 40 = .ok (.imul, 1) := by decide +kernel
theorem dX7_setBatch_41 : decode cX7_setBatch 41 = .ok (.iadd, 1) := by decide +kernel
theorem dX7_setBatch_42 : decode cX7_setBatch 42 = .ok (.istore 4, 2) := by decide +kernel
theorem dX7_setBatch_44 : decode cX7_setBatch 44 = .ok (.aload_n 0, 1) := by decide +kernel
theorem dX7_setBatch_45 : decode cX7_setBatch 45 = .ok (.getfield 7, 3) := by decide +kernel
theorem dX7_setBatch_48 : decode cX7_setBatch 48 = .ok (.iload 4, 2) := by decide +kernel
theorem dX7_setBatch_50 : decode cX7_setBatch 50 = .ok (.iaload, 1) := by decide +kernel
theorem dX7_setBatch_51 : decode cX7_setBatch 51 = .ok (.istore 5, 2) := by decide +kernel
theorem dX7_setBatch_53 : decode cX7_setBatch 53 = .ok (.iload 5, 2) := by decide +kernel
theorem dX7_setBatch_55 : decode cX7_setBatch 55 = .ok (.iload_n 2, 1) := by decide +kernel
theorem dX7_setBatch_56 : decode cX7_setBatch 56 = .ok (.if_icmp .ne 20, 3) := by decide +kernel
theorem dX7_setBatch_59 : decode cX7_setBatch 59 = .ok (.aload_n 0, 1) := by decide +kernel
theorem dX7_setBatch_60 : decode cX7_setBatch 60 = .ok (.getfield 7, 3) := by decide +kernel
theorem dX7_setBatch_63 : decode cX7_setBatch 63 = .ok (.iload 4, 2) := by decide +kernel
theorem dX7_setBatch_65 : decode cX7_setBatch 65 = .ok (.iconst 1, 1) := by decide +kernel
theorem dX7_setBatch_66 : decode cX7_setBatch 66 = .ok (.iadd, 1) := by decide +kernel
theorem dX7_setBatch_67 : decode cX7_setBatch 67 = .ok (.iaload, 1) := by decide +kernel
theorem dX7_setBatch_68 : decode cX7_setBatch 68 = .ok (.iload_n 3, 1) := by decide +kernel
theorem dX7_setBatch_69 : decode cX7_setBatch 69 = .ok (.if_icmp .ne 7, 3) := by decide +kernel
theorem dX7_setBatch_72 : decode cX7_setBatch 72 = .ok (.sipush (-1005), 3) := by decide +kernel
theorem dX7_setBatch_75 : decode cX7_setBatch 75 = .ok (.ireturn, 1) := by decide +kernel
theorem dX7_setBatch_76 : decode cX7_setBatch 76 = .ok (.aload_n 0, 1) := by decide +kernel
theorem dX7_setBatch_77 : decode cX7_setBatch 77 = .ok (.invokevirtual 52, 3) := by decide +kernel
theorem dX7_setBatch_80 : decode cX7_setBatch 80 = .ok (.aload_n 0, 1) := by decide +kernel
theorem dX7_setBatch_81 : decode cX7_setBatch 81 = .ok (.getfield 7, 3) := by decide +kernel
theorem dX7_setBatch_84 : decode cX7_setBatch 84 = .ok (.iload 4, 2) := by decide +kernel
theorem dX7_setBatch_86 : decode cX7_setBatch 86 = .ok (.iload_n 2, 1) := by decide +kernel
theorem dX7_setBatch_87 : decode cX7_setBatch 87 = .ok (.iastore, 1) := by decide +kernel
theorem dX7_setBatch_88 : decode cX7_setBatch 88 = .ok (.aload_n 0, 1) := by decide +kernel
theorem dX7_setBatch_89 : decode cX7_setBatch 89 = .ok (.getfield 7, 3) := by decide +kernel
theorem dX7_setBatch_92 : decode cX7_setBatch 92 = .ok (.iload 4, 2) := by decide +kernel
theorem dX7_setBatch_94 : decode cX7_setBatch 94 = .ok (.iconst 1, 1) := by decide +kernel
theorem dX7_setBatch_95 : decode cX7_setBatch 95 = .ok (.iadd, 1) := by decide +kernel
theorem dX7_setBatch_96 : decode cX7_setBatch 96 = .ok (.iload_n 3, 1) := by decide +kernel
theorem dX7_setBatch_97 : decode cX7_setBatch 97 = .ok (.iastore, 1) := by decide +kernel
theorem dX7_setBatch_98 : decode cX7_setBatch 98 = .ok (.iload 5, 2) := by decide +kernel
theorem dX7_setBatch_100 : decode cX7_setBatch 100 = .ok (.ireturn, 1) := by decide +kernel
set_option maxRecDepth 20000 in
theorem ggX7_whyNotPut_X7_isRack : GoodIn wsX7_whyNotPut wsX7_isRack := goodIn_r _ [5, 6, 7, 4, 8] (by decide +kernel) (by decide +kernel)
set_option maxRecDepth 20000 in
theorem gX7_whyNotPut_X7_isRack : GoodIn wsX7_whyNotPut (va_wsS RX7 59 yX7_isRack wsX7_isRack) := goodIn_app (goodIn_of _ (by decide +kernel)) ggX7_whyNotPut_X7_isRack
set_option maxRecDepth 20000 in
theorem ggX7_whyNotPut_X7_isPlace : GoodIn wsX7_whyNotPut wsX7_isPlace := goodIn_r _ [11, 6, 7, 4, 8] (by decide +kernel) (by decide +kernel)
set_option maxRecDepth 20000 in
theorem gX7_whyNotPut_X7_isPlace : GoodIn wsX7_whyNotPut (va_wsS RX7 62 yX7_isPlace wsX7_isPlace) := goodIn_app (goodIn_of _ (by decide +kernel)) ggX7_whyNotPut_X7_isPlace
set_option maxRecDepth 20000 in
theorem ggX7_whyNotPut_X7_isBatch : GoodIn wsX7_whyNotPut wsX7_isBatch := goodIn_r _ [14, 6, 7, 4, 8] (by decide +kernel) (by decide +kernel)
set_option maxRecDepth 20000 in
theorem gX7_whyNotPut_X7_isBatch : GoodIn wsX7_whyNotPut (va_wsS RX7 55 yX7_isBatch wsX7_isBatch) := goodIn_app (goodIn_of _ (by decide +kernel)) ggX7_whyNotPut_X7_isBatch
set_option maxRecDepth 20000 in
theorem ggX7_whyNotPut_X7_lampAt : GoodIn wsX7_whyNotPut wsX7_lampAt := goodIn_r _ [18, 1, 19, 20, 21, 4, 22, 23, 24, 25, 26, 27, 28, 29, 30, 31, 32, 33, 34, 35] (by decide +kernel) (by decide +kernel)
set_option maxRecDepth 20000 in
theorem gX7_whyNotPut_X7_lampAt : GoodIn wsX7_whyNotPut (wsV RX7 65 RX7 yX7_lampAt wsX7_lampAt) := goodIn_app (goodIn_of _ (by decide +kernel)) ggX7_whyNotPut_X7_lampAt
theorem dX7_whyNotPut_0 : decode cX7_whyNotPut 0 = .ok (.iload_n 1, 1) := by decide +kernel
theorem dX7_whyNotPut_1 : decode cX7_whyNotPut 1 = .ok (.invokestatic 59, 3) := by decide +kernel
theorem dX7_whyNotPut_4 : decode cX7_whyNotPut 4 = .ok (.ifCond .eq 17, 3) := by decide +kernel
theorem dX7_whyNotPut_7 : decode cX7_whyNotPut 7 = .ok (.iload_n 2, 1) := by decide +kernel
theorem dX7_whyNotPut_8 : decode cX7_whyNotPut 8 = .ok (.invokestatic 62, 3) := by decide +kernel
theorem dX7_whyNotPut_11 : decode cX7_whyNotPut 11 = .ok (.ifCond .eq 10, 3) := by decide +kernel
theorem dX7_whyNotPut_14 : decode cX7_whyNotPut 14 = .ok (.iload_n 3, 1) := by decide +kernel
theorem dX7_whyNotPut_15 : decode cX7_whyNotPut 15 = .ok (.invokestatic 55, 3) := by decide +kernel
theorem dX7_whyNotPut_18 : decode cX7_whyNotPut 18 = .ok (.ifCond .ne 9, 3) := by decide +kernel
theorem dX7_whyNotPut_21 : decode cX7_whyNotPut 21 = .ok (.sipush (-1001), 3) := by decide +kernel
theorem dX7_whyNotPut_24 : decode cX7_whyNotPut 24 = .ok (.goto 39, 3) := by decide +kernel
theorem dX7_whyNotPut_27 : decode cX7_whyNotPut 27 = .ok (.aload_n 0, 1) := by decide +kernel
theorem dX7_whyNotPut_28 : decode cX7_whyNotPut 28 = .ok (.iload_n 1, 1) := by decide +kernel
theorem dX7_whyNotPut_29 : decode cX7_whyNotPut 29 = .ok (.iload_n 2, 1) := by decide +kernel
theorem dX7_whyNotPut_30 : decode cX7_whyNotPut 30 = .ok (.invokevirtual 65, 3) := by decide +kernel
theorem dX7_whyNotPut_33 : decode cX7_whyNotPut 33 = .ok (.sipush (-1005), 3) := by decide +kernel
theorem dX7_whyNotPut_36 : decode cX7_whyNotPut 36 = .ok (.if_icmp .eq 9, 3) := by decide +kernel
theorem dX7_whyNotPut_39 : decode cX7_whyNotPut 39 = .ok (.sipush (-1004), 3) := by decide +kernel
theorem dX7_whyNotPut_42 : decode cX7_whyNotPut 42 = .ok (.goto 21, 3) := by decide +kernel
theorem dX7_whyNotPut_45 : decode cX7_whyNotPut 45 = .ok (.aload_n 0, 1) := by decide +kernel
theorem dX7_whyNotPut_46 : decode cX7_whyNotPut 46 = .ok (.getfield 7, 3) := by decide +kernel
theorem dX7_whyNotPut_49 : decode cX7_whyNotPut 49 = .ok (.iconst 3, 1) := by decide +kernel
theorem dX7_whyNotPut_50 : decode cX7_whyNotPut 50 = .ok (.iaload, 1) := by decide +kernel
theorem dX7_whyNotPut_51 : decode cX7_whyNotPut 51 = .ok (.bipush 60, 2) := by decide +kernel
theorem dX7_whyNotPut_53 : decode cX7_whyNotPut 53 = .ok (.if_icmp .ne 9, 3) := by decide +kernel
theorem dX7_whyNotPut_56 : decode cX7_whyNotPut 56 = .ok (.sipush (-1003), 3) := by decide +kernel
theorem dX7_whyNotPut_59 : decode cX7_whyNotPut 59 = .ok (.goto 4, 3) := by decide +kernel
theorem dX7_whyNotPut_62 : decode cX7_whyNotPut 62 = .ok (.iconst 0, 1) := by decide +kernel
theorem dX7_whyNotPut_63 : decode cX7_whyNotPut 63 = .ok (.ireturn, 1) := by decide +kernel
set_option maxRecDepth 20000 in
theorem ggX7_putNow_X7_lay : GoodIn wsX7_putNow wsX7_lay := goodIn_r _ [6, 1, 7, 8, 9, 10, 11, 12, 13, 14, 15, 16, 17, 18, 19] (by decide +kernel) (by decide +kernel)
set_option maxRecDepth 20000 in
theorem gX7_putNow_X7_lay : GoodIn wsX7_putNow (wsV RX7 68 RX7 yX7_lay wsX7_lay) := goodIn_app (goodIn_of _ (by decide +kernel)) ggX7_putNow_X7_lay
theorem dX7_putNow_0 : decode cX7_putNow 0 = .ok (.aload_n 0, 1) := by decide +kernel
theorem dX7_putNow_1 : decode cX7_putNow 1 = .ok (.getfield 7, 3) := by decide +kernel
theorem dX7_putNow_4 : decode cX7_putNow 4 = .ok (.iconst 3, 1) := by decide +kernel
theorem dX7_putNow_5 : decode cX7_putNow 5 = .ok (.iaload, 1) := by decide +kernel
theorem dX7_putNow_6 : decode cX7_putNow 6 = .ok (.istore 4, 2) := by decide +kernel
theorem dX7_putNow_8 : decode cX7_putNow 8 = .ok (.aload_n 0, 1) := by decide +kernel
theorem dX7_putNow_9 : decode cX7_putNow 9 = .ok (.getfield 7, 3) := by decide +kernel
theorem dX7_putNow_12 : decode cX7_putNow 12 = .ok (.iconst 4, 1) := by decide +kernel
theorem dX7_putNow_13 : decode cX7_putNow 13 = .ok (.iconst 2, 1) := by decide +kernel
theorem dX7_putNow_14 : decode cX7_putNow 14 = .ok (.iload_n 3, 1) := by decide +kernel
theorem dX7_putNow_15 : decode cX7_putNow 15 = .ok (.imul, 1) := by decide +kernel
theorem dX7_putNow_16 : decode cX7_putNow 16 = .ok (.iadd, 1) := by decide +kernel
theorem dX7_putNow_17 : decode cX7_putNow 17 = .ok (.iaload, 1) := by decide +kernel
theorem dX7_putNow_18 : decode cX7_putNow 18 = .ok (.istore 5, 2) := by decide +kernel
theorem dX7_putNow_20 : decode cX7_putNow 20 = .ok (.bipush 7, 2) := by decide +kernel
theorem dX7_putNow_22 : decode cX7_putNow 22 = .ok (.iload 4, 2) := by decide +kernel
theorem dX7_putNow_24 : decode cX7_putNow 24 = .ok (.imul, 1) := by decide +kernel
theorem dX7_putNow_25 : decode cX7_putNow 25 = .ok (.bipush 10, 2) := by decide +kernel
theorem dX7_putNow_27 : decode cX7_putNow 27 = .ok (.irem, 1) := by decide +kernel
theorem dX7_putNow_28 : decode cX7_putNow 28 = .ok (.istore 6, 2) := by decide +kernel
theorem dX7_putNow_30 : decode cX7_putNow 30 = .ok (.iload 5, 2) := by decide +kernel
theorem dX7_putNow_32 : decode cX7_putNow 32 = .ok (.iload 5, 2) := by decide +kernel
theorem dX7_putNow_34 : decode cX7_putNow 34 = .ok (.aload_n 0, 1) := by decide +kernel
theorem dX7_putNow_35 : decode cX7_putNow 35 = .ok (.getfield 7, 3) := by decide +kernel
theorem dX7_putNow_38 : decode cX7_putNow 38 = .ok (.iconst 4, 1) := by decide +kernel
theorem dX7_putNow_39 : decode cX7_putNow 39 = .ok (.iconst 2, 1) := by decide +kernel
theorem dX7_putNow_40 : decode cX7_putNow 40 = .ok (.iload_n 3, 1) := by decide +kernel
theorem dX7_putNow_41 : decode cX7_putNow 41 = .ok (.imul, 1) := by decide +kernel
theorem dX7_putNow_42 : decode cX7_putNow 42 = .ok (.iadd, 1) := by decide +kernel
theorem dX7_putNow_43 : decode cX7_putNow 43 = .ok (.iconst 1, 1) := by decide +kernel
theorem dX7_putNow_44 : decode cX7_putNow 44 = .ok (.iadd, 1) := by decide +kernel
theorem dX7_putNow_45 : decode cX7_putNow 45 = .ok (.iaload, 1) := by decide +kernel
theorem dX7_putNow_46 : decode cX7_putNow 46 = .ok (.imul, 1) := by decide +kernel
theorem dX7_putNow_47 : decode cX7_putNow 47 = .ok (.iload 6, 2) := by decide +kernel
theorem dX7_putNow_49 : decode cX7_putNow 49 = .ok (.imul, 1) := by decide +kernel
theorem dX7_putNow_50 : decode cX7_putNow 50 = .ok (.sipush 1000, 3) := by decide +kernel
theorem dX7_putNow_53 : decode cX7_putNow 53 = .ok (.idiv, 1) := by decide +kernel
theorem dX7_putNow_54 : decode cX7_putNow 54 = .ok (.isub, 1) := by decide +kernel
theorem dX7_putNow_55 : decode cX7_putNow 55 = .ok (.istore 7, 2) := by decide +kernel
theorem dX7_putNow_57 : decode cX7_putNow 57 = .ok (.iload 6, 2) := by decide +kernel
theorem dX7_putNow_59 : decode cX7_putNow 59 = .ok (.bipush 9, 2) := by decide +kernel
theorem dX7_putNow_61 : decode cX7_putNow 61 = .ok (.if_icmp .ne 11, 3) := by decide +kernel
theorem dX7_putNow_64 : decode cX7_putNow 64 = .ok (.iload 7, 2) := by decide +kernel
theorem dX7_putNow_66 : decode cX7_putNow 66 = .ok (.bipush 10, 2) := by decide +kernel
theorem dX7_putNow_68 : decode cX7_putNow 68 = .ok (.idiv, 1) := by decide +kernel
theorem dX7_putNow_69 : decode cX7_putNow 69 = .ok (.goto 5, 3) := by decide +kernel
theorem dX7_putNow_72 : decode cX7_putNow 72 = .ok (.iload 7, 2) := by decide +kernel
theorem dX7_putNow_74 : decode cX7_putNow 74 = .ok (.istore 7, 2) := by decide +kernel
theorem dX7_putNow_76 : decode cX7_putNow 76 = .ok (.aload_n 0, 1) := by decide +kernel
theorem dX7_putNow_77 : decode cX7_putNow 77 = .ok (.iload 4, 2) := by decide +kernel
theorem dX7_putNow_79 : decode cX7_putNow 79 = .ok (.iconst 0, 1) := by decide +kernel
theorem dX7_putNow_80 : decode cX7_putNow 80 = .ok (.iload_n 3, 1) := by decide +kernel
theorem dX7_putNow_81 : decode cX7_putNow 81 = .ok (.invokevirtual 68, 3) := by decide +kernel
theorem dX7_putNow_84 : decode cX7_putNow 84 = .ok (.aload_n 0, 1) := by decide +kernel
theorem dX7_putNow_85 : decode cX7_putNow 85 = .ok (.iload 4, 2) := by decide +kernel
theorem dX7_putNow_87 : decode cX7_putNow 87 = .ok (.iconst 1, 1) := by decide +kernel
theorem dX7_putNow_88 : decode cX7_putNow 88 = .ok (.iload_n 1, 1) := by decide +kernel
theorem dX7_putNow_89 : decode cX7_putNow 89 = .ok (.invokevirtual 68, 3) := by decide +kernel
theorem dX7_putNow_92 : decode cX7_putNow 92 = .ok (.aload_n 0, 1) := by decide +kernel
theorem dX7_putNow_93 : decode cX7_putNow 93 = .ok (.iload 4, 2) := by decide +kernel
theorem dX7_putNow_95 : decode cX7_putNow 95 = .ok (.iconst 2, 1) := by decide +kernel
theorem dX7_putNow_96 : decode cX7_putNow 96 = .ok (.iload_n 2, 1) := by decide +kernel
theorem dX7_putNow_97 : decode cX7_putNow 97 = .ok (.invokevirtual 68, 3) := by decide +kernel
theorem dX7_putNow_100 : decode cX7_putNow 100 = .ok (.aload_n 0, 1) := by decide +kernel
theorem dX7_putNow_101 : decode cX7_putNow 101 = .ok (.iload 4, 2) := by decide +kernel
theorem dX7_putNow_103 : decode cX7_putNow 103 = .ok (.iconst 3, 1) := by decide +kernel
theorem dX7_putNow_104 : decode cX7_putNow 104 = .ok (.iload 7, 2) := by decide +kernel
theorem dX7_putNow_106 : decode cX7_putNow 106 = .ok (.iconst 1, 1) := by decide +kernel
theorem dX7_putNow_107 : decode cX7_putNow 107 = .ok (.if_icmp .ge 7, 3) := by decide +kernel
theorem dX7_putNow_110 : decode cX7_putNow 110 = .ok (.iconst 1, 1) := by decide +kernel
theorem dX7_putNow_111 : decode cX7_putNow 111 = .ok (.goto 5, 3) := by decide +kernel
theorem dX7_putNow_114 : decode cX7_putNow 114 = .ok (.iload 7, 2) := by decide +kernel
theorem dX7_putNow_116 : decode cX7_putNow 116 = .ok (.invokevirtual 68, 3) := by decide +kernel
theorem dX7_putNow_119 : decode cX7_putNow 119 = .ok (.aload_n 0, 1) := by decide +kernel
theorem dX7_putNow_120 : decode cX7_putNow 120 = .ok (.iload 4, 2) := by decide +kernel
theorem dX7_putNow_122 : decode cX7_putNow 122 = .ok (.iconst 4, 1) := by decide +kernel
theorem dX7_putNow_123 : decode cX7_putNow 123 = .ok (.iconst 0, 1) := by decide +kernel
theorem dX7_putNow_124 : decode cX7_putNow 124 = .ok (.invokevirtual 68, 3) := by decide +kernel
theorem dX7_putNow_127 : decode cX7_putNow 127 = .ok (.aload_n 0, 1) := by decide +kernel
theorem dX7_putNow_128 : decode cX7_putNow 128 = .ok (.iload 4, 2) := by decide +kernel
theorem dX7_putNow_130 : decode cX7_putNow 130 = .ok (.iconst 5, 1) := by decide +kernel
theorem dX7_putNow_131 : decode cX7_putNow 131 = .ok (.iconst 0, 1) := by decide +kernel
theorem dX7_putNow_132 : decode cX7_putNow 132 = .ok (.invokevirtual 68, 3) := by decide +kernel
theorem dX7_putNow_135 : decode cX7_putNow 135 = .ok (.aload_n 0, 1) := by decide +kernel
theorem dX7_putNow_136 : decode cX7_putNow 136 = .ok (.iload 4, 2) := by decide +kernel
theorem dX7_putNow_138 : decode cX7_putNow 138 = .ok (.bipush 6, 2) := by decide +kernel
theorem dX7_putNow_140 : decode cX7_putNow 140 = .ok (.sipush (-1005), 3) := by decide +kernel
theorem dX7_putNow_143 : decode cX7_putNow 143 = .ok (.invokevirtual 68, 3) := by decide +kernel
theorem dX7_putNow_146 : decode cX7_putNow 146 = .ok (.aload_n 0, 1) := by decide +kernel
theorem dX7_putNow_147 : decode cX7_putNow 147 = .ok (.iload 4, 2) := by decide +kernel
theorem dX7_putNow_149 : decode cX7_putNow 149 = .ok (.bipush 7, 2) := by decide +kernel
theorem dX7_putNow_151 : decode cX7_putNow 151 = .ok (.iload 6, 2) := by decide +kernel
theorem dX7_putNow_153 : decode cX7_putNow 153 = .ok (.bipush 9, 2) := by decide +kernel
theorem dX7_putNow_155 : decode cX7_putNow 155 = .ok (.if_icmp .ne 7, 3) := by decide +kernel
theorem dX7_putNow_158 : decode cX7_putNow 158 = .ok (.iconst 1, 1) := by decide +kernel
theorem dX7_putNow_159 : decode cX7_putNow 159 = .ok (.goto 4, 3) := by decide +kernel
theorem dX7_putNow_162 : decode cX7_putNow 162 = .ok (.iconst 0, 1) := by decide +kernel
theorem dX7_putNow_163 : decode cX7_putNow 163 = .ok (.invokevirtual 68, 3) := by decide +kernel
theorem dX7_putNow_166 : decode cX7_putNow 166 = .ok (.aload_n 0, 1) := by decide +kernel
theorem dX7_putNow_167 : decode cX7_putNow 167 = .ok (.getfield 7, 3) := by decide +kernel
theorem dX7_putNow_170 : decode cX7_putNow 170 = .ok (.iconst 3, 1) := by decide +kernel
theorem dX7_putNow_171 : decode cX7_putNow 171 = .ok (.dup2, 1) := by decide +kernel
theorem dX7_putNow_172 : decode cX7_putNow 172 = .ok (.iaload, 1) := by decide +kernel
theorem dX7_putNow_173 : decode cX7_putNow 173 = .ok (.iconst 1, 1) := by decide +kernel
theorem dX7_putNow_174 : decode cX7_putNow 174 = .ok (.iadd, 1) := by decide +kernel
theorem dX7_putNow_175 : decode cX7_putNow 175 = .ok (.iastore, 1) := by decide +kernel
theorem dX7_putNow_176 : decode cX7_putNow 176 = .ok (.iload 4, 2) := by decide +kernel
theorem dX7_putNow_178 : decode cX7_putNow 178 = .ok (.ireturn, 1) := by decide +kernel
set_option maxRecDepth 20000 in
theorem ggX7_put_X7_whyNotPut : GoodIn wsX7_put wsX7_whyNotPut := goodIn_r _ [5, 6, 7, 8, 4, 9, 10, 11, 12, 13, 14, 15, 16, 17, 18, 19, 20, 21, 22, 23, 24, 25, 26, 48, 49, 50, 51, 52, 53, 54, 55, 56, 57, 58, 59, 60] (by decide +kernel) (by decide +kernel)
set_option maxRecDepth 20000 in
theorem gX7_put_X7_whyNotPut : GoodIn wsX7_put (wsV RX7 72 RX7 yX7_whyNotPut wsX7_whyNotPut) := goodIn_app (goodIn_of _ (by decide +kernel)) ggX7_put_X7_whyNotPut
set_option maxRecDepth 20000 in
theorem ggX7_put_X7_record : GoodIn wsX7_put wsX7_record := goodIn_r _ [30, 6, 31, 32, 33, 4, 34, 35, 36, 37, 38, 39, 48, 49, 50, 51, 52, 53, 54, 55, 56, 57, 58, 59, 60] (by decide +kernel) (by decide +kernel)
set_option maxRecDepth 20000 in
theorem gX7_put_X7_record : GoodIn wsX7_put (wsV RX7 52 RX7 yX7_record wsX7_record) := goodIn_app (goodIn_of _ (by decide +kernel)) ggX7_put_X7_record
set_option maxRecDepth 20000 in
theorem ggX7_put_X7_putNow : GoodIn wsX7_put wsX7_putNow := goodIn_r _ [43, 6, 44, 45, 46, 4, 47, 48, 49, 50, 51, 52, 53, 54, 55, 56, 57, 58, 59, 60] (by decide +kernel) (by decide +kernel)
set_option maxRecDepth 20000 in
theorem gX7_put_X7_putNow : GoodIn wsX7_put (wsV RX7 76 RX7 yX7_putNow wsX7_putNow) := goodIn_app (goodIn_of _ (by decide +kernel)) ggX7_put_X7_putNow
theorem dX7_put_0 : decode cX7_put 0 = .ok (.aload_n 0, 1) := by decide +kernel
theorem dX7_put_1 : decode cX7_put 1 = .ok (.iload_n 1, 1) := by decide +kernel
theorem dX7_put_2 : decode cX7_put 2 = .ok (.iload_n 2, 1) := by decide +kernel
theorem dX7_put_3 : decode cX7_put 3 = .ok (.iload_n 3, 1) := by decide +kernel
theorem dX7_put_4 : decode cX7_put 4 = .ok (.invokevirtual 72, 3) := by decide +kernel
theorem dX7_put_7 : decode cX7_put 7 = .ok (.istore 4, 2) := by decide +kernel
theorem dX7_put_9 : decode cX7_put 9 = .ok (.iload 4, 2) := by decide +kernel
theorem dX7_put_11 : decode cX7_put 11 = .ok (.ifCond .ge 6, 3) := by decide +kernel
theorem dX7_put_14 : decode cX7_put 14 = .ok (.iload 4, 2) := by decide +kernel
theorem dX7_put_16 : decode cX7_put 16 = .ok (.ireturn, 1) := by decide +kernel
theorem dX7_put_17 : decode cX7_put 17 = .ok (.aload_n 0, 1) := by decide +kernel
theorem dX7_put_18 : decode cX7_put 18 = .ok (.invokevirtual 52, 3) := by decide +kernel
theorem dX7_put_21 : decode cX7_put 21 = .ok (.aload_n 0, 1) := by decide +kernel
theorem dX7_put_22 : decode cX7_put 22 = .ok (.iload_n 1, 1) := by decide +kernel
theorem dX7_put_23 : decode cX7_put 23 = .ok (.iload_n 2, 1) := by decide +kernel
theorem dX7_put_24 : decode cX7_put 24 = .ok (.iload_n 3, 1) := by decide +kernel
theorem dX7_put_25 : decode cX7_put 25 = .ok (.invokevirtual 76, 3) := by decide +kernel
theorem dX7_put_28 : decode cX7_put 28 = .ok (.ireturn, 1) := by decide +kernel
set_option maxRecDepth 20000 in
theorem ggX7_moveTo_X7_lay : GoodIn wsX7_moveTo wsX7_lay := goodIn_r _ [5, 6, 7, 8, 9, 10, 11, 12, 13, 14, 15, 16, 17, 18, 19] (by decide +kernel) (by decide +kernel)
set_option maxRecDepth 20000 in
theorem gX7_moveTo_X7_lay : GoodIn wsX7_moveTo (wsV RX7 68 RX7 yX7_lay wsX7_lay) := goodIn_app (goodIn_of _ (by decide +kernel)) ggX7_moveTo_X7_lay
theorem dX7_moveTo_0 : decode cX7_moveTo 0 = .ok (.iload_n 1, 1) := by decide +kernel
theorem dX7_moveTo_1 : decode cX7_moveTo 1 = .ok (.sipush (-1005), 3) := by decide +kernel
theorem dX7_moveTo_4 : decode cX7_moveTo 4 = .ok (.if_icmp .eq 17, 3) := by decide +kernel
theorem dX7_moveTo_7 : decode cX7_moveTo 7 = .ok (.aload_n 0, 1) := by decide +kernel
theorem dX7_moveTo_8 : decode cX7_moveTo 8 = .ok (.iload_n 1, 1) := by decide +kernel
theorem dX7_moveTo_9 : decode cX7_moveTo 9 = .ok (.iconst 1, 1) := by decide +kernel
theorem dX7_moveTo_10 : decode cX7_moveTo 10 = .ok (.iload_n 2, 1) := by decide +kernel
theorem dX7_moveTo_11 : decode cX7_moveTo 11 = .ok (.invokevirtual 68, 3) := by decide +kernel
theorem dX7_moveTo_14 : decode cX7_moveTo 14 = .ok (.aload_n 0, 1) := by decide +kernel
theorem dX7_moveTo_15 : decode cX7_moveTo 15 = .ok (.iload_n 1, 1) := by decide +kernel
theorem dX7_moveTo_16 : decode cX7_moveTo 16 = .ok (.iconst 2, 1) := by decide +kernel
theorem dX7_moveTo_17 : decode cX7_moveTo 17 = .ok (.iload_n 3, 1) := by decide +kernel
theorem dX7_moveTo_18 : decode cX7_moveTo 18 = .ok (.invokevirtual 68, 3) := by decide +kernel
theorem dX7_moveTo_21 : decode cX7_moveTo 21 = .ok (.return_, 1) := by decide +kernel
set_option maxRecDepth 20000 in
theorem ggX7_takeOut_X7_isRack : GoodIn wsX7_takeOut wsX7_isRack := goodIn_r _ [4, 5, 6, 3, 7] (by decide +kernel) (by decide +kernel)
set_option maxRecDepth 20000 in
theorem gX7_takeOut_X7_isRack : GoodIn wsX7_takeOut (va_wsS RX7 59 yX7_isRack wsX7_isRack) := goodIn_app (goodIn_of _ (by decide +kernel)) ggX7_takeOut_X7_isRack
set_option maxRecDepth 20000 in
theorem ggX7_takeOut_X7_isPlace : GoodIn wsX7_takeOut wsX7_isPlace := goodIn_r _ [10, 5, 6, 3, 7] (by decide +kernel) (by decide +kernel)
set_option maxRecDepth 20000 in
theorem gX7_takeOut_X7_isPlace : GoodIn wsX7_takeOut (va_wsS RX7 62 yX7_isPlace wsX7_isPlace) := goodIn_app (goodIn_of _ (by decide +kernel)) ggX7_takeOut_X7_isPlace
set_option maxRecDepth 20000 in
theorem ggX7_takeOut_X7_lampAt : GoodIn wsX7_takeOut wsX7_lampAt := goodIn_r _ [14, 15, 16, 17, 18, 3, 19, 41, 42, 43, 44, 45, 46, 47, 48, 49, 50, 51, 52, 53] (by decide +kernel) (by decide +kernel)
set_option maxRecDepth 20000 in
theorem gX7_takeOut_X7_lampAt : GoodIn wsX7_takeOut (wsV RX7 65 RX7 yX7_lampAt wsX7_lampAt) := goodIn_app (goodIn_of _ (by decide +kernel)) ggX7_takeOut_X7_lampAt
set_option maxRecDepth 20000 in
theorem ggX7_takeOut_X7_record : GoodIn wsX7_takeOut wsX7_record := goodIn_r _ [23, 15, 24, 25, 26, 3, 27, 28, 29, 30, 31, 32, 41, 42, 43, 44, 45, 46, 47, 48, 49, 50, 51, 52, 53] (by decide +kernel) (by decide +kernel)
set_option maxRecDepth 20000 in
theorem gX7_takeOut_X7_record : GoodIn wsX7_takeOut (wsV RX7 52 RX7 yX7_record wsX7_record) := goodIn_app (goodIn_of _ (by decide +kernel)) ggX7_takeOut_X7_record
set_option maxRecDepth 20000 in
theorem ggX7_takeOut_X7_moveTo : GoodIn wsX7_takeOut wsX7_moveTo := goodIn_r _ [36, 37, 38, 39, 3, 40, 15, 41, 42, 43, 44, 45, 46, 47, 48, 49, 50, 51, 52, 53] (by decide +kernel) (by decide +kernel)
set_option maxRecDepth 20000 in
theorem gX7_takeOut_X7_moveTo : GoodIn wsX7_takeOut (wsV RX7 79 RX7 yX7_moveTo wsX7_moveTo) := goodIn_app (goodIn_of _ (by decide +kernel)) ggX7_takeOut_X7_moveTo
theorem dX7_takeOut_0 : decode cX7_takeOut 0 = .ok (.iload_n 1, 1) := by decide +kernel
theorem dX7_takeOut_1 : decode cX7_takeOut 1 = .ok (.invokestatic 59, 3) := by decide +kernel
theorem dX7_takeOut_4 : decode cX7_takeOut 4 = .ok (.ifCond .eq 10, 3) := by decide +kernel
theorem dX7_takeOut_7 : decode cX7_takeOut 7 = .ok (.iload_n 2, 1) := by decide +kernel
theorem dX7_takeOut_8 : decode cX7_takeOut 8 = .ok (.invokestatic 62, 3) := by decide +kernel
theorem dX7_takeOut_11 : decode cX7_takeOut 11 = .ok (.ifCond .ne 7, 3) := by decide +kernel
theorem dX7_takeOut_14 : decode cX7_takeOut 14 = .ok (.sipush (-1001), 3) := by decide +kernel
theorem dX7_takeOut_17 : decode cX7_takeOut 17 = .ok (.ireturn, 1) := by decide +kernel
theorem dX7_takeOut_18 : decode cX7_takeOut 18 = .ok (.aload_n 0, 1) := by decide +kernel
theorem dX7_takeOut_19 : decode cX7_takeOut 19 = .ok (.iload_n 1, 1) := by decide +kernel
theorem dX7_takeOut_20 : decode cX7_takeOut 20 = .ok (.iload_n 2, 1) := by decide +kernel
theorem dX7_takeOut_21 : decode cX7_takeOut 21 = .ok (.invokevirtual 65, 3) := by decide +kernel
theorem dX7_takeOut_24 : decode cX7_takeOut 24 = .ok (.istore_n 3, 1) := by decide +kernel
theorem dX7_takeOut_25 : decode cX7_takeOut 25 = .ok (.iload_n 3, 1) := by decide +kernel
theorem dX7_takeOut_26 : decode cX7_takeOut 26 = .ok (.sipush (-1005), 3) := by decide +kernel
theorem dX7_takeOut_29 : decode cX7_takeOut 29 = .ok (.if_icmp .ne 7, 3) := by decide +kernel
theorem dX7_takeOut_32 : decode cX7_takeOut 32 = .ok (.sipush (-1005), 3) := by decide +kernel
theorem dX7_takeOut_35 : decode cX7_takeOut 35 = .ok (.ireturn, 1) := by decide +kernel
theorem dX7_takeOut_36 : decode cX7_takeOut 36 = .ok (.aload_n 0, 1) := by decide +kernel
theorem dX7_takeOut_37 : decode cX7_takeOut 37 = .ok (.invokevirtual 52, 3) := by decide +kernel
theorem dX7_takeOut_40 : decode cX7_takeOut 40 = .ok (.aload_n 0, 1) := by decide +kernel
theorem dX7_takeOut_41 : decode cX7_takeOut 41 = .ok (.iload_n 3, 1) := by decide +kernel
theorem dX7_takeOut_42 : decode cX7_takeOut 42 = .ok (.sipush (-1005), 3) := by decide +kernel
theorem dX7_takeOut_45 : decode cX7_takeOut 45 = .ok (.sipush (-1005), 3) := by decide +kernel
theorem dX7_takeOut_48 : decode cX7_takeOut 48 = .ok (.invokevirtual 79, 3) := by decide +kernel
theorem dX7_takeOut_51 : decode cX7_takeOut 51 = .ok (.iload_n 3, 1) := by decide +kernel
theorem dX7_takeOut_52 : decode cX7_takeOut 52 = .ok (.ireturn, 1) := by decide +kernel
set_option maxRecDepth 20000 in
theorem ggX7_swap_X7_isRack : GoodIn wsX7_swap wsX7_isRack := goodIn_r _ [4, 5, 6, 3, 7] (by decide +kernel) (by decide +kernel)
set_option maxRecDepth 20000 in
theorem gX7_swap_X7_isRack : GoodIn wsX7_swap (va_wsS RX7 59 yX7_isRack wsX7_isRack) := goodIn_app (goodIn_of _ (by decide +kernel)) ggX7_swap_X7_isRack
set_option maxRecDepth 20000 in
theorem ggX7_swap_X7_isPlace : GoodIn wsX7_swap wsX7_isPlace := goodIn_r _ [10, 5, 6, 3, 7] (by decide +kernel) (by decide +kernel)
set_option maxRecDepth 20000 in
theorem gX7_swap_X7_isPlace : GoodIn wsX7_swap (va_wsS RX7 62 yX7_isPlace wsX7_isPlace) := goodIn_app (goodIn_of _ (by decide +kernel)) ggX7_swap_X7_isPlace
set_option maxRecDepth 20000 in
theorem ggX7_swap_X7_lampAt : GoodIn wsX7_swap wsX7_lampAt := goodIn_r _ [14, 15, 16, 17, 18, 3, 19, 41, 42, 43, 44, 45, 46, 47, 48, 49, 50, 51, 52, 53] (by decide +kernel) (by decide +kernel)
set_option maxRecDepth 20000 in
theorem gX7_swap_X7_lampAt : GoodIn wsX7_swap (wsV RX7 65 RX7 yX7_lampAt wsX7_lampAt) := goodIn_app (goodIn_of _ (by decide +kernel)) ggX7_swap_X7_lampAt
set_option maxRecDepth 20000 in
theorem ggX7_swap_X7_record : GoodIn wsX7_swap wsX7_record := goodIn_r _ [23, 15, 24, 25, 26, 3, 27, 28, 29, 30, 31, 32, 41, 42, 43, 44, 45, 46, 47, 48, 49, 50, 51, 52, 53] (by decide +kernel) (by decide +kernel)
set_option maxRecDepth 20000 in
theorem gX7_swap_X7_record : GoodIn wsX7_swap (wsV RX7 52 RX7 yX7_record wsX7_record) := goodIn_app (goodIn_of _ (by decide +kernel)) ggX7_swap_X7_record
set_option maxRecDepth 20000 in
theorem ggX7_swap_X7_moveTo : GoodIn wsX7_swap wsX7_moveTo := goodIn_r _ [36, 37, 38, 39, 3, 40, 15, 41, 42, 43, 44, 45, 46, 47, 48, 49, 50, 51, 52, 53] (by decide +kernel) (by decide +kernel)
set_option maxRecDepth 20000 in
theorem gX7_swap_X7_moveTo : GoodIn wsX7_swap (wsV RX7 79 RX7 yX7_moveTo wsX7_moveTo) := goodIn_app (goodIn_of _ (by decide +kernel)) ggX7_swap_X7_moveTo
theorem dX7_swap_0 : decode cX7_swap 0 = .ok (.iload_n 1, 1) := by decide +kernel
theorem dX7_swap_1 : decode cX7_swap 1 = .ok (.invokestatic 59, 3) := by decide +kernel
theorem dX7_swap_4 : decode cX7_swap 4 = .ok (.ifCond .eq 25, 3) := by decide +kernel
theorem dX7_swap_7 : decode cX7_swap 7 = .ok (.iload_n 2, 1) := by decide +kernel
theorem dX7_swap_8 : decode cX7_swap 8 = .ok (.invokestatic 62, 3) := by decide +kernel
theorem dX7_swap_11 : decode cX7_swap 11 = .ok (.ifCond .eq 18, 3) := by decide +kernel
theorem dX7_swap_14 : decode cX7_swap 14 = .ok (.iload_n 3, 1) := by decide +kernel
theorem dX7_swap_15 : decode cX7_swap 15 = .ok (.invokestatic 59, 3) := by decide +kernel
theorem dX7_swap_18 : decode cX7_swap 18 = .ok (.ifCond .eq 11, 3) := by decide +kernel
theorem dX7_swap_21 : decode cX7_swap 21 = .ok (.iload 4, 2) := by decide +kernel
theorem dX7_swap_23 : decode cX7_swap 23 = .ok (.invokestatic 62, 3) := by decide +kernel
theorem dX7_swap_26 : decode cX7_swap 26 = .ok (.ifCond .ne 7, 3) := by decide +kernel
theorem dX7_swap_29 : decode cX7_swap 29 = .ok (.sipush (-1001), 3) := by decide +kernel
theorem dX7_swap_32 : decode cX7_swap 32 = .ok (.ireturn, 1) := by decide +kernel
theorem dX7_swap_33 : decode cX7_swap 33 = .ok (.aload_n 0, 1) := by decide +kernel
theorem dX7_swap_34 : decode cX7_swap 34 = .ok (.iload_n 1, 1) := by decide +kernel
theorem dX7_swap_35 : decode cX7_swap 35 = .ok (.iload_n 2, 1) := by decide +kernel
theorem dX7_swap_36 : decode cX7_swap 36 = .ok (.invokevirtual 65, 3) := by decide +kernel
theorem dX7_swap_39 : decode cX7_swap 39 = .ok (.istore 5, 2) := by decide +kernel
theorem dX7_swap_41 : decode cX7_swap 41 = .ok (.aload_n 0, 1) := by decide +kernel
theorem dX7_swap_42 : decode cX7_swap 42 = .ok (.iload_n 3, 1) := by decide +kernel
theorem dX7_swap_43 : decode cX7_swap 43 = .ok (.iload 4, 2) := by decide +kernel
theorem dX7_swap_45 : decode cX7_swap 45 = .ok (.invokevirtual 65, 3) := by decide +kernel
theorem dX7_swap_48 : decode cX7_swap 48 = .ok (.istore 6, 2) := by decide +kernel
theorem dX7_swap_50 : decode cX7_swap 50 = .ok (.iload 5, 2) := by decide +kernel
theorem dX7_swap_52 : decode cX7_swap 52 = .ok (.sipush (-1005), 3) := by decide +kernel
theorem dX7_swap_55 : decode cX7_swap 55 = .ok (.if_icmp .ne 7, 3) := by decide +kernel
theorem dX7_swap_58 : decode cX7_swap 58 = .ok (.iconst 0, 1) := by decide +kernel
theorem dX7_swap_59 : decode cX7_swap 59 = .ok (.goto 4, 3) := by decide +kernel
theorem dX7_swap_62 : decode cX7_swap 62 = .ok (.iconst 1, 1) := by decide +kernel
theorem dX7_swap_63 : decode cX7_swap 63 = .ok (.iload 6, 2) := by decide +kernel
theorem dX7_swap_65 : decode cX7_swap 65 = .ok (.sipush (-1005), 3) := by decide +kernel
theorem dX7_swap_68 : decode cX7_swap 68 = .ok (.if_icmp .ne 7, 3) := by decide +kernel
theorem dX7_swap_71 : decode cX7_swap 71 = .ok (.iconst 0, 1) := by decide +kernel
theorem dX7_swap_72 : decode cX7_swap 72 = .ok (.goto 4, 3) := by decide +kernel
theorem dX7_swap_75 : decode cX7_swap 75 = .ok (.iconst 1, 1) := by decide +kernel
theorem dX7_swap_76 : decode cX7_swap 76 = .ok (.iadd, 1) := by decide +kernel
theorem dX7_swap_77 : decode cX7_swap 77 = .ok (.istore 7, 2) := by decide +kernel
theorem dX7_swap_79 : decode cX7_swap 79 = .ok (.iload 7, 2) := by decide +kernel
theorem dX7_swap_81 : decode cX7_swap 81 = .ok (.ifCond .eq 14, 3) := by decide +kernel
theorem dX7_swap_84 : decode cX7_swap 84 = .ok (.iload_n 1, 1) := by decide +kernel
theorem dX7_swap_85 : decode cX7_swap 85 = .ok (.iload_n 3, 1) := by decide +kernel
theorem dX7_swap_86 : decode cX7_swap 86 = .ok (.if_icmp .ne 13, 3) := by decide +kernel
theorem dX7_swap_89 : decode cX7_swap 89 = .ok (.iload_n 2, 1) := by decide +kernel
theorem dX7_swap_90 : decode cX7_swap 90 = .ok (.iload 4, 2) := by decide +kernel
theorem dX7_swap_92 : decode cX7_swap 92 = .ok (.if_icmp .ne 7, 3) := by decide +kernel
theorem dX7_swap_95 : decode cX7_swap 95 = .ok (.sipush (-1005), 3) := by decide +kernel
theorem dX7_swap_98 : decode cX7_swap 98 = .ok (.ireturn, 1) := by decide +kernel
theorem dX7_swap_99 : decode cX7_swap 99 = .ok (.aload_n 0, 1) := by decide +kernel
theorem dX7_swap_100 : decode cX7_swap 100 = .ok (.invokevirtual 52, 3) := by decide +kernel
theorem dX7_swap_103 : decode cX7_swap 103 = .ok (.aload_n 0, 1) := by decide +kernel
theorem dX7_swap_104 : decode cX7_swap 104 = .ok (.iload 5, 2) := by decide +kernel
theorem dX7_swap_106 : decode cX7_swap 106 = .ok (.iload_n 3, 1) := by decide +kernel
theorem dX7_swap_107 : decode cX7_swap 107 = .ok (.iload 4, 2) := by decide +kernel
theorem dX7_swap_109 : decode cX7_swap 109 = .ok (.invokevirtual 79, 3) := by decide +kernel
theorem dX7_swap_112 : decode cX7_swap 112 = .ok (.aload_n 0, 1) := by decide +kernel
theorem dX7_swap_113 : decode cX7_swap 113 = .ok (.iload 6, 2) := by decide +kernel
theorem dX7_swap_115 : decode cX7_swap 115 = .ok (.iload_n 1, 1) := by decide +kernel
theorem dX7_swap_116 : decode cX7_swap 116 = .ok (.iload_n 2, 1) := by decide +kernel
theorem dX7_swap_117 : decode cX7_swap 117 = .ok (.invokevirtual 79, 3) := by decide +kernel
theorem dX7_swap_120 : decode cX7_swap 120 = .ok (.iload 7, 2) := by decide +kernel
theorem dX7_swap_122 : decode cX7_swap 122 = .ok (.ireturn, 1) := by decide +kernel
set_option maxRecDepth 20000 in
theorem ggX7_whyNotVolts_X7_isRack : GoodIn wsX7_whyNotVolts wsX7_isRack := goodIn_r _ [4, 5, 6, 3, 7] (by decide +kernel) (by decide +kernel)
set_option maxRecDepth 20000 in
theorem gX7_whyNotVolts_X7_isRack : GoodIn wsX7_whyNotVolts (va_wsS RX7 59 yX7_isRack wsX7_isRack) := goodIn_app (goodIn_of _ (by decide +kernel)) ggX7_whyNotVolts_X7_isRack
set_option maxRecDepth 20000 in
theorem ggX7_whyNotVolts_X7_in : GoodIn wsX7_whyNotVolts wsX7_in := goodIn_r _ [7] (by decide +kernel) (by decide +kernel)
set_option maxRecDepth 20000 in
theorem gX7_whyNotVolts_X7_in : GoodIn wsX7_whyNotVolts (va_wsS RX7 28 yX7_in wsX7_in) := goodIn_app (goodIn_of _ (by decide +kernel)) ggX7_whyNotVolts_X7_in
theorem dX7_whyNotVolts_0 : decode cX7_whyNotVolts 0 = .ok (.iload_n 1, 1) := by decide +kernel
theorem dX7_whyNotVolts_1 : decode cX7_whyNotVolts 1 = .ok (.invokestatic 59, 3) := by decide +kernel
theorem dX7_whyNotVolts_4 : decode cX7_whyNotVolts 4 = .ok (.ifCond .ne 9, 3) := by decide +kernel
theorem dX7_whyNotVolts_7 : decode cX7_whyNotVolts 7 = .ok (.sipush (-1001), 3) := by decide +kernel
theorem dX7_whyNotVolts_10 : decode cX7_whyNotVolts 10 = .ok (.goto 21, 3) := by decide +kernel
theorem dX7_whyNotVolts_13 : decode cX7_whyNotVolts 13 = .ok (.iload_n 2, 1) := by decide +kernel
theorem dX7_whyNotVolts_14 : decode cX7_whyNotVolts 14 = .ok (.iconst 0, 1) := by decide +kernel
theorem dX7_whyNotVolts_15 : decode cX7_whyNotVolts 15 = .ok (.sipush 300, 3) := by decide +kernel
theorem dX7_whyNotVolts_18 : decode cX7_whyNotVolts 18 = .ok (.invokestatic 28, 3) := by decide +kernel
theorem dX7_whyNotVolts_21 : decode cX7_whyNotVolts 21 = .ok (.ifCond .eq 7, 3) := by decide +kernel
theorem dX7_whyNotVolts_24 : decode cX7_whyNotVolts 24 = .ok (.iconst 0, 1) := by decide +kernel
theorem dX7_whyNotVolts_25 : decode cX7_whyNotVolts 25 = .ok (.goto 6, 3) := by decide +kernel
theorem dX7_whyNotVolts_28 : decode cX7_whyNotVolts 28 = .ok (.sipush (-1002), 3) := by decide +kernel
theorem dX7_whyNotVolts_31 : decode cX7_whyNotVolts 31 = .ok (.ireturn, 1) := by decide +kernel
set_option maxRecDepth 20000 in
theorem ggX7_setVolts_X7_whyNotVolts : GoodIn wsX7_setVolts wsX7_whyNotVolts := goodIn_r _ [6, 7, 8, 5, 9, 10, 11, 12] (by decide +kernel) (by decide +kernel)
set_option maxRecDepth 20000 in
theorem gX7_setVolts_X7_whyNotVolts : GoodIn wsX7_setVolts (wsV RX7 82 RX7 yX7_whyNotVolts wsX7_whyNotVolts) := goodIn_app (goodIn_of _ (by decide +kernel)) ggX7_setVolts_X7_whyNotVolts
set_option maxRecDepth 20000 in
theorem ggX7_setVolts_X7_ofRack : GoodIn wsX7_setVolts wsX7_ofRack := goodIn_r _ [16, 1, 30, 31, 32, 33, 34, 35, 36, 37, 38, 39, 40, 41, 42] (by decide +kernel) (by decide +kernel)
set_option maxRecDepth 20000 in
theorem gX7_setVolts_X7_ofRack : GoodIn wsX7_setVolts (wsV RX7 85 RX7 yX7_ofRack wsX7_ofRack) := goodIn_app (goodIn_of _ (by decide +kernel)) ggX7_setVolts_X7_ofRack
set_option maxRecDepth 20000 in
theorem ggX7_setVolts_X7_record : GoodIn wsX7_setVolts wsX7_record := goodIn_r _ [20, 1, 21, 22, 23, 5, 24, 25, 26, 27, 28, 29, 30, 31, 32, 33, 34, 35, 36, 37, 38, 39, 40, 41, 42] (by decide +kernel) (by decide +kernel)
set_option maxRecDepth 20000 in
theorem gX7_setVolts_X7_record : GoodIn wsX7_setVolts (wsV RX7 52 RX7 yX7_record wsX7_record) := goodIn_app (goodIn_of _ (by decide +kernel)) ggX7_setVolts_X7_record
theorem dX7_setVolts_0 : decode cX7_setVolts 0 = .ok (.aload_n 0, 1) := by decide +kernel
theorem dX7_setVolts_1 : decode cX7_setVolts 1 = .ok (.iload_n 1, 1) := by decide +kernel
theorem dX7_setVolts_2 : decode cX7_setVolts 2 = .ok (.iload_n 2, 1) := by decide +kernel
theorem dX7_setVolts_3 : decode cX7_setVolts 3 = .ok (.invokevirtual 82, 3) := by decide +kernel
theorem dX7_setVolts_6 : decode cX7_setVolts 6 = .ok (.istore_n 3, 1) := by decide +kernel
theorem dX7_setVolts_7 : decode cX7_setVolts 7 = .ok (.iload_n 3, 1) := by decide +kernel
theorem dX7_setVolts_8 : decode cX7_setVolts 8 = .ok (.ifCond .ge 5, 3) := by decide +kernel
theorem dX7_setVolts_11 : decode cX7_setVolts 11 = .ok (.iload_n 3, 1) := by decide +kernel
theorem dX7_setVolts_12 : decode cX7_setVolts 12 = .ok (.ireturn, 1) := by decide +kernel
theorem dX7_setVolts_13 : decode cX7_setVolts 13 = .ok (.aload_n 0, 1) := by decide +kernel
theorem dX7_setVolts_14 : decode cX7_setVolts 14 = .ok (.iload_n 1, 1) := by decide +kernel
theorem dX7_setVolts_15 : decode cX7_setVolts 15 = .ok (.iconst 0, 1) := by decide +kernel
theorem dX7_setVolts_16 : decode cX7_setVolts 16 = .ok (.invokevirtual 85, 3) := by decide +kernel
theorem dX7_setVolts_19 : decode cX7_setVolts 19 = .ok (.istore 4, 2) := by decide +kernel
theorem dX7_setVolts_21 : decode cX7_setVolts 21 = .ok (.iload 4, 2) := by decide +kernel
theorem dX7_setVolts_23 : decode cX7_setVolts 23 = .ok (.iload_n 2, 1) := by decide +kernel
theorem dX7_setVolts_24 : decode cX7_setVolts 24 = .ok (.if_icmp .ne 7, 3) := by decide +kernel
theorem dX7_setVolts_27 : decode cX7_setVolts 27 = .ok (.sipush (-1005), 3) := by decide +kernel
theorem dX7_setVolts_30 : decode cX7_setVolts 30 = .ok (.ireturn, 1) := by decide +kernel
theorem dX7_setVolts_31 : decode cX7_setVolts 31 = .ok (.aload_n 0, 1) := by decide +kernel
theorem dX7_setVolts_32 : decode cX7_setVolts 32 = .ok (.invokevirtual 52, 3) := by decide +kernel
theorem dX7_setVolts_35 : decode cX7_setVolts 35 = .ok (.aload_n 0, 1) := by decide +kernel
theorem dX7_setVolts_36 : decode cX7_setVolts 36 = .ok (.getfield 7, 3) := by decide +kernel
theorem dX7_setVolts_39 : decode cX7_setVolts 39 = .ok (.bipush 16, 2) := by decide +kernel
theorem dX7_setVolts_41 : decode cX7_setVolts 41 = .ok (.iconst 4, 1) := by decide +kernel
theorem dX7_setVolts_42 : decode cX7_setVolts 42 = .ok (.iload_n 1, 1) := by decide +kernel
theorem dX7_setVolts_43 : decode cX7_setVolts 43 = .ok (.imul, 1) := by decide +kernel
theorem dX7_setVolts_44 : decode cX7_setVolts 44 = .ok (.iadd, 1) := by decide +kernel
theorem dX7_setVolts_45 : decode cX7_setVolts 45 = .ok (.iload_n 2, 1) := by decide +kernel
theorem dX7_setVolts_46 : decode cX7_setVolts 46 = .ok (.iastore, 1) := by decide +kernel
theorem dX7_setVolts_47 : decode cX7_setVolts 47 = .ok (.iload 4, 2) := by decide +kernel
theorem dX7_setVolts_49 : decode cX7_setVolts 49 = .ok (.ireturn, 1) := by decide +kernel
theorem dX7_stepsNow_0 : decode cX7_stepsNow 0 = .ok (.bipush 16, 2) := by decide +kernel
theorem dX7_stepsNow_2 : decode cX7_stepsNow 2 = .ok (.iconst 4, 1) := by decide +kernel
theorem dX7_stepsNow_3 : decode cX7_stepsNow 3 = .ok (.iload_n 1, 1) := by decide +kernel
theorem dX7_stepsNow_4 : decode cX7_stepsNow 4 = .ok (.imul, 1) := by decide +kernel
theorem dX7_stepsNow_5 : decode cX7_stepsNow 5 = .ok (.iadd, 1) := by decide +kernel
theorem dX7_stepsNow_6 : decode cX7_stepsNow 6 = .ok (.istore 4, 2) := by decide +kernel
theorem dX7_stepsNow_8 : decode cX7_stepsNow 8 = .ok (.aload_n 0, 1) := by decide +kernel
theorem dX7_stepsNow_9 : decode cX7_stepsNow 9 = .ok (.getfield 7, 3) := by decide +kernel
theorem dX7_stepsNow_12 : decode cX7_stepsNow 12 = .ok (.iload 4, 2) := by decide +kernel
theorem dX7_stepsNow_14 : decode cX7_stepsNow 14 = .ok (.iconst 1, 1) := by decide +kernel
theorem dX7_stepsNow_15 : decode cX7_stepsNow 15 = .ok (.iadd, 1) := by decide +kernel
theorem dX7_stepsNow_16 : decode cX7_stepsNow 16 = .ok (.iload_n 2, 1) := by decide +kernel
theorem dX7_stepsNow_17 : decode cX7_stepsNow 17 = .ok (.iastore, 1) := by decide +kernel
theorem dX7_stepsNow_18 : decode cX7_stepsNow 18 = .ok (.aload_n 0, 1) := by decide +kernel
theorem dX7_stepsNow_19 : decode cX7_stepsNow 19 = .ok (.getfield 7, 3) := by decide +kernel
theorem dX7_stepsNow_22 : decode cX7_stepsNow 22 = .ok (.iload 4, 2) := by decide +kernel
theorem dX7_stepsNow_24 : decode cX7_stepsNow 24 = .ok (.iconst 2, 1) := by decide +kernel
theorem dX7_stepsNow_25 : decode cX7_stepsNow 25 = .ok (.iadd, 1) := by decide +kernel
theorem dX7_stepsNow_26 : decode cX7_stepsNow 26 = .ok (.iload_n 3, 1) := by decide +kernel
theorem dX7_stepsNow_27 : decode cX7_stepsNow 27 = .ok (.iastore, 1) := by decide +kernel
theorem dX7_stepsNow_28 : decode cX7_stepsNow 28 = .ok (.aload_n 0, 1) := by decide +kernel
theorem dX7_stepsNow_29 : decode cX7_stepsNow 29 = .ok (.getfield 7, 3) := by decide +kernel
theorem dX7_stepsNow_32 : decode cX7_stepsNow 32 = .ok (.iload 4, 2) := by decide +kernel
theorem dX7_stepsNow_34 : decode cX7_stepsNow 34 = .ok (.iconst 3, 1) := by decide +kernel
theorem dX7_stepsNow_35 : decode cX7_stepsNow 35 = .ok (.iadd, 1) := by decide +kernel
theorem dX7_stepsNow_36 : decode cX7_stepsNow 36 = .ok (.iconst 0, 1) := by decide +kernel
theorem dX7_stepsNow_37 : decode cX7_stepsNow 37 = .ok (.iastore, 1) := by decide +kernel
theorem dX7_stepsNow_38 : decode cX7_stepsNow 38 = .ok (.return_, 1) := by decide +kernel
set_option maxRecDepth 20000 in
theorem ggX7_setSteps_X7_isRack : GoodIn wsX7_setSteps wsX7_isRack := goodIn_r _ [4, 5, 6, 3, 7] (by decide +kernel) (by decide +kernel)
set_option maxRecDepth 20000 in
theorem gX7_setSteps_X7_isRack : GoodIn wsX7_setSteps (va_wsS RX7 59 yX7_isRack wsX7_isRack) := goodIn_app (goodIn_of _ (by decide +kernel)) ggX7_setSteps_X7_isRack
set_option maxRecDepth 20000 in
theorem ggX7_setSteps_X7_in : GoodIn wsX7_setSteps wsX7_in := goodIn_r _ [7] (by decide +kernel) (by decide +kernel)
set_option maxRecDepth 20000 in
theorem gX7_setSteps_X7_in : GoodIn wsX7_setSteps (va_wsS RX7 28 yX7_in wsX7_in) := goodIn_app (goodIn_of _ (by decide +kernel)) ggX7_setSteps_X7_in
set_option maxRecDepth 20000 in
theorem ggX7_setSteps_X7_record : GoodIn wsX7_setSteps wsX7_record := goodIn_r _ [11, 12, 13, 14, 15, 3, 16, 17, 18, 19, 20, 21, 30, 31, 32, 33, 34, 35, 36, 37, 38, 39, 40, 41, 42] (by decide +kernel) (by decide +kernel)
set_option maxRecDepth 20000 in
theorem gX7_setSteps_X7_record : GoodIn wsX7_setSteps (wsV RX7 52 RX7 yX7_record wsX7_record) := goodIn_app (goodIn_of _ (by decide +kernel)) ggX7_setSteps_X7_record
set_option maxRecDepth 20000 in
theorem ggX7_setSteps_X7_ofRack : GoodIn wsX7_setSteps wsX7_ofRack := goodIn_r _ [25, 12, 30, 31, 32, 33, 34, 35, 36, 37, 38, 39, 40, 41, 42] (by decide +kernel) (by decide +kernel)
set_option maxRecDepth 20000 in
theorem gX7_setSteps_X7_ofRack : GoodIn wsX7_setSteps (wsV RX7 85 RX7 yX7_ofRack wsX7_ofRack) := goodIn_app (goodIn_of _ (by decide +kernel)) ggX7_setSteps_X7_ofRack
set_option maxRecDepth 20000 in
theorem ggX7_setSteps_X7_stepsNow : GoodIn wsX7_setSteps wsX7_stepsNow := goodIn_r _ [29, 12, 30, 31, 32, 33, 34, 35, 36, 37, 38, 39, 40, 41, 42] (by decide +kernel) (by decide +kernel)
set_option maxRecDepth 20000 in
theorem gX7_setSteps_X7_stepsNow : GoodIn wsX7_setSteps (wsV RX7 88 RX7 yX7_stepsNow wsX7_stepsNow) := goodIn_app (goodIn_of _ (by decide +kernel)) ggX7_setSteps_X7_stepsNow
theorem dX7_setSteps_0 : decode cX7_setSteps 0 = .ok (.iload_n 1, 1) := by decide +kernel
theorem dX7_setSteps_1 : decode cX7_setSteps 1 = .ok (.invokestatic 59, 3) := by decide +kernel
theorem dX7_setSteps_4 : decode cX7_setSteps 4 = .ok (.ifCond .ne 7, 3) := by decide +kernel
theorem dX7_setSteps_7 : decode cX7_setSteps 7 = .ok (.sipush (-1001), 3) := by decide +kernel
theorem dX7_setSteps_10 : decode cX7_setSteps 10 = .ok (.ireturn, 1) := by decide +kernel
theorem dX7_setSteps_11 : decode cX7_setSteps 11 = .ok (.iload_n 2, 1) := by decide +kernel
theorem dX7_setSteps_12 : decode cX7_setSteps 12 = .ok (.iconst 0, 1) := by decide +kernel
theorem dX7_setSteps_13 : decode cX7_setSteps 13 = .ok (.bipush 99, 2) := by decide +kernel
theorem dX7_setSteps_15 : decode cX7_setSteps 15 = .ok (.invokestatic 28, 3) := by decide +kernel
theorem dX7_setSteps_18 : decode cX7_setSteps 18 = .ok (.ifCond .eq 14, 3) := by decide +kernel
theorem dX7_setSteps_21 : decode cX7_setSteps 21 = .ok (.iload_n 3, 1) := by decide +kernel
theorem dX7_setSteps_22 : decode cX7_setSteps 22 = .ok (.bipush (-50), 2) := by decide +kernel
theorem dX7_setSteps_24 : decode cX7_setSteps 24 = .ok (.bipush 50, 2) := by decide +kernel
theorem dX7_setSteps_26 : decode cX7_setSteps 26 = .ok (.invokestatic 28, 3) := by decide +kernel
theorem dX7_setSteps_29 : decode cX7_setSteps 29 = .ok (.ifCond .ne 7, 3) := by decide +kernel
theorem dX7_setSteps_32 : decode cX7_setSteps 32 = .ok (.sipush (-1002), 3) := by decide +kernel
theorem dX7_setSteps_35 : decode cX7_setSteps 35 = .ok (.ireturn, 1) := by decide +kernel
theorem dX7_setSteps_36 : decode cX7_setSteps 36 = .ok (.aload_n 0, 1) := by decide +kernel
theorem dX7_setSteps_37 : decode cX7_setSteps 37 = .ok (.invokevirtual 52, 3) := by decide +kernel
theorem dX7_setSteps_40 : decode cX7_setSteps 40 = .ok (.aload_n 0, 1) := by decide +kernel
theorem dX7_setSteps_41 : decode cX7_setSteps 41 = .ok (.iload_n 1, 1) := by decide +kernel
theorem dX7_setSteps_42 : decode cX7_setSteps 42 = .ok (.iconst 1, 1) := by decide +kernel
theorem dX7_setSteps_43 : decode cX7_setSteps 43 = .ok (.invokevirtual 85, 3) := by decide +kernel
theorem dX7_setSteps_46 : decode cX7_setSteps 46 = .ok (.istore 4, 2) := by decide +kernel
theorem dX7_setSteps_48 : decode cX7_setSteps 48 = .ok (.aload_n 0, 1) := by decide +kernel
theorem dX7_setSteps_49 : decode cX7_setSteps 49 = .ok (.iload_n 1, 1) := by decide +kernel
theorem dX7_setSteps_50 : decode cX7_setSteps 50 = .ok (.iload_n 2, 1) := by decide +kernel
theorem dX7_setSteps_51 : decode cX7_setSteps 51 = .ok (.iload_n 3, 1) := by decide +kernel
theorem dX7_setSteps_52 : decode cX7_setSteps 52 = .ok (.invokevirtual 88, 3) := by decide +kernel
theorem dX7_setSteps_55 : decode cX7_setSteps 55 = .ok (.iload 4, 2) := by decide +kernel
theorem dX7_setSteps_57 : decode cX7_setSteps 57 = .ok (.ireturn, 1) := by decide +kernel
set_option maxRecDepth 20000 in
theorem ggX7_set_X7_in : GoodIn wsX7_set wsX7_in := goodIn_r _ [5] (by decide +kernel) (by decide +kernel)
set_option maxRecDepth 20000 in
theorem gX7_set_X7_in : GoodIn wsX7_set (va_wsS RX7 28 yX7_in wsX7_in) := goodIn_app (goodIn_of _ (by decide +kernel)) ggX7_set_X7_in
set_option maxRecDepth 20000 in
theorem ggX7_set_X7_record : GoodIn wsX7_set wsX7_record := goodIn_r _ [9, 1, 10, 11, 12, 4, 13, 14, 15, 16, 17, 18, 19, 20, 21, 22, 23, 24, 25, 26, 27, 28, 29, 30, 31] (by decide +kernel) (by decide +kernel)
set_option maxRecDepth 20000 in
theorem gX7_set_X7_record : GoodIn wsX7_set (wsV RX7 52 RX7 yX7_record wsX7_record) := goodIn_app (goodIn_of _ (by decide +kernel)) ggX7_set_X7_record
theorem dX7_set_0 : decode cX7_set 0 = .ok (.iload_n 1, 1) := by decide +kernel
theorem dX7_set_1 : decode cX7_set 1 = .ok (.iconst 0, 1) := by decide +kernel
theorem dX7_set_2 : decode cX7_set 2 = .ok (.iconst 1, 1) := by decide +kernel
theorem dX7_set_3 : decode cX7_set 3 = .ok (.invokestatic 28, 3) := by decide +kernel
theorem dX7_set_6 : decode cX7_set 6 = .ok (.ifCond .ne 7, 3) := by decide +kernel
theorem dX7_set_9 : decode cX7_set 9 = .ok (.sipush (-1001), 3) := by decide +kernel
theorem dX7_set_12 : decode cX7_set 12 = .ok (.ireturn, 1) := by decide +kernel
theorem dX7_set_13 : decode cX7_set 13 = .ok (.iload_n 2, 1) := by decide +kernel
theorem dX7_set_14 : decode cX7_set 14 = .ok (.iload_n 1, 1) := by decide +kernel
theorem dX7_set_15 : decode cX7_set 15 = .ok (.ifCond .ne 8, 3) := by decide +kernel
theorem dX7_set_18 : decode cX7_set 18 = .ok (.bipush 100, 2) := by decide +kernel
theorem dX7_set_20 : decode cX7_set 20 = .ok (.goto 4, 3) := by decide +kernel
theorem dX7_set_23 : decode cX7_set 23 = .ok (.iconst 1, 1) := by decide +kernel
theorem dX7_set_24 : decode cX7_set 24 = .ok (.iload_n 1, 1) := by decide +kernel
theorem dX7_set_25 : decode cX7_set 25 = .ok (.ifCond .ne 9, 3) := by decide +kernel
theorem dX7_set_28 : decode cX7_set 28 = .ok (.sipush 300, 3) := by decide +kernel
theorem dX7_set_31 : decode cX7_set 31 = .ok (.goto 5, 3) := by decide +kernel
theorem dX7_set_34 : decode cX7_set 34 = .ok (.bipush 100, 2) := by decide +kernel
theorem dX7_set_36 : decode cX7_set 36 = .ok (.invokestatic 28, 3) := by decide +kernel
theorem dX7_set_39 : decode cX7_set 39 = .ok (.ifCond .ne 7, 3) := by decide +kernel
theorem dX7_set_42 : decode cX7_set 42 = .ok (.sipush (-1002), 3) := by decide +kernel
theorem dX7_set_45 : decode cX7_set 45 = .ok (.ireturn, 1) := by decide +kernel
theorem dX7_set_46 : decode cX7_set 46 = .ok (.aload_n 0, 1) := by decide +kernel
theorem dX7_set_47 : decode cX7_set 47 = .ok (.getfield 7, 3) := by decide +kernel
theorem dX7_set_50 : decode cX7_set 50 = .ok (.iload_n 1, 1) := by decide +kernel
theorem dX7_set_51 : decode cX7_set 51 = .ok (.iaload, 1) := by decide +kernel
theorem dX7_set_52 : decode cX7_set 52 = .ok (.istore_n 3, 1) := by decide +kernel
theorem dX7_set_53 : decode cX7_set 53 = .ok (.iload_n 3, 1) := by decide +kernel
theorem dX7_set_54 : decode cX7_set 54 = .ok (.iload_n 2, 1) := by decide +kernel
theorem dX7_set_55 : decode cX7_set 55 = .ok (.if_icmp .ne 7, 3) := by decide +kernel
theorem dX7_set_58 : decode cX7_set 58 = .ok (.sipush (-1005), 3) := by decide +kernel
theorem dX7_set_61 : decode cX7_set 61 = .ok (.ireturn, 1) := by decide +kernel
theorem dX7_set_62 : decode cX7_set 62 = .ok (.aload_n 0, 1) := by decide +kernel
theorem dX7_set_63 : decode cX7_set 63 = .ok (.invokevirtual 52, 3) := by decide +kernel
theorem dX7_set_66 : decode cX7_set 66 = .ok (.aload_n 0, 1) := by decide +kernel
theorem dX7_set_67 : decode cX7_set 67 = .ok (.getfield 7, 3) := by decide +kernel
theorem dX7_set_70 : decode cX7_set 70 = .ok (.iload_n 1, 1) := by decide +kernel
theorem dX7_set_71 : decode cX7_set 71 = .ok (.iload_n 2, 1) := by decide +kernel
theorem dX7_set_72 : decode cX7_set 72 = .ok (.iastore, 1) := by decide +kernel
theorem dX7_set_73 : decode cX7_set 73 = .ok (.iload_n 3, 1) := by decide +kernel
theorem dX7_set_74 : decode cX7_set 74 = .ok (.ireturn, 1) := by decide +kernel
theorem dX7_wearAt_0 : decode cX7_wearAt 0 = .ok (.bipush 10, 2) := by decide +kernel
theorem dX7_wearAt_2 : decode cX7_wearAt 2 = .ok (.bipush 10, 2) := by decide +kernel
theorem dX7_wearAt_4 : decode cX7_wearAt 4 = .ok (.iload_n 1, 1) := by decide +kernel
theorem dX7_wearAt_5 : decode cX7_wearAt 5 = .ok (.aload_n 0, 1) := by decide +kernel
theorem dX7_wearAt_6 : decode cX7_wearAt 6 = .ok (.getfield 7, 3) := by decide +kernel
theorem dX7_wearAt_9 : decode cX7_wearAt 9 = .ok (.iconst 0, 1) := by decide +kernel
theorem dX7_wearAt_10 : decode cX7_wearAt 10 = .ok (.iaload, 1) := by decide +kernel
theorem dX7_wearAt_11 : decode cX7_wearAt 11 = .ok (.isub, 1) := by decide +kernel
theorem dX7_wearAt_12 : decode cX7_wearAt 12 = .ok (.imul, 1) := by decide +kernel
theorem dX7_wearAt_13 : decode cX7_wearAt 13 = .ok (.aload_n 0, 1) := by decide +kernel
theorem dX7_wearAt_14 : decode cX7_wearAt 14 = .ok (.getfield 7, 3) := by decide +kernel
theorem dX7_wearAt_17 : decode cX7_wearAt 17 = .ok (.iconst 1, 1) := by decide +kernel
theorem dX7_wearAt_18 : decode cX7_wearAt 18 = .ok (.iaload, 1) := by decide +kernel
theorem dX7_wearAt_19 : decode cX7_wearAt 19 = .ok (.idiv, 1) := by decide +kernel
theorem dX7_wearAt_20 : decode cX7_wearAt 20 = .ok (.iadd, 1) := by decide +kernel
theorem dX7_wearAt_21 : decode cX7_wearAt 21 = .ok (.istore_n 3, 1) := by decide +kernel
theorem dX7_wearAt_22 : decode cX7_wearAt 22 = .ok (.iload_n 3, 1) := by decide +kernel
theorem dX7_wearAt_23 : decode cX7_wearAt 23 = .ok (.iconst 1, 1) := by decide +kernel
theorem dX7_wearAt_24 : decode cX7_wearAt 24 = .ok (.if_icmp .ge 7, 3) := by decide +kernel
theorem dX7_wearAt_27 : decode cX7_wearAt 27 = .ok (.iconst 1, 1) := by decide +kernel
theorem dX7_wearAt_28 : decode cX7_wearAt 28 = .ok (.goto 4, 3) := by decide +kernel
theorem dX7_wearAt_31 : decode cX7_wearAt 31 = .ok (.iload_n 3, 1) := by decide +kernel
theorem dX7_wearAt_32 : decode cX7_wearAt 32 = .ok (.istore_n 3, 1) := by decide +kernel
theorem dX7_wearAt_33 : decode cX7_wearAt 33 = .ok (.iload_n 2, 1) := by decide +kernel
theorem dX7_wearAt_34 : decode cX7_wearAt 34 = .ok (.ifCond .eq 12, 3) := by decide +kernel
theorem dX7_wearAt_37 : decode cX7_wearAt 37 = .ok (.iload_n 3, 1) := by decide +kernel
theorem dX7_wearAt_38 : decode cX7_wearAt 38 = .ok (.iload_n 3, 1) := by decide +kernel
theorem dX7_wearAt_39 : decode cX7_wearAt 39 = .ok (.bipush 10, 2) := by decide +kernel
theorem dX7_wearAt_41 : decode cX7_wearAt 41 = .ok (.idiv, 1) := by decide +kernel
theorem dX7_wearAt_42 : decode cX7_wearAt 42 = .ok (.iadd, 1) := by decide +kernel
theorem dX7_wearAt_43 : decode cX7_wearAt 43 = .ok (.goto 4, 3) := by decide +kernel
theorem dX7_wearAt_46 : decode cX7_wearAt 46 = .ok (.iload_n 3, 1) := by decide +kernel
theorem dX7_wearAt_47 : decode cX7_wearAt 47 = .ok (.ireturn, 1) := by decide +kernel
set_option maxRecDepth 20000 in
theorem ggX7_isHot_X7_of : GoodIn wsX7_isHot wsX7_of := goodIn_r _ [5, 6, 10, 11, 12, 13, 14, 15, 16, 17, 18, 19, 20, 21, 22] (by decide +kernel) (by decide +kernel)
set_option maxRecDepth 20000 in
theorem gX7_isHot_X7_of : GoodIn wsX7_isHot (wsV RX7 32 RX7 yX7_of wsX7_of) := goodIn_app (goodIn_of _ (by decide +kernel)) ggX7_isHot_X7_of
set_option maxRecDepth 20000 in
theorem ggX7_isHot_X7_in : GoodIn wsX7_isHot wsX7_in := goodIn_r _ [9] (by decide +kernel) (by decide +kernel)
set_option maxRecDepth 20000 in
theorem gX7_isHot_X7_in : GoodIn wsX7_isHot (va_wsS RX7 28 yX7_in wsX7_in) := goodIn_app (goodIn_of _ (by decide +kernel)) ggX7_isHot_X7_in
theorem dX7_isHot_0 : decode cX7_isHot 0 = .ok (.aload_n 0, 1) := by decide +kernel
theorem dX7_isHot_1 : decode cX7_isHot 1 = .ok (.iload_n 1, 1) := by decide +kernel
theorem dX7_isHot_2 : decode cX7_isHot 2 = .ok (.iconst 2, 1) := by decide +kernel
theorem dX7_isHot_3 : decode cX7_isHot 3 = .ok (.invokevirtual 32, 3) := by decide +kernel
theorem dX7_isHot_6 : decode cX7_isHot 6 = .ok (.iconst 3, 1) := by decide +kernel
theorem dX7_isHot_7 : decode cX7_isHot 7 = .ok (.iconst 4, 1) := by decide +kernel
theorem dX7_isHot_8 : decode cX7_isHot 8 = .ok (.invokestatic 28, 3) := by decide +kernel
theorem dX7_isHot_11 : decode cX7_isHot 11 = .ok (.ireturn, 1) := by decide +kernel
set_option maxRecDepth 20000 in
theorem ggX7_burns_X7_isDead : GoodIn wsX7_burns wsX7_isDead := goodIn_r _ [5, 6, 7, 8, 4, 9, 10, 15, 16, 17, 18, 19, 20, 21, 22, 23, 24, 25, 26, 27] (by decide +kernel) (by decide +kernel)
set_option maxRecDepth 20000 in
theorem gX7_burns_X7_isDead : GoodIn wsX7_burns (wsV RX7 91 RX7 yX7_isDead wsX7_isDead) := goodIn_app (goodIn_of _ (by decide +kernel)) ggX7_burns_X7_isDead
set_option maxRecDepth 20000 in
theorem ggX7_burns_X7_of : GoodIn wsX7_burns wsX7_of := goodIn_r _ [9, 10, 15, 16, 17, 18, 19, 20, 21, 22, 23, 24, 25, 26, 27] (by decide +kernel) (by decide +kernel)
set_option maxRecDepth 20000 in
theorem gX7_burns_X7_of : GoodIn wsX7_burns (wsV RX7 32 RX7 yX7_of wsX7_of) := goodIn_app (goodIn_of _ (by decide +kernel)) ggX7_burns_X7_of
set_option maxRecDepth 20000 in
theorem ggX7_burns_X7_ofRack : GoodIn wsX7_burns wsX7_ofRack := goodIn_r _ [14, 10, 15, 16, 17, 18, 19, 20, 21, 22, 23, 24, 25, 26, 27] (by decide +kernel) (by decide +kernel)
set_option maxRecDepth 20000 in
theorem gX7_burns_X7_ofRack : GoodIn wsX7_burns (wsV RX7 85 RX7 yX7_ofRack wsX7_ofRack) := goodIn_app (goodIn_of _ (by decide +kernel)) ggX7_burns_X7_ofRack
theorem dX7_burns_0 : decode cX7_burns 0 = .ok (.aload_n 0, 1) := by decide +kernel
theorem dX7_burns_1 : decode cX7_burns 1 = .ok (.iload_n 1, 1) := by decide +kernel
theorem dX7_burns_2 : decode cX7_burns 2 = .ok (.invokevirtual 91, 3) := by decide +kernel
theorem dX7_burns_5 : decode cX7_burns 5 = .ok (.ifCond .ne 33, 3) := by decide +kernel
theorem dX7_burns_8 : decode cX7_burns 8 = .ok (.aload_n 0, 1) := by decide +kernel
theorem dX7_burns_9 : decode cX7_burns 9 = .ok (.iload_n 1, 1) := by decide +kernel
theorem dX7_burns_10 : decode cX7_burns 10 = .ok (.iconst 1, 1) := by decide +kernel
theorem dX7_burns_11 : decode cX7_burns 11 = .ok (.invokevirtual 32, 3) := by decide +kernel
theorem dX7_burns_14 : decode cX7_burns 14 = .ok (.sipush (-1005), 3) := by decide +kernel
theorem dX7_burns_17 : decode cX7_burns 17 = .ok (.if_icmp .eq 21, 3) := by decide +kernel
theorem dX7_burns_20 : decode cX7_burns 20 = .ok (.aload_n 0, 1) := by decide +kernel
theorem dX7_burns_21 : decode cX7_burns 21 = .ok (.aload_n 0, 1) := by decide +kernel
theorem dX7_burns_22 : decode cX7_burns 22 = .ok (.iload_n 1, 1) := by decide +kernel
theorem dX7_burns_23 : decode cX7_burns 23 = .ok (.iconst 1, 1) := by decide +kernel
theorem dX7_burns_24 : decode cX7_burns 24 = .ok (.invokevirtual 32, 3) := by decide +kernel
theorem dX7_burns_27 : decode cX7_burns 27 = .ok (.iconst 0, 1) := by decide +kernel
theorem dX7_burns_28 : decode cX7_burns 28 = .ok (.invokevirtual 85, 3) := by decide +kernel
theorem dX7_burns_31 : decode cX7_burns 31 = .ok (.ifCond .le 7, 3) := by decide +kernel
theorem dX7_burns_34 : decode cX7_burns 34 = .ok (.iconst 1, 1) := by decide +kernel
theorem dX7_burns_35 : decode cX7_burns 35 = .ok (.goto 4, 3) := by decide +kernel
theorem dX7_burns_38 : decode cX7_burns 38 = .ok (.iconst 0, 1) := by decide +kernel
theorem dX7_burns_39 : decode cX7_burns 39 = .ok (.ireturn, 1) := by decide +kernel
set_option maxRecDepth 20000 in
theorem ggX7_anHour_X7_burns : GoodIn wsX7_anHour wsX7_burns := goodIn_r _ [6, 7, 8, 9, 5, 10, 11, 12, 13, 14, 1, 15, 16, 17, 18, 34, 35, 36, 37, 38, 39, 40, 41, 42, 43, 44, 45, 46] (by decide +kernel) (by decide +kernel)
set_option maxRecDepth 20000 in
theorem gX7_anHour_X7_burns : GoodIn wsX7_anHour (wsV RX7 94 RX7 yX7_burns wsX7_burns) := goodIn_app (goodIn_of _ (by decide +kernel)) ggX7_anHour_X7_burns
set_option maxRecDepth 20000 in
theorem ggX7_anHour_X7_of : GoodIn wsX7_anHour wsX7_of := goodIn_r _ [14, 1, 34, 35, 36, 37, 38, 39, 40, 41, 42, 43, 44, 45, 46] (by decide +kernel) (by decide +kernel)
set_option maxRecDepth 20000 in
theorem gX7_anHour_X7_of : GoodIn wsX7_anHour (wsV RX7 32 RX7 yX7_of wsX7_of) := goodIn_app (goodIn_of _ (by decide +kernel)) ggX7_anHour_X7_of
set_option maxRecDepth 20000 in
theorem ggX7_anHour_X7_lay : GoodIn wsX7_anHour wsX7_lay := goodIn_r _ [22, 1, 34, 35, 36, 37, 38, 39, 40, 41, 42, 43, 44, 45, 46] (by decide +kernel) (by decide +kernel)
set_option maxRecDepth 20000 in
theorem gX7_anHour_X7_lay : GoodIn wsX7_anHour (wsV RX7 68 RX7 yX7_lay wsX7_lay) := goodIn_app (goodIn_of _ (by decide +kernel)) ggX7_anHour_X7_lay
set_option maxRecDepth 20000 in
theorem ggX7_anHour_X7_ofRack : GoodIn wsX7_anHour wsX7_ofRack := goodIn_r _ [18, 1, 34, 35, 36, 37, 38, 39, 40, 41, 42, 43, 44, 45, 46] (by decide +kernel) (by decide +kernel)
set_option maxRecDepth 20000 in
theorem gX7_anHour_X7_ofRack : GoodIn wsX7_anHour (wsV RX7 85 RX7 yX7_ofRack wsX7_ofRack) := goodIn_app (goodIn_of _ (by decide +kernel)) ggX7_anHour_X7_ofRack
set_option maxRecDepth 20000 in
theorem ggX7_anHour_X7_isHot : GoodIn wsX7_anHour wsX7_isHot := goodIn_r _ [26, 11, 12, 13, 5, 14, 1, 27, 28, 29, 34, 35, 36, 37, 38, 39, 40, 41, 42, 43, 44, 45, 46] (by decide +kernel) (by decide +kernel)
set_option maxRecDepth 20000 in
theorem gX7_anHour_X7_isHot : GoodIn wsX7_anHour (wsV RX7 97 RX7 yX7_isHot wsX7_isHot) := goodIn_app (goodIn_of _ (by decide +kernel)) ggX7_anHour_X7_isHot
set_option maxRecDepth 20000 in
theorem ggX7_anHour_X7_wearAt : GoodIn wsX7_anHour wsX7_wearAt := goodIn_r _ [33, 1, 34, 35, 36, 37, 38, 39, 40, 41, 42, 43, 44, 45, 46] (by decide +kernel) (by decide +kernel)
set_option maxRecDepth 20000 in
theorem gX7_anHour_X7_wearAt : GoodIn wsX7_anHour (wsV RX7 100 RX7 yX7_wearAt wsX7_wearAt) := goodIn_app (goodIn_of _ (by decide +kernel)) ggX7_anHour_X7_wearAt
theorem dX7_anHour_0 : decode cX7_anHour 0 = .ok (.iconst 0, 1) := by decide +kernel
theorem dX7_anHour_1 : decode cX7_anHour 1 = .ok (.istore_n 1, 1) := by decide +kernel
theorem dX7_anHour_2 : decode cX7_anHour 2 = .ok (.aload_n 0, 1) := by decide +kernel
theorem dX7_anHour_3 : decode cX7_anHour 3 = .ok (.getfield 7, 3) := by decide +kernel
theorem dX7_anHour_6 : decode cX7_anHour 6 = .ok (.iconst 2, 1) := by decide +kernel
theorem dX7_anHour_7 : decode cX7_anHour 7 = .ok (.dup2, 1) := by decide +kernel
theorem dX7_anHour_8 : decode cX7_anHour 8 = .ok (.iaload, 1) := by decide +kernel
theorem dX7_anHour_9 : decode cX7_anHour 9 = .ok (.iconst 1, 1) := by decide +kernel
theorem dX7_anHour_10 : decode cX7_anHour 10 = .ok (.iadd, 1) := by decide +kernel
theorem dX7_anHour_11 : decode cX7_anHour 11 = .ok (.iastore, 1) := by decide +kernel
theorem dX7_anHour_12 : decode cX7_anHour 12 = .ok (.iconst 0, 1) := by decide +kernel
theorem dX7_anHour_13 : decode cX7_anHour 13 = .ok (.istore_n 2, 1) := by decide +kernel
theorem dX7_anHour_14 : decode cX7_anHour 14 = .ok (.iload_n 2, 1) := by decide +kernel
theorem dX7_anHour_15 : decode cX7_anHour 15 = .ok (.aload_n 0, 1) := by decide +kernel
theorem dX7_anHour_16 : decode cX7_anHour 16 = .ok (.getfield 7, 3) := by decide +kernel
theorem dX7_anHour_19 : decode cX7_anHour 19 = .ok (.iconst 3, 1) := by decide +kernel
theorem dX7_anHour_20 : decode cX7_anHour 20 = .ok (.iaload, 1) := by decide +kernel
theorem dX7_anHour_21 : decode cX7_anHour 21 = .ok (.if_icmp .ge 98, 3) := by decide +kernel
theorem dX7_anHour_24 : decode cX7_anHour 24 = .ok (.aload_n 0, 1) := by decide +kernel
theorem dX7_anHour_25 : decode cX7_anHour 25 = .ok (.iload_n 2, 1) := by decide +kernel
theorem dX7_anHour_26 : decode cX7_anHour 26 = .ok (.invokevirtual 94, 3) := by decide +kernel
theorem dX7_anHour_29 : decode cX7_anHour 29 = .ok (.ifCond .eq 84, 3) := by decide +kernel
theorem dX7_anHour_32 : decode cX7_anHour 32 = .ok (.aload_n 0, 1) := by decide +kernel
theorem dX7_anHour_33 : decode cX7_anHour 33 = .ok (.iload_n 2, 1) := by decide +kernel
theorem dX7_anHour_34 : decode cX7_anHour 34 = .ok (.iconst 5, 1) := by decide +kernel
theorem dX7_anHour_35 : decode cX7_anHour 35 = .ok (.aload_n 0, 1) := by decide +kernel
theorem dX7_anHour_36 : decode cX7_anHour 36 = .ok (.iload_n 2, 1) := by decide +kernel
theorem dX7_anHour_37 : decode cX7_anHour 37 = .ok (.iconst 5, 1) := by decide +kernel
theorem dX7_anHour_38 : decode cX7_anHour 38 = .ok (.invokevirtual 32, 3) := by decide +kernel
theorem dX7_anHour_41 : decode cX7_anHour 41 = .ok (.iconst 1, 1) := by decide +kernel
theorem dX7_anHour_42 : decode cX7_anHour 42 = .ok (.iadd, 1) := by decide +kernel
theorem dX7_anHour_43 : decode cX7_anHour 43 = .ok (.invokevirtual 68, 3) := by decide +kernel
theorem dX7_anHour_46 : decode cX7_anHour 46 = .ok (.aload_n 0, 1) := by decide +kernel
theorem dX7_anHour_47 : decode cX7_anHour 47 = .ok (.iload_n 2, 1) := by decide +kernel
theorem dX7_anHour_48 : decode cX7_anHour 48 = .ok (.iconst 4, 1) := by decide +kernel
theorem dX7_anHour_49 : decode cX7_anHour 49 = .ok (.aload_n 0, 1) := by decide +kernel
theorem dX7_anHour_50 : decode cX7_anHour 50 = .ok (.iload_n 2, 1) := by decide +kernel
theorem dX7_anHour_51 : decode cX7_anHour 51 = .ok (.iconst 4, 1) := by decide +kernel
theorem dX7_anHour_52 : decode cX7_anHour 52 = .ok (.invokevirtual 32, 3) := by decide +kernel
theorem dX7_anHour_55 : decode cX7_anHour 55 = .ok (.aload_n 0, 1) := by decide +kernel
theorem dX7_anHour_56 : decode cX7_anHour 56 = .ok (.aload_n 0, 1) := by decide +kernel
theorem dX7_anHour_57 : decode cX7_anHour 57 = .ok (.aload_n 0, 1) := by decide +kernel
theorem dX7_anHour_58 : decode cX7_anHour 58 = .ok (.iload_n 2, 1) := by decide +kernel
theorem dX7_anHour_59 : decode cX7_anHour 59 = .ok (.iconst 1, 1) := by decide +kernel
theorem dX7_anHour_60 : decode cX7_anHour 60 = .ok (.invokevirtual 32, 3) := by decide +kernel
theorem dX7_anHour_63 : decode cX7_anHour 63 = .ok (.iconst 0, 1) := by decide +kernel
theorem dX7_anHour_64 : decode cX7_anHour 64 = .ok (.invokevirtual 85, 3) := by decide +kernel
theorem dX7_anHour_67 : decode cX7_anHour 67 = .ok (.aload_n 0, 1) := by decide +kernel
theorem dX7_anHour_68 : decode cX7_anHour 68 = .ok (.iload_n 2, 1) := by decide +kernel
theorem dX7_anHour_69 : decode cX7_anHour 69 = .ok (.invokevirtual 97, 3) := by decide +kernel
theorem dX7_anHour_72 : decode cX7_anHour 72 = .ok (.invokevirtual 100, 3) := by decide +kernel
theorem dX7_anHour_75 : decode cX7_anHour 75 = .ok (.iadd, 1) := by decide +kernel
theorem dX7_anHour_76 : decode cX7_anHour 76 = .ok (.invokevirtual 68, 3) := by decide +kernel
theorem dX7_anHour_79 : decode cX7_anHour 79 = .ok (.aload_n 0, 1) := by decide +kernel
theorem dX7_anHour_80 : decode cX7_anHour 80 = .ok (.iload_n 2, 1) := by decide +kernel
theorem dX7_anHour_81 : decode cX7_anHour 81 = .ok (.iconst 4, 1) := by decide +kernel
theorem dX7_anHour_82 : decode cX7_anHour 82 = .ok (.invokevirtual 32, 3) := by decide +kernel
theorem dX7_anHour_85 : decode cX7_anHour 85 = .ok (.bipush 10, 2) := by decide +kernel
theorem dX7_anHour_87 : decode cX7_anHour 87 = .ok (.aload_n 0, 1) := by decide +kernel
theorem dX7_anHour_88 : decode cX7_anHour 88 = .ok (.iload_n 2, 1) := by decide +kernel
theorem dX7_anHour_89 : decode cX7_anHour 89 = .ok (.iconst 3, 1) := by decide +kernel
theorem dX7_anHour_90 : decode cX7_anHour 90 = .ok (.invokevirtual 32, 3) := by decide +kernel
theorem dX7_anHour_93 : decode cX7_anHour 93 = .ok (.imul, 1) := by decide +kernel
theorem dX7_anHour_94 : decode cX7_anHour 94 = .ok (.if_icmp .lt 19, 3) := by decide +kernel
theorem dX7_anHour_97 : decode cX7_anHour 97 = .ok (.aload_n 0, 1) := by decide +kernel
theorem dX7_anHour_98 : decode cX7_anHour 98 = .ok (.iload_n 2, 1) := by decide +kernel
theorem dX7_anHour_99 : decode cX7_anHour 99 = .ok (.bipush 6, 2) := by decide +kernel
theorem dX7_anHour_101 : decode cX7_anHour 101 = .ok (.aload_n 0, 1) := by decide +kernel
theorem dX7_anHour_102 : decode cX7_anHour 102 = .ok (.getfield 7, 3) := by decide +kernel
theorem dX7_anHour_105 : decode cX7_anHour 105 = .ok (.iconst 2, 1) := by decide +kernel
theorem dX7_anHour_106 : decode cX7_anHour 106 = .ok (.iaload, 1) := by decide +kernel
theorem dX7_anHour_107 : decode cX7_anHour 107 = .ok (.invokevirtual 68, 3) := by decide +kernel
theorem dX7_anHour_110 : decode cX7_anHour 110 = .ok (.iinc 1 1, 3) := by decide +kernel
theorem dX7_anHour_113 : decode cX7_anHour 113 = .ok (.iinc 2 1, 3) := by decide +kernel
theorem dX7_anHour_116 : decode cX7_anHour 116 = .ok (.goto (-102), 3) := by decide +kernel
theorem dX7_anHour_119 : decode cX7_anHour 119 = .ok (.iconst 0, 1) := by decide +kernel
theorem dX7_anHour_120 : decode cX7_anHour 120 = .ok (.istore_n 2, 1) := by decide +kernel
theorem dX7_anHour_121 : decode cX7_anHour 121 = .ok (.iload_n 2, 1) := by decide +kernel
theorem dX7_anHour_122 : decode cX7_anHour 122 = .ok (.iconst 3, 1) := by decide +kernel
theorem dX7_anHour_123 : decode cX7_anHour 123 = .ok (.if_icmp .ge 130, 3) := by decide +kernel
theorem dX7_anHour_126 : decode cX7_anHour 126 = .ok (.bipush 16, 2) := by decide +kernel
theorem dX7_anHour_128 : decode cX7_anHour 128 = .ok (.iconst 4, 1) := by decide +kernel
theorem dX7_anHour_129 : decode cX7_anHour 129 = .ok (.iload_n 2, 1) := by decide +kernel
theorem dX7_anHour_130 : decode cX7_anHour 130 = .ok (.imul, 1) := by decide +kernel
theorem dX7_anHour_131 : decode cX7_anHour 131 = .ok (.iadd, 1) := by decide +kernel
theorem dX7_anHour_132 : decode cX7_anHour 132 = .ok (.istore_n 3, 1) := by decide +kernel
theorem dX7_anHour_133 : decode cX7_anHour 133 = .ok (.aload_n 0, 1) := by decide +kernel
theorem dX7_anHour_134 : decode cX7_anHour 134 = .ok (.getfield 7, 3) := by decide +kernel
theorem dX7_anHour_137 : decode cX7_anHour 137 = .ok (.iload_n 3, 1) := by decide +kernel
theorem dX7_anHour_138 : decode cX7_anHour 138 = .ok (.iconst 3, 1) := by decide +kernel
theorem dX7_anHour_139 : decode cX7_anHour 139 = .ok (.iadd, 1) := by decide +kernel
theorem dX7_anHour_140 : decode cX7_anHour 140 = .ok (.dup2, 1) := by decide +kernel
theorem dX7_anHour_141 : decode cX7_anHour 141 = .ok (.iaload, 1) := by decide +kernel
theorem dX7_anHour_142 : decode cX7_anHour 142 = .ok (.aload_n 0, 1) := by decide +kernel
theorem dX7_anHour_143 : decode cX7_anHour 143 = .ok (.getfield 7, 3) := by decide +kernel
theorem dX7_anHour_146 : decode cX7_anHour 146 = .ok (.iload_n 3, 1) := by decide +kernel
theorem dX7_anHour_147 : decode cX7_anHour 147 = .ok (.iconst 1, 1) := by decide +kernel
theorem dX7_anHour_148 : decode cX7_anHour 148 = .ok (.iadd, 1) := by decide +kernel
theorem dX7_anHour_149 : decode cX7_anHour 149 = .ok (.iaload, 1) := by decide +kernel
theorem dX7_anHour_150 : decode cX7_anHour 150 = .ok (.ifCond .le 7, 3) := by decide +kernel
theorem dX7_anHour_153 : decode cX7_anHour 153 = .ok (.iconst 1, 1) := by decide +kernel
theorem dX7_anHour_154 : decode cX7_anHour 154 = .ok (.goto 4, 3) := by decide +kernel
theorem dX7_anHour_157 : decode cX7_anHour 157 = .ok (.iconst 0, 1) := by decide +kernel
theorem dX7_anHour_158 : decode cX7_anHour 158 = .ok (.iadd, 1) := by decide +kernel
theorem dX7_anHour_159 : decode cX7_anHour 159 = .ok (.iastore, 1) := by decide +kernel
theorem dX7_anHour_160 : decode cX7_anHour 160 = .ok (.aload_n 0, 1) := by decide +kernel
theorem dX7_anHour_161 : decode cX7_anHour 161 = .ok (.getfield 7, 3) := by decide +kernel
theorem dX7_anHour_164 : decode cX7_anHour 164 = .ok (.iload_n 3, 1) := by decide +kernel
theorem dX7_anHour_165 : decode cX7_anHour 165 = .ok (.iconst 1, 1) := by decide +kernel
theorem dX7_anHour_166 : decode cX7_anHour 166 = .ok (.iadd, 1) := by decide +kernel
theorem dX7_anHour_167 : decode cX7_anHour 167 = .ok (.iaload, 1) := by decide +kernel
theorem dX7_anHour_168 : decode cX7_anHour 168 = .ok (.ifCond .le 79, 3) := by decide +kernel
theorem dX7_anHour_171 : decode cX7_anHour 171 = .ok (.aload_n 0, 1) := by decide +kernel
theorem dX7_anHour_172 : decode cX7_anHour 172 = .ok (.getfield 7, 3) := by decide +kernel
theorem dX7_anHour_175 : decode cX7_anHour 175 = .ok (.iload_n 3, 1) := by decide +kernel
theorem dX7_anHour_176 : decode cX7_anHour 176 = .ok (.iconst 3, 1) := by decide +kernel
theorem dX7_anHour_177 : decode cX7_anHour 177 = .ok (.iadd, 1) := by decide +kernel
theorem dX7_anHour_178 : decode cX7_anHour 178 = .ok (.iaload, 1) := by decide +kernel
theorem dX7_anHour_179 : decode cX7_anHour 179 = .ok (.aload_n 0, 1) := by decide +kernel
theorem dX7_anHour_180 : decode cX7_anHour 180 = .ok (.getfield 7, 3) := by decide +kernel
theorem dX7_anHour_183 : decode cX7_anHour 183 = .ok (.iload_n 3, 1) := by decide +kernel
theorem dX7_anHour_184 : decode cX7_anHour 184 = .ok (.iconst 1, 1) := by decide +kernel
theorem dX7_anHour_185 : decode cX7_anHour 185 = .ok (.iadd, 1) := by decide +kernel
theorem dX7_anHour_186 : decode cX7_anHour 186 = .ok (.iaload, 1) := by decide +kernel
theorem dX7_anHour_187 : decode cX7_anHour 187 = .ok (.if_icmp .ne 60, 3) := by decide +kernel
theorem dX7_anHour_190 : decode cX7_anHour 190 = .ok (.aload_n 0, 1) := by decide +kernel
theorem dX7_anHour_191 : decode cX7_anHour 191 = .ok (.getfield 7, 3) := by decide +kernel
theorem dX7_anHour_194 : decode cX7_anHour 194 = .ok (.iload_n 3, 1) := by decide +kernel
theorem dX7_anHour_195 : decode cX7_anHour 195 = .ok (.iaload, 1) := by decide +kernel
theorem dX7_anHour_196 : decode cX7_anHour 196 = .ok (.aload_n 0, 1) := by decide +kernel
theorem dX7_anHour_197 : decode cX7_anHour 197 = .ok (.getfield 7, 3) := by decide +kernel
theorem dX7_anHour_200 : decode cX7_anHour 200 = .ok (.iload_n 3, 1) := by decide +kernel
theorem dX7_anHour_201 : decode cX7_anHour 201 = .ok (.iconst 2, 1) := by decide +kernel
theorem dX7_anHour_202 : decode cX7_anHour 202 = .ok (.iadd, 1) := by decide +kernel
theorem dX7_anHour_203 : decode cX7_anHour 203 = .ok (.iaload, 1) := by decide +kernel
theorem dX7_anHour_204 : decode cX7_anHour 204 = .ok (.iadd, 1) := by decide +kernel
theorem dX7_anHour_205 : decode cX7_anHour 205 = .ok (.istore 4, 2) := by decide +kernel
theorem dX7_anHour_207 : decode cX7_anHour 207 = .ok (.aload_n 0, 1) := by decide +kernel
theorem dX7_anHour_208 : decode cX7_anHour 208 = .ok (.getfield 7, 3) := by decide +kernel
theorem dX7_anHour_211 : decode cX7_anHour 211 = .ok (.iload_n 3, 1) := by decide +kernel
theorem dX7_anHour_212 : decode cX7_anHour 212 = .ok (.iload 4, 2) := by decide +kernel
theorem dX7_anHour_214 : decode cX7_anHour 214 = .ok (.ifCond .ge 7, 3) := by decide +kernel
theorem dX7_anHour_217 : decode cX7_anHour 217 = .ok (.iconst 0, 1) := by decide +kernel
theorem dX7_anHour_218 : decode cX7_anHour 218 = .ok (.goto 19, 3) := by decide +kernel
theorem dX7_anHour_221 : decode cX7_anHour 221 = .ok (.iload 4, 2) := by decide +kernel
theorem dX7_anHour_223 : decode cX7_anHour 223 = .ok (.sipush 300, 3) := by decide +kernel
theorem dX7_anHour_226 : decode cX7_anHour 226 = .ok (.if_icmp .le 9, 3) := by decide +kernel
theorem dX7_anHour_229 : decode cX7_anHour 229 = .ok (.sipush 300, 3) := by decide +kernel
theorem dX7_anHour_232 : decode cX7_anHour 232 = .ok (.goto 5, 3) := by decide +kernel
theorem dX7_anHour_235 : decode cX7_anHour 235 = .ok (.iload 4, 2) := by decide +kernel
theorem dX7_anHour_237 : decode cX7_anHour 237 = .ok (.iastore, 1) := by decide +kernel
theorem dX7_anHour_238 : decode cX7_anHour 238 = .ok (.aload_n 0, 1) := by decide +kernel
theorem dX7_anHour_239 : decode cX7_anHour 239 = .ok (.getfield 7, 3) := by decide +kernel
theorem dX7_anHour_242 : decode cX7_anHour 242 = .ok (.iload_n 3, 1) := by decide +kernel
theorem dX7_anHour_243 : decode cX7_anHour 243 = .ok (.iconst 3, 1) := by decide +kernel
theorem dX7_anHour_244 : decode cX7_anHour 244 = .ok (.iadd, 1) := by decide +kernel
theorem dX7_anHour_245 : decode cX7_anHour 245 = .ok (.iconst 0, 1) := by decide +kernel
theorem dX7_anHour_246 : decode cX7_anHour 246 = .ok (.iastore, 1) := by decide +kernel
theorem dX7_anHour_247 : decode cX7_anHour 247 = .ok (.iinc 2 1, 3) := by decide +kernel
theorem dX7_anHour_250 : decode cX7_anHour 250 = .ok (.goto (-129), 3) := by decide +kernel
theorem dX7_anHour_253 : decode cX7_anHour 253 = .ok (.iload_n 1, 1) := by decide +kernel
theorem dX7_anHour_254 : decode cX7_anHour 254 = .ok (.ireturn, 1) := by decide +kernel
set_option maxRecDepth 20000 in
theorem ggX7_whyNotPass_X7_in : GoodIn wsX7_whyNotPass wsX7_in := goodIn_r _ [6] (by decide +kernel) (by decide +kernel)
set_option maxRecDepth 20000 in
theorem gX7_whyNotPass_X7_in : GoodIn wsX7_whyNotPass (va_wsS RX7 28 yX7_in wsX7_in) := goodIn_app (goodIn_of _ (by decide +kernel)) ggX7_whyNotPass_X7_in
theorem dX7_whyNotPass_0 : decode cX7_whyNotPass 0 = .ok (.iload_n 1, 1) := by decide +kernel
theorem dX7_whyNotPass_1 : decode cX7_whyNotPass 1 = .ok (.iconst 1, 1) := by decide +kernel
theorem dX7_whyNotPass_2 : decode cX7_whyNotPass 2 = .ok (.sipush 999, 3) := by decide +kernel
theorem dX7_whyNotPass_5 : decode cX7_whyNotPass 5 = .ok (.invokestatic 28, 3) := by decide +kernel
theorem dX7_whyNotPass_8 : decode cX7_whyNotPass 8 = .ok (.ifCond .ne 9, 3) := by decide +kernel
theorem dX7_whyNotPass_11 : decode cX7_whyNotPass 11 = .ok (.sipush (-1002), 3) := by decide +kernel
theorem dX7_whyNotPass_14 : decode cX7_whyNotPass 14 = .ok (.goto 23, 3) := by decide +kernel
theorem dX7_whyNotPass_17 : decode cX7_whyNotPass 17 = .ok (.aload_n 0, 1) := by decide +kernel
theorem dX7_whyNotPass_18 : decode cX7_whyNotPass 18 = .ok (.getfield 7, 3) := by decide +kernel
theorem dX7_whyNotPass_21 : decode cX7_whyNotPass 21 = .ok (.iconst 2, 1) := by decide +kernel
theorem dX7_whyNotPass_22 : decode cX7_whyNotPass 22 = .ok (.iaload, 1) := by decide +kernel
theorem dX7_whyNotPass_23 : decode cX7_whyNotPass 23 = .ok (.iload_n 1, 1) := by decide +kernel
theorem dX7_whyNotPass_24 : decode cX7_whyNotPass 24 = .ok (.iadd, 1) := by decide +kernel
theorem dX7_whyNotPass_25 : decode cX7_whyNotPass 25 = .ok (.ldc 104, 2) := by decide +kernel
theorem dX7_whyNotPass_27 : decode cX7_whyNotPass 27 = .ok (.if_icmp .le 9, 3) := by decide +kernel
theorem dX7_whyNotPass_30 : decode cX7_whyNotPass 30 = .ok (.sipush (-1003), 3) := by decide +kernel
theorem dX7_whyNotPass_33 : decode cX7_whyNotPass 33 = .ok (.goto 4, 3) := by decide +kernel
theorem dX7_whyNotPass_36 : decode cX7_whyNotPass 36 = .ok (.iconst 0, 1) := by decide +kernel
theorem dX7_whyNotPass_37 : decode cX7_whyNotPass 37 = .ok (.ireturn, 1) := by decide +kernel
set_option maxRecDepth 20000 in
theorem ggX7_passNow_X7_anHour : GoodIn wsX7_passNow wsX7_anHour := goodIn_r _ [5, 6, 7, 8, 9, 4, 10, 11, 12, 13, 14, 15, 16, 17, 18, 19, 20, 21, 22, 23, 24, 25, 26, 27, 28, 29, 30, 31, 32, 33, 34, 35, 36, 37, 38, 39, 40, 41, 42, 43, 44, 45, 46, 47, 48, 49, 50] (by decide +kernel) (by decide +kernel)
set_option maxRecDepth 20000 in
theorem gX7_passNow_X7_anHour : GoodIn wsX7_passNow (wsV RX7 105 RX7 yX7_anHour wsX7_anHour) := goodIn_app (goodIn_of _ (by decide +kernel)) ggX7_passNow_X7_anHour
theorem dX7_passNow_0 : decode cX7_passNow 0 = .ok (.iconst 0, 1) := by decide +kernel
theorem dX7_passNow_1 : decode cX7_passNow 1 = .ok (.istore_n 2, 1) := by decide +kernel
theorem dX7_passNow_2 : decode cX7_passNow 2 = .ok (.iconst 0, 1) := by decide +kernel
theorem dX7_passNow_3 : decode cX7_passNow 3 = .ok (.istore_n 3, 1) := by decide +kernel
theorem dX7_passNow_4 : decode cX7_passNow 4 = .ok (.iload_n 3, 1) := by decide +kernel
theorem dX7_passNow_5 : decode cX7_passNow 5 = .ok (.iload_n 1, 1) := by decide +kernel
theorem dX7_passNow_6 : decode cX7_passNow 6 = .ok (.if_icmp .ge 16, 3) := by decide +kernel
theorem dX7_passNow_9 : decode cX7_passNow 9 = .ok (.iload_n 2, 1) := by decide +kernel
theorem dX7_passNow_10 : decode cX7_passNow 10 = .ok (.aload_n 0, 1) := by decide +kernel
theorem dX7_passNow_11 : decode cX7_passNow 11 = .ok (.invokevirtual 105, 3) := by decide +kernel
theorem dX7_passNow_14 : decode cX7_passNow 14 = .ok (.iadd, 1) := by decide +kernel
theorem dX7_passNow_15 : decode cX7_passNow 15 = .ok (.istore_n 2, 1) := by decide +kernel
theorem dX7_passNow_16 : decode cX7_passNow 16 = .ok (.iinc 3 1, 3) := by decide +kernel
theorem dX7_passNow_19 : decode cX7_passNow 19 = .ok (.goto (-15), 3) := by decide +kernel
theorem dX7_passNow_22 : decode cX7_passNow 22 = .ok (.iload_n 2, 1) := by decide +kernel
theorem dX7_passNow_23 : decode cX7_passNow 23 = .ok (.ireturn, 1) := by decide +kernel
set_option maxRecDepth 20000 in
theorem ggX7_pass_X7_whyNotPass : GoodIn wsX7_pass wsX7_whyNotPass := goodIn_r _ [5, 6, 7, 8, 9, 4, 10, 60, 61, 62, 63, 64, 65, 66, 67, 68, 69, 70, 71, 72] (by decide +kernel) (by decide +kernel)
set_option maxRecDepth 20000 in
theorem gX7_pass_X7_whyNotPass : GoodIn wsX7_pass (wsV RX7 109 RX7 yX7_whyNotPass wsX7_whyNotPass) := goodIn_app (goodIn_of _ (by decide +kernel)) ggX7_pass_X7_whyNotPass
set_option maxRecDepth 20000 in
theorem ggX7_pass_X7_record : GoodIn wsX7_pass wsX7_record := goodIn_r _ [14, 6, 15, 16, 17, 4, 18, 19, 20, 21, 22, 23, 60, 61, 62, 63, 64, 65, 66, 67, 68, 69, 70, 71, 72] (by decide +kernel) (by decide +kernel)
set_option maxRecDepth 20000 in
theorem gX7_pass_X7_record : GoodIn wsX7_pass (wsV RX7 52 RX7 yX7_record wsX7_record) := goodIn_app (goodIn_of _ (by decide +kernel)) ggX7_pass_X7_record
set_option maxRecDepth 20000 in
theorem ggX7_pass_X7_passNow : GoodIn wsX7_pass wsX7_passNow := goodIn_r _ [27, 28, 29, 30, 4, 31, 6, 32, 33, 34, 35, 36, 37, 38, 39, 40, 41, 42, 43, 44, 45, 46, 47, 48, 49, 50, 51, 52, 53, 54, 55, 8, 9, 10, 56, 57, 58, 59, 60, 61, 62, 63, 64, 65, 66, 67, 68, 69, 70, 71, 72] (by decide +kernel) (by decide +kernel)
set_option maxRecDepth 20000 in
theorem gX7_pass_X7_passNow : GoodIn wsX7_pass (wsV RX7 113 RX7 yX7_passNow wsX7_passNow) := goodIn_app (goodIn_of _ (by decide +kernel)) ggX7_pass_X7_passNow
theorem dX7_pass_0 : decode cX7_pass 0 = .ok (.aload_n 0, 1) := by decide +kernel
theorem dX7_pass_1 : decode cX7_pass 1 = .ok (.iload_n 1, 1) := by decide +kernel
theorem dX7_pass_2 : decode cX7_pass 2 = .ok (.invokevirtual 109, 3) := by decide +kernel
theorem dX7_pass_5 : decode cX7_pass 5 = .ok (.istore_n 2, 1) := by decide +kernel
theorem dX7_pass_6 : decode cX7_pass 6 = .ok (.iload_n 2, 1) := by decide +kernel
theorem dX7_pass_7 : decode cX7_pass 7 = .ok (.ifCond .ge 5, 3) := by decide +kernel
theorem dX7_pass_10 : decode cX7_pass 10 = .ok (.iload_n 2, 1) := by decide +kernel
theorem dX7_pass_11 : decode cX7_pass 11 = .ok (.ireturn, 1) := by decide +kernel
theorem dX7_pass_12 : decode cX7_pass 12 = .ok (.aload_n 0, 1) := by decide +kernel
theorem dX7_pass_13 : decode cX7_pass 13 = .ok (.invokevirtual 52, 3) := by decide +kernel
theorem dX7_pass_16 : decode cX7_pass 16 = .ok (.aload_n 0, 1) := by decide +kernel
theorem dX7_pass_17 : decode cX7_pass 17 = .ok (.iload_n 1, 1) := by decide +kernel
theorem dX7_pass_18 : decode cX7_pass 18 = .ok (.invokevirtual 113, 3) := by decide +kernel
theorem dX7_pass_21 : decode cX7_pass 21 = .ok (.ireturn, 1) := by decide +kernel
theorem dX7_type_0 : decode cX7_type 0 = .ok (.aload_n 0, 1) := by decide +kernel
theorem dX7_type_1 : decode cX7_type 1 = .ok (.getfield 116, 3) := by decide +kernel
theorem dX7_type_4 : decode cX7_type 4 = .ok (.bipush 60, 2) := by decide +kernel
theorem dX7_type_6 : decode cX7_type 6 = .ok (.if_icmp .ne 7, 3) := by decide +kernel
theorem dX7_type_9 : decode cX7_type 9 = .ok (.sipush (-1003), 3) := by decide +kernel
theorem dX7_type_12 : decode cX7_type 12 = .ok (.ireturn, 1) := by decide +kernel
theorem dX7_type_13 : decode cX7_type 13 = .ok (.aload_n 0, 1) := by decide +kernel
theorem dX7_type_14 : decode cX7_type 14 = .ok (.getfield 22, 3) := by decide +kernel
theorem dX7_type_17 : decode cX7_type 17 = .ok (.aload_n 0, 1) := by decide +kernel
theorem dX7_type_18 : decode cX7_type 18 = .ok (.getfield 116, 3) := by decide +kernel
theorem dX7_type_21 : decode cX7_type 21 = .ok (.iload_n 1, 1) := by decide +kernel
theorem dX7_type_22 : decode cX7_type 22 = .ok (.iastore, 1) := by decide +kernel
theorem dX7_type_23 : decode cX7_type 23 = .ok (.aload_n 0, 1) := by decide +kernel
theorem dX7_type_24 : decode cX7_type 24 = .ok (.dup, 1) := by decide +kernel
theorem dX7_type_25 : decode cX7_type 25 = .ok (.getfield 116, 3) := by decide +kernel
theorem dX7_type_28 : decode cX7_type 28 = .ok (.iconst 1, 1) := by decide +kernel
theorem dX7_type_29 : decode cX7_type 29 = .ok (.iadd, 1) := by decide +kernel
theorem dX7_type_30 : decode cX7_type 30 = .ok (.putfield 116, 3) := by decide +kernel
theorem dX7_type_33 : decode cX7_type 33 = .ok (.aload_n 0, 1) := by decide +kernel
theorem dX7_type_34 : decode cX7_type 34 = .ok (.getfield 116, 3) := by decide +kernel
theorem dX7_type_37 : decode cX7_type 37 = .ok (.ireturn, 1) := by decide +kernel
theorem dX7_clearText_0 : decode cX7_clearText 0 = .ok (.aload_n 0, 1) := by decide +kernel
theorem dX7_clearText_1 : decode cX7_clearText 1 = .ok (.getfield 116, 3) := by decide +kernel
theorem dX7_clearText_4 : decode cX7_clearText 4 = .ok (.istore_n 1, 1) := by decide +kernel
theorem dX7_clearText_5 : decode cX7_clearText 5 = .ok (.aload_n 0, 1) := by decide +kernel
theorem dX7_clearText_6 : decode cX7_clearText 6 = .ok (.iconst 0, 1) := by decide +kernel
theorem dX7_clearText_7 : decode cX7_clearText 7 = .ok (.putfield 116, 3) := by decide +kernel
theorem dX7_clearText_10 : decode cX7_clearText 10 = .ok (.iload_n 1, 1) := by decide +kernel
theorem dX7_clearText_11 : decode cX7_clearText 11 = .ok (.ireturn, 1) := by decide +kernel
set_option maxRecDepth 20000 in
theorem ggX7_sees_X7_in : GoodIn wsX7_sees wsX7_in := goodIn_r _ [7] (by decide +kernel) (by decide +kernel)
set_option maxRecDepth 20000 in
theorem gX7_sees_X7_in : GoodIn wsX7_sees (va_wsS RX7 28 yX7_in wsX7_in) := goodIn_app (goodIn_of _ (by decide +kernel)) ggX7_sees_X7_in
theorem dX7_sees_0 : decode cX7_sees 0 = .ok (.aload_n 0, 1) := by decide +kernel
theorem dX7_sees_1 : decode cX7_sees 1 = .ok (.getfield 119, 3) := by decide +kernel
theorem dX7_sees_4 : decode cX7_sees 4 = .ok (.aload_n 0, 1) := by decide +kernel
theorem dX7_sees_5 : decode cX7_sees 5 = .ok (.getfield 116, 3) := by decide +kernel
theorem dX7_sees_8 : decode cX7_sees 8 = .ok (.if_icmp .ge 24, 3) := by decide +kernel
theorem dX7_sees_11 : decode cX7_sees 11 = .ok (.aload_n 0, 1) := by decide +kernel
theorem dX7_sees_12 : decode cX7_sees 12 = .ok (.getfield 22, 3) := by decide +kernel
theorem dX7_sees_15 : decode cX7_sees 15 = .ok (.aload_n 0, 1) := by decide +kernel
theorem dX7_sees_16 : decode cX7_sees 16 = .ok (.getfield 119, 3) := by decide +kernel
theorem dX7_sees_19 : decode cX7_sees 19 = .ok (.iaload, 1) := by decide +kernel
theorem dX7_sees_20 : decode cX7_sees 20 = .ok (.iload_n 1, 1) := by decide +kernel
theorem dX7_sees_21 : decode cX7_sees 21 = .ok (.iload_n 2, 1) := by decide +kernel
theorem dX7_sees_22 : decode cX7_sees 22 = .ok (.invokestatic 28, 3) := by decide +kernel
theorem dX7_sees_25 : decode cX7_sees 25 = .ok (.ifCond .eq 7, 3) := by decide +kernel
theorem dX7_sees_28 : decode cX7_sees 28 = .ok (.iconst 1, 1) := by decide +kernel
theorem dX7_sees_29 : decode cX7_sees 29 = .ok (.goto 4, 3) := by decide +kernel
theorem dX7_sees_32 : decode cX7_sees 32 = .ok (.iconst 0, 1) := by decide +kernel
theorem dX7_sees_33 : decode cX7_sees 33 = .ok (.ireturn, 1) := by decide +kernel
set_option maxRecDepth 20000 in
theorem ggX7_takes_X7_sees : GoodIn wsX7_takes wsX7_sees := goodIn_r _ [6, 1, 7, 8, 9, 10, 5, 11, 12, 13, 14, 15, 16, 17, 18, 19, 20, 21, 22, 23, 24] (by decide +kernel) (by decide +kernel)
set_option maxRecDepth 20000 in
theorem gX7_takes_X7_sees : GoodIn wsX7_takes (wsV RX7 122 RX7 yX7_sees wsX7_sees) := goodIn_app (goodIn_of _ (by decide +kernel)) ggX7_takes_X7_sees
theorem dX7_takes_0 : decode cX7_takes 0 = .ok (.aload_n 0, 1) := by decide +kernel
theorem dX7_takes_1 : decode cX7_takes 1 = .ok (.iload_n 1, 1) := by decide +kernel
theorem dX7_takes_2 : decode cX7_takes 2 = .ok (.iload_n 1, 1) := by decide +kernel
theorem dX7_takes_3 : decode cX7_takes 3 = .ok (.invokevirtual 122, 3) := by decide +kernel
theorem dX7_takes_6 : decode cX7_takes 6 = .ok (.istore_n 2, 1) := by decide +kernel
theorem dX7_takes_7 : decode cX7_takes 7 = .ok (.aload_n 0, 1) := by decide +kernel
theorem dX7_takes_8 : decode cX7_takes 8 = .ok (.dup, 1) := by decide +kernel
theorem dX7_takes_9 : decode cX7_takes 9 = .ok (.getfield 119, 3) := by decide +kernel
theorem dX7_takes_12 : decode cX7_takes 12 = .ok (.iload_n 2, 1) := by decide +kernel
theorem dX7_takes_13 : decode cX7_takes 13 = .ok (.ifCond .eq 7, 3) := by decide +kernel
theorem dX7_takes_16 : decode cX7_takes 16 = .ok (.iconst 1, 1) := by decide +kernel
theorem dX7_takes_17 : decode cX7_takes 17 = .ok (.goto 4, 3) := by decide +kernel
theorem dX7_takes_20 : decode cX7_takes 20 = .ok (.iconst 0, 1) := by decide +kernel
theorem dX7_takes_21 : decode cX7_takes 21 = .ok (.iadd, 1) := by decide +kernel
theorem dX7_takes_22 : decode cX7_takes 22 = .ok (.putfield 119, 3) := by decide +kernel
theorem dX7_takes_25 : decode cX7_takes 25 = .ok (.iload_n 2, 1) := by decide +kernel
theorem dX7_takes_26 : decode cX7_takes 26 = .ok (.ireturn, 1) := by decide +kernel
set_option maxRecDepth 20000 in
theorem ggX7_number_X7_sees : GoodIn wsX7_number wsX7_sees := goodIn_r _ [9, 2, 10, 1, 11, 12, 8, 13, 14, 15, 16, 17, 18, 19, 20, 21, 22, 23, 24, 25, 26] (by decide +kernel) (by decide +kernel)
set_option maxRecDepth 20000 in
theorem gX7_number_X7_sees : GoodIn wsX7_number (wsV RX7 122 RX7 yX7_sees wsX7_sees) := goodIn_app (goodIn_of _ (by decide +kernel)) ggX7_number_X7_sees
theorem dX7_number_0 : decode cX7_number 0 = .ok (.iload_n 2, 1) := by decide +kernel
theorem dX7_number_1 : decode cX7_number 1 = .ok (.bipush 9, 2) := by decide +kernel
theorem dX7_number_3 : decode cX7_number 3 = .ok (.if_icmp .le 8, 3) := by decide +kernel
theorem dX7_number_6 : decode cX7_number 6 = .ok (.bipush 9, 2) := by decide +kernel
theorem dX7_number_8 : decode cX7_number 8 = .ok (.goto 4, 3) := by decide +kernel
theorem dX7_number_11 : decode cX7_number 11 = .ok (.iload_n 2, 1) := by decide +kernel
theorem dX7_number_12 : decode cX7_number 12 = .ok (.istore 4, 2) := by decide +kernel
theorem dX7_number_14 : decode cX7_number 14 = .ok (.iload_n 3, 1) := by decide +kernel
theorem dX7_number_15 : decode cX7_number 15 = .ok (.bipush 9, 2) := by decide +kernel
theorem dX7_number_17 : decode cX7_number 17 = .ok (.if_icmp .le 8, 3) := by decide +kernel
theorem dX7_number_20 : decode cX7_number 20 = .ok (.bipush 9, 2) := by decide +kernel
theorem dX7_number_22 : decode cX7_number 22 = .ok (.goto 4, 3) := by decide +kernel
theorem dX7_number_25 : decode cX7_number 25 = .ok (.iload_n 3, 1) := by decide +kernel
theorem dX7_number_26 : decode cX7_number 26 = .ok (.istore 5, 2) := by decide +kernel
theorem dX7_number_28 : decode cX7_number 28 = .ok (.aload_n 0, 1) := by decide +kernel
theorem dX7_number_29 : decode cX7_number 29 = .ok (.bipush 48, 2) := by decide +kernel
theorem dX7_number_31 : decode cX7_number 31 = .ok (.iload 4, 2) := by decide +kernel
theorem dX7_number_33 : decode cX7_number 33 = .ok (.iadd, 1) := by decide +kernel
theorem dX7_number_34 : decode cX7_number 34 = .ok (.bipush 48, 2) := by decide +kernel
theorem dX7_number_36 : decode cX7_number 36 = .ok (.iload 5, 2) := by decide +kernel
theorem dX7_number_38 : decode cX7_number 38 = .ok (.iadd, 1) := by decide +kernel
theorem dX7_number_39 : decode cX7_number 39 = .ok (.invokevirtual 122, 3) := by decide +kernel
theorem dX7_number_42 : decode cX7_number 42 = .ok (.ifCond .ne 5, 3) := by decide +kernel
theorem dX7_number_45 : decode cX7_number 45 = .ok (.iconst 0, 1) := by decide +kernel
theorem dX7_number_46 : decode cX7_number 46 = .ok (.ireturn, 1) := by decide +kernel
theorem dX7_number_47 : decode cX7_number 47 = .ok (.aload_n 0, 1) := by decide +kernel
theorem dX7_number_48 : decode cX7_number 48 = .ok (.getfield 22, 3) := by decide +kernel
theorem dX7_number_51 : decode cX7_number 51 = .ok (.aload_n 0, 1) := by decide +kernel
theorem dX7_number_52 : decode cX7_number 52 = .ok (.getfield 119, 3) := by decide +kernel
theorem dX7_number_55 : decode cX7_number 55 = .ok (.iaload, 1) := by decide +kernel
theorem dX7_number_56 : decode cX7_number 56 = .ok (.bipush 48, 2) := by decide +kernel
theorem dX7_number_58 : decode cX7_number 58 = .ok (.isub, 1) := by decide +kernel
theorem dX7_number_59 : decode cX7_number 59 = .ok (.istore 6, 2) := by decide +kernel
theorem dX7_number_61 : decode cX7_number 61 = .ok (.aload_n 0, 1) := by decide +kernel
theorem dX7_number_62 : decode cX7_number 62 = .ok (.dup, 1) := by decide +kernel
theorem dX7_number_63 : decode cX7_number 63 = .ok (.getfield 119, 3) := by decide +kernel
theorem dX7_number_66 : decode cX7_number 66 = .ok (.iconst 1, 1) := by decide +kernel
theorem dX7_number_67 : decode cX7_number 67 = .ok (.iadd, 1) := by decide +kernel
theorem dX7_number_68 : decode cX7_number 68 = .ok (.putfield 119, 3) := by decide +kernel
theorem dX7_number_71 : decode cX7_number 71 = .ok (.iload 6, 2) := by decide +kernel
theorem dX7_number_73 : decode cX7_number 73 = .ok (.ifCond .le 69, 3) := by decide +kernel
theorem dX7_number_76 : decode cX7_number 76 = .ok (.aload_n 0, 1) := by decide +kernel
theorem dX7_number_77 : decode cX7_number 77 = .ok (.bipush 48, 2) := by decide +kernel
theorem dX7_number_79 : decode cX7_number 79 = .ok (.bipush 57, 2) := by decide +kernel
theorem dX7_number_81 : decode cX7_number 81 = .ok (.invokevirtual 122, 3) := by decide +kernel
theorem dX7_number_84 : decode cX7_number 84 = .ok (.ifCond .eq 58, 3) := by decide +kernel
theorem dX7_number_87 : decode cX7_number 87 = .ok (.bipush 10, 2) := by decide +kernel
theorem dX7_number_89 : decode cX7_number 89 = .ok (.iload 6, 2) := by decide +kernel
theorem dX7_number_91 : decode cX7_number 91 = .ok (.imul, 1) := by decide +kernel
theorem dX7_number_92 : decode cX7_number 92 = .ok (.aload_n 0, 1) := by decide +kernel
theorem dX7_number_93 : decode cX7_number 93 = .ok (.getfield 22, 3) := by decide +kernel
theorem dX7_number_96 : decode cX7_number 96 = .ok (.aload_n 0, 1) := by decide +kernel
theorem dX7_number_97 : decode cX7_number 97 = .ok (.getfield 119, 3) := by decide +kernel
theorem dX7_number_100 : decode cX7_number 100 = .ok (.iaload, 1) := by decide +kernel
theorem dX7_number_101 : decode cX7_number 101 = .ok (.iadd, 1) := by decide +kernel
theorem dX7_number_102 : decode cX7_number 102 = .ok (.bipush 48, 2) := by decide +kernel
theorem dX7_number_104 : decode cX7_number 104 = .ok (.isub, 1) := by decide +kernel
theorem dX7_number_105 : decode cX7_number 105 = .ok (.iload_n 3, 1) := by decide +kernel
theorem dX7_number_106 : decode cX7_number 106 = .ok (.if_icmp .gt 36, 3) := by decide +kernel
theorem dX7_number_109 : decode cX7_number 109 = .ok (.bipush 10, 2) := by decide +kernel
theorem dX7_number_111 : decode cX7_number 111 = .ok (.iload 6, 2) := by decide +kernel
theorem dX7_number_113 : decode cX7_number 113 = .ok (.imul, 1) := by decide +kernel
theorem dX7_number_114 : decode cX7_number 114 = .ok (.aload_n 0, 1) := by decide +kernel
theorem dX7_number_115 : decode cX7_number 115 = .ok (.getfield 22, 3) := by decide +kernel
theorem dX7_number_118 : decode cX7_number 118 = .ok (.aload_n 0, 1) := by decide +kernel
theorem dX7_number_119 : decode cX7_number 119 = .ok (.getfield 119, 3) := by decide +kernel
theorem dX7_number_122 : decode cX7_number 122 = .ok (.iaload, 1) := by decide +kernel
theorem dX7_number_123 : decode cX7_number 123 = .ok (.iadd, 1) := by decide +kernel
theorem dX7_number_124 : decode cX7_number 124 = .ok (.bipush 48, 2) := by decide +kernel
theorem dX7_number_126 : decode cX7_number 126 = .ok (.isub, 1) := by decide +kernel
theorem dX7_number_127 : decode cX7_number 127 = .ok (.istore 6, 2) := by decide +kernel
theorem dX7_number_129 : decode cX7_number 129 = .ok (.aload_n 0, 1) := by decide +kernel
theorem dX7_number_130 : decode cX7_number 130 = .ok (.dup, 1) := by decide +kernel
theorem dX7_number_131 : decode cX7_number 131 = .ok (.getfield 119, 3) := by decide +kernel
theorem dX7_number_134 : decode cX7_number 134 = .ok (.iconst 1, 1) := by decide +kernel
theorem dX7_number_135 : decode cX7_number 135 = .ok (.iadd, 1) := by decide +kernel
theorem dX7_number_136 : decode cX7_number 136 = .ok (.putfield 119, 3) := by decide +kernel
theorem dX7_number_139 : decode cX7_number 139 = .ok (.goto (-68), 3) := by decide +kernel
theorem dX7_number_142 : decode cX7_number 142 = .ok (.aload_n 0, 1) := by decide +kernel
theorem dX7_number_143 : decode cX7_number 143 = .ok (.getfield 25, 3) := by decide +kernel
theorem dX7_number_146 : decode cX7_number 146 = .ok (.iconst 4, 1) := by decide +kernel
theorem dX7_number_147 : decode cX7_number 147 = .ok (.aload_n 0, 1) := by decide +kernel
theorem dX7_number_148 : decode cX7_number 148 = .ok (.getfield 126, 3) := by decide +kernel
theorem dX7_number_151 : decode cX7_number 151 = .ok (.imul, 1) := by decide +kernel
theorem dX7_number_152 : decode cX7_number 152 = .ok (.iload_n 1, 1) := by decide +kernel
theorem dX7_number_153 : decode cX7_number 153 = .ok (.iadd, 1) := by decide +kernel
theorem dX7_number_154 : decode cX7_number 154 = .ok (.iload 6, 2) := by decide +kernel
theorem dX7_number_156 : decode cX7_number 156 = .ok (.iastore, 1) := by decide +kernel
theorem dX7_number_157 : decode cX7_number 157 = .ok (.iconst 1, 1) := by decide +kernel
theorem dX7_number_158 : decode cX7_number 158 = .ok (.ireturn, 1) := by decide +kernel
set_option maxRecDepth 20000 in
theorem ggX7_readSteps_X7_number : GoodIn wsX7_readSteps wsX7_number := goodIn_r _ [7, 8, 9, 1, 2, 10, 11, 12, 6, 13, 14, 15, 16, 17, 22, 23, 24, 25, 26, 27, 28, 29, 30, 31, 32, 33, 34] (by decide +kernel) (by decide +kernel)
set_option maxRecDepth 20000 in
theorem gX7_readSteps_X7_number : GoodIn wsX7_readSteps (wsV RX7 129 RX7 yX7_number wsX7_number) := goodIn_app (goodIn_of _ (by decide +kernel)) ggX7_readSteps_X7_number
set_option maxRecDepth 20000 in
theorem ggX7_readSteps_X7_takes : GoodIn wsX7_readSteps wsX7_takes := goodIn_r _ [21, 9, 10, 11, 12, 6, 13, 14, 8, 15, 16, 17, 22, 23, 24, 25, 26, 27, 28, 29, 30, 31, 32, 33, 34] (by decide +kernel) (by decide +kernel)
set_option maxRecDepth 20000 in
theorem gX7_readSteps_X7_takes : GoodIn wsX7_readSteps (wsV RX7 132 RX7 yX7_takes wsX7_takes) := goodIn_app (goodIn_of _ (by decide +kernel)) ggX7_readSteps_X7_takes
theorem dX7_readSteps_0 : decode cX7_readSteps 0 = .ok (.aload_n 0, 1) := by decide +kernel
theorem dX7_readSteps_1 : decode cX7_readSteps 1 = .ok (.iconst 1, 1) := by decide +kernel
theorem dX7_readSteps_2 : decode cX7_readSteps 2 = .ok (.iconst 0, 1) := by decide +kernel
theorem dX7_readSteps_3 : decode cX7_readSteps 3 = .ok (.iconst 2, 1) := by decide +kernel
theorem dX7_readSteps_4 : decode cX7_readSteps 4 = .ok (.invokevirtual 129, 3) := by decide +kernel
theorem dX7_readSteps_7 : decode cX7_readSteps 7 = .ok (.ifCond .eq 27, 3) := by decide +kernel
theorem dX7_readSteps_10 : decode cX7_readSteps 10 = .ok (.aload_n 0, 1) := by decide +kernel
theorem dX7_readSteps_11 : decode cX7_readSteps 11 = .ok (.bipush 58, 2) := by decide +kernel
theorem dX7_readSteps_13 : decode cX7_readSteps 13 = .ok (.invokevirtual 132, 3) := by decide +kernel
theorem dX7_readSteps_16 : decode cX7_readSteps 16 = .ok (.ifCond .eq 18, 3) := by decide +kernel
theorem dX7_readSteps_19 : decode cX7_readSteps 19 = .ok (.aload_n 0, 1) := by decide +kernel
theorem dX7_readSteps_20 : decode cX7_readSteps 20 = .ok (.iconst 2, 1) := by decide +kernel
theorem dX7_readSteps_21 : decode cX7_readSteps 21 = .ok (.iconst 0, 1) := by decide +kernel
theorem dX7_readSteps_22 : decode cX7_readSteps 22 = .ok (.bipush 99, 2) := by decide +kernel
theorem dX7_readSteps_24 : decode cX7_readSteps 24 = .ok (.invokevirtual 129, 3) := by decide +kernel
theorem dX7_readSteps_27 : decode cX7_readSteps 27 = .ok (.ifCond .eq 7, 3) := by decide +kernel
theorem dX7_readSteps_30 : decode cX7_readSteps 30 = .ok (.iconst 1, 1) := by decide +kernel
theorem dX7_readSteps_31 : decode cX7_readSteps 31 = .ok (.goto 4, 3) := by decide +kernel
theorem dX7_readSteps_34 : decode cX7_readSteps 34 = .ok (.iconst 0, 1) := by decide +kernel
theorem dX7_readSteps_35 : decode cX7_readSteps 35 = .ok (.istore_n 1, 1) := by decide +kernel
theorem dX7_readSteps_36 : decode cX7_readSteps 36 = .ok (.iload_n 1, 1) := by decide +kernel
theorem dX7_readSteps_37 : decode cX7_readSteps 37 = .ok (.ifCond .eq 16, 3) := by decide +kernel
theorem dX7_readSteps_40 : decode cX7_readSteps 40 = .ok (.aload_n 0, 1) := by decide +kernel
theorem dX7_readSteps_41 : decode cX7_readSteps 41 = .ok (.bipush 43, 2) := by decide +kernel
theorem dX7_readSteps_43 : decode cX7_readSteps 43 = .ok (.invokevirtual 132, 3) := by decide +kernel
theorem dX7_readSteps_46 : decode cX7_readSteps 46 = .ok (.ifCond .eq 7, 3) := by decide +kernel
theorem dX7_readSteps_49 : decode cX7_readSteps 49 = .ok (.iconst 1, 1) := by decide +kernel
theorem dX7_readSteps_50 : decode cX7_readSteps 50 = .ok (.goto 4, 3) := by decide +kernel
theorem dX7_readSteps_53 : decode cX7_readSteps 53 = .ok (.iconst 0, 1) := by decide +kernel
theorem dX7_readSteps_54 : decode cX7_readSteps 54 = .ok (.istore_n 2, 1) := by decide +kernel
theorem dX7_readSteps_55 : decode cX7_readSteps 55 = .ok (.iload_n 1, 1) := by decide +kernel
theorem dX7_readSteps_56 : decode cX7_readSteps 56 = .ok (.ifCond .eq 27, 3) := by decide +kernel
theorem dX7_readSteps_59 : decode cX7_readSteps 59 = .ok (.iload_n 2, 1) := by decide +kernel
theorem dX7_readSteps_60 : decode cX7_readSteps 60 = .ok (.ifCond .ne 12, 3) := by decide +kernel
theorem dX7_readSteps_63 : decode cX7_readSteps 63 = .ok (.aload_n 0, 1) := by decide +kernel
theorem dX7_readSteps_64 : decode cX7_readSteps 64 = .ok (.bipush 45, 2) := by decide +kernel
theorem dX7_readSteps_66 : decode cX7_readSteps 66 = .ok (.invokevirtual 132, 3) := by decide +kernel
theorem dX7_readSteps_69 : decode cX7_readSteps 69 = .ok (.ifCond .eq 14, 3) := by decide +kernel
theorem dX7_readSteps_72 : decode cX7_readSteps 72 = .ok (.aload_n 0, 1) := by decide +kernel
theorem dX7_readSteps_73 : decode cX7_readSteps 73 = .ok (.iconst 3, 1) := by decide +kernel
theorem dX7_readSteps_74 : decode cX7_readSteps 74 = .ok (.iconst 0, 1) := by decide +kernel
theorem dX7_readSteps_75 : decode cX7_readSteps 75 = .ok (.bipush 50, 2) := by decide +kernel
theorem dX7_readSteps_77 : decode cX7_readSteps 77 = .ok (.invokevirtual 129, 3) := by decide +kernel
theorem dX7_readSteps_80 : decode cX7_readSteps 80 = .ok (.ifCond .ne 5, 3) := by decide +kernel
theorem dX7_readSteps_83 : decode cX7_readSteps 83 = .ok (.iconst 0, 1) := by decide +kernel
theorem dX7_readSteps_84 : decode cX7_readSteps 84 = .ok (.ireturn, 1) := by decide +kernel
theorem dX7_readSteps_85 : decode cX7_readSteps 85 = .ok (.aload_n 0, 1) := by decide +kernel
theorem dX7_readSteps_86 : decode cX7_readSteps 86 = .ok (.getfield 25, 3) := by decide +kernel
theorem dX7_readSteps_89 : decode cX7_readSteps 89 = .ok (.iconst 4, 1) := by decide +kernel
theorem dX7_readSteps_90 : decode cX7_readSteps 90 = .ok (.aload_n 0, 1) := by decide +kernel
theorem dX7_readSteps_91 : decode cX7_readSteps 91 = .ok (.getfield 126, 3) := by decide +kernel
theorem dX7_readSteps_94 : decode cX7_readSteps 94 = .ok (.imul, 1) := by decide +kernel
theorem dX7_readSteps_95 : decode cX7_readSteps 95 = .ok (.iconst 3, 1) := by decide +kernel
theorem dX7_readSteps_96 : decode cX7_readSteps 96 = .ok (.iadd, 1) := by decide +kernel
theorem dX7_readSteps_97 : decode cX7_readSteps 97 = .ok (.dup2, 1) := by decide +kernel
theorem dX7_readSteps_98 : decode cX7_readSteps 98 = .ok (.iaload, 1) := by decide +kernel
theorem dX7_readSteps_99 : decode cX7_readSteps 99 = .ok (.iload_n 2, 1) := by decide +kernel
theorem dX7_readSteps_100 : decode cX7_readSteps 100 = .ok (.ifCond .eq 7, 3) := by decide +kernel
theorem dX7_readSteps_103 : decode cX7_readSteps 103 = .ok (.iconst 1, 1) := by decide +kernel
theorem dX7_readSteps_104 : decode cX7_readSteps 104 = .ok (.goto 4, 3) := by decide +kernel
theorem dX7_readSteps_107 : decode cX7_readSteps 107 = .ok (.iconst (-1), 1) := by decide +kernel
theorem dX7_readSteps_108 : decode cX7_readSteps 108 = .ok (.imul, 1) := by decide +kernel
theorem dX7_readSteps_109 : decode cX7_readSteps 109 = .ok (.iastore, 1) := by decide +kernel
theorem dX7_readSteps_110 : decode cX7_readSteps 110 = .ok (.iconst 1, 1) := by decide +kernel
theorem dX7_readSteps_111 : decode cX7_readSteps 111 = .ok (.ireturn, 1) := by decide +kernel
set_option maxRecDepth 20000 in
theorem ggX7_readThing_X7_number : GoodIn wsX7_readThing wsX7_number := goodIn_r _ [10, 3, 1, 4, 5, 11, 12, 13, 9, 14, 2, 15, 16, 17, 26, 27, 28, 29, 30, 31, 32, 33, 34, 35, 36, 37, 38] (by decide +kernel) (by decide +kernel)
set_option maxRecDepth 20000 in
theorem gX7_readThing_X7_number : GoodIn wsX7_readThing (wsV RX7 129 RX7 yX7_number wsX7_number) := goodIn_app (goodIn_of _ (by decide +kernel)) ggX7_readThing_X7_number
set_option maxRecDepth 20000 in
theorem ggX7_readThing_X7_takes : GoodIn wsX7_readThing wsX7_takes := goodIn_r _ [21, 1, 11, 12, 13, 9, 14, 2, 3, 15, 16, 17, 26, 27, 28, 29, 30, 31, 32, 33, 34, 35, 36, 37, 38] (by decide +kernel) (by decide +kernel)
set_option maxRecDepth 20000 in
theorem gX7_readThing_X7_takes : GoodIn wsX7_readThing (wsV RX7 132 RX7 yX7_takes wsX7_takes) := goodIn_app (goodIn_of _ (by decide +kernel)) ggX7_readThing_X7_takes
set_option maxRecDepth 20000 in
theorem ggX7_readThing_X7_readSteps : GoodIn wsX7_readThing wsX7_readSteps := goodIn_r _ [25, 4, 5, 6, 7, 8, 9, 10, 3, 1, 11, 12, 13, 14, 2, 15, 16, 17, 18, 19, 20, 21, 26, 27, 28, 29, 30, 31, 32, 33, 34, 35, 36, 37, 38] (by decide +kernel) (by decide +kernel)
set_option maxRecDepth 20000 in
theorem gX7_readThing_X7_readSteps : GoodIn wsX7_readThing (wsV RX7 135 RX7 yX7_readSteps wsX7_readSteps) := goodIn_app (goodIn_of _ (by decide +kernel)) ggX7_readThing_X7_readSteps
theorem dX7_readThing_0 : decode cX7_readThing 0 = .ok (.aload_n 0, 1) := by decide +kernel
theorem dX7_readThing_1 : decode cX7_readThing 1 = .ok (.getfield 119, 3) := by decide +kernel
theorem dX7_readThing_4 : decode cX7_readThing 4 = .ok (.aload_n 0, 1) := by decide +kernel
theorem dX7_readThing_5 : decode cX7_readThing 5 = .ok (.getfield 116, 3) := by decide +kernel
theorem dX7_readThing_8 : decode cX7_readThing 8 = .ok (.if_icmp .ge 15, 3) := by decide +kernel
theorem dX7_readThing_11 : decode cX7_readThing 11 = .ok (.aload_n 0, 1) := by decide +kernel
theorem dX7_readThing_12 : decode cX7_readThing 12 = .ok (.getfield 22, 3) := by decide +kernel
theorem dX7_readThing_15 : decode cX7_readThing 15 = .ok (.aload_n 0, 1) := by decide +kernel
theorem dX7_readThing_16 : decode cX7_readThing 16 = .ok (.getfield 119, 3) := by decide +kernel
theorem dX7_readThing_19 : decode cX7_readThing 19 = .ok (.iaload, 1) := by decide +kernel
theorem dX7_readThing_20 : decode cX7_readThing 20 = .ok (.goto 4, 3) := by decide +kernel
theorem dX7_readThing_23 : decode cX7_readThing 23 = .ok (.iconst 0, 1) := by decide +kernel
theorem dX7_readThing_24 : decode cX7_readThing 24 = .ok (.istore_n 1, 1) := by decide +kernel
theorem dX7_readThing_25 : decode cX7_readThing 25 = .ok (.iload_n 1, 1) := by decide +kernel
theorem dX7_readThing_26 : decode cX7_readThing 26 = .ok (.bipush 112, 2) := by decide +kernel
theorem dX7_readThing_28 : decode cX7_readThing 28 = .ok (.if_icmp .eq 29, 3) := by decide +kernel
theorem dX7_readThing_31 : decode cX7_readThing 31 = .ok (.iload_n 1, 1) := by decide +kernel
theorem dX7_readThing_32 : decode cX7_readThing 32 = .ok (.bipush 116, 2) := by decide +kernel
theorem dX7_readThing_34 : decode cX7_readThing 34 = .ok (.if_icmp .eq 23, 3) := by decide +kernel
theorem dX7_readThing_37 : decode cX7_readThing 37 = .ok (.iload_n 1, 1) := by decide +kernel
theorem dX7_readThing_38 : decode cX7_readThing 38 = .ok (.bipush 118, 2) := by decide +kernel
theorem dX7_readThing_40 : decode cX7_readThing 40 = .ok (.if_icmp .eq 17, 3) := by decide +kernel
theorem dX7_readThing_43 : decode cX7_readThing 43 = .ok (.iload_n 1, 1) := by decide +kernel
theorem dX7_readThing_44 : decode cX7_readThing 44 = .ok (.bipush 115, 2) := by decide +kernel
theorem dX7_readThing_46 : decode cX7_readThing 46 = .ok (.if_icmp .eq 11, 3) := by decide +kernel
theorem dX7_readThing_49 : decode cX7_readThing 49 = .ok (.iload_n 1, 1) := by decide +kernel
theorem dX7_readThing_50 : decode cX7_readThing 50 = .ok (.bipush 46, 2) := by decide +kernel
theorem dX7_readThing_52 : decode cX7_readThing 52 = .ok (.if_icmp .eq 5, 3) := by decide +kernel
theorem dX7_readThing_55 : decode cX7_readThing 55 = .ok (.iconst 0, 1) := by decide +kernel
theorem dX7_readThing_56 : decode cX7_readThing 56 = .ok (.ireturn, 1) := by decide +kernel
theorem dX7_readThing_57 : decode cX7_readThing 57 = .ok (.aload_n 0, 1) := by decide +kernel
theorem dX7_readThing_58 : decode cX7_readThing 58 = .ok (.dup, 1) := by decide +kernel
theorem dX7_readThing_59 : decode cX7_readThing 59 = .ok (.getfield 119, 3) := by decide +kernel
theorem dX7_readThing_62 : decode cX7_readThing 62 = .ok (.iconst 1, 1) := by decide +kernel
theorem dX7_readThing_63 : decode cX7_readThing 63 = .ok (.iadd, 1) := by decide +kernel
theorem dX7_readThing_64 : decode cX7_readThing 64 = .ok (.putfield 119, 3) := by decide +kernel
theorem dX7_readThing_67 : decode cX7_readThing 67 = .ok (.aload_n 0, 1) := by decide +kernel
theorem dX7_readThing_68 : decode cX7_readThing 68 = .ok (.getfield 25, 3) := by decide +kernel
theorem dX7_readThing_71 : decode cX7_readThing 71 = .ok (.iconst 4, 1) := by decide +kernel
theorem dX7_readThing_72 : decode cX7_readThing 72 = .ok (.aload_n 0, 1) := by decide +kernel
theorem dX7_readThing_73 : decode cX7_readThing 73 = .ok (.getfield 126, 3) := by decide +kernel
theorem dX7_readThing_76 : decode cX7_readThing 76 = .ok (.imul, 1) := by decide +kernel
theorem dX7_readThing_77 : decode cX7_readThing 77 = .ok (.iload_n 1, 1) := by decide +kernel
theorem dX7_readThing_78 : decode cX7_readThing 78 = .ok (.iastore, 1) := by decide +kernel
theorem dX7_readThing_79 : decode cX7_readThing 79 = .ok (.iload_n 1, 1) := by decide +kernel
theorem dX7_readThing_80 : decode cX7_readThing 80 = .ok (.tableswitch 171 112 118 #[44, 171, 171, 163, 93, 171, 123], 44) := by decide +kernel
theorem dX7_readThing_124 : decode cX7_readThing 124 = .ok (.aload_n 0, 1) := by decide +kernel
theorem dX7_readThing_125 : decode cX7_readThing 125 = .ok (.iconst 1, 1) := by decide +kernel
theorem dX7_readThing_126 : decode cX7_readThing 126 = .ok (.iconst 0, 1) := by decide +kernel
theorem dX7_readThing_127 : decode cX7_readThing 127 = .ok (.iconst 2, 1) := by decide +kernel
theorem dX7_readThing_128 : decode cX7_readThing 128 = .ok (.invokevirtual 129, 3) := by decide +kernel
theorem dX7_readThing_131 : decode cX7_readThing 131 = .ok (.ifCond .eq 37, 3) := by decide +kernel
theorem dX7_readThing_134 : decode cX7_readThing 134 = .ok (.aload_n 0, 1) := by decide +kernel
theorem dX7_readThing_135 : decode cX7_readThing 135 = .ok (.iconst 2, 1) := by decide +kernel
theorem dX7_readThing_136 : decode cX7_readThing 136 = .ok (.iconst 0, 1) := by decide +kernel
theorem dX7_readThing_137 : decode cX7_readThing 137 = .ok (.bipush 7, 2) := by decide +kernel
theorem dX7_readThing_139 : decode cX7_readThing 139 = .ok (.invokevirtual 129, 3) := by decide +kernel
theorem dX7_readThing_142 : decode cX7_readThing 142 = .ok (.ifCond .eq 26, 3) := by decide +kernel
theorem dX7_readThing_145 : decode cX7_readThing 145 = .ok (.aload_n 0, 1) := by decide +kernel
theorem dX7_readThing_146 : decode cX7_readThing 146 = .ok (.bipush 58, 2) := by decide +kernel
theorem dX7_readThing_148 : decode cX7_readThing 148 = .ok (.invokevirtual 132, 3) := by decide +kernel
theorem dX7_readThing_151 : decode cX7_readThing 151 = .ok (.ifCond .eq 17, 3) := by decide +kernel
theorem dX7_readThing_154 : decode cX7_readThing 154 = .ok (.aload_n 0, 1) := by decide +kernel
theorem dX7_readThing_155 : decode cX7_readThing 155 = .ok (.iconst 3, 1) := by decide +kernel
theorem dX7_readThing_156 : decode cX7_readThing 156 = .ok (.iconst 0, 1) := by decide +kernel
theorem dX7_readThing_157 : decode cX7_readThing 157 = .ok (.iconst 5, 1) := by decide +kernel
theorem dX7_readThing_158 : decode cX7_readThing 158 = .ok (.invokevirtual 129, 3) := by decide +kernel
theorem dX7_readThing_161 : decode cX7_readThing 161 = .ok (.ifCond .eq 7, 3) := by decide +kernel
theorem dX7_readThing_164 : decode cX7_readThing 164 = .ok (.iconst 1, 1) := by decide +kernel
theorem dX7_readThing_165 : decode cX7_readThing 165 = .ok (.goto 4, 3) := by decide +kernel
theorem dX7_readThing_168 : decode cX7_readThing 168 = .ok (.iconst 0, 1) := by decide +kernel
theorem dX7_readThing_169 : decode cX7_readThing 169 = .ok (.istore_n 2, 1) := by decide +kernel
theorem dX7_readThing_170 : decode cX7_readThing 170 = .ok (.goto 91, 3) := by decide +kernel
theorem dX7_readThing_173 : decode cX7_readThing 173 = .ok (.aload_n 0, 1) := by decide +kernel
theorem dX7_readThing_174 : decode cX7_readThing 174 = .ok (.iconst 1, 1) := by decide +kernel
theorem dX7_readThing_175 : decode cX7_readThing 175 = .ok (.iconst 0, 1) := by decide +kernel
theorem dX7_readThing_176 : decode cX7_readThing 176 = .ok (.iconst 2, 1) := by decide +kernel
theorem dX7_readThing_177 : decode cX7_readThing 177 = .ok (.invokevirtual 129, 3) := by decide +kernel
theorem dX7_readThing_180 : decode cX7_readThing 180 = .ok (.ifCond .eq 18, 3) := by decide +kernel
theorem dX7_readThing_183 : decode cX7_readThing 183 = .ok (.aload_n 0, 1) := by decide +kernel
theorem dX7_readThing_184 : decode cX7_readThing 184 = .ok (.iconst 2, 1) := by decide +kernel
theorem dX7_readThing_185 : decode cX7_readThing 185 = .ok (.iconst 0, 1) := by decide +kernel
theorem dX7_readThing_186 : decode cX7_readThing 186 = .ok (.bipush 7, 2) := by decide +kernel
theorem dX7_readThing_188 : decode cX7_readThing 188 = .ok (.invokevirtual 129, 3) := by decide +kernel
theorem dX7_readThing_191 : decode cX7_readThing 191 = .ok (.ifCond .eq 7, 3) := by decide +kernel
theorem dX7_readThing_194 : decode cX7_readThing 194 = .ok (.iconst 1, 1) := by decide +kernel
theorem dX7_readThing_195 : decode cX7_readThing 195 = .ok (.goto 4, 3) := by decide +kernel
theorem dX7_readThing_198 : decode cX7_readThing 198 = .ok (.iconst 0, 1) := by decide +kernel
theorem dX7_readThing_199 : decode cX7_readThing 199 = .ok (.istore_n 2, 1) := by decide +kernel
theorem dX7_readThing_200 : decode cX7_readThing 200 = .ok (.goto 61, 3) := by decide +kernel
theorem dX7_readThing_203 : decode cX7_readThing 203 = .ok (.aload_n 0, 1) := by decide +kernel
theorem dX7_readThing_204 : decode cX7_readThing 204 = .ok (.iconst 1, 1) := by decide +kernel
theorem dX7_readThing_205 : decode cX7_readThing 205 = .ok (.iconst 0, 1) := by decide +kernel
theorem dX7_readThing_206 : decode cX7_readThing 206 = .ok (.iconst 2, 1) := by decide +kernel
theorem dX7_readThing_207 : decode cX7_readThing 207 = .ok (.invokevirtual 129, 3) := by decide +kernel
theorem dX7_readThing_210 : decode cX7_readThing 210 = .ok (.ifCond .eq 28, 3) := by decide +kernel
theorem dX7_readThing_213 : decode cX7_readThing 213 = .ok (.aload_n 0, 1) := by decide +kernel
theorem dX7_readThing_214 : decode cX7_readThing 214 = .ok (.bipush 58, 2) := by decide +kernel
theorem dX7_readThing_216 : decode cX7_readThing 216 = .ok (.invokevirtual 132, 3) := by decide +kernel
theorem dX7_readThing_219 : decode cX7_readThing 219 = .ok (.ifCond .eq 19, 3) := by decide +kernel
theorem dX7_readThing_222 : decode cX7_readThing 222 = .ok (.aload_n 0, 1) := by decide +kernel
theorem dX7_readThing_223 : decode cX7_readThing 223 = .ok (.iconst 2, 1) := by decide +kernel
theorem dX7_readThing_224 : decode cX7_readThing 224 = .ok (.iconst 0, 1) := by decide +kernel
theorem dX7_readThing_225 : decode cX7_readThing 225 = .ok (.sipush 300, 3) := by decide +kernel
theorem dX7_readThing_228 : decode cX7_readThing 228 = .ok (.invokevirtual 129, 3) := by decide +kernel
theorem dX7_readThing_231 : decode cX7_readThing 231 = .ok (.ifCond .eq 7, 3) := by decide +kernel
theorem dX7_readThing_234 : decode cX7_readThing 234 = .ok (.iconst 1, 1) := by decide +kernel
theorem dX7_readThing_235 : decode cX7_readThing 235 = .ok (.goto 4, 3) := by decide +kernel
theorem dX7_readThing_238 : decode cX7_readThing 238 = .ok (.iconst 0, 1) := by decide +kernel
theorem dX7_readThing_239 : decode cX7_readThing 239 = .ok (.istore_n 2, 1) := by decide +kernel
theorem dX7_readThing_240 : decode cX7_readThing 240 = .ok (.goto 21, 3) := by decide +kernel
theorem dX7_readThing_243 : decode cX7_readThing 243 = .ok (.aload_n 0, 1) := by decide +kernel
theorem dX7_readThing_244 : decode cX7_readThing 244 = .ok (.invokevirtual 135, 3) := by decide +kernel
theorem dX7_readThing_247 : decode cX7_readThing 247 = .ok (.istore_n 2, 1) := by decide +kernel
theorem dX7_readThing_248 : decode cX7_readThing 248 = .ok (.goto 13, 3) := by decide +kernel
theorem dX7_readThing_251 : decode cX7_readThing 251 = .ok (.aload_n 0, 1) := by decide +kernel
theorem dX7_readThing_252 : decode cX7_readThing 252 = .ok (.iconst 1, 1) := by decide +kernel
theorem dX7_readThing_253 : decode cX7_readThing 253 = .ok (.iconst 1, 1) := by decide +kernel
theorem dX7_readThing_254 : decode cX7_readThing 254 = .ok (.sipush 999, 3) := by decide +kernel
theorem dX7_readThing_257 : decode cX7_readThing 257 = .ok (.invokevirtual 129, 3) := by decide +kernel
theorem dX7_readThing_260 : decode cX7_readThing 260 = .ok (.istore_n 2, 1) := by decide +kernel
theorem dX7_readThing_261 : decode cX7_readThing 261 = .ok (.aload_n 0, 1) := by decide +kernel
theorem dX7_readThing_262 : decode cX7_readThing 262 = .ok (.dup, 1) := by decide +kernel
theorem dX7_readThing_263 : decode cX7_readThing 263 = .ok (.getfield 126, 3) := by decide +kernel
theorem dX7_readThing_266 : decode cX7_readThing 266 = .ok (.iconst 1, 1) := by decide +kernel
theorem dX7_readThing_267 : decode cX7_readThing 267 = .ok (.iadd, 1) := by decide +kernel
theorem dX7_readThing_268 : decode cX7_readThing 268 = .ok (.putfield 126, 3) := by decide +kernel
theorem dX7_readThing_271 : decode cX7_readThing 271 = .ok (.iload_n 2, 1) := by decide +kernel
theorem dX7_readThing_272 : decode cX7_readThing 272 = .ok (.ireturn, 1) := by decide +kernel
set_option maxRecDepth 20000 in
theorem ggX7_readText_X7_readThing : GoodIn wsX7_readText wsX7_readThing := goodIn_r _ [8, 1, 3, 9, 10, 2, 11, 12, 13, 7, 14, 15, 16, 17, 18, 19, 20, 21, 22, 23, 24, 25, 26, 27, 28, 29, 30, 31, 32, 33, 34, 35, 36, 37, 38, 39, 40, 41, 42] (by decide +kernel) (by decide +kernel)
set_option maxRecDepth 20000 in
theorem gX7_readText_X7_readThing : GoodIn wsX7_readText (wsV RX7 139 RX7 yX7_readThing wsX7_readThing) := goodIn_app (goodIn_of _ (by decide +kernel)) ggX7_readText_X7_readThing
set_option maxRecDepth 20000 in
theorem ggX7_readText_X7_takes : GoodIn wsX7_readText wsX7_takes := goodIn_r _ [25, 1, 15, 16, 17, 7, 18, 3, 9, 19, 20, 21, 30, 31, 32, 33, 34, 35, 36, 37, 38, 39, 40, 41, 42] (by decide +kernel) (by decide +kernel)
set_option maxRecDepth 20000 in
theorem gX7_readText_X7_takes : GoodIn wsX7_readText (wsV RX7 132 RX7 yX7_takes wsX7_takes) := goodIn_app (goodIn_of _ (by decide +kernel)) ggX7_readText_X7_takes
theorem dX7_readText_0 : decode cX7_readText 0 = .ok (.aload_n 0, 1) := by decide +kernel
theorem dX7_readText_1 : decode cX7_readText 1 = .ok (.iconst 0, 1) := by decide +kernel
theorem dX7_readText_2 : decode cX7_readText 2 = .ok (.putfield 119, 3) := by decide +kernel
theorem dX7_readText_5 : decode cX7_readText 5 = .ok (.aload_n 0, 1) := by decide +kernel
theorem dX7_readText_6 : decode cX7_readText 6 = .ok (.iconst 0, 1) := by decide +kernel
theorem dX7_readText_7 : decode cX7_readText 7 = .ok (.putfield 126, 3) := by decide +kernel
theorem dX7_readText_10 : decode cX7_readText 10 = .ok (.aload_n 0, 1) := by decide +kernel
theorem dX7_readText_11 : decode cX7_readText 11 = .ok (.invokevirtual 139, 3) := by decide +kernel
theorem dX7_readText_14 : decode cX7_readText 14 = .ok (.istore_n 1, 1) := by decide +kernel
theorem dX7_readText_15 : decode cX7_readText 15 = .ok (.iload_n 1, 1) := by decide +kernel
theorem dX7_readText_16 : decode cX7_readText 16 = .ok (.ifCond .eq 39, 3) := by decide +kernel
theorem dX7_readText_19 : decode cX7_readText 19 = .ok (.aload_n 0, 1) := by decide +kernel
theorem dX7_readText_20 : decode cX7_readText 20 = .ok (.getfield 119, 3) := by decide +kernel
theorem dX7_readText_23 : decode cX7_readText 23 = .ok (.aload_n 0, 1) := by decide +kernel
theorem dX7_readText_24 : decode cX7_readText 24 = .ok (.getfield 116, 3) := by decide +kernel
theorem dX7_readText_27 : decode cX7_readText 27 = .ok (.if_icmp .ge 28, 3) := by decide +kernel
theorem dX7_readText_30 : decode cX7_readText 30 = .ok (.aload_n 0, 1) := by decide +kernel
theorem dX7_readText_31 : decode cX7_readText 31 = .ok (.bipush 59, 2) := by decide +kernel
theorem dX7_readText_33 : decode cX7_readText 33 = .ok (.invokevirtual 132, 3) := by decide +kernel
theorem dX7_readText_36 : decode cX7_readText 36 = .ok (.ifCond .eq 14, 3) := by decide +kernel
theorem dX7_readText_39 : decode cX7_readText 39 = .ok (.aload_n 0, 1) := by decide +kernel
theorem dX7_readText_40 : decode cX7_readText 40 = .ok (.invokevirtual 139, 3) := by decide +kernel
theorem dX7_readText_43 : decode cX7_readText 43 = .ok (.ifCond .eq 7, 3) := by decide +kernel
theorem dX7_readText_46 : decode cX7_readText 46 = .ok (.iconst 1, 1) := by decide +kernel
theorem dX7_readText_47 : decode cX7_readText 47 = .ok (.goto 4, 3) := by decide +kernel
theorem dX7_readText_50 : decode cX7_readText 50 = .ok (.iconst 0, 1) := by decide +kernel
theorem dX7_readText_51 : decode cX7_readText 51 = .ok (.istore_n 1, 1) := by decide +kernel
theorem dX7_readText_52 : decode cX7_readText 52 = .ok (.goto (-37), 3) := by decide +kernel
theorem dX7_readText_55 : decode cX7_readText 55 = .ok (.iload_n 1, 1) := by decide +kernel
theorem dX7_readText_56 : decode cX7_readText 56 = .ok (.ireturn, 1) := by decide +kernel
set_option maxRecDepth 20000 in
theorem ggX7_whyNot_X7_whyNotPut : GoodIn wsX7_whyNot wsX7_whyNotPut := goodIn_r _ [6, 7, 8, 9, 5, 10, 11, 12, 13, 14, 15, 16, 17, 18, 19, 20, 21, 22, 23, 24, 25, 26, 27, 33, 34, 35, 36, 37, 38, 39, 40, 41, 42, 43, 44, 45] (by decide +kernel) (by decide +kernel)
set_option maxRecDepth 20000 in
theorem gX7_whyNot_X7_whyNotPut : GoodIn wsX7_whyNot (wsV RX7 72 RX7 yX7_whyNotPut wsX7_whyNotPut) := goodIn_app (goodIn_of _ (by decide +kernel)) ggX7_whyNot_X7_whyNotPut
set_option maxRecDepth 20000 in
theorem ggX7_whyNot_X7_whyNotPass : GoodIn wsX7_whyNot wsX7_whyNotPass := goodIn_r _ [31, 7, 32, 11, 12, 5, 13, 33, 34, 35, 36, 37, 38, 39, 40, 41, 42, 43, 44, 45] (by decide +kernel) (by decide +kernel)
set_option maxRecDepth 20000 in
theorem gX7_whyNot_X7_whyNotPass : GoodIn wsX7_whyNot (wsV RX7 109 RX7 yX7_whyNotPass wsX7_whyNotPass) := goodIn_app (goodIn_of _ (by decide +kernel)) ggX7_whyNot_X7_whyNotPass
theorem dX7_whyNot_0 : decode cX7_whyNot 0 = .ok (.aload_n 0, 1) := by decide +kernel
theorem dX7_whyNot_1 : decode cX7_whyNot 1 = .ok (.getfield 25, 3) := by decide +kernel
theorem dX7_whyNot_4 : decode cX7_whyNot 4 = .ok (.iconst 4, 1) := by decide +kernel
theorem dX7_whyNot_5 : decode cX7_whyNot 5 = .ok (.iload_n 1, 1) := by decide +kernel
theorem dX7_whyNot_6 : decode cX7_whyNot 6 = .ok (.imul, 1) := by decide +kernel
theorem dX7_whyNot_7 : decode cX7_whyNot 7 = .ok (.iconst 1, 1) := by decide +kernel
theorem dX7_whyNot_8 : decode cX7_whyNot 8 = .ok (.iadd, 1) := by decide +kernel
theorem dX7_whyNot_9 : decode cX7_whyNot 9 = .ok (.iaload, 1) := by decide +kernel
theorem dX7_whyNot_10 : decode cX7_whyNot 10 = .ok (.istore_n 2, 1) := by decide +kernel
theorem dX7_whyNot_11 : decode cX7_whyNot 11 = .ok (.aload_n 0, 1) := by decide +kernel
theorem dX7_whyNot_12 : decode cX7_whyNot 12 = .ok (.getfield 25, 3) := by decide +kernel
theorem dX7_whyNot_15 : decode cX7_whyNot 15 = .ok (.iconst 4, 1) := by decide +kernel
theorem dX7_whyNot_16 : decode cX7_whyNot 16 = .ok (.iload_n 1, 1) := by decide +kernel
theorem dX7_whyNot_17 : decode cX7_whyNot 17 = .ok (.imul, 1) := by decide +kernel
theorem dX7_whyNot_18 : decode cX7_whyNot 18 = .ok (.iaload, 1) := by decide +kernel
theorem dX7_whyNot_19 : decode cX7_whyNot 19 = .ok (.istore_n 3, 1) := by decide +kernel
theorem dX7_whyNot_20 : decode cX7_whyNot 20 = .ok (.iload_n 3, 1) := by decide +kernel
theorem dX7_whyNot_21 : decode cX7_whyNot 21 = .ok (.bipush 112, 2) := by decide +kernel
theorem dX7_whyNot_23 : decode cX7_whyNot 23 = .ok (.if_icmp .ne 31, 3) := by decide +kernel
theorem dX7_whyNot_26 : decode cX7_whyNot 26 = .ok (.aload_n 0, 1) := by decide +kernel
theorem dX7_whyNot_27 : decode cX7_whyNot 27 = .ok (.iload_n 2, 1) := by decide +kernel
theorem dX7_whyNot_28 : decode cX7_whyNot 28 = .ok (.aload_n 0, 1) := by decide +kernel
theorem dX7_whyNot_29 : decode cX7_whyNot 29 = .ok (.getfield 25, 3) := by decide +kernel
theorem dX7_whyNot_32 : decode cX7_whyNot 32 = .ok (.iconst 4, 1) := by decide +kernel
theorem dX7_whyNot_33 : decode cX7_whyNot 33 = .ok (.iload_n 1, 1) := by decide +kernel
theorem dX7_whyNot_34 : decode cX7_whyNot 34 = .ok (.imul, 1) := by decide +kernel
theorem dX7_whyNot_35 : decode cX7_whyNot 35 = .ok (.iconst 2, 1) := by decide +kernel
theorem dX7_whyNot_36 : decode cX7_whyNot 36 = .ok (.iadd, 1) := by decide +kernel
theorem dX7_whyNot_37 : decode cX7_whyNot 37 = .ok (.iaload, 1) := by decide +kernel
theorem dX7_whyNot_38 : decode cX7_whyNot 38 = .ok (.aload_n 0, 1) := by decide +kernel
theorem dX7_whyNot_39 : decode cX7_whyNot 39 = .ok (.getfield 25, 3) := by decide +kernel
theorem dX7_whyNot_42 : decode cX7_whyNot 42 = .ok (.iconst 4, 1) := by decide +kernel
theorem dX7_whyNot_43 : decode cX7_whyNot 43 = .ok (.iload_n 1, 1) := by decide +kernel
theorem dX7_whyNot_44 : decode cX7_whyNot 44 = .ok (.imul, 1) := by decide +kernel
theorem dX7_whyNot_45 : decode cX7_whyNot 45 = .ok (.iconst 3, 1) := by decide +kernel
theorem dX7_whyNot_46 : decode cX7_whyNot 46 = .ok (.iadd, 1) := by decide +kernel
theorem dX7_whyNot_47 : decode cX7_whyNot 47 = .ok (.iaload, 1) := by decide +kernel
theorem dX7_whyNot_48 : decode cX7_whyNot 48 = .ok (.invokevirtual 72, 3) := by decide +kernel
theorem dX7_whyNot_51 : decode cX7_whyNot 51 = .ok (.goto 18, 3) := by decide +kernel
theorem dX7_whyNot_54 : decode cX7_whyNot 54 = .ok (.iload_n 3, 1) := by decide +kernel
theorem dX7_whyNot_55 : decode cX7_whyNot 55 = .ok (.bipush 46, 2) := by decide +kernel
theorem dX7_whyNot_57 : decode cX7_whyNot 57 = .ok (.if_icmp .ne 11, 3) := by decide +kernel
theorem dX7_whyNot_60 : decode cX7_whyNot 60 = .ok (.aload_n 0, 1) := by decide +kernel
theorem dX7_whyNot_61 : decode cX7_whyNot 61 = .ok (.iload_n 2, 1) := by decide +kernel
theorem dX7_whyNot_62 : decode cX7_whyNot 62 = .ok (.invokevirtual 109, 3) := by decide +kernel
theorem dX7_whyNot_65 : decode cX7_whyNot 65 = .ok (.goto 4, 3) := by decide +kernel
theorem dX7_whyNot_68 : decode cX7_whyNot 68 = .ok (.iconst 0, 1) := by decide +kernel
theorem dX7_whyNot_69 : decode cX7_whyNot 69 = .ok (.ireturn, 1) := by decide +kernel
set_option maxRecDepth 20000 in
theorem ggX7_doThing_X7_putNow : GoodIn wsX7_doThing wsX7_putNow := goodIn_r _ [7, 2, 8, 9, 10, 6, 11, 59, 60, 61, 62, 63, 64, 65, 66, 67, 68, 69, 70, 71] (by decide +kernel) (by decide +kernel)
set_option maxRecDepth 20000 in
theorem gX7_doThing_X7_putNow : GoodIn wsX7_doThing (wsV RX7 76 RX7 yX7_putNow wsX7_putNow) := goodIn_app (goodIn_of _ (by decide +kernel)) ggX7_doThing_X7_putNow
set_option maxRecDepth 20000 in
theorem ggX7_doThing_X7_lampAt : GoodIn wsX7_doThing wsX7_lampAt := goodIn_r _ [15, 2, 16, 17, 18, 6, 19, 59, 60, 61, 62, 63, 64, 65, 66, 67, 68, 69, 70, 71] (by decide +kernel) (by decide +kernel)
set_option maxRecDepth 20000 in
theorem gX7_doThing_X7_lampAt : GoodIn wsX7_doThing (wsV RX7 65 RX7 yX7_lampAt wsX7_lampAt) := goodIn_app (goodIn_of _ (by decide +kernel)) ggX7_doThing_X7_lampAt
set_option maxRecDepth 20000 in
theorem ggX7_doThing_X7_moveTo : GoodIn wsX7_doThing wsX7_moveTo := goodIn_r _ [23, 8, 9, 10, 6, 11, 2, 59, 60, 61, 62, 63, 64, 65, 66, 67, 68, 69, 70, 71] (by decide +kernel) (by decide +kernel)
set_option maxRecDepth 20000 in
theorem gX7_doThing_X7_moveTo : GoodIn wsX7_doThing (wsV RX7 79 RX7 yX7_moveTo wsX7_moveTo) := goodIn_app (goodIn_of _ (by decide +kernel)) ggX7_doThing_X7_moveTo
set_option maxRecDepth 20000 in
theorem ggX7_doThing_X7_stepsNow : GoodIn wsX7_doThing wsX7_stepsNow := goodIn_r _ [27, 2, 59, 60, 61, 62, 63, 64, 65, 66, 67, 68, 69, 70, 71] (by decide +kernel) (by decide +kernel)
set_option maxRecDepth 20000 in
theorem gX7_doThing_X7_stepsNow : GoodIn wsX7_doThing (wsV RX7 88 RX7 yX7_stepsNow wsX7_stepsNow) := goodIn_app (goodIn_of _ (by decide +kernel)) ggX7_doThing_X7_stepsNow
set_option maxRecDepth 20000 in
theorem ggX7_doThing_X7_passNow : GoodIn wsX7_doThing wsX7_passNow := goodIn_r _ [31, 32, 33, 34, 6, 35, 2, 36, 37, 38, 39, 40, 41, 42, 43, 16, 17, 18, 19, 44, 45, 46, 47, 8, 9, 10, 11, 48, 49, 50, 51, 52, 53, 54, 55, 56, 57, 58, 59, 60, 61, 62, 63, 64, 65, 66, 67, 68, 69, 70, 71] (by decide +kernel) (by decide +kernel)
set_option maxRecDepth 20000 in
theorem gX7_doThing_X7_passNow : GoodIn wsX7_doThing (wsV RX7 113 RX7 yX7_passNow wsX7_passNow) := goodIn_app (goodIn_of _ (by decide +kernel)) ggX7_doThing_X7_passNow
theorem dX7_doThing_0 : decode cX7_doThing 0 = .ok (.aload_n 0, 1) := by decide +kernel
theorem dX7_doThing_1 : decode cX7_doThing 1 = .ok (.getfield 25, 3) := by decide +kernel
theorem dX7_doThing_4 : decode cX7_doThing 4 = .ok (.iconst 4, 1) := by decide +kernel
theorem dX7_doThing_5 : decode cX7_doThing 5 = .ok (.iload_n 1, 1) := by decide +kernel
theorem dX7_doThing_6 : decode cX7_doThing 6 = .ok (.imul, 1) := by decide +kernel
theorem dX7_doThing_7 : decode cX7_doThing 7 = .ok (.iconst 1, 1) := by decide +kernel
theorem dX7_doThing_8 : decode cX7_doThing 8 = .ok (.iadd, 1) := by decide +kernel
theorem dX7_doThing_9 : decode cX7_doThing 9 = .ok (.iaload, 1) := by decide +kernel
theorem dX7_doThing_10 : decode cX7_doThing 10 = .ok (.istore_n 2, 1) := by decide +kernel
theorem dX7_doThing_11 : decode cX7_doThing 11 = .ok (.aload_n 0, 1) := by decide +kernel
theorem dX7_doThing_12 : decode cX7_doThing 12 = .ok (.getfield 25, 3) := by decide +kernel
theorem dX7_doThing_15 : decode cX7_doThing 15 = .ok (.iconst 4, 1) := by decide +kernel
theorem dX7_doThing_16 : decode cX7_doThing 16 = .ok (.iload_n 1, 1) := by decide +kernel
theorem dX7_doThing_17 : decode cX7_doThing 17 = .ok (.imul, 1) := by decide +kernel
theorem dX7_doThing_18 : decode cX7_doThing 18 = .ok (.iconst 2, 1) := by decide +kernel
theorem dX7_doThing_19 : decode cX7_doThing 19 = .ok (.iadd, 1) := by decide +kernel
theorem dX7_doThing_20 : decode cX7_doThing 20 = .ok (.iaload, 1) := by decide +kernel
theorem dX7_doThing_21 : decode cX7_doThing 21 = .ok (.istore_n 3, 1) := by decide +kernel
theorem dX7_doThing_22 : decode cX7_doThing 22 = .ok (.aload_n 0, 1) := by decide +kernel
theorem dX7_doThing_23 : decode cX7_doThing 23 = .ok (.getfield 25, 3) := by decide +kernel
theorem dX7_doThing_26 : decode cX7_doThing 26 = .ok (.iconst 4, 1) := by decide +kernel
theorem dX7_doThing_27 : decode cX7_doThing 27 = .ok (.iload_n 1, 1) := by decide +kernel
theorem dX7_doThing_28 : decode cX7_doThing 28 = .ok (.imul, 1) := by decide +kernel
theorem dX7_doThing_29 : decode cX7_doThing 29 = .ok (.iconst 3, 1) := by decide +kernel
theorem dX7_doThing_30 : decode cX7_doThing 30 = .ok (.iadd, 1) := by decide +kernel
theorem dX7_doThing_31 : decode cX7_doThing 31 = .ok (.iaload, 1) := by decide +kernel
theorem dX7_doThing_32 : decode cX7_doThing 32 = .ok (.istore 4, 2) := by decide +kernel
theorem dX7_doThing_34 : decode cX7_doThing 34 = .ok (.aload_n 0, 1) := by decide +kernel
theorem dX7_doThing_35 : decode cX7_doThing 35 = .ok (.getfield 25, 3) := by decide +kernel
theorem dX7_doThing_38 : decode cX7_doThing 38 = .ok (.iconst 4, 1) := by decide +kernel
theorem dX7_doThing_39 : decode cX7_doThing 39 = .ok (.iload_n 1, 1) := by decide +kernel
theorem dX7_doThing_40 : decode cX7_doThing 40 = .ok (.imul, 1) := by decide +kernel
theorem dX7_doThing_41 : decode cX7_doThing 41 = .ok (.iaload, 1) := by decide +kernel
theorem dX7_doThing_42 : decode cX7_doThing 42 = .ok (.tableswitch 99 112 118 #[42, 99, 99, 88, 54, 99, 73], 42) := by decide +kernel
theorem dX7_doThing_84 : decode cX7_doThing 84 = .ok (.aload_n 0, 1) := by decide +kernel
theorem dX7_doThing_85 : decode cX7_doThing 85 = .ok (.iload_n 2, 1) := by decide +kernel
theorem dX7_doThing_86 : decode cX7_doThing 86 = .ok (.iload_n 3, 1) := by decide +kernel
theorem dX7_doThing_87 : decode cX7_doThing 87 = .ok (.iload 4, 2) := by decide +kernel
theorem dX7_doThing_89 : decode cX7_doThing 89 = .ok (.invokevirtual 76, 3) := by decide +kernel
theorem dX7_doThing_92 : decode cX7_doThing 92 = .ok (.pop, 1) := by decide +kernel
theorem dX7_doThing_93 : decode cX7_doThing 93 = .ok (.goto 54, 3) := by decide +kernel
theorem dX7_doThing_96 : decode cX7_doThing 96 = .ok (.aload_n 0, 1) := by decide +kernel
theorem dX7_doThing_97 : decode cX7_doThing 97 = .ok (.aload_n 0, 1) := by decide +kernel
theorem dX7_doThing_98 : decode cX7_doThing 98 = .ok (.iload_n 2, 1) := by decide +kernel
theorem dX7_doThing_99 : decode cX7_doThing 99 = .ok (.iload_n 3, 1) := by decide +kernel
theorem dX7_doThing_100 : decode cX7_doThing 100 = .ok (.invokevirtual 65, 3) := by decide +kernel
theorem dX7_doThing_103 : decode cX7_doThing 103 = .ok (.sipush (-1005), 3) := by decide +kernel
theorem dX7_doThing_106 : decode cX7_doThing 106 = .ok (.sipush (-1005), 3) := by decide +kernel
theorem dX7_doThing_109 : decode cX7_doThing 109 = .ok (.invokevirtual 79, 3) := by decide +kernel
theorem dX7_doThing_112 : decode cX7_doThing 112 = .ok (.goto 35, 3) := by decide +kernel
theorem dX7_doThing_115 : decode cX7_doThing 115 = .ok (.aload_n 0, 1) := by decide +kernel
theorem dX7_doThing_116 : decode cX7_doThing 116 = .ok (.getfield 7, 3) := by decide +kernel
theorem dX7_doThing_119 : decode cX7_doThing 119 = .ok (.bipush 16, 2) := by decide +kernel
theorem dX7_doThing_121 : decode cX7_doThing 121 = .ok (.iconst 4, 1) := by decide +kernel
theorem dX7_doThing_122 : decode cX7_doThing 122 = .ok (.iload_n 2, 1) := by decide +kernel
theorem dX7_doThing_123 : decode cX7_doThing 123 = .ok (.imul, 1) := by decide +kernel
theorem dX7_doThing_124 : decode cX7_doThing 124 = .ok (.iadd, 1) := by decide +kernel
theorem dX7_doThing_125 : decode cX7_doThing 125 = .ok (.iload_n 3, 1) := by decide +kernel
theorem dX7_doThing_126 : decode cX7_doThing 126 = .ok (.iastore, 1) := by decide +kernel
theorem dX7_doThing_127 : decode cX7_doThing 127 = .ok (.goto 20, 3) := by decide +kernel
theorem dX7_doThing_130 : decode cX7_doThing 130 = .ok (.aload_n 0, 1) := by decide +kernel
theorem dX7_doThing_131 : decode cX7_doThing 131 = .ok (.iload_n 2, 1) := by decide +kernel
theorem dX7_doThing_132 : decode cX7_doThing 132 = .ok (.iload_n 3, 1) := by decide +kernel
theorem dX7_doThing_133 : decode cX7_doThing 133 = .ok (.iload 4, 2) := by decide +kernel
theorem dX7_doThing_135 : decode cX7_doThing 135 = .ok (.invokevirtual 88, 3) := by decide +kernel
theorem dX7_doThing_138 : decode cX7_doThing 138 = .ok (.goto 9, 3) := by decide +kernel
theorem dX7_doThing_141 : decode cX7_doThing 141 = .ok (.aload_n 0, 1) := by decide +kernel
theorem dX7_doThing_142 : decode cX7_doThing 142 = .ok (.iload_n 2, 1) := by decide +kernel
theorem dX7_doThing_143 : decode cX7_doThing 143 = .ok (.invokevirtual 113, 3) := by decide +kernel
theorem dX7_doThing_146 : decode cX7_doThing 146 = .ok (.pop, 1) := by decide +kernel
theorem dX7_doThing_147 : decode cX7_doThing 147 = .ok (.return_, 1) := by decide +kernel
set_option maxRecDepth 20000 in
theorem ggX7_perform_X7_readText : GoodIn wsX7_perform wsX7_readText := goodIn_r _ [11, 1, 4, 12, 13, 14, 15, 10, 16, 17, 18, 19, 20, 21, 22, 23, 24, 25, 26, 27, 28, 29, 30, 31, 32, 33, 34, 35, 36, 37, 125, 126, 127, 128, 129, 130, 131, 132, 133, 134, 135, 136, 137] (by decide +kernel) (by decide +kernel)
set_option maxRecDepth 20000 in
theorem gX7_perform_X7_readText : GoodIn wsX7_perform (wsV RX7 142 RX7 yX7_readText wsX7_readText) := goodIn_app (goodIn_of _ (by decide +kernel)) ggX7_perform_X7_readText
set_option maxRecDepth 20000 in
theorem ggX7_perform_X7_copyState : GoodIn wsX7_perform wsX7_copyState := goodIn_r _ [40] (by decide +kernel) (by decide +kernel)
set_option maxRecDepth 20000 in
theorem gX7_perform_X7_copyState : GoodIn wsX7_perform (va_wsS RX7 40 yX7_copyState wsX7_copyState) := goodIn_app (goodIn_of _ (by decide +kernel)) ggX7_perform_X7_copyState
set_option maxRecDepth 20000 in
theorem ggX7_perform_X7_whyNot : GoodIn wsX7_perform wsX7_whyNot := goodIn_r _ [44, 18, 45, 46, 47, 10, 48, 2, 49, 50, 51, 27, 28, 29, 52, 53, 54, 55, 56, 57, 58, 59, 60, 61, 62, 63, 64, 65, 66, 67, 68, 69, 70, 125, 126, 127, 128, 129, 130, 131, 132, 133, 134, 135, 136, 137] (by decide +kernel) (by decide +kernel)
set_option maxRecDepth 20000 in
theorem gX7_perform_X7_whyNot : GoodIn wsX7_perform (wsV RX7 145 RX7 yX7_whyNot wsX7_whyNot) := goodIn_app (goodIn_of _ (by decide +kernel)) ggX7_perform_X7_whyNot
set_option maxRecDepth 20000 in
theorem ggX7_perform_X7_doThing : GoodIn wsX7_perform wsX7_doThing := goodIn_r _ [74, 18, 2, 75, 76, 77, 10, 78, 79, 80, 81, 82, 58, 59, 60, 61, 62, 63, 64, 65, 83, 84, 85, 86, 87, 88, 89, 90, 91, 92, 93, 94, 95, 96, 97, 98, 99, 100, 101, 102, 103, 104, 105, 106, 107, 108, 109, 110, 111, 112, 113, 114, 27, 28, 29, 115, 116, 117, 118, 125, 126, 127, 128, 129, 130, 131, 132, 133, 134, 135, 136, 137] (by decide +kernel) (by decide +kernel)
set_option maxRecDepth 20000 in
theorem gX7_perform_X7_doThing : GoodIn wsX7_perform (wsV RX7 154 RX7 yX7_doThing wsX7_doThing) := goodIn_app (goodIn_of _ (by decide +kernel)) ggX7_perform_X7_doThing
set_option maxRecDepth 20000 in
theorem ggX7_perform_X7_recordRow : GoodIn wsX7_perform wsX7_recordRow := goodIn_r _ [122, 123, 124, 38, 39, 10, 40, 125, 126, 127, 128, 129, 130, 131, 132, 133, 134, 135, 136, 137] (by decide +kernel) (by decide +kernel)
set_option maxRecDepth 20000 in
theorem gX7_perform_X7_recordRow : GoodIn wsX7_perform (wsV RX7 44 RX7 yX7_recordRow wsX7_recordRow) := goodIn_app (goodIn_of _ (by decide +kernel)) ggX7_perform_X7_recordRow
theorem dX7_perform_0 : decode cX7_perform 0 = .ok (.aload_n 0, 1) := by decide +kernel
theorem dX7_perform_1 : decode cX7_perform 1 = .ok (.invokevirtual 142, 3) := by decide +kernel
theorem dX7_perform_4 : decode cX7_perform 4 = .ok (.ifCond .ne 12, 3) := by decide +kernel
theorem dX7_perform_7 : decode cX7_perform 7 = .ok (.sipush (-1100), 3) := by decide +kernel
theorem dX7_perform_10 : decode cX7_perform 10 = .ok (.aload_n 0, 1) := by decide +kernel
theorem dX7_perform_11 : decode cX7_perform 11 = .ok (.getfield 119, 3) := by decide +kernel
theorem dX7_perform_14 : decode cX7_perform 14 = .ok (.isub, 1) := by decide +kernel
theorem dX7_perform_15 : decode cX7_perform 15 = .ok (.ireturn, 1) := by decide +kernel
theorem dX7_perform_16 : decode cX7_perform 16 = .ok (.aload_n 0, 1) := by decide +kernel
theorem dX7_perform_17 : decode cX7_perform 17 = .ok (.getfield 7, 3) := by decide +kernel
theorem dX7_perform_20 : decode cX7_perform 20 = .ok (.iconst 0, 1) := by decide +kernel
theorem dX7_perform_21 : decode cX7_perform 21 = .ok (.aload_n 0, 1) := by decide +kernel
theorem dX7_perform_22 : decode cX7_perform 22 = .ok (.getfield 13, 3) := by decide +kernel
theorem dX7_perform_25 : decode cX7_perform 25 = .ok (.iconst 0, 1) := by decide +kernel
theorem dX7_perform_26 : decode cX7_perform 26 = .ok (.invokestatic 40, 3) := by decide +kernel
theorem dX7_perform_29 : decode cX7_perform 29 = .ok (.iconst 0, 1) := by decide +kernel
theorem dX7_perform_30 : decode cX7_perform 30 = .ok (.istore_n 1, 1) := by decide +kernel
theorem dX7_perform_31 : decode cX7_perform 31 = .ok (.iload_n 1, 1) := by decide +kernel
theorem dX7_perform_32 : decode cX7_perform 32 = .ok (.aload_n 0, 1) := by decide +kernel
theorem dX7_perform_33 : decode cX7_perform 33 = .ok (.getfield 126, 3) := by decide +kernel
theorem dX7_perform_36 : decode cX7_perform 36 = .ok (.if_icmp .ge 51, 3) := by decide +kernel
theorem dX7_perform_39 : decode cX7_perform 39 = .ok (.aload_n 0, 1) := by decide +kernel
theorem dX7_perform_40 : decode cX7_perform 40 = .ok (.iload_n 1, 1) := by decide +kernel
theorem dX7_perform_41 : decode cX7_perform 41 = .ok (.invokevirtual 145, 3) := by decide +kernel
theorem dX7_perform_44 : decode cX7_perform 44 = .ok (.istore_n 2, 1) := by decide +kernel
theorem dX7_perform_45 : decode cX7_perform 45 = .ok (.iload_n 2, 1) := by decide +kernel
theorem dX7_perform_46 : decode cX7_perform 46 = .ok (.ifCond .ge 30, 3) := by decide +kernel
theorem dX7_perform_49 : decode cX7_perform 49 = .ok (.aload_n 0, 1) := by decide +kernel
theorem dX7_perform_50 : decode cX7_perform 50 = .ok (.getfield 13, 3) := by decide +kernel
theorem dX7_perform_53 : decode cX7_perform 53 = .ok (.iconst 0, 1) := by decide +kernel
theorem dX7_perform_54 : decode cX7_perform 54 = .ok (.aload_n 0, 1) := by decide +kernel
theorem dX7_perform_55 : decode cX7_perform 55 = .ok (.getfield 7, 3) := by decide +kernel
theorem dX7_perform_58 : decode cX7_perform 58 = .ok (.iconst 0, 1) := by decide +kernel
theorem dX7_perform_59 : decode cX7_perform 59 = .ok (.invokestatic 40, 3) := by decide +kernel
theorem dX7_perform_62 : decode cX7_perform 62 = .ok (.aload_n 0, 1) := by decide +kernel
theorem dX7_perform_63 : decode cX7_perform 63 = .ok (.iload_n 1, 1) := by decide +kernel
theorem dX7_perform_64 : decode cX7_perform 64 = .ok (.putfield 148, 3) := by decide +kernel
theorem dX7_perform_67 : decode cX7_perform 67 = .ok (.aload_n 0, 1) := by decide +kernel
theorem dX7_perform_68 : decode cX7_perform 68 = .ok (.iload_n 2, 1) := by decide +kernel
theorem dX7_perform_69 : decode cX7_perform 69 = .ok (.putfield 151, 3) := by decide +kernel
theorem dX7_perform_72 : decode cX7_perform 72 = .ok (.sipush (-1004), 3) := by decide +kernel
theorem dX7_perform_75 : decode cX7_perform 75 = .ok (.ireturn, 1) := by decide +kernel
theorem dX7_perform_76 : decode cX7_perform 76 = .ok (.aload_n 0, 1) := by decide +kernel
theorem dX7_perform_77 : decode cX7_perform 77 = .ok (.iload_n 1, 1) := by decide +kernel
theorem dX7_perform_78 : decode cX7_perform 78 = .ok (.invokevirtual 154, 3) := by decide +kernel
theorem dX7_perform_81 : decode cX7_perform 81 = .ok (.iinc 1 1, 3) := by decide +kernel
theorem dX7_perform_84 : decode cX7_perform 84 = .ok (.goto (-53), 3) := by decide +kernel
theorem dX7_perform_87 : decode cX7_perform 87 = .ok (.aload_n 0, 1) := by decide +kernel
theorem dX7_perform_88 : decode cX7_perform 88 = .ok (.aload_n 0, 1) := by decide +kernel
theorem dX7_perform_89 : decode cX7_perform 89 = .ok (.getfield 13, 3) := by decide +kernel
theorem dX7_perform_92 : decode cX7_perform 92 = .ok (.invokevirtual 44, 3) := by decide +kernel
theorem dX7_perform_95 : decode cX7_perform 95 = .ok (.aload_n 0, 1) := by decide +kernel
theorem dX7_perform_96 : decode cX7_perform 96 = .ok (.getfield 126, 3) := by decide +kernel
theorem dX7_perform_99 : decode cX7_perform 99 = .ok (.ireturn, 1) := by decide +kernel
set_option maxRecDepth 20000 in
theorem ggX7_stopped_X7_in : GoodIn wsX7_stopped wsX7_in := goodIn_r _ [6] (by decide +kernel) (by decide +kernel)
set_option maxRecDepth 20000 in
theorem gX7_stopped_X7_in : GoodIn wsX7_stopped (va_wsS RX7 28 yX7_in wsX7_in) := goodIn_app (goodIn_of _ (by decide +kernel)) ggX7_stopped_X7_in
theorem dX7_stopped_0 : decode cX7_stopped 0 = .ok (.iload_n 1, 1) := by decide +kernel
theorem dX7_stopped_1 : decode cX7_stopped 1 = .ok (.iconst 0, 1) := by decide +kernel
theorem dX7_stopped_2 : decode cX7_stopped 2 = .ok (.iconst 1, 1) := by decide +kernel
theorem dX7_stopped_3 : decode cX7_stopped 3 = .ok (.invokestatic 28, 3) := by decide +kernel
theorem dX7_stopped_6 : decode cX7_stopped 6 = .ok (.ifCond .ne 7, 3) := by decide +kernel
theorem dX7_stopped_9 : decode cX7_stopped 9 = .ok (.sipush (-1002), 3) := by decide +kernel
theorem dX7_stopped_12 : decode cX7_stopped 12 = .ok (.ireturn, 1) := by decide +kernel
theorem dX7_stopped_13 : decode cX7_stopped 13 = .ok (.aload_n 0, 1) := by decide +kernel
theorem dX7_stopped_14 : decode cX7_stopped 14 = .ok (.getfield 151, 3) := by decide +kernel
theorem dX7_stopped_17 : decode cX7_stopped 17 = .ok (.ifCond .ne 9, 3) := by decide +kernel
theorem dX7_stopped_20 : decode cX7_stopped 20 = .ok (.sipush (-1005), 3) := by decide +kernel
theorem dX7_stopped_23 : decode cX7_stopped 23 = .ok (.goto 18, 3) := by decide +kernel
theorem dX7_stopped_26 : decode cX7_stopped 26 = .ok (.iload_n 1, 1) := by decide +kernel
theorem dX7_stopped_27 : decode cX7_stopped 27 = .ok (.ifCond .ne 10, 3) := by decide +kernel
theorem dX7_stopped_30 : decode cX7_stopped 30 = .ok (.aload_n 0, 1) := by decide +kernel
theorem dX7_stopped_31 : decode cX7_stopped 31 = .ok (.getfield 148, 3) := by decide +kernel
theorem dX7_stopped_34 : decode cX7_stopped 34 = .ok (.goto 7, 3) := by decide +kernel
theorem dX7_stopped_37 : decode cX7_stopped 37 = .ok (.aload_n 0, 1) := by decide +kernel
theorem dX7_stopped_38 : decode cX7_stopped 38 = .ok (.getfield 151, 3) := by decide +kernel
theorem dX7_stopped_41 : decode cX7_stopped 41 = .ok (.ireturn, 1) := by decide +kernel
set_option maxRecDepth 20000 in
theorem ggX7_counts_X7_of : GoodIn wsX7_counts wsX7_of := goodIn_r _ [5, 6, 7, 8, 9, 10, 11, 12, 13, 14, 15, 16, 17, 18, 19] (by decide +kernel) (by decide +kernel)
set_option maxRecDepth 20000 in
theorem gX7_counts_X7_of : GoodIn wsX7_counts (wsV RX7 32 RX7 yX7_of wsX7_of) := goodIn_app (goodIn_of _ (by decide +kernel)) ggX7_counts_X7_of
theorem dX7_counts_0 : decode cX7_counts 0 = .ok (.aload_n 0, 1) := by decide +kernel
theorem dX7_counts_1 : decode cX7_counts 1 = .ok (.iload_n 1, 1) := by decide +kernel
theorem dX7_counts_2 : decode cX7_counts 2 = .ok (.iconst 4, 1) := by decide +kernel
theorem dX7_counts_3 : decode cX7_counts 3 = .ok (.invokevirtual 32, 3) := by decide +kernel
theorem dX7_counts_6 : decode cX7_counts 6 = .ok (.bipush 10, 2) := by decide +kernel
theorem dX7_counts_8 : decode cX7_counts 8 = .ok (.idiv, 1) := by decide +kernel
theorem dX7_counts_9 : decode cX7_counts 9 = .ok (.ireturn, 1) := by decide +kernel
set_option maxRecDepth 20000 in
theorem ggX7_lamp_X7_isLamp : GoodIn wsX7_lamp wsX7_isLamp := goodIn_r _ [5, 6, 7, 8, 4, 9, 22, 23, 24, 25, 26, 27, 28, 29, 30, 31, 32, 33, 34] (by decide +kernel) (by decide +kernel)
set_option maxRecDepth 20000 in
theorem gX7_lamp_X7_isLamp : GoodIn wsX7_lamp (wsV RX7 158 RX7 yX7_isLamp wsX7_isLamp) := goodIn_app (goodIn_of _ (by decide +kernel)) ggX7_lamp_X7_isLamp
set_option maxRecDepth 20000 in
theorem ggX7_lamp_X7_of : GoodIn wsX7_lamp wsX7_of := goodIn_r _ [13, 6, 22, 23, 24, 25, 26, 27, 28, 29, 30, 31, 32, 33, 34] (by decide +kernel) (by decide +kernel)
set_option maxRecDepth 20000 in
theorem gX7_lamp_X7_of : GoodIn wsX7_lamp (wsV RX7 32 RX7 yX7_of wsX7_of) := goodIn_app (goodIn_of _ (by decide +kernel)) ggX7_lamp_X7_of
set_option maxRecDepth 20000 in
theorem ggX7_lamp_X7_counts : GoodIn wsX7_lamp wsX7_counts := goodIn_r _ [17, 10, 11, 12, 4, 13, 6, 22, 23, 24, 25, 26, 27, 28, 29, 30, 31, 32, 33, 34] (by decide +kernel) (by decide +kernel)
set_option maxRecDepth 20000 in
theorem gX7_lamp_X7_counts : GoodIn wsX7_lamp (wsV RX7 161 RX7 yX7_counts wsX7_counts) := goodIn_app (goodIn_of _ (by decide +kernel)) ggX7_lamp_X7_counts
set_option maxRecDepth 20000 in
theorem ggX7_lamp_X7_isDead : GoodIn wsX7_lamp wsX7_isDead := goodIn_r _ [21, 10, 11, 12, 4, 13, 6, 22, 23, 24, 25, 26, 27, 28, 29, 30, 31, 32, 33, 34] (by decide +kernel) (by decide +kernel)
set_option maxRecDepth 20000 in
theorem gX7_lamp_X7_isDead : GoodIn wsX7_lamp (wsV RX7 91 RX7 yX7_isDead wsX7_isDead) := goodIn_app (goodIn_of _ (by decide +kernel)) ggX7_lamp_X7_isDead
theorem dX7_lamp_0 : decode cX7_lamp 0 = .ok (.aload_n 0, 1) := by decide +kernel
theorem dX7_lamp_1 : decode cX7_lamp 1 = .ok (.iload_n 1, 1) := by decide +kernel
theorem dX7_lamp_2 : decode cX7_lamp 2 = .ok (.invokevirtual 158, 3) := by decide +kernel
theorem dX7_lamp_5 : decode cX7_lamp 5 = .ok (.ifCond .ne 7, 3) := by decide +kernel
theorem dX7_lamp_8 : decode cX7_lamp 8 = .ok (.sipush (-1001), 3) := by decide +kernel
theorem dX7_lamp_11 : decode cX7_lamp 11 = .ok (.ireturn, 1) := by decide +kernel
theorem dX7_lamp_12 : decode cX7_lamp 12 = .ok (.iload_n 2, 1) := by decide +kernel
theorem dX7_lamp_13 : decode cX7_lamp 13 = .ok (.tableswitch 98 0 9 #[55, 55, 55, 55, 55, 55, 62, 68, 82, 90], 55) := by decide +kernel
theorem dX7_lamp_68 : decode cX7_lamp 68 = .ok (.aload_n 0, 1) := by decide +kernel
theorem dX7_lamp_69 : decode cX7_lamp 69 = .ok (.iload_n 1, 1) := by decide +kernel
theorem dX7_lamp_70 : decode cX7_lamp 70 = .ok (.iload_n 2, 1) := by decide +kernel
theorem dX7_lamp_71 : decode cX7_lamp 71 = .ok (.invokevirtual 32, 3) := by decide +kernel
theorem dX7_lamp_74 : decode cX7_lamp 74 = .ok (.ireturn, 1) := by decide +kernel
theorem dX7_lamp_75 : decode cX7_lamp 75 = .ok (.aload_n 0, 1) := by decide +kernel
theorem dX7_lamp_76 : decode cX7_lamp 76 = .ok (.iload_n 1, 1) := by decide +kernel
theorem dX7_lamp_77 : decode cX7_lamp 77 = .ok (.invokevirtual 161, 3) := by decide +kernel
theorem dX7_lamp_80 : decode cX7_lamp 80 = .ok (.ireturn, 1) := by decide +kernel
theorem dX7_lamp_81 : decode cX7_lamp 81 = .ok (.aload_n 0, 1) := by decide +kernel
theorem dX7_lamp_82 : decode cX7_lamp 82 = .ok (.iload_n 1, 1) := by decide +kernel
theorem dX7_lamp_83 : decode cX7_lamp 83 = .ok (.invokevirtual 91, 3) := by decide +kernel
theorem dX7_lamp_86 : decode cX7_lamp 86 = .ok (.ifCond .eq 7, 3) := by decide +kernel
theorem dX7_lamp_89 : decode cX7_lamp 89 = .ok (.iconst 1, 1) := by decide +kernel
theorem dX7_lamp_90 : decode cX7_lamp 90 = .ok (.goto 4, 3) := by decide +kernel
theorem dX7_lamp_93 : decode cX7_lamp 93 = .ok (.iconst 0, 1) := by decide +kernel
theorem dX7_lamp_94 : decode cX7_lamp 94 = .ok (.ireturn, 1) := by decide +kernel
theorem dX7_lamp_95 : decode cX7_lamp 95 = .ok (.aload_n 0, 1) := by decide +kernel
theorem dX7_lamp_96 : decode cX7_lamp 96 = .ok (.iload_n 1, 1) := by decide +kernel
theorem dX7_lamp_97 : decode cX7_lamp 97 = .ok (.bipush 6, 2) := by decide +kernel
theorem dX7_lamp_99 : decode cX7_lamp 99 = .ok (.invokevirtual 32, 3) := by decide +kernel
theorem dX7_lamp_102 : decode cX7_lamp 102 = .ok (.ireturn, 1) := by decide +kernel
theorem dX7_lamp_103 : decode cX7_lamp 103 = .ok (.aload_n 0, 1) := by decide +kernel
theorem dX7_lamp_104 : decode cX7_lamp 104 = .ok (.iload_n 1, 1) := by decide +kernel
theorem dX7_lamp_105 : decode cX7_lamp 105 = .ok (.bipush 7, 2) := by decide +kernel
theorem dX7_lamp_107 : decode cX7_lamp 107 = .ok (.invokevirtual 32, 3) := by decide +kernel
theorem dX7_lamp_110 : decode cX7_lamp 110 = .ok (.ireturn, 1) := by decide +kernel
theorem dX7_lamp_111 : decode cX7_lamp 111 = .ok (.sipush (-1002), 3) := by decide +kernel
theorem dX7_lamp_114 : decode cX7_lamp 114 = .ok (.ireturn, 1) := by decide +kernel
set_option maxRecDepth 20000 in
theorem ggX7_lampsIn_X7_of : GoodIn wsX7_lampsIn wsX7_of := goodIn_r _ [6, 1, 11, 12, 13, 14, 15, 16, 17, 18, 19, 20, 21, 22, 23] (by decide +kernel) (by decide +kernel)
set_option maxRecDepth 20000 in
theorem gX7_lampsIn_X7_of : GoodIn wsX7_lampsIn (wsV RX7 32 RX7 yX7_of wsX7_of) := goodIn_app (goodIn_of _ (by decide +kernel)) ggX7_lampsIn_X7_of
set_option maxRecDepth 20000 in
theorem ggX7_lampsIn_X7_isDead : GoodIn wsX7_lampsIn wsX7_isDead := goodIn_r _ [10, 2, 3, 4, 5, 6, 1, 11, 12, 13, 14, 15, 16, 17, 18, 19, 20, 21, 22, 23] (by decide +kernel) (by decide +kernel)
set_option maxRecDepth 20000 in
theorem gX7_lampsIn_X7_isDead : GoodIn wsX7_lampsIn (wsV RX7 91 RX7 yX7_isDead wsX7_isDead) := goodIn_app (goodIn_of _ (by decide +kernel)) ggX7_lampsIn_X7_isDead
theorem dX7_lampsIn_0 : decode cX7_lampsIn 0 = .ok (.iconst 0, 1) := by decide +kernel
theorem dX7_lampsIn_1 : decode cX7_lampsIn 1 = .ok (.istore_n 3, 1) := by decide +kernel
theorem dX7_lampsIn_2 : decode cX7_lampsIn 2 = .ok (.iconst 0, 1) := by decide +kernel
theorem dX7_lampsIn_3 : decode cX7_lampsIn 3 = .ok (.istore 4, 2) := by decide +kernel
theorem dX7_lampsIn_5 : decode cX7_lampsIn 5 = .ok (.iload 4, 2) := by decide +kernel
theorem dX7_lampsIn_7 : decode cX7_lampsIn 7 = .ok (.aload_n 0, 1) := by decide +kernel
theorem dX7_lampsIn_8 : decode cX7_lampsIn 8 = .ok (.getfield 7, 3) := by decide +kernel
theorem dX7_lampsIn_11 : decode cX7_lampsIn 11 = .ok (.iconst 3, 1) := by decide +kernel
theorem dX7_lampsIn_12 : decode cX7_lampsIn 12 = .ok (.iaload, 1) := by decide +kernel
theorem dX7_lampsIn_13 : decode cX7_lampsIn 13 = .ok (.if_icmp .ge 41, 3) := by decide +kernel
theorem dX7_lampsIn_16 : decode cX7_lampsIn 16 = .ok (.iload_n 3, 1) := by decide +kernel
theorem dX7_lampsIn_17 : decode cX7_lampsIn 17 = .ok (.aload_n 0, 1) := by decide +kernel
theorem dX7_lampsIn_18 : decode cX7_lampsIn 18 = .ok (.iload 4, 2) := by decide +kernel
theorem dX7_lampsIn_20 : decode cX7_lampsIn 20 = .ok (.iconst 1, 1) := by decide +kernel
theorem dX7_lampsIn_21 : decode cX7_lampsIn 21 = .ok (.invokevirtual 32, 3) := by decide +kernel
theorem dX7_lampsIn_24 : decode cX7_lampsIn 24 = .ok (.iload_n 1, 1) := by decide +kernel
theorem dX7_lampsIn_25 : decode cX7_lampsIn 25 = .ok (.if_icmp .ne 20, 3) := by decide +kernel
theorem dX7_lampsIn_28 : decode cX7_lampsIn 28 = .ok (.iload_n 2, 1) := by decide +kernel
theorem dX7_lampsIn_29 : decode cX7_lampsIn 29 = .ok (.ifCond .ne 12, 3) := by decide +kernel
theorem dX7_lampsIn_32 : decode cX7_lampsIn 32 = .ok (.aload_n 0, 1) := by decide +kernel
theorem dX7_lampsIn_33 : decode cX7_lampsIn 33 = .ok (.iload 4, 2) := by decide +kernel
theorem dX7_lampsIn_35 : decode cX7_lampsIn 35 = .ok (.invokevirtual 91, 3) := by decide +kernel
theorem dX7_lampsIn_38 : decode cX7_lampsIn 38 = .ok (.ifCond .ne 7, 3) := by decide +kernel
theorem dX7_lampsIn_41 : decode cX7_lampsIn 41 = .ok (.iconst 1, 1) := by decide +kernel
theorem dX7_lampsIn_42 : decode cX7_lampsIn 42 = .ok (.goto 4, 3) := by decide +kernel
theorem dX7_lampsIn_45 : decode cX7_lampsIn 45 = .ok (.iconst 0, 1) := by decide +kernel
theorem dX7_lampsIn_46 : decode cX7_lampsIn 46 = .ok (.iadd, 1) := by decide +kernel
theorem dX7_lampsIn_47 : decode cX7_lampsIn 47 = .ok (.istore_n 3, 1) := by decide +kernel
theorem dX7_lampsIn_48 : decode cX7_lampsIn 48 = .ok (.iinc 4 1, 3) := by decide +kernel
theorem dX7_lampsIn_51 : decode cX7_lampsIn 51 = .ok (.goto (-46), 3) := by decide +kernel
theorem dX7_lampsIn_54 : decode cX7_lampsIn 54 = .ok (.iload_n 3, 1) := by decide +kernel
theorem dX7_lampsIn_55 : decode cX7_lampsIn 55 = .ok (.ireturn, 1) := by decide +kernel
set_option maxRecDepth 20000 in
theorem ggX7_rack_X7_isRack : GoodIn wsX7_rack wsX7_isRack := goodIn_r _ [4, 5, 6, 3, 7] (by decide +kernel) (by decide +kernel)
set_option maxRecDepth 20000 in
theorem gX7_rack_X7_isRack : GoodIn wsX7_rack (va_wsS RX7 59 yX7_isRack wsX7_isRack) := goodIn_app (goodIn_of _ (by decide +kernel)) ggX7_rack_X7_isRack
set_option maxRecDepth 20000 in
theorem ggX7_rack_X7_ofRack : GoodIn wsX7_rack wsX7_ofRack := goodIn_r _ [11, 12, 29, 30, 31, 32, 33, 34, 35, 36, 37, 38, 39, 40, 41] (by decide +kernel) (by decide +kernel)
set_option maxRecDepth 20000 in
theorem gX7_rack_X7_ofRack : GoodIn wsX7_rack (wsV RX7 85 RX7 yX7_ofRack wsX7_ofRack) := goodIn_app (goodIn_of _ (by decide +kernel)) ggX7_rack_X7_ofRack
set_option maxRecDepth 20000 in
theorem ggX7_rack_X7_lampsIn : GoodIn wsX7_rack wsX7_lampsIn := goodIn_r _ [16, 12, 17, 18, 19, 3, 20, 21, 22, 23, 24, 29, 30, 31, 32, 33, 34, 35, 36, 37, 38, 39, 40, 41] (by decide +kernel) (by decide +kernel)
set_option maxRecDepth 20000 in
theorem gX7_rack_X7_lampsIn : GoodIn wsX7_rack (wsV RX7 164 RX7 yX7_lampsIn wsX7_lampsIn) := goodIn_app (goodIn_of _ (by decide +kernel)) ggX7_rack_X7_lampsIn
set_option maxRecDepth 20000 in
theorem ggX7_rack_X7_wearAt : GoodIn wsX7_rack wsX7_wearAt := goodIn_r _ [28, 12, 29, 30, 31, 32, 33, 34, 35, 36, 37, 38, 39, 40, 41] (by decide +kernel) (by decide +kernel)
set_option maxRecDepth 20000 in
theorem gX7_rack_X7_wearAt : GoodIn wsX7_rack (wsV RX7 100 RX7 yX7_wearAt wsX7_wearAt) := goodIn_app (goodIn_of _ (by decide +kernel)) ggX7_rack_X7_wearAt
theorem dX7_rack_0 : decode cX7_rack 0 = .ok (.iload_n 1, 1) := by decide +kernel
theorem dX7_rack_1 : decode cX7_rack 1 = .ok (.invokestatic 59, 3) := by decide +kernel
theorem dX7_rack_4 : decode cX7_rack 4 = .ok (.ifCond .ne 7, 3) := by decide +kernel
theorem dX7_rack_7 : decode cX7_rack 7 = .ok (.sipush (-1001), 3) := by decide +kernel
theorem dX7_rack_10 : decode cX7_rack 10 = .ok (.ireturn, 1) := by decide +kernel
theorem dX7_rack_11 : decode cX7_rack 11 = .ok (.aload_n 0, 1) := by decide +kernel
theorem dX7_rack_12 : decode cX7_rack 12 = .ok (.iload_n 1, 1) := by decide +kernel
theorem dX7_rack_13 : decode cX7_rack 13 = .ok (.iconst 0, 1) := by decide +kernel
theorem dX7_rack_14 : decode cX7_rack 14 = .ok (.invokevirtual 85, 3) := by decide +kernel
theorem dX7_rack_17 : decode cX7_rack 17 = .ok (.istore_n 3, 1) := by decide +kernel
theorem dX7_rack_18 : decode cX7_rack 18 = .ok (.iload_n 2, 1) := by decide +kernel
theorem dX7_rack_19 : decode cX7_rack 19 = .ok (.tableswitch 134 0 7 #[45, 47, 54, 61, 76, 91, 98, 105], 45) := by decide +kernel
theorem dX7_rack_64 : decode cX7_rack 64 = .ok (.iload_n 3, 1) := by decide +kernel
theorem dX7_rack_65 : decode cX7_rack 65 = .ok (.ireturn, 1) := by decide +kernel
theorem dX7_rack_66 : decode cX7_rack 66 = .ok (.aload_n 0, 1) := by decide +kernel
theorem dX7_rack_67 : decode cX7_rack 67 = .ok (.iload_n 1, 1) := by decide +kernel
theorem dX7_rack_68 : decode cX7_rack 68 = .ok (.iconst 1, 1) := by decide +kernel
theorem dX7_rack_69 : decode cX7_rack 69 = .ok (.invokevirtual 164, 3) := by decide +kernel
theorem dX7_rack_72 : decode cX7_rack 72 = .ok (.ireturn, 1) := by decide +kernel
theorem dX7_rack_73 : decode cX7_rack 73 = .ok (.aload_n 0, 1) := by decide +kernel
theorem dX7_rack_74 : decode cX7_rack 74 = .ok (.iload_n 1, 1) := by decide +kernel
theorem dX7_rack_75 : decode cX7_rack 75 = .ok (.iconst 0, 1) := by decide +kernel
theorem dX7_rack_76 : decode cX7_rack 76 = .ok (.invokevirtual 164, 3) := by decide +kernel
theorem dX7_rack_79 : decode cX7_rack 79 = .ok (.ireturn, 1) := by decide +kernel
theorem dX7_rack_80 : decode cX7_rack 80 = .ok (.iload_n 3, 1) := by decide +kernel
theorem dX7_rack_81 : decode cX7_rack 81 = .ok (.ifCond .ne 7, 3) := by decide +kernel
theorem dX7_rack_84 : decode cX7_rack 84 = .ok (.iconst 0, 1) := by decide +kernel
theorem dX7_rack_85 : decode cX7_rack 85 = .ok (.goto 9, 3) := by decide +kernel
theorem dX7_rack_88 : decode cX7_rack 88 = .ok (.aload_n 0, 1) := by decide +kernel
theorem dX7_rack_89 : decode cX7_rack 89 = .ok (.iload_n 3, 1) := by decide +kernel
theorem dX7_rack_90 : decode cX7_rack 90 = .ok (.iconst 0, 1) := by decide +kernel
theorem dX7_rack_91 : decode cX7_rack 91 = .ok (.invokevirtual 100, 3) := by decide +kernel
theorem dX7_rack_94 : decode cX7_rack 94 = .ok (.ireturn, 1) := by decide +kernel
theorem dX7_rack_95 : decode cX7_rack 95 = .ok (.iload_n 3, 1) := by decide +kernel
theorem dX7_rack_96 : decode cX7_rack 96 = .ok (.ifCond .ne 7, 3) := by decide +kernel
theorem dX7_rack_99 : decode cX7_rack 99 = .ok (.iconst 0, 1) := by decide +kernel
theorem dX7_rack_100 : decode cX7_rack 100 = .ok (.goto 9, 3) := by decide +kernel
theorem dX7_rack_103 : decode cX7_rack 103 = .ok (.aload_n 0, 1) := by decide +kernel
theorem dX7_rack_104 : decode cX7_rack 104 = .ok (.iload_n 3, 1) := by decide +kernel
theorem dX7_rack_105 : decode cX7_rack 105 = .ok (.iconst 1, 1) := by decide +kernel
theorem dX7_rack_106 : decode cX7_rack 106 = .ok (.invokevirtual 100, 3) := by decide +kernel
theorem dX7_rack_109 : decode cX7_rack 109 = .ok (.ireturn, 1) := by decide +kernel
theorem dX7_rack_110 : decode cX7_rack 110 = .ok (.aload_n 0, 1) := by decide +kernel
theorem dX7_rack_111 : decode cX7_rack 111 = .ok (.iload_n 1, 1) := by decide +kernel
theorem dX7_rack_112 : decode cX7_rack 112 = .ok (.iconst 1, 1) := by decide +kernel
theorem dX7_rack_113 : decode cX7_rack 113 = .ok (.invokevirtual 85, 3) := by decide +kernel
theorem dX7_rack_116 : decode cX7_rack 116 = .ok (.ireturn, 1) := by decide +kernel
theorem dX7_rack_117 : decode cX7_rack 117 = .ok (.aload_n 0, 1) := by decide +kernel
theorem dX7_rack_118 : decode cX7_rack 118 = .ok (.iload_n 1, 1) := by decide +kernel
theorem dX7_rack_119 : decode cX7_rack 119 = .ok (.iconst 2, 1) := by decide +kernel
theorem dX7_rack_120 : decode cX7_rack 120 = .ok (.invokevirtual 85, 3) := by decide +kernel
theorem dX7_rack_123 : decode cX7_rack 123 = .ok (.ireturn, 1) := by decide +kernel
theorem dX7_rack_124 : decode cX7_rack 124 = .ok (.aload_n 0, 1) := by decide +kernel
theorem dX7_rack_125 : decode cX7_rack 125 = .ok (.iload_n 1, 1) := by decide +kernel
theorem dX7_rack_126 : decode cX7_rack 126 = .ok (.iconst 1, 1) := by decide +kernel
theorem dX7_rack_127 : decode cX7_rack 127 = .ok (.invokevirtual 85, 3) := by decide +kernel
theorem dX7_rack_130 : decode cX7_rack 130 = .ok (.ifCond .ne 9, 3) := by decide +kernel
theorem dX7_rack_133 : decode cX7_rack 133 = .ok (.sipush (-1005), 3) := by decide +kernel
theorem dX7_rack_136 : decode cX7_rack 136 = .ok (.goto 16, 3) := by decide +kernel
theorem dX7_rack_139 : decode cX7_rack 139 = .ok (.aload_n 0, 1) := by decide +kernel
theorem dX7_rack_140 : decode cX7_rack 140 = .ok (.iload_n 1, 1) := by decide +kernel
theorem dX7_rack_141 : decode cX7_rack 141 = .ok (.iconst 1, 1) := by decide +kernel
theorem dX7_rack_142 : decode cX7_rack 142 = .ok (.invokevirtual 85, 3) := by decide +kernel
theorem dX7_rack_145 : decode cX7_rack 145 = .ok (.aload_n 0, 1) := by decide +kernel
theorem dX7_rack_146 : decode cX7_rack 146 = .ok (.iload_n 1, 1) := by decide +kernel
theorem dX7_rack_147 : decode cX7_rack 147 = .ok (.iconst 3, 1) := by decide +kernel
theorem dX7_rack_148 : decode cX7_rack 148 = .ok (.invokevirtual 85, 3) := by decide +kernel
theorem dX7_rack_151 : decode cX7_rack 151 = .ok (.isub, 1) := by decide +kernel
theorem dX7_rack_152 : decode cX7_rack 152 = .ok (.ireturn, 1) := by decide +kernel
theorem dX7_rack_153 : decode cX7_rack 153 = .ok (.sipush (-1002), 3) := by decide +kernel
theorem dX7_rack_156 : decode cX7_rack 156 = .ok (.ireturn, 1) := by decide +kernel
set_option maxRecDepth 20000 in
theorem ggX7_at_X7_isRack : GoodIn wsX7_at wsX7_isRack := goodIn_r _ [4, 5, 6, 3, 7] (by decide +kernel) (by decide +kernel)
set_option maxRecDepth 20000 in
theorem gX7_at_X7_isRack : GoodIn wsX7_at (va_wsS RX7 59 yX7_isRack wsX7_isRack) := goodIn_app (goodIn_of _ (by decide +kernel)) ggX7_at_X7_isRack
set_option maxRecDepth 20000 in
theorem ggX7_at_X7_isPlace : GoodIn wsX7_at wsX7_isPlace := goodIn_r _ [10, 5, 6, 3, 7] (by decide +kernel) (by decide +kernel)
set_option maxRecDepth 20000 in
theorem gX7_at_X7_isPlace : GoodIn wsX7_at (va_wsS RX7 62 yX7_isPlace wsX7_isPlace) := goodIn_app (goodIn_of _ (by decide +kernel)) ggX7_at_X7_isPlace
set_option maxRecDepth 20000 in
theorem ggX7_at_X7_lampAt : GoodIn wsX7_at wsX7_lampAt := goodIn_r _ [14, 15, 16, 17, 18, 3, 19, 20, 21, 22, 23, 24, 25, 26, 27, 28, 29, 30, 31, 32] (by decide +kernel) (by decide +kernel)
set_option maxRecDepth 20000 in
theorem gX7_at_X7_lampAt : GoodIn wsX7_at (wsV RX7 65 RX7 yX7_lampAt wsX7_lampAt) := goodIn_app (goodIn_of _ (by decide +kernel)) ggX7_at_X7_lampAt
theorem dX7_at_0 : decode cX7_at 0 = .ok (.iload_n 1, 1) := by decide +kernel
theorem dX7_at_1 : decode cX7_at 1 = .ok (.invokestatic 59, 3) := by decide +kernel
theorem dX7_at_4 : decode cX7_at 4 = .ok (.ifCond .eq 19, 3) := by decide +kernel
theorem dX7_at_7 : decode cX7_at 7 = .ok (.iload_n 2, 1) := by decide +kernel
theorem dX7_at_8 : decode cX7_at 8 = .ok (.invokestatic 62, 3) := by decide +kernel
theorem dX7_at_11 : decode cX7_at 11 = .ok (.ifCond .eq 12, 3) := by decide +kernel
theorem dX7_at_14 : decode cX7_at 14 = .ok (.aload_n 0, 1) := by decide +kernel
theorem dX7_at_15 : decode cX7_at 15 = .ok (.iload_n 1, 1) := by decide +kernel
theorem dX7_at_16 : decode cX7_at 16 = .ok (.iload_n 2, 1) := by decide +kernel
theorem dX7_at_17 : decode cX7_at 17 = .ok (.invokevirtual 65, 3) := by decide +kernel
theorem dX7_at_20 : decode cX7_at 20 = .ok (.goto 6, 3) := by decide +kernel
theorem dX7_at_23 : decode cX7_at 23 = .ok (.sipush (-1001), 3) := by decide +kernel
theorem dX7_at_26 : decode cX7_at 26 = .ok (.ireturn, 1) := by decide +kernel
set_option maxRecDepth 20000 in
theorem ggX7_lampsOf_X7_isDead : GoodIn wsX7_lampsOf wsX7_isDead := goodIn_r _ [6, 7, 8, 9, 5, 10, 1, 15, 16, 17, 18, 19, 20, 21, 22, 23, 24, 25, 26, 27] (by decide +kernel) (by decide +kernel)
set_option maxRecDepth 20000 in
theorem gX7_lampsOf_X7_isDead : GoodIn wsX7_lampsOf (wsV RX7 91 RX7 yX7_isDead wsX7_isDead) := goodIn_app (goodIn_of _ (by decide +kernel)) ggX7_lampsOf_X7_isDead
set_option maxRecDepth 20000 in
theorem ggX7_lampsOf_X7_counts : GoodIn wsX7_lampsOf wsX7_counts := goodIn_r _ [14, 7, 8, 9, 5, 10, 1, 15, 16, 17, 18, 19, 20, 21, 22, 23, 24, 25, 26, 27] (by decide +kernel) (by decide +kernel)
set_option maxRecDepth 20000 in
theorem gX7_lampsOf_X7_counts : GoodIn wsX7_lampsOf (wsV RX7 161 RX7 yX7_counts wsX7_counts) := goodIn_app (goodIn_of _ (by decide +kernel)) ggX7_lampsOf_X7_counts
set_option maxRecDepth 20000 in
theorem ggX7_lampsOf_X7_of : GoodIn wsX7_lampsOf wsX7_of := goodIn_r _ [10, 1, 15, 16, 17, 18, 19, 20, 21, 22, 23, 24, 25, 26, 27] (by decide +kernel) (by decide +kernel)
set_option maxRecDepth 20000 in
theorem gX7_lampsOf_X7_of : GoodIn wsX7_lampsOf (wsV RX7 32 RX7 yX7_of wsX7_of) := goodIn_app (goodIn_of _ (by decide +kernel)) ggX7_lampsOf_X7_of
theorem dX7_lampsOf_0 : decode cX7_lampsOf 0 = .ok (.iconst 0, 1) := by decide +kernel
theorem dX7_lampsOf_1 : decode cX7_lampsOf 1 = .ok (.istore 4, 2) := by decide +kernel
theorem dX7_lampsOf_3 : decode cX7_lampsOf 3 = .ok (.iconst 0, 1) := by decide +kernel
theorem dX7_lampsOf_4 : decode cX7_lampsOf 4 = .ok (.istore 5, 2) := by decide +kernel
theorem dX7_lampsOf_6 : decode cX7_lampsOf 6 = .ok (.iload 5, 2) := by decide +kernel
theorem dX7_lampsOf_8 : decode cX7_lampsOf 8 = .ok (.aload_n 0, 1) := by decide +kernel
theorem dX7_lampsOf_9 : decode cX7_lampsOf 9 = .ok (.getfield 7, 3) := by decide +kernel
theorem dX7_lampsOf_12 : decode cX7_lampsOf 12 = .ok (.iconst 3, 1) := by decide +kernel
theorem dX7_lampsOf_13 : decode cX7_lampsOf 13 = .ok (.iaload, 1) := by decide +kernel
theorem dX7_lampsOf_14 : decode cX7_lampsOf 14 = .ok (.if_icmp .ge 99, 3) := by decide +kernel
theorem dX7_lampsOf_17 : decode cX7_lampsOf 17 = .ok (.iload_n 2, 1) := by decide +kernel
theorem dX7_lampsOf_18 : decode cX7_lampsOf 18 = .ok (.ifCond .eq 56, 3) := by decide +kernel
theorem dX7_lampsOf_21 : decode cX7_lampsOf 21 = .ok (.iload_n 2, 1) := by decide +kernel
theorem dX7_lampsOf_22 : decode cX7_lampsOf 22 = .ok (.iconst 1, 1) := by decide +kernel
theorem dX7_lampsOf_23 : decode cX7_lampsOf 23 = .ok (.if_icmp .ne 12, 3) := by decide +kernel
theorem dX7_lampsOf_26 : decode cX7_lampsOf 26 = .ok (.aload_n 0, 1) := by decide +kernel
theorem dX7_lampsOf_27 : decode cX7_lampsOf 27 = .ok (.iload 5, 2) := by decide +kernel
theorem dX7_lampsOf_29 : decode cX7_lampsOf 29 = .ok (.invokevirtual 91, 3) := by decide +kernel
theorem dX7_lampsOf_32 : decode cX7_lampsOf 32 = .ok (.ifCond .ne 42, 3) := by decide +kernel
theorem dX7_lampsOf_35 : decode cX7_lampsOf 35 = .ok (.iload_n 2, 1) := by decide +kernel
theorem dX7_lampsOf_36 : decode cX7_lampsOf 36 = .ok (.iconst 2, 1) := by decide +kernel
theorem dX7_lampsOf_37 : decode cX7_lampsOf 37 = .ok (.if_icmp .ne 22, 3) := by decide +kernel
theorem dX7_lampsOf_40 : decode cX7_lampsOf 40 = .ok (.aload_n 0, 1) := by decide +kernel
theorem dX7_lampsOf_41 : decode cX7_lampsOf 41 = .ok (.iload 5, 2) := by decide +kernel
theorem dX7_lampsOf_43 : decode cX7_lampsOf 43 = .ok (.invokevirtual 91, 3) := by decide +kernel
theorem dX7_lampsOf_46 : decode cX7_lampsOf 46 = .ok (.ifCond .eq 13, 3) := by decide +kernel
theorem dX7_lampsOf_49 : decode cX7_lampsOf 49 = .ok (.aload_n 0, 1) := by decide +kernel
theorem dX7_lampsOf_50 : decode cX7_lampsOf 50 = .ok (.iload 5, 2) := by decide +kernel
theorem dX7_lampsOf_52 : decode cX7_lampsOf 52 = .ok (.invokevirtual 161, 3) := by decide +kernel
theorem dX7_lampsOf_55 : decode cX7_lampsOf 55 = .ok (.iload_n 3, 1) := by decide +kernel
theorem dX7_lampsOf_56 : decode cX7_lampsOf 56 = .ok (.if_icmp .lt 18, 3) := by decide +kernel
theorem dX7_lampsOf_59 : decode cX7_lampsOf 59 = .ok (.iload_n 2, 1) := by decide +kernel
theorem dX7_lampsOf_60 : decode cX7_lampsOf 60 = .ok (.iconst 3, 1) := by decide +kernel
theorem dX7_lampsOf_61 : decode cX7_lampsOf 61 = .ok (.if_icmp .ne 17, 3) := by decide +kernel
theorem dX7_lampsOf_64 : decode cX7_lampsOf 64 = .ok (.aload_n 0, 1) := by decide +kernel
theorem dX7_lampsOf_65 : decode cX7_lampsOf 65 = .ok (.iload 5, 2) := by decide +kernel
theorem dX7_lampsOf_67 : decode cX7_lampsOf 67 = .ok (.invokevirtual 161, 3) := by decide +kernel
theorem dX7_lampsOf_70 : decode cX7_lampsOf 70 = .ok (.iload_n 3, 1) := by decide +kernel
theorem dX7_lampsOf_71 : decode cX7_lampsOf 71 = .ok (.if_icmp .lt 7, 3) := by decide +kernel
theorem dX7_lampsOf_74 : decode cX7_lampsOf 74 = .ok (.iconst 1, 1) := by decide +kernel
theorem dX7_lampsOf_75 : decode cX7_lampsOf 75 = .ok (.goto 4, 3) := by decide +kernel
theorem dX7_lampsOf_78 : decode cX7_lampsOf 78 = .ok (.iconst 0, 1) := by decide +kernel
theorem dX7_lampsOf_79 : decode cX7_lampsOf 79 = .ok (.istore 6, 2) := by decide +kernel
theorem dX7_lampsOf_81 : decode cX7_lampsOf 81 = .ok (.iload 4, 2) := by decide +kernel
theorem dX7_lampsOf_83 : decode cX7_lampsOf 83 = .ok (.aload_n 0, 1) := by decide +kernel
theorem dX7_lampsOf_84 : decode cX7_lampsOf 84 = .ok (.iload 5, 2) := by decide +kernel
theorem dX7_lampsOf_86 : decode cX7_lampsOf 86 = .ok (.iconst 0, 1) := by decide +kernel
theorem dX7_lampsOf_87 : decode cX7_lampsOf 87 = .ok (.invokevirtual 32, 3) := by decide +kernel
theorem dX7_lampsOf_90 : decode cX7_lampsOf 90 = .ok (.iload_n 1, 1) := by decide +kernel
theorem dX7_lampsOf_91 : decode cX7_lampsOf 91 = .ok (.if_icmp .ne 12, 3) := by decide +kernel
theorem dX7_lampsOf_94 : decode cX7_lampsOf 94 = .ok (.iload 6, 2) := by decide +kernel
theorem dX7_lampsOf_96 : decode cX7_lampsOf 96 = .ok (.ifCond .eq 7, 3) := by decide +kernel
theorem dX7_lampsOf_99 : decode cX7_lampsOf 99 = .ok (.iconst 1, 1) := by decide +kernel
theorem dX7_lampsOf_100 : decode cX7_lampsOf 100 = .ok (.goto 4, 3) := by decide +kernel
theorem dX7_lampsOf_103 : decode cX7_lampsOf 103 = .ok (.iconst 0, 1) := by decide +kernel
theorem dX7_lampsOf_104 : decode cX7_lampsOf 104 = .ok (.iadd, 1) := by decide +kernel
theorem dX7_lampsOf_105 : decode cX7_lampsOf 105 = .ok (.istore 4, 2) := by decide +kernel
theorem dX7_lampsOf_107 : decode cX7_lampsOf 107 = .ok (.iinc 5 1, 3) := by decide +kernel
theorem dX7_lampsOf_110 : decode cX7_lampsOf 110 = .ok (.goto (-104), 3) := by decide +kernel
theorem dX7_lampsOf_113 : decode cX7_lampsOf 113 = .ok (.iload 4, 2) := by decide +kernel
theorem dX7_lampsOf_115 : decode cX7_lampsOf 115 = .ok (.ireturn, 1) := by decide +kernel
set_option maxRecDepth 20000 in
theorem ggX7_middleLife_X7_lampsOf : GoodIn wsX7_middleLife wsX7_lampsOf := goodIn_r _ [6, 1, 7, 8, 9, 5, 10, 11, 12, 13, 14, 15, 16, 17, 18, 19, 20, 21, 22, 23, 24, 25, 26, 27, 28, 29, 30, 31] (by decide +kernel) (by decide +kernel)
set_option maxRecDepth 20000 in
theorem gX7_middleLife_X7_lampsOf : GoodIn wsX7_middleLife (wsV RX7 167 RX7 yX7_lampsOf wsX7_lampsOf) := goodIn_app (goodIn_of _ (by decide +kernel)) ggX7_middleLife_X7_lampsOf
set_option maxRecDepth 20000 in
theorem ggX7_middleLife_X7_of : GoodIn wsX7_middleLife wsX7_of := goodIn_r _ [14, 1, 19, 20, 21, 22, 23, 24, 25, 26, 27, 28, 29, 30, 31] (by decide +kernel) (by decide +kernel)
set_option maxRecDepth 20000 in
theorem gX7_middleLife_X7_of : GoodIn wsX7_middleLife (wsV RX7 32 RX7 yX7_of wsX7_of) := goodIn_app (goodIn_of _ (by decide +kernel)) ggX7_middleLife_X7_of
set_option maxRecDepth 20000 in
theorem ggX7_middleLife_X7_isDead : GoodIn wsX7_middleLife wsX7_isDead := goodIn_r _ [10, 11, 12, 13, 5, 14, 1, 19, 20, 21, 22, 23, 24, 25, 26, 27, 28, 29, 30, 31] (by decide +kernel) (by decide +kernel)
set_option maxRecDepth 20000 in
theorem gX7_middleLife_X7_isDead : GoodIn wsX7_middleLife (wsV RX7 91 RX7 yX7_isDead wsX7_isDead) := goodIn_app (goodIn_of _ (by decide +kernel)) ggX7_middleLife_X7_isDead
set_option maxRecDepth 20000 in
theorem ggX7_middleLife_X7_counts : GoodIn wsX7_middleLife wsX7_counts := goodIn_r _ [18, 11, 12, 13, 5, 14, 1, 19, 20, 21, 22, 23, 24, 25, 26, 27, 28, 29, 30, 31] (by decide +kernel) (by decide +kernel)
set_option maxRecDepth 20000 in
theorem gX7_middleLife_X7_counts : GoodIn wsX7_middleLife (wsV RX7 161 RX7 yX7_counts wsX7_counts) := goodIn_app (goodIn_of _ (by decide +kernel)) ggX7_middleLife_X7_counts
theorem dX7_middleLife_0 : decode cX7_middleLife 0 = .ok (.aload_n 0, 1) := by decide +kernel
theorem dX7_middleLife_1 : decode cX7_middleLife 1 = .ok (.iload_n 1, 1) := by decide +kernel
theorem dX7_middleLife_2 : decode cX7_middleLife 2 = .ok (.iconst 0, 1) := by decide +kernel
theorem dX7_middleLife_3 : decode cX7_middleLife 3 = .ok (.iconst 0, 1) := by decide +kernel
theorem dX7_middleLife_4 : decode cX7_middleLife 4 = .ok (.invokevirtual 167, 3) := by decide +kernel
theorem dX7_middleLife_7 : decode cX7_middleLife 7 = .ok (.istore_n 2, 1) := by decide +kernel
theorem dX7_middleLife_8 : decode cX7_middleLife 8 = .ok (.iload_n 2, 1) := by decide +kernel
theorem dX7_middleLife_9 : decode cX7_middleLife 9 = .ok (.ifCond .eq 16, 3) := by decide +kernel
theorem dX7_middleLife_12 : decode cX7_middleLife 12 = .ok (.iconst 2, 1) := by decide +kernel
theorem dX7_middleLife_13 : decode cX7_middleLife 13 = .ok (.aload_n 0, 1) := by decide +kernel
theorem dX7_middleLife_14 : decode cX7_middleLife 14 = .ok (.iload_n 1, 1) := by decide +kernel
theorem dX7_middleLife_15 : decode cX7_middleLife 15 = .ok (.iconst 1, 1) := by decide +kernel
theorem dX7_middleLife_16 : decode cX7_middleLife 16 = .ok (.iconst 0, 1) := by decide +kernel
theorem dX7_middleLife_17 : decode cX7_middleLife 17 = .ok (.invokevirtual 167, 3) := by decide +kernel
theorem dX7_middleLife_20 : decode cX7_middleLife 20 = .ok (.imul, 1) := by decide +kernel
theorem dX7_middleLife_21 : decode cX7_middleLife 21 = .ok (.iload_n 2, 1) := by decide +kernel
theorem dX7_middleLife_22 : decode cX7_middleLife 22 = .ok (.if_icmp .ge 7, 3) := by decide +kernel
theorem dX7_middleLife_25 : decode cX7_middleLife 25 = .ok (.sipush (-1005), 3) := by decide +kernel
theorem dX7_middleLife_28 : decode cX7_middleLife 28 = .ok (.ireturn, 1) := by decide +kernel
theorem dX7_middleLife_29 : decode cX7_middleLife 29 = .ok (.sipush (-1005), 3) := by decide +kernel
theorem dX7_middleLife_32 : decode cX7_middleLife 32 = .ok (.istore_n 3, 1) := by decide +kernel
theorem dX7_middleLife_33 : decode cX7_middleLife 33 = .ok (.iconst 0, 1) := by decide +kernel
theorem dX7_middleLife_34 : decode cX7_middleLife 34 = .ok (.istore 4, 2) := by decide +kernel
theorem dX7_middleLife_36 : decode cX7_middleLife 36 = .ok (.iload 4, 2) := by decide +kernel
theorem dX7_middleLife_38 : decode cX7_middleLife 38 = .ok (.aload_n 0, 1) := by decide +kernel
theorem dX7_middleLife_39 : decode cX7_middleLife 39 = .ok (.getfield 7, 3) := by decide +kernel
theorem dX7_middleLife_42 : decode cX7_middleLife 42 = .ok (.iconst 3, 1) := by decide +kernel
theorem dX7_middleLife_43 : decode cX7_middleLife 43 = .ok (.iaload, 1) := by decide +kernel
theorem dX7_middleLife_44 : decode cX7_middleLife 44 = .ok (.if_icmp .ge 89, 3) := by decide +kernel
theorem dX7_middleLife_47 : decode cX7_middleLife 47 = .ok (.aload_n 0, 1) := by decide +kernel
theorem dX7_middleLife_48 : decode cX7_middleLife 48 = .ok (.iload 4, 2) := by decide +kernel
theorem dX7_middleLife_50 : decode cX7_middleLife 50 = .ok (.iconst 0, 1) := by decide +kernel
theorem dX7_middleLife_51 : decode cX7_middleLife 51 = .ok (.invokevirtual 32, 3) := by decide +kernel
theorem dX7_middleLife_54 : decode cX7_middleLife 54 = .ok (.iload_n 1, 1) := by decide +kernel
theorem dX7_middleLife_55 : decode cX7_middleLife 55 = .ok (.if_icmp .ne 36, 3) := by decide +kernel
theorem dX7_middleLife_58 : decode cX7_middleLife 58 = .ok (.aload_n 0, 1) := by decide +kernel
theorem dX7_middleLife_59 : decode cX7_middleLife 59 = .ok (.iload 4, 2) := by decide +kernel
theorem dX7_middleLife_61 : decode cX7_middleLife 61 = .ok (.invokevirtual 91, 3) := by decide +kernel
theorem dX7_middleLife_64 : decode cX7_middleLife 64 = .ok (.ifCond .eq 27, 3) := by decide +kernel
theorem dX7_middleLife_67 : decode cX7_middleLife 67 = .ok (.iconst 2, 1) := by decide +kernel
theorem dX7_middleLife_68 : decode cX7_middleLife 68 = .ok (.aload_n 0, 1) := by decide +kernel
theorem dX7_middleLife_69 : decode cX7_middleLife 69 = .ok (.iload_n 1, 1) := by decide +kernel
theorem dX7_middleLife_70 : decode cX7_middleLife 70 = .ok (.iconst 2, 1) := by decide +kernel
theorem dX7_middleLife_71 : decode cX7_middleLife 71 = .ok (.aload_n 0, 1) := by decide +kernel
theorem dX7_middleLife_72 : decode cX7_middleLife 72 = .ok (.iload 4, 2) := by decide +kernel
theorem dX7_middleLife_74 : decode cX7_middleLife 74 = .ok (.invokevirtual 161, 3) := by decide +kernel
theorem dX7_middleLife_77 : decode cX7_middleLife 77 = .ok (.iconst 1, 1) := by decide +kernel
theorem dX7_middleLife_78 : decode cX7_middleLife 78 = .ok (.iadd, 1) := by decide +kernel
theorem dX7_middleLife_79 : decode cX7_middleLife 79 = .ok (.invokevirtual 167, 3) := by decide +kernel
theorem dX7_middleLife_82 : decode cX7_middleLife 82 = .ok (.imul, 1) := by decide +kernel
theorem dX7_middleLife_83 : decode cX7_middleLife 83 = .ok (.iload_n 2, 1) := by decide +kernel
theorem dX7_middleLife_84 : decode cX7_middleLife 84 = .ok (.if_icmp .lt 7, 3) := by decide +kernel
theorem dX7_middleLife_87 : decode cX7_middleLife 87 = .ok (.iconst 1, 1) := by decide +kernel
theorem dX7_middleLife_88 : decode cX7_middleLife 88 = .ok (.goto 4, 3) := by decide +kernel
theorem dX7_middleLife_91 : decode cX7_middleLife 91 = .ok (.iconst 0, 1) := by decide +kernel
theorem dX7_middleLife_92 : decode cX7_middleLife 92 = .ok (.istore 5, 2) := by decide +kernel
theorem dX7_middleLife_94 : decode cX7_middleLife 94 = .ok (.iload 5, 2) := by decide +kernel
theorem dX7_middleLife_96 : decode cX7_middleLife 96 = .ok (.ifCond .eq 29, 3) := by decide +kernel
theorem dX7_middleLife_99 : decode cX7_middleLife 99 = .ok (.iload_n 3, 1) := by decide +kernel
theorem dX7_middleLife_100 : decode cX7_middleLife 100 = .ok (.sipush (-1005), 3) := by decide +kernel
theorem dX7_middleLife_103 : decode cX7_middleLife 103 = .ok (.if_icmp .eq 13, 3) := by decide +kernel
theorem dX7_middleLife_106 : decode cX7_middleLife 106 = .ok (.aload_n 0, 1) := by decide +kernel
theorem dX7_middleLife_107 : decode cX7_middleLife 107 = .ok (.iload 4, 2) := by decide +kernel
theorem dX7_middleLife_109 : decode cX7_middleLife 109 = .ok (.invokevirtual 161, 3) := by decide +kernel
theorem dX7_middleLife_112 : decode cX7_middleLife 112 = .ok (.iload_n 3, 1) := by decide +kernel
theorem dX7_middleLife_113 : decode cX7_middleLife 113 = .ok (.if_icmp .ge 12, 3) := by decide +kernel
theorem dX7_middleLife_116 : decode cX7_middleLife 116 = .ok (.aload_n 0, 1) := by decide +kernel
theorem dX7_middleLife_117 : decode cX7_middleLife 117 = .ok (.iload 4, 2) := by decide +kernel
theorem dX7_middleLife_119 : decode cX7_middleLife 119 = .ok (.invokevirtual 161, 3) := by decide +kernel
theorem dX7_middleLife_122 : decode cX7_middleLife 122 = .ok (.goto 4, 3) := by decide +kernel
theorem dX7_middleLife_125 : decode cX7_middleLife 125 = .ok (.iload_n 3, 1) := by decide +kernel
theorem dX7_middleLife_126 : decode cX7_middleLife 126 = .ok (.istore_n 3, 1) := by decide +kernel
theorem dX7_middleLife_127 : decode cX7_middleLife 127 = .ok (.iinc 4 1, 3) := by decide +kernel
theorem dX7_middleLife_130 : decode cX7_middleLife 130 = .ok (.goto (-94), 3) := by decide +kernel
theorem dX7_middleLife_133 : decode cX7_middleLife 133 = .ok (.iload_n 3, 1) := by decide +kernel
theorem dX7_middleLife_134 : decode cX7_middleLife 134 = .ok (.ireturn, 1) := by decide +kernel
set_option maxRecDepth 20000 in
theorem ggX7_early_X7_lampsOf : GoodIn wsX7_early wsX7_lampsOf := goodIn_r _ [6, 1, 7, 8, 9, 5, 10, 11, 12, 13, 14, 15, 16, 17, 18, 19, 20, 21, 22, 23, 24, 25, 26, 27, 28, 29, 30, 31] (by decide +kernel) (by decide +kernel)
set_option maxRecDepth 20000 in
theorem gX7_early_X7_lampsOf : GoodIn wsX7_early (wsV RX7 167 RX7 yX7_lampsOf wsX7_lampsOf) := goodIn_app (goodIn_of _ (by decide +kernel)) ggX7_early_X7_lampsOf
theorem dX7_early_0 : decode cX7_early 0 = .ok (.aload_n 0, 1) := by decide +kernel
theorem dX7_early_1 : decode cX7_early 1 = .ok (.iload_n 1, 1) := by decide +kernel
theorem dX7_early_2 : decode cX7_early 2 = .ok (.iconst 2, 1) := by decide +kernel
theorem dX7_early_3 : decode cX7_early 3 = .ok (.aload_n 0, 1) := by decide +kernel
theorem dX7_early_4 : decode cX7_early 4 = .ok (.getfield 7, 3) := by decide +kernel
theorem dX7_early_7 : decode cX7_early 7 = .ok (.iconst 4, 1) := by decide +kernel
theorem dX7_early_8 : decode cX7_early 8 = .ok (.iconst 2, 1) := by decide +kernel
theorem dX7_early_9 : decode cX7_early 9 = .ok (.iload_n 1, 1) := by decide +kernel
theorem dX7_early_10 : decode cX7_early 10 = .ok (.imul, 1) := by decide +kernel
theorem dX7_early_11 : decode cX7_early 11 = .ok (.iadd, 1) := by decide +kernel
theorem dX7_early_12 : decode cX7_early 12 = .ok (.iaload, 1) := by decide +kernel
theorem dX7_early_13 : decode cX7_early 13 = .ok (.iconst 2, 1) := by decide +kernel
theorem dX7_early_14 : decode cX7_early 14 = .ok (.idiv, 1) := by decide +kernel
theorem dX7_early_15 : decode cX7_early 15 = .ok (.invokevirtual 167, 3) := by decide +kernel
theorem dX7_early_18 : decode cX7_early 18 = .ok (.ireturn, 1) := by decide +kernel
set_option maxRecDepth 20000 in
theorem ggX7_batch_X7_isBatch : GoodIn wsX7_batch wsX7_isBatch := goodIn_r _ [5, 6, 7, 4, 8] (by decide +kernel) (by decide +kernel)
set_option maxRecDepth 20000 in
theorem gX7_batch_X7_isBatch : GoodIn wsX7_batch (va_wsS RX7 55 yX7_isBatch wsX7_isBatch) := goodIn_app (goodIn_of _ (by decide +kernel)) ggX7_batch_X7_isBatch
set_option maxRecDepth 20000 in
theorem ggX7_batch_X7_lampsOf : GoodIn wsX7_batch wsX7_lampsOf := goodIn_r _ [12, 1, 13, 14, 15, 4, 16, 17, 18, 19, 20, 21, 22, 23, 24, 33, 34, 35, 36, 37, 38, 39, 40, 41, 42, 43, 44, 45] (by decide +kernel) (by decide +kernel)
set_option maxRecDepth 20000 in
theorem gX7_batch_X7_lampsOf : GoodIn wsX7_batch (wsV RX7 167 RX7 yX7_lampsOf wsX7_lampsOf) := goodIn_app (goodIn_of _ (by decide +kernel)) ggX7_batch_X7_lampsOf
set_option maxRecDepth 20000 in
theorem ggX7_batch_X7_early : GoodIn wsX7_batch wsX7_early := goodIn_r _ [28, 1, 9, 10, 11, 4, 12, 13, 14, 15, 16, 17, 18, 19, 20, 21, 22, 23, 24, 33, 34, 35, 36, 37, 38, 39, 40, 41, 42, 43, 44, 45] (by decide +kernel) (by decide +kernel)
set_option maxRecDepth 20000 in
theorem gX7_batch_X7_early : GoodIn wsX7_batch (wsV RX7 170 RX7 yX7_early wsX7_early) := goodIn_app (goodIn_of _ (by decide +kernel)) ggX7_batch_X7_early
set_option maxRecDepth 20000 in
theorem ggX7_batch_X7_middleLife : GoodIn wsX7_batch wsX7_middleLife := goodIn_r _ [32, 1, 9, 10, 11, 4, 12, 13, 14, 15, 16, 17, 18, 19, 20, 21, 22, 23, 24, 33, 34, 35, 36, 37, 38, 39, 40, 41, 42, 43, 44, 45] (by decide +kernel) (by decide +kernel)
set_option maxRecDepth 20000 in
theorem gX7_batch_X7_middleLife : GoodIn wsX7_batch (wsV RX7 173 RX7 yX7_middleLife wsX7_middleLife) := goodIn_app (goodIn_of _ (by decide +kernel)) ggX7_batch_X7_middleLife
theorem dX7_batch_0 : decode cX7_batch 0 = .ok (.iload_n 1, 1) := by decide +kernel
theorem dX7_batch_1 : decode cX7_batch 1 = .ok (.invokestatic 55, 3) := by decide +kernel
theorem dX7_batch_4 : decode cX7_batch 4 = .ok (.ifCond .ne 7, 3) := by decide +kernel
theorem dX7_batch_7 : decode cX7_batch 7 = .ok (.sipush (-1001), 3) := by decide +kernel
theorem dX7_batch_10 : decode cX7_batch 10 = .ok (.ireturn, 1) := by decide +kernel
theorem dX7_batch_11 : decode cX7_batch 11 = .ok (.iload_n 2, 1) := by decide +kernel
theorem dX7_batch_12 : decode cX7_batch 12 = .ok (.tableswitch 108 0 6 #[44, 44, 57, 65, 73, 79, 85], 44) := by decide +kernel
theorem dX7_batch_56 : decode cX7_batch 56 = .ok (.aload_n 0, 1) := by decide +kernel
theorem dX7_batch_57 : decode cX7_batch 57 = .ok (.getfield 7, 3) := by decide +kernel
theorem dX7_batch_60 : decode cX7_batch 60 = .ok (.iconst 4, 1) := by decide +kernel
theorem dX7_batch_61 : decode cX7_batch 61 = .ok (.iconst 2, 1) := by decide +kernel
theorem dX7_batch_62 : decode cX7_batch 62 = .ok (.iload_n 1, 1) := by decide +kernel
theorem dX7_batch_63 : decode cX7_batch 63 = .ok (.imul, 1) := by decide +kernel
theorem dX7_batch_64 : decode cX7_batch 64 = .ok (.iadd, 1) := by decide +kernel
theorem dX7_batch_65 : decode cX7_batch 65 = .ok (.iload_n 2, 1) := by decide +kernel
theorem dX7_batch_66 : decode cX7_batch 66 = .ok (.iadd, 1) := by decide +kernel
theorem dX7_batch_67 : decode cX7_batch 67 = .ok (.iaload, 1) := by decide +kernel
theorem dX7_batch_68 : decode cX7_batch 68 = .ok (.ireturn, 1) := by decide +kernel
theorem dX7_batch_69 : decode cX7_batch 69 = .ok (.aload_n 0, 1) := by decide +kernel
theorem dX7_batch_70 : decode cX7_batch 70 = .ok (.iload_n 1, 1) := by decide +kernel
theorem dX7_batch_71 : decode cX7_batch 71 = .ok (.iconst 0, 1) := by decide +kernel
theorem dX7_batch_72 : decode cX7_batch 72 = .ok (.iconst 0, 1) := by decide +kernel
theorem dX7_batch_73 : decode cX7_batch 73 = .ok (.invokevirtual 167, 3) := by decide +kernel
theorem dX7_batch_76 : decode cX7_batch 76 = .ok (.ireturn, 1) := by decide +kernel
theorem dX7_batch_77 : decode cX7_batch 77 = .ok (.aload_n 0, 1) := by decide +kernel
theorem dX7_batch_78 : decode cX7_batch 78 = .ok (.iload_n 1, 1) := by decide +kernel
theorem dX7_batch_79 : decode cX7_batch 79 = .ok (.iconst 1, 1) := by decide +kernel
theorem dX7_batch_80 : decode cX7_batch 80 = .ok (.iconst 0, 1) := by decide +kernel
theorem dX7_batch_81 : decode cX7_batch 81 = .ok (.invokevirtual 167, 3) := by decide +kernel
theorem dX7_batch_84 : decode cX7_batch 84 = .ok (.ireturn, 1) := by decide +kernel
theorem dX7_batch_85 : decode cX7_batch 85 = .ok (.aload_n 0, 1) := by decide +kernel
theorem dX7_batch_86 : decode cX7_batch 86 = .ok (.iload_n 1, 1) := by decide +kernel
theorem dX7_batch_87 : decode cX7_batch 87 = .ok (.invokevirtual 170, 3) := by decide +kernel
theorem dX7_batch_90 : decode cX7_batch 90 = .ok (.ireturn, 1) := by decide +kernel
theorem dX7_batch_91 : decode cX7_batch 91 = .ok (.aload_n 0, 1) := by decide +kernel
theorem dX7_batch_92 : decode cX7_batch 92 = .ok (.iload_n 1, 1) := by decide +kernel
theorem dX7_batch_93 : decode cX7_batch 93 = .ok (.invokevirtual 173, 3) := by decide +kernel
theorem dX7_batch_96 : decode cX7_batch 96 = .ok (.ireturn, 1) := by decide +kernel
theorem dX7_batch_97 : decode cX7_batch 97 = .ok (.iconst 2, 1) := by decide +kernel
theorem dX7_batch_98 : decode cX7_batch 98 = .ok (.aload_n 0, 1) := by decide +kernel
theorem dX7_batch_99 : decode cX7_batch 99 = .ok (.iload_n 1, 1) := by decide +kernel
theorem dX7_batch_100 : decode cX7_batch 100 = .ok (.invokevirtual 170, 3) := by decide +kernel
theorem dX7_batch_103 : decode cX7_batch 103 = .ok (.imul, 1) := by decide +kernel
theorem dX7_batch_104 : decode cX7_batch 104 = .ok (.aload_n 0, 1) := by decide +kernel
theorem dX7_batch_105 : decode cX7_batch 105 = .ok (.iload_n 1, 1) := by decide +kernel
theorem dX7_batch_106 : decode cX7_batch 106 = .ok (.iconst 1, 1) := by decide +kernel
theorem dX7_batch_107 : decode cX7_batch 107 = .ok (.iconst 0, 1) := by decide +kernel
theorem dX7_batch_108 : decode cX7_batch 108 = .ok (.invokevirtual 167, 3) := by decide +kernel
theorem dX7_batch_111 : decode cX7_batch 111 = .ok (.if_icmp .le 7, 3) := by decide +kernel
theorem dX7_batch_114 : decode cX7_batch 114 = .ok (.iconst 1, 1) := by decide +kernel
theorem dX7_batch_115 : decode cX7_batch 115 = .ok (.goto 4, 3) := by decide +kernel
theorem dX7_batch_118 : decode cX7_batch 118 = .ok (.iconst 0, 1) := by decide +kernel
theorem dX7_batch_119 : decode cX7_batch 119 = .ok (.ireturn, 1) := by decide +kernel
theorem dX7_batch_120 : decode cX7_batch 120 = .ok (.sipush (-1002), 3) := by decide +kernel
theorem dX7_batch_123 : decode cX7_batch 123 = .ok (.ireturn, 1) := by decide +kernel
set_option maxRecDepth 20000 in
theorem ggX7_lasted_X7_isBatch : GoodIn wsX7_lasted wsX7_isBatch := goodIn_r _ [5, 6, 7, 4, 8] (by decide +kernel) (by decide +kernel)
set_option maxRecDepth 20000 in
theorem gX7_lasted_X7_isBatch : GoodIn wsX7_lasted (va_wsS RX7 55 yX7_isBatch wsX7_isBatch) := goodIn_app (goodIn_of _ (by decide +kernel)) ggX7_lasted_X7_isBatch
set_option maxRecDepth 20000 in
theorem ggX7_lasted_X7_in : GoodIn wsX7_lasted wsX7_in := goodIn_r _ [8] (by decide +kernel) (by decide +kernel)
set_option maxRecDepth 20000 in
theorem gX7_lasted_X7_in : GoodIn wsX7_lasted (va_wsS RX7 28 yX7_in wsX7_in) := goodIn_app (goodIn_of _ (by decide +kernel)) ggX7_lasted_X7_in
set_option maxRecDepth 20000 in
theorem ggX7_lasted_X7_lampsOf : GoodIn wsX7_lasted wsX7_lampsOf := goodIn_r _ [12, 13, 14, 15, 16, 4, 17, 18, 19, 20, 21, 22, 23, 24, 25, 26, 27, 28, 29, 30, 31, 32, 33, 34, 35, 36, 37, 38] (by decide +kernel) (by decide +kernel)
set_option maxRecDepth 20000 in
theorem gX7_lasted_X7_lampsOf : GoodIn wsX7_lasted (wsV RX7 167 RX7 yX7_lampsOf wsX7_lampsOf) := goodIn_app (goodIn_of _ (by decide +kernel)) ggX7_lasted_X7_lampsOf
theorem dX7_lasted_0 : decode cX7_lasted 0 = .ok (.iload_n 1, 1) := by decide +kernel
theorem dX7_lasted_1 : decode cX7_lasted 1 = .ok (.invokestatic 55, 3) := by decide +kernel
theorem dX7_lasted_4 : decode cX7_lasted 4 = .ok (.ifCond .ne 7, 3) := by decide +kernel
theorem dX7_lasted_7 : decode cX7_lasted 7 = .ok (.sipush (-1001), 3) := by decide +kernel
theorem dX7_lasted_10 : decode cX7_lasted 10 = .ok (.ireturn, 1) := by decide +kernel
theorem dX7_lasted_11 : decode cX7_lasted 11 = .ok (.iload_n 2, 1) := by decide +kernel
theorem dX7_lasted_12 : decode cX7_lasted 12 = .ok (.iconst 0, 1) := by decide +kernel
theorem dX7_lasted_13 : decode cX7_lasted 13 = .ok (.ldc 104, 2) := by decide +kernel
theorem dX7_lasted_15 : decode cX7_lasted 15 = .ok (.invokestatic 28, 3) := by decide +kernel
theorem dX7_lasted_18 : decode cX7_lasted 18 = .ok (.ifCond .eq 13, 3) := by decide +kernel
theorem dX7_lasted_21 : decode cX7_lasted 21 = .ok (.aload_n 0, 1) := by decide +kernel
theorem dX7_lasted_22 : decode cX7_lasted 22 = .ok (.iload_n 1, 1) := by decide +kernel
theorem dX7_lasted_23 : decode cX7_lasted 23 = .ok (.iconst 3, 1) := by decide +kernel
theorem dX7_lasted_24 : decode cX7_lasted 24 = .ok (.iload_n 2, 1) := by decide +kernel
theorem dX7_lasted_25 : decode cX7_lasted 25 = .ok (.invokevirtual 167, 3) := by decide +kernel
theorem dX7_lasted_28 : decode cX7_lasted 28 = .ok (.goto 6, 3) := by decide +kernel
theorem dX7_lasted_31 : decode cX7_lasted 31 = .ok (.sipush (-1002), 3) := by decide +kernel
theorem dX7_lasted_34 : decode cX7_lasted 34 = .ok (.ireturn, 1) := by decide +kernel
set_option maxRecDepth 20000 in
theorem ggX7_endsAhead_X7_isDead : GoodIn wsX7_endsAhead wsX7_isDead := goodIn_r _ [6, 7, 8, 9, 5, 10, 1, 11, 12, 13, 14, 15, 16, 17, 18, 19, 20, 21, 22, 23] (by decide +kernel) (by decide +kernel)
set_option maxRecDepth 20000 in
theorem gX7_endsAhead_X7_isDead : GoodIn wsX7_endsAhead (wsV RX7 91 RX7 yX7_isDead wsX7_isDead) := goodIn_app (goodIn_of _ (by decide +kernel)) ggX7_endsAhead_X7_isDead
set_option maxRecDepth 20000 in
theorem ggX7_endsAhead_X7_of : GoodIn wsX7_endsAhead wsX7_of := goodIn_r _ [10, 1, 11, 12, 13, 14, 15, 16, 17, 18, 19, 20, 21, 22, 23] (by decide +kernel) (by decide +kernel)
set_option maxRecDepth 20000 in
theorem gX7_endsAhead_X7_of : GoodIn wsX7_endsAhead (wsV RX7 32 RX7 yX7_of wsX7_of) := goodIn_app (goodIn_of _ (by decide +kernel)) ggX7_endsAhead_X7_of
theorem dX7_endsAhead_0 : decode cX7_endsAhead 0 = .ok (.iconst 0, 1) := by decide +kernel
theorem dX7_endsAhead_1 : decode cX7_endsAhead 1 = .ok (.istore_n 2, 1) := by decide +kernel
theorem dX7_endsAhead_2 : decode cX7_endsAhead 2 = .ok (.iconst 0, 1) := by decide +kernel
theorem dX7_endsAhead_3 : decode cX7_endsAhead 3 = .ok (.istore_n 3, 1) := by decide +kernel
theorem dX7_endsAhead_4 : decode cX7_endsAhead 4 = .ok (.iload_n 3, 1) := by decide +kernel
theorem dX7_endsAhead_5 : decode cX7_endsAhead 5 = .ok (.aload_n 0, 1) := by decide +kernel
theorem dX7_endsAhead_6 : decode cX7_endsAhead 6 = .ok (.getfield 7, 3) := by decide +kernel
theorem dX7_endsAhead_9 : decode cX7_endsAhead 9 = .ok (.iconst 3, 1) := by decide +kernel
theorem dX7_endsAhead_10 : decode cX7_endsAhead 10 = .ok (.iaload, 1) := by decide +kernel
theorem dX7_endsAhead_11 : decode cX7_endsAhead 11 = .ok (.if_icmp .ge 64, 3) := by decide +kernel
theorem dX7_endsAhead_14 : decode cX7_endsAhead 14 = .ok (.iload_n 2, 1) := by decide +kernel
theorem dX7_endsAhead_15 : decode cX7_endsAhead 15 = .ok (.aload_n 0, 1) := by decide +kernel
theorem dX7_endsAhead_16 : decode cX7_endsAhead 16 = .ok (.iload_n 3, 1) := by decide +kernel
theorem dX7_endsAhead_17 : decode cX7_endsAhead 17 = .ok (.invokevirtual 91, 3) := by decide +kernel
theorem dX7_endsAhead_20 : decode cX7_endsAhead 20 = .ok (.ifCond .eq 46, 3) := by decide +kernel
theorem dX7_endsAhead_23 : decode cX7_endsAhead 23 = .ok (.aload_n 0, 1) := by decide +kernel
theorem dX7_endsAhead_24 : decode cX7_endsAhead 24 = .ok (.iload_n 3, 1) := by decide +kernel
theorem dX7_endsAhead_25 : decode cX7_endsAhead 25 = .ok (.bipush 6, 2) := by decide +kernel
theorem dX7_endsAhead_27 : decode cX7_endsAhead 27 = .ok (.invokevirtual 32, 3) := by decide +kernel
theorem dX7_endsAhead_30 : decode cX7_endsAhead 30 = .ok (.aload_n 0, 1) := by decide +kernel
theorem dX7_endsAhead_31 : decode cX7_endsAhead 31 = .ok (.iload_n 1, 1) := by decide +kernel
theorem dX7_endsAhead_32 : decode cX7_endsAhead 32 = .ok (.bipush 6, 2) := by decide +kernel
theorem dX7_endsAhead_34 : decode cX7_endsAhead 34 = .ok (.invokevirtual 32, 3) := by decide +kernel
theorem dX7_endsAhead_37 : decode cX7_endsAhead 37 = .ok (.if_icmp .lt 25, 3) := by decide +kernel
theorem dX7_endsAhead_40 : decode cX7_endsAhead 40 = .ok (.aload_n 0, 1) := by decide +kernel
theorem dX7_endsAhead_41 : decode cX7_endsAhead 41 = .ok (.iload_n 3, 1) := by decide +kernel
theorem dX7_endsAhead_42 : decode cX7_endsAhead 42 = .ok (.bipush 6, 2) := by decide +kernel
theorem dX7_endsAhead_44 : decode cX7_endsAhead 44 = .ok (.invokevirtual 32, 3) := by decide +kernel
theorem dX7_endsAhead_47 : decode cX7_endsAhead 47 = .ok (.aload_n 0, 1) := by decide +kernel
theorem dX7_endsAhead_48 : decode cX7_endsAhead 48 = .ok (.iload_n 1, 1) := by decide +kernel
theorem dX7_endsAhead_49 : decode cX7_endsAhead 49 = .ok (.bipush 6, 2) := by decide +kernel
theorem dX7_endsAhead_51 : decode cX7_endsAhead 51 = .ok (.invokevirtual 32, 3) := by decide +kernel
theorem dX7_endsAhead_54 : decode cX7_endsAhead 54 = .ok (.if_icmp .ne 12, 3) := by decide +kernel
theorem dX7_endsAhead_57 : decode cX7_endsAhead 57 = .ok (.iload_n 3, 1) := by decide +kernel
theorem dX7_endsAhead_58 : decode cX7_endsAhead 58 = .ok (.iload_n 1, 1) := by decide +kernel
theorem dX7_endsAhead_59 : decode cX7_endsAhead 59 = .ok (.if_icmp .ge 7, 3) := by decide +kernel
theorem dX7_endsAhead_62 : decode cX7_endsAhead 62 = .ok (.iconst 1, 1) := by decide +kernel
theorem dX7_endsAhead_63 : decode cX7_endsAhead 63 = .ok (.goto 4, 3) := by decide +kernel
theorem dX7_endsAhead_66 : decode cX7_endsAhead 66 = .ok (.iconst 0, 1) := by decide +kernel
theorem dX7_endsAhead_67 : decode cX7_endsAhead 67 = .ok (.iadd, 1) := by decide +kernel
theorem dX7_endsAhead_68 : decode cX7_endsAhead 68 = .ok (.istore_n 2, 1) := by decide +kernel
theorem dX7_endsAhead_69 : decode cX7_endsAhead 69 = .ok (.iinc 3 1, 3) := by decide +kernel
theorem dX7_endsAhead_72 : decode cX7_endsAhead 72 = .ok (.goto (-68), 3) := by decide +kernel
theorem dX7_endsAhead_75 : decode cX7_endsAhead 75 = .ok (.iload_n 2, 1) := by decide +kernel
theorem dX7_endsAhead_76 : decode cX7_endsAhead 76 = .ok (.ireturn, 1) := by decide +kernel
set_option maxRecDepth 20000 in
theorem ggX7_ended_X7_isDead : GoodIn wsX7_ended wsX7_isDead := goodIn_r _ [6, 7, 8, 9, 5, 10, 1, 15, 16, 17, 18, 19, 20, 21, 22, 23, 24, 25, 26, 27] (by decide +kernel) (by decide +kernel)
set_option maxRecDepth 20000 in
theorem gX7_ended_X7_isDead : GoodIn wsX7_ended (wsV RX7 91 RX7 yX7_isDead wsX7_isDead) := goodIn_app (goodIn_of _ (by decide +kernel)) ggX7_ended_X7_isDead
set_option maxRecDepth 20000 in
theorem ggX7_ended_X7_endsAhead : GoodIn wsX7_ended wsX7_endsAhead := goodIn_r _ [14, 1, 2, 3, 4, 5, 6, 7, 8, 9, 10, 15, 16, 17, 18, 19, 20, 21, 22, 23, 24, 25, 26, 27] (by decide +kernel) (by decide +kernel)
set_option maxRecDepth 20000 in
theorem gX7_ended_X7_endsAhead : GoodIn wsX7_ended (wsV RX7 176 RX7 yX7_endsAhead wsX7_endsAhead) := goodIn_app (goodIn_of _ (by decide +kernel)) ggX7_ended_X7_endsAhead
theorem dX7_ended_0 : decode cX7_ended 0 = .ok (.iload_n 1, 1) := by decide +kernel
theorem dX7_ended_1 : decode cX7_ended 1 = .ok (.ifCond .ge 7, 3) := by decide +kernel
theorem dX7_ended_4 : decode cX7_ended 4 = .ok (.sipush (-1002), 3) := by decide +kernel
theorem dX7_ended_7 : decode cX7_ended 7 = .ok (.ireturn, 1) := by decide +kernel
theorem dX7_ended_8 : decode cX7_ended 8 = .ok (.sipush (-1005), 3) := by decide +kernel
theorem dX7_ended_11 : decode cX7_ended 11 = .ok (.istore_n 2, 1) := by decide +kernel
theorem dX7_ended_12 : decode cX7_ended 12 = .ok (.iconst 0, 1) := by decide +kernel
theorem dX7_ended_13 : decode cX7_ended 13 = .ok (.istore_n 3, 1) := by decide +kernel
theorem dX7_ended_14 : decode cX7_ended 14 = .ok (.iload_n 3, 1) := by decide +kernel
theorem dX7_ended_15 : decode cX7_ended 15 = .ok (.aload_n 0, 1) := by decide +kernel
theorem dX7_ended_16 : decode cX7_ended 16 = .ok (.getfield 7, 3) := by decide +kernel
theorem dX7_ended_19 : decode cX7_ended 19 = .ok (.iconst 3, 1) := by decide +kernel
theorem dX7_ended_20 : decode cX7_ended 20 = .ok (.iaload, 1) := by decide +kernel
theorem dX7_ended_21 : decode cX7_ended 21 = .ok (.if_icmp .ge 32, 3) := by decide +kernel
theorem dX7_ended_24 : decode cX7_ended 24 = .ok (.aload_n 0, 1) := by decide +kernel
theorem dX7_ended_25 : decode cX7_ended 25 = .ok (.iload_n 3, 1) := by decide +kernel
theorem dX7_ended_26 : decode cX7_ended 26 = .ok (.invokevirtual 91, 3) := by decide +kernel
theorem dX7_ended_29 : decode cX7_ended 29 = .ok (.ifCond .eq 16, 3) := by decide +kernel
theorem dX7_ended_32 : decode cX7_ended 32 = .ok (.aload_n 0, 1) := by decide +kernel
theorem dX7_ended_33 : decode cX7_ended 33 = .ok (.iload_n 3, 1) := by decide +kernel
theorem dX7_ended_34 : decode cX7_ended 34 = .ok (.invokevirtual 176, 3) := by decide +kernel
theorem dX7_ended_37 : decode cX7_ended 37 = .ok (.iload_n 1, 1) := by decide +kernel
theorem dX7_ended_38 : decode cX7_ended 38 = .ok (.if_icmp .ne 7, 3) := by decide +kernel
theorem dX7_ended_41 : decode cX7_ended 41 = .ok (.iload_n 3, 1) := by decide +kernel
theorem dX7_ended_42 : decode cX7_ended 42 = .ok (.goto 4, 3) := by decide +kernel
theorem dX7_ended_45 : decode cX7_ended 45 = .ok (.iload_n 2, 1) := by decide +kernel
theorem dX7_ended_46 : decode cX7_ended 46 = .ok (.istore_n 2, 1) := by decide +kernel
theorem dX7_ended_47 : decode cX7_ended 47 = .ok (.iinc 3 1, 3) := by decide +kernel
theorem dX7_ended_50 : decode cX7_ended 50 = .ok (.goto (-36), 3) := by decide +kernel
theorem dX7_ended_53 : decode cX7_ended 53 = .ok (.iload_n 2, 1) := by decide +kernel
theorem dX7_ended_54 : decode cX7_ended 54 = .ok (.ireturn, 1) := by decide +kernel
set_option maxRecDepth 20000 in
theorem ggX7_lasts_X7_isLamp : GoodIn wsX7_lasts wsX7_isLamp := goodIn_r _ [5, 6, 7, 8, 4, 9, 26, 27, 28, 29, 30, 31, 32, 33, 34, 35, 36, 37, 38] (by decide +kernel) (by decide +kernel)
set_option maxRecDepth 20000 in
theorem gX7_lasts_X7_isLamp : GoodIn wsX7_lasts (wsV RX7 158 RX7 yX7_isLamp wsX7_isLamp) := goodIn_app (goodIn_of _ (by decide +kernel)) ggX7_lasts_X7_isLamp
set_option maxRecDepth 20000 in
theorem ggX7_lasts_X7_in : GoodIn wsX7_lasts wsX7_in := goodIn_r _ [9] (by decide +kernel) (by decide +kernel)
set_option maxRecDepth 20000 in
theorem gX7_lasts_X7_in : GoodIn wsX7_lasts (va_wsS RX7 28 yX7_in wsX7_in) := goodIn_app (goodIn_of _ (by decide +kernel)) ggX7_lasts_X7_in
set_option maxRecDepth 20000 in
theorem ggX7_lasts_X7_isDead : GoodIn wsX7_lasts wsX7_isDead := goodIn_r _ [13, 14, 15, 16, 4, 17, 6, 26, 27, 28, 29, 30, 31, 32, 33, 34, 35, 36, 37, 38] (by decide +kernel) (by decide +kernel)
set_option maxRecDepth 20000 in
theorem gX7_lasts_X7_isDead : GoodIn wsX7_lasts (wsV RX7 91 RX7 yX7_isDead wsX7_isDead) := goodIn_app (goodIn_of _ (by decide +kernel)) ggX7_lasts_X7_isDead
set_option maxRecDepth 20000 in
theorem ggX7_lasts_X7_isHot : GoodIn wsX7_lasts wsX7_isHot := goodIn_r _ [21, 14, 15, 16, 4, 17, 6, 7, 8, 9, 26, 27, 28, 29, 30, 31, 32, 33, 34, 35, 36, 37, 38] (by decide +kernel) (by decide +kernel)
set_option maxRecDepth 20000 in
theorem gX7_lasts_X7_isHot : GoodIn wsX7_lasts (wsV RX7 97 RX7 yX7_isHot wsX7_isHot) := goodIn_app (goodIn_of _ (by decide +kernel)) ggX7_lasts_X7_isHot
set_option maxRecDepth 20000 in
theorem ggX7_lasts_X7_wearAt : GoodIn wsX7_lasts wsX7_wearAt := goodIn_r _ [25, 6, 26, 27, 28, 29, 30, 31, 32, 33, 34, 35, 36, 37, 38] (by decide +kernel) (by decide +kernel)
set_option maxRecDepth 20000 in
theorem gX7_lasts_X7_wearAt : GoodIn wsX7_lasts (wsV RX7 100 RX7 yX7_wearAt wsX7_wearAt) := goodIn_app (goodIn_of _ (by decide +kernel)) ggX7_lasts_X7_wearAt
set_option maxRecDepth 20000 in
theorem ggX7_lasts_X7_of : GoodIn wsX7_lasts wsX7_of := goodIn_r _ [17, 6, 26, 27, 28, 29, 30, 31, 32, 33, 34, 35, 36, 37, 38] (by decide +kernel) (by decide +kernel)
set_option maxRecDepth 20000 in
theorem gX7_lasts_X7_of : GoodIn wsX7_lasts (wsV RX7 32 RX7 yX7_of wsX7_of) := goodIn_app (goodIn_of _ (by decide +kernel)) ggX7_lasts_X7_of
theorem dX7_lasts_0 : decode cX7_lasts 0 = .ok (.aload_n 0, 1) := by decide +kernel
theorem dX7_lasts_1 : decode cX7_lasts 1 = .ok (.iload_n 1, 1) := by decide +kernel
theorem dX7_lasts_2 : decode cX7_lasts 2 = .ok (.invokevirtual 158, 3) := by decide +kernel
theorem dX7_lasts_5 : decode cX7_lasts 5 = .ok (.ifCond .ne 7, 3) := by decide +kernel
theorem dX7_lasts_8 : decode cX7_lasts 8 = .ok (.sipush (-1001), 3) := by decide +kernel
theorem dX7_lasts_11 : decode cX7_lasts 11 = .ok (.ireturn, 1) := by decide +kernel
theorem dX7_lasts_12 : decode cX7_lasts 12 = .ok (.iload_n 2, 1) := by decide +kernel
theorem dX7_lasts_13 : decode cX7_lasts 13 = .ok (.iconst 1, 1) := by decide +kernel
theorem dX7_lasts_14 : decode cX7_lasts 14 = .ok (.sipush 300, 3) := by decide +kernel
theorem dX7_lasts_17 : decode cX7_lasts 17 = .ok (.invokestatic 28, 3) := by decide +kernel
theorem dX7_lasts_20 : decode cX7_lasts 20 = .ok (.ifCond .ne 7, 3) := by decide +kernel
theorem dX7_lasts_23 : decode cX7_lasts 23 = .ok (.sipush (-1002), 3) := by decide +kernel
theorem dX7_lasts_26 : decode cX7_lasts 26 = .ok (.ireturn, 1) := by decide +kernel
theorem dX7_lasts_27 : decode cX7_lasts 27 = .ok (.aload_n 0, 1) := by decide +kernel
theorem dX7_lasts_28 : decode cX7_lasts 28 = .ok (.iload_n 1, 1) := by decide +kernel
theorem dX7_lasts_29 : decode cX7_lasts 29 = .ok (.invokevirtual 91, 3) := by decide +kernel
theorem dX7_lasts_32 : decode cX7_lasts 32 = .ok (.ifCond .eq 7, 3) := by decide +kernel
theorem dX7_lasts_35 : decode cX7_lasts 35 = .ok (.sipush (-1004), 3) := by decide +kernel
theorem dX7_lasts_38 : decode cX7_lasts 38 = .ok (.ireturn, 1) := by decide +kernel
theorem dX7_lasts_39 : decode cX7_lasts 39 = .ok (.aload_n 0, 1) := by decide +kernel
theorem dX7_lasts_40 : decode cX7_lasts 40 = .ok (.iload_n 2, 1) := by decide +kernel
theorem dX7_lasts_41 : decode cX7_lasts 41 = .ok (.aload_n 0, 1) := by decide +kernel
theorem dX7_lasts_42 : decode cX7_lasts 42 = .ok (.iload_n 1, 1) := by decide +kernel
theorem dX7_lasts_43 : decode cX7_lasts 43 = .ok (.invokevirtual 97, 3) := by decide +kernel
theorem dX7_lasts_46 : decode cX7_lasts 46 = .ok (.invokevirtual 100, 3) := by decide +kernel
theorem dX7_lasts_49 : decode cX7_lasts 49 = .ok (.istore_n 3, 1) := by decide +kernel
theorem dX7_lasts_50 : decode cX7_lasts 50 = .ok (.bipush 10, 2) := by decide +kernel
theorem dX7_lasts_52 : decode cX7_lasts 52 = .ok (.aload_n 0, 1) := by decide +kernel
theorem dX7_lasts_53 : decode cX7_lasts 53 = .ok (.iload_n 1, 1) := by decide +kernel
theorem dX7_lasts_54 : decode cX7_lasts 54 = .ok (.iconst 3, 1) := by decide +kernel
theorem dX7_lasts_55 : decode cX7_lasts 55 = .ok (.invokevirtual 32, 3) := by decide +kernel
theorem dX7_lasts_58 : decode cX7_lasts 58 = .ok (.imul, 1) := by decide +kernel
theorem dX7_lasts_59 : decode cX7_lasts 59 = .ok (.aload_n 0, 1) := by decide +kernel
theorem dX7_lasts_60 : decode cX7_lasts 60 = .ok (.iload_n 1, 1) := by decide +kernel
theorem dX7_lasts_61 : decode cX7_lasts 61 = .ok (.iconst 4, 1) := by decide +kernel
theorem dX7_lasts_62 : decode cX7_lasts 62 = .ok (.invokevirtual 32, 3) := by decide +kernel
theorem dX7_lasts_65 : decode cX7_lasts 65 = .ok (.isub, 1) := by decide +kernel
theorem dX7_lasts_66 : decode cX7_lasts 66 = .ok (.iload_n 3, 1) := by decide +kernel
theorem dX7_lasts_67 : decode cX7_lasts 67 = .ok (.iadd, 1) := by decide +kernel
theorem dX7_lasts_68 : decode cX7_lasts 68 = .ok (.iconst 1, 1) := by decide +kernel
theorem dX7_lasts_69 : decode cX7_lasts 69 = .ok (.isub, 1) := by decide +kernel
theorem dX7_lasts_70 : decode cX7_lasts 70 = .ok (.iload_n 3, 1) := by decide +kernel
theorem dX7_lasts_71 : decode cX7_lasts 71 = .ok (.idiv, 1) := by decide +kernel
theorem dX7_lasts_72 : decode cX7_lasts 72 = .ok (.ireturn, 1) := by decide +kernel
set_option maxRecDepth 20000 in
theorem ggX7_reason_X7_isLamp : GoodIn wsX7_reason wsX7_isLamp := goodIn_r _ [5, 6, 7, 8, 4, 9, 26, 27, 28, 29, 30, 31, 32, 33, 34, 35, 36, 37, 38] (by decide +kernel) (by decide +kernel)
set_option maxRecDepth 20000 in
theorem gX7_reason_X7_isLamp : GoodIn wsX7_reason (wsV RX7 158 RX7 yX7_isLamp wsX7_isLamp) := goodIn_app (goodIn_of _ (by decide +kernel)) ggX7_reason_X7_isLamp
set_option maxRecDepth 20000 in
theorem ggX7_reason_X7_isDead : GoodIn wsX7_reason wsX7_isDead := goodIn_r _ [13, 14, 15, 16, 4, 17, 6, 26, 27, 28, 29, 30, 31, 32, 33, 34, 35, 36, 37, 38] (by decide +kernel) (by decide +kernel)
set_option maxRecDepth 20000 in
theorem gX7_reason_X7_isDead : GoodIn wsX7_reason (wsV RX7 91 RX7 yX7_isDead wsX7_isDead) := goodIn_app (goodIn_of _ (by decide +kernel)) ggX7_reason_X7_isDead
set_option maxRecDepth 20000 in
theorem ggX7_reason_X7_of : GoodIn wsX7_reason wsX7_of := goodIn_r _ [17, 6, 26, 27, 28, 29, 30, 31, 32, 33, 34, 35, 36, 37, 38] (by decide +kernel) (by decide +kernel)
set_option maxRecDepth 20000 in
theorem gX7_reason_X7_of : GoodIn wsX7_reason (wsV RX7 32 RX7 yX7_of wsX7_of) := goodIn_app (goodIn_of _ (by decide +kernel)) ggX7_reason_X7_of
set_option maxRecDepth 20000 in
theorem ggX7_reason_X7_burns : GoodIn wsX7_reason wsX7_burns := goodIn_r _ [21, 10, 11, 12, 4, 13, 14, 15, 16, 17, 6, 22, 23, 24, 25, 26, 27, 28, 29, 30, 31, 32, 33, 34, 35, 36, 37, 38] (by decide +kernel) (by decide +kernel)
set_option maxRecDepth 20000 in
theorem gX7_reason_X7_burns : GoodIn wsX7_reason (wsV RX7 94 RX7 yX7_burns wsX7_burns) := goodIn_app (goodIn_of _ (by decide +kernel)) ggX7_reason_X7_burns
theorem dX7_reason_0 : decode cX7_reason 0 = .ok (.aload_n 0, 1) := by decide +kernel
theorem dX7_reason_1 : decode cX7_reason 1 = .ok (.iload_n 1, 1) := by decide +kernel
theorem dX7_reason_2 : decode cX7_reason 2 = .ok (.invokevirtual 158, 3) := by decide +kernel
theorem dX7_reason_5 : decode cX7_reason 5 = .ok (.ifCond .ne 7, 3) := by decide +kernel
theorem dX7_reason_8 : decode cX7_reason 8 = .ok (.sipush (-1001), 3) := by decide +kernel
theorem dX7_reason_11 : decode cX7_reason 11 = .ok (.ireturn, 1) := by decide +kernel
theorem dX7_reason_12 : decode cX7_reason 12 = .ok (.aload_n 0, 1) := by decide +kernel
theorem dX7_reason_13 : decode cX7_reason 13 = .ok (.iload_n 1, 1) := by decide +kernel
theorem dX7_reason_14 : decode cX7_reason 14 = .ok (.invokevirtual 91, 3) := by decide +kernel
theorem dX7_reason_17 : decode cX7_reason 17 = .ok (.ifCond .eq 7, 3) := by decide +kernel
theorem dX7_reason_20 : decode cX7_reason 20 = .ok (.iconst 1, 1) := by decide +kernel
theorem dX7_reason_21 : decode cX7_reason 21 = .ok (.goto 32, 3) := by decide +kernel
theorem dX7_reason_24 : decode cX7_reason 24 = .ok (.aload_n 0, 1) := by decide +kernel
theorem dX7_reason_25 : decode cX7_reason 25 = .ok (.iload_n 1, 1) := by decide +kernel
theorem dX7_reason_26 : decode cX7_reason 26 = .ok (.iconst 1, 1) := by decide +kernel
theorem dX7_reason_27 : decode cX7_reason 27 = .ok (.invokevirtual 32, 3) := by decide +kernel
theorem dX7_reason_30 : decode cX7_reason 30 = .ok (.sipush (-1005), 3) := by decide +kernel
theorem dX7_reason_33 : decode cX7_reason 33 = .ok (.if_icmp .ne 7, 3) := by decide +kernel
theorem dX7_reason_36 : decode cX7_reason 36 = .ok (.iconst 2, 1) := by decide +kernel
theorem dX7_reason_37 : decode cX7_reason 37 = .ok (.goto 16, 3) := by decide +kernel
theorem dX7_reason_40 : decode cX7_reason 40 = .ok (.aload_n 0, 1) := by decide +kernel
theorem dX7_reason_41 : decode cX7_reason 41 = .ok (.iload_n 1, 1) := by decide +kernel
theorem dX7_reason_42 : decode cX7_reason 42 = .ok (.invokevirtual 94, 3) := by decide +kernel
theorem dX7_reason_45 : decode cX7_reason 45 = .ok (.ifCond .eq 7, 3) := by decide +kernel
theorem dX7_reason_48 : decode cX7_reason 48 = .ok (.iconst 0, 1) := by decide +kernel
theorem dX7_reason_49 : decode cX7_reason 49 = .ok (.goto 4, 3) := by decide +kernel
theorem dX7_reason_52 : decode cX7_reason 52 = .ok (.iconst 3, 1) := by decide +kernel
theorem dX7_reason_53 : decode cX7_reason 53 = .ok (.ireturn, 1) := by decide +kernel
set_option maxRecDepth 20000 in
theorem ggX7_firstEndedAt_X7_of : GoodIn wsX7_firstEndedAt wsX7_of := goodIn_r _ [6, 1, 7, 8, 9, 10, 11, 12, 13, 14, 15, 16, 17, 18, 19] (by decide +kernel) (by decide +kernel)
set_option maxRecDepth 20000 in
theorem gX7_firstEndedAt_X7_of : GoodIn wsX7_firstEndedAt (wsV RX7 32 RX7 yX7_of wsX7_of) := goodIn_app (goodIn_of _ (by decide +kernel)) ggX7_firstEndedAt_X7_of
theorem dX7_firstEndedAt_0 : decode cX7_firstEndedAt 0 = .ok (.sipush (-1005), 3) := by decide +kernel
theorem dX7_firstEndedAt_3 : decode cX7_firstEndedAt 3 = .ok (.istore_n 2, 1) := by decide +kernel
theorem dX7_firstEndedAt_4 : decode cX7_firstEndedAt 4 = .ok (.aload_n 0, 1) := by decide +kernel
theorem dX7_firstEndedAt_5 : decode cX7_firstEndedAt 5 = .ok (.getfield 7, 3) := by decide +kernel
theorem dX7_firstEndedAt_8 : decode cX7_firstEndedAt 8 = .ok (.iconst 3, 1) := by decide +kernel
theorem dX7_firstEndedAt_9 : decode cX7_firstEndedAt 9 = .ok (.iaload, 1) := by decide +kernel
theorem dX7_firstEndedAt_10 : decode cX7_firstEndedAt 10 = .ok (.iconst 1, 1) := by decide +kernel
theorem dX7_firstEndedAt_11 : decode cX7_firstEndedAt 11 = .ok (.isub, 1) := by decide +kernel
theorem dX7_firstEndedAt_12 : decode cX7_firstEndedAt 12 = .ok (.istore_n 3, 1) := by decide +kernel
theorem dX7_firstEndedAt_13 : decode cX7_firstEndedAt 13 = .ok (.iload_n 3, 1) := by decide +kernel
theorem dX7_firstEndedAt_14 : decode cX7_firstEndedAt 14 = .ok (.ifCond .lt 26, 3) := by decide +kernel
theorem dX7_firstEndedAt_17 : decode cX7_firstEndedAt 17 = .ok (.aload_n 0, 1) := by decide +kernel
theorem dX7_firstEndedAt_18 : decode cX7_firstEndedAt 18 = .ok (.iload_n 3, 1) := by decide +kernel
theorem dX7_firstEndedAt_19 : decode cX7_firstEndedAt 19 = .ok (.bipush 6, 2) := by decide +kernel
theorem dX7_firstEndedAt_21 : decode cX7_firstEndedAt 21 = .ok (.invokevirtual 32, 3) := by decide +kernel
theorem dX7_firstEndedAt_24 : decode cX7_firstEndedAt 24 = .ok (.iload_n 1, 1) := by decide +kernel
theorem dX7_firstEndedAt_25 : decode cX7_firstEndedAt 25 = .ok (.if_icmp .ne 7, 3) := by decide +kernel
theorem dX7_firstEndedAt_28 : decode cX7_firstEndedAt 28 = .ok (.iload_n 3, 1) := by decide +kernel
theorem dX7_firstEndedAt_29 : decode cX7_firstEndedAt 29 = .ok (.goto 4, 3) := by decide +kernel
theorem dX7_firstEndedAt_32 : decode cX7_firstEndedAt 32 = .ok (.iload_n 2, 1) := by decide +kernel
theorem dX7_firstEndedAt_33 : decode cX7_firstEndedAt 33 = .ok (.istore_n 2, 1) := by decide +kernel
theorem dX7_firstEndedAt_34 : decode cX7_firstEndedAt 34 = .ok (.iinc 3 (-1), 3) := by decide +kernel
theorem dX7_firstEndedAt_37 : decode cX7_firstEndedAt 37 = .ok (.goto (-24), 3) := by decide +kernel
theorem dX7_firstEndedAt_40 : decode cX7_firstEndedAt 40 = .ok (.iload_n 2, 1) := by decide +kernel
theorem dX7_firstEndedAt_41 : decode cX7_firstEndedAt 41 = .ok (.ireturn, 1) := by decide +kernel
set_option maxRecDepth 20000 in
theorem ggX7_next_X7_in : GoodIn wsX7_next wsX7_in := goodIn_r _ [6] (by decide +kernel) (by decide +kernel)
set_option maxRecDepth 20000 in
theorem gX7_next_X7_in : GoodIn wsX7_next (va_wsS RX7 28 yX7_in wsX7_in) := goodIn_app (goodIn_of _ (by decide +kernel)) ggX7_next_X7_in
set_option maxRecDepth 20000 in
theorem ggX7_next_X7_copyState : GoodIn wsX7_next wsX7_copyState := goodIn_r _ [9] (by decide +kernel) (by decide +kernel)
set_option maxRecDepth 20000 in
theorem gX7_next_X7_copyState : GoodIn wsX7_next (va_wsS RX7 40 yX7_copyState wsX7_copyState) := goodIn_app (goodIn_of _ (by decide +kernel)) ggX7_next_X7_copyState
set_option maxRecDepth 20000 in
theorem ggX7_next_X7_anHour : GoodIn wsX7_next wsX7_anHour := goodIn_r _ [13, 1, 14, 15, 16, 5, 17, 18, 19, 20, 21, 22, 23, 24, 25, 26, 27, 28, 29, 30, 31, 32, 33, 34, 35, 36, 37, 3, 4, 6, 38, 39, 40, 41, 46, 47, 48, 49, 50, 51, 52, 53, 54, 55, 56, 57, 58] (by decide +kernel) (by decide +kernel)
set_option maxRecDepth 20000 in
theorem gX7_next_X7_anHour : GoodIn wsX7_next (wsV RX7 105 RX7 yX7_anHour wsX7_anHour) := goodIn_app (goodIn_of _ (by decide +kernel)) ggX7_next_X7_anHour
set_option maxRecDepth 20000 in
theorem ggX7_next_X7_firstEndedAt : GoodIn wsX7_next wsX7_firstEndedAt := goodIn_r _ [45, 1, 22, 23, 24, 5, 25, 46, 47, 48, 49, 50, 51, 52, 53, 54, 55, 56, 57, 58] (by decide +kernel) (by decide +kernel)
set_option maxRecDepth 20000 in
theorem gX7_next_X7_firstEndedAt : GoodIn wsX7_next (wsV RX7 179 RX7 yX7_firstEndedAt wsX7_firstEndedAt) := goodIn_app (goodIn_of _ (by decide +kernel)) ggX7_next_X7_firstEndedAt
theorem dX7_next_0 : decode cX7_next 0 = .ok (.iload_n 1, 1) := by decide +kernel
theorem dX7_next_1 : decode cX7_next 1 = .ok (.iconst 0, 1) := by decide +kernel
theorem dX7_next_2 : decode cX7_next 2 = .ok (.iconst 1, 1) := by decide +kernel
theorem dX7_next_3 : decode cX7_next 3 = .ok (.invokestatic 28, 3) := by decide +kernel
theorem dX7_next_6 : decode cX7_next 6 = .ok (.ifCond .ne 7, 3) := by decide +kernel
theorem dX7_next_9 : decode cX7_next 9 = .ok (.sipush (-1002), 3) := by decide +kernel
theorem dX7_next_12 : decode cX7_next 12 = .ok (.ireturn, 1) := by decide +kernel
theorem dX7_next_13 : decode cX7_next 13 = .ok (.aload_n 0, 1) := by decide +kernel
theorem dX7_next_14 : decode cX7_next 14 = .ok (.getfield 7, 3) := by decide +kernel
theorem dX7_next_17 : decode cX7_next 17 = .ok (.iconst 0, 1) := by decide +kernel
theorem dX7_next_18 : decode cX7_next 18 = .ok (.aload_n 0, 1) := by decide +kernel
theorem dX7_next_19 : decode cX7_next 19 = .ok (.getfield 13, 3) := by decide +kernel
theorem dX7_next_22 : decode cX7_next 22 = .ok (.iconst 0, 1) := by decide +kernel
theorem dX7_next_23 : decode cX7_next 23 = .ok (.invokestatic 40, 3) := by decide +kernel
theorem dX7_next_26 : decode cX7_next 26 = .ok (.iconst 0, 1) := by decide +kernel
theorem dX7_next_27 : decode cX7_next 27 = .ok (.istore_n 2, 1) := by decide +kernel
theorem dX7_next_28 : decode cX7_next 28 = .ok (.iconst 0, 1) := by decide +kernel
theorem dX7_next_29 : decode cX7_next 29 = .ok (.istore_n 3, 1) := by decide +kernel
theorem dX7_next_30 : decode cX7_next 30 = .ok (.iload_n 3, 1) := by decide +kernel
theorem dX7_next_31 : decode cX7_next 31 = .ok (.ifCond .ne 21, 3) := by decide +kernel
theorem dX7_next_34 : decode cX7_next 34 = .ok (.iload_n 2, 1) := by decide +kernel
theorem dX7_next_35 : decode cX7_next 35 = .ok (.sipush 3000, 3) := by decide +kernel
theorem dX7_next_38 : decode cX7_next 38 = .ok (.if_icmp .ge 14, 3) := by decide +kernel
theorem dX7_next_41 : decode cX7_next 41 = .ok (.aload_n 0, 1) := by decide +kernel
theorem dX7_next_42 : decode cX7_next 42 = .ok (.invokevirtual 105, 3) := by decide +kernel
theorem dX7_next_45 : decode cX7_next 45 = .ok (.istore_n 3, 1) := by decide +kernel
theorem dX7_next_46 : decode cX7_next 46 = .ok (.iinc 2 1, 3) := by decide +kernel
theorem dX7_next_49 : decode cX7_next 49 = .ok (.goto (-19), 3) := by decide +kernel
theorem dX7_next_52 : decode cX7_next 52 = .ok (.iload_n 3, 1) := by decide +kernel
theorem dX7_next_53 : decode cX7_next 53 = .ok (.ifCond .ne 9, 3) := by decide +kernel
theorem dX7_next_56 : decode cX7_next 56 = .ok (.sipush (-1005), 3) := by decide +kernel
theorem dX7_next_59 : decode cX7_next 59 = .ok (.goto 13, 3) := by decide +kernel
theorem dX7_next_62 : decode cX7_next 62 = .ok (.aload_n 0, 1) := by decide +kernel
theorem dX7_next_63 : decode cX7_next 63 = .ok (.aload_n 0, 1) := by decide +kernel
theorem dX7_next_64 : decode cX7_next 64 = .ok (.getfield 7, 3) := by decide +kernel
theorem dX7_next_67 : decode cX7_next 67 = .ok (.iconst 2, 1) := by decide +kernel
theorem dX7_next_68 : decode cX7_next 68 = .ok (.iaload, 1) := by decide +kernel
theorem dX7_next_69 : decode cX7_next 69 = .ok (.invokevirtual 179, 3) := by decide +kernel
theorem dX7_next_72 : decode cX7_next 72 = .ok (.istore 4, 2) := by decide +kernel
theorem dX7_next_74 : decode cX7_next 74 = .ok (.aload_n 0, 1) := by decide +kernel
theorem dX7_next_75 : decode cX7_next 75 = .ok (.getfield 13, 3) := by decide +kernel
theorem dX7_next_78 : decode cX7_next 78 = .ok (.iconst 0, 1) := by decide +kernel
theorem dX7_next_79 : decode cX7_next 79 = .ok (.aload_n 0, 1) := by decide +kernel
theorem dX7_next_80 : decode cX7_next 80 = .ok (.getfield 7, 3) := by decide +kernel
theorem dX7_next_83 : decode cX7_next 83 = .ok (.iconst 0, 1) := by decide +kernel
theorem dX7_next_84 : decode cX7_next 84 = .ok (.invokestatic 40, 3) := by decide +kernel
theorem dX7_next_87 : decode cX7_next 87 = .ok (.iload_n 3, 1) := by decide +kernel
theorem dX7_next_88 : decode cX7_next 88 = .ok (.ifCond .eq 7, 3) := by decide +kernel
theorem dX7_next_91 : decode cX7_next 91 = .ok (.iload_n 1, 1) := by decide +kernel
theorem dX7_next_92 : decode cX7_next 92 = .ok (.ifCond .ne 8, 3) := by decide +kernel
theorem dX7_next_95 : decode cX7_next 95 = .ok (.iload 4, 2) := by decide +kernel
theorem dX7_next_97 : decode cX7_next 97 = .ok (.goto 4, 3) := by decide +kernel
theorem dX7_next_100 : decode cX7_next 100 = .ok (.iload_n 2, 1) := by decide +kernel
theorem dX7_next_101 : decode cX7_next 101 = .ok (.ireturn, 1) := by decide +kernel
set_option maxRecDepth 20000 in
theorem ggX7_sum_X7_of : GoodIn wsX7_sum wsX7_of := goodIn_r _ [6, 1, 7, 8, 9, 10, 11, 12, 13, 14, 15, 16, 17, 18, 19] (by decide +kernel) (by decide +kernel)
set_option maxRecDepth 20000 in
theorem gX7_sum_X7_of : GoodIn wsX7_sum (wsV RX7 32 RX7 yX7_of wsX7_of) := goodIn_app (goodIn_of _ (by decide +kernel)) ggX7_sum_X7_of
theorem dX7_sum_0 : decode cX7_sum 0 = .ok (.iconst 0, 1) := by decide +kernel
theorem dX7_sum_1 : decode cX7_sum 1 = .ok (.istore_n 2, 1) := by decide +kernel
theorem dX7_sum_2 : decode cX7_sum 2 = .ok (.iconst 0, 1) := by decide +kernel
theorem dX7_sum_3 : decode cX7_sum 3 = .ok (.istore_n 3, 1) := by decide +kernel
theorem dX7_sum_4 : decode cX7_sum 4 = .ok (.iload_n 3, 1) := by decide +kernel
theorem dX7_sum_5 : decode cX7_sum 5 = .ok (.aload_n 0, 1) := by decide +kernel
theorem dX7_sum_6 : decode cX7_sum 6 = .ok (.getfield 7, 3) := by decide +kernel
theorem dX7_sum_9 : decode cX7_sum 9 = .ok (.iconst 3, 1) := by decide +kernel
theorem dX7_sum_10 : decode cX7_sum 10 = .ok (.iaload, 1) := by decide +kernel
theorem dX7_sum_11 : decode cX7_sum 11 = .ok (.if_icmp .ge 18, 3) := by decide +kernel
theorem dX7_sum_14 : decode cX7_sum 14 = .ok (.iload_n 2, 1) := by decide +kernel
theorem dX7_sum_15 : decode cX7_sum 15 = .ok (.aload_n 0, 1) := by decide +kernel
theorem dX7_sum_16 : decode cX7_sum 16 = .ok (.iload_n 3, 1) := by decide +kernel
theorem dX7_sum_17 : decode cX7_sum 17 = .ok (.iload_n 1, 1) := by decide +kernel
theorem dX7_sum_18 : decode cX7_sum 18 = .ok (.invokevirtual 32, 3) := by decide +kernel
theorem dX7_sum_21 : decode cX7_sum 21 = .ok (.iadd, 1) := by decide +kernel
theorem dX7_sum_22 : decode cX7_sum 22 = .ok (.istore_n 2, 1) := by decide +kernel
theorem dX7_sum_23 : decode cX7_sum 23 = .ok (.iinc 3 1, 3) := by decide +kernel
theorem dX7_sum_26 : decode cX7_sum 26 = .ok (.goto (-22), 3) := by decide +kernel
theorem dX7_sum_29 : decode cX7_sum 29 = .ok (.iload_n 2, 1) := by decide +kernel
theorem dX7_sum_30 : decode cX7_sum 30 = .ok (.ireturn, 1) := by decide +kernel
set_option maxRecDepth 20000 in
theorem ggX7_burning_X7_burns : GoodIn wsX7_burning wsX7_burns := goodIn_r _ [6, 7, 8, 9, 5, 10, 11, 12, 13, 14, 1, 15, 16, 17, 18, 19, 20, 21, 22, 23, 24, 25, 26, 27, 28, 29, 30, 31] (by decide +kernel) (by decide +kernel)
set_option maxRecDepth 20000 in
theorem gX7_burning_X7_burns : GoodIn wsX7_burning (wsV RX7 94 RX7 yX7_burns wsX7_burns) := goodIn_app (goodIn_of _ (by decide +kernel)) ggX7_burning_X7_burns
theorem dX7_burning_0 : decode cX7_burning 0 = .ok (.iconst 0, 1) := by decide +kernel
theorem dX7_burning_1 : decode cX7_burning 1 = .ok (.istore_n 1, 1) := by decide +kernel
theorem dX7_burning_2 : decode cX7_burning 2 = .ok (.iconst 0, 1) := by decide +kernel
theorem dX7_burning_3 : decode cX7_burning 3 = .ok (.istore_n 2, 1) := by decide +kernel
theorem dX7_burning_4 : decode cX7_burning 4 = .ok (.iload_n 2, 1) := by decide +kernel
theorem dX7_burning_5 : decode cX7_burning 5 = .ok (.aload_n 0, 1) := by decide +kernel
theorem dX7_burning_6 : decode cX7_burning 6 = .ok (.getfield 7, 3) := by decide +kernel
theorem dX7_burning_9 : decode cX7_burning 9 = .ok (.iconst 3, 1) := by decide +kernel
theorem dX7_burning_10 : decode cX7_burning 10 = .ok (.iaload, 1) := by decide +kernel
theorem dX7_burning_11 : decode cX7_burning 11 = .ok (.if_icmp .ge 25, 3) := by decide +kernel
theorem dX7_burning_14 : decode cX7_burning 14 = .ok (.iload_n 1, 1) := by decide +kernel
theorem dX7_burning_15 : decode cX7_burning 15 = .ok (.aload_n 0, 1) := by decide +kernel
theorem dX7_burning_16 : decode cX7_burning 16 = .ok (.iload_n 2, 1) := by decide +kernel
theorem dX7_burning_17 : decode cX7_burning 17 = .ok (.invokevirtual 94, 3) := by decide +kernel
theorem dX7_burning_20 : decode cX7_burning 20 = .ok (.ifCond .eq 7, 3) := by decide +kernel
theorem dX7_burning_23 : decode cX7_burning 23 = .ok (.iconst 1, 1) := by decide +kernel
theorem dX7_burning_24 : decode cX7_burning 24 = .ok (.goto 4, 3) := by decide +kernel
theorem dX7_burning_27 : decode cX7_burning 27 = .ok (.iconst 0, 1) := by decide +kernel
theorem dX7_burning_28 : decode cX7_burning 28 = .ok (.iadd, 1) := by decide +kernel
theorem dX7_burning_29 : decode cX7_burning 29 = .ok (.istore_n 1, 1) := by decide +kernel
theorem dX7_burning_30 : decode cX7_burning 30 = .ok (.iinc 2 1, 3) := by decide +kernel
theorem dX7_burning_33 : decode cX7_burning 33 = .ok (.goto (-29), 3) := by decide +kernel
theorem dX7_burning_36 : decode cX7_burning 36 = .ok (.iload_n 1, 1) := by decide +kernel
theorem dX7_burning_37 : decode cX7_burning 37 = .ok (.ireturn, 1) := by decide +kernel
set_option maxRecDepth 20000 in
theorem ggX7_dead_X7_isDead : GoodIn wsX7_dead wsX7_isDead := goodIn_r _ [6, 7, 8, 9, 5, 10, 1, 11, 12, 13, 14, 15, 16, 17, 18, 19, 20, 21, 22, 23] (by decide +kernel) (by decide +kernel)
set_option maxRecDepth 20000 in
theorem gX7_dead_X7_isDead : GoodIn wsX7_dead (wsV RX7 91 RX7 yX7_isDead wsX7_isDead) := goodIn_app (goodIn_of _ (by decide +kernel)) ggX7_dead_X7_isDead
theorem dX7_dead_0 : decode cX7_dead 0 = .ok (.iconst 0, 1) := by decide +kernel
theorem dX7_dead_1 : decode cX7_dead 1 = .ok (.istore_n 1, 1) := by decide +kernel
theorem dX7_dead_2 : decode cX7_dead 2 = .ok (.iconst 0, 1) := by decide +kernel
theorem dX7_dead_3 : decode cX7_dead 3 = .ok (.istore_n 2, 1) := by decide +kernel
theorem dX7_dead_4 : decode cX7_dead 4 = .ok (.iload_n 2, 1) := by decide +kernel
theorem dX7_dead_5 : decode cX7_dead 5 = .ok (.aload_n 0, 1) := by decide +kernel
theorem dX7_dead_6 : decode cX7_dead 6 = .ok (.getfield 7, 3) := by decide +kernel
theorem dX7_dead_9 : decode cX7_dead 9 = .ok (.iconst 3, 1) := by decide +kernel
theorem dX7_dead_10 : decode cX7_dead 10 = .ok (.iaload, 1) := by decide +kernel
theorem dX7_dead_11 : decode cX7_dead 11 = .ok (.if_icmp .ge 25, 3) := by decide +kernel
theorem dX7_dead_14 : decode cX7_dead 14 = .ok (.iload_n 1, 1) := by decide +kernel
theorem dX7_dead_15 : decode cX7_dead 15 = .ok (.aload_n 0, 1) := by decide +kernel
theorem dX7_dead_16 : decode cX7_dead 16 = .ok (.iload_n 2, 1) := by decide +kernel
theorem dX7_dead_17 : decode cX7_dead 17 = .ok (.invokevirtual 91, 3) := by decide +kernel
theorem dX7_dead_20 : decode cX7_dead 20 = .ok (.ifCond .eq 7, 3) := by decide +kernel
theorem dX7_dead_23 : decode cX7_dead 23 = .ok (.iconst 1, 1) := by decide +kernel
theorem dX7_dead_24 : decode cX7_dead 24 = .ok (.goto 4, 3) := by decide +kernel
theorem dX7_dead_27 : decode cX7_dead 27 = .ok (.iconst 0, 1) := by decide +kernel
theorem dX7_dead_28 : decode cX7_dead 28 = .ok (.iadd, 1) := by decide +kernel
theorem dX7_dead_29 : decode cX7_dead 29 = .ok (.istore_n 1, 1) := by decide +kernel
theorem dX7_dead_30 : decode cX7_dead 30 = .ok (.iinc 2 1, 3) := by decide +kernel
theorem dX7_dead_33 : decode cX7_dead 33 = .ok (.goto (-29), 3) := by decide +kernel
theorem dX7_dead_36 : decode cX7_dead 36 = .ok (.iload_n 1, 1) := by decide +kernel
theorem dX7_dead_37 : decode cX7_dead 37 = .ok (.ireturn, 1) := by decide +kernel
set_option maxRecDepth 20000 in
theorem ggX7_count_X7_lampsIn : GoodIn wsX7_count wsX7_lampsIn := goodIn_r _ [8, 1, 9, 10, 11, 7, 12, 13, 14, 15, 16, 37, 38, 39, 40, 41, 42, 43, 44, 45, 46, 47, 48, 49] (by decide +kernel) (by decide +kernel)
set_option maxRecDepth 20000 in
theorem gX7_count_X7_lampsIn : GoodIn wsX7_count (wsV RX7 164 RX7 yX7_lampsIn wsX7_lampsIn) := goodIn_app (goodIn_of _ (by decide +kernel)) ggX7_count_X7_lampsIn
set_option maxRecDepth 20000 in
theorem ggX7_count_X7_burning : GoodIn wsX7_count wsX7_burning := goodIn_r _ [20, 1, 21, 22, 23, 7, 24, 13, 14, 15, 16, 9, 10, 11, 12, 25, 26, 27, 28, 37, 38, 39, 40, 41, 42, 43, 44, 45, 46, 47, 48, 49] (by decide +kernel) (by decide +kernel)
set_option maxRecDepth 20000 in
theorem gX7_count_X7_burning : GoodIn wsX7_count (wsV RX7 182 RX7 yX7_burning wsX7_burning) := goodIn_app (goodIn_of _ (by decide +kernel)) ggX7_count_X7_burning
set_option maxRecDepth 20000 in
theorem ggX7_count_X7_dead : GoodIn wsX7_count wsX7_dead := goodIn_r _ [32, 1, 13, 14, 15, 7, 16, 9, 10, 11, 12, 37, 38, 39, 40, 41, 42, 43, 44, 45, 46, 47, 48, 49] (by decide +kernel) (by decide +kernel)
set_option maxRecDepth 20000 in
theorem gX7_count_X7_dead : GoodIn wsX7_count (wsV RX7 185 RX7 yX7_dead wsX7_dead) := goodIn_app (goodIn_of _ (by decide +kernel)) ggX7_count_X7_dead
set_option maxRecDepth 20000 in
theorem ggX7_count_X7_sum : GoodIn wsX7_count wsX7_sum := goodIn_r _ [36, 1, 9, 10, 11, 7, 12, 37, 38, 39, 40, 41, 42, 43, 44, 45, 46, 47, 48, 49] (by decide +kernel) (by decide +kernel)
set_option maxRecDepth 20000 in
theorem gX7_count_X7_sum : GoodIn wsX7_count (wsV RX7 188 RX7 yX7_sum wsX7_sum) := goodIn_app (goodIn_of _ (by decide +kernel)) ggX7_count_X7_sum
theorem dX7_count_0 : decode cX7_count 0 = .ok (.iload_n 1, 1) := by decide +kernel
theorem dX7_count_1 : decode cX7_count 1 = .ok (.tableswitch 147 0 11 #[63, 70, 77, 98, 103, 108, 115, 121, 127, 127, 137, 142], 63) := by decide +kernel
theorem dX7_count_64 : decode cX7_count 64 = .ok (.aload_n 0, 1) := by decide +kernel
theorem dX7_count_65 : decode cX7_count 65 = .ok (.getfield 7, 3) := by decide +kernel
theorem dX7_count_68 : decode cX7_count 68 = .ok (.iconst 2, 1) := by decide +kernel
theorem dX7_count_69 : decode cX7_count 69 = .ok (.iaload, 1) := by decide +kernel
theorem dX7_count_70 : decode cX7_count 70 = .ok (.ireturn, 1) := by decide +kernel
theorem dX7_count_71 : decode cX7_count 71 = .ok (.aload_n 0, 1) := by decide +kernel
theorem dX7_count_72 : decode cX7_count 72 = .ok (.getfield 7, 3) := by decide +kernel
theorem dX7_count_75 : decode cX7_count 75 = .ok (.iconst 3, 1) := by decide +kernel
theorem dX7_count_76 : decode cX7_count 76 = .ok (.iaload, 1) := by decide +kernel
theorem dX7_count_77 : decode cX7_count 77 = .ok (.ireturn, 1) := by decide +kernel
theorem dX7_count_78 : decode cX7_count 78 = .ok (.aload_n 0, 1) := by decide +kernel
theorem dX7_count_79 : decode cX7_count 79 = .ok (.iconst 0, 1) := by decide +kernel
theorem dX7_count_80 : decode cX7_count 80 = .ok (.iconst 1, 1) := by decide +kernel
theorem dX7_count_81 : decode cX7_count 81 = .ok (.invokevirtual 164, 3) := by decide +kernel
theorem dX7_count_84 : decode cX7_count 84 = .ok (.aload_n 0, 1) := by decide +kernel
theorem dX7_count_85 : decode cX7_count 85 = .ok (.iconst 1, 1) := by decide +kernel
theorem dX7_count_86 : decode cX7_count 86 = .ok (.iconst 1, 1) := by decide +kernel
theorem dX7_count_87 : decode cX7_count 87 = .ok (.invokevirtual 164, 3) := by decide +kernel
theorem dX7_count_90 : decode cX7_count 90 = .ok (.iadd, 1) := by decide +kernel
theorem dX7_count_91 : decode cX7_count 91 = .ok (.aload_n 0, 1) := by decide +kernel
theorem dX7_count_92 : decode cX7_count 92 = .ok (.iconst 2, 1) := by decide +kernel
theorem dX7_count_93 : decode cX7_count 93 = .ok (.iconst 1, 1) := by decide +kernel
theorem dX7_count_94 : decode cX7_count 94 = .ok (.invokevirtual 164, 3) := by decide +kernel
theorem dX7_count_97 : decode cX7_count 97 = .ok (.iadd, 1) := by decide +kernel
theorem dX7_count_98 : decode cX7_count 98 = .ok (.ireturn, 1) := by decide +kernel
theorem dX7_count_99 : decode cX7_count 99 = .ok (.aload_n 0, 1) := by decide +kernel
theorem dX7_count_100 : decode cX7_count 100 = .ok (.invokevirtual 182, 3) := by decide +kernel
theorem dX7_count_103 : decode cX7_count 103 = .ok (.ireturn, 1) := by decide +kernel
theorem dX7_count_104 : decode cX7_count 104 = .ok (.aload_n 0, 1) := by decide +kernel
theorem dX7_count_105 : decode cX7_count 105 = .ok (.invokevirtual 185, 3) := by decide +kernel
theorem dX7_count_108 : decode cX7_count 108 = .ok (.ireturn, 1) := by decide +kernel
theorem dX7_count_109 : decode cX7_count 109 = .ok (.aload_n 0, 1) := by decide +kernel
theorem dX7_count_110 : decode cX7_count 110 = .ok (.bipush 7, 2) := by decide +kernel
theorem dX7_count_112 : decode cX7_count 112 = .ok (.invokevirtual 188, 3) := by decide +kernel
theorem dX7_count_115 : decode cX7_count 115 = .ok (.ireturn, 1) := by decide +kernel
theorem dX7_count_116 : decode cX7_count 116 = .ok (.aload_n 0, 1) := by decide +kernel
theorem dX7_count_117 : decode cX7_count 117 = .ok (.iconst 5, 1) := by decide +kernel
theorem dX7_count_118 : decode cX7_count 118 = .ok (.invokevirtual 188, 3) := by decide +kernel
theorem dX7_count_121 : decode cX7_count 121 = .ok (.ireturn, 1) := by decide +kernel
theorem dX7_count_122 : decode cX7_count 122 = .ok (.aload_n 0, 1) := by decide +kernel
theorem dX7_count_123 : decode cX7_count 123 = .ok (.iconst 4, 1) := by decide +kernel
theorem dX7_count_124 : decode cX7_count 124 = .ok (.invokevirtual 188, 3) := by decide +kernel
theorem dX7_count_127 : decode cX7_count 127 = .ok (.ireturn, 1) := by decide +kernel
theorem dX7_count_128 : decode cX7_count 128 = .ok (.aload_n 0, 1) := by decide +kernel
theorem dX7_count_129 : decode cX7_count 129 = .ok (.getfield 7, 3) := by decide +kernel
theorem dX7_count_132 : decode cX7_count 132 = .ok (.iload_n 1, 1) := by decide +kernel
theorem dX7_count_133 : decode cX7_count 133 = .ok (.bipush 8, 2) := by decide +kernel
theorem dX7_count_135 : decode cX7_count 135 = .ok (.isub, 1) := by decide +kernel
theorem dX7_count_136 : decode cX7_count 136 = .ok (.iaload, 1) := by decide +kernel
theorem dX7_count_137 : decode cX7_count 137 = .ok (.ireturn, 1) := by decide +kernel
theorem dX7_count_138 : decode cX7_count 138 = .ok (.aload_n 0, 1) := by decide +kernel
theorem dX7_count_139 : decode cX7_count 139 = .ok (.getfield 36, 3) := by decide +kernel
theorem dX7_count_142 : decode cX7_count 142 = .ok (.ireturn, 1) := by decide +kernel
theorem dX7_count_143 : decode cX7_count 143 = .ok (.aload_n 0, 1) := by decide +kernel
theorem dX7_count_144 : decode cX7_count 144 = .ok (.getfield 116, 3) := by decide +kernel
theorem dX7_count_147 : decode cX7_count 147 = .ok (.ireturn, 1) := by decide +kernel
theorem dX7_count_148 : decode cX7_count 148 = .ok (.sipush (-1002), 3) := by decide +kernel
theorem dX7_count_151 : decode cX7_count 151 = .ok (.ireturn, 1) := by decide +kernel
theorem dJ9_max_7cf53_0 : decode cJ9_max_7cf53 0 = .ok (.iload_n 0, 1) := by decide +kernel
theorem dJ9_max_7cf53_1 : decode cJ9_max_7cf53 1 = .ok (.iload_n 1, 1) := by decide +kernel
theorem dJ9_max_7cf53_2 : decode cJ9_max_7cf53 2 = .ok (.if_icmp .lt 7, 3) := by decide +kernel
theorem dJ9_max_7cf53_5 : decode cJ9_max_7cf53 5 = .ok (.iload_n 0, 1) := by decide +kernel
theorem dJ9_max_7cf53_6 : decode cJ9_max_7cf53 6 = .ok (.goto 4, 3) := by decide +kernel
theorem dJ9_max_7cf53_9 : decode cJ9_max_7cf53 9 = .ok (.iload_n 1, 1) := by decide +kernel
theorem dJ9_max_7cf53_10 : decode cJ9_max_7cf53 10 = .ok (.ireturn, 1) := by decide +kernel
theorem dJ9_min_7cf53_0 : decode cJ9_min_7cf53 0 = .ok (.iload_n 0, 1) := by decide +kernel
theorem dJ9_min_7cf53_1 : decode cJ9_min_7cf53 1 = .ok (.iload_n 1, 1) := by decide +kernel
theorem dJ9_min_7cf53_2 : decode cJ9_min_7cf53 2 = .ok (.if_icmp .gt 7, 3) := by decide +kernel
theorem dJ9_min_7cf53_5 : decode cJ9_min_7cf53 5 = .ok (.iload_n 0, 1) := by decide +kernel
theorem dJ9_min_7cf53_6 : decode cJ9_min_7cf53 6 = .ok (.goto 4, 3) := by decide +kernel
theorem dJ9_min_7cf53_9 : decode cJ9_min_7cf53 9 = .ok (.iload_n 1, 1) := by decide +kernel
theorem dJ9_min_7cf53_10 : decode cJ9_min_7cf53 10 = .ok (.ireturn, 1) := by decide +kernel
theorem dJ7_fill_53178_0 : decode cJ7_fill_53178 0 = .ok (.iconst 0, 1) := by decide +kernel
theorem dJ7_fill_53178_1 : decode cJ7_fill_53178 1 = .ok (.istore_n 2, 1) := by decide +kernel
theorem dJ7_fill_53178_2 : decode cJ7_fill_53178 2 = .ok (.aload_n 0, 1) := by decide +kernel
theorem dJ7_fill_53178_3 : decode cJ7_fill_53178 3 = .ok (.arraylength, 1) := by decide +kernel
theorem dJ7_fill_53178_4 : decode cJ7_fill_53178 4 = .ok (.istore_n 3, 1) := by decide +kernel
theorem dJ7_fill_53178_5 : decode cJ7_fill_53178 5 = .ok (.iload_n 2, 1) := by decide +kernel
theorem dJ7_fill_53178_6 : decode cJ7_fill_53178 6 = .ok (.iload_n 3, 1) := by decide +kernel
theorem dJ7_fill_53178_7 : decode cJ7_fill_53178 7 = .ok (.if_icmp .ge 13, 3) := by decide +kernel
theorem dJ7_fill_53178_10 : decode cJ7_fill_53178 10 = .ok (.aload_n 0, 1) := by decide +kernel
theorem dJ7_fill_53178_11 : decode cJ7_fill_53178 11 = .ok (.iload_n 2, 1) := by decide +kernel
theorem dJ7_fill_53178_12 : decode cJ7_fill_53178 12 = .ok (.iload_n 1, 1) := by decide +kernel
theorem dJ7_fill_53178_13 : decode cJ7_fill_53178 13 = .ok (.iastore, 1) := by decide +kernel
theorem dJ7_fill_53178_14 : decode cJ7_fill_53178 14 = .ok (.iinc 2 1, 3) := by decide +kernel
theorem dJ7_fill_53178_17 : decode cJ7_fill_53178 17 = .ok (.goto (-12), 3) := by decide +kernel
theorem dJ7_fill_53178_20 : decode cJ7_fill_53178 20 = .ok (.return_, 1) := by decide +kernel
set_option maxRecDepth 20000 in
theorem ggL_law_X6_init : GoodIn wsL_law wsX6_init := goodIn_r _ [8, 9, 10, 11, 12, 13, 14, 15, 16, 17, 18, 19, 20, 21, 22, 23, 24, 25, 26, 27, 28, 29, 30, 31, 32, 33, 34, 35, 36, 37, 38, 39, 40, 41, 42, 43, 44, 45, 46, 47, 48, 49, 50, 51, 52, 53, 54, 55, 56, 57, 58, 59, 60, 61, 62, 63, 64, 65, 66, 67, 68, 69, 70, 71, 72, 73, 74, 75, 76, 77, 78, 79, 80, 81, 82, 83, 84, 85, 86, 87, 88, 89, 90, 91, 92, 93, 94, 95, 96, 97, 98, 887, 888, 889, 890, 891, 892, 865, 866, 867, 868, 869, 870, 871, 872, 873, 893, 894, 895, 896, 897, 898, 899, 900, 901, 902, 903, 904, 905, 906, 907, 908, 909, 910, 911, 912, 913, 914, 915, 916, 917, 918] (by decide +kernel) (by decide +kernel)
set_option maxRecDepth 20000 in
theorem gL_law_X6_init : GoodIn wsL_law (wsX6_init) := ggL_law_X6_init
set_option maxRecDepth 20000 in
theorem ggL_law_X7_init : GoodIn wsL_law wsX7_init := goodIn_r _ [101, 102, 10, 11, 52, 103, 104, 105, 106, 107, 108, 874, 875, 876, 877, 878, 879, 880, 881, 882, 883, 884, 885, 886] (by decide +kernel) (by decide +kernel)
set_option maxRecDepth 20000 in
theorem gL_law_X7_init : GoodIn wsL_law (wsX7_init) := ggL_law_X7_init
set_option maxRecDepth 20000 in
theorem ggL_law_X6_setBatch : GoodIn wsL_law wsX6_setBatch := goodIn_r _ [112, 16, 15, 113, 114, 115, 14, 116, 33, 34, 35, 39, 43, 47, 117, 118, 119, 38, 120, 53, 54, 121, 2, 122, 123, 124, 125, 126, 127, 128, 129, 130, 131, 132, 133, 42, 134, 58, 59, 60, 61, 62, 63, 64, 135, 136, 137, 46, 138, 69, 70, 71, 72, 73, 139, 140, 141, 142, 143, 144, 145, 146, 147, 148, 149, 150, 151, 152, 153, 23, 154, 155, 156, 22, 157, 82, 84, 158, 159, 160, 161, 162, 865, 866, 867, 868, 869, 870, 871, 872, 873, 887, 888, 889, 890, 891, 892, 905, 906, 907, 908, 909, 910, 911, 912, 913, 914, 915, 916, 917, 918, 893, 894] (by decide +kernel) (by decide +kernel)
set_option maxRecDepth 20000 in
theorem gL_law_X6_setBatch : GoodIn wsL_law (wsV RL 13 RX6 yX6_setBatch wsX6_setBatch) := goodIn_app (goodIn_of _ (by decide +kernel)) ggL_law_X6_setBatch
set_option maxRecDepth 20000 in
theorem ggL_law_X7_setBatch : GoodIn wsL_law wsX7_setBatch := goodIn_r _ [166, 103, 167, 168, 5, 169, 170, 171, 172, 173, 174, 175, 176, 177, 178, 179, 180, 181, 105, 182, 183, 184, 874, 875, 876, 877, 878, 879, 880, 881, 882, 883, 884, 885, 886] (by decide +kernel) (by decide +kernel)
set_option maxRecDepth 20000 in
theorem gL_law_X7_setBatch : GoodIn wsL_law (wsV RL 17 RX7 yX7_setBatch wsX7_setBatch) := goodIn_app (goodIn_of _ (by decide +kernel)) ggL_law_X7_setBatch
set_option maxRecDepth 20000 in
theorem ggL_law_X6_put : GoodIn wsL_law wsX6_put := goodIn_r _ [188, 16, 15, 113, 114, 115, 14, 116, 33, 34, 35, 39, 43, 47, 117, 118, 119, 38, 120, 53, 54, 121, 2, 122, 123, 124, 125, 126, 127, 128, 129, 130, 131, 132, 133, 42, 134, 58, 59, 60, 61, 62, 63, 64, 135, 136, 137, 46, 138, 69, 70, 71, 72, 73, 189, 190, 191, 192, 193, 194, 195, 196, 197, 198, 199, 147, 148, 149, 145, 146, 200, 201, 202, 203, 204, 205, 206, 207, 208, 209, 210, 211, 212, 213, 214, 215, 216, 217, 218, 219, 220, 221, 150, 151, 152, 153, 23, 154, 155, 156, 22, 157, 82, 84, 158, 159, 160, 161, 162, 865, 866, 867, 868, 869, 870, 871, 872, 873, 887, 888, 889, 890, 891, 892, 905, 906, 907, 908, 909, 910, 911, 912, 913, 914, 915, 916, 917, 918, 893, 894] (by decide +kernel) (by decide +kernel)
set_option maxRecDepth 20000 in
theorem gL_law_X6_put : GoodIn wsL_law (wsV RL 18 RX6 yX6_put wsX6_put) := goodIn_app (goodIn_of _ (by decide +kernel)) ggL_law_X6_put
set_option maxRecDepth 20000 in
theorem ggL_law_X7_put : GoodIn wsL_law wsX7_put := goodIn_r _ [225, 226, 227, 228, 5, 229, 103, 230, 231, 232, 170, 171, 172, 233, 234, 235, 167, 168, 169, 236, 237, 238, 239, 240, 241, 242, 243, 173, 174, 175, 176, 177, 178, 179, 180, 181, 105, 182, 183, 184, 244, 245, 246, 247, 248, 249, 250, 251, 874, 875, 876, 877, 878, 879, 880, 881, 882, 883, 884, 885, 886] (by decide +kernel) (by decide +kernel)
set_option maxRecDepth 20000 in
theorem gL_law_X7_put : GoodIn wsL_law (wsV RL 21 RX7 yX7_put wsX7_put) := goodIn_app (goodIn_of _ (by decide +kernel)) ggL_law_X7_put
set_option maxRecDepth 20000 in
theorem ggL_law_X6_takeOut : GoodIn wsL_law wsX6_takeOut := goodIn_r _ [255, 16, 15, 113, 114, 115, 14, 116, 33, 34, 35, 39, 43, 47, 117, 118, 119, 38, 120, 53, 54, 121, 2, 122, 123, 124, 125, 126, 127, 128, 129, 130, 131, 132, 133, 42, 134, 58, 59, 60, 61, 62, 63, 64, 135, 136, 137, 46, 138, 69, 70, 71, 72, 73, 256, 257, 258, 259, 193, 260, 195, 196, 197, 198, 199, 147, 148, 149, 200, 201, 150, 151, 152, 153, 23, 154, 155, 156, 22, 157, 82, 84, 158, 159, 160, 161, 162, 865, 866, 867, 868, 869, 870, 871, 872, 873, 887, 888, 889, 890, 891, 892, 905, 906, 907, 908, 909, 910, 911, 912, 913, 914, 915, 916, 917, 918, 893, 894] (by decide +kernel) (by decide +kernel)
set_option maxRecDepth 20000 in
theorem gL_law_X6_takeOut : GoodIn wsL_law (wsV RL 22 RX6 yX6_takeOut wsX6_takeOut) := goodIn_app (goodIn_of _ (by decide +kernel)) ggL_law_X6_takeOut
set_option maxRecDepth 20000 in
theorem ggL_law_X7_takeOut : GoodIn wsL_law wsX7_takeOut := goodIn_r _ [264, 230, 231, 5, 232, 170, 171, 172, 233, 234, 235, 236, 237, 238, 239, 103, 240, 241, 242, 243, 173, 174, 175, 176, 177, 178, 179, 180, 181, 105, 182, 183, 184, 265, 266, 267, 268, 248, 249, 250, 251, 874, 875, 876, 877, 878, 879, 880, 881, 882, 883, 884, 885, 886] (by decide +kernel) (by decide +kernel)
set_option maxRecDepth 20000 in
theorem gL_law_X7_takeOut : GoodIn wsL_law (wsV RL 26 RX7 yX7_takeOut wsX7_takeOut) := goodIn_app (goodIn_of _ (by decide +kernel)) ggL_law_X7_takeOut
set_option maxRecDepth 20000 in
theorem ggL_law_X6_swap : GoodIn wsL_law wsX6_swap := goodIn_r _ [272, 16, 15, 113, 114, 115, 14, 116, 33, 34, 35, 39, 43, 47, 117, 118, 119, 38, 120, 53, 54, 121, 2, 122, 123, 124, 125, 126, 127, 128, 129, 130, 131, 132, 133, 42, 134, 58, 59, 60, 61, 62, 63, 64, 135, 136, 137, 46, 138, 69, 70, 71, 72, 73, 273, 274, 275, 276, 193, 195, 196, 197, 198, 199, 147, 148, 149, 200, 201, 277, 278, 279, 280, 260, 150, 151, 152, 153, 23, 154, 155, 156, 22, 157, 82, 84, 158, 159, 160, 161, 162, 865, 866, 867, 868, 869, 870, 871, 872, 873, 887, 888, 889, 890, 891, 892, 905, 906, 907, 908, 909, 910, 911, 912, 913, 914, 915, 916, 917, 918, 893, 894] (by decide +kernel) (by decide +kernel)
set_option maxRecDepth 20000 in
theorem gL_law_X6_swap : GoodIn wsL_law (wsV RL 27 RX6 yX6_swap wsX6_swap) := goodIn_app (goodIn_of _ (by decide +kernel)) ggL_law_X6_swap
set_option maxRecDepth 20000 in
theorem ggL_law_X7_swap : GoodIn wsL_law wsX7_swap := goodIn_r _ [284, 230, 231, 5, 232, 170, 171, 172, 233, 234, 235, 236, 237, 238, 239, 103, 240, 241, 242, 243, 173, 174, 175, 176, 177, 178, 179, 180, 181, 105, 182, 183, 184, 265, 266, 267, 268, 248, 249, 250, 251, 874, 875, 876, 877, 878, 879, 880, 881, 882, 883, 884, 885, 886] (by decide +kernel) (by decide +kernel)
set_option maxRecDepth 20000 in
theorem gL_law_X7_swap : GoodIn wsL_law (wsV RL 31 RX7 yX7_swap wsX7_swap) := goodIn_app (goodIn_of _ (by decide +kernel)) ggL_law_X7_swap
set_option maxRecDepth 20000 in
theorem ggL_law_X6_setVolts : GoodIn wsL_law wsX6_setVolts := goodIn_r _ [288, 16, 15, 113, 114, 115, 14, 116, 33, 34, 35, 39, 43, 47, 117, 118, 119, 38, 120, 53, 54, 121, 2, 122, 123, 124, 125, 126, 127, 128, 129, 130, 131, 132, 133, 42, 134, 58, 59, 60, 61, 62, 63, 64, 135, 136, 137, 46, 138, 69, 70, 71, 72, 73, 289, 290, 291, 292, 293, 198, 199, 147, 148, 149, 150, 151, 152, 153, 23, 154, 155, 156, 22, 157, 82, 84, 158, 159, 160, 161, 162, 865, 866, 867, 868, 869, 870, 871, 872, 873, 887, 888, 889, 890, 891, 892, 905, 906, 907, 908, 909, 910, 911, 912, 913, 914, 915, 916, 917, 918, 893, 894] (by decide +kernel) (by decide +kernel)
set_option maxRecDepth 20000 in
theorem gL_law_X6_setVolts : GoodIn wsL_law (wsV RL 32 RX6 yX6_setVolts wsX6_setVolts) := goodIn_app (goodIn_of _ (by decide +kernel)) ggL_law_X6_setVolts
set_option maxRecDepth 20000 in
theorem ggL_law_X7_setVolts : GoodIn wsL_law wsX7_setVolts := goodIn_r _ [297, 103, 298, 299, 300, 5, 301, 230, 231, 232, 170, 171, 172, 302, 303, 304, 305, 173, 174, 175, 176, 177, 178, 179, 180, 181, 105, 182, 183, 184, 874, 875, 876, 877, 878, 879, 880, 881, 882, 883, 884, 885, 886] (by decide +kernel) (by decide +kernel)
set_option maxRecDepth 20000 in
theorem gL_law_X7_setVolts : GoodIn wsL_law (wsV RL 35 RX7 yX7_setVolts wsX7_setVolts) := goodIn_app (goodIn_of _ (by decide +kernel)) ggL_law_X7_setVolts
set_option maxRecDepth 20000 in
theorem ggL_law_X6_setSteps : GoodIn wsL_law wsX6_setSteps := goodIn_r _ [309, 16, 15, 113, 114, 115, 14, 116, 33, 34, 35, 39, 43, 47, 117, 118, 119, 38, 120, 53, 54, 121, 2, 122, 123, 124, 125, 126, 127, 128, 129, 130, 131, 132, 133, 42, 134, 58, 59, 60, 61, 62, 63, 64, 135, 136, 137, 46, 138, 69, 70, 71, 72, 73, 310, 311, 312, 313, 314, 315, 316, 198, 199, 147, 148, 149, 150, 151, 152, 153, 23, 154, 155, 156, 22, 157, 82, 84, 158, 159, 160, 161, 162, 865, 866, 867, 868, 869, 870, 871, 872, 873, 887, 888, 889, 890, 891, 892, 905, 906, 907, 908, 909, 910, 911, 912, 913, 914, 915, 916, 917, 918, 893, 894] (by decide +kernel) (by decide +kernel)
set_option maxRecDepth 20000 in
theorem gL_law_X6_setSteps : GoodIn wsL_law (wsV RL 36 RX6 yX6_setSteps wsX6_setSteps) := goodIn_app (goodIn_of _ (by decide +kernel)) ggL_law_X6_setSteps
set_option maxRecDepth 20000 in
theorem ggL_law_X7_setSteps : GoodIn wsL_law wsX7_setSteps := goodIn_r _ [320, 230, 231, 5, 232, 170, 171, 172, 173, 174, 175, 176, 103, 177, 178, 179, 180, 181, 105, 182, 183, 184, 302, 303, 304, 305, 321, 322, 323, 324, 874, 875, 876, 877, 878, 879, 880, 881, 882, 883, 884, 885, 886] (by decide +kernel) (by decide +kernel)
set_option maxRecDepth 20000 in
theorem gL_law_X7_setSteps : GoodIn wsL_law (wsV RL 39 RX7 yX7_setSteps wsX7_setSteps) := goodIn_app (goodIn_of _ (by decide +kernel)) ggL_law_X7_setSteps
set_option maxRecDepth 20000 in
theorem ggL_law_X6_set : GoodIn wsL_law wsX6_set := goodIn_r _ [328, 16, 15, 113, 114, 115, 14, 116, 33, 34, 35, 39, 43, 47, 117, 118, 119, 38, 120, 53, 54, 121, 2, 122, 123, 124, 125, 126, 127, 128, 129, 130, 131, 132, 133, 42, 134, 58, 59, 60, 61, 62, 63, 64, 135, 136, 137, 46, 138, 69, 70, 71, 72, 73, 329, 330, 331, 332, 333, 334, 335, 336, 148, 149, 337, 338, 339, 340, 150, 151, 152, 153, 23, 154, 155, 156, 22, 157, 82, 84, 158, 159, 160, 161, 162, 865, 866, 867, 868, 869, 870, 871, 872, 873, 887, 888, 889, 890, 891, 892, 905, 906, 907, 908, 909, 910, 911, 912, 913, 914, 915, 916, 917, 918, 893, 894] (by decide +kernel) (by decide +kernel)
set_option maxRecDepth 20000 in
theorem gL_law_X6_set : GoodIn wsL_law (wsV RL 40 RX6 yX6_set wsX6_set) := goodIn_app (goodIn_of _ (by decide +kernel)) ggL_law_X6_set
set_option maxRecDepth 20000 in
theorem ggL_law_X7_set : GoodIn wsL_law wsX7_set := goodIn_r _ [344, 103, 170, 171, 5, 172, 173, 174, 175, 176, 177, 178, 179, 180, 181, 105, 182, 183, 184, 874, 875, 876, 877, 878, 879, 880, 881, 882, 883, 884, 885, 886] (by decide +kernel) (by decide +kernel)
set_option maxRecDepth 20000 in
theorem gL_law_X7_set : GoodIn wsL_law (wsV RL 43 RX7 yX7_set wsX7_set) := goodIn_app (goodIn_of _ (by decide +kernel)) ggL_law_X7_set
set_option maxRecDepth 20000 in
theorem ggL_law_X6_pass : GoodIn wsL_law wsX6_pass := goodIn_r _ [348, 16, 15, 113, 114, 115, 14, 116, 33, 34, 35, 39, 43, 47, 117, 118, 119, 38, 120, 53, 54, 121, 2, 122, 123, 124, 125, 126, 127, 128, 129, 130, 131, 132, 133, 42, 134, 58, 59, 60, 61, 62, 63, 64, 135, 136, 137, 46, 138, 69, 70, 71, 72, 73, 349, 350, 351, 352, 353, 148, 149, 354, 355, 356, 357, 358, 359, 360, 361, 362, 211, 212, 363, 364, 365, 366, 367, 368, 369, 370, 371, 372, 373, 374, 375, 376, 377, 378, 379, 380, 193, 293, 381, 382, 383, 384, 385, 386, 200, 201, 387, 388, 389, 390, 391, 392, 147, 393, 394, 395, 396, 397, 398, 399, 400, 401, 402, 403, 404, 405, 406, 407, 408, 409, 150, 151, 152, 153, 23, 154, 155, 156, 22, 157, 82, 84, 158, 159, 160, 161, 162, 865, 866, 867, 868, 869, 870, 871, 872, 873, 887, 888, 889, 890, 891, 892, 905, 906, 907, 908, 909, 910, 911, 912, 913, 914, 915, 916, 917, 918, 893, 894] (by decide +kernel) (by decide +kernel)
set_option maxRecDepth 20000 in
theorem gL_law_X6_pass : GoodIn wsL_law (wsV RL 44 RX6 yX6_pass wsX6_pass) := goodIn_app (goodIn_of _ (by decide +kernel)) ggL_law_X6_pass
set_option maxRecDepth 20000 in
theorem ggL_law_X7_pass : GoodIn wsL_law wsX7_pass := goodIn_r _ [413, 414, 415, 416, 5, 417, 103, 418, 170, 171, 172, 173, 174, 175, 176, 177, 178, 179, 180, 181, 105, 182, 183, 184, 419, 420, 421, 422, 423, 424, 425, 426, 427, 428, 429, 430, 431, 432, 433, 434, 240, 241, 242, 243, 302, 303, 304, 305, 248, 249, 250, 251, 435, 436, 437, 438, 439, 440, 441, 442, 874, 875, 876, 877, 878, 879, 880, 881, 882, 883, 884, 885, 886] (by decide +kernel) (by decide +kernel)
set_option maxRecDepth 20000 in
theorem gL_law_X7_pass : GoodIn wsL_law (wsV RL 48 RX7 yX7_pass wsX7_pass) := goodIn_app (goodIn_of _ (by decide +kernel)) ggL_law_X7_pass
set_option maxRecDepth 20000 in
theorem ggL_law_X6_type : GoodIn wsL_law wsX6_type := goodIn_r _ [446, 27, 447, 448, 449, 26, 450, 88, 90, 865, 866, 867, 868, 869, 870, 871, 872, 873, 895, 896, 897, 898, 899, 900, 901, 902, 903, 904] (by decide +kernel) (by decide +kernel)
set_option maxRecDepth 20000 in
theorem gL_law_X6_type : GoodIn wsL_law (wsV RL 49 RX6 yX6_type wsX6_type) := goodIn_app (goodIn_of _ (by decide +kernel)) ggL_law_X6_type
set_option maxRecDepth 20000 in
theorem ggL_law_X7_type : GoodIn wsL_law wsX7_type := goodIn_r _ [454, 455, 107, 874, 875, 876, 877, 878, 879, 880, 881, 882, 883, 884, 885, 886] (by decide +kernel) (by decide +kernel)
set_option maxRecDepth 20000 in
theorem gL_law_X7_type : GoodIn wsL_law (wsV RL 53 RX7 yX7_type wsX7_type) := goodIn_app (goodIn_of _ (by decide +kernel)) ggL_law_X7_type
set_option maxRecDepth 20000 in
theorem ggL_law_X6_clearText : GoodIn wsL_law wsX6_clearText := goodIn_r _ [459, 27, 460, 461, 462, 26, 463, 88, 865, 866, 867, 868, 869, 870, 871, 872, 873, 895, 896, 897, 898, 899, 900, 901, 902, 903, 904] (by decide +kernel) (by decide +kernel)
set_option maxRecDepth 20000 in
theorem gL_law_X6_clearText : GoodIn wsL_law (wsV RL 54 RX6 yX6_clearText wsX6_clearText) := goodIn_app (goodIn_of _ (by decide +kernel)) ggL_law_X6_clearText
set_option maxRecDepth 20000 in
theorem ggL_law_X7_clearText : GoodIn wsL_law wsX7_clearText := goodIn_r _ [467, 455, 874, 875, 876, 877, 878, 879, 880, 881, 882, 883, 884, 885, 886] (by decide +kernel) (by decide +kernel)
set_option maxRecDepth 20000 in
theorem gL_law_X7_clearText : GoodIn wsL_law (wsV RL 58 RX7 yX7_clearText wsX7_clearText) := goodIn_app (goodIn_of _ (by decide +kernel)) ggL_law_X7_clearText
set_option maxRecDepth 20000 in
theorem ggL_law_X6_perform : GoodIn wsL_law wsX6_perform := goodIn_r _ [471, 27, 16, 15, 472, 28, 29, 473, 474, 475, 26, 476, 92, 91, 88, 477, 478, 479, 480, 481, 482, 483, 484, 93, 485, 486, 487, 488, 90, 489, 490, 491, 492, 493, 494, 495, 496, 98, 95, 497, 498, 499, 500, 94, 501, 502, 503, 504, 148, 2, 149, 505, 506, 507, 508, 509, 510, 511, 512, 513, 514, 515, 516, 517, 518, 519, 520, 96, 521, 522, 523, 524, 97, 113, 114, 115, 14, 116, 33, 34, 35, 39, 43, 47, 117, 118, 119, 38, 120, 53, 54, 121, 122, 123, 124, 125, 126, 127, 128, 129, 130, 131, 132, 133, 42, 134, 58, 59, 60, 61, 62, 63, 64, 135, 136, 137, 46, 138, 69, 70, 71, 72, 73, 525, 526, 527, 528, 529, 530, 531, 532, 533, 534, 535, 536, 189, 190, 191, 192, 193, 194, 195, 196, 197, 198, 199, 147, 145, 146, 200, 201, 202, 203, 204, 205, 206, 207, 208, 209, 210, 211, 212, 213, 214, 215, 216, 217, 218, 219, 220, 221, 256, 257, 258, 259, 260, 289, 290, 291, 292, 293, 310, 311, 312, 313, 314, 315, 316, 349, 350, 351, 352, 353, 354, 355, 356, 357, 358, 359, 360, 361, 362, 363, 364, 365, 366, 367, 368, 369, 370, 371, 372, 373, 374, 375, 376, 377, 378, 379, 380, 381, 382, 383, 384, 385, 386, 387, 388, 389, 390, 391, 392, 393, 394, 395, 396, 397, 398, 399, 400, 401, 402, 403, 404, 405, 406, 407, 408, 409, 537, 538, 539, 540, 150, 151, 152, 153, 23, 154, 155, 156, 22, 157, 82, 84, 158, 159, 160, 161, 162, 865, 866, 867, 868, 869, 870, 871, 872, 873, 895, 896, 897, 898, 899, 900, 901, 902, 903, 904, 887, 888, 889, 890, 891, 892, 905, 906, 907, 908, 909, 910, 911, 912, 913, 914, 915, 916, 917, 918, 893, 894] (by decide +kernel) (by decide +kernel)
set_option maxRecDepth 20000 in
theorem gL_law_X6_perform : GoodIn wsL_law (wsV RL 59 RX6 yX6_perform wsX6_perform) := goodIn_app (goodIn_of _ (by decide +kernel)) ggL_law_X6_perform
set_option maxRecDepth 20000 in
theorem ggL_law_X7_perform : GoodIn wsL_law wsX7_perform := goodIn_r _ [544, 545, 103, 104, 546, 547, 548, 549, 550, 551, 5, 552, 455, 553, 554, 555, 556, 107, 108, 557, 558, 559, 560, 561, 562, 563, 564, 170, 171, 172, 565, 566, 567, 568, 569, 570, 571, 572, 182, 183, 184, 573, 574, 575, 576, 226, 227, 228, 229, 230, 231, 232, 233, 234, 235, 167, 168, 169, 236, 237, 238, 239, 240, 241, 242, 243, 414, 415, 416, 417, 418, 577, 578, 579, 580, 244, 245, 246, 247, 248, 249, 250, 251, 265, 266, 267, 268, 321, 322, 323, 324, 419, 420, 421, 422, 423, 424, 425, 426, 427, 428, 429, 430, 431, 432, 433, 434, 302, 303, 304, 305, 435, 436, 437, 438, 439, 440, 441, 442, 177, 178, 179, 180, 181, 105, 874, 875, 876, 877, 878, 879, 880, 881, 882, 883, 884, 885, 886] (by decide +kernel) (by decide +kernel)
set_option maxRecDepth 20000 in
theorem gL_law_X7_perform : GoodIn wsL_law (wsV RL 62 RX7 yX7_perform wsX7_perform) := goodIn_app (goodIn_of _ (by decide +kernel)) ggL_law_X7_perform
set_option maxRecDepth 20000 in
theorem ggL_law_X6_stopped : GoodIn wsL_law wsX6_stopped := goodIn_r _ [584, 29, 28, 147, 148, 2, 149, 865, 866, 867, 868, 869, 870, 871, 872, 873] (by decide +kernel) (by decide +kernel)
set_option maxRecDepth 20000 in
theorem gL_law_X6_stopped : GoodIn wsL_law (wsV RL 63 RX6 yX6_stopped wsX6_stopped) := goodIn_app (goodIn_of _ (by decide +kernel)) ggL_law_X6_stopped
set_option maxRecDepth 20000 in
theorem ggL_law_X7_stopped : GoodIn wsL_law wsX7_stopped := goodIn_r _ [588, 548, 547, 170, 171, 5, 172, 874, 875, 876, 877, 878, 879, 880, 881, 882, 883, 884, 885, 886] (by decide +kernel) (by decide +kernel)
set_option maxRecDepth 20000 in
theorem gL_law_X7_stopped : GoodIn wsL_law (wsV RL 66 RX7 yX7_stopped wsX7_stopped) := goodIn_app (goodIn_of _ (by decide +kernel)) ggL_law_X7_stopped
set_option maxRecDepth 20000 in
theorem ggL_law_X6_undo : GoodIn wsL_law wsX6_undo := goodIn_r _ [592, 23, 593, 15, 594, 595, 596, 22, 597, 82, 84, 162, 114, 115, 14, 116, 33, 34, 35, 39, 43, 47, 117, 118, 119, 38, 120, 53, 54, 121, 2, 122, 123, 124, 125, 126, 127, 128, 129, 130, 131, 132, 133, 42, 134, 58, 59, 60, 61, 62, 63, 64, 135, 136, 137, 46, 138, 69, 70, 71, 72, 73, 865, 866, 867, 868, 869, 870, 871, 872, 873, 893, 894, 887, 888, 889, 890, 891, 892, 905, 906, 907, 908, 909, 910, 911, 912, 913, 914, 915, 916, 917, 918] (by decide +kernel) (by decide +kernel)
set_option maxRecDepth 20000 in
theorem gL_law_X6_undo : GoodIn wsL_law (wsV RL 67 RX6 yX6_undo wsX6_undo) := goodIn_app (goodIn_of _ (by decide +kernel)) ggL_law_X6_undo
set_option maxRecDepth 20000 in
theorem ggL_law_X7_undo : GoodIn wsL_law wsX7_undo := goodIn_r _ [601, 181, 105, 103, 182, 183, 5, 184, 874, 875, 876, 877, 878, 879, 880, 881, 882, 883, 884, 885, 886] (by decide +kernel) (by decide +kernel)
set_option maxRecDepth 20000 in
theorem gL_law_X7_undo : GoodIn wsL_law (wsV RL 70 RX7 yX7_undo wsX7_undo) := goodIn_app (goodIn_of _ (by decide +kernel)) ggL_law_X7_undo
set_option maxRecDepth 20000 in
theorem ggL_law_X6_keep : GoodIn wsL_law wsX6_keep := goodIn_r _ [605, 18, 15, 19, 606, 607, 113, 114, 115, 14, 116, 33, 34, 35, 39, 43, 47, 117, 118, 119, 38, 120, 53, 54, 121, 2, 122, 123, 124, 125, 126, 127, 128, 129, 130, 131, 132, 133, 42, 134, 58, 59, 60, 61, 62, 63, 64, 135, 136, 137, 46, 138, 69, 70, 71, 72, 73, 865, 866, 867, 868, 869, 870, 871, 872, 873, 887, 888, 889, 890, 891, 892, 907, 908, 909, 910, 911, 912, 913, 905, 906, 914, 915, 916, 917, 918] (by decide +kernel) (by decide +kernel)
set_option maxRecDepth 20000 in
theorem gL_law_X6_keep : GoodIn wsL_law (wsV RL 71 RX6 yX6_keep wsX6_keep) := goodIn_app (goodIn_of _ (by decide +kernel)) ggL_law_X6_keep
set_option maxRecDepth 20000 in
theorem ggL_law_X7_keep : GoodIn wsL_law wsX7_keep := goodIn_r _ [611, 103, 106, 612, 182, 183, 5, 184, 874, 875, 876, 877, 878, 879, 880, 881, 882, 883, 884, 885, 886] (by decide +kernel) (by decide +kernel)
set_option maxRecDepth 20000 in
theorem gL_law_X7_keep : GoodIn wsL_law (wsV RL 74 RX7 yX7_keep wsX7_keep) := goodIn_app (goodIn_of _ (by decide +kernel)) ggL_law_X7_keep
set_option maxRecDepth 20000 in
theorem ggL_law_X6_restore : GoodIn wsL_law wsX6_restore := goodIn_r _ [616, 19, 16, 15, 18, 606, 607, 113, 114, 115, 14, 116, 33, 34, 35, 39, 43, 47, 117, 118, 119, 38, 120, 53, 54, 121, 2, 122, 123, 124, 125, 126, 127, 128, 129, 130, 131, 132, 133, 42, 134, 58, 59, 60, 61, 62, 63, 64, 135, 136, 137, 46, 138, 69, 70, 71, 72, 73, 150, 151, 152, 153, 23, 154, 155, 156, 22, 157, 82, 84, 158, 159, 160, 161, 162, 865, 866, 867, 868, 869, 870, 871, 872, 873, 887, 888, 889, 890, 891, 892, 907, 908, 909, 910, 911, 912, 913, 905, 906, 914, 915, 916, 917, 918, 893, 894] (by decide +kernel) (by decide +kernel)
set_option maxRecDepth 20000 in
theorem gL_law_X6_restore : GoodIn wsL_law (wsV RL 75 RX6 yX6_restore wsX6_restore) := goodIn_app (goodIn_of _ (by decide +kernel)) ggL_law_X6_restore
set_option maxRecDepth 20000 in
theorem ggL_law_X7_restore : GoodIn wsL_law wsX7_restore := goodIn_r _ [620, 612, 106, 103, 173, 174, 175, 5, 176, 177, 178, 179, 180, 181, 105, 182, 183, 184, 874, 875, 876, 877, 878, 879, 880, 881, 882, 883, 884, 885, 886] (by decide +kernel) (by decide +kernel)
set_option maxRecDepth 20000 in
theorem gL_law_X7_restore : GoodIn wsL_law (wsV RL 78 RX7 yX7_restore wsX7_restore) := goodIn_app (goodIn_of _ (by decide +kernel)) ggL_law_X7_restore
set_option maxRecDepth 20000 in
theorem ggL_law_X6_lamp : GoodIn wsL_law wsX6_lamp := goodIn_r _ [624, 15, 625, 626, 627, 14, 628, 43, 260, 629, 630, 631, 632, 382, 633, 634, 635, 42, 636, 58, 148, 2, 149, 637, 638, 639, 640, 62, 387, 388, 389, 390, 64, 641, 642, 215, 216, 217, 213, 214, 865, 866, 867, 868, 869, 870, 871, 872, 873, 887, 888, 889, 890, 891, 892, 907, 908, 909, 910, 911, 912, 913] (by decide +kernel) (by decide +kernel)
set_option maxRecDepth 20000 in
theorem gL_law_X6_lamp : GoodIn wsL_law (wsV RL 79 RX6 yX6_lamp wsX6_lamp) := goodIn_app (goodIn_of _ (by decide +kernel)) ggL_law_X6_lamp
set_option maxRecDepth 20000 in
theorem ggL_law_X7_lamp : GoodIn wsL_law wsX7_lamp := goodIn_r _ [646, 647, 648, 649, 5, 650, 103, 170, 171, 172, 240, 241, 242, 243, 651, 652, 653, 654, 431, 432, 433, 434, 874, 875, 876, 877, 878, 879, 880, 881, 882, 883, 884, 885, 886] (by decide +kernel) (by decide +kernel)
set_option maxRecDepth 20000 in
theorem gL_law_X7_lamp : GoodIn wsL_law (wsV RL 82 RX7 yX7_lamp wsX7_lamp) := goodIn_app (goodIn_of _ (by decide +kernel)) ggL_law_X7_lamp
set_option maxRecDepth 20000 in
theorem ggL_law_X6_rack : GoodIn wsL_law wsX6_rack := goodIn_r _ [658, 15, 659, 660, 661, 14, 662, 47, 293, 314, 315, 198, 2, 199, 147, 148, 149, 663, 664, 665, 666, 193, 43, 200, 201, 387, 388, 389, 42, 390, 64, 641, 642, 383, 384, 385, 46, 386, 70, 393, 394, 395, 396, 34, 35, 362, 211, 125, 212, 667, 374, 375, 376, 71, 73, 865, 866, 867, 868, 869, 870, 871, 872, 873, 887, 888, 889, 890, 891, 892, 914, 915, 916, 917, 918, 907, 908, 909, 910, 911, 912, 913] (by decide +kernel) (by decide +kernel)
set_option maxRecDepth 20000 in
theorem gL_law_X6_rack : GoodIn wsL_law (wsV RL 83 RX6 yX6_rack wsX6_rack) := goodIn_app (goodIn_of _ (by decide +kernel)) ggL_law_X6_rack
set_option maxRecDepth 20000 in
theorem ggL_law_X7_rack : GoodIn wsL_law wsX7_rack := goodIn_r _ [671, 230, 231, 5, 232, 170, 171, 172, 302, 303, 304, 305, 103, 672, 673, 674, 675, 240, 241, 242, 243, 431, 432, 433, 434, 439, 440, 441, 442, 874, 875, 876, 877, 878, 879, 880, 881, 882, 883, 884, 885, 886] (by decide +kernel) (by decide +kernel)
set_option maxRecDepth 20000 in
theorem gL_law_X7_rack : GoodIn wsL_law (wsV RL 86 RX7 yX7_rack wsX7_rack) := goodIn_app (goodIn_of _ (by decide +kernel)) ggL_law_X7_rack
set_option maxRecDepth 20000 in
theorem ggL_law_X6_at : GoodIn wsL_law wsX6_at := goodIn_r _ [679, 15, 680, 681, 682, 195, 2, 196, 197, 198, 199, 147, 148, 149, 683, 200, 201, 865, 866, 867, 868, 869, 870, 871, 872, 873, 887, 888, 889, 890, 891, 892, 914, 915, 916, 917, 918] (by decide +kernel) (by decide +kernel)
set_option maxRecDepth 20000 in
theorem gL_law_X6_at : GoodIn wsL_law (wsV RL 87 RX6 yX6_at wsX6_at) := goodIn_app (goodIn_of _ (by decide +kernel)) ggL_law_X6_at
set_option maxRecDepth 20000 in
theorem ggL_law_X7_at : GoodIn wsL_law wsX7_at := goodIn_r _ [687, 230, 231, 5, 232, 170, 171, 172, 233, 234, 235, 236, 237, 238, 239, 103, 240, 241, 242, 243, 874, 875, 876, 877, 878, 879, 880, 881, 882, 883, 884, 885, 886] (by decide +kernel) (by decide +kernel)
set_option maxRecDepth 20000 in
theorem gL_law_X7_at : GoodIn wsL_law (wsV RL 90 RX7 yX7_at wsX7_at) := goodIn_app (goodIn_of _ (by decide +kernel)) ggL_law_X7_at
set_option maxRecDepth 20000 in
theorem ggL_law_X6_batch : GoodIn wsL_law wsX6_batch := goodIn_r _ [691, 15, 692, 693, 694, 14, 695, 43, 39, 143, 144, 145, 2, 146, 147, 148, 149, 696, 697, 698, 42, 699, 58, 700, 701, 702, 703, 59, 704, 388, 389, 390, 64, 641, 642, 705, 706, 707, 708, 709, 638, 639, 640, 62, 710, 711, 712, 713, 714, 715, 716, 717, 718, 719, 720, 721, 722, 865, 866, 867, 868, 869, 870, 871, 872, 873, 887, 888, 889, 890, 891, 892, 905, 906, 907, 908, 909, 910, 911, 912, 913] (by decide +kernel) (by decide +kernel)
set_option maxRecDepth 20000 in
theorem gL_law_X6_batch : GoodIn wsL_law (wsV RL 91 RX6 yX6_batch wsX6_batch) := goodIn_app (goodIn_of _ (by decide +kernel)) ggL_law_X6_batch
set_option maxRecDepth 20000 in
theorem ggL_law_X7_batch : GoodIn wsL_law wsX7_batch := goodIn_r _ [726, 103, 167, 168, 5, 169, 170, 171, 172, 727, 728, 729, 730, 431, 432, 433, 434, 240, 241, 242, 243, 651, 652, 653, 654, 731, 732, 733, 734, 735, 736, 737, 738, 874, 875, 876, 877, 878, 879, 880, 881, 882, 883, 884, 885, 886] (by decide +kernel) (by decide +kernel)
set_option maxRecDepth 20000 in
theorem gL_law_X7_batch : GoodIn wsL_law (wsV RL 94 RX7 yX7_batch wsX7_batch) := goodIn_app (goodIn_of _ (by decide +kernel)) ggL_law_X7_batch
set_option maxRecDepth 20000 in
theorem ggL_law_X6_lasted : GoodIn wsL_law wsX6_lasted := goodIn_r _ [742, 743, 15, 606, 744, 145, 2, 146, 147, 148, 149, 745, 746, 747, 42, 748, 58, 59, 709, 638, 639, 640, 62, 641, 642, 865, 866, 867, 868, 869, 870, 871, 872, 873, 887, 888, 889, 890, 891, 892, 907, 908, 909, 910, 911, 912, 913] (by decide +kernel) (by decide +kernel)
set_option maxRecDepth 20000 in
theorem gL_law_X6_lasted : GoodIn wsL_law (wsV RL 95 RX6 yX6_lasted wsX6_lasted) := goodIn_app (goodIn_of _ (by decide +kernel)) ggL_law_X6_lasted
set_option maxRecDepth 20000 in
theorem ggL_law_X7_lasted : GoodIn wsL_law wsX7_lasted := goodIn_r _ [752, 418, 167, 168, 5, 169, 170, 171, 172, 727, 728, 729, 730, 103, 431, 432, 433, 434, 240, 241, 242, 243, 651, 652, 653, 654, 874, 875, 876, 877, 878, 879, 880, 881, 882, 883, 884, 885, 886] (by decide +kernel) (by decide +kernel)
set_option maxRecDepth 20000 in
theorem gL_law_X7_lasted : GoodIn wsL_law (wsV RL 98 RX7 yX7_lasted wsX7_lasted) := goodIn_app (goodIn_of _ (by decide +kernel)) ggL_law_X7_lasted
set_option maxRecDepth 20000 in
theorem ggL_law_X6_ended : GoodIn wsL_law wsX6_ended := goodIn_r _ [756, 15, 606, 757, 758, 759, 42, 760, 58, 704, 388, 389, 390, 64, 761, 762, 763, 764, 641, 2, 642, 865, 866, 867, 868, 869, 870, 871, 872, 873, 887, 888, 889, 890, 891, 892, 907, 908, 909, 910, 911, 912, 913] (by decide +kernel) (by decide +kernel)
set_option maxRecDepth 20000 in
theorem gL_law_X6_ended : GoodIn wsL_law (wsV RL 99 RX6 yX6_ended wsX6_ended) := goodIn_app (goodIn_of _ (by decide +kernel)) ggL_law_X6_ended
set_option maxRecDepth 20000 in
theorem ggL_law_X7_ended : GoodIn wsL_law wsX7_ended := goodIn_r _ [768, 103, 431, 432, 433, 5, 434, 240, 241, 242, 243, 769, 770, 771, 772, 874, 875, 876, 877, 878, 879, 880, 881, 882, 883, 884, 885, 886] (by decide +kernel) (by decide +kernel)
set_option maxRecDepth 20000 in
theorem gL_law_X7_ended : GoodIn wsL_law (wsV RL 102 RX7 yX7_ended wsX7_ended) := goodIn_app (goodIn_of _ (by decide +kernel)) ggL_law_X7_ended
set_option maxRecDepth 20000 in
theorem ggL_law_X6_lasts : GoodIn wsL_law wsX6_lasts := goodIn_r _ [776, 15, 606, 777, 778, 634, 635, 42, 636, 58, 148, 2, 149, 147, 779, 388, 389, 390, 64, 780, 391, 392, 781, 394, 395, 14, 396, 34, 35, 362, 211, 125, 212, 782, 398, 399, 400, 401, 61, 62, 865, 866, 867, 868, 869, 870, 871, 872, 873, 887, 888, 889, 890, 891, 892, 907, 908, 909, 910, 911, 912, 913] (by decide +kernel) (by decide +kernel)
set_option maxRecDepth 20000 in
theorem gL_law_X6_lasts : GoodIn wsL_law (wsV RL 103 RX6 yX6_lasts wsX6_lasts) := goodIn_app (goodIn_of _ (by decide +kernel)) ggL_law_X6_lasts
set_option maxRecDepth 20000 in
theorem ggL_law_X7_lasts : GoodIn wsL_law wsX7_lasts := goodIn_r _ [786, 647, 648, 649, 5, 650, 103, 170, 171, 172, 431, 432, 433, 434, 240, 241, 242, 243, 435, 436, 437, 438, 439, 440, 441, 442, 874, 875, 876, 877, 878, 879, 880, 881, 882, 883, 884, 885, 886] (by decide +kernel) (by decide +kernel)
set_option maxRecDepth 20000 in
theorem gL_law_X7_lasts : GoodIn wsL_law (wsV RL 106 RX7 yX7_lasts wsX7_lasts) := goodIn_app (goodIn_of _ (by decide +kernel)) ggL_law_X7_lasts
set_option maxRecDepth 20000 in
theorem ggL_law_X6_reason : GoodIn wsL_law wsX6_reason := goodIn_r _ [790, 15, 606, 778, 634, 635, 42, 636, 58, 148, 2, 149, 791, 792, 793, 14, 794, 43, 260, 47, 387, 388, 389, 390, 64, 383, 384, 385, 46, 386, 70, 865, 866, 867, 868, 869, 870, 871, 872, 873, 887, 888, 889, 890, 891, 892, 907, 908, 909, 910, 911, 912, 913, 914, 915, 916, 917, 918] (by decide +kernel) (by decide +kernel)
set_option maxRecDepth 20000 in
theorem gL_law_X6_reason : GoodIn wsL_law (wsV RL 107 RX6 yX6_reason wsX6_reason) := goodIn_app (goodIn_of _ (by decide +kernel)) ggL_law_X6_reason
set_option maxRecDepth 20000 in
theorem ggL_law_X7_reason : GoodIn wsL_law wsX7_reason := goodIn_r _ [798, 647, 648, 649, 5, 650, 103, 170, 171, 172, 431, 432, 433, 434, 240, 241, 242, 243, 427, 428, 429, 430, 302, 303, 304, 305, 874, 875, 876, 877, 878, 879, 880, 881, 882, 883, 884, 885, 886] (by decide +kernel) (by decide +kernel)
set_option maxRecDepth 20000 in
theorem gL_law_X7_reason : GoodIn wsL_law (wsV RL 110 RX7 yX7_reason wsX7_reason) := goodIn_app (goodIn_of _ (by decide +kernel)) ggL_law_X7_reason
set_option maxRecDepth 20000 in
theorem ggL_law_X6_next : GoodIn wsL_law wsX6_next := goodIn_r _ [802, 17, 15, 606, 803, 804, 147, 148, 2, 149, 113, 114, 115, 14, 116, 33, 34, 35, 39, 43, 47, 117, 118, 119, 38, 120, 53, 54, 121, 122, 123, 124, 125, 126, 127, 128, 129, 130, 131, 132, 133, 42, 134, 58, 59, 60, 61, 62, 63, 64, 135, 136, 137, 46, 138, 69, 70, 71, 72, 73, 805, 355, 356, 357, 358, 359, 360, 361, 362, 211, 212, 363, 364, 365, 366, 367, 368, 369, 370, 371, 372, 373, 374, 375, 376, 377, 378, 379, 380, 193, 293, 381, 382, 383, 384, 385, 386, 200, 201, 387, 388, 389, 390, 391, 392, 393, 394, 395, 396, 397, 398, 399, 400, 401, 402, 403, 404, 405, 406, 407, 408, 409, 806, 807, 808, 809, 865, 866, 867, 868, 869, 870, 871, 872, 873, 887, 888, 889, 890, 891, 892, 907, 908, 909, 910, 911, 912, 913, 905, 906, 914, 915, 916, 917, 918] (by decide +kernel) (by decide +kernel)
set_option maxRecDepth 20000 in
theorem gL_law_X6_next : GoodIn wsL_law (wsV RL 111 RX6 yX6_next wsX6_next) := goodIn_app (goodIn_of _ (by decide +kernel)) ggL_law_X6_next
set_option maxRecDepth 20000 in
theorem ggL_law_X7_next : GoodIn wsL_law wsX7_next := goodIn_r _ [813, 103, 104, 170, 171, 5, 172, 182, 183, 184, 423, 424, 425, 426, 427, 428, 429, 430, 431, 432, 433, 434, 240, 241, 242, 243, 302, 303, 304, 305, 248, 249, 250, 251, 435, 436, 437, 438, 439, 440, 441, 442, 814, 815, 816, 817, 874, 875, 876, 877, 878, 879, 880, 881, 882, 883, 884, 885, 886] (by decide +kernel) (by decide +kernel)
set_option maxRecDepth 20000 in
theorem gL_law_X7_next : GoodIn wsL_law (wsV RL 114 RX7 yX7_next wsX7_next) := goodIn_app (goodIn_of _ (by decide +kernel)) ggL_law_X7_next
set_option maxRecDepth 20000 in
theorem ggL_law_X6_count : GoodIn wsL_law wsX6_count := goodIn_r _ [821, 23, 593, 27, 822, 15, 823, 824, 825, 14, 826, 33, 43, 194, 632, 631, 34, 35, 827, 828, 829, 42, 830, 58, 60, 641, 2, 642, 831, 832, 833, 834, 835, 792, 793, 794, 260, 47, 387, 388, 389, 390, 64, 383, 384, 385, 46, 386, 70, 836, 837, 838, 839, 704, 840, 841, 842, 843, 215, 216, 217, 213, 214, 844, 845, 846, 847, 848, 124, 125, 126, 865, 866, 867, 868, 869, 870, 871, 872, 873, 893, 894, 895, 896, 897, 898, 899, 900, 901, 902, 903, 904, 887, 888, 889, 890, 891, 892, 907, 908, 909, 910, 911, 912, 913, 914, 915, 916, 917, 918] (by decide +kernel) (by decide +kernel)
set_option maxRecDepth 20000 in
theorem gL_law_X6_count : GoodIn wsL_law (wsV RL 115 RX6 yX6_count wsX6_count) := goodIn_app (goodIn_of _ (by decide +kernel)) ggL_law_X6_count
set_option maxRecDepth 20000 in
theorem ggL_law_X7_count : GoodIn wsL_law wsX7_count := goodIn_r _ [852, 103, 181, 455, 672, 673, 674, 5, 675, 240, 241, 242, 243, 431, 432, 433, 434, 853, 854, 855, 856, 427, 428, 429, 430, 302, 303, 304, 305, 857, 858, 859, 860, 861, 862, 863, 864, 874, 875, 876, 877, 878, 879, 880, 881, 882, 883, 884, 885, 886] (by decide +kernel) (by decide +kernel)
set_option maxRecDepth 20000 in
theorem gL_law_X7_count : GoodIn wsL_law (wsV RL 118 RX7 yX7_count wsX7_count) := goodIn_app (goodIn_of _ (by decide +kernel)) ggL_law_X7_count
abbrev vwCl : List vw_C := [(RX0, TX0, 2), (RX1, TX1, 2), (RX2, TX2, 7), (RX3, TX3, 5), (RX4, TX4, 6), (RX5, TX5, 10), (RX6, TX6, 9), (RX7, TX7, 13)]
/-! ===== END printed: names ===== -/
end
section
theorem zz_t : (1 : Nat) = 1 := rfl
end
