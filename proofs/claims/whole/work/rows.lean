section
-- ===== PART A: goes FIRST, ahead of the names: the tables' words, and 'selects' of the private methods out of them =====
/-- a private method of a class that the tables say can be made, by its rows of tables_1 -/
def lw_okq (q : MethodName × Nat) : Prop := (q.1.cls ≠ "java/lang/invoke/MethodHandle" ∧ q.1.cls ≠ "java/lang/invoke/VarHandle") ∧ Cond.instantiable q.1.cls q.2 ∈ tables_1 ∧ Cond.privateMethod q.1 ∈ tables_1 ∧ Cond.instanceMethod q.1 ∈ tables_1
theorem lw_p0 : lw_okq (⟨"LampRacks", "recorded", "(I)I"⟩, 9) := ⟨⟨by decide +kernel, by decide +kernel⟩, List.mem_of_getElem? (i := 13) (by decide +kernel), List.mem_of_getElem? (i := 267) (by decide +kernel), List.mem_of_getElem? (i := 268) (by decide +kernel)⟩
theorem lw_p1 : lw_okq (⟨"LampRacks$History", "dropOldest", "()V"⟩, 2) := ⟨⟨by decide +kernel, by decide +kernel⟩, List.mem_of_getElem? (i := 134) (by decide +kernel), List.mem_of_getElem? (i := 275) (by decide +kernel), List.mem_of_getElem? (i := 276) (by decide +kernel)⟩
theorem lw_p2 : lw_okq (⟨"LampRacks$State", "moveTo", "(II)I"⟩, 6) := ⟨⟨by decide +kernel, by decide +kernel⟩, List.mem_of_getElem? (i := 21) (by decide +kernel), List.mem_of_getElem? (i := 335) (by decide +kernel), List.mem_of_getElem? (i := 336) (by decide +kernel)⟩
theorem lw_p3 : lw_okq (⟨"LampRacks$State", "changeWantedVolts", "(I)I"⟩, 6) := ⟨⟨by decide +kernel, by decide +kernel⟩, List.mem_of_getElem? (i := 21) (by decide +kernel), List.mem_of_getElem? (i := 364) (by decide +kernel), List.mem_of_getElem? (i := 365) (by decide +kernel)⟩
theorem lw_p4 : lw_okq (⟨"LampRacks$State", "changeDoublingVolts", "(I)I"⟩, 6) := ⟨⟨by decide +kernel, by decide +kernel⟩, List.mem_of_getElem? (i := 21) (by decide +kernel), List.mem_of_getElem? (i := 368) (by decide +kernel), List.mem_of_getElem? (i := 369) (by decide +kernel)⟩
theorem lw_p5 : lw_okq (⟨"LampRacks$State", "passHoursOfRack", "(II)I"⟩, 6) := ⟨⟨by decide +kernel, by decide +kernel⟩, List.mem_of_getElem? (i := 21) (by decide +kernel), List.mem_of_getElem? (i := 385) (by decide +kernel), List.mem_of_getElem? (i := 386) (by decide +kernel)⟩
theorem lw_p6 : lw_okq (⟨"LampRacks$State", "burnRack", "(III)I"⟩, 6) := ⟨⟨by decide +kernel, by decide +kernel⟩, List.mem_of_getElem? (i := 21) (by decide +kernel), List.mem_of_getElem? (i := 404) (by decide +kernel), List.mem_of_getElem? (i := 405) (by decide +kernel)⟩
theorem lw_p7 : lw_okq (⟨"LampRacks$Text", "current", "()I"⟩, 10) := ⟨⟨by decide +kernel, by decide +kernel⟩, List.mem_of_getElem? (i := 151) (by decide +kernel), List.mem_of_getElem? (i := 469) (by decide +kernel), List.mem_of_getElem? (i := 470) (by decide +kernel)⟩
theorem lw_p8 : lw_okq (⟨"LampRacks$Text", "readSpot", "()Z"⟩, 10) := ⟨⟨by decide +kernel, by decide +kernel⟩, List.mem_of_getElem? (i := 151) (by decide +kernel), List.mem_of_getElem? (i := 477) (by decide +kernel), List.mem_of_getElem? (i := 478) (by decide +kernel)⟩
theorem lw_p9 : lw_okq (⟨"LampRacks$Text", "readRack", "()Z"⟩, 10) := ⟨⟨by decide +kernel, by decide +kernel⟩, List.mem_of_getElem? (i := 151) (by decide +kernel), List.mem_of_getElem? (i := 481) (by decide +kernel), List.mem_of_getElem? (i := 482) (by decide +kernel)⟩
theorem lw_p10 : lw_okq (⟨"LampRacks$Text", "readDigit", "(I)Z"⟩, 10) := ⟨⟨by decide +kernel, by decide +kernel⟩, List.mem_of_getElem? (i := 151) (by decide +kernel), List.mem_of_getElem? (i := 485) (by decide +kernel), List.mem_of_getElem? (i := 486) (by decide +kernel)⟩
theorem lw_p11 : lw_okq (⟨"LampRacks$Text", "readRackAndColon", "()Z"⟩, 10) := ⟨⟨by decide +kernel, by decide +kernel⟩, List.mem_of_getElem? (i := 151) (by decide +kernel), List.mem_of_getElem? (i := 490) (by decide +kernel), List.mem_of_getElem? (i := 491) (by decide +kernel)⟩
theorem lw_p12 : lw_okq (⟨"LampRacks$Text", "readNumber", "(II)Z"⟩, 10) := ⟨⟨by decide +kernel, by decide +kernel⟩, List.mem_of_getElem? (i := 151) (by decide +kernel), List.mem_of_getElem? (i := 494) (by decide +kernel), List.mem_of_getElem? (i := 495) (by decide +kernel)⟩
theorem lw_p13 : lw_okq (⟨"LampRacks$Text", "isNextDigit", "(I)Z"⟩, 10) := ⟨⟨by decide +kernel, by decide +kernel⟩, List.mem_of_getElem? (i := 151) (by decide +kernel), List.mem_of_getElem? (i := 498) (by decide +kernel), List.mem_of_getElem? (i := 499) (by decide +kernel)⟩
theorem lw_p14 : lw_okq (⟨"LampRacks$Text", "readSteps", "()Z"⟩, 10) := ⟨⟨by decide +kernel, by decide +kernel⟩, List.mem_of_getElem? (i := 151) (by decide +kernel), List.mem_of_getElem? (i := 502) (by decide +kernel), List.mem_of_getElem? (i := 503) (by decide +kernel)⟩
theorem lw_p15 : lw_okq (⟨"LampRacks$Text", "readDirection", "()Z"⟩, 10) := ⟨⟨by decide +kernel, by decide +kernel⟩, List.mem_of_getElem? (i := 151) (by decide +kernel), List.mem_of_getElem? (i := 506) (by decide +kernel), List.mem_of_getElem? (i := 507) (by decide +kernel)⟩
def lw_privs_1 : List (MethodName × Nat) := [(⟨"LampRacks", "recorded", "(I)I"⟩, 9), (⟨"LampRacks$History", "dropOldest", "()V"⟩, 2), (⟨"LampRacks$State", "moveTo", "(II)I"⟩, 6), (⟨"LampRacks$State", "changeWantedVolts", "(I)I"⟩, 6), (⟨"LampRacks$State", "changeDoublingVolts", "(I)I"⟩, 6), (⟨"LampRacks$State", "passHoursOfRack", "(II)I"⟩, 6), (⟨"LampRacks$State", "burnRack", "(III)I"⟩, 6), (⟨"LampRacks$Text", "current", "()I"⟩, 10), (⟨"LampRacks$Text", "readSpot", "()Z"⟩, 10), (⟨"LampRacks$Text", "readRack", "()Z"⟩, 10), (⟨"LampRacks$Text", "readDigit", "(I)Z"⟩, 10), (⟨"LampRacks$Text", "readRackAndColon", "()Z"⟩, 10), (⟨"LampRacks$Text", "readNumber", "(II)Z"⟩, 10), (⟨"LampRacks$Text", "isNextDigit", "(I)Z"⟩, 10), (⟨"LampRacks$Text", "readSteps", "()Z"⟩, 10), (⟨"LampRacks$Text", "readDirection", "()Z"⟩, 10)]
theorem lw_r1 : ∀ q ∈ lw_privs_1, lw_okq q := List.forall_mem_cons.mpr ⟨lw_p0, List.forall_mem_cons.mpr ⟨lw_p1, List.forall_mem_cons.mpr ⟨lw_p2, List.forall_mem_cons.mpr ⟨lw_p3, List.forall_mem_cons.mpr ⟨lw_p4, List.forall_mem_cons.mpr ⟨lw_p5, List.forall_mem_cons.mpr ⟨lw_p6, List.forall_mem_cons.mpr ⟨lw_p7, List.forall_mem_cons.mpr ⟨lw_p8, List.forall_mem_cons.mpr ⟨lw_p9, List.forall_mem_cons.mpr ⟨lw_p10, List.forall_mem_cons.mpr ⟨lw_p11, List.forall_mem_cons.mpr ⟨lw_p12, List.forall_mem_cons.mpr ⟨lw_p13, List.forall_mem_cons.mpr ⟨lw_p14, List.forall_mem_cons.mpr ⟨lw_p15, fun _ h => absurd h List.not_mem_nil⟩⟩⟩⟩⟩⟩⟩⟩⟩⟩⟩⟩⟩⟩⟩⟩
theorem lw_p16 : lw_okq (⟨"LampRacks", "doThing", "()I"⟩, 9) := ⟨⟨by decide +kernel, by decide +kernel⟩, List.mem_of_getElem? (i := 13) (by decide +kernel), List.mem_of_getElem? (i := 512) (by decide +kernel), List.mem_of_getElem? (i := 513) (by decide +kernel)⟩
theorem lw_p17 : lw_okq (⟨"LampRacks$State", "countInRack", "(IZ)I"⟩, 6) := ⟨⟨by decide +kernel, by decide +kernel⟩, List.mem_of_getElem? (i := 21) (by decide +kernel), List.mem_of_getElem? (i := 569) (by decide +kernel), List.mem_of_getElem? (i := 570) (by decide +kernel)⟩
theorem lw_p18 : lw_okq (⟨"LampRacks$Lamps", "countShorterOf", "(II)I"⟩, 7) := ⟨⟨by decide +kernel, by decide +kernel⟩, List.mem_of_getElem? (i := 43) (by decide +kernel), List.mem_of_getElem? (i := 612) (by decide +kernel), List.mem_of_getElem? (i := 613) (by decide +kernel)⟩
theorem lw_p19 : lw_okq (⟨"LampRacks$Lamps", "countEndedBefore", "(I)I"⟩, 7) := ⟨⟨by decide +kernel, by decide +kernel⟩, List.mem_of_getElem? (i := 43) (by decide +kernel), List.mem_of_getElem? (i := 634) (by decide +kernel), List.mem_of_getElem? (i := 635) (by decide +kernel)⟩
theorem lw_p20 : lw_okq (⟨"LampRacks$State", "countBurning", "()I"⟩, 6) := ⟨⟨by decide +kernel, by decide +kernel⟩, List.mem_of_getElem? (i := 21) (by decide +kernel), List.mem_of_getElem? (i := 676) (by decide +kernel), List.mem_of_getElem? (i := 677) (by decide +kernel)⟩
theorem lw_p21 : lw_okq (⟨"LampRacksModel", "record", "()V"⟩, 13) := ⟨⟨by decide +kernel, by decide +kernel⟩, List.mem_of_getElem? (i := 695) (by decide +kernel), List.mem_of_getElem? (i := 756) (by decide +kernel), List.mem_of_getElem? (i := 757) (by decide +kernel)⟩
theorem lw_p22 : lw_okq (⟨"LampRacksModel", "recordRow", "([I)V"⟩, 13) := ⟨⟨by decide +kernel, by decide +kernel⟩, List.mem_of_getElem? (i := 695) (by decide +kernel), List.mem_of_getElem? (i := 760) (by decide +kernel), List.mem_of_getElem? (i := 761) (by decide +kernel)⟩
theorem lw_p23 : lw_okq (⟨"LampRacksModel", "whyNotPut", "(III)I"⟩, 13) := ⟨⟨by decide +kernel, by decide +kernel⟩, List.mem_of_getElem? (i := 695) (by decide +kernel), List.mem_of_getElem? (i := 778) (by decide +kernel), List.mem_of_getElem? (i := 779) (by decide +kernel)⟩
theorem lw_p24 : lw_okq (⟨"LampRacksModel", "lampAt", "(II)I"⟩, 13) := ⟨⟨by decide +kernel, by decide +kernel⟩, List.mem_of_getElem? (i := 695) (by decide +kernel), List.mem_of_getElem? (i := 788) (by decide +kernel), List.mem_of_getElem? (i := 789) (by decide +kernel)⟩
theorem lw_p25 : lw_okq (⟨"LampRacksModel", "of", "(II)I"⟩, 13) := ⟨⟨by decide +kernel, by decide +kernel⟩, List.mem_of_getElem? (i := 695) (by decide +kernel), List.mem_of_getElem? (i := 792) (by decide +kernel), List.mem_of_getElem? (i := 793) (by decide +kernel)⟩
theorem lw_p26 : lw_okq (⟨"LampRacksModel", "putNow", "(III)I"⟩, 13) := ⟨⟨by decide +kernel, by decide +kernel⟩, List.mem_of_getElem? (i := 695) (by decide +kernel), List.mem_of_getElem? (i := 796) (by decide +kernel), List.mem_of_getElem? (i := 797) (by decide +kernel)⟩
theorem lw_p27 : lw_okq (⟨"LampRacksModel", "lay", "(III)V"⟩, 13) := ⟨⟨by decide +kernel, by decide +kernel⟩, List.mem_of_getElem? (i := 695) (by decide +kernel), List.mem_of_getElem? (i := 800) (by decide +kernel), List.mem_of_getElem? (i := 801) (by decide +kernel)⟩
theorem lw_p28 : lw_okq (⟨"LampRacksModel", "moveTo", "(III)V"⟩, 13) := ⟨⟨by decide +kernel, by decide +kernel⟩, List.mem_of_getElem? (i := 695) (by decide +kernel), List.mem_of_getElem? (i := 808) (by decide +kernel), List.mem_of_getElem? (i := 809) (by decide +kernel)⟩
theorem lw_p29 : lw_okq (⟨"LampRacksModel", "whyNotVolts", "(II)I"⟩, 13) := ⟨⟨by decide +kernel, by decide +kernel⟩, List.mem_of_getElem? (i := 695) (by decide +kernel), List.mem_of_getElem? (i := 820) (by decide +kernel), List.mem_of_getElem? (i := 821) (by decide +kernel)⟩
theorem lw_p30 : lw_okq (⟨"LampRacksModel", "ofRack", "(II)I"⟩, 13) := ⟨⟨by decide +kernel, by decide +kernel⟩, List.mem_of_getElem? (i := 695) (by decide +kernel), List.mem_of_getElem? (i := 824) (by decide +kernel), List.mem_of_getElem? (i := 825) (by decide +kernel)⟩
theorem lw_p31 : lw_okq (⟨"LampRacksModel", "stepsNow", "(III)V"⟩, 13) := ⟨⟨by decide +kernel, by decide +kernel⟩, List.mem_of_getElem? (i := 695) (by decide +kernel), List.mem_of_getElem? (i := 832) (by decide +kernel), List.mem_of_getElem? (i := 833) (by decide +kernel)⟩
def lw_privs_2 : List (MethodName × Nat) := [(⟨"LampRacks", "doThing", "()I"⟩, 9), (⟨"LampRacks$State", "countInRack", "(IZ)I"⟩, 6), (⟨"LampRacks$Lamps", "countShorterOf", "(II)I"⟩, 7), (⟨"LampRacks$Lamps", "countEndedBefore", "(I)I"⟩, 7), (⟨"LampRacks$State", "countBurning", "()I"⟩, 6), (⟨"LampRacksModel", "record", "()V"⟩, 13), (⟨"LampRacksModel", "recordRow", "([I)V"⟩, 13), (⟨"LampRacksModel", "whyNotPut", "(III)I"⟩, 13), (⟨"LampRacksModel", "lampAt", "(II)I"⟩, 13), (⟨"LampRacksModel", "of", "(II)I"⟩, 13), (⟨"LampRacksModel", "putNow", "(III)I"⟩, 13), (⟨"LampRacksModel", "lay", "(III)V"⟩, 13), (⟨"LampRacksModel", "moveTo", "(III)V"⟩, 13), (⟨"LampRacksModel", "whyNotVolts", "(II)I"⟩, 13), (⟨"LampRacksModel", "ofRack", "(II)I"⟩, 13), (⟨"LampRacksModel", "stepsNow", "(III)V"⟩, 13)]
theorem lw_r2 : ∀ q ∈ lw_privs_2, lw_okq q := List.forall_mem_cons.mpr ⟨lw_p16, List.forall_mem_cons.mpr ⟨lw_p17, List.forall_mem_cons.mpr ⟨lw_p18, List.forall_mem_cons.mpr ⟨lw_p19, List.forall_mem_cons.mpr ⟨lw_p20, List.forall_mem_cons.mpr ⟨lw_p21, List.forall_mem_cons.mpr ⟨lw_p22, List.forall_mem_cons.mpr ⟨lw_p23, List.forall_mem_cons.mpr ⟨lw_p24, List.forall_mem_cons.mpr ⟨lw_p25, List.forall_mem_cons.mpr ⟨lw_p26, List.forall_mem_cons.mpr ⟨lw_p27, List.forall_mem_cons.mpr ⟨lw_p28, List.forall_mem_cons.mpr ⟨lw_p29, List.forall_mem_cons.mpr ⟨lw_p30, List.forall_mem_cons.mpr ⟨lw_p31, fun _ h => absurd h List.not_mem_nil⟩⟩⟩⟩⟩⟩⟩⟩⟩⟩⟩⟩⟩⟩⟩⟩
theorem lw_p32 : lw_okq (⟨"LampRacksModel", "whyNotPass", "(I)I"⟩, 13) := ⟨⟨by decide +kernel, by decide +kernel⟩, List.mem_of_getElem? (i := 695) (by decide +kernel), List.mem_of_getElem? (i := 844) (by decide +kernel), List.mem_of_getElem? (i := 845) (by decide +kernel)⟩
theorem lw_p33 : lw_okq (⟨"LampRacksModel", "passNow", "(I)I"⟩, 13) := ⟨⟨by decide +kernel, by decide +kernel⟩, List.mem_of_getElem? (i := 695) (by decide +kernel), List.mem_of_getElem? (i := 849) (by decide +kernel), List.mem_of_getElem? (i := 850) (by decide +kernel)⟩
theorem lw_p34 : lw_okq (⟨"LampRacksModel", "anHour", "()I"⟩, 13) := ⟨⟨by decide +kernel, by decide +kernel⟩, List.mem_of_getElem? (i := 695) (by decide +kernel), List.mem_of_getElem? (i := 853) (by decide +kernel), List.mem_of_getElem? (i := 854) (by decide +kernel)⟩
theorem lw_p35 : lw_okq (⟨"LampRacksModel", "burns", "(I)Z"⟩, 13) := ⟨⟨by decide +kernel, by decide +kernel⟩, List.mem_of_getElem? (i := 695) (by decide +kernel), List.mem_of_getElem? (i := 857) (by decide +kernel), List.mem_of_getElem? (i := 858) (by decide +kernel)⟩
theorem lw_p36 : lw_okq (⟨"LampRacksModel", "isDead", "(I)Z"⟩, 13) := ⟨⟨by decide +kernel, by decide +kernel⟩, List.mem_of_getElem? (i := 695) (by decide +kernel), List.mem_of_getElem? (i := 861) (by decide +kernel), List.mem_of_getElem? (i := 862) (by decide +kernel)⟩
theorem lw_p37 : lw_okq (⟨"LampRacksModel", "isHot", "(I)Z"⟩, 13) := ⟨⟨by decide +kernel, by decide +kernel⟩, List.mem_of_getElem? (i := 695) (by decide +kernel), List.mem_of_getElem? (i := 865) (by decide +kernel), List.mem_of_getElem? (i := 866) (by decide +kernel)⟩
theorem lw_p38 : lw_okq (⟨"LampRacksModel", "wearAt", "(IZ)I"⟩, 13) := ⟨⟨by decide +kernel, by decide +kernel⟩, List.mem_of_getElem? (i := 695) (by decide +kernel), List.mem_of_getElem? (i := 869) (by decide +kernel), List.mem_of_getElem? (i := 870) (by decide +kernel)⟩
theorem lw_p39 : lw_okq (⟨"LampRacksModel", "readText", "()Z"⟩, 13) := ⟨⟨by decide +kernel, by decide +kernel⟩, List.mem_of_getElem? (i := 695) (by decide +kernel), List.mem_of_getElem? (i := 885) (by decide +kernel), List.mem_of_getElem? (i := 886) (by decide +kernel)⟩
theorem lw_p40 : lw_okq (⟨"LampRacksModel", "readThing", "()Z"⟩, 13) := ⟨⟨by decide +kernel, by decide +kernel⟩, List.mem_of_getElem? (i := 695) (by decide +kernel), List.mem_of_getElem? (i := 889) (by decide +kernel), List.mem_of_getElem? (i := 890) (by decide +kernel)⟩
theorem lw_p41 : lw_okq (⟨"LampRacksModel", "number", "(III)Z"⟩, 13) := ⟨⟨by decide +kernel, by decide +kernel⟩, List.mem_of_getElem? (i := 695) (by decide +kernel), List.mem_of_getElem? (i := 893) (by decide +kernel), List.mem_of_getElem? (i := 894) (by decide +kernel)⟩
theorem lw_p42 : lw_okq (⟨"LampRacksModel", "sees", "(II)Z"⟩, 13) := ⟨⟨by decide +kernel, by decide +kernel⟩, List.mem_of_getElem? (i := 695) (by decide +kernel), List.mem_of_getElem? (i := 897) (by decide +kernel), List.mem_of_getElem? (i := 898) (by decide +kernel)⟩
theorem lw_p43 : lw_okq (⟨"LampRacksModel", "takes", "(I)Z"⟩, 13) := ⟨⟨by decide +kernel, by decide +kernel⟩, List.mem_of_getElem? (i := 695) (by decide +kernel), List.mem_of_getElem? (i := 901) (by decide +kernel), List.mem_of_getElem? (i := 902) (by decide +kernel)⟩
theorem lw_p44 : lw_okq (⟨"LampRacksModel", "readSteps", "()Z"⟩, 13) := ⟨⟨by decide +kernel, by decide +kernel⟩, List.mem_of_getElem? (i := 695) (by decide +kernel), List.mem_of_getElem? (i := 905) (by decide +kernel), List.mem_of_getElem? (i := 906) (by decide +kernel)⟩
theorem lw_p45 : lw_okq (⟨"LampRacksModel", "whyNot", "(I)I"⟩, 13) := ⟨⟨by decide +kernel, by decide +kernel⟩, List.mem_of_getElem? (i := 695) (by decide +kernel), List.mem_of_getElem? (i := 909) (by decide +kernel), List.mem_of_getElem? (i := 910) (by decide +kernel)⟩
theorem lw_p46 : lw_okq (⟨"LampRacksModel", "doThing", "(I)V"⟩, 13) := ⟨⟨by decide +kernel, by decide +kernel⟩, List.mem_of_getElem? (i := 695) (by decide +kernel), List.mem_of_getElem? (i := 913) (by decide +kernel), List.mem_of_getElem? (i := 914) (by decide +kernel)⟩
theorem lw_p47 : lw_okq (⟨"LampRacksModel", "isLamp", "(I)Z"⟩, 13) := ⟨⟨by decide +kernel, by decide +kernel⟩, List.mem_of_getElem? (i := 695) (by decide +kernel), List.mem_of_getElem? (i := 925) (by decide +kernel), List.mem_of_getElem? (i := 926) (by decide +kernel)⟩
def lw_privs_3 : List (MethodName × Nat) := [(⟨"LampRacksModel", "whyNotPass", "(I)I"⟩, 13), (⟨"LampRacksModel", "passNow", "(I)I"⟩, 13), (⟨"LampRacksModel", "anHour", "()I"⟩, 13), (⟨"LampRacksModel", "burns", "(I)Z"⟩, 13), (⟨"LampRacksModel", "isDead", "(I)Z"⟩, 13), (⟨"LampRacksModel", "isHot", "(I)Z"⟩, 13), (⟨"LampRacksModel", "wearAt", "(IZ)I"⟩, 13), (⟨"LampRacksModel", "readText", "()Z"⟩, 13), (⟨"LampRacksModel", "readThing", "()Z"⟩, 13), (⟨"LampRacksModel", "number", "(III)Z"⟩, 13), (⟨"LampRacksModel", "sees", "(II)Z"⟩, 13), (⟨"LampRacksModel", "takes", "(I)Z"⟩, 13), (⟨"LampRacksModel", "readSteps", "()Z"⟩, 13), (⟨"LampRacksModel", "whyNot", "(I)I"⟩, 13), (⟨"LampRacksModel", "doThing", "(I)V"⟩, 13), (⟨"LampRacksModel", "isLamp", "(I)Z"⟩, 13)]
theorem lw_r3 : ∀ q ∈ lw_privs_3, lw_okq q := List.forall_mem_cons.mpr ⟨lw_p32, List.forall_mem_cons.mpr ⟨lw_p33, List.forall_mem_cons.mpr ⟨lw_p34, List.forall_mem_cons.mpr ⟨lw_p35, List.forall_mem_cons.mpr ⟨lw_p36, List.forall_mem_cons.mpr ⟨lw_p37, List.forall_mem_cons.mpr ⟨lw_p38, List.forall_mem_cons.mpr ⟨lw_p39, List.forall_mem_cons.mpr ⟨lw_p40, List.forall_mem_cons.mpr ⟨lw_p41, List.forall_mem_cons.mpr ⟨lw_p42, List.forall_mem_cons.mpr ⟨lw_p43, List.forall_mem_cons.mpr ⟨lw_p44, List.forall_mem_cons.mpr ⟨lw_p45, List.forall_mem_cons.mpr ⟨lw_p46, List.forall_mem_cons.mpr ⟨lw_p47, fun _ h => absurd h List.not_mem_nil⟩⟩⟩⟩⟩⟩⟩⟩⟩⟩⟩⟩⟩⟩⟩⟩
theorem lw_p48 : lw_okq (⟨"LampRacksModel", "counts", "(I)I"⟩, 13) := ⟨⟨by decide +kernel, by decide +kernel⟩, List.mem_of_getElem? (i := 695) (by decide +kernel), List.mem_of_getElem? (i := 929) (by decide +kernel), List.mem_of_getElem? (i := 930) (by decide +kernel)⟩
theorem lw_p49 : lw_okq (⟨"LampRacksModel", "lampsIn", "(IZ)I"⟩, 13) := ⟨⟨by decide +kernel, by decide +kernel⟩, List.mem_of_getElem? (i := 695) (by decide +kernel), List.mem_of_getElem? (i := 937) (by decide +kernel), List.mem_of_getElem? (i := 938) (by decide +kernel)⟩
theorem lw_p50 : lw_okq (⟨"LampRacksModel", "lampsOf", "(III)I"⟩, 13) := ⟨⟨by decide +kernel, by decide +kernel⟩, List.mem_of_getElem? (i := 695) (by decide +kernel), List.mem_of_getElem? (i := 949) (by decide +kernel), List.mem_of_getElem? (i := 950) (by decide +kernel)⟩
theorem lw_p51 : lw_okq (⟨"LampRacksModel", "early", "(I)I"⟩, 13) := ⟨⟨by decide +kernel, by decide +kernel⟩, List.mem_of_getElem? (i := 695) (by decide +kernel), List.mem_of_getElem? (i := 953) (by decide +kernel), List.mem_of_getElem? (i := 954) (by decide +kernel)⟩
theorem lw_p52 : lw_okq (⟨"LampRacksModel", "middleLife", "(I)I"⟩, 13) := ⟨⟨by decide +kernel, by decide +kernel⟩, List.mem_of_getElem? (i := 695) (by decide +kernel), List.mem_of_getElem? (i := 957) (by decide +kernel), List.mem_of_getElem? (i := 958) (by decide +kernel)⟩
theorem lw_p53 : lw_okq (⟨"LampRacksModel", "endsAhead", "(I)I"⟩, 13) := ⟨⟨by decide +kernel, by decide +kernel⟩, List.mem_of_getElem? (i := 695) (by decide +kernel), List.mem_of_getElem? (i := 969) (by decide +kernel), List.mem_of_getElem? (i := 970) (by decide +kernel)⟩
theorem lw_p54 : lw_okq (⟨"LampRacksModel", "firstEndedAt", "(I)I"⟩, 13) := ⟨⟨by decide +kernel, by decide +kernel⟩, List.mem_of_getElem? (i := 695) (by decide +kernel), List.mem_of_getElem? (i := 985) (by decide +kernel), List.mem_of_getElem? (i := 986) (by decide +kernel)⟩
theorem lw_p55 : lw_okq (⟨"LampRacksModel", "burning", "()I"⟩, 13) := ⟨⟨by decide +kernel, by decide +kernel⟩, List.mem_of_getElem? (i := 695) (by decide +kernel), List.mem_of_getElem? (i := 993) (by decide +kernel), List.mem_of_getElem? (i := 994) (by decide +kernel)⟩
theorem lw_p56 : lw_okq (⟨"LampRacksModel", "dead", "()I"⟩, 13) := ⟨⟨by decide +kernel, by decide +kernel⟩, List.mem_of_getElem? (i := 695) (by decide +kernel), List.mem_of_getElem? (i := 997) (by decide +kernel), List.mem_of_getElem? (i := 998) (by decide +kernel)⟩
theorem lw_p57 : lw_okq (⟨"LampRacksModel", "sum", "(I)I"⟩, 13) := ⟨⟨by decide +kernel, by decide +kernel⟩, List.mem_of_getElem? (i := 695) (by decide +kernel), List.mem_of_getElem? (i := 1001) (by decide +kernel), List.mem_of_getElem? (i := 1002) (by decide +kernel)⟩
def lw_privs_4 : List (MethodName × Nat) := [(⟨"LampRacksModel", "counts", "(I)I"⟩, 13), (⟨"LampRacksModel", "lampsIn", "(IZ)I"⟩, 13), (⟨"LampRacksModel", "lampsOf", "(III)I"⟩, 13), (⟨"LampRacksModel", "early", "(I)I"⟩, 13), (⟨"LampRacksModel", "middleLife", "(I)I"⟩, 13), (⟨"LampRacksModel", "endsAhead", "(I)I"⟩, 13), (⟨"LampRacksModel", "firstEndedAt", "(I)I"⟩, 13), (⟨"LampRacksModel", "burning", "()I"⟩, 13), (⟨"LampRacksModel", "dead", "()I"⟩, 13), (⟨"LampRacksModel", "sum", "(I)I"⟩, 13)]
theorem lw_r4 : ∀ q ∈ lw_privs_4, lw_okq q := List.forall_mem_cons.mpr ⟨lw_p48, List.forall_mem_cons.mpr ⟨lw_p49, List.forall_mem_cons.mpr ⟨lw_p50, List.forall_mem_cons.mpr ⟨lw_p51, List.forall_mem_cons.mpr ⟨lw_p52, List.forall_mem_cons.mpr ⟨lw_p53, List.forall_mem_cons.mpr ⟨lw_p54, List.forall_mem_cons.mpr ⟨lw_p55, List.forall_mem_cons.mpr ⟨lw_p56, List.forall_mem_cons.mpr ⟨lw_p57, fun _ h => absurd h List.not_mem_nil⟩⟩⟩⟩⟩⟩⟩⟩⟩⟩
def lw_privs : List (MethodName × Nat) := lw_privs_1 ++ (lw_privs_2 ++ (lw_privs_3 ++ (lw_privs_4)))
def lw_tbl : List Cond := k2_sels lw_privs ++ tables_1
theorem lw_privs_ok : ∀ q ∈ lw_privs, lw_okq q := by
  show ∀ q ∈ lw_privs_1 ++ (lw_privs_2 ++ (lw_privs_3 ++ (lw_privs_4))), lw_okq q
  exact List.forall_mem_append.mpr ⟨lw_r1, List.forall_mem_append.mpr ⟨lw_r2, List.forall_mem_append.mpr ⟨lw_r3, lw_r4⟩⟩⟩
end
section
/-! ===== BEGIN words of one list among another's, by their places ===== -/
theorem goodIn_r {big : List Cond} (ws : List Cond) (ps : List Nat) (hp : ws = ps.filterMap (fun i => big[i]?)) (h : ws.all goodWord = true) : GoodIn big ws := by
  intro w hw
  have h1 := List.all_eq_true.mp h w hw
  rw [hp] at hw
  obtain ⟨i, -, hi⟩ := List.mem_filterMap.mp hw
  have hm : w ∈ big := by first | exact List.mem_of_getElem? hi | exact List.getElem?_mem hi
  exact ⟨hm, good_of_word h1⟩
theorem goodIn_app {big a b : List Cond} (ha : GoodIn big a) (hb : GoodIn big b) : GoodIn big (a ++ b) := fun w h => (List.mem_append.mp h).elim (ha w) (hb w)
theorem goodIn_ca {big a b : List Cond} {c : Cond} (ha : GoodIn big (c :: a)) (hb : GoodIn big b) : GoodIn big (c :: (a ++ b)) := fun w h => (List.mem_cons.mp h).elim (fun e => ha w (List.mem_cons.mpr (Or.inl e))) (fun h => (List.mem_append.mp h).elim (fun h => ha w (List.mem_cons.mpr (Or.inr h))) (hb w))
theorem goodIn_sub {big ws : List Cond} (hm : ∀ w ∈ ws, w ∈ big) (h : ws.all goodWord = true) : GoodIn big ws := fun w hw => ⟨hm w hw, good_of_word (List.all_eq_true.mp h w hw)⟩
/-! ===== END ===== -/

/-! ===== BEGIN printed: names, fields, word lists, decode rows ===== -/
def RX0 : String := "LampRacks$Batches"
def TX0 : u_T := fun k => match k with
  | 0 => ("LampRacks$Batches", "life", "[I", true)
  | _ => ("LampRacks$Batches", "spread", "[I", true)
def tyX0 : Nat → FieldType := fun k => match k with
  | 0 => .array .int
  | _ => .array .int
abbrev wsX00 : List Cond := u_ws RX0 TX0 2
theorem nmX0 : ∀ a, a < 2 → ∀ b, b < 2 → a ≠ b → (TX0 a).2.1 ≠ (TX0 b).2.1 := by decide +kernel
theorem tyX0_ok : ∀ k, k < 2 → parseFieldDescriptor (TX0 k).2.2.1 = some (tyX0 k) := by decide +kernel
abbrev cX0_init : ByteArray := prog_2_method_1_code
def yX0_init : MethodName := ⟨RX0, "<init>", "()V"⟩
abbrev cX0_copyFrom : ByteArray := prog_2_method_2_code
def yX0_copyFrom : MethodName := ⟨RX0, "copyFrom", "(LLampRacks$Batches;)V"⟩
abbrev cX0_hoursOfLamp : ByteArray := prog_2_method_3_code
def yX0_hoursOfLamp : MethodName := ⟨RX0, "hoursOfLamp", "(II)I"⟩
def RX1 : String := "LampRacks$History"
def TX1 : u_T := fun k => match k with
  | 0 => ("LampRacks$History", "size", "I", false)
  | _ => ("LampRacks$History", "states", "[LLampRacks$State;", true)
def tyX1 : Nat → FieldType := fun k => match k with
  | 0 => .int
  | _ => .array (.object "LampRacks$State")
abbrev wsX10 : List Cond := u_ws RX1 TX1 2
theorem nmX1 : ∀ a, a < 2 → ∀ b, b < 2 → a ≠ b → (TX1 a).2.1 ≠ (TX1 b).2.1 := by decide +kernel
theorem tyX1_ok : ∀ k, k < 2 → parseFieldDescriptor (TX1 k).2.2.1 = some (tyX1 k) := by decide +kernel
abbrev cX1_init : ByteArray := prog_3_method_1_code
def yX1_init : MethodName := ⟨RX1, "<init>", "()V"⟩
abbrev cX1_append : ByteArray := prog_3_method_2_code
def yX1_append : MethodName := ⟨RX1, "append", "(LLampRacks$State;)V"⟩
abbrev cX1_dropOldest : ByteArray := prog_3_method_3_code
def yX1_dropOldest : MethodName := ⟨RX1, "dropOldest", "()V"⟩
abbrev cX1_moveLatestTo : ByteArray := prog_3_method_4_code
def yX1_moveLatestTo : MethodName := ⟨RX1, "moveLatestTo", "(LLampRacks$State;)V"⟩
def RX2 : String := "LampRacks$Lamps"
def TX2 : u_T := fun k => match k with
  | 0 => ("LampRacks$Lamps", "size", "I", false)
  | 1 => ("LampRacks$Lamps", "batch", "[I", true)
  | 2 => ("LampRacks$Lamps", "spot", "[I", true)
  | 3 => ("LampRacks$Lamps", "canLast", "[I", true)
  | 4 => ("LampRacks$Lamps", "wear", "[I", true)
  | 5 => ("LampRacks$Lamps", "burned", "[I", true)
  | _ => ("LampRacks$Lamps", "end", "[I", true)
def tyX2 : Nat → FieldType := fun k => match k with
  | 0 => .int
  | 1 => .array .int
  | 2 => .array .int
  | 3 => .array .int
  | 4 => .array .int
  | 5 => .array .int
  | _ => .array .int
abbrev wsX20 : List Cond := u_ws RX2 TX2 7
theorem nmX2 : ∀ a, a < 7 → ∀ b, b < 7 → a ≠ b → (TX2 a).2.1 ≠ (TX2 b).2.1 := by decide +kernel
theorem tyX2_ok : ∀ k, k < 7 → parseFieldDescriptor (TX2 k).2.2.1 = some (tyX2 k) := by decide +kernel
abbrev cX2_init : ByteArray := prog_4_method_1_code
def yX2_init : MethodName := ⟨RX2, "<init>", "()V"⟩
abbrev cX2_copyFrom : ByteArray := prog_4_method_2_code
def yX2_copyFrom : MethodName := ⟨RX2, "copyFrom", "(LLampRacks$Lamps;)V"⟩
abbrev cX2_has : ByteArray := prog_4_method_3_code
def yX2_has : MethodName := ⟨RX2, "has", "(I)Z"⟩
abbrev cX2_isFull : ByteArray := prog_4_method_4_code
def yX2_isFull : MethodName := ⟨RX2, "isFull", "()Z"⟩
abbrev cX2_append : ByteArray := prog_4_method_5_code
def yX2_append : MethodName := ⟨RX2, "append", "(III)I"⟩
abbrev cX2_isDead : ByteArray := prog_4_method_6_code
def yX2_isDead : MethodName := ⟨RX2, "isDead", "(I)Z"⟩
abbrev cX2_isDeadOf : ByteArray := prog_4_method_7_code
def yX2_isDeadOf : MethodName := ⟨RX2, "isDeadOf", "(II)Z"⟩
abbrev cX2_hoursCounted : ByteArray := prog_4_method_8_code
def yX2_hoursCounted : MethodName := ⟨RX2, "hoursCounted", "(I)I"⟩
abbrev cX2_hoursLeft : ByteArray := prog_4_method_9_code
def yX2_hoursLeft : MethodName := ⟨RX2, "hoursLeft", "(II)I"⟩
abbrev cX2_burn : ByteArray := prog_4_method_10_code
def yX2_burn : MethodName := ⟨RX2, "burn", "(III)V"⟩
abbrev cX2_countOf : ByteArray := prog_4_method_11_code
def yX2_countOf : MethodName := ⟨RX2, "countOf", "(I)I"⟩
abbrev cX2_countDeadOf : ByteArray := prog_4_method_12_code
def yX2_countDeadOf : MethodName := ⟨RX2, "countDeadOf", "(I)I"⟩
abbrev cX2_countDeadBelow : ByteArray := prog_4_method_13_code
def yX2_countDeadBelow : MethodName := ⟨RX2, "countDeadBelow", "(II)I"⟩
abbrev cX2_countThatLasted : ByteArray := prog_4_method_14_code
def yX2_countThatLasted : MethodName := ⟨RX2, "countThatLasted", "(II)I"⟩
abbrev cX2_countDead : ByteArray := prog_4_method_15_code
def yX2_countDead : MethodName := ⟨RX2, "countDead", "()I"⟩
abbrev cX2_countInRacks : ByteArray := prog_4_method_16_code
def yX2_countInRacks : MethodName := ⟨RX2, "countInRacks", "()I"⟩
abbrev cX2_countWeak : ByteArray := prog_4_method_17_code
def yX2_countWeak : MethodName := ⟨RX2, "countWeak", "()I"⟩
abbrev cX2_sumOf : ByteArray := prog_4_method_18_code
def yX2_sumOf : MethodName := ⟨RX2, "sumOf", "([I)I"⟩
abbrev cX2_findEnded : ByteArray := prog_4_method_19_code
def yX2_findEnded : MethodName := ⟨RX2, "findEnded", "(I)I"⟩
abbrev cX2_countEndedBefore : ByteArray := prog_4_method_20_code
def yX2_countEndedBefore : MethodName := ⟨RX2, "countEndedBefore", "(I)I"⟩
abbrev cX2_findFirstEndedAfter : ByteArray := prog_4_method_21_code
def yX2_findFirstEndedAfter : MethodName := ⟨RX2, "findFirstEndedAfter", "(I)I"⟩
abbrev cX2_middleLife : ByteArray := prog_4_method_22_code
def yX2_middleLife : MethodName := ⟨RX2, "middleLife", "(I)I"⟩
abbrev cX2_countShorterOf : ByteArray := prog_4_method_23_code
def yX2_countShorterOf : MethodName := ⟨RX2, "countShorterOf", "(II)I"⟩
def RX3 : String := "LampRacks$Racks"
def TX3 : u_T := fun k => match k with
  | 0 => ("LampRacks$Racks", "lampAt", "[I", true)
  | 1 => ("LampRacks$Racks", "volts", "[I", true)
  | 2 => ("LampRacks$Racks", "stepHours", "[I", true)
  | 3 => ("LampRacks$Racks", "stepVolts", "[I", true)
  | _ => ("LampRacks$Racks", "hoursOfStep", "[I", true)
def tyX3 : Nat → FieldType := fun k => match k with
  | 0 => .array .int
  | 1 => .array .int
  | 2 => .array .int
  | 3 => .array .int
  | _ => .array .int
abbrev wsX30 : List Cond := u_ws RX3 TX3 5
theorem nmX3 : ∀ a, a < 5 → ∀ b, b < 5 → a ≠ b → (TX3 a).2.1 ≠ (TX3 b).2.1 := by decide +kernel
theorem tyX3_ok : ∀ k, k < 5 → parseFieldDescriptor (TX3 k).2.2.1 = some (tyX3 k) := by decide +kernel
abbrev cX3_init : ByteArray := prog_5_method_1_code
def yX3_init : MethodName := ⟨RX3, "<init>", "()V"⟩
abbrev cX3_copyFrom : ByteArray := prog_5_method_2_code
def yX3_copyFrom : MethodName := ⟨RX3, "copyFrom", "(LLampRacks$Racks;)V"⟩
abbrev cX3_isDark : ByteArray := prog_5_method_3_code
def yX3_isDark : MethodName := ⟨RX3, "isDark", "(I)Z"⟩
abbrev cX3_voltsAfterStep : ByteArray := prog_5_method_4_code
def yX3_voltsAfterStep : MethodName := ⟨RX3, "voltsAfterStep", "(I)I"⟩
abbrev cX3_hoursToStep : ByteArray := prog_5_method_5_code
def yX3_hoursToStep : MethodName := ⟨RX3, "hoursToStep", "(I)I"⟩
abbrev cX3_hoursAtSameVolts : ByteArray := prog_5_method_6_code
def yX3_hoursAtSameVolts : MethodName := ⟨RX3, "hoursAtSameVolts", "(II)I"⟩
abbrev cX3_countHours : ByteArray := prog_5_method_7_code
def yX3_countHours : MethodName := ⟨RX3, "countHours", "(II)V"⟩
def RX4 : String := "LampRacks$State"
def TX4 : u_T := fun k => match k with
  | 0 => ("LampRacks$State", "hour", "I", false)
  | 1 => ("LampRacks$State", "wantedVolts", "I", false)
  | 2 => ("LampRacks$State", "doublingVolts", "I", false)
  | 3 => ("LampRacks$State", "batches", "LLampRacks$Batches;", true)
  | 4 => ("LampRacks$State", "lamps", "LLampRacks$Lamps;", true)
  | _ => ("LampRacks$State", "racks", "LLampRacks$Racks;", true)
def tyX4 : Nat → FieldType := fun k => match k with
  | 0 => .int
  | 1 => .int
  | 2 => .int
  | 3 => .object "LampRacks$Batches"
  | 4 => .object "LampRacks$Lamps"
  | _ => .object "LampRacks$Racks"
abbrev wsX40 : List Cond := u_ws RX4 TX4 6
theorem nmX4 : ∀ a, a < 6 → ∀ b, b < 6 → a ≠ b → (TX4 a).2.1 ≠ (TX4 b).2.1 := by decide +kernel
theorem tyX4_ok : ∀ k, k < 6 → parseFieldDescriptor (TX4 k).2.2.1 = some (tyX4 k) := by decide +kernel
abbrev cX4_init : ByteArray := prog_6_method_1_code
def yX4_init : MethodName := ⟨RX4, "<init>", "()V"⟩
abbrev cX4_copyFrom : ByteArray := prog_6_method_2_code
def yX4_copyFrom : MethodName := ⟨RX4, "copyFrom", "(LLampRacks$State;)V"⟩
abbrev cX4_changeBatch : ByteArray := prog_6_method_3_code
def yX4_changeBatch : MethodName := ⟨RX4, "changeBatch", "(III)I"⟩
abbrev cX4_insertLamp : ByteArray := prog_6_method_4_code
def yX4_insertLamp : MethodName := ⟨RX4, "insertLamp", "(III)I"⟩
abbrev cX4_removeLamp : ByteArray := prog_6_method_5_code
def yX4_removeLamp : MethodName := ⟨RX4, "removeLamp", "(II)I"⟩
abbrev cX4_exchange : ByteArray := prog_6_method_6_code
def yX4_exchange : MethodName := ⟨RX4, "exchange", "(IIII)I"⟩
abbrev cX4_moveTo : ByteArray := prog_6_method_7_code
def yX4_moveTo : MethodName := ⟨RX4, "moveTo", "(II)I"⟩
abbrev cX4_changeVolts : ByteArray := prog_6_method_8_code
def yX4_changeVolts : MethodName := ⟨RX4, "changeVolts", "(II)I"⟩
abbrev cX4_changeSteps : ByteArray := prog_6_method_9_code
def yX4_changeSteps : MethodName := ⟨RX4, "changeSteps", "(III)I"⟩
abbrev cX4_changeSetting : ByteArray := prog_6_method_10_code
def yX4_changeSetting : MethodName := ⟨RX4, "changeSetting", "(II)I"⟩
abbrev cX4_changeWantedVolts : ByteArray := prog_6_method_11_code
def yX4_changeWantedVolts : MethodName := ⟨RX4, "changeWantedVolts", "(I)I"⟩
abbrev cX4_changeDoublingVolts : ByteArray := prog_6_method_12_code
def yX4_changeDoublingVolts : MethodName := ⟨RX4, "changeDoublingVolts", "(I)I"⟩
abbrev cX4_letPass : ByteArray := prog_6_method_13_code
def yX4_letPass : MethodName := ⟨RX4, "letPass", "(I)I"⟩
abbrev cX4_passHours : ByteArray := prog_6_method_14_code
def yX4_passHours : MethodName := ⟨RX4, "passHours", "(I)I"⟩
abbrev cX4_passHoursOfRack : ByteArray := prog_6_method_15_code
def yX4_passHoursOfRack : MethodName := ⟨RX4, "passHoursOfRack", "(II)I"⟩
abbrev cX4_burnRack : ByteArray := prog_6_method_16_code
def yX4_burnRack : MethodName := ⟨RX4, "burnRack", "(III)I"⟩
abbrev cX4_wearOfHour : ByteArray := prog_6_method_17_code
def yX4_wearOfHour : MethodName := ⟨RX4, "wearOfHour", "(IZ)I"⟩
abbrev cX4_whyDark : ByteArray := prog_6_method_18_code
def yX4_whyDark : MethodName := ⟨RX4, "whyDark", "(I)I"⟩
abbrev cX4_tellOfLamp : ByteArray := prog_6_method_19_code
def yX4_tellOfLamp : MethodName := ⟨RX4, "tellOfLamp", "(II)I"⟩
abbrev cX4_tellOfRack : ByteArray := prog_6_method_20_code
def yX4_tellOfRack : MethodName := ⟨RX4, "tellOfRack", "(II)I"⟩
abbrev cX4_countInRack : ByteArray := prog_6_method_21_code
def yX4_countInRack : MethodName := ⟨RX4, "countInRack", "(IZ)I"⟩
abbrev cX4_tellOfBatch : ByteArray := prog_6_method_22_code
def yX4_tellOfBatch : MethodName := ⟨RX4, "tellOfBatch", "(II)I"⟩
abbrev cX4_tellOfAll : ByteArray := prog_6_method_23_code
def yX4_tellOfAll : MethodName := ⟨RX4, "tellOfAll", "(I)I"⟩
abbrev cX4_countBurning : ByteArray := prog_6_method_24_code
def yX4_countBurning : MethodName := ⟨RX4, "countBurning", "()I"⟩
def RX5 : String := "LampRacks$Text"
def TX5 : u_T := fun k => match k with
  | 0 => ("LampRacks$Text", "length", "I", false)
  | 1 => ("LampRacks$Text", "characters", "[C", true)
  | 2 => ("LampRacks$Text", "position", "I", false)
  | 3 => ("LampRacks$Text", "things", "I", false)
  | 4 => ("LampRacks$Text", "kind", "I", false)
  | 5 => ("LampRacks$Text", "rack", "I", false)
  | 6 => ("LampRacks$Text", "place", "I", false)
  | 7 => ("LampRacks$Text", "hours", "I", false)
  | 8 => ("LampRacks$Text", "direction", "I", false)
  | _ => ("LampRacks$Text", "number", "I", false)
def tyX5 : Nat → FieldType := fun k => match k with
  | 0 => .int
  | 1 => .array .char
  | 2 => .int
  | 3 => .int
  | 4 => .int
  | 5 => .int
  | 6 => .int
  | 7 => .int
  | 8 => .int
  | _ => .int
abbrev wsX50 : List Cond := u_ws RX5 TX5 10
theorem nmX5 : ∀ a, a < 10 → ∀ b, b < 10 → a ≠ b → (TX5 a).2.1 ≠ (TX5 b).2.1 := by decide +kernel
theorem tyX5_ok : ∀ k, k < 10 → parseFieldDescriptor (TX5 k).2.2.1 = some (tyX5 k) := by decide +kernel
abbrev cX5_init : ByteArray := prog_7_method_1_code
def yX5_init : MethodName := ⟨RX5, "<init>", "()V"⟩
abbrev cX5_append : ByteArray := prog_7_method_2_code
def yX5_append : MethodName := ⟨RX5, "append", "(C)I"⟩
abbrev cX5_empty : ByteArray := prog_7_method_3_code
def yX5_empty : MethodName := ⟨RX5, "empty", "()I"⟩
abbrev cX5_startReading : ByteArray := prog_7_method_4_code
def yX5_startReading : MethodName := ⟨RX5, "startReading", "()V"⟩
abbrev cX5_findFault : ByteArray := prog_7_method_5_code
def yX5_findFault : MethodName := ⟨RX5, "findFault", "()I"⟩
abbrev cX5_readThing : ByteArray := prog_7_method_6_code
def yX5_readThing : MethodName := ⟨RX5, "readThing", "()Z"⟩
abbrev cX5_readSign : ByteArray := prog_7_method_7_code
def yX5_readSign : MethodName := ⟨RX5, "readSign", "(C)Z"⟩
abbrev cX5_current : ByteArray := prog_7_method_8_code
def yX5_current : MethodName := ⟨RX5, "current", "()I"⟩
abbrev cX5_readSpot : ByteArray := prog_7_method_9_code
def yX5_readSpot : MethodName := ⟨RX5, "readSpot", "()Z"⟩
abbrev cX5_readRackAndColon : ByteArray := prog_7_method_10_code
def yX5_readRackAndColon : MethodName := ⟨RX5, "readRackAndColon", "()Z"⟩
abbrev cX5_readRack : ByteArray := prog_7_method_11_code
def yX5_readRack : MethodName := ⟨RX5, "readRack", "()Z"⟩
abbrev cX5_readSteps : ByteArray := prog_7_method_12_code
def yX5_readSteps : MethodName := ⟨RX5, "readSteps", "()Z"⟩
abbrev cX5_readDirection : ByteArray := prog_7_method_13_code
def yX5_readDirection : MethodName := ⟨RX5, "readDirection", "()Z"⟩
abbrev cX5_readDigit : ByteArray := prog_7_method_14_code
def yX5_readDigit : MethodName := ⟨RX5, "readDigit", "(I)Z"⟩
abbrev cX5_readNumber : ByteArray := prog_7_method_15_code
def yX5_readNumber : MethodName := ⟨RX5, "readNumber", "(II)Z"⟩
abbrev cX5_isNextDigit : ByteArray := prog_7_method_16_code
def yX5_isNextDigit : MethodName := ⟨RX5, "isNextDigit", "(I)Z"⟩
def RX6 : String := "LampRacks"
def TX6 : u_T := fun k => match k with
  | 0 => ("LampRacks", "now", "LLampRacks$State;", true)
  | 1 => ("LampRacks", "before", "LLampRacks$State;", true)
  | 2 => ("LampRacks", "ahead", "LLampRacks$State;", true)
  | 3 => ("LampRacks", "snapshot", "LLampRacks$State;", true)
  | 4 => ("LampRacks", "hasSnapshot", "Z", false)
  | 5 => ("LampRacks", "history", "LLampRacks$History;", true)
  | 6 => ("LampRacks", "text", "LLampRacks$Text;", true)
  | 7 => ("LampRacks", "stoppedThing", "I", false)
  | _ => ("LampRacks", "stoppedError", "I", false)
def tyX6 : Nat → FieldType := fun k => match k with
  | 0 => .object "LampRacks$State"
  | 1 => .object "LampRacks$State"
  | 2 => .object "LampRacks$State"
  | 3 => .object "LampRacks$State"
  | 4 => .boolean
  | 5 => .object "LampRacks$History"
  | 6 => .object "LampRacks$Text"
  | 7 => .int
  | _ => .int
abbrev wsX60 : List Cond := u_ws RX6 TX6 9
theorem nmX6 : ∀ a, a < 9 → ∀ b, b < 9 → a ≠ b → (TX6 a).2.1 ≠ (TX6 b).2.1 := by decide +kernel
theorem tyX6_ok : ∀ k, k < 9 → parseFieldDescriptor (TX6 k).2.2.1 = some (tyX6 k) := by decide +kernel
abbrev cX6_init : ByteArray := prog_1_method_1_code
def yX6_init : MethodName := ⟨RX6, "<init>", "()V"⟩
abbrev cX6_setBatch : ByteArray := prog_1_method_2_code
def yX6_setBatch : MethodName := ⟨RX6, "setBatch", "(III)I"⟩
abbrev cX6_put : ByteArray := prog_1_method_3_code
def yX6_put : MethodName := ⟨RX6, "put", "(III)I"⟩
abbrev cX6_takeOut : ByteArray := prog_1_method_4_code
def yX6_takeOut : MethodName := ⟨RX6, "takeOut", "(II)I"⟩
abbrev cX6_swap : ByteArray := prog_1_method_5_code
def yX6_swap : MethodName := ⟨RX6, "swap", "(IIII)I"⟩
abbrev cX6_setVolts : ByteArray := prog_1_method_6_code
def yX6_setVolts : MethodName := ⟨RX6, "setVolts", "(II)I"⟩
abbrev cX6_setSteps : ByteArray := prog_1_method_7_code
def yX6_setSteps : MethodName := ⟨RX6, "setSteps", "(III)I"⟩
abbrev cX6_set : ByteArray := prog_1_method_8_code
def yX6_set : MethodName := ⟨RX6, "set", "(II)I"⟩
abbrev cX6_pass : ByteArray := prog_1_method_9_code
def yX6_pass : MethodName := ⟨RX6, "pass", "(I)I"⟩
abbrev cX6_type : ByteArray := prog_1_method_10_code
def yX6_type : MethodName := ⟨RX6, "type", "(C)I"⟩
abbrev cX6_clearText : ByteArray := prog_1_method_11_code
def yX6_clearText : MethodName := ⟨RX6, "clearText", "()I"⟩
abbrev cX6_perform : ByteArray := prog_1_method_12_code
def yX6_perform : MethodName := ⟨RX6, "perform", "()I"⟩
abbrev cX6_stopped : ByteArray := prog_1_method_13_code
def yX6_stopped : MethodName := ⟨RX6, "stopped", "(I)I"⟩
abbrev cX6_undo : ByteArray := prog_1_method_14_code
def yX6_undo : MethodName := ⟨RX6, "undo", "()I"⟩
abbrev cX6_keep : ByteArray := prog_1_method_15_code
def yX6_keep : MethodName := ⟨RX6, "keep", "()I"⟩
abbrev cX6_restore : ByteArray := prog_1_method_16_code
def yX6_restore : MethodName := ⟨RX6, "restore", "()I"⟩
abbrev cX6_lamp : ByteArray := prog_1_method_17_code
def yX6_lamp : MethodName := ⟨RX6, "lamp", "(II)I"⟩
abbrev cX6_rack : ByteArray := prog_1_method_18_code
def yX6_rack : MethodName := ⟨RX6, "rack", "(II)I"⟩
abbrev cX6_at : ByteArray := prog_1_method_19_code
def yX6_at : MethodName := ⟨RX6, "at", "(II)I"⟩
abbrev cX6_batch : ByteArray := prog_1_method_20_code
def yX6_batch : MethodName := ⟨RX6, "batch", "(II)I"⟩
abbrev cX6_lasted : ByteArray := prog_1_method_21_code
def yX6_lasted : MethodName := ⟨RX6, "lasted", "(II)I"⟩
abbrev cX6_ended : ByteArray := prog_1_method_22_code
def yX6_ended : MethodName := ⟨RX6, "ended", "(I)I"⟩
abbrev cX6_lasts : ByteArray := prog_1_method_23_code
def yX6_lasts : MethodName := ⟨RX6, "lasts", "(II)I"⟩
abbrev cX6_reason : ByteArray := prog_1_method_24_code
def yX6_reason : MethodName := ⟨RX6, "reason", "(I)I"⟩
abbrev cX6_next : ByteArray := prog_1_method_25_code
def yX6_next : MethodName := ⟨RX6, "next", "(I)I"⟩
abbrev cX6_count : ByteArray := prog_1_method_26_code
def yX6_count : MethodName := ⟨RX6, "count", "(I)I"⟩
abbrev cX6_recorded : ByteArray := prog_1_method_27_code
def yX6_recorded : MethodName := ⟨RX6, "recorded", "(I)I"⟩
abbrev cX6_doThing : ByteArray := prog_1_method_28_code
def yX6_doThing : MethodName := ⟨RX6, "doThing", "()I"⟩
abbrev cX6_isError : ByteArray := prog_1_method_29_code
def yX6_isError : MethodName := ⟨RX6, "isError", "(I)Z"⟩
abbrev cX6_isWithin : ByteArray := prog_1_method_30_code
def yX6_isWithin : MethodName := ⟨RX6, "isWithin", "(III)Z"⟩
abbrev cX6_isBatch : ByteArray := prog_1_method_31_code
def yX6_isBatch : MethodName := ⟨RX6, "isBatch", "(I)Z"⟩
abbrev cX6_isRack : ByteArray := prog_1_method_32_code
def yX6_isRack : MethodName := ⟨RX6, "isRack", "(I)Z"⟩
abbrev cX6_isPlace : ByteArray := prog_1_method_33_code
def yX6_isPlace : MethodName := ⟨RX6, "isPlace", "(II)Z"⟩
abbrev cX6_spotOf : ByteArray := prog_1_method_34_code
def yX6_spotOf : MethodName := ⟨RX6, "spotOf", "(II)I"⟩
abbrev cX6_isHot : ByteArray := prog_1_method_35_code
def yX6_isHot : MethodName := ⟨RX6, "isHot", "(I)Z"⟩
abbrev cX6_shareOf : ByteArray := prog_1_method_36_code
def yX6_shareOf : MethodName := ⟨RX6, "shareOf", "(I)I"⟩
abbrev cX6_isWeak : ByteArray := prog_1_method_37_code
def yX6_isWeak : MethodName := ⟨RX6, "isWeak", "(I)Z"⟩
abbrev cX6_oneIf : ByteArray := prog_1_method_38_code
def yX6_oneIf : MethodName := ⟨RX6, "oneIf", "(Z)I"⟩
abbrev cX6_copy : ByteArray := prog_1_method_39_code
def yX6_copy : MethodName := ⟨RX6, "copy", "([I[I)V"⟩
def RX7 : String := "LampRacksModel"
def TX7 : u_T := fun k => match k with
  | 0 => ("LampRacksModel", "z", "[I", true)
  | 1 => ("LampRacksModel", "spare", "[I", true)
  | 2 => ("LampRacksModel", "past", "[I", true)
  | 3 => ("LampRacksModel", "states", "I", false)
  | 4 => ("LampRacksModel", "kept", "[I", true)
  | 5 => ("LampRacksModel", "isKept", "Z", false)
  | 6 => ("LampRacksModel", "text", "[I", true)
  | 7 => ("LampRacksModel", "length", "I", false)
  | 8 => ("LampRacksModel", "stopNumber", "I", false)
  | 9 => ("LampRacksModel", "stopError", "I", false)
  | 10 => ("LampRacksModel", "told", "[I", true)
  | 11 => ("LampRacksModel", "toldMany", "I", false)
  | _ => ("LampRacksModel", "spot", "I", false)
def tyX7 : Nat → FieldType := fun k => match k with
  | 0 => .array .int
  | 1 => .array .int
  | 2 => .array .int
  | 3 => .int
  | 4 => .array .int
  | 5 => .boolean
  | 6 => .array .int
  | 7 => .int
  | 8 => .int
  | 9 => .int
  | 10 => .array .int
  | 11 => .int
  | _ => .int
abbrev wsX70 : List Cond := u_ws RX7 TX7 13
theorem nmX7 : ∀ a, a < 13 → ∀ b, b < 13 → a ≠ b → (TX7 a).2.1 ≠ (TX7 b).2.1 := by decide +kernel
theorem tyX7_ok : ∀ k, k < 13 → parseFieldDescriptor (TX7 k).2.2.1 = some (tyX7 k) := by decide +kernel
abbrev cX7_init : ByteArray := prog_9_method_1_code
def yX7_init : MethodName := ⟨RX7, "<init>", "()V"⟩
abbrev cX7_in : ByteArray := prog_9_method_2_code
def yX7_in : MethodName := ⟨RX7, "in", "(III)Z"⟩
abbrev cX7_isRack : ByteArray := prog_9_method_3_code
def yX7_isRack : MethodName := ⟨RX7, "isRack", "(I)Z"⟩
abbrev cX7_isPlace : ByteArray := prog_9_method_4_code
def yX7_isPlace : MethodName := ⟨RX7, "isPlace", "(I)Z"⟩
abbrev cX7_isBatch : ByteArray := prog_9_method_5_code
def yX7_isBatch : MethodName := ⟨RX7, "isBatch", "(I)Z"⟩
abbrev cX7_isLamp : ByteArray := prog_9_method_6_code
def yX7_isLamp : MethodName := ⟨RX7, "isLamp", "(I)Z"⟩
abbrev cX7_of : ByteArray := prog_9_method_7_code
def yX7_of : MethodName := ⟨RX7, "of", "(II)I"⟩
abbrev cX7_lay : ByteArray := prog_9_method_8_code
def yX7_lay : MethodName := ⟨RX7, "lay", "(III)V"⟩
abbrev cX7_ofRack : ByteArray := prog_9_method_9_code
def yX7_ofRack : MethodName := ⟨RX7, "ofRack", "(II)I"⟩
abbrev cX7_isDead : ByteArray := prog_9_method_10_code
def yX7_isDead : MethodName := ⟨RX7, "isDead", "(I)Z"⟩
abbrev cX7_lampAt : ByteArray := prog_9_method_11_code
def yX7_lampAt : MethodName := ⟨RX7, "lampAt", "(II)I"⟩
abbrev cX7_copyState : ByteArray := prog_9_method_12_code
def yX7_copyState : MethodName := ⟨RX7, "copyState", "([II[II)V"⟩
abbrev cX7_recordRow : ByteArray := prog_9_method_13_code
def yX7_recordRow : MethodName := ⟨RX7, "recordRow", "([I)V"⟩
abbrev cX7_record : ByteArray := prog_9_method_14_code
def yX7_record : MethodName := ⟨RX7, "record", "()V"⟩
abbrev cX7_undo : ByteArray := prog_9_method_15_code
def yX7_undo : MethodName := ⟨RX7, "undo", "()I"⟩
abbrev cX7_keep : ByteArray := prog_9_method_16_code
def yX7_keep : MethodName := ⟨RX7, "keep", "()I"⟩
abbrev cX7_restore : ByteArray := prog_9_method_17_code
def yX7_restore : MethodName := ⟨RX7, "restore", "()I"⟩
abbrev cX7_setBatch : ByteArray := prog_9_method_18_code
def yX7_setBatch : MethodName := ⟨RX7, "setBatch", "(III)I"⟩
abbrev cX7_whyNotPut : ByteArray := prog_9_method_19_code
def yX7_whyNotPut : MethodName := ⟨RX7, "whyNotPut", "(III)I"⟩
abbrev cX7_putNow : ByteArray := prog_9_method_20_code
def yX7_putNow : MethodName := ⟨RX7, "putNow", "(III)I"⟩
abbrev cX7_put : ByteArray := prog_9_method_21_code
def yX7_put : MethodName := ⟨RX7, "put", "(III)I"⟩
abbrev cX7_moveTo : ByteArray := prog_9_method_22_code
def yX7_moveTo : MethodName := ⟨RX7, "moveTo", "(III)V"⟩
abbrev cX7_takeOut : ByteArray := prog_9_method_23_code
def yX7_takeOut : MethodName := ⟨RX7, "takeOut", "(II)I"⟩
abbrev cX7_swap : ByteArray := prog_9_method_24_code
def yX7_swap : MethodName := ⟨RX7, "swap", "(IIII)I"⟩
abbrev cX7_whyNotVolts : ByteArray := prog_9_method_25_code
def yX7_whyNotVolts : MethodName := ⟨RX7, "whyNotVolts", "(II)I"⟩
abbrev cX7_setVolts : ByteArray := prog_9_method_26_code
def yX7_setVolts : MethodName := ⟨RX7, "setVolts", "(II)I"⟩
abbrev cX7_stepsNow : ByteArray := prog_9_method_27_code
def yX7_stepsNow : MethodName := ⟨RX7, "stepsNow", "(III)V"⟩
abbrev cX7_setSteps : ByteArray := prog_9_method_28_code
def yX7_setSteps : MethodName := ⟨RX7, "setSteps", "(III)I"⟩
abbrev cX7_set : ByteArray := prog_9_method_29_code
def yX7_set : MethodName := ⟨RX7, "set", "(II)I"⟩
abbrev cX7_wearAt : ByteArray := prog_9_method_30_code
def yX7_wearAt : MethodName := ⟨RX7, "wearAt", "(IZ)I"⟩
abbrev cX7_isHot : ByteArray := prog_9_method_31_code
def yX7_isHot : MethodName := ⟨RX7, "isHot", "(I)Z"⟩
abbrev cX7_burns : ByteArray := prog_9_method_32_code
def yX7_burns : MethodName := ⟨RX7, "burns", "(I)Z"⟩
abbrev cX7_anHour : ByteArray := prog_9_method_33_code
def yX7_anHour : MethodName := ⟨RX7, "anHour", "()I"⟩
abbrev cX7_whyNotPass : ByteArray := prog_9_method_34_code
def yX7_whyNotPass : MethodName := ⟨RX7, "whyNotPass", "(I)I"⟩
abbrev cX7_passNow : ByteArray := prog_9_method_35_code
def yX7_passNow : MethodName := ⟨RX7, "passNow", "(I)I"⟩
abbrev cX7_pass : ByteArray := prog_9_method_36_code
def yX7_pass : MethodName := ⟨RX7, "pass", "(I)I"⟩
abbrev cX7_type : ByteArray := prog_9_method_37_code
def yX7_type : MethodName := ⟨RX7, "type", "(C)I"⟩
abbrev cX7_clearText : ByteArray := prog_9_method_38_code
def yX7_clearText : MethodName := ⟨RX7, "clearText", "()I"⟩
abbrev cX7_sees : ByteArray := prog_9_method_39_code
def yX7_sees : MethodName := ⟨RX7, "sees", "(II)Z"⟩
abbrev cX7_takes : ByteArray := prog_9_method_40_code
def yX7_takes : MethodName := ⟨RX7, "takes", "(I)Z"⟩
abbrev cX7_number : ByteArray := prog_9_method_41_code
def yX7_number : MethodName := ⟨RX7, "number", "(III)Z"⟩
abbrev cX7_readSteps : ByteArray := prog_9_method_42_code
def yX7_readSteps : MethodName := ⟨RX7, "readSteps", "()Z"⟩
abbrev cX7_readThing : ByteArray := prog_9_method_43_code
def yX7_readThing : MethodName := ⟨RX7, "readThing", "()Z"⟩
abbrev cX7_readText : ByteArray := prog_9_method_44_code
def yX7_readText : MethodName := ⟨RX7, "readText", "()Z"⟩
abbrev cX7_whyNot : ByteArray := prog_9_method_45_code
def yX7_whyNot : MethodName := ⟨RX7, "whyNot", "(I)I"⟩
abbrev cX7_doThing : ByteArray := prog_9_method_46_code
def yX7_doThing : MethodName := ⟨RX7, "doThing", "(I)V"⟩
abbrev cX7_perform : ByteArray := prog_9_method_47_code
def yX7_perform : MethodName := ⟨RX7, "perform", "()I"⟩
abbrev cX7_stopped : ByteArray := prog_9_method_48_code
def yX7_stopped : MethodName := ⟨RX7, "stopped", "(I)I"⟩
abbrev cX7_counts : ByteArray := prog_9_method_49_code
def yX7_counts : MethodName := ⟨RX7, "counts", "(I)I"⟩
abbrev cX7_lamp : ByteArray := prog_9_method_50_code
def yX7_lamp : MethodName := ⟨RX7, "lamp", "(II)I"⟩
abbrev cX7_lampsIn : ByteArray := prog_9_method_51_code
def yX7_lampsIn : MethodName := ⟨RX7, "lampsIn", "(IZ)I"⟩
abbrev cX7_rack : ByteArray := prog_9_method_52_code
def yX7_rack : MethodName := ⟨RX7, "rack", "(II)I"⟩
abbrev cX7_at : ByteArray := prog_9_method_53_code
def yX7_at : MethodName := ⟨RX7, "at", "(II)I"⟩
abbrev cX7_lampsOf : ByteArray := prog_9_method_54_code
def yX7_lampsOf : MethodName := ⟨RX7, "lampsOf", "(III)I"⟩
abbrev cX7_middleLife : ByteArray := prog_9_method_55_code
def yX7_middleLife : MethodName := ⟨RX7, "middleLife", "(I)I"⟩
abbrev cX7_early : ByteArray := prog_9_method_56_code
def yX7_early : MethodName := ⟨RX7, "early", "(I)I"⟩
abbrev cX7_batch : ByteArray := prog_9_method_57_code
def yX7_batch : MethodName := ⟨RX7, "batch", "(II)I"⟩
abbrev cX7_lasted : ByteArray := prog_9_method_58_code
def yX7_lasted : MethodName := ⟨RX7, "lasted", "(II)I"⟩
abbrev cX7_endsAhead : ByteArray := prog_9_method_59_code
def yX7_endsAhead : MethodName := ⟨RX7, "endsAhead", "(I)I"⟩
abbrev cX7_ended : ByteArray := prog_9_method_60_code
def yX7_ended : MethodName := ⟨RX7, "ended", "(I)I"⟩
abbrev cX7_lasts : ByteArray := prog_9_method_61_code
def yX7_lasts : MethodName := ⟨RX7, "lasts", "(II)I"⟩
abbrev cX7_reason : ByteArray := prog_9_method_62_code
def yX7_reason : MethodName := ⟨RX7, "reason", "(I)I"⟩
abbrev cX7_firstEndedAt : ByteArray := prog_9_method_63_code
def yX7_firstEndedAt : MethodName := ⟨RX7, "firstEndedAt", "(I)I"⟩
abbrev cX7_next : ByteArray := prog_9_method_64_code
def yX7_next : MethodName := ⟨RX7, "next", "(I)I"⟩
abbrev cX7_sum : ByteArray := prog_9_method_65_code
def yX7_sum : MethodName := ⟨RX7, "sum", "(I)I"⟩
abbrev cX7_burning : ByteArray := prog_9_method_66_code
def yX7_burning : MethodName := ⟨RX7, "burning", "()I"⟩
abbrev cX7_dead : ByteArray := prog_9_method_67_code
def yX7_dead : MethodName := ⟨RX7, "dead", "()I"⟩
abbrev cX7_count : ByteArray := prog_9_method_68_code
def yX7_count : MethodName := ⟨RX7, "count", "(I)I"⟩
def RJ9 : String := "java/lang/Math"
def TJ9 : u_T := fun k => match k with
  | _ => ("", "", "", false)
def tyJ9 : Nat → FieldType := fun k => match k with
  | _ => .int
abbrev wsJ90 : List Cond := u_ws RJ9 TJ9 0
theorem nmJ9 : ∀ a, a < 0 → ∀ b, b < 0 → a ≠ b → (TJ9 a).2.1 ≠ (TJ9 b).2.1 := by decide +kernel
theorem tyJ9_ok : ∀ k, k < 0 → parseFieldDescriptor (TJ9 k).2.2.1 = some (tyJ9 k) := by decide +kernel
abbrev cJ9_max_7cf53 : ByteArray := prog_10_method_65_code
def yJ9_max_7cf53 : MethodName := ⟨RJ9, "max", "(II)I"⟩
abbrev cJ9_min_7cf53 : ByteArray := prog_10_method_69_code
def yJ9_min_7cf53 : MethodName := ⟨RJ9, "min", "(II)I"⟩
def RJ10 : String := "java/lang/System"
def TJ10 : u_T := fun k => match k with
  | _ => ("", "", "", false)
def tyJ10 : Nat → FieldType := fun k => match k with
  | _ => .int
abbrev wsJ100 : List Cond := u_ws RJ10 TJ10 0
theorem nmJ10 : ∀ a, a < 0 → ∀ b, b < 0 → a ≠ b → (TJ10 a).2.1 ≠ (TJ10 b).2.1 := by decide +kernel
theorem tyJ10_ok : ∀ k, k < 0 → parseFieldDescriptor (TJ10 k).2.2.1 = some (tyJ10 k) := by decide +kernel
def RJ7 : String := "java/util/Arrays"
def TJ7 : u_T := fun k => match k with
  | _ => ("", "", "", false)
def tyJ7 : Nat → FieldType := fun k => match k with
  | _ => .int
abbrev wsJ70 : List Cond := u_ws RJ7 TJ7 0
theorem nmJ7 : ∀ a, a < 0 → ∀ b, b < 0 → a ≠ b → (TJ7 a).2.1 ≠ (TJ7 b).2.1 := by decide +kernel
theorem tyJ7_ok : ∀ k, k < 0 → parseFieldDescriptor (TJ7 k).2.2.1 = some (tyJ7 k) := by decide +kernel
abbrev cJ7_fill_53178 : ByteArray := prog_12_method_103_code
def yJ7_fill_53178 : MethodName := ⟨RJ7, "fill", "([II)V"⟩
def RL : String := "LampRacksLaw"
abbrev cL_law : ByteArray := code
def yL_law : MethodName := ⟨RL, "law", "([I)Z"⟩
def wsX0_init : List Cond := .code yX0_init cX0_init 2 none :: ([.methodLink RX0 3 objectInit, .instanceMethod objectInit, .code objectInit ⟨#[0xb1]⟩ 1 none, .arrayClass .int, .fieldLink RX0 9 "LampRacks$Batches" "life" "[I", .fieldLink RX0 15 "LampRacks$Batches" "spread" "[I"] ++ wsX00)
def wsX6_copy : List Cond := .code yX6_copy cX6_copy 2 none :: ([.methodLink RX6 236 Lib.Math.min.name, .static Lib.Math.min.name, .initialized "java/lang/Math", .code Lib.Math.min.name Lib.Math.min.code 2 (some .int), .methodLink RX6 241 arraycopyName, .native arraycopyName, .static arraycopyName, .initialized "java/lang/System"])
def wsX0_copyFrom : List Cond := .code yX0_copyFrom cX0_copyFrom 2 none :: ([.fieldLink RX0 9 "LampRacks$Batches" "life" "[I", .fieldLink RX0 15 "LampRacks$Batches" "spread" "[I", .static yX6_copy, .initialized RX6, .code yX6_copy cX6_copy 2 none, .methodLink RX6 236 Lib.Math.min.name, .static Lib.Math.min.name, .initialized "java/lang/Math", .code Lib.Math.min.name Lib.Math.min.code 2 (some .int), .methodLink RX6 241 arraycopyName, .native arraycopyName, .static arraycopyName, .initialized "java/lang/System"] ++ wsX00)
def wsX6_shareOf : List Cond := .code yX6_shareOf cX6_shareOf 1 (some .int) :: ([])
def wsX6_isWeak : List Cond := .code yX6_isWeak cX6_isWeak 1 (some .boolean) :: ([.methodLink RX6 233 yX6_shareOf, .static yX6_shareOf, .initialized RX6, .code yX6_shareOf cX6_shareOf 1 (some .int)])
def wsX0_hoursOfLamp : List Cond := .code yX0_hoursOfLamp cX0_hoursOfLamp 5 (some .int) :: ([.fieldLink RX0 9 "LampRacks$Batches" "life" "[I", .fieldLink RX0 15 "LampRacks$Batches" "spread" "[I", .methodLink RX0 30 Lib.Math.max.name, .static Lib.Math.max.name, .initialized "java/lang/Math", .code Lib.Math.max.name Lib.Math.max.code 2 (some .int), .static yX6_shareOf, .initialized RX6, .code yX6_shareOf cX6_shareOf 1 (some .int), .static yX6_isWeak, .code yX6_isWeak cX6_isWeak 1 (some .boolean), .methodLink RX6 233 yX6_shareOf] ++ wsX00)
def wsX2_init : List Cond := .code yX2_init cX2_init 1 none :: ([.methodLink RX2 3 objectInit, .instanceMethod objectInit, .code objectInit ⟨#[0xb1]⟩ 1 none, .fieldLink RX2 9 "LampRacks$Lamps" "size" "I", .arrayClass .int, .fieldLink RX2 15 "LampRacks$Lamps" "batch" "[I", .fieldLink RX2 19 "LampRacks$Lamps" "spot" "[I", .fieldLink RX2 22 "LampRacks$Lamps" "canLast" "[I", .fieldLink RX2 25 "LampRacks$Lamps" "wear" "[I", .fieldLink RX2 28 "LampRacks$Lamps" "burned" "[I", .fieldLink RX2 31 "LampRacks$Lamps" "end" "[I"] ++ wsX20)
def wsJ7_fill_53178 : List Cond := .code yJ7_fill_53178 cJ7_fill_53178 4 none :: ([])
def wsX3_init : List Cond := .code yX3_init cX3_init 1 none :: ([.methodLink RX3 3 objectInit, .instanceMethod objectInit, .code objectInit ⟨#[0xb1]⟩ 1 none, .arrayClass .int, .fieldLink RX3 9 "LampRacks$Racks" "lampAt" "[I", .fieldLink RX3 15 "LampRacks$Racks" "volts" "[I", .fieldLink RX3 18 "LampRacks$Racks" "stepHours" "[I", .fieldLink RX3 21 "LampRacks$Racks" "stepVolts" "[I", .fieldLink RX3 24 "LampRacks$Racks" "hoursOfStep" "[I", .methodLink RX3 27 yJ7_fill_53178, .static yJ7_fill_53178, .initialized RJ7, .code yJ7_fill_53178 cJ7_fill_53178 4 none] ++ wsX30)
def wsX4_init_r1 : List Cond := [Cond.methodLink RX4 3 objectInit, Cond.instanceMethod objectInit, Cond.code objectInit ⟨#[0xb1]⟩ 1 none, Cond.fieldLink RX4 9 "LampRacks$State" "hour" "I", Cond.fieldLink RX4 15 "LampRacks$State" "wantedVolts" "I", Cond.fieldLink RX4 18 "LampRacks$State" "doublingVolts" "I", Cond.classLink RX4 21 RX0, Cond.instantiable RX0 2, Cond.initialized RX0, Cond.fieldLink RX4 24 "LampRacks$State" "batches" "LLampRacks$Batches;", Cond.classLink RX4 28 RX2, Cond.instantiable RX2 7, Cond.initialized RX2, Cond.fieldLink RX4 31 "LampRacks$State" "lamps" "LLampRacks$Lamps;", Cond.classLink RX4 35 RX3, Cond.instantiable RX3 5, Cond.initialized RX3, Cond.fieldLink RX4 38 "LampRacks$State" "racks" "LLampRacks$Racks;", Cond.methodLink RX4 23 yX0_init, Cond.instanceMethod yX0_init, Cond.code yX0_init cX0_init 2 none, Cond.methodLink RX0 3 objectInit, Cond.arrayClass .int, Cond.fieldLink RX0 9 "LampRacks$Batches" "life" "[I"]
def wsX4_init_r2 : List Cond := [Cond.fieldLink RX0 15 "LampRacks$Batches" "spread" "[I", Cond.instanceMethod yX2_init, Cond.code yX2_init cX2_init 1 none, Cond.methodLink RX2 3 objectInit, Cond.fieldLink RX2 9 "LampRacks$Lamps" "size" "I", Cond.fieldLink RX2 15 "LampRacks$Lamps" "batch" "[I", Cond.fieldLink RX2 19 "LampRacks$Lamps" "spot" "[I", Cond.fieldLink RX2 22 "LampRacks$Lamps" "canLast" "[I", Cond.fieldLink RX2 25 "LampRacks$Lamps" "wear" "[I", Cond.fieldLink RX2 28 "LampRacks$Lamps" "burned" "[I", Cond.fieldLink RX2 31 "LampRacks$Lamps" "end" "[I", Cond.methodLink RX4 37 yX3_init, Cond.instanceMethod yX3_init, Cond.code yX3_init cX3_init 1 none, Cond.methodLink RX3 3 objectInit, Cond.fieldLink RX3 9 "LampRacks$Racks" "lampAt" "[I", Cond.fieldLink RX3 15 "LampRacks$Racks" "volts" "[I", Cond.fieldLink RX3 18 "LampRacks$Racks" "stepHours" "[I", Cond.fieldLink RX3 21 "LampRacks$Racks" "stepVolts" "[I", Cond.fieldLink RX3 24 "LampRacks$Racks" "hoursOfStep" "[I", Cond.methodLink RX3 27 yJ7_fill_53178, Cond.static yJ7_fill_53178, Cond.initialized RJ7, Cond.code yJ7_fill_53178 cJ7_fill_53178 4 none]
def wsX4_init : List Cond := .code yX4_init cX4_init 1 none :: ((wsX4_init_r1 ++ wsX4_init_r2) ++ wsX40 ++ wsX00 ++ wsX20 ++ wsX30)
def wsX1_init_r1 : List Cond := [Cond.methodLink RX1 3 objectInit, Cond.instanceMethod objectInit, Cond.code objectInit ⟨#[0xb1]⟩ 1 none, Cond.fieldLink RX1 9 "LampRacks$History" "size" "I", Cond.classLink RX1 15 RX4, Cond.fieldLink RX1 17 "LampRacks$History" "states" "[LLampRacks$State;", Cond.instantiable RX4 6, Cond.initialized RX4, Cond.instanceMethod yX4_init, Cond.code yX4_init cX4_init 1 none, Cond.methodLink RX4 3 objectInit, Cond.fieldLink RX4 9 "LampRacks$State" "hour" "I", Cond.fieldLink RX4 15 "LampRacks$State" "wantedVolts" "I", Cond.fieldLink RX4 18 "LampRacks$State" "doublingVolts" "I", Cond.classLink RX4 21 RX0, Cond.instantiable RX0 2, Cond.initialized RX0, Cond.fieldLink RX4 24 "LampRacks$State" "batches" "LLampRacks$Batches;", Cond.classLink RX4 28 RX2, Cond.instantiable RX2 7, Cond.initialized RX2, Cond.fieldLink RX4 31 "LampRacks$State" "lamps" "LLampRacks$Lamps;", Cond.classLink RX4 35 RX3, Cond.instantiable RX3 5]
def wsX1_init_r2 : List Cond := [Cond.initialized RX3, Cond.fieldLink RX4 38 "LampRacks$State" "racks" "LLampRacks$Racks;", Cond.methodLink RX4 23 yX0_init, Cond.instanceMethod yX0_init, Cond.code yX0_init cX0_init 2 none, Cond.methodLink RX0 3 objectInit, Cond.arrayClass .int, Cond.fieldLink RX0 9 "LampRacks$Batches" "life" "[I", Cond.fieldLink RX0 15 "LampRacks$Batches" "spread" "[I", Cond.instanceMethod yX2_init, Cond.code yX2_init cX2_init 1 none, Cond.methodLink RX2 3 objectInit, Cond.fieldLink RX2 9 "LampRacks$Lamps" "size" "I", Cond.fieldLink RX2 15 "LampRacks$Lamps" "batch" "[I", Cond.fieldLink RX2 19 "LampRacks$Lamps" "spot" "[I", Cond.fieldLink RX2 22 "LampRacks$Lamps" "canLast" "[I", Cond.fieldLink RX2 25 "LampRacks$Lamps" "wear" "[I", Cond.fieldLink RX2 28 "LampRacks$Lamps" "burned" "[I", Cond.fieldLink RX2 31 "LampRacks$Lamps" "end" "[I", Cond.methodLink RX4 37 yX3_init, Cond.instanceMethod yX3_init, Cond.code yX3_init cX3_init 1 none, Cond.methodLink RX3 3 objectInit, Cond.fieldLink RX3 9 "LampRacks$Racks" "lampAt" "[I"]
def wsX1_init_r3 : List Cond := [Cond.fieldLink RX3 15 "LampRacks$Racks" "volts" "[I", Cond.fieldLink RX3 18 "LampRacks$Racks" "stepHours" "[I", Cond.fieldLink RX3 21 "LampRacks$Racks" "stepVolts" "[I", Cond.fieldLink RX3 24 "LampRacks$Racks" "hoursOfStep" "[I", Cond.methodLink RX3 27 yJ7_fill_53178, Cond.static yJ7_fill_53178, Cond.initialized RJ7, Cond.code yJ7_fill_53178 cJ7_fill_53178 4 none]
def wsX1_init : List Cond := .code yX1_init cX1_init 2 none :: ((wsX1_init_r1 ++ (wsX1_init_r2 ++ wsX1_init_r3)) ++ wsX10 ++ wsX40 ++ wsX00 ++ wsX20 ++ wsX30)
def wsX1_dropOldest : List Cond := .code yX1_dropOldest cX1_dropOldest 3 none :: ([.fieldLink RX1 17 "LampRacks$History" "states" "[LLampRacks$State;", .fieldLink RX1 9 "LampRacks$History" "size" "I"] ++ wsX10)
def wsX2_copyFrom : List Cond := .code yX2_copyFrom cX2_copyFrom 2 none :: ([.fieldLink RX2 9 "LampRacks$Lamps" "size" "I", .fieldLink RX2 15 "LampRacks$Lamps" "batch" "[I", .fieldLink RX2 19 "LampRacks$Lamps" "spot" "[I", .fieldLink RX2 22 "LampRacks$Lamps" "canLast" "[I", .fieldLink RX2 25 "LampRacks$Lamps" "wear" "[I", .fieldLink RX2 28 "LampRacks$Lamps" "burned" "[I", .fieldLink RX2 31 "LampRacks$Lamps" "end" "[I", .static yX6_copy, .initialized RX6, .code yX6_copy cX6_copy 2 none, .methodLink RX6 236 Lib.Math.min.name, .static Lib.Math.min.name, .initialized "java/lang/Math", .code Lib.Math.min.name Lib.Math.min.code 2 (some .int), .methodLink RX6 241 arraycopyName, .native arraycopyName, .static arraycopyName, .initialized "java/lang/System"] ++ wsX20)
def wsX3_copyFrom : List Cond := .code yX3_copyFrom cX3_copyFrom 2 none :: ([.fieldLink RX3 9 "LampRacks$Racks" "lampAt" "[I", .fieldLink RX3 15 "LampRacks$Racks" "volts" "[I", .fieldLink RX3 18 "LampRacks$Racks" "stepHours" "[I", .fieldLink RX3 21 "LampRacks$Racks" "stepVolts" "[I", .fieldLink RX3 24 "LampRacks$Racks" "hoursOfStep" "[I", .static yX6_copy, .initialized RX6, .code yX6_copy cX6_copy 2 none, .methodLink RX6 236 Lib.Math.min.name, .static Lib.Math.min.name, .initialized "java/lang/Math", .code Lib.Math.min.name Lib.Math.min.code 2 (some .int), .methodLink RX6 241 arraycopyName, .native arraycopyName, .static arraycopyName, .initialized "java/lang/System"] ++ wsX30)
def wsX4_copyFrom_r1 : List Cond := [Cond.fieldLink RX4 9 "LampRacks$State" "hour" "I", Cond.fieldLink RX4 15 "LampRacks$State" "wantedVolts" "I", Cond.fieldLink RX4 18 "LampRacks$State" "doublingVolts" "I", Cond.fieldLink RX4 24 "LampRacks$State" "batches" "LLampRacks$Batches;", Cond.fieldLink RX4 31 "LampRacks$State" "lamps" "LLampRacks$Lamps;", Cond.fieldLink RX4 38 "LampRacks$State" "racks" "LLampRacks$Racks;", Cond.methodLink RX4 42 yX0_copyFrom, Cond.instanceMethod yX0_copyFrom, Cond.selects RX0 yX0_copyFrom yX0_copyFrom, Cond.initialized RX0, Cond.code yX0_copyFrom cX0_copyFrom 2 none, Cond.fieldLink RX0 9 "LampRacks$Batches" "life" "[I", Cond.fieldLink RX0 15 "LampRacks$Batches" "spread" "[I", Cond.static yX6_copy, Cond.initialized RX6, Cond.code yX6_copy cX6_copy 2 none, Cond.methodLink RX6 236 Lib.Math.min.name, Cond.static Lib.Math.min.name, Cond.initialized "java/lang/Math", Cond.code Lib.Math.min.name Lib.Math.min.code 2 (some .int), Cond.methodLink RX6 241 arraycopyName, Cond.native arraycopyName, Cond.static arraycopyName, Cond.initialized "java/lang/System"]
def wsX4_copyFrom_r2 : List Cond := [Cond.methodLink RX4 46 yX2_copyFrom, Cond.instanceMethod yX2_copyFrom, Cond.selects RX2 yX2_copyFrom yX2_copyFrom, Cond.initialized RX2, Cond.code yX2_copyFrom cX2_copyFrom 2 none, Cond.fieldLink RX2 9 "LampRacks$Lamps" "size" "I", Cond.fieldLink RX2 15 "LampRacks$Lamps" "batch" "[I", Cond.fieldLink RX2 19 "LampRacks$Lamps" "spot" "[I", Cond.fieldLink RX2 22 "LampRacks$Lamps" "canLast" "[I", Cond.fieldLink RX2 25 "LampRacks$Lamps" "wear" "[I", Cond.fieldLink RX2 28 "LampRacks$Lamps" "burned" "[I", Cond.fieldLink RX2 31 "LampRacks$Lamps" "end" "[I", Cond.methodLink RX4 49 yX3_copyFrom, Cond.instanceMethod yX3_copyFrom, Cond.selects RX3 yX3_copyFrom yX3_copyFrom, Cond.initialized RX3, Cond.code yX3_copyFrom cX3_copyFrom 2 none, Cond.fieldLink RX3 9 "LampRacks$Racks" "lampAt" "[I", Cond.fieldLink RX3 15 "LampRacks$Racks" "volts" "[I", Cond.fieldLink RX3 18 "LampRacks$Racks" "stepHours" "[I", Cond.fieldLink RX3 21 "LampRacks$Racks" "stepVolts" "[I", Cond.fieldLink RX3 24 "LampRacks$Racks" "hoursOfStep" "[I"]
def wsX4_copyFrom : List Cond := .code yX4_copyFrom cX4_copyFrom 2 none :: ((wsX4_copyFrom_r1 ++ wsX4_copyFrom_r2) ++ wsX40 ++ wsX00 ++ wsX20 ++ wsX30)
def wsX1_append_r1 : List Cond := [Cond.fieldLink RX1 9 "LampRacks$History" "size" "I", Cond.fieldLink RX1 17 "LampRacks$History" "states" "[LLampRacks$State;", Cond.methodLink RX1 22 yX1_dropOldest, Cond.instanceMethod yX1_dropOldest, Cond.selects RX1 yX1_dropOldest yX1_dropOldest, Cond.initialized RX1, Cond.code yX1_dropOldest cX1_dropOldest 3 none, Cond.methodLink RX1 25 yX4_copyFrom, Cond.instanceMethod yX4_copyFrom, Cond.selects RX4 yX4_copyFrom yX4_copyFrom, Cond.initialized RX4, Cond.code yX4_copyFrom cX4_copyFrom 2 none, Cond.fieldLink RX4 9 "LampRacks$State" "hour" "I", Cond.fieldLink RX4 15 "LampRacks$State" "wantedVolts" "I", Cond.fieldLink RX4 18 "LampRacks$State" "doublingVolts" "I", Cond.fieldLink RX4 24 "LampRacks$State" "batches" "LLampRacks$Batches;", Cond.fieldLink RX4 31 "LampRacks$State" "lamps" "LLampRacks$Lamps;", Cond.fieldLink RX4 38 "LampRacks$State" "racks" "LLampRacks$Racks;", Cond.methodLink RX4 42 yX0_copyFrom, Cond.instanceMethod yX0_copyFrom, Cond.selects RX0 yX0_copyFrom yX0_copyFrom, Cond.initialized RX0, Cond.code yX0_copyFrom cX0_copyFrom 2 none, Cond.fieldLink RX0 9 "LampRacks$Batches" "life" "[I"]
def wsX1_append_r2 : List Cond := [Cond.fieldLink RX0 15 "LampRacks$Batches" "spread" "[I", Cond.static yX6_copy, Cond.initialized RX6, Cond.code yX6_copy cX6_copy 2 none, Cond.methodLink RX6 236 Lib.Math.min.name, Cond.static Lib.Math.min.name, Cond.initialized "java/lang/Math", Cond.code Lib.Math.min.name Lib.Math.min.code 2 (some .int), Cond.methodLink RX6 241 arraycopyName, Cond.native arraycopyName, Cond.static arraycopyName, Cond.initialized "java/lang/System", Cond.methodLink RX4 46 yX2_copyFrom, Cond.instanceMethod yX2_copyFrom, Cond.selects RX2 yX2_copyFrom yX2_copyFrom, Cond.initialized RX2, Cond.code yX2_copyFrom cX2_copyFrom 2 none, Cond.fieldLink RX2 9 "LampRacks$Lamps" "size" "I", Cond.fieldLink RX2 15 "LampRacks$Lamps" "batch" "[I", Cond.fieldLink RX2 19 "LampRacks$Lamps" "spot" "[I", Cond.fieldLink RX2 22 "LampRacks$Lamps" "canLast" "[I", Cond.fieldLink RX2 25 "LampRacks$Lamps" "wear" "[I", Cond.fieldLink RX2 28 "LampRacks$Lamps" "burned" "[I", Cond.fieldLink RX2 31 "LampRacks$Lamps" "end" "[I"]
def wsX1_append_r3 : List Cond := [Cond.methodLink RX4 49 yX3_copyFrom, Cond.instanceMethod yX3_copyFrom, Cond.selects RX3 yX3_copyFrom yX3_copyFrom, Cond.initialized RX3, Cond.code yX3_copyFrom cX3_copyFrom 2 none, Cond.fieldLink RX3 9 "LampRacks$Racks" "lampAt" "[I", Cond.fieldLink RX3 15 "LampRacks$Racks" "volts" "[I", Cond.fieldLink RX3 18 "LampRacks$Racks" "stepHours" "[I", Cond.fieldLink RX3 21 "LampRacks$Racks" "stepVolts" "[I", Cond.fieldLink RX3 24 "LampRacks$Racks" "hoursOfStep" "[I"]
def wsX1_append : List Cond := .code yX1_append cX1_append 2 none :: ((wsX1_append_r1 ++ (wsX1_append_r2 ++ wsX1_append_r3)) ++ wsX10 ++ wsX40 ++ wsX00 ++ wsX20 ++ wsX30)
def wsX1_moveLatestTo_r1 : List Cond := [Cond.fieldLink RX1 9 "LampRacks$History" "size" "I", Cond.fieldLink RX1 17 "LampRacks$History" "states" "[LLampRacks$State;", Cond.methodLink RX1 25 yX4_copyFrom, Cond.instanceMethod yX4_copyFrom, Cond.selects RX4 yX4_copyFrom yX4_copyFrom, Cond.initialized RX4, Cond.code yX4_copyFrom cX4_copyFrom 2 none, Cond.fieldLink RX4 9 "LampRacks$State" "hour" "I", Cond.fieldLink RX4 15 "LampRacks$State" "wantedVolts" "I", Cond.fieldLink RX4 18 "LampRacks$State" "doublingVolts" "I", Cond.fieldLink RX4 24 "LampRacks$State" "batches" "LLampRacks$Batches;", Cond.fieldLink RX4 31 "LampRacks$State" "lamps" "LLampRacks$Lamps;", Cond.fieldLink RX4 38 "LampRacks$State" "racks" "LLampRacks$Racks;", Cond.methodLink RX4 42 yX0_copyFrom, Cond.instanceMethod yX0_copyFrom, Cond.selects RX0 yX0_copyFrom yX0_copyFrom, Cond.initialized RX0, Cond.code yX0_copyFrom cX0_copyFrom 2 none, Cond.fieldLink RX0 9 "LampRacks$Batches" "life" "[I", Cond.fieldLink RX0 15 "LampRacks$Batches" "spread" "[I", Cond.static yX6_copy, Cond.initialized RX6, Cond.code yX6_copy cX6_copy 2 none, Cond.methodLink RX6 236 Lib.Math.min.name]
def wsX1_moveLatestTo_r2 : List Cond := [Cond.static Lib.Math.min.name, Cond.initialized "java/lang/Math", Cond.code Lib.Math.min.name Lib.Math.min.code 2 (some .int), Cond.methodLink RX6 241 arraycopyName, Cond.native arraycopyName, Cond.static arraycopyName, Cond.initialized "java/lang/System", Cond.methodLink RX4 46 yX2_copyFrom, Cond.instanceMethod yX2_copyFrom, Cond.selects RX2 yX2_copyFrom yX2_copyFrom, Cond.initialized RX2, Cond.code yX2_copyFrom cX2_copyFrom 2 none, Cond.fieldLink RX2 9 "LampRacks$Lamps" "size" "I", Cond.fieldLink RX2 15 "LampRacks$Lamps" "batch" "[I", Cond.fieldLink RX2 19 "LampRacks$Lamps" "spot" "[I", Cond.fieldLink RX2 22 "LampRacks$Lamps" "canLast" "[I", Cond.fieldLink RX2 25 "LampRacks$Lamps" "wear" "[I", Cond.fieldLink RX2 28 "LampRacks$Lamps" "burned" "[I", Cond.fieldLink RX2 31 "LampRacks$Lamps" "end" "[I", Cond.methodLink RX4 49 yX3_copyFrom, Cond.instanceMethod yX3_copyFrom, Cond.selects RX3 yX3_copyFrom yX3_copyFrom, Cond.initialized RX3, Cond.code yX3_copyFrom cX3_copyFrom 2 none]
def wsX1_moveLatestTo_r3 : List Cond := [Cond.fieldLink RX3 9 "LampRacks$Racks" "lampAt" "[I", Cond.fieldLink RX3 15 "LampRacks$Racks" "volts" "[I", Cond.fieldLink RX3 18 "LampRacks$Racks" "stepHours" "[I", Cond.fieldLink RX3 21 "LampRacks$Racks" "stepVolts" "[I", Cond.fieldLink RX3 24 "LampRacks$Racks" "hoursOfStep" "[I"]
def wsX1_moveLatestTo : List Cond := .code yX1_moveLatestTo cX1_moveLatestTo 2 none :: ((wsX1_moveLatestTo_r1 ++ (wsX1_moveLatestTo_r2 ++ wsX1_moveLatestTo_r3)) ++ wsX10 ++ wsX40 ++ wsX00 ++ wsX20 ++ wsX30)
def wsX6_isWithin : List Cond := .code yX6_isWithin cX6_isWithin 3 (some .boolean) :: ([])
def wsX2_has : List Cond := .code yX2_has cX2_has 2 (some .boolean) :: ([.fieldLink RX2 9 "LampRacks$Lamps" "size" "I", .static yX6_isWithin, .initialized RX6, .code yX6_isWithin cX6_isWithin 3 (some .boolean)] ++ wsX20)
def wsX2_isFull : List Cond := .code yX2_isFull cX2_isFull 1 (some .boolean) :: ([.fieldLink RX2 9 "LampRacks$Lamps" "size" "I"] ++ wsX20)
def wsX2_append : List Cond := .code yX2_append cX2_append 5 (some .int) :: ([.fieldLink RX2 9 "LampRacks$Lamps" "size" "I", .fieldLink RX2 15 "LampRacks$Lamps" "batch" "[I", .fieldLink RX2 19 "LampRacks$Lamps" "spot" "[I", .fieldLink RX2 22 "LampRacks$Lamps" "canLast" "[I", .fieldLink RX2 25 "LampRacks$Lamps" "wear" "[I", .fieldLink RX2 28 "LampRacks$Lamps" "burned" "[I", .fieldLink RX2 31 "LampRacks$Lamps" "end" "[I"] ++ wsX20)
def wsX2_isDead : List Cond := .code yX2_isDead cX2_isDead 2 (some .boolean) :: ([.fieldLink RX2 31 "LampRacks$Lamps" "end" "[I"] ++ wsX20)
def wsX2_isDeadOf : List Cond := .code yX2_isDeadOf cX2_isDeadOf 3 (some .boolean) :: ([.fieldLink RX2 15 "LampRacks$Lamps" "batch" "[I", .methodLink RX2 42 yX2_isDead, .instanceMethod yX2_isDead, .selects RX2 yX2_isDead yX2_isDead, .initialized RX2, .code yX2_isDead cX2_isDead 2 (some .boolean), .fieldLink RX2 31 "LampRacks$Lamps" "end" "[I"] ++ wsX20)
def wsX2_hoursCounted : List Cond := .code yX2_hoursCounted cX2_hoursCounted 2 (some .int) :: ([.fieldLink RX2 25 "LampRacks$Lamps" "wear" "[I"] ++ wsX20)
def wsX2_hoursLeft : List Cond := .code yX2_hoursLeft cX2_hoursLeft 5 (some .int) :: ([.methodLink RX2 46 Lib.Math.max.name, .static Lib.Math.max.name, .initialized "java/lang/Math", .code Lib.Math.max.name Lib.Math.max.code 2 (some .int), .fieldLink RX2 22 "LampRacks$Lamps" "canLast" "[I", .fieldLink RX2 25 "LampRacks$Lamps" "wear" "[I"] ++ wsX20)
def wsX2_burn : List Cond := .code yX2_burn cX2_burn 4 none :: ([.fieldLink RX2 28 "LampRacks$Lamps" "burned" "[I", .fieldLink RX2 25 "LampRacks$Lamps" "wear" "[I"] ++ wsX20)
def wsX6_oneIf : List Cond := .code yX6_oneIf cX6_oneIf 1 (some .int) :: ([])
def wsX2_countOf : List Cond := .code yX2_countOf cX2_countOf 4 (some .int) :: ([.fieldLink RX2 9 "LampRacks$Lamps" "size" "I", .fieldLink RX2 15 "LampRacks$Lamps" "batch" "[I", .static yX6_oneIf, .initialized RX6, .code yX6_oneIf cX6_oneIf 1 (some .int)] ++ wsX20)
def wsX2_countDeadOf : List Cond := .code yX2_countDeadOf cX2_countDeadOf 4 (some .int) :: ([.fieldLink RX2 9 "LampRacks$Lamps" "size" "I", .methodLink RX2 56 yX2_isDeadOf, .instanceMethod yX2_isDeadOf, .selects RX2 yX2_isDeadOf yX2_isDeadOf, .initialized RX2, .code yX2_isDeadOf cX2_isDeadOf 3 (some .boolean), .fieldLink RX2 15 "LampRacks$Lamps" "batch" "[I", .methodLink RX2 42 yX2_isDead, .instanceMethod yX2_isDead, .selects RX2 yX2_isDead yX2_isDead, .code yX2_isDead cX2_isDead 2 (some .boolean), .fieldLink RX2 31 "LampRacks$Lamps" "end" "[I", .static yX6_oneIf, .initialized RX6, .code yX6_oneIf cX6_oneIf 1 (some .int)] ++ wsX20)
def wsX2_countDeadBelow : List Cond := .code yX2_countDeadBelow cX2_countDeadBelow 5 (some .int) :: ([.fieldLink RX2 9 "LampRacks$Lamps" "size" "I", .methodLink RX2 56 yX2_isDeadOf, .instanceMethod yX2_isDeadOf, .selects RX2 yX2_isDeadOf yX2_isDeadOf, .initialized RX2, .code yX2_isDeadOf cX2_isDeadOf 3 (some .boolean), .fieldLink RX2 15 "LampRacks$Lamps" "batch" "[I", .methodLink RX2 42 yX2_isDead, .instanceMethod yX2_isDead, .selects RX2 yX2_isDead yX2_isDead, .code yX2_isDead cX2_isDead 2 (some .boolean), .fieldLink RX2 31 "LampRacks$Lamps" "end" "[I", .methodLink RX2 60 yX2_hoursCounted, .instanceMethod yX2_hoursCounted, .selects RX2 yX2_hoursCounted yX2_hoursCounted, .code yX2_hoursCounted cX2_hoursCounted 2 (some .int), .fieldLink RX2 25 "LampRacks$Lamps" "wear" "[I", .static yX6_oneIf, .initialized RX6, .code yX6_oneIf cX6_oneIf 1 (some .int)] ++ wsX20)
def wsX2_countThatLasted : List Cond := .code yX2_countThatLasted cX2_countThatLasted 5 (some .int) :: ([.fieldLink RX2 9 "LampRacks$Lamps" "size" "I", .fieldLink RX2 15 "LampRacks$Lamps" "batch" "[I", .methodLink RX2 60 yX2_hoursCounted, .instanceMethod yX2_hoursCounted, .selects RX2 yX2_hoursCounted yX2_hoursCounted, .initialized RX2, .code yX2_hoursCounted cX2_hoursCounted 2 (some .int), .fieldLink RX2 25 "LampRacks$Lamps" "wear" "[I", .static yX6_oneIf, .initialized RX6, .code yX6_oneIf cX6_oneIf 1 (some .int)] ++ wsX20)
def wsX2_countDead : List Cond := .code yX2_countDead cX2_countDead 3 (some .int) :: ([.fieldLink RX2 9 "LampRacks$Lamps" "size" "I", .methodLink RX2 42 yX2_isDead, .instanceMethod yX2_isDead, .selects RX2 yX2_isDead yX2_isDead, .initialized RX2, .code yX2_isDead cX2_isDead 2 (some .boolean), .fieldLink RX2 31 "LampRacks$Lamps" "end" "[I", .static yX6_oneIf, .initialized RX6, .code yX6_oneIf cX6_oneIf 1 (some .int)] ++ wsX20)
def wsX2_countInRacks : List Cond := .code yX2_countInRacks cX2_countInRacks 3 (some .int) :: ([.fieldLink RX2 9 "LampRacks$Lamps" "size" "I", .fieldLink RX2 19 "LampRacks$Lamps" "spot" "[I", .static yX6_oneIf, .initialized RX6, .code yX6_oneIf cX6_oneIf 1 (some .int)] ++ wsX20)
def wsX2_countWeak : List Cond := .code yX2_countWeak cX2_countWeak 3 (some .int) :: ([.fieldLink RX2 9 "LampRacks$Lamps" "size" "I", .static yX6_isWeak, .initialized RX6, .code yX6_isWeak cX6_isWeak 1 (some .boolean), .methodLink RX6 233 yX6_shareOf, .static yX6_shareOf, .code yX6_shareOf cX6_shareOf 1 (some .int), .static yX6_oneIf, .code yX6_oneIf cX6_oneIf 1 (some .int)] ++ wsX20)
def wsX2_sumOf : List Cond := .code yX2_sumOf cX2_sumOf 4 (some .int) :: ([.fieldLink RX2 9 "LampRacks$Lamps" "size" "I", .methodLink RX2 67 Lib.Math.min.name, .static Lib.Math.min.name, .initialized "java/lang/Math", .code Lib.Math.min.name Lib.Math.min.code 2 (some .int)] ++ wsX20)
def wsX2_countEndedBefore : List Cond := .code yX2_countEndedBefore cX2_countEndedBefore 5 (some .int) :: ([.fieldLink RX2 9 "LampRacks$Lamps" "size" "I", .fieldLink RX2 31 "LampRacks$Lamps" "end" "[I", .methodLink RX2 42 yX2_isDead, .instanceMethod yX2_isDead, .selects RX2 yX2_isDead yX2_isDead, .initialized RX2, .code yX2_isDead cX2_isDead 2 (some .boolean), .static yX6_oneIf, .initialized RX6, .code yX6_oneIf cX6_oneIf 1 (some .int)] ++ wsX20)
def wsX2_findEnded : List Cond := .code yX2_findEnded cX2_findEnded 3 (some .int) :: ([.fieldLink RX2 9 "LampRacks$Lamps" "size" "I", .methodLink RX2 42 yX2_isDead, .instanceMethod yX2_isDead, .selects RX2 yX2_isDead yX2_isDead, .initialized RX2, .code yX2_isDead cX2_isDead 2 (some .boolean), .fieldLink RX2 31 "LampRacks$Lamps" "end" "[I", .methodLink RX2 70 yX2_countEndedBefore, .instanceMethod yX2_countEndedBefore, .selects RX2 yX2_countEndedBefore yX2_countEndedBefore, .code yX2_countEndedBefore cX2_countEndedBefore 5 (some .int), .static yX6_oneIf, .initialized RX6, .code yX6_oneIf cX6_oneIf 1 (some .int)] ++ wsX20)
def wsX2_findFirstEndedAfter : List Cond := .code yX2_findFirstEndedAfter cX2_findFirstEndedAfter 4 (some .int) :: ([.fieldLink RX2 9 "LampRacks$Lamps" "size" "I", .fieldLink RX2 31 "LampRacks$Lamps" "end" "[I"] ++ wsX20)
def wsX2_countShorterOf : List Cond := .code yX2_countShorterOf cX2_countShorterOf 8 (some .int) :: ([.fieldLink RX2 9 "LampRacks$Lamps" "size" "I", .methodLink RX2 60 yX2_hoursCounted, .instanceMethod yX2_hoursCounted, .selects RX2 yX2_hoursCounted yX2_hoursCounted, .initialized RX2, .code yX2_hoursCounted cX2_hoursCounted 2 (some .int), .fieldLink RX2 25 "LampRacks$Lamps" "wear" "[I", .methodLink RX2 56 yX2_isDeadOf, .instanceMethod yX2_isDeadOf, .selects RX2 yX2_isDeadOf yX2_isDeadOf, .code yX2_isDeadOf cX2_isDeadOf 3 (some .boolean), .fieldLink RX2 15 "LampRacks$Lamps" "batch" "[I", .methodLink RX2 42 yX2_isDead, .instanceMethod yX2_isDead, .selects RX2 yX2_isDead yX2_isDead, .code yX2_isDead cX2_isDead 2 (some .boolean), .fieldLink RX2 31 "LampRacks$Lamps" "end" "[I", .static yX6_oneIf, .initialized RX6, .code yX6_oneIf cX6_oneIf 1 (some .int)] ++ wsX20)
def wsX2_middleLife_r1 : List Cond := [Cond.fieldLink RX2 9 "LampRacks$Lamps" "size" "I", Cond.methodLink RX2 73 yX2_countOf, Cond.instanceMethod yX2_countOf, Cond.selects RX2 yX2_countOf yX2_countOf, Cond.initialized RX2, Cond.code yX2_countOf cX2_countOf 4 (some .int), Cond.fieldLink RX2 15 "LampRacks$Lamps" "batch" "[I", Cond.static yX6_oneIf, Cond.initialized RX6, Cond.code yX6_oneIf cX6_oneIf 1 (some .int), Cond.methodLink RX2 56 yX2_isDeadOf, Cond.instanceMethod yX2_isDeadOf, Cond.selects RX2 yX2_isDeadOf yX2_isDeadOf, Cond.code yX2_isDeadOf cX2_isDeadOf 3 (some .boolean), Cond.methodLink RX2 42 yX2_isDead, Cond.instanceMethod yX2_isDead, Cond.selects RX2 yX2_isDead yX2_isDead, Cond.code yX2_isDead cX2_isDead 2 (some .boolean), Cond.fieldLink RX2 31 "LampRacks$Lamps" "end" "[I", Cond.methodLink RX2 76 yX2_countShorterOf, Cond.instanceMethod yX2_countShorterOf, Cond.selects RX2 yX2_countShorterOf yX2_countShorterOf, Cond.code yX2_countShorterOf cX2_countShorterOf 8 (some .int), Cond.methodLink RX2 60 yX2_hoursCounted]
def wsX2_middleLife_r2 : List Cond := [Cond.instanceMethod yX2_hoursCounted, Cond.selects RX2 yX2_hoursCounted yX2_hoursCounted, Cond.code yX2_hoursCounted cX2_hoursCounted 2 (some .int), Cond.fieldLink RX2 25 "LampRacks$Lamps" "wear" "[I"]
def wsX2_middleLife : List Cond := .code yX2_middleLife cX2_middleLife 4 (some .int) :: ((wsX2_middleLife_r1 ++ wsX2_middleLife_r2) ++ wsX20)
def wsX3_isDark : List Cond := .code yX3_isDark cX3_isDark 2 (some .boolean) :: ([.fieldLink RX3 15 "LampRacks$Racks" "volts" "[I"] ++ wsX30)
def wsX3_voltsAfterStep : List Cond := .code yX3_voltsAfterStep cX3_voltsAfterStep 2 (some .int) :: ([.fieldLink RX3 15 "LampRacks$Racks" "volts" "[I", .fieldLink RX3 21 "LampRacks$Racks" "stepVolts" "[I", .methodLink RX3 37 Lib.Math.min.name, .static Lib.Math.min.name, .initialized "java/lang/Math", .code Lib.Math.min.name Lib.Math.min.code 2 (some .int), .methodLink RX3 43 Lib.Math.max.name, .static Lib.Math.max.name, .code Lib.Math.max.name Lib.Math.max.code 2 (some .int)] ++ wsX30)
def wsX3_hoursToStep : List Cond := .code yX3_hoursToStep cX3_hoursToStep 2 (some .int) :: ([.fieldLink RX3 18 "LampRacks$Racks" "stepHours" "[I", .fieldLink RX3 24 "LampRacks$Racks" "hoursOfStep" "[I"] ++ wsX30)
def wsX3_hoursAtSameVolts : List Cond := .code yX3_hoursAtSameVolts cX3_hoursAtSameVolts 3 (some .int) :: ([.fieldLink RX3 18 "LampRacks$Racks" "stepHours" "[I", .fieldLink RX3 15 "LampRacks$Racks" "volts" "[I", .methodLink RX3 37 Lib.Math.min.name, .static Lib.Math.min.name, .initialized "java/lang/Math", .code Lib.Math.min.name Lib.Math.min.code 2 (some .int), .methodLink RX3 46 yX3_voltsAfterStep, .instanceMethod yX3_voltsAfterStep, .selects RX3 yX3_voltsAfterStep yX3_voltsAfterStep, .initialized RX3, .code yX3_voltsAfterStep cX3_voltsAfterStep 2 (some .int), .fieldLink RX3 21 "LampRacks$Racks" "stepVolts" "[I", .methodLink RX3 43 Lib.Math.max.name, .static Lib.Math.max.name, .code Lib.Math.max.name Lib.Math.max.code 2 (some .int), .methodLink RX3 50 yX3_hoursToStep, .instanceMethod yX3_hoursToStep, .selects RX3 yX3_hoursToStep yX3_hoursToStep, .code yX3_hoursToStep cX3_hoursToStep 2 (some .int), .fieldLink RX3 24 "LampRacks$Racks" "hoursOfStep" "[I"] ++ wsX30)
def wsX3_countHours : List Cond := .code yX3_countHours cX3_countHours 5 none :: ([.fieldLink RX3 18 "LampRacks$Racks" "stepHours" "[I", .fieldLink RX3 24 "LampRacks$Racks" "hoursOfStep" "[I", .fieldLink RX3 15 "LampRacks$Racks" "volts" "[I", .methodLink RX3 46 yX3_voltsAfterStep, .instanceMethod yX3_voltsAfterStep, .selects RX3 yX3_voltsAfterStep yX3_voltsAfterStep, .initialized RX3, .code yX3_voltsAfterStep cX3_voltsAfterStep 2 (some .int), .fieldLink RX3 21 "LampRacks$Racks" "stepVolts" "[I", .methodLink RX3 37 Lib.Math.min.name, .static Lib.Math.min.name, .initialized "java/lang/Math", .code Lib.Math.min.name Lib.Math.min.code 2 (some .int), .methodLink RX3 43 Lib.Math.max.name, .static Lib.Math.max.name, .code Lib.Math.max.name Lib.Math.max.code 2 (some .int)] ++ wsX30)
def wsX6_isBatch : List Cond := .code yX6_isBatch cX6_isBatch 1 (some .boolean) :: ([.methodLink RX6 117 yX6_isWithin, .static yX6_isWithin, .initialized RX6, .code yX6_isWithin cX6_isWithin 3 (some .boolean)])
def wsX4_changeBatch : List Cond := .code yX4_changeBatch cX4_changeBatch 5 (some .int) :: ([.fieldLink RX4 24 "LampRacks$State" "batches" "LLampRacks$Batches;", .fieldLink RX4 60 "LampRacks$Batches" "life" "[I", .fieldLink RX4 64 "LampRacks$Batches" "spread" "[I", .static yX6_isBatch, .initialized RX6, .code yX6_isBatch cX6_isBatch 1 (some .boolean), .methodLink RX6 117 yX6_isWithin, .static yX6_isWithin, .code yX6_isWithin cX6_isWithin 3 (some .boolean)] ++ wsX40 ++ wsX00)
def wsX6_isRack : List Cond := .code yX6_isRack cX6_isRack 1 (some .boolean) :: ([.methodLink RX6 117 yX6_isWithin, .static yX6_isWithin, .initialized RX6, .code yX6_isWithin cX6_isWithin 3 (some .boolean)])
def wsX6_isPlace : List Cond := .code yX6_isPlace cX6_isPlace 2 (some .boolean) :: ([.methodLink RX6 230 yX6_isRack, .static yX6_isRack, .initialized RX6, .code yX6_isRack cX6_isRack 1 (some .boolean), .methodLink RX6 117 yX6_isWithin, .static yX6_isWithin, .code yX6_isWithin cX6_isWithin 3 (some .boolean)])
def wsX6_spotOf : List Cond := .code yX6_spotOf cX6_spotOf 2 (some .int) :: ([])
def wsX4_insertLamp_r1 : List Cond := [Cond.fieldLink RX4 38 "LampRacks$State" "racks" "LLampRacks$Racks;", Cond.fieldLink RX4 75 "LampRacks$Racks" "lampAt" "[I", Cond.fieldLink RX4 31 "LampRacks$State" "lamps" "LLampRacks$Lamps;", Cond.fieldLink RX4 24 "LampRacks$State" "batches" "LLampRacks$Batches;", Cond.fieldLink RX4 82 "LampRacks$Lamps" "size" "I", Cond.static yX6_isPlace, Cond.initialized RX6, Cond.code yX6_isPlace cX6_isPlace 2 (some .boolean), Cond.methodLink RX6 230 yX6_isRack, Cond.static yX6_isRack, Cond.code yX6_isRack cX6_isRack 1 (some .boolean), Cond.methodLink RX6 117 yX6_isWithin, Cond.static yX6_isWithin, Cond.code yX6_isWithin cX6_isWithin 3 (some .boolean), Cond.static yX6_isBatch, Cond.code yX6_isBatch cX6_isBatch 1 (some .boolean), Cond.static yX6_spotOf, Cond.code yX6_spotOf cX6_spotOf 2 (some .int), Cond.methodLink RX4 78 yX2_isFull, Cond.instanceMethod yX2_isFull, Cond.selects RX2 yX2_isFull yX2_isFull, Cond.initialized RX2, Cond.code yX2_isFull cX2_isFull 1 (some .boolean), Cond.fieldLink RX2 9 "LampRacks$Lamps" "size" "I"]
def wsX4_insertLamp_r2 : List Cond := [Cond.methodLink RX4 85 yX0_hoursOfLamp, Cond.instanceMethod yX0_hoursOfLamp, Cond.selects RX0 yX0_hoursOfLamp yX0_hoursOfLamp, Cond.initialized RX0, Cond.code yX0_hoursOfLamp cX0_hoursOfLamp 5 (some .int), Cond.fieldLink RX0 9 "LampRacks$Batches" "life" "[I", Cond.fieldLink RX0 15 "LampRacks$Batches" "spread" "[I", Cond.methodLink RX0 30 Lib.Math.max.name, Cond.static Lib.Math.max.name, Cond.initialized "java/lang/Math", Cond.code Lib.Math.max.name Lib.Math.max.code 2 (some .int), Cond.static yX6_shareOf, Cond.code yX6_shareOf cX6_shareOf 1 (some .int), Cond.static yX6_isWeak, Cond.code yX6_isWeak cX6_isWeak 1 (some .boolean), Cond.methodLink RX6 233 yX6_shareOf, Cond.methodLink RX4 88 yX2_append, Cond.instanceMethod yX2_append, Cond.selects RX2 yX2_append yX2_append, Cond.code yX2_append cX2_append 5 (some .int), Cond.fieldLink RX2 15 "LampRacks$Lamps" "batch" "[I", Cond.fieldLink RX2 19 "LampRacks$Lamps" "spot" "[I", Cond.fieldLink RX2 22 "LampRacks$Lamps" "canLast" "[I", Cond.fieldLink RX2 25 "LampRacks$Lamps" "wear" "[I"]
def wsX4_insertLamp_r3 : List Cond := [Cond.fieldLink RX2 28 "LampRacks$Lamps" "burned" "[I", Cond.fieldLink RX2 31 "LampRacks$Lamps" "end" "[I"]
def wsX4_insertLamp : List Cond := .code yX4_insertLamp cX4_insertLamp 6 (some .int) :: ((wsX4_insertLamp_r1 ++ (wsX4_insertLamp_r2 ++ wsX4_insertLamp_r3)) ++ wsX40 ++ wsX30 ++ wsX20 ++ wsX00)
def wsX4_removeLamp : List Cond := .code yX4_removeLamp cX4_removeLamp 5 (some .int) :: ([.fieldLink RX4 38 "LampRacks$State" "racks" "LLampRacks$Racks;", .fieldLink RX4 75 "LampRacks$Racks" "lampAt" "[I", .fieldLink RX4 31 "LampRacks$State" "lamps" "LLampRacks$Lamps;", .fieldLink RX4 92 "LampRacks$Lamps" "spot" "[I", .static yX6_isPlace, .initialized RX6, .code yX6_isPlace cX6_isPlace 2 (some .boolean), .methodLink RX6 230 yX6_isRack, .static yX6_isRack, .code yX6_isRack cX6_isRack 1 (some .boolean), .methodLink RX6 117 yX6_isWithin, .static yX6_isWithin, .code yX6_isWithin cX6_isWithin 3 (some .boolean), .static yX6_spotOf, .code yX6_spotOf cX6_spotOf 2 (some .int)] ++ wsX40 ++ wsX30 ++ wsX20)
def wsX4_moveTo : List Cond := .code yX4_moveTo cX4_moveTo 3 (some .int) :: ([.fieldLink RX4 38 "LampRacks$State" "racks" "LLampRacks$Racks;", .fieldLink RX4 75 "LampRacks$Racks" "lampAt" "[I", .fieldLink RX4 31 "LampRacks$State" "lamps" "LLampRacks$Lamps;", .fieldLink RX4 92 "LampRacks$Lamps" "spot" "[I"] ++ wsX40 ++ wsX30 ++ wsX20)
def wsX4_exchange : List Cond := .code yX4_exchange cX4_exchange 9 (some .int) :: ([.fieldLink RX4 38 "LampRacks$State" "racks" "LLampRacks$Racks;", .fieldLink RX4 75 "LampRacks$Racks" "lampAt" "[I", .static yX6_isPlace, .initialized RX6, .code yX6_isPlace cX6_isPlace 2 (some .boolean), .methodLink RX6 230 yX6_isRack, .static yX6_isRack, .code yX6_isRack cX6_isRack 1 (some .boolean), .methodLink RX6 117 yX6_isWithin, .static yX6_isWithin, .code yX6_isWithin cX6_isWithin 3 (some .boolean), .static yX6_spotOf, .code yX6_spotOf cX6_spotOf 2 (some .int), .methodLink RX4 95 yX4_moveTo, .instanceMethod yX4_moveTo, .selects RX4 yX4_moveTo yX4_moveTo, .initialized RX4, .code yX4_moveTo cX4_moveTo 3 (some .int), .fieldLink RX4 31 "LampRacks$State" "lamps" "LLampRacks$Lamps;", .fieldLink RX4 92 "LampRacks$Lamps" "spot" "[I"] ++ wsX40 ++ wsX30 ++ wsX20)
def wsX4_changeVolts : List Cond := .code yX4_changeVolts cX4_changeVolts 4 (some .int) :: ([.fieldLink RX4 38 "LampRacks$State" "racks" "LLampRacks$Racks;", .fieldLink RX4 101 "LampRacks$Racks" "volts" "[I", .static yX6_isRack, .initialized RX6, .code yX6_isRack cX6_isRack 1 (some .boolean), .methodLink RX6 117 yX6_isWithin, .static yX6_isWithin, .code yX6_isWithin cX6_isWithin 3 (some .boolean)] ++ wsX40 ++ wsX30)
def wsX4_changeSteps : List Cond := .code yX4_changeSteps cX4_changeSteps 5 (some .int) :: ([.fieldLink RX4 38 "LampRacks$State" "racks" "LLampRacks$Racks;", .fieldLink RX4 104 "LampRacks$Racks" "stepHours" "[I", .fieldLink RX4 107 "LampRacks$Racks" "stepVolts" "[I", .fieldLink RX4 110 "LampRacks$Racks" "hoursOfStep" "[I", .static yX6_isRack, .initialized RX6, .code yX6_isRack cX6_isRack 1 (some .boolean), .methodLink RX6 117 yX6_isWithin, .static yX6_isWithin, .code yX6_isWithin cX6_isWithin 3 (some .boolean)] ++ wsX40 ++ wsX30)
def wsX4_changeWantedVolts : List Cond := .code yX4_changeWantedVolts cX4_changeWantedVolts 3 (some .int) :: ([.fieldLink RX4 15 "LampRacks$State" "wantedVolts" "I", .static yX6_isWithin, .initialized RX6, .code yX6_isWithin cX6_isWithin 3 (some .boolean)] ++ wsX40)
def wsX4_changeDoublingVolts : List Cond := .code yX4_changeDoublingVolts cX4_changeDoublingVolts 3 (some .int) :: ([.fieldLink RX4 18 "LampRacks$State" "doublingVolts" "I", .static yX6_isWithin, .initialized RX6, .code yX6_isWithin cX6_isWithin 3 (some .boolean)] ++ wsX40)
def wsX4_changeSetting : List Cond := .code yX4_changeSetting cX4_changeSetting 3 (some .int) :: ([.methodLink RX4 113 yX4_changeWantedVolts, .instanceMethod yX4_changeWantedVolts, .selects RX4 yX4_changeWantedVolts yX4_changeWantedVolts, .initialized RX4, .code yX4_changeWantedVolts cX4_changeWantedVolts 3 (some .int), .fieldLink RX4 15 "LampRacks$State" "wantedVolts" "I", .static yX6_isWithin, .initialized RX6, .code yX6_isWithin cX6_isWithin 3 (some .boolean), .methodLink RX4 117 yX4_changeDoublingVolts, .instanceMethod yX4_changeDoublingVolts, .selects RX4 yX4_changeDoublingVolts yX4_changeDoublingVolts, .code yX4_changeDoublingVolts cX4_changeDoublingVolts 3 (some .int), .fieldLink RX4 18 "LampRacks$State" "doublingVolts" "I"] ++ wsX40)
def wsX6_isHot : List Cond := .code yX6_isHot cX6_isHot 1 (some .boolean) :: ([.methodLink RX6 117 yX6_isWithin, .static yX6_isWithin, .initialized RX6, .code yX6_isWithin cX6_isWithin 3 (some .boolean)])
def wsX4_wearOfHour : List Cond := .code yX4_wearOfHour cX4_wearOfHour 5 (some .int) :: ([.fieldLink RX4 15 "LampRacks$State" "wantedVolts" "I", .fieldLink RX4 18 "LampRacks$State" "doublingVolts" "I", .methodLink RX4 130 Lib.Math.max.name, .static Lib.Math.max.name, .initialized "java/lang/Math", .code Lib.Math.max.name Lib.Math.max.code 2 (some .int)] ++ wsX40)
def wsX4_burnRack_r1 : List Cond := [Cond.fieldLink RX4 38 "LampRacks$State" "racks" "LLampRacks$Racks;", Cond.fieldLink RX4 75 "LampRacks$Racks" "lampAt" "[I", Cond.fieldLink RX4 31 "LampRacks$State" "lamps" "LLampRacks$Lamps;", Cond.fieldLink RX4 101 "LampRacks$Racks" "volts" "[I", Cond.methodLink RX4 158 Lib.Math.min.name, Cond.static Lib.Math.min.name, Cond.initialized "java/lang/Math", Cond.code Lib.Math.min.name Lib.Math.min.code 2 (some .int), Cond.fieldLink RX4 165 "LampRacks$Lamps" "end" "[I", Cond.methodLink RX4 142 yX3_isDark, Cond.instanceMethod yX3_isDark, Cond.selects RX3 yX3_isDark yX3_isDark, Cond.initialized RX3, Cond.code yX3_isDark cX3_isDark 2 (some .boolean), Cond.fieldLink RX3 15 "LampRacks$Racks" "volts" "[I", Cond.static yX6_spotOf, Cond.initialized RX6, Cond.code yX6_spotOf cX6_spotOf 2 (some .int), Cond.methodLink RX4 145 yX2_isDead, Cond.instanceMethod yX2_isDead, Cond.selects RX2 yX2_isDead yX2_isDead, Cond.initialized RX2, Cond.code yX2_isDead cX2_isDead 2 (some .boolean), Cond.fieldLink RX2 31 "LampRacks$Lamps" "end" "[I"]
def wsX4_burnRack_r2 : List Cond := [Cond.static yX6_isHot, Cond.code yX6_isHot cX6_isHot 1 (some .boolean), Cond.methodLink RX6 117 yX6_isWithin, Cond.static yX6_isWithin, Cond.code yX6_isWithin cX6_isWithin 3 (some .boolean), Cond.methodLink RX4 151 yX4_wearOfHour, Cond.instanceMethod yX4_wearOfHour, Cond.selects RX4 yX4_wearOfHour yX4_wearOfHour, Cond.initialized RX4, Cond.code yX4_wearOfHour cX4_wearOfHour 5 (some .int), Cond.fieldLink RX4 15 "LampRacks$State" "wantedVolts" "I", Cond.fieldLink RX4 18 "LampRacks$State" "doublingVolts" "I", Cond.methodLink RX4 130 Lib.Math.max.name, Cond.static Lib.Math.max.name, Cond.code Lib.Math.max.name Lib.Math.max.code 2 (some .int), Cond.methodLink RX4 155 yX2_hoursLeft, Cond.instanceMethod yX2_hoursLeft, Cond.selects RX2 yX2_hoursLeft yX2_hoursLeft, Cond.code yX2_hoursLeft cX2_hoursLeft 5 (some .int), Cond.methodLink RX2 46 Lib.Math.max.name, Cond.fieldLink RX2 22 "LampRacks$Lamps" "canLast" "[I", Cond.fieldLink RX2 25 "LampRacks$Lamps" "wear" "[I", Cond.methodLink RX4 161 yX2_burn, Cond.instanceMethod yX2_burn]
def wsX4_burnRack_r3 : List Cond := [Cond.selects RX2 yX2_burn yX2_burn, Cond.code yX2_burn cX2_burn 4 none, Cond.fieldLink RX2 28 "LampRacks$Lamps" "burned" "[I"]
def wsX4_burnRack : List Cond := .code yX4_burnRack cX4_burnRack 10 (some .int) :: ((wsX4_burnRack_r1 ++ (wsX4_burnRack_r2 ++ wsX4_burnRack_r3)) ++ wsX40 ++ wsX30 ++ wsX20)
def wsX4_passHoursOfRack_r1 : List Cond := [Cond.fieldLink RX4 38 "LampRacks$State" "racks" "LLampRacks$Racks;", Cond.methodLink RX4 130 Lib.Math.max.name, Cond.static Lib.Math.max.name, Cond.initialized "java/lang/Math", Cond.code Lib.Math.max.name Lib.Math.max.code 2 (some .int), Cond.fieldLink RX4 9 "LampRacks$State" "hour" "I", Cond.methodLink RX4 127 yX3_hoursAtSameVolts, Cond.instanceMethod yX3_hoursAtSameVolts, Cond.selects RX3 yX3_hoursAtSameVolts yX3_hoursAtSameVolts, Cond.initialized RX3, Cond.code yX3_hoursAtSameVolts cX3_hoursAtSameVolts 3 (some .int), Cond.fieldLink RX3 18 "LampRacks$Racks" "stepHours" "[I", Cond.fieldLink RX3 15 "LampRacks$Racks" "volts" "[I", Cond.methodLink RX3 37 Lib.Math.min.name, Cond.static Lib.Math.min.name, Cond.code Lib.Math.min.name Lib.Math.min.code 2 (some .int), Cond.methodLink RX3 46 yX3_voltsAfterStep, Cond.instanceMethod yX3_voltsAfterStep, Cond.selects RX3 yX3_voltsAfterStep yX3_voltsAfterStep, Cond.code yX3_voltsAfterStep cX3_voltsAfterStep 2 (some .int), Cond.fieldLink RX3 21 "LampRacks$Racks" "stepVolts" "[I", Cond.methodLink RX3 43 Lib.Math.max.name, Cond.methodLink RX3 50 yX3_hoursToStep, Cond.instanceMethod yX3_hoursToStep]
def wsX4_passHoursOfRack_r2 : List Cond := [Cond.selects RX3 yX3_hoursToStep yX3_hoursToStep, Cond.code yX3_hoursToStep cX3_hoursToStep 2 (some .int), Cond.fieldLink RX3 24 "LampRacks$Racks" "hoursOfStep" "[I", Cond.methodLink RX4 135 yX4_burnRack, Cond.instanceMethod yX4_burnRack, Cond.selects RX4 yX4_burnRack yX4_burnRack, Cond.initialized RX4, Cond.code yX4_burnRack cX4_burnRack 10 (some .int), Cond.fieldLink RX4 75 "LampRacks$Racks" "lampAt" "[I", Cond.fieldLink RX4 31 "LampRacks$State" "lamps" "LLampRacks$Lamps;", Cond.fieldLink RX4 101 "LampRacks$Racks" "volts" "[I", Cond.methodLink RX4 158 Lib.Math.min.name, Cond.fieldLink RX4 165 "LampRacks$Lamps" "end" "[I", Cond.methodLink RX4 142 yX3_isDark, Cond.instanceMethod yX3_isDark, Cond.selects RX3 yX3_isDark yX3_isDark, Cond.code yX3_isDark cX3_isDark 2 (some .boolean), Cond.static yX6_spotOf, Cond.initialized RX6, Cond.code yX6_spotOf cX6_spotOf 2 (some .int), Cond.methodLink RX4 145 yX2_isDead, Cond.instanceMethod yX2_isDead, Cond.selects RX2 yX2_isDead yX2_isDead, Cond.initialized RX2]
def wsX4_passHoursOfRack_r3 : List Cond := [Cond.code yX2_isDead cX2_isDead 2 (some .boolean), Cond.fieldLink RX2 31 "LampRacks$Lamps" "end" "[I", Cond.static yX6_isHot, Cond.code yX6_isHot cX6_isHot 1 (some .boolean), Cond.methodLink RX6 117 yX6_isWithin, Cond.static yX6_isWithin, Cond.code yX6_isWithin cX6_isWithin 3 (some .boolean), Cond.methodLink RX4 151 yX4_wearOfHour, Cond.instanceMethod yX4_wearOfHour, Cond.selects RX4 yX4_wearOfHour yX4_wearOfHour, Cond.code yX4_wearOfHour cX4_wearOfHour 5 (some .int), Cond.fieldLink RX4 15 "LampRacks$State" "wantedVolts" "I", Cond.fieldLink RX4 18 "LampRacks$State" "doublingVolts" "I", Cond.methodLink RX4 155 yX2_hoursLeft, Cond.instanceMethod yX2_hoursLeft, Cond.selects RX2 yX2_hoursLeft yX2_hoursLeft, Cond.code yX2_hoursLeft cX2_hoursLeft 5 (some .int), Cond.methodLink RX2 46 Lib.Math.max.name, Cond.fieldLink RX2 22 "LampRacks$Lamps" "canLast" "[I", Cond.fieldLink RX2 25 "LampRacks$Lamps" "wear" "[I", Cond.methodLink RX4 161 yX2_burn, Cond.instanceMethod yX2_burn, Cond.selects RX2 yX2_burn yX2_burn, Cond.code yX2_burn cX2_burn 4 none]
def wsX4_passHoursOfRack_r4 : List Cond := [Cond.fieldLink RX2 28 "LampRacks$Lamps" "burned" "[I", Cond.methodLink RX4 138 yX3_countHours, Cond.instanceMethod yX3_countHours, Cond.selects RX3 yX3_countHours yX3_countHours, Cond.code yX3_countHours cX3_countHours 5 none]
def wsX4_passHoursOfRack : List Cond := .code yX4_passHoursOfRack cX4_passHoursOfRack 6 (some .int) :: ((wsX4_passHoursOfRack_r1 ++ (wsX4_passHoursOfRack_r2 ++ (wsX4_passHoursOfRack_r3 ++ wsX4_passHoursOfRack_r4))) ++ wsX40 ++ wsX30 ++ wsX20)
def wsX4_passHours_r1 : List Cond := [Cond.fieldLink RX4 9 "LampRacks$State" "hour" "I", Cond.methodLink RX4 124 yX4_passHoursOfRack, Cond.instanceMethod yX4_passHoursOfRack, Cond.selects RX4 yX4_passHoursOfRack yX4_passHoursOfRack, Cond.initialized RX4, Cond.code yX4_passHoursOfRack cX4_passHoursOfRack 6 (some .int), Cond.fieldLink RX4 38 "LampRacks$State" "racks" "LLampRacks$Racks;", Cond.methodLink RX4 130 Lib.Math.max.name, Cond.static Lib.Math.max.name, Cond.initialized "java/lang/Math", Cond.code Lib.Math.max.name Lib.Math.max.code 2 (some .int), Cond.methodLink RX4 127 yX3_hoursAtSameVolts, Cond.instanceMethod yX3_hoursAtSameVolts, Cond.selects RX3 yX3_hoursAtSameVolts yX3_hoursAtSameVolts, Cond.initialized RX3, Cond.code yX3_hoursAtSameVolts cX3_hoursAtSameVolts 3 (some .int), Cond.fieldLink RX3 18 "LampRacks$Racks" "stepHours" "[I", Cond.fieldLink RX3 15 "LampRacks$Racks" "volts" "[I", Cond.methodLink RX3 37 Lib.Math.min.name, Cond.static Lib.Math.min.name, Cond.code Lib.Math.min.name Lib.Math.min.code 2 (some .int), Cond.methodLink RX3 46 yX3_voltsAfterStep, Cond.instanceMethod yX3_voltsAfterStep, Cond.selects RX3 yX3_voltsAfterStep yX3_voltsAfterStep]
def wsX4_passHours_r2 : List Cond := [Cond.code yX3_voltsAfterStep cX3_voltsAfterStep 2 (some .int), Cond.fieldLink RX3 21 "LampRacks$Racks" "stepVolts" "[I", Cond.methodLink RX3 43 Lib.Math.max.name, Cond.methodLink RX3 50 yX3_hoursToStep, Cond.instanceMethod yX3_hoursToStep, Cond.selects RX3 yX3_hoursToStep yX3_hoursToStep, Cond.code yX3_hoursToStep cX3_hoursToStep 2 (some .int), Cond.fieldLink RX3 24 "LampRacks$Racks" "hoursOfStep" "[I", Cond.methodLink RX4 135 yX4_burnRack, Cond.instanceMethod yX4_burnRack, Cond.selects RX4 yX4_burnRack yX4_burnRack, Cond.code yX4_burnRack cX4_burnRack 10 (some .int), Cond.fieldLink RX4 75 "LampRacks$Racks" "lampAt" "[I", Cond.fieldLink RX4 31 "LampRacks$State" "lamps" "LLampRacks$Lamps;", Cond.fieldLink RX4 101 "LampRacks$Racks" "volts" "[I", Cond.methodLink RX4 158 Lib.Math.min.name, Cond.fieldLink RX4 165 "LampRacks$Lamps" "end" "[I", Cond.methodLink RX4 142 yX3_isDark, Cond.instanceMethod yX3_isDark, Cond.selects RX3 yX3_isDark yX3_isDark, Cond.code yX3_isDark cX3_isDark 2 (some .boolean), Cond.static yX6_spotOf, Cond.initialized RX6, Cond.code yX6_spotOf cX6_spotOf 2 (some .int)]
def wsX4_passHours_r3 : List Cond := [Cond.methodLink RX4 145 yX2_isDead, Cond.instanceMethod yX2_isDead, Cond.selects RX2 yX2_isDead yX2_isDead, Cond.initialized RX2, Cond.code yX2_isDead cX2_isDead 2 (some .boolean), Cond.fieldLink RX2 31 "LampRacks$Lamps" "end" "[I", Cond.static yX6_isHot, Cond.code yX6_isHot cX6_isHot 1 (some .boolean), Cond.methodLink RX6 117 yX6_isWithin, Cond.static yX6_isWithin, Cond.code yX6_isWithin cX6_isWithin 3 (some .boolean), Cond.methodLink RX4 151 yX4_wearOfHour, Cond.instanceMethod yX4_wearOfHour, Cond.selects RX4 yX4_wearOfHour yX4_wearOfHour, Cond.code yX4_wearOfHour cX4_wearOfHour 5 (some .int), Cond.fieldLink RX4 15 "LampRacks$State" "wantedVolts" "I", Cond.fieldLink RX4 18 "LampRacks$State" "doublingVolts" "I", Cond.methodLink RX4 155 yX2_hoursLeft, Cond.instanceMethod yX2_hoursLeft, Cond.selects RX2 yX2_hoursLeft yX2_hoursLeft, Cond.code yX2_hoursLeft cX2_hoursLeft 5 (some .int), Cond.methodLink RX2 46 Lib.Math.max.name, Cond.fieldLink RX2 22 "LampRacks$Lamps" "canLast" "[I", Cond.fieldLink RX2 25 "LampRacks$Lamps" "wear" "[I"]
def wsX4_passHours_r4 : List Cond := [Cond.methodLink RX4 161 yX2_burn, Cond.instanceMethod yX2_burn, Cond.selects RX2 yX2_burn yX2_burn, Cond.code yX2_burn cX2_burn 4 none, Cond.fieldLink RX2 28 "LampRacks$Lamps" "burned" "[I", Cond.methodLink RX4 138 yX3_countHours, Cond.instanceMethod yX3_countHours, Cond.selects RX3 yX3_countHours yX3_countHours, Cond.code yX3_countHours cX3_countHours 5 none]
def wsX4_passHours : List Cond := .code yX4_passHours cX4_passHours 4 (some .int) :: ((wsX4_passHours_r1 ++ (wsX4_passHours_r2 ++ (wsX4_passHours_r3 ++ wsX4_passHours_r4))) ++ wsX40 ++ wsX30 ++ wsX20)
def wsX4_letPass_r1 : List Cond := [Cond.fieldLink RX4 9 "LampRacks$State" "hour" "I", Cond.constant RX4 120 (99999), Cond.static yX6_isWithin, Cond.initialized RX6, Cond.code yX6_isWithin cX6_isWithin 3 (some .boolean), Cond.methodLink RX4 121 yX4_passHours, Cond.instanceMethod yX4_passHours, Cond.selects RX4 yX4_passHours yX4_passHours, Cond.initialized RX4, Cond.code yX4_passHours cX4_passHours 4 (some .int), Cond.methodLink RX4 124 yX4_passHoursOfRack, Cond.instanceMethod yX4_passHoursOfRack, Cond.selects RX4 yX4_passHoursOfRack yX4_passHoursOfRack, Cond.code yX4_passHoursOfRack cX4_passHoursOfRack 6 (some .int), Cond.fieldLink RX4 38 "LampRacks$State" "racks" "LLampRacks$Racks;", Cond.methodLink RX4 130 Lib.Math.max.name, Cond.static Lib.Math.max.name, Cond.initialized "java/lang/Math", Cond.code Lib.Math.max.name Lib.Math.max.code 2 (some .int), Cond.methodLink RX4 127 yX3_hoursAtSameVolts, Cond.instanceMethod yX3_hoursAtSameVolts, Cond.selects RX3 yX3_hoursAtSameVolts yX3_hoursAtSameVolts, Cond.initialized RX3, Cond.code yX3_hoursAtSameVolts cX3_hoursAtSameVolts 3 (some .int)]
def wsX4_letPass_r2 : List Cond := [Cond.fieldLink RX3 18 "LampRacks$Racks" "stepHours" "[I", Cond.fieldLink RX3 15 "LampRacks$Racks" "volts" "[I", Cond.methodLink RX3 37 Lib.Math.min.name, Cond.static Lib.Math.min.name, Cond.code Lib.Math.min.name Lib.Math.min.code 2 (some .int), Cond.methodLink RX3 46 yX3_voltsAfterStep, Cond.instanceMethod yX3_voltsAfterStep, Cond.selects RX3 yX3_voltsAfterStep yX3_voltsAfterStep, Cond.code yX3_voltsAfterStep cX3_voltsAfterStep 2 (some .int), Cond.fieldLink RX3 21 "LampRacks$Racks" "stepVolts" "[I", Cond.methodLink RX3 43 Lib.Math.max.name, Cond.methodLink RX3 50 yX3_hoursToStep, Cond.instanceMethod yX3_hoursToStep, Cond.selects RX3 yX3_hoursToStep yX3_hoursToStep, Cond.code yX3_hoursToStep cX3_hoursToStep 2 (some .int), Cond.fieldLink RX3 24 "LampRacks$Racks" "hoursOfStep" "[I", Cond.methodLink RX4 135 yX4_burnRack, Cond.instanceMethod yX4_burnRack, Cond.selects RX4 yX4_burnRack yX4_burnRack, Cond.code yX4_burnRack cX4_burnRack 10 (some .int), Cond.fieldLink RX4 75 "LampRacks$Racks" "lampAt" "[I", Cond.fieldLink RX4 31 "LampRacks$State" "lamps" "LLampRacks$Lamps;", Cond.fieldLink RX4 101 "LampRacks$Racks" "volts" "[I", Cond.methodLink RX4 158 Lib.Math.min.name]
def wsX4_letPass_r3 : List Cond := [Cond.fieldLink RX4 165 "LampRacks$Lamps" "end" "[I", Cond.methodLink RX4 142 yX3_isDark, Cond.instanceMethod yX3_isDark, Cond.selects RX3 yX3_isDark yX3_isDark, Cond.code yX3_isDark cX3_isDark 2 (some .boolean), Cond.static yX6_spotOf, Cond.code yX6_spotOf cX6_spotOf 2 (some .int), Cond.methodLink RX4 145 yX2_isDead, Cond.instanceMethod yX2_isDead, Cond.selects RX2 yX2_isDead yX2_isDead, Cond.initialized RX2, Cond.code yX2_isDead cX2_isDead 2 (some .boolean), Cond.fieldLink RX2 31 "LampRacks$Lamps" "end" "[I", Cond.static yX6_isHot, Cond.code yX6_isHot cX6_isHot 1 (some .boolean), Cond.methodLink RX6 117 yX6_isWithin, Cond.methodLink RX4 151 yX4_wearOfHour, Cond.instanceMethod yX4_wearOfHour, Cond.selects RX4 yX4_wearOfHour yX4_wearOfHour, Cond.code yX4_wearOfHour cX4_wearOfHour 5 (some .int), Cond.fieldLink RX4 15 "LampRacks$State" "wantedVolts" "I", Cond.fieldLink RX4 18 "LampRacks$State" "doublingVolts" "I", Cond.methodLink RX4 155 yX2_hoursLeft, Cond.instanceMethod yX2_hoursLeft]
def wsX4_letPass_r4 : List Cond := [Cond.selects RX2 yX2_hoursLeft yX2_hoursLeft, Cond.code yX2_hoursLeft cX2_hoursLeft 5 (some .int), Cond.methodLink RX2 46 Lib.Math.max.name, Cond.fieldLink RX2 22 "LampRacks$Lamps" "canLast" "[I", Cond.fieldLink RX2 25 "LampRacks$Lamps" "wear" "[I", Cond.methodLink RX4 161 yX2_burn, Cond.instanceMethod yX2_burn, Cond.selects RX2 yX2_burn yX2_burn, Cond.code yX2_burn cX2_burn 4 none, Cond.fieldLink RX2 28 "LampRacks$Lamps" "burned" "[I", Cond.methodLink RX4 138 yX3_countHours, Cond.instanceMethod yX3_countHours, Cond.selects RX3 yX3_countHours yX3_countHours, Cond.code yX3_countHours cX3_countHours 5 none]
def wsX4_letPass : List Cond := .code yX4_letPass cX4_letPass 2 (some .int) :: ((wsX4_letPass_r1 ++ (wsX4_letPass_r2 ++ (wsX4_letPass_r3 ++ wsX4_letPass_r4))) ++ wsX40 ++ wsX30 ++ wsX20)
def wsX4_whyDark : List Cond := .code yX4_whyDark cX4_whyDark 3 (some .int) :: ([.fieldLink RX4 31 "LampRacks$State" "lamps" "LLampRacks$Lamps;", .fieldLink RX4 92 "LampRacks$Lamps" "spot" "[I", .fieldLink RX4 38 "LampRacks$State" "racks" "LLampRacks$Racks;", .methodLink RX4 145 yX2_isDead, .instanceMethod yX2_isDead, .selects RX2 yX2_isDead yX2_isDead, .initialized RX2, .code yX2_isDead cX2_isDead 2 (some .boolean), .fieldLink RX2 31 "LampRacks$Lamps" "end" "[I", .methodLink RX4 142 yX3_isDark, .instanceMethod yX3_isDark, .selects RX3 yX3_isDark yX3_isDark, .initialized RX3, .code yX3_isDark cX3_isDark 2 (some .boolean), .fieldLink RX3 15 "LampRacks$Racks" "volts" "[I"] ++ wsX40 ++ wsX20 ++ wsX30)
def wsX4_tellOfLamp_r1 : List Cond := [Cond.fieldLink RX4 31 "LampRacks$State" "lamps" "LLampRacks$Lamps;", Cond.fieldLink RX4 92 "LampRacks$Lamps" "spot" "[I", Cond.fieldLink RX4 171 "LampRacks$Lamps" "batch" "[I", Cond.fieldLink RX4 174 "LampRacks$Lamps" "canLast" "[I", Cond.fieldLink RX4 177 "LampRacks$Lamps" "wear" "[I", Cond.fieldLink RX4 180 "LampRacks$Lamps" "burned" "[I", Cond.fieldLink RX4 165 "LampRacks$Lamps" "end" "[I", Cond.methodLink RX4 168 yX2_has, Cond.instanceMethod yX2_has, Cond.selects RX2 yX2_has yX2_has, Cond.initialized RX2, Cond.code yX2_has cX2_has 2 (some .boolean), Cond.fieldLink RX2 9 "LampRacks$Lamps" "size" "I", Cond.static yX6_isWithin, Cond.initialized RX6, Cond.code yX6_isWithin cX6_isWithin 3 (some .boolean), Cond.methodLink RX4 183 yX2_hoursCounted, Cond.instanceMethod yX2_hoursCounted, Cond.selects RX2 yX2_hoursCounted yX2_hoursCounted, Cond.code yX2_hoursCounted cX2_hoursCounted 2 (some .int), Cond.fieldLink RX2 25 "LampRacks$Lamps" "wear" "[I", Cond.methodLink RX4 145 yX2_isDead, Cond.instanceMethod yX2_isDead, Cond.selects RX2 yX2_isDead yX2_isDead]
def wsX4_tellOfLamp_r2 : List Cond := [Cond.code yX2_isDead cX2_isDead 2 (some .boolean), Cond.fieldLink RX2 31 "LampRacks$Lamps" "end" "[I", Cond.static yX6_oneIf, Cond.code yX6_oneIf cX6_oneIf 1 (some .int), Cond.static yX6_isWeak, Cond.code yX6_isWeak cX6_isWeak 1 (some .boolean), Cond.methodLink RX6 233 yX6_shareOf, Cond.static yX6_shareOf, Cond.code yX6_shareOf cX6_shareOf 1 (some .int)]
def wsX4_tellOfLamp : List Cond := .code yX4_tellOfLamp cX4_tellOfLamp 4 (some .int) :: ((wsX4_tellOfLamp_r1 ++ wsX4_tellOfLamp_r2) ++ wsX40 ++ wsX20)
def wsX4_countInRack : List Cond := .code yX4_countInRack cX4_countInRack 6 (some .int) :: ([.fieldLink RX4 38 "LampRacks$State" "racks" "LLampRacks$Racks;", .fieldLink RX4 75 "LampRacks$Racks" "lampAt" "[I", .fieldLink RX4 31 "LampRacks$State" "lamps" "LLampRacks$Lamps;", .static yX6_spotOf, .initialized RX6, .code yX6_spotOf cX6_spotOf 2 (some .int), .methodLink RX4 145 yX2_isDead, .instanceMethod yX2_isDead, .selects RX2 yX2_isDead yX2_isDead, .initialized RX2, .code yX2_isDead cX2_isDead 2 (some .boolean), .fieldLink RX2 31 "LampRacks$Lamps" "end" "[I", .static yX6_oneIf, .code yX6_oneIf cX6_oneIf 1 (some .int)] ++ wsX40 ++ wsX30 ++ wsX20)
def wsX4_tellOfRack_r1 : List Cond := [Cond.fieldLink RX4 38 "LampRacks$State" "racks" "LLampRacks$Racks;", Cond.fieldLink RX4 101 "LampRacks$Racks" "volts" "[I", Cond.fieldLink RX4 104 "LampRacks$Racks" "stepHours" "[I", Cond.fieldLink RX4 107 "LampRacks$Racks" "stepVolts" "[I", Cond.static yX6_isRack, Cond.initialized RX6, Cond.code yX6_isRack cX6_isRack 1 (some .boolean), Cond.methodLink RX6 117 yX6_isWithin, Cond.static yX6_isWithin, Cond.code yX6_isWithin cX6_isWithin 3 (some .boolean), Cond.methodLink RX4 193 yX4_countInRack, Cond.instanceMethod yX4_countInRack, Cond.selects RX4 yX4_countInRack yX4_countInRack, Cond.initialized RX4, Cond.code yX4_countInRack cX4_countInRack 6 (some .int), Cond.fieldLink RX4 75 "LampRacks$Racks" "lampAt" "[I", Cond.fieldLink RX4 31 "LampRacks$State" "lamps" "LLampRacks$Lamps;", Cond.static yX6_spotOf, Cond.code yX6_spotOf cX6_spotOf 2 (some .int), Cond.methodLink RX4 145 yX2_isDead, Cond.instanceMethod yX2_isDead, Cond.selects RX2 yX2_isDead yX2_isDead, Cond.initialized RX2, Cond.code yX2_isDead cX2_isDead 2 (some .boolean)]
def wsX4_tellOfRack_r2 : List Cond := [Cond.fieldLink RX2 31 "LampRacks$Lamps" "end" "[I", Cond.static yX6_oneIf, Cond.code yX6_oneIf cX6_oneIf 1 (some .int), Cond.methodLink RX4 142 yX3_isDark, Cond.instanceMethod yX3_isDark, Cond.selects RX3 yX3_isDark yX3_isDark, Cond.initialized RX3, Cond.code yX3_isDark cX3_isDark 2 (some .boolean), Cond.fieldLink RX3 15 "LampRacks$Racks" "volts" "[I", Cond.methodLink RX4 151 yX4_wearOfHour, Cond.instanceMethod yX4_wearOfHour, Cond.selects RX4 yX4_wearOfHour yX4_wearOfHour, Cond.code yX4_wearOfHour cX4_wearOfHour 5 (some .int), Cond.fieldLink RX4 15 "LampRacks$State" "wantedVolts" "I", Cond.fieldLink RX4 18 "LampRacks$State" "doublingVolts" "I", Cond.methodLink RX4 130 Lib.Math.max.name, Cond.static Lib.Math.max.name, Cond.initialized "java/lang/Math", Cond.code Lib.Math.max.name Lib.Math.max.code 2 (some .int), Cond.methodLink RX4 196 yX3_hoursToStep, Cond.instanceMethod yX3_hoursToStep, Cond.selects RX3 yX3_hoursToStep yX3_hoursToStep, Cond.code yX3_hoursToStep cX3_hoursToStep 2 (some .int), Cond.fieldLink RX3 18 "LampRacks$Racks" "stepHours" "[I"]
def wsX4_tellOfRack_r3 : List Cond := [Cond.fieldLink RX3 24 "LampRacks$Racks" "hoursOfStep" "[I"]
def wsX4_tellOfRack : List Cond := .code yX4_tellOfRack cX4_tellOfRack 4 (some .int) :: ((wsX4_tellOfRack_r1 ++ (wsX4_tellOfRack_r2 ++ wsX4_tellOfRack_r3)) ++ wsX40 ++ wsX30 ++ wsX20)
def wsX4_tellOfBatch_r1 : List Cond := [Cond.fieldLink RX4 31 "LampRacks$State" "lamps" "LLampRacks$Lamps;", Cond.fieldLink RX4 24 "LampRacks$State" "batches" "LLampRacks$Batches;", Cond.fieldLink RX4 60 "LampRacks$Batches" "life" "[I", Cond.fieldLink RX4 64 "LampRacks$Batches" "spread" "[I", Cond.static yX6_isBatch, Cond.initialized RX6, Cond.code yX6_isBatch cX6_isBatch 1 (some .boolean), Cond.methodLink RX6 117 yX6_isWithin, Cond.static yX6_isWithin, Cond.code yX6_isWithin cX6_isWithin 3 (some .boolean), Cond.methodLink RX4 199 yX2_countDeadOf, Cond.instanceMethod yX2_countDeadOf, Cond.selects RX2 yX2_countDeadOf yX2_countDeadOf, Cond.initialized RX2, Cond.code yX2_countDeadOf cX2_countDeadOf 4 (some .int), Cond.fieldLink RX2 9 "LampRacks$Lamps" "size" "I", Cond.methodLink RX2 56 yX2_isDeadOf, Cond.instanceMethod yX2_isDeadOf, Cond.selects RX2 yX2_isDeadOf yX2_isDeadOf, Cond.code yX2_isDeadOf cX2_isDeadOf 3 (some .boolean), Cond.fieldLink RX2 15 "LampRacks$Lamps" "batch" "[I", Cond.methodLink RX2 42 yX2_isDead, Cond.instanceMethod yX2_isDead, Cond.selects RX2 yX2_isDead yX2_isDead]
def wsX4_tellOfBatch_r2 : List Cond := [Cond.code yX2_isDead cX2_isDead 2 (some .boolean), Cond.fieldLink RX2 31 "LampRacks$Lamps" "end" "[I", Cond.static yX6_oneIf, Cond.code yX6_oneIf cX6_oneIf 1 (some .int), Cond.methodLink RX4 202 yX2_countDeadBelow, Cond.instanceMethod yX2_countDeadBelow, Cond.selects RX2 yX2_countDeadBelow yX2_countDeadBelow, Cond.code yX2_countDeadBelow cX2_countDeadBelow 5 (some .int), Cond.methodLink RX2 60 yX2_hoursCounted, Cond.instanceMethod yX2_hoursCounted, Cond.selects RX2 yX2_hoursCounted yX2_hoursCounted, Cond.code yX2_hoursCounted cX2_hoursCounted 2 (some .int), Cond.fieldLink RX2 25 "LampRacks$Lamps" "wear" "[I", Cond.methodLink RX4 205 yX2_countOf, Cond.instanceMethod yX2_countOf, Cond.selects RX2 yX2_countOf yX2_countOf, Cond.code yX2_countOf cX2_countOf 4 (some .int), Cond.methodLink RX4 208 yX2_middleLife, Cond.instanceMethod yX2_middleLife, Cond.selects RX2 yX2_middleLife yX2_middleLife, Cond.code yX2_middleLife cX2_middleLife 4 (some .int), Cond.methodLink RX2 73 yX2_countOf, Cond.methodLink RX2 76 yX2_countShorterOf, Cond.instanceMethod yX2_countShorterOf]
def wsX4_tellOfBatch_r3 : List Cond := [Cond.selects RX2 yX2_countShorterOf yX2_countShorterOf, Cond.code yX2_countShorterOf cX2_countShorterOf 8 (some .int)]
def wsX4_tellOfBatch : List Cond := .code yX4_tellOfBatch cX4_tellOfBatch 5 (some .int) :: ((wsX4_tellOfBatch_r1 ++ (wsX4_tellOfBatch_r2 ++ wsX4_tellOfBatch_r3)) ++ wsX40 ++ wsX00 ++ wsX20)
def wsX4_countBurning : List Cond := .code yX4_countBurning cX4_countBurning 3 (some .int) :: ([.fieldLink RX4 31 "LampRacks$State" "lamps" "LLampRacks$Lamps;", .fieldLink RX4 82 "LampRacks$Lamps" "size" "I", .methodLink RX4 228 yX4_whyDark, .instanceMethod yX4_whyDark, .selects RX4 yX4_whyDark yX4_whyDark, .initialized RX4, .code yX4_whyDark cX4_whyDark 3 (some .int), .fieldLink RX4 92 "LampRacks$Lamps" "spot" "[I", .fieldLink RX4 38 "LampRacks$State" "racks" "LLampRacks$Racks;", .methodLink RX4 145 yX2_isDead, .instanceMethod yX2_isDead, .selects RX2 yX2_isDead yX2_isDead, .initialized RX2, .code yX2_isDead cX2_isDead 2 (some .boolean), .fieldLink RX2 31 "LampRacks$Lamps" "end" "[I", .methodLink RX4 142 yX3_isDark, .instanceMethod yX3_isDark, .selects RX3 yX3_isDark yX3_isDark, .initialized RX3, .code yX3_isDark cX3_isDark 2 (some .boolean), .fieldLink RX3 15 "LampRacks$Racks" "volts" "[I", .static yX6_oneIf, .initialized RX6, .code yX6_oneIf cX6_oneIf 1 (some .int)] ++ wsX40 ++ wsX20 ++ wsX30)
def wsX4_tellOfAll_r1 : List Cond := [Cond.fieldLink RX4 9 "LampRacks$State" "hour" "I", Cond.fieldLink RX4 31 "LampRacks$State" "lamps" "LLampRacks$Lamps;", Cond.fieldLink RX4 82 "LampRacks$Lamps" "size" "I", Cond.fieldLink RX4 180 "LampRacks$Lamps" "burned" "[I", Cond.fieldLink RX4 177 "LampRacks$Lamps" "wear" "[I", Cond.fieldLink RX4 15 "LampRacks$State" "wantedVolts" "I", Cond.fieldLink RX4 18 "LampRacks$State" "doublingVolts" "I", Cond.methodLink RX4 211 yX2_countInRacks, Cond.instanceMethod yX2_countInRacks, Cond.selects RX2 yX2_countInRacks yX2_countInRacks, Cond.initialized RX2, Cond.code yX2_countInRacks cX2_countInRacks 3 (some .int), Cond.fieldLink RX2 9 "LampRacks$Lamps" "size" "I", Cond.fieldLink RX2 19 "LampRacks$Lamps" "spot" "[I", Cond.static yX6_oneIf, Cond.initialized RX6, Cond.code yX6_oneIf cX6_oneIf 1 (some .int), Cond.methodLink RX4 215 yX4_countBurning, Cond.instanceMethod yX4_countBurning, Cond.selects RX4 yX4_countBurning yX4_countBurning, Cond.initialized RX4, Cond.code yX4_countBurning cX4_countBurning 3 (some .int), Cond.methodLink RX4 228 yX4_whyDark, Cond.instanceMethod yX4_whyDark]
def wsX4_tellOfAll_r2 : List Cond := [Cond.selects RX4 yX4_whyDark yX4_whyDark, Cond.code yX4_whyDark cX4_whyDark 3 (some .int), Cond.fieldLink RX4 92 "LampRacks$Lamps" "spot" "[I", Cond.fieldLink RX4 38 "LampRacks$State" "racks" "LLampRacks$Racks;", Cond.methodLink RX4 145 yX2_isDead, Cond.instanceMethod yX2_isDead, Cond.selects RX2 yX2_isDead yX2_isDead, Cond.code yX2_isDead cX2_isDead 2 (some .boolean), Cond.fieldLink RX2 31 "LampRacks$Lamps" "end" "[I", Cond.methodLink RX4 142 yX3_isDark, Cond.instanceMethod yX3_isDark, Cond.selects RX3 yX3_isDark yX3_isDark, Cond.initialized RX3, Cond.code yX3_isDark cX3_isDark 2 (some .boolean), Cond.fieldLink RX3 15 "LampRacks$Racks" "volts" "[I", Cond.methodLink RX4 218 yX2_countDead, Cond.instanceMethod yX2_countDead, Cond.selects RX2 yX2_countDead yX2_countDead, Cond.code yX2_countDead cX2_countDead 3 (some .int), Cond.methodLink RX2 42 yX2_isDead, Cond.methodLink RX4 221 yX2_countWeak, Cond.instanceMethod yX2_countWeak, Cond.selects RX2 yX2_countWeak yX2_countWeak, Cond.code yX2_countWeak cX2_countWeak 3 (some .int)]
def wsX4_tellOfAll_r3 : List Cond := [Cond.static yX6_isWeak, Cond.code yX6_isWeak cX6_isWeak 1 (some .boolean), Cond.methodLink RX6 233 yX6_shareOf, Cond.static yX6_shareOf, Cond.code yX6_shareOf cX6_shareOf 1 (some .int), Cond.methodLink RX4 224 yX2_sumOf, Cond.instanceMethod yX2_sumOf, Cond.selects RX2 yX2_sumOf yX2_sumOf, Cond.code yX2_sumOf cX2_sumOf 4 (some .int), Cond.methodLink RX2 67 Lib.Math.min.name, Cond.static Lib.Math.min.name, Cond.initialized "java/lang/Math", Cond.code Lib.Math.min.name Lib.Math.min.code 2 (some .int)]
def wsX4_tellOfAll : List Cond := .code yX4_tellOfAll cX4_tellOfAll 2 (some .int) :: ((wsX4_tellOfAll_r1 ++ (wsX4_tellOfAll_r2 ++ wsX4_tellOfAll_r3)) ++ wsX40 ++ wsX20 ++ wsX30)
def wsX5_init : List Cond := .code yX5_init cX5_init 1 none :: ([.methodLink RX5 3 objectInit, .instanceMethod objectInit, .code objectInit ⟨#[0xb1]⟩ 1 none, .fieldLink RX5 9 "LampRacks$Text" "length" "I", .arrayClass .char, .fieldLink RX5 15 "LampRacks$Text" "characters" "[C", .fieldLink RX5 19 "LampRacks$Text" "position" "I", .fieldLink RX5 22 "LampRacks$Text" "things" "I", .fieldLink RX5 25 "LampRacks$Text" "kind" "I", .fieldLink RX5 28 "LampRacks$Text" "rack" "I", .fieldLink RX5 31 "LampRacks$Text" "place" "I", .fieldLink RX5 34 "LampRacks$Text" "hours" "I", .fieldLink RX5 37 "LampRacks$Text" "direction" "I", .fieldLink RX5 40 "LampRacks$Text" "number" "I"] ++ wsX50)
def wsX5_append : List Cond := .code yX5_append cX5_append 2 (some .int) :: ([.fieldLink RX5 9 "LampRacks$Text" "length" "I", .fieldLink RX5 15 "LampRacks$Text" "characters" "[C"] ++ wsX50)
def wsX5_empty : List Cond := .code yX5_empty cX5_empty 2 (some .int) :: ([.fieldLink RX5 9 "LampRacks$Text" "length" "I"] ++ wsX50)
def wsX5_startReading : List Cond := .code yX5_startReading cX5_startReading 1 none :: ([.fieldLink RX5 19 "LampRacks$Text" "position" "I"] ++ wsX50)
def wsX5_current : List Cond := .code yX5_current cX5_current 1 (some .int) :: ([.fieldLink RX5 19 "LampRacks$Text" "position" "I", .fieldLink RX5 9 "LampRacks$Text" "length" "I", .fieldLink RX5 15 "LampRacks$Text" "characters" "[C"] ++ wsX50)
def wsX5_readSign : List Cond := .code yX5_readSign cX5_readSign 2 (some .boolean) :: ([.fieldLink RX5 19 "LampRacks$Text" "position" "I", .methodLink RX5 54 yX5_current, .instanceMethod yX5_current, .selects RX5 yX5_current yX5_current, .initialized RX5, .code yX5_current cX5_current 1 (some .int), .fieldLink RX5 9 "LampRacks$Text" "length" "I", .fieldLink RX5 15 "LampRacks$Text" "characters" "[C"] ++ wsX50)
def wsX5_readDigit : List Cond := .code yX5_readDigit cX5_readDigit 2 (some .boolean) :: ([.fieldLink RX5 40 "LampRacks$Text" "number" "I", .fieldLink RX5 19 "LampRacks$Text" "position" "I", .methodLink RX5 54 yX5_current, .instanceMethod yX5_current, .selects RX5 yX5_current yX5_current, .initialized RX5, .code yX5_current cX5_current 1 (some .int), .fieldLink RX5 9 "LampRacks$Text" "length" "I", .fieldLink RX5 15 "LampRacks$Text" "characters" "[C", .static yX6_isWithin, .initialized RX6, .code yX6_isWithin cX6_isWithin 3 (some .boolean)] ++ wsX50)
def wsX5_readRack : List Cond := .code yX5_readRack cX5_readRack 1 (some .boolean) :: ([.fieldLink RX5 40 "LampRacks$Text" "number" "I", .fieldLink RX5 28 "LampRacks$Text" "rack" "I", .methodLink RX5 61 yX5_readDigit, .instanceMethod yX5_readDigit, .selects RX5 yX5_readDigit yX5_readDigit, .initialized RX5, .code yX5_readDigit cX5_readDigit 2 (some .boolean), .fieldLink RX5 19 "LampRacks$Text" "position" "I", .methodLink RX5 54 yX5_current, .instanceMethod yX5_current, .selects RX5 yX5_current yX5_current, .code yX5_current cX5_current 1 (some .int), .fieldLink RX5 9 "LampRacks$Text" "length" "I", .fieldLink RX5 15 "LampRacks$Text" "characters" "[C", .static yX6_isWithin, .initialized RX6, .code yX6_isWithin cX6_isWithin 3 (some .boolean)] ++ wsX50)
def wsX5_readSpot : List Cond := .code yX5_readSpot cX5_readSpot 1 (some .boolean) :: ([.fieldLink RX5 40 "LampRacks$Text" "number" "I", .fieldLink RX5 31 "LampRacks$Text" "place" "I", .methodLink RX5 75 yX5_readRack, .instanceMethod yX5_readRack, .selects RX5 yX5_readRack yX5_readRack, .initialized RX5, .code yX5_readRack cX5_readRack 1 (some .boolean), .fieldLink RX5 28 "LampRacks$Text" "rack" "I", .methodLink RX5 61 yX5_readDigit, .instanceMethod yX5_readDigit, .selects RX5 yX5_readDigit yX5_readDigit, .code yX5_readDigit cX5_readDigit 2 (some .boolean), .fieldLink RX5 19 "LampRacks$Text" "position" "I", .methodLink RX5 54 yX5_current, .instanceMethod yX5_current, .selects RX5 yX5_current yX5_current, .code yX5_current cX5_current 1 (some .int), .fieldLink RX5 9 "LampRacks$Text" "length" "I", .fieldLink RX5 15 "LampRacks$Text" "characters" "[C", .static yX6_isWithin, .initialized RX6, .code yX6_isWithin cX6_isWithin 3 (some .boolean)] ++ wsX50)
def wsX5_readRackAndColon_r1 : List Cond := [Cond.methodLink RX5 75 yX5_readRack, Cond.instanceMethod yX5_readRack, Cond.selects RX5 yX5_readRack yX5_readRack, Cond.initialized RX5, Cond.code yX5_readRack cX5_readRack 1 (some .boolean), Cond.fieldLink RX5 40 "LampRacks$Text" "number" "I", Cond.fieldLink RX5 28 "LampRacks$Text" "rack" "I", Cond.methodLink RX5 61 yX5_readDigit, Cond.instanceMethod yX5_readDigit, Cond.selects RX5 yX5_readDigit yX5_readDigit, Cond.code yX5_readDigit cX5_readDigit 2 (some .boolean), Cond.fieldLink RX5 19 "LampRacks$Text" "position" "I", Cond.methodLink RX5 54 yX5_current, Cond.instanceMethod yX5_current, Cond.selects RX5 yX5_current yX5_current, Cond.code yX5_current cX5_current 1 (some .int), Cond.fieldLink RX5 9 "LampRacks$Text" "length" "I", Cond.fieldLink RX5 15 "LampRacks$Text" "characters" "[C", Cond.static yX6_isWithin, Cond.initialized RX6, Cond.code yX6_isWithin cX6_isWithin 3 (some .boolean), Cond.methodLink RX5 50 yX5_readSign, Cond.instanceMethod yX5_readSign, Cond.selects RX5 yX5_readSign yX5_readSign]
def wsX5_readRackAndColon_r2 : List Cond := [Cond.code yX5_readSign cX5_readSign 2 (some .boolean)]
def wsX5_readRackAndColon : List Cond := .code yX5_readRackAndColon cX5_readRackAndColon 1 (some .boolean) :: ((wsX5_readRackAndColon_r1 ++ wsX5_readRackAndColon_r2) ++ wsX50)
def wsX5_isNextDigit : List Cond := .code yX5_isNextDigit cX5_isNextDigit 2 (some .boolean) :: ([.fieldLink RX5 40 "LampRacks$Text" "number" "I", .methodLink RX5 54 yX5_current, .instanceMethod yX5_current, .selects RX5 yX5_current yX5_current, .initialized RX5, .code yX5_current cX5_current 1 (some .int), .fieldLink RX5 19 "LampRacks$Text" "position" "I", .fieldLink RX5 9 "LampRacks$Text" "length" "I", .fieldLink RX5 15 "LampRacks$Text" "characters" "[C", .static yX6_isWithin, .initialized RX6, .code yX6_isWithin cX6_isWithin 3 (some .boolean)] ++ wsX50)
def wsX5_readNumber : List Cond := .code yX5_readNumber cX5_readNumber 3 (some .boolean) :: ([.fieldLink RX5 40 "LampRacks$Text" "number" "I", .fieldLink RX5 19 "LampRacks$Text" "position" "I", .fieldLink RX5 9 "LampRacks$Text" "length" "I", .methodLink RX5 54 yX5_current, .instanceMethod yX5_current, .selects RX5 yX5_current yX5_current, .initialized RX5, .code yX5_current cX5_current 1 (some .int), .fieldLink RX5 15 "LampRacks$Text" "characters" "[C", .static yX6_isWithin, .initialized RX6, .code yX6_isWithin cX6_isWithin 3 (some .boolean), .methodLink RX5 85 yX5_isNextDigit, .instanceMethod yX5_isNextDigit, .selects RX5 yX5_isNextDigit yX5_isNextDigit, .code yX5_isNextDigit cX5_isNextDigit 2 (some .boolean)] ++ wsX50)
def wsX5_readDirection : List Cond := .code yX5_readDirection cX5_readDirection 1 (some .boolean) :: ([.fieldLink RX5 37 "LampRacks$Text" "direction" "I", .methodLink RX5 54 yX5_current, .instanceMethod yX5_current, .selects RX5 yX5_current yX5_current, .initialized RX5, .code yX5_current cX5_current 1 (some .int), .fieldLink RX5 19 "LampRacks$Text" "position" "I", .fieldLink RX5 9 "LampRacks$Text" "length" "I", .fieldLink RX5 15 "LampRacks$Text" "characters" "[C", .methodLink RX5 50 yX5_readSign, .instanceMethod yX5_readSign, .selects RX5 yX5_readSign yX5_readSign, .code yX5_readSign cX5_readSign 2 (some .boolean)] ++ wsX50)
def wsX5_readSteps_r1 : List Cond := [Cond.fieldLink RX5 40 "LampRacks$Text" "number" "I", Cond.fieldLink RX5 34 "LampRacks$Text" "hours" "I", Cond.methodLink RX5 68 yX5_readNumber, Cond.instanceMethod yX5_readNumber, Cond.selects RX5 yX5_readNumber yX5_readNumber, Cond.initialized RX5, Cond.code yX5_readNumber cX5_readNumber 3 (some .boolean), Cond.fieldLink RX5 19 "LampRacks$Text" "position" "I", Cond.fieldLink RX5 9 "LampRacks$Text" "length" "I", Cond.methodLink RX5 54 yX5_current, Cond.instanceMethod yX5_current, Cond.selects RX5 yX5_current yX5_current, Cond.code yX5_current cX5_current 1 (some .int), Cond.fieldLink RX5 15 "LampRacks$Text" "characters" "[C", Cond.static yX6_isWithin, Cond.initialized RX6, Cond.code yX6_isWithin cX6_isWithin 3 (some .boolean), Cond.methodLink RX5 85 yX5_isNextDigit, Cond.instanceMethod yX5_isNextDigit, Cond.selects RX5 yX5_isNextDigit yX5_isNextDigit, Cond.code yX5_isNextDigit cX5_isNextDigit 2 (some .boolean), Cond.methodLink RX5 78 yX5_readDirection, Cond.instanceMethod yX5_readDirection, Cond.selects RX5 yX5_readDirection yX5_readDirection]
def wsX5_readSteps_r2 : List Cond := [Cond.code yX5_readDirection cX5_readDirection 1 (some .boolean), Cond.fieldLink RX5 37 "LampRacks$Text" "direction" "I", Cond.methodLink RX5 50 yX5_readSign, Cond.instanceMethod yX5_readSign, Cond.selects RX5 yX5_readSign yX5_readSign, Cond.code yX5_readSign cX5_readSign 2 (some .boolean)]
def wsX5_readSteps : List Cond := .code yX5_readSteps cX5_readSteps 1 (some .boolean) :: ((wsX5_readSteps_r1 ++ wsX5_readSteps_r2) ++ wsX50)
def wsX5_readThing_r1 : List Cond := [Cond.fieldLink RX5 25 "LampRacks$Text" "kind" "I", Cond.methodLink RX5 54 yX5_current, Cond.instanceMethod yX5_current, Cond.selects RX5 yX5_current yX5_current, Cond.initialized RX5, Cond.code yX5_current cX5_current 1 (some .int), Cond.fieldLink RX5 19 "LampRacks$Text" "position" "I", Cond.fieldLink RX5 9 "LampRacks$Text" "length" "I", Cond.fieldLink RX5 15 "LampRacks$Text" "characters" "[C", Cond.methodLink RX5 50 yX5_readSign, Cond.instanceMethod yX5_readSign, Cond.selects RX5 yX5_readSign yX5_readSign, Cond.code yX5_readSign cX5_readSign 2 (some .boolean), Cond.methodLink RX5 58 yX5_readSpot, Cond.instanceMethod yX5_readSpot, Cond.selects RX5 yX5_readSpot yX5_readSpot, Cond.code yX5_readSpot cX5_readSpot 1 (some .boolean), Cond.fieldLink RX5 40 "LampRacks$Text" "number" "I", Cond.fieldLink RX5 31 "LampRacks$Text" "place" "I", Cond.methodLink RX5 75 yX5_readRack, Cond.instanceMethod yX5_readRack, Cond.selects RX5 yX5_readRack yX5_readRack, Cond.code yX5_readRack cX5_readRack 1 (some .boolean), Cond.fieldLink RX5 28 "LampRacks$Text" "rack" "I"]
def wsX5_readThing_r2 : List Cond := [Cond.methodLink RX5 61 yX5_readDigit, Cond.instanceMethod yX5_readDigit, Cond.selects RX5 yX5_readDigit yX5_readDigit, Cond.code yX5_readDigit cX5_readDigit 2 (some .boolean), Cond.static yX6_isWithin, Cond.initialized RX6, Cond.code yX6_isWithin cX6_isWithin 3 (some .boolean), Cond.methodLink RX5 65 yX5_readRackAndColon, Cond.instanceMethod yX5_readRackAndColon, Cond.selects RX5 yX5_readRackAndColon yX5_readRackAndColon, Cond.code yX5_readRackAndColon cX5_readRackAndColon 1 (some .boolean), Cond.methodLink RX5 68 yX5_readNumber, Cond.instanceMethod yX5_readNumber, Cond.selects RX5 yX5_readNumber yX5_readNumber, Cond.code yX5_readNumber cX5_readNumber 3 (some .boolean), Cond.methodLink RX5 85 yX5_isNextDigit, Cond.instanceMethod yX5_isNextDigit, Cond.selects RX5 yX5_isNextDigit yX5_isNextDigit, Cond.code yX5_isNextDigit cX5_isNextDigit 2 (some .boolean), Cond.methodLink RX5 72 yX5_readSteps, Cond.instanceMethod yX5_readSteps, Cond.selects RX5 yX5_readSteps yX5_readSteps, Cond.code yX5_readSteps cX5_readSteps 1 (some .boolean), Cond.fieldLink RX5 34 "LampRacks$Text" "hours" "I"]
def wsX5_readThing_r3 : List Cond := [Cond.methodLink RX5 78 yX5_readDirection, Cond.instanceMethod yX5_readDirection, Cond.selects RX5 yX5_readDirection yX5_readDirection, Cond.code yX5_readDirection cX5_readDirection 1 (some .boolean), Cond.fieldLink RX5 37 "LampRacks$Text" "direction" "I"]
def wsX5_readThing : List Cond := .code yX5_readThing cX5_readThing 1 (some .boolean) :: ((wsX5_readThing_r1 ++ (wsX5_readThing_r2 ++ wsX5_readThing_r3)) ++ wsX50)
def wsX5_findFault_r1 : List Cond := [Cond.fieldLink RX5 22 "LampRacks$Text" "things" "I", Cond.fieldLink RX5 19 "LampRacks$Text" "position" "I", Cond.fieldLink RX5 9 "LampRacks$Text" "length" "I", Cond.methodLink RX5 43 yX5_startReading, Cond.instanceMethod yX5_startReading, Cond.selects RX5 yX5_startReading yX5_startReading, Cond.initialized RX5, Cond.code yX5_startReading cX5_startReading 1 none, Cond.methodLink RX5 46 yX5_readThing, Cond.instanceMethod yX5_readThing, Cond.selects RX5 yX5_readThing yX5_readThing, Cond.code yX5_readThing cX5_readThing 1 (some .boolean), Cond.fieldLink RX5 25 "LampRacks$Text" "kind" "I", Cond.methodLink RX5 54 yX5_current, Cond.instanceMethod yX5_current, Cond.selects RX5 yX5_current yX5_current, Cond.code yX5_current cX5_current 1 (some .int), Cond.fieldLink RX5 15 "LampRacks$Text" "characters" "[C", Cond.methodLink RX5 50 yX5_readSign, Cond.instanceMethod yX5_readSign, Cond.selects RX5 yX5_readSign yX5_readSign, Cond.code yX5_readSign cX5_readSign 2 (some .boolean), Cond.methodLink RX5 58 yX5_readSpot, Cond.instanceMethod yX5_readSpot]
def wsX5_findFault_r2 : List Cond := [Cond.selects RX5 yX5_readSpot yX5_readSpot, Cond.code yX5_readSpot cX5_readSpot 1 (some .boolean), Cond.fieldLink RX5 40 "LampRacks$Text" "number" "I", Cond.fieldLink RX5 31 "LampRacks$Text" "place" "I", Cond.methodLink RX5 75 yX5_readRack, Cond.instanceMethod yX5_readRack, Cond.selects RX5 yX5_readRack yX5_readRack, Cond.code yX5_readRack cX5_readRack 1 (some .boolean), Cond.fieldLink RX5 28 "LampRacks$Text" "rack" "I", Cond.methodLink RX5 61 yX5_readDigit, Cond.instanceMethod yX5_readDigit, Cond.selects RX5 yX5_readDigit yX5_readDigit, Cond.code yX5_readDigit cX5_readDigit 2 (some .boolean), Cond.static yX6_isWithin, Cond.initialized RX6, Cond.code yX6_isWithin cX6_isWithin 3 (some .boolean), Cond.methodLink RX5 65 yX5_readRackAndColon, Cond.instanceMethod yX5_readRackAndColon, Cond.selects RX5 yX5_readRackAndColon yX5_readRackAndColon, Cond.code yX5_readRackAndColon cX5_readRackAndColon 1 (some .boolean), Cond.methodLink RX5 68 yX5_readNumber, Cond.instanceMethod yX5_readNumber, Cond.selects RX5 yX5_readNumber yX5_readNumber, Cond.code yX5_readNumber cX5_readNumber 3 (some .boolean)]
def wsX5_findFault_r3 : List Cond := [Cond.methodLink RX5 85 yX5_isNextDigit, Cond.instanceMethod yX5_isNextDigit, Cond.selects RX5 yX5_isNextDigit yX5_isNextDigit, Cond.code yX5_isNextDigit cX5_isNextDigit 2 (some .boolean), Cond.methodLink RX5 72 yX5_readSteps, Cond.instanceMethod yX5_readSteps, Cond.selects RX5 yX5_readSteps yX5_readSteps, Cond.code yX5_readSteps cX5_readSteps 1 (some .boolean), Cond.fieldLink RX5 34 "LampRacks$Text" "hours" "I", Cond.methodLink RX5 78 yX5_readDirection, Cond.instanceMethod yX5_readDirection, Cond.selects RX5 yX5_readDirection yX5_readDirection, Cond.code yX5_readDirection cX5_readDirection 1 (some .boolean), Cond.fieldLink RX5 37 "LampRacks$Text" "direction" "I"]
def wsX5_findFault : List Cond := .code yX5_findFault cX5_findFault 2 (some .int) :: ((wsX5_findFault_r1 ++ (wsX5_findFault_r2 ++ wsX5_findFault_r3)) ++ wsX50)
def wsX6_init_r1 : List Cond := [Cond.methodLink RX6 1 objectInit, Cond.instanceMethod objectInit, Cond.code objectInit ⟨#[0xb1]⟩ 1 none, Cond.classLink RX6 7 RX4, Cond.instantiable RX4 6, Cond.initialized RX4, Cond.fieldLink RX6 10 "LampRacks" "now" "LLampRacks$State;", Cond.fieldLink RX6 16 "LampRacks" "before" "LLampRacks$State;", Cond.fieldLink RX6 19 "LampRacks" "ahead" "LLampRacks$State;", Cond.fieldLink RX6 22 "LampRacks" "snapshot" "LLampRacks$State;", Cond.fieldLink RX6 25 "LampRacks" "hasSnapshot" "Z", Cond.classLink RX6 29 RX1, Cond.instantiable RX1 2, Cond.initialized RX1, Cond.fieldLink RX6 32 "LampRacks" "history" "LLampRacks$History;", Cond.classLink RX6 36 RX5, Cond.instantiable RX5 10, Cond.initialized RX5, Cond.fieldLink RX6 39 "LampRacks" "text" "LLampRacks$Text;", Cond.fieldLink RX6 43 "LampRacks" "stoppedThing" "I", Cond.fieldLink RX6 47 "LampRacks" "stoppedError" "I", Cond.instanceMethod yX4_init, Cond.code yX4_init cX4_init 1 none, Cond.methodLink RX4 3 objectInit]
def wsX6_init_r2 : List Cond := [Cond.fieldLink RX4 9 "LampRacks$State" "hour" "I", Cond.fieldLink RX4 15 "LampRacks$State" "wantedVolts" "I", Cond.fieldLink RX4 18 "LampRacks$State" "doublingVolts" "I", Cond.classLink RX4 21 RX0, Cond.instantiable RX0 2, Cond.initialized RX0, Cond.fieldLink RX4 24 "LampRacks$State" "batches" "LLampRacks$Batches;", Cond.classLink RX4 28 RX2, Cond.instantiable RX2 7, Cond.initialized RX2, Cond.fieldLink RX4 31 "LampRacks$State" "lamps" "LLampRacks$Lamps;", Cond.classLink RX4 35 RX3, Cond.instantiable RX3 5, Cond.initialized RX3, Cond.fieldLink RX4 38 "LampRacks$State" "racks" "LLampRacks$Racks;", Cond.methodLink RX4 23 yX0_init, Cond.instanceMethod yX0_init, Cond.code yX0_init cX0_init 2 none, Cond.methodLink RX0 3 objectInit, Cond.arrayClass .int, Cond.fieldLink RX0 9 "LampRacks$Batches" "life" "[I", Cond.fieldLink RX0 15 "LampRacks$Batches" "spread" "[I", Cond.instanceMethod yX2_init, Cond.code yX2_init cX2_init 1 none]
def wsX6_init_r3 : List Cond := [Cond.methodLink RX2 3 objectInit, Cond.fieldLink RX2 9 "LampRacks$Lamps" "size" "I", Cond.fieldLink RX2 15 "LampRacks$Lamps" "batch" "[I", Cond.fieldLink RX2 19 "LampRacks$Lamps" "spot" "[I", Cond.fieldLink RX2 22 "LampRacks$Lamps" "canLast" "[I", Cond.fieldLink RX2 25 "LampRacks$Lamps" "wear" "[I", Cond.fieldLink RX2 28 "LampRacks$Lamps" "burned" "[I", Cond.fieldLink RX2 31 "LampRacks$Lamps" "end" "[I", Cond.methodLink RX4 37 yX3_init, Cond.instanceMethod yX3_init, Cond.code yX3_init cX3_init 1 none, Cond.methodLink RX3 3 objectInit, Cond.fieldLink RX3 9 "LampRacks$Racks" "lampAt" "[I", Cond.fieldLink RX3 15 "LampRacks$Racks" "volts" "[I", Cond.fieldLink RX3 18 "LampRacks$Racks" "stepHours" "[I", Cond.fieldLink RX3 21 "LampRacks$Racks" "stepVolts" "[I", Cond.fieldLink RX3 24 "LampRacks$Racks" "hoursOfStep" "[I", Cond.methodLink RX3 27 yJ7_fill_53178, Cond.static yJ7_fill_53178, Cond.initialized RJ7, Cond.code yJ7_fill_53178 cJ7_fill_53178 4 none, Cond.methodLink RX6 31 yX1_init, Cond.instanceMethod yX1_init, Cond.code yX1_init cX1_init 2 none]
def wsX6_init_r4 : List Cond := [Cond.methodLink RX1 3 objectInit, Cond.fieldLink RX1 9 "LampRacks$History" "size" "I", Cond.classLink RX1 15 RX4, Cond.fieldLink RX1 17 "LampRacks$History" "states" "[LLampRacks$State;", Cond.instanceMethod yX5_init, Cond.code yX5_init cX5_init 1 none, Cond.methodLink RX5 3 objectInit, Cond.fieldLink RX5 9 "LampRacks$Text" "length" "I", Cond.arrayClass .char, Cond.fieldLink RX5 15 "LampRacks$Text" "characters" "[C", Cond.fieldLink RX5 19 "LampRacks$Text" "position" "I", Cond.fieldLink RX5 22 "LampRacks$Text" "things" "I", Cond.fieldLink RX5 25 "LampRacks$Text" "kind" "I", Cond.fieldLink RX5 28 "LampRacks$Text" "rack" "I", Cond.fieldLink RX5 31 "LampRacks$Text" "place" "I", Cond.fieldLink RX5 34 "LampRacks$Text" "hours" "I", Cond.fieldLink RX5 37 "LampRacks$Text" "direction" "I", Cond.fieldLink RX5 40 "LampRacks$Text" "number" "I"]
def wsX6_init : List Cond := .code yX6_init cX6_init 1 none :: ((wsX6_init_r1 ++ (wsX6_init_r2 ++ (wsX6_init_r3 ++ wsX6_init_r4))) ++ wsX40 ++ wsX60 ++ wsX10 ++ wsX50 ++ wsX00 ++ wsX20 ++ wsX30)
def wsX6_recorded_r1 : List Cond := [Cond.fieldLink RX6 32 "LampRacks" "history" "LLampRacks$History;", Cond.fieldLink RX6 16 "LampRacks" "before" "LLampRacks$State;", Cond.methodLink RX6 210 yX1_append, Cond.instanceMethod yX1_append, Cond.selects RX1 yX1_append yX1_append, Cond.initialized RX1, Cond.code yX1_append cX1_append 2 none, Cond.fieldLink RX1 9 "LampRacks$History" "size" "I", Cond.fieldLink RX1 17 "LampRacks$History" "states" "[LLampRacks$State;", Cond.methodLink RX1 22 yX1_dropOldest, Cond.instanceMethod yX1_dropOldest, Cond.selects RX1 yX1_dropOldest yX1_dropOldest, Cond.code yX1_dropOldest cX1_dropOldest 3 none, Cond.methodLink RX1 25 yX4_copyFrom, Cond.instanceMethod yX4_copyFrom, Cond.selects RX4 yX4_copyFrom yX4_copyFrom, Cond.initialized RX4, Cond.code yX4_copyFrom cX4_copyFrom 2 none, Cond.fieldLink RX4 9 "LampRacks$State" "hour" "I", Cond.fieldLink RX4 15 "LampRacks$State" "wantedVolts" "I", Cond.fieldLink RX4 18 "LampRacks$State" "doublingVolts" "I", Cond.fieldLink RX4 24 "LampRacks$State" "batches" "LLampRacks$Batches;", Cond.fieldLink RX4 31 "LampRacks$State" "lamps" "LLampRacks$Lamps;", Cond.fieldLink RX4 38 "LampRacks$State" "racks" "LLampRacks$Racks;"]
def wsX6_recorded_r2 : List Cond := [Cond.methodLink RX4 42 yX0_copyFrom, Cond.instanceMethod yX0_copyFrom, Cond.selects RX0 yX0_copyFrom yX0_copyFrom, Cond.initialized RX0, Cond.code yX0_copyFrom cX0_copyFrom 2 none, Cond.fieldLink RX0 9 "LampRacks$Batches" "life" "[I", Cond.fieldLink RX0 15 "LampRacks$Batches" "spread" "[I", Cond.static yX6_copy, Cond.initialized RX6, Cond.code yX6_copy cX6_copy 2 none, Cond.methodLink RX6 236 Lib.Math.min.name, Cond.static Lib.Math.min.name, Cond.initialized "java/lang/Math", Cond.code Lib.Math.min.name Lib.Math.min.code 2 (some .int), Cond.methodLink RX6 241 arraycopyName, Cond.native arraycopyName, Cond.static arraycopyName, Cond.initialized "java/lang/System", Cond.methodLink RX4 46 yX2_copyFrom, Cond.instanceMethod yX2_copyFrom, Cond.selects RX2 yX2_copyFrom yX2_copyFrom, Cond.initialized RX2, Cond.code yX2_copyFrom cX2_copyFrom 2 none, Cond.fieldLink RX2 9 "LampRacks$Lamps" "size" "I"]
def wsX6_recorded_r3 : List Cond := [Cond.fieldLink RX2 15 "LampRacks$Lamps" "batch" "[I", Cond.fieldLink RX2 19 "LampRacks$Lamps" "spot" "[I", Cond.fieldLink RX2 22 "LampRacks$Lamps" "canLast" "[I", Cond.fieldLink RX2 25 "LampRacks$Lamps" "wear" "[I", Cond.fieldLink RX2 28 "LampRacks$Lamps" "burned" "[I", Cond.fieldLink RX2 31 "LampRacks$Lamps" "end" "[I", Cond.methodLink RX4 49 yX3_copyFrom, Cond.instanceMethod yX3_copyFrom, Cond.selects RX3 yX3_copyFrom yX3_copyFrom, Cond.initialized RX3, Cond.code yX3_copyFrom cX3_copyFrom 2 none, Cond.fieldLink RX3 9 "LampRacks$Racks" "lampAt" "[I", Cond.fieldLink RX3 15 "LampRacks$Racks" "volts" "[I", Cond.fieldLink RX3 18 "LampRacks$Racks" "stepHours" "[I", Cond.fieldLink RX3 21 "LampRacks$Racks" "stepVolts" "[I", Cond.fieldLink RX3 24 "LampRacks$Racks" "hoursOfStep" "[I"]
def wsX6_recorded : List Cond := .code yX6_recorded cX6_recorded 2 (some .int) :: ((wsX6_recorded_r1 ++ (wsX6_recorded_r2 ++ wsX6_recorded_r3)) ++ wsX60 ++ wsX10 ++ wsX40 ++ wsX00 ++ wsX20 ++ wsX30)
def wsX6_setBatch_r1 : List Cond := [Cond.fieldLink RX6 16 "LampRacks" "before" "LLampRacks$State;", Cond.fieldLink RX6 10 "LampRacks" "now" "LLampRacks$State;", Cond.methodLink RX6 50 yX4_copyFrom, Cond.instanceMethod yX4_copyFrom, Cond.selects RX4 yX4_copyFrom yX4_copyFrom, Cond.initialized RX4, Cond.code yX4_copyFrom cX4_copyFrom 2 none, Cond.fieldLink RX4 9 "LampRacks$State" "hour" "I", Cond.fieldLink RX4 15 "LampRacks$State" "wantedVolts" "I", Cond.fieldLink RX4 18 "LampRacks$State" "doublingVolts" "I", Cond.fieldLink RX4 24 "LampRacks$State" "batches" "LLampRacks$Batches;", Cond.fieldLink RX4 31 "LampRacks$State" "lamps" "LLampRacks$Lamps;", Cond.fieldLink RX4 38 "LampRacks$State" "racks" "LLampRacks$Racks;", Cond.methodLink RX4 42 yX0_copyFrom, Cond.instanceMethod yX0_copyFrom, Cond.selects RX0 yX0_copyFrom yX0_copyFrom, Cond.initialized RX0, Cond.code yX0_copyFrom cX0_copyFrom 2 none, Cond.fieldLink RX0 9 "LampRacks$Batches" "life" "[I", Cond.fieldLink RX0 15 "LampRacks$Batches" "spread" "[I", Cond.static yX6_copy, Cond.initialized RX6, Cond.code yX6_copy cX6_copy 2 none, Cond.methodLink RX6 236 Lib.Math.min.name]
def wsX6_setBatch_r2 : List Cond := [Cond.static Lib.Math.min.name, Cond.initialized "java/lang/Math", Cond.code Lib.Math.min.name Lib.Math.min.code 2 (some .int), Cond.methodLink RX6 241 arraycopyName, Cond.native arraycopyName, Cond.static arraycopyName, Cond.initialized "java/lang/System", Cond.methodLink RX4 46 yX2_copyFrom, Cond.instanceMethod yX2_copyFrom, Cond.selects RX2 yX2_copyFrom yX2_copyFrom, Cond.initialized RX2, Cond.code yX2_copyFrom cX2_copyFrom 2 none, Cond.fieldLink RX2 9 "LampRacks$Lamps" "size" "I", Cond.fieldLink RX2 15 "LampRacks$Lamps" "batch" "[I", Cond.fieldLink RX2 19 "LampRacks$Lamps" "spot" "[I", Cond.fieldLink RX2 22 "LampRacks$Lamps" "canLast" "[I", Cond.fieldLink RX2 25 "LampRacks$Lamps" "wear" "[I", Cond.fieldLink RX2 28 "LampRacks$Lamps" "burned" "[I", Cond.fieldLink RX2 31 "LampRacks$Lamps" "end" "[I", Cond.methodLink RX4 49 yX3_copyFrom, Cond.instanceMethod yX3_copyFrom, Cond.selects RX3 yX3_copyFrom yX3_copyFrom, Cond.initialized RX3, Cond.code yX3_copyFrom cX3_copyFrom 2 none]
def wsX6_setBatch_r3 : List Cond := [Cond.fieldLink RX3 9 "LampRacks$Racks" "lampAt" "[I", Cond.fieldLink RX3 15 "LampRacks$Racks" "volts" "[I", Cond.fieldLink RX3 18 "LampRacks$Racks" "stepHours" "[I", Cond.fieldLink RX3 21 "LampRacks$Racks" "stepVolts" "[I", Cond.fieldLink RX3 24 "LampRacks$Racks" "hoursOfStep" "[I", Cond.methodLink RX6 54 yX4_changeBatch, Cond.instanceMethod yX4_changeBatch, Cond.selects RX4 yX4_changeBatch yX4_changeBatch, Cond.code yX4_changeBatch cX4_changeBatch 5 (some .int), Cond.fieldLink RX4 60 "LampRacks$Batches" "life" "[I", Cond.fieldLink RX4 64 "LampRacks$Batches" "spread" "[I", Cond.static yX6_isBatch, Cond.code yX6_isBatch cX6_isBatch 1 (some .boolean), Cond.methodLink RX6 117 yX6_isWithin, Cond.static yX6_isWithin, Cond.code yX6_isWithin cX6_isWithin 3 (some .boolean), Cond.methodLink RX6 58 yX6_recorded, Cond.instanceMethod yX6_recorded, Cond.selects RX6 yX6_recorded yX6_recorded, Cond.code yX6_recorded cX6_recorded 2 (some .int), Cond.fieldLink RX6 32 "LampRacks" "history" "LLampRacks$History;", Cond.methodLink RX6 210 yX1_append, Cond.instanceMethod yX1_append, Cond.selects RX1 yX1_append yX1_append]
def wsX6_setBatch_r4 : List Cond := [Cond.initialized RX1, Cond.code yX1_append cX1_append 2 none, Cond.fieldLink RX1 9 "LampRacks$History" "size" "I", Cond.fieldLink RX1 17 "LampRacks$History" "states" "[LLampRacks$State;", Cond.methodLink RX1 22 yX1_dropOldest, Cond.instanceMethod yX1_dropOldest, Cond.selects RX1 yX1_dropOldest yX1_dropOldest, Cond.code yX1_dropOldest cX1_dropOldest 3 none, Cond.methodLink RX1 25 yX4_copyFrom]
def wsX6_setBatch : List Cond := .code yX6_setBatch cX6_setBatch 4 (some .int) :: ((wsX6_setBatch_r1 ++ (wsX6_setBatch_r2 ++ (wsX6_setBatch_r3 ++ wsX6_setBatch_r4))) ++ wsX60 ++ wsX40 ++ wsX00 ++ wsX20 ++ wsX30 ++ wsX10)
def wsX6_put_r1 : List Cond := [Cond.fieldLink RX6 16 "LampRacks" "before" "LLampRacks$State;", Cond.fieldLink RX6 10 "LampRacks" "now" "LLampRacks$State;", Cond.methodLink RX6 50 yX4_copyFrom, Cond.instanceMethod yX4_copyFrom, Cond.selects RX4 yX4_copyFrom yX4_copyFrom, Cond.initialized RX4, Cond.code yX4_copyFrom cX4_copyFrom 2 none, Cond.fieldLink RX4 9 "LampRacks$State" "hour" "I", Cond.fieldLink RX4 15 "LampRacks$State" "wantedVolts" "I", Cond.fieldLink RX4 18 "LampRacks$State" "doublingVolts" "I", Cond.fieldLink RX4 24 "LampRacks$State" "batches" "LLampRacks$Batches;", Cond.fieldLink RX4 31 "LampRacks$State" "lamps" "LLampRacks$Lamps;", Cond.fieldLink RX4 38 "LampRacks$State" "racks" "LLampRacks$Racks;", Cond.methodLink RX4 42 yX0_copyFrom, Cond.instanceMethod yX0_copyFrom, Cond.selects RX0 yX0_copyFrom yX0_copyFrom, Cond.initialized RX0, Cond.code yX0_copyFrom cX0_copyFrom 2 none, Cond.fieldLink RX0 9 "LampRacks$Batches" "life" "[I", Cond.fieldLink RX0 15 "LampRacks$Batches" "spread" "[I", Cond.static yX6_copy, Cond.initialized RX6, Cond.code yX6_copy cX6_copy 2 none, Cond.methodLink RX6 236 Lib.Math.min.name]
def wsX6_put_r2 : List Cond := [Cond.static Lib.Math.min.name, Cond.initialized "java/lang/Math", Cond.code Lib.Math.min.name Lib.Math.min.code 2 (some .int), Cond.methodLink RX6 241 arraycopyName, Cond.native arraycopyName, Cond.static arraycopyName, Cond.initialized "java/lang/System", Cond.methodLink RX4 46 yX2_copyFrom, Cond.instanceMethod yX2_copyFrom, Cond.selects RX2 yX2_copyFrom yX2_copyFrom, Cond.initialized RX2, Cond.code yX2_copyFrom cX2_copyFrom 2 none, Cond.fieldLink RX2 9 "LampRacks$Lamps" "size" "I", Cond.fieldLink RX2 15 "LampRacks$Lamps" "batch" "[I", Cond.fieldLink RX2 19 "LampRacks$Lamps" "spot" "[I", Cond.fieldLink RX2 22 "LampRacks$Lamps" "canLast" "[I", Cond.fieldLink RX2 25 "LampRacks$Lamps" "wear" "[I", Cond.fieldLink RX2 28 "LampRacks$Lamps" "burned" "[I", Cond.fieldLink RX2 31 "LampRacks$Lamps" "end" "[I", Cond.methodLink RX4 49 yX3_copyFrom, Cond.instanceMethod yX3_copyFrom, Cond.selects RX3 yX3_copyFrom yX3_copyFrom, Cond.initialized RX3, Cond.code yX3_copyFrom cX3_copyFrom 2 none]
def wsX6_put_r3 : List Cond := [Cond.fieldLink RX3 9 "LampRacks$Racks" "lampAt" "[I", Cond.fieldLink RX3 15 "LampRacks$Racks" "volts" "[I", Cond.fieldLink RX3 18 "LampRacks$Racks" "stepHours" "[I", Cond.fieldLink RX3 21 "LampRacks$Racks" "stepVolts" "[I", Cond.fieldLink RX3 24 "LampRacks$Racks" "hoursOfStep" "[I", Cond.methodLink RX6 62 yX4_insertLamp, Cond.instanceMethod yX4_insertLamp, Cond.selects RX4 yX4_insertLamp yX4_insertLamp, Cond.code yX4_insertLamp cX4_insertLamp 6 (some .int), Cond.fieldLink RX4 75 "LampRacks$Racks" "lampAt" "[I", Cond.fieldLink RX4 82 "LampRacks$Lamps" "size" "I", Cond.static yX6_isPlace, Cond.code yX6_isPlace cX6_isPlace 2 (some .boolean), Cond.methodLink RX6 230 yX6_isRack, Cond.static yX6_isRack, Cond.code yX6_isRack cX6_isRack 1 (some .boolean), Cond.methodLink RX6 117 yX6_isWithin, Cond.static yX6_isWithin, Cond.code yX6_isWithin cX6_isWithin 3 (some .boolean), Cond.static yX6_isBatch, Cond.code yX6_isBatch cX6_isBatch 1 (some .boolean), Cond.static yX6_spotOf, Cond.code yX6_spotOf cX6_spotOf 2 (some .int), Cond.methodLink RX4 78 yX2_isFull]
def wsX6_put_r4 : List Cond := [Cond.instanceMethod yX2_isFull, Cond.selects RX2 yX2_isFull yX2_isFull, Cond.code yX2_isFull cX2_isFull 1 (some .boolean), Cond.methodLink RX4 85 yX0_hoursOfLamp, Cond.instanceMethod yX0_hoursOfLamp, Cond.selects RX0 yX0_hoursOfLamp yX0_hoursOfLamp, Cond.code yX0_hoursOfLamp cX0_hoursOfLamp 5 (some .int), Cond.methodLink RX0 30 Lib.Math.max.name, Cond.static Lib.Math.max.name, Cond.code Lib.Math.max.name Lib.Math.max.code 2 (some .int), Cond.static yX6_shareOf, Cond.code yX6_shareOf cX6_shareOf 1 (some .int), Cond.static yX6_isWeak, Cond.code yX6_isWeak cX6_isWeak 1 (some .boolean), Cond.methodLink RX6 233 yX6_shareOf, Cond.methodLink RX4 88 yX2_append, Cond.instanceMethod yX2_append, Cond.selects RX2 yX2_append yX2_append, Cond.code yX2_append cX2_append 5 (some .int), Cond.methodLink RX6 58 yX6_recorded, Cond.instanceMethod yX6_recorded, Cond.selects RX6 yX6_recorded yX6_recorded, Cond.code yX6_recorded cX6_recorded 2 (some .int), Cond.fieldLink RX6 32 "LampRacks" "history" "LLampRacks$History;"]
def wsX6_put_r5 : List Cond := [Cond.methodLink RX6 210 yX1_append, Cond.instanceMethod yX1_append, Cond.selects RX1 yX1_append yX1_append, Cond.initialized RX1, Cond.code yX1_append cX1_append 2 none, Cond.fieldLink RX1 9 "LampRacks$History" "size" "I", Cond.fieldLink RX1 17 "LampRacks$History" "states" "[LLampRacks$State;", Cond.methodLink RX1 22 yX1_dropOldest, Cond.instanceMethod yX1_dropOldest, Cond.selects RX1 yX1_dropOldest yX1_dropOldest, Cond.code yX1_dropOldest cX1_dropOldest 3 none, Cond.methodLink RX1 25 yX4_copyFrom]
def wsX6_put : List Cond := .code yX6_put cX6_put 4 (some .int) :: ((wsX6_put_r1 ++ (wsX6_put_r2 ++ (wsX6_put_r3 ++ (wsX6_put_r4 ++ wsX6_put_r5)))) ++ wsX60 ++ wsX40 ++ wsX00 ++ wsX20 ++ wsX30 ++ wsX10)
def wsX6_takeOut_r1 : List Cond := [Cond.fieldLink RX6 16 "LampRacks" "before" "LLampRacks$State;", Cond.fieldLink RX6 10 "LampRacks" "now" "LLampRacks$State;", Cond.methodLink RX6 50 yX4_copyFrom, Cond.instanceMethod yX4_copyFrom, Cond.selects RX4 yX4_copyFrom yX4_copyFrom, Cond.initialized RX4, Cond.code yX4_copyFrom cX4_copyFrom 2 none, Cond.fieldLink RX4 9 "LampRacks$State" "hour" "I", Cond.fieldLink RX4 15 "LampRacks$State" "wantedVolts" "I", Cond.fieldLink RX4 18 "LampRacks$State" "doublingVolts" "I", Cond.fieldLink RX4 24 "LampRacks$State" "batches" "LLampRacks$Batches;", Cond.fieldLink RX4 31 "LampRacks$State" "lamps" "LLampRacks$Lamps;", Cond.fieldLink RX4 38 "LampRacks$State" "racks" "LLampRacks$Racks;", Cond.methodLink RX4 42 yX0_copyFrom, Cond.instanceMethod yX0_copyFrom, Cond.selects RX0 yX0_copyFrom yX0_copyFrom, Cond.initialized RX0, Cond.code yX0_copyFrom cX0_copyFrom 2 none, Cond.fieldLink RX0 9 "LampRacks$Batches" "life" "[I", Cond.fieldLink RX0 15 "LampRacks$Batches" "spread" "[I", Cond.static yX6_copy, Cond.initialized RX6, Cond.code yX6_copy cX6_copy 2 none, Cond.methodLink RX6 236 Lib.Math.min.name]
def wsX6_takeOut_r2 : List Cond := [Cond.static Lib.Math.min.name, Cond.initialized "java/lang/Math", Cond.code Lib.Math.min.name Lib.Math.min.code 2 (some .int), Cond.methodLink RX6 241 arraycopyName, Cond.native arraycopyName, Cond.static arraycopyName, Cond.initialized "java/lang/System", Cond.methodLink RX4 46 yX2_copyFrom, Cond.instanceMethod yX2_copyFrom, Cond.selects RX2 yX2_copyFrom yX2_copyFrom, Cond.initialized RX2, Cond.code yX2_copyFrom cX2_copyFrom 2 none, Cond.fieldLink RX2 9 "LampRacks$Lamps" "size" "I", Cond.fieldLink RX2 15 "LampRacks$Lamps" "batch" "[I", Cond.fieldLink RX2 19 "LampRacks$Lamps" "spot" "[I", Cond.fieldLink RX2 22 "LampRacks$Lamps" "canLast" "[I", Cond.fieldLink RX2 25 "LampRacks$Lamps" "wear" "[I", Cond.fieldLink RX2 28 "LampRacks$Lamps" "burned" "[I", Cond.fieldLink RX2 31 "LampRacks$Lamps" "end" "[I", Cond.methodLink RX4 49 yX3_copyFrom, Cond.instanceMethod yX3_copyFrom, Cond.selects RX3 yX3_copyFrom yX3_copyFrom, Cond.initialized RX3, Cond.code yX3_copyFrom cX3_copyFrom 2 none]
def wsX6_takeOut_r3 : List Cond := [Cond.fieldLink RX3 9 "LampRacks$Racks" "lampAt" "[I", Cond.fieldLink RX3 15 "LampRacks$Racks" "volts" "[I", Cond.fieldLink RX3 18 "LampRacks$Racks" "stepHours" "[I", Cond.fieldLink RX3 21 "LampRacks$Racks" "stepVolts" "[I", Cond.fieldLink RX3 24 "LampRacks$Racks" "hoursOfStep" "[I", Cond.methodLink RX6 65 yX4_removeLamp, Cond.instanceMethod yX4_removeLamp, Cond.selects RX4 yX4_removeLamp yX4_removeLamp, Cond.code yX4_removeLamp cX4_removeLamp 5 (some .int), Cond.fieldLink RX4 75 "LampRacks$Racks" "lampAt" "[I", Cond.fieldLink RX4 92 "LampRacks$Lamps" "spot" "[I", Cond.static yX6_isPlace, Cond.code yX6_isPlace cX6_isPlace 2 (some .boolean), Cond.methodLink RX6 230 yX6_isRack, Cond.static yX6_isRack, Cond.code yX6_isRack cX6_isRack 1 (some .boolean), Cond.methodLink RX6 117 yX6_isWithin, Cond.static yX6_isWithin, Cond.code yX6_isWithin cX6_isWithin 3 (some .boolean), Cond.static yX6_spotOf, Cond.code yX6_spotOf cX6_spotOf 2 (some .int), Cond.methodLink RX6 58 yX6_recorded, Cond.instanceMethod yX6_recorded, Cond.selects RX6 yX6_recorded yX6_recorded]
def wsX6_takeOut_r4 : List Cond := [Cond.code yX6_recorded cX6_recorded 2 (some .int), Cond.fieldLink RX6 32 "LampRacks" "history" "LLampRacks$History;", Cond.methodLink RX6 210 yX1_append, Cond.instanceMethod yX1_append, Cond.selects RX1 yX1_append yX1_append, Cond.initialized RX1, Cond.code yX1_append cX1_append 2 none, Cond.fieldLink RX1 9 "LampRacks$History" "size" "I", Cond.fieldLink RX1 17 "LampRacks$History" "states" "[LLampRacks$State;", Cond.methodLink RX1 22 yX1_dropOldest, Cond.instanceMethod yX1_dropOldest, Cond.selects RX1 yX1_dropOldest yX1_dropOldest, Cond.code yX1_dropOldest cX1_dropOldest 3 none, Cond.methodLink RX1 25 yX4_copyFrom]
def wsX6_takeOut : List Cond := .code yX6_takeOut cX6_takeOut 3 (some .int) :: ((wsX6_takeOut_r1 ++ (wsX6_takeOut_r2 ++ (wsX6_takeOut_r3 ++ wsX6_takeOut_r4))) ++ wsX60 ++ wsX40 ++ wsX00 ++ wsX20 ++ wsX30 ++ wsX10)
def wsX6_swap_r1 : List Cond := [Cond.fieldLink RX6 16 "LampRacks" "before" "LLampRacks$State;", Cond.fieldLink RX6 10 "LampRacks" "now" "LLampRacks$State;", Cond.methodLink RX6 50 yX4_copyFrom, Cond.instanceMethod yX4_copyFrom, Cond.selects RX4 yX4_copyFrom yX4_copyFrom, Cond.initialized RX4, Cond.code yX4_copyFrom cX4_copyFrom 2 none, Cond.fieldLink RX4 9 "LampRacks$State" "hour" "I", Cond.fieldLink RX4 15 "LampRacks$State" "wantedVolts" "I", Cond.fieldLink RX4 18 "LampRacks$State" "doublingVolts" "I", Cond.fieldLink RX4 24 "LampRacks$State" "batches" "LLampRacks$Batches;", Cond.fieldLink RX4 31 "LampRacks$State" "lamps" "LLampRacks$Lamps;", Cond.fieldLink RX4 38 "LampRacks$State" "racks" "LLampRacks$Racks;", Cond.methodLink RX4 42 yX0_copyFrom, Cond.instanceMethod yX0_copyFrom, Cond.selects RX0 yX0_copyFrom yX0_copyFrom, Cond.initialized RX0, Cond.code yX0_copyFrom cX0_copyFrom 2 none, Cond.fieldLink RX0 9 "LampRacks$Batches" "life" "[I", Cond.fieldLink RX0 15 "LampRacks$Batches" "spread" "[I", Cond.static yX6_copy, Cond.initialized RX6, Cond.code yX6_copy cX6_copy 2 none, Cond.methodLink RX6 236 Lib.Math.min.name]
def wsX6_swap_r2 : List Cond := [Cond.static Lib.Math.min.name, Cond.initialized "java/lang/Math", Cond.code Lib.Math.min.name Lib.Math.min.code 2 (some .int), Cond.methodLink RX6 241 arraycopyName, Cond.native arraycopyName, Cond.static arraycopyName, Cond.initialized "java/lang/System", Cond.methodLink RX4 46 yX2_copyFrom, Cond.instanceMethod yX2_copyFrom, Cond.selects RX2 yX2_copyFrom yX2_copyFrom, Cond.initialized RX2, Cond.code yX2_copyFrom cX2_copyFrom 2 none, Cond.fieldLink RX2 9 "LampRacks$Lamps" "size" "I", Cond.fieldLink RX2 15 "LampRacks$Lamps" "batch" "[I", Cond.fieldLink RX2 19 "LampRacks$Lamps" "spot" "[I", Cond.fieldLink RX2 22 "LampRacks$Lamps" "canLast" "[I", Cond.fieldLink RX2 25 "LampRacks$Lamps" "wear" "[I", Cond.fieldLink RX2 28 "LampRacks$Lamps" "burned" "[I", Cond.fieldLink RX2 31 "LampRacks$Lamps" "end" "[I", Cond.methodLink RX4 49 yX3_copyFrom, Cond.instanceMethod yX3_copyFrom, Cond.selects RX3 yX3_copyFrom yX3_copyFrom, Cond.initialized RX3, Cond.code yX3_copyFrom cX3_copyFrom 2 none]
def wsX6_swap_r3 : List Cond := [Cond.fieldLink RX3 9 "LampRacks$Racks" "lampAt" "[I", Cond.fieldLink RX3 15 "LampRacks$Racks" "volts" "[I", Cond.fieldLink RX3 18 "LampRacks$Racks" "stepHours" "[I", Cond.fieldLink RX3 21 "LampRacks$Racks" "stepVolts" "[I", Cond.fieldLink RX3 24 "LampRacks$Racks" "hoursOfStep" "[I", Cond.methodLink RX6 69 yX4_exchange, Cond.instanceMethod yX4_exchange, Cond.selects RX4 yX4_exchange yX4_exchange, Cond.code yX4_exchange cX4_exchange 9 (some .int), Cond.fieldLink RX4 75 "LampRacks$Racks" "lampAt" "[I", Cond.static yX6_isPlace, Cond.code yX6_isPlace cX6_isPlace 2 (some .boolean), Cond.methodLink RX6 230 yX6_isRack, Cond.static yX6_isRack, Cond.code yX6_isRack cX6_isRack 1 (some .boolean), Cond.methodLink RX6 117 yX6_isWithin, Cond.static yX6_isWithin, Cond.code yX6_isWithin cX6_isWithin 3 (some .boolean), Cond.static yX6_spotOf, Cond.code yX6_spotOf cX6_spotOf 2 (some .int), Cond.methodLink RX4 95 yX4_moveTo, Cond.instanceMethod yX4_moveTo, Cond.selects RX4 yX4_moveTo yX4_moveTo, Cond.code yX4_moveTo cX4_moveTo 3 (some .int)]
def wsX6_swap_r4 : List Cond := [Cond.fieldLink RX4 92 "LampRacks$Lamps" "spot" "[I", Cond.methodLink RX6 58 yX6_recorded, Cond.instanceMethod yX6_recorded, Cond.selects RX6 yX6_recorded yX6_recorded, Cond.code yX6_recorded cX6_recorded 2 (some .int), Cond.fieldLink RX6 32 "LampRacks" "history" "LLampRacks$History;", Cond.methodLink RX6 210 yX1_append, Cond.instanceMethod yX1_append, Cond.selects RX1 yX1_append yX1_append, Cond.initialized RX1, Cond.code yX1_append cX1_append 2 none, Cond.fieldLink RX1 9 "LampRacks$History" "size" "I", Cond.fieldLink RX1 17 "LampRacks$History" "states" "[LLampRacks$State;", Cond.methodLink RX1 22 yX1_dropOldest, Cond.instanceMethod yX1_dropOldest, Cond.selects RX1 yX1_dropOldest yX1_dropOldest, Cond.code yX1_dropOldest cX1_dropOldest 3 none, Cond.methodLink RX1 25 yX4_copyFrom]
def wsX6_swap : List Cond := .code yX6_swap cX6_swap 5 (some .int) :: ((wsX6_swap_r1 ++ (wsX6_swap_r2 ++ (wsX6_swap_r3 ++ wsX6_swap_r4))) ++ wsX60 ++ wsX40 ++ wsX00 ++ wsX20 ++ wsX30 ++ wsX10)
def wsX6_setVolts_r1 : List Cond := [Cond.fieldLink RX6 16 "LampRacks" "before" "LLampRacks$State;", Cond.fieldLink RX6 10 "LampRacks" "now" "LLampRacks$State;", Cond.methodLink RX6 50 yX4_copyFrom, Cond.instanceMethod yX4_copyFrom, Cond.selects RX4 yX4_copyFrom yX4_copyFrom, Cond.initialized RX4, Cond.code yX4_copyFrom cX4_copyFrom 2 none, Cond.fieldLink RX4 9 "LampRacks$State" "hour" "I", Cond.fieldLink RX4 15 "LampRacks$State" "wantedVolts" "I", Cond.fieldLink RX4 18 "LampRacks$State" "doublingVolts" "I", Cond.fieldLink RX4 24 "LampRacks$State" "batches" "LLampRacks$Batches;", Cond.fieldLink RX4 31 "LampRacks$State" "lamps" "LLampRacks$Lamps;", Cond.fieldLink RX4 38 "LampRacks$State" "racks" "LLampRacks$Racks;", Cond.methodLink RX4 42 yX0_copyFrom, Cond.instanceMethod yX0_copyFrom, Cond.selects RX0 yX0_copyFrom yX0_copyFrom, Cond.initialized RX0, Cond.code yX0_copyFrom cX0_copyFrom 2 none, Cond.fieldLink RX0 9 "LampRacks$Batches" "life" "[I", Cond.fieldLink RX0 15 "LampRacks$Batches" "spread" "[I", Cond.static yX6_copy, Cond.initialized RX6, Cond.code yX6_copy cX6_copy 2 none, Cond.methodLink RX6 236 Lib.Math.min.name]
def wsX6_setVolts_r2 : List Cond := [Cond.static Lib.Math.min.name, Cond.initialized "java/lang/Math", Cond.code Lib.Math.min.name Lib.Math.min.code 2 (some .int), Cond.methodLink RX6 241 arraycopyName, Cond.native arraycopyName, Cond.static arraycopyName, Cond.initialized "java/lang/System", Cond.methodLink RX4 46 yX2_copyFrom, Cond.instanceMethod yX2_copyFrom, Cond.selects RX2 yX2_copyFrom yX2_copyFrom, Cond.initialized RX2, Cond.code yX2_copyFrom cX2_copyFrom 2 none, Cond.fieldLink RX2 9 "LampRacks$Lamps" "size" "I", Cond.fieldLink RX2 15 "LampRacks$Lamps" "batch" "[I", Cond.fieldLink RX2 19 "LampRacks$Lamps" "spot" "[I", Cond.fieldLink RX2 22 "LampRacks$Lamps" "canLast" "[I", Cond.fieldLink RX2 25 "LampRacks$Lamps" "wear" "[I", Cond.fieldLink RX2 28 "LampRacks$Lamps" "burned" "[I", Cond.fieldLink RX2 31 "LampRacks$Lamps" "end" "[I", Cond.methodLink RX4 49 yX3_copyFrom, Cond.instanceMethod yX3_copyFrom, Cond.selects RX3 yX3_copyFrom yX3_copyFrom, Cond.initialized RX3, Cond.code yX3_copyFrom cX3_copyFrom 2 none]
def wsX6_setVolts_r3 : List Cond := [Cond.fieldLink RX3 9 "LampRacks$Racks" "lampAt" "[I", Cond.fieldLink RX3 15 "LampRacks$Racks" "volts" "[I", Cond.fieldLink RX3 18 "LampRacks$Racks" "stepHours" "[I", Cond.fieldLink RX3 21 "LampRacks$Racks" "stepVolts" "[I", Cond.fieldLink RX3 24 "LampRacks$Racks" "hoursOfStep" "[I", Cond.methodLink RX6 73 yX4_changeVolts, Cond.instanceMethod yX4_changeVolts, Cond.selects RX4 yX4_changeVolts yX4_changeVolts, Cond.code yX4_changeVolts cX4_changeVolts 4 (some .int), Cond.fieldLink RX4 101 "LampRacks$Racks" "volts" "[I", Cond.static yX6_isRack, Cond.code yX6_isRack cX6_isRack 1 (some .boolean), Cond.methodLink RX6 117 yX6_isWithin, Cond.static yX6_isWithin, Cond.code yX6_isWithin cX6_isWithin 3 (some .boolean), Cond.methodLink RX6 58 yX6_recorded, Cond.instanceMethod yX6_recorded, Cond.selects RX6 yX6_recorded yX6_recorded, Cond.code yX6_recorded cX6_recorded 2 (some .int), Cond.fieldLink RX6 32 "LampRacks" "history" "LLampRacks$History;", Cond.methodLink RX6 210 yX1_append, Cond.instanceMethod yX1_append, Cond.selects RX1 yX1_append yX1_append, Cond.initialized RX1]
def wsX6_setVolts_r4 : List Cond := [Cond.code yX1_append cX1_append 2 none, Cond.fieldLink RX1 9 "LampRacks$History" "size" "I", Cond.fieldLink RX1 17 "LampRacks$History" "states" "[LLampRacks$State;", Cond.methodLink RX1 22 yX1_dropOldest, Cond.instanceMethod yX1_dropOldest, Cond.selects RX1 yX1_dropOldest yX1_dropOldest, Cond.code yX1_dropOldest cX1_dropOldest 3 none, Cond.methodLink RX1 25 yX4_copyFrom]
def wsX6_setVolts : List Cond := .code yX6_setVolts cX6_setVolts 3 (some .int) :: ((wsX6_setVolts_r1 ++ (wsX6_setVolts_r2 ++ (wsX6_setVolts_r3 ++ wsX6_setVolts_r4))) ++ wsX60 ++ wsX40 ++ wsX00 ++ wsX20 ++ wsX30 ++ wsX10)
def wsX6_setSteps_r1 : List Cond := [Cond.fieldLink RX6 16 "LampRacks" "before" "LLampRacks$State;", Cond.fieldLink RX6 10 "LampRacks" "now" "LLampRacks$State;", Cond.methodLink RX6 50 yX4_copyFrom, Cond.instanceMethod yX4_copyFrom, Cond.selects RX4 yX4_copyFrom yX4_copyFrom, Cond.initialized RX4, Cond.code yX4_copyFrom cX4_copyFrom 2 none, Cond.fieldLink RX4 9 "LampRacks$State" "hour" "I", Cond.fieldLink RX4 15 "LampRacks$State" "wantedVolts" "I", Cond.fieldLink RX4 18 "LampRacks$State" "doublingVolts" "I", Cond.fieldLink RX4 24 "LampRacks$State" "batches" "LLampRacks$Batches;", Cond.fieldLink RX4 31 "LampRacks$State" "lamps" "LLampRacks$Lamps;", Cond.fieldLink RX4 38 "LampRacks$State" "racks" "LLampRacks$Racks;", Cond.methodLink RX4 42 yX0_copyFrom, Cond.instanceMethod yX0_copyFrom, Cond.selects RX0 yX0_copyFrom yX0_copyFrom, Cond.initialized RX0, Cond.code yX0_copyFrom cX0_copyFrom 2 none, Cond.fieldLink RX0 9 "LampRacks$Batches" "life" "[I", Cond.fieldLink RX0 15 "LampRacks$Batches" "spread" "[I", Cond.static yX6_copy, Cond.initialized RX6, Cond.code yX6_copy cX6_copy 2 none, Cond.methodLink RX6 236 Lib.Math.min.name]
def wsX6_setSteps_r2 : List Cond := [Cond.static Lib.Math.min.name, Cond.initialized "java/lang/Math", Cond.code Lib.Math.min.name Lib.Math.min.code 2 (some .int), Cond.methodLink RX6 241 arraycopyName, Cond.native arraycopyName, Cond.static arraycopyName, Cond.initialized "java/lang/System", Cond.methodLink RX4 46 yX2_copyFrom, Cond.instanceMethod yX2_copyFrom, Cond.selects RX2 yX2_copyFrom yX2_copyFrom, Cond.initialized RX2, Cond.code yX2_copyFrom cX2_copyFrom 2 none, Cond.fieldLink RX2 9 "LampRacks$Lamps" "size" "I", Cond.fieldLink RX2 15 "LampRacks$Lamps" "batch" "[I", Cond.fieldLink RX2 19 "LampRacks$Lamps" "spot" "[I", Cond.fieldLink RX2 22 "LampRacks$Lamps" "canLast" "[I", Cond.fieldLink RX2 25 "LampRacks$Lamps" "wear" "[I", Cond.fieldLink RX2 28 "LampRacks$Lamps" "burned" "[I", Cond.fieldLink RX2 31 "LampRacks$Lamps" "end" "[I", Cond.methodLink RX4 49 yX3_copyFrom, Cond.instanceMethod yX3_copyFrom, Cond.selects RX3 yX3_copyFrom yX3_copyFrom, Cond.initialized RX3, Cond.code yX3_copyFrom cX3_copyFrom 2 none]
def wsX6_setSteps_r3 : List Cond := [Cond.fieldLink RX3 9 "LampRacks$Racks" "lampAt" "[I", Cond.fieldLink RX3 15 "LampRacks$Racks" "volts" "[I", Cond.fieldLink RX3 18 "LampRacks$Racks" "stepHours" "[I", Cond.fieldLink RX3 21 "LampRacks$Racks" "stepVolts" "[I", Cond.fieldLink RX3 24 "LampRacks$Racks" "hoursOfStep" "[I", Cond.methodLink RX6 76 yX4_changeSteps, Cond.instanceMethod yX4_changeSteps, Cond.selects RX4 yX4_changeSteps yX4_changeSteps, Cond.code yX4_changeSteps cX4_changeSteps 5 (some .int), Cond.fieldLink RX4 104 "LampRacks$Racks" "stepHours" "[I", Cond.fieldLink RX4 107 "LampRacks$Racks" "stepVolts" "[I", Cond.fieldLink RX4 110 "LampRacks$Racks" "hoursOfStep" "[I", Cond.static yX6_isRack, Cond.code yX6_isRack cX6_isRack 1 (some .boolean), Cond.methodLink RX6 117 yX6_isWithin, Cond.static yX6_isWithin, Cond.code yX6_isWithin cX6_isWithin 3 (some .boolean), Cond.methodLink RX6 58 yX6_recorded, Cond.instanceMethod yX6_recorded, Cond.selects RX6 yX6_recorded yX6_recorded, Cond.code yX6_recorded cX6_recorded 2 (some .int), Cond.fieldLink RX6 32 "LampRacks" "history" "LLampRacks$History;", Cond.methodLink RX6 210 yX1_append, Cond.instanceMethod yX1_append]
def wsX6_setSteps_r4 : List Cond := [Cond.selects RX1 yX1_append yX1_append, Cond.initialized RX1, Cond.code yX1_append cX1_append 2 none, Cond.fieldLink RX1 9 "LampRacks$History" "size" "I", Cond.fieldLink RX1 17 "LampRacks$History" "states" "[LLampRacks$State;", Cond.methodLink RX1 22 yX1_dropOldest, Cond.instanceMethod yX1_dropOldest, Cond.selects RX1 yX1_dropOldest yX1_dropOldest, Cond.code yX1_dropOldest cX1_dropOldest 3 none, Cond.methodLink RX1 25 yX4_copyFrom]
def wsX6_setSteps : List Cond := .code yX6_setSteps cX6_setSteps 4 (some .int) :: ((wsX6_setSteps_r1 ++ (wsX6_setSteps_r2 ++ (wsX6_setSteps_r3 ++ wsX6_setSteps_r4))) ++ wsX60 ++ wsX40 ++ wsX00 ++ wsX20 ++ wsX30 ++ wsX10)
def wsX6_set_r1 : List Cond := [Cond.fieldLink RX6 16 "LampRacks" "before" "LLampRacks$State;", Cond.fieldLink RX6 10 "LampRacks" "now" "LLampRacks$State;", Cond.methodLink RX6 50 yX4_copyFrom, Cond.instanceMethod yX4_copyFrom, Cond.selects RX4 yX4_copyFrom yX4_copyFrom, Cond.initialized RX4, Cond.code yX4_copyFrom cX4_copyFrom 2 none, Cond.fieldLink RX4 9 "LampRacks$State" "hour" "I", Cond.fieldLink RX4 15 "LampRacks$State" "wantedVolts" "I", Cond.fieldLink RX4 18 "LampRacks$State" "doublingVolts" "I", Cond.fieldLink RX4 24 "LampRacks$State" "batches" "LLampRacks$Batches;", Cond.fieldLink RX4 31 "LampRacks$State" "lamps" "LLampRacks$Lamps;", Cond.fieldLink RX4 38 "LampRacks$State" "racks" "LLampRacks$Racks;", Cond.methodLink RX4 42 yX0_copyFrom, Cond.instanceMethod yX0_copyFrom, Cond.selects RX0 yX0_copyFrom yX0_copyFrom, Cond.initialized RX0, Cond.code yX0_copyFrom cX0_copyFrom 2 none, Cond.fieldLink RX0 9 "LampRacks$Batches" "life" "[I", Cond.fieldLink RX0 15 "LampRacks$Batches" "spread" "[I", Cond.static yX6_copy, Cond.initialized RX6, Cond.code yX6_copy cX6_copy 2 none, Cond.methodLink RX6 236 Lib.Math.min.name]
def wsX6_set_r2 : List Cond := [Cond.static Lib.Math.min.name, Cond.initialized "java/lang/Math", Cond.code Lib.Math.min.name Lib.Math.min.code 2 (some .int), Cond.methodLink RX6 241 arraycopyName, Cond.native arraycopyName, Cond.static arraycopyName, Cond.initialized "java/lang/System", Cond.methodLink RX4 46 yX2_copyFrom, Cond.instanceMethod yX2_copyFrom, Cond.selects RX2 yX2_copyFrom yX2_copyFrom, Cond.initialized RX2, Cond.code yX2_copyFrom cX2_copyFrom 2 none, Cond.fieldLink RX2 9 "LampRacks$Lamps" "size" "I", Cond.fieldLink RX2 15 "LampRacks$Lamps" "batch" "[I", Cond.fieldLink RX2 19 "LampRacks$Lamps" "spot" "[I", Cond.fieldLink RX2 22 "LampRacks$Lamps" "canLast" "[I", Cond.fieldLink RX2 25 "LampRacks$Lamps" "wear" "[I", Cond.fieldLink RX2 28 "LampRacks$Lamps" "burned" "[I", Cond.fieldLink RX2 31 "LampRacks$Lamps" "end" "[I", Cond.methodLink RX4 49 yX3_copyFrom, Cond.instanceMethod yX3_copyFrom, Cond.selects RX3 yX3_copyFrom yX3_copyFrom, Cond.initialized RX3, Cond.code yX3_copyFrom cX3_copyFrom 2 none]
def wsX6_set_r3 : List Cond := [Cond.fieldLink RX3 9 "LampRacks$Racks" "lampAt" "[I", Cond.fieldLink RX3 15 "LampRacks$Racks" "volts" "[I", Cond.fieldLink RX3 18 "LampRacks$Racks" "stepHours" "[I", Cond.fieldLink RX3 21 "LampRacks$Racks" "stepVolts" "[I", Cond.fieldLink RX3 24 "LampRacks$Racks" "hoursOfStep" "[I", Cond.methodLink RX6 79 yX4_changeSetting, Cond.instanceMethod yX4_changeSetting, Cond.selects RX4 yX4_changeSetting yX4_changeSetting, Cond.code yX4_changeSetting cX4_changeSetting 3 (some .int), Cond.methodLink RX4 113 yX4_changeWantedVolts, Cond.instanceMethod yX4_changeWantedVolts, Cond.selects RX4 yX4_changeWantedVolts yX4_changeWantedVolts, Cond.code yX4_changeWantedVolts cX4_changeWantedVolts 3 (some .int), Cond.static yX6_isWithin, Cond.code yX6_isWithin cX6_isWithin 3 (some .boolean), Cond.methodLink RX4 117 yX4_changeDoublingVolts, Cond.instanceMethod yX4_changeDoublingVolts, Cond.selects RX4 yX4_changeDoublingVolts yX4_changeDoublingVolts, Cond.code yX4_changeDoublingVolts cX4_changeDoublingVolts 3 (some .int), Cond.methodLink RX6 58 yX6_recorded, Cond.instanceMethod yX6_recorded, Cond.selects RX6 yX6_recorded yX6_recorded, Cond.code yX6_recorded cX6_recorded 2 (some .int), Cond.fieldLink RX6 32 "LampRacks" "history" "LLampRacks$History;"]
def wsX6_set_r4 : List Cond := [Cond.methodLink RX6 210 yX1_append, Cond.instanceMethod yX1_append, Cond.selects RX1 yX1_append yX1_append, Cond.initialized RX1, Cond.code yX1_append cX1_append 2 none, Cond.fieldLink RX1 9 "LampRacks$History" "size" "I", Cond.fieldLink RX1 17 "LampRacks$History" "states" "[LLampRacks$State;", Cond.methodLink RX1 22 yX1_dropOldest, Cond.instanceMethod yX1_dropOldest, Cond.selects RX1 yX1_dropOldest yX1_dropOldest, Cond.code yX1_dropOldest cX1_dropOldest 3 none, Cond.methodLink RX1 25 yX4_copyFrom]
def wsX6_set : List Cond := .code yX6_set cX6_set 3 (some .int) :: ((wsX6_set_r1 ++ (wsX6_set_r2 ++ (wsX6_set_r3 ++ wsX6_set_r4))) ++ wsX60 ++ wsX40 ++ wsX00 ++ wsX20 ++ wsX30 ++ wsX10)
def wsX6_pass_r1 : List Cond := [Cond.fieldLink RX6 16 "LampRacks" "before" "LLampRacks$State;", Cond.fieldLink RX6 10 "LampRacks" "now" "LLampRacks$State;", Cond.methodLink RX6 50 yX4_copyFrom, Cond.instanceMethod yX4_copyFrom, Cond.selects RX4 yX4_copyFrom yX4_copyFrom, Cond.initialized RX4, Cond.code yX4_copyFrom cX4_copyFrom 2 none, Cond.fieldLink RX4 9 "LampRacks$State" "hour" "I", Cond.fieldLink RX4 15 "LampRacks$State" "wantedVolts" "I", Cond.fieldLink RX4 18 "LampRacks$State" "doublingVolts" "I", Cond.fieldLink RX4 24 "LampRacks$State" "batches" "LLampRacks$Batches;", Cond.fieldLink RX4 31 "LampRacks$State" "lamps" "LLampRacks$Lamps;", Cond.fieldLink RX4 38 "LampRacks$State" "racks" "LLampRacks$Racks;", Cond.methodLink RX4 42 yX0_copyFrom, Cond.instanceMethod yX0_copyFrom, Cond.selects RX0 yX0_copyFrom yX0_copyFrom, Cond.initialized RX0, Cond.code yX0_copyFrom cX0_copyFrom 2 none, Cond.fieldLink RX0 9 "LampRacks$Batches" "life" "[I", Cond.fieldLink RX0 15 "LampRacks$Batches" "spread" "[I", Cond.static yX6_copy, Cond.initialized RX6, Cond.code yX6_copy cX6_copy 2 none, Cond.methodLink RX6 236 Lib.Math.min.name]
def wsX6_pass_r2 : List Cond := [Cond.static Lib.Math.min.name, Cond.initialized "java/lang/Math", Cond.code Lib.Math.min.name Lib.Math.min.code 2 (some .int), Cond.methodLink RX6 241 arraycopyName, Cond.native arraycopyName, Cond.static arraycopyName, Cond.initialized "java/lang/System", Cond.methodLink RX4 46 yX2_copyFrom, Cond.instanceMethod yX2_copyFrom, Cond.selects RX2 yX2_copyFrom yX2_copyFrom, Cond.initialized RX2, Cond.code yX2_copyFrom cX2_copyFrom 2 none, Cond.fieldLink RX2 9 "LampRacks$Lamps" "size" "I", Cond.fieldLink RX2 15 "LampRacks$Lamps" "batch" "[I", Cond.fieldLink RX2 19 "LampRacks$Lamps" "spot" "[I", Cond.fieldLink RX2 22 "LampRacks$Lamps" "canLast" "[I", Cond.fieldLink RX2 25 "LampRacks$Lamps" "wear" "[I", Cond.fieldLink RX2 28 "LampRacks$Lamps" "burned" "[I", Cond.fieldLink RX2 31 "LampRacks$Lamps" "end" "[I", Cond.methodLink RX4 49 yX3_copyFrom, Cond.instanceMethod yX3_copyFrom, Cond.selects RX3 yX3_copyFrom yX3_copyFrom, Cond.initialized RX3, Cond.code yX3_copyFrom cX3_copyFrom 2 none]
def wsX6_pass_r3 : List Cond := [Cond.fieldLink RX3 9 "LampRacks$Racks" "lampAt" "[I", Cond.fieldLink RX3 15 "LampRacks$Racks" "volts" "[I", Cond.fieldLink RX3 18 "LampRacks$Racks" "stepHours" "[I", Cond.fieldLink RX3 21 "LampRacks$Racks" "stepVolts" "[I", Cond.fieldLink RX3 24 "LampRacks$Racks" "hoursOfStep" "[I", Cond.methodLink RX6 82 yX4_letPass, Cond.instanceMethod yX4_letPass, Cond.selects RX4 yX4_letPass yX4_letPass, Cond.code yX4_letPass cX4_letPass 2 (some .int), Cond.constant RX4 120 (99999), Cond.static yX6_isWithin, Cond.code yX6_isWithin cX6_isWithin 3 (some .boolean), Cond.methodLink RX4 121 yX4_passHours, Cond.instanceMethod yX4_passHours, Cond.selects RX4 yX4_passHours yX4_passHours, Cond.code yX4_passHours cX4_passHours 4 (some .int), Cond.methodLink RX4 124 yX4_passHoursOfRack, Cond.instanceMethod yX4_passHoursOfRack, Cond.selects RX4 yX4_passHoursOfRack yX4_passHoursOfRack, Cond.code yX4_passHoursOfRack cX4_passHoursOfRack 6 (some .int), Cond.methodLink RX4 130 Lib.Math.max.name, Cond.static Lib.Math.max.name, Cond.code Lib.Math.max.name Lib.Math.max.code 2 (some .int), Cond.methodLink RX4 127 yX3_hoursAtSameVolts]
def wsX6_pass_r4 : List Cond := [Cond.instanceMethod yX3_hoursAtSameVolts, Cond.selects RX3 yX3_hoursAtSameVolts yX3_hoursAtSameVolts, Cond.code yX3_hoursAtSameVolts cX3_hoursAtSameVolts 3 (some .int), Cond.methodLink RX3 37 Lib.Math.min.name, Cond.methodLink RX3 46 yX3_voltsAfterStep, Cond.instanceMethod yX3_voltsAfterStep, Cond.selects RX3 yX3_voltsAfterStep yX3_voltsAfterStep, Cond.code yX3_voltsAfterStep cX3_voltsAfterStep 2 (some .int), Cond.methodLink RX3 43 Lib.Math.max.name, Cond.methodLink RX3 50 yX3_hoursToStep, Cond.instanceMethod yX3_hoursToStep, Cond.selects RX3 yX3_hoursToStep yX3_hoursToStep, Cond.code yX3_hoursToStep cX3_hoursToStep 2 (some .int), Cond.methodLink RX4 135 yX4_burnRack, Cond.instanceMethod yX4_burnRack, Cond.selects RX4 yX4_burnRack yX4_burnRack, Cond.code yX4_burnRack cX4_burnRack 10 (some .int), Cond.fieldLink RX4 75 "LampRacks$Racks" "lampAt" "[I", Cond.fieldLink RX4 101 "LampRacks$Racks" "volts" "[I", Cond.methodLink RX4 158 Lib.Math.min.name, Cond.fieldLink RX4 165 "LampRacks$Lamps" "end" "[I", Cond.methodLink RX4 142 yX3_isDark, Cond.instanceMethod yX3_isDark, Cond.selects RX3 yX3_isDark yX3_isDark]
def wsX6_pass_r5 : List Cond := [Cond.code yX3_isDark cX3_isDark 2 (some .boolean), Cond.static yX6_spotOf, Cond.code yX6_spotOf cX6_spotOf 2 (some .int), Cond.methodLink RX4 145 yX2_isDead, Cond.instanceMethod yX2_isDead, Cond.selects RX2 yX2_isDead yX2_isDead, Cond.code yX2_isDead cX2_isDead 2 (some .boolean), Cond.static yX6_isHot, Cond.code yX6_isHot cX6_isHot 1 (some .boolean), Cond.methodLink RX6 117 yX6_isWithin, Cond.methodLink RX4 151 yX4_wearOfHour, Cond.instanceMethod yX4_wearOfHour, Cond.selects RX4 yX4_wearOfHour yX4_wearOfHour, Cond.code yX4_wearOfHour cX4_wearOfHour 5 (some .int), Cond.methodLink RX4 155 yX2_hoursLeft, Cond.instanceMethod yX2_hoursLeft, Cond.selects RX2 yX2_hoursLeft yX2_hoursLeft, Cond.code yX2_hoursLeft cX2_hoursLeft 5 (some .int), Cond.methodLink RX2 46 Lib.Math.max.name, Cond.methodLink RX4 161 yX2_burn, Cond.instanceMethod yX2_burn, Cond.selects RX2 yX2_burn yX2_burn, Cond.code yX2_burn cX2_burn 4 none, Cond.methodLink RX4 138 yX3_countHours]
def wsX6_pass_r6 : List Cond := [Cond.instanceMethod yX3_countHours, Cond.selects RX3 yX3_countHours yX3_countHours, Cond.code yX3_countHours cX3_countHours 5 none, Cond.methodLink RX6 58 yX6_recorded, Cond.instanceMethod yX6_recorded, Cond.selects RX6 yX6_recorded yX6_recorded, Cond.code yX6_recorded cX6_recorded 2 (some .int), Cond.fieldLink RX6 32 "LampRacks" "history" "LLampRacks$History;", Cond.methodLink RX6 210 yX1_append, Cond.instanceMethod yX1_append, Cond.selects RX1 yX1_append yX1_append, Cond.initialized RX1, Cond.code yX1_append cX1_append 2 none, Cond.fieldLink RX1 9 "LampRacks$History" "size" "I", Cond.fieldLink RX1 17 "LampRacks$History" "states" "[LLampRacks$State;", Cond.methodLink RX1 22 yX1_dropOldest, Cond.instanceMethod yX1_dropOldest, Cond.selects RX1 yX1_dropOldest yX1_dropOldest, Cond.code yX1_dropOldest cX1_dropOldest 3 none, Cond.methodLink RX1 25 yX4_copyFrom]
def wsX6_pass : List Cond := .code yX6_pass cX6_pass 2 (some .int) :: ((wsX6_pass_r1 ++ (wsX6_pass_r2 ++ (wsX6_pass_r3 ++ (wsX6_pass_r4 ++ (wsX6_pass_r5 ++ wsX6_pass_r6))))) ++ wsX60 ++ wsX40 ++ wsX00 ++ wsX20 ++ wsX30 ++ wsX10)
def wsX6_type : List Cond := .code yX6_type cX6_type 2 (some .int) :: ([.fieldLink RX6 39 "LampRacks" "text" "LLampRacks$Text;", .methodLink RX6 85 yX5_append, .instanceMethod yX5_append, .selects RX5 yX5_append yX5_append, .initialized RX5, .code yX5_append cX5_append 2 (some .int), .fieldLink RX5 9 "LampRacks$Text" "length" "I", .fieldLink RX5 15 "LampRacks$Text" "characters" "[C"] ++ wsX60 ++ wsX50)
def wsX6_clearText : List Cond := .code yX6_clearText cX6_clearText 1 (some .int) :: ([.fieldLink RX6 39 "LampRacks" "text" "LLampRacks$Text;", .methodLink RX6 89 yX5_empty, .instanceMethod yX5_empty, .selects RX5 yX5_empty yX5_empty, .initialized RX5, .code yX5_empty cX5_empty 2 (some .int), .fieldLink RX5 9 "LampRacks$Text" "length" "I"] ++ wsX60 ++ wsX50)
def wsX6_doThing_r1 : List Cond := [Cond.fieldLink RX6 39 "LampRacks" "text" "LLampRacks$Text;", Cond.fieldLink RX6 212 "LampRacks$Text" "kind" "I", Cond.fieldLink RX6 10 "LampRacks" "now" "LLampRacks$State;", Cond.fieldLink RX6 215 "LampRacks$Text" "rack" "I", Cond.fieldLink RX6 218 "LampRacks$Text" "place" "I", Cond.fieldLink RX6 221 "LampRacks$Text" "number" "I", Cond.fieldLink RX6 224 "LampRacks$Text" "hours" "I", Cond.fieldLink RX6 227 "LampRacks$Text" "direction" "I", Cond.methodLink RX6 62 yX4_insertLamp, Cond.instanceMethod yX4_insertLamp, Cond.selects RX4 yX4_insertLamp yX4_insertLamp, Cond.initialized RX4, Cond.code yX4_insertLamp cX4_insertLamp 6 (some .int), Cond.fieldLink RX4 38 "LampRacks$State" "racks" "LLampRacks$Racks;", Cond.fieldLink RX4 75 "LampRacks$Racks" "lampAt" "[I", Cond.fieldLink RX4 31 "LampRacks$State" "lamps" "LLampRacks$Lamps;", Cond.fieldLink RX4 24 "LampRacks$State" "batches" "LLampRacks$Batches;", Cond.fieldLink RX4 82 "LampRacks$Lamps" "size" "I", Cond.static yX6_isPlace, Cond.initialized RX6, Cond.code yX6_isPlace cX6_isPlace 2 (some .boolean), Cond.methodLink RX6 230 yX6_isRack, Cond.static yX6_isRack, Cond.code yX6_isRack cX6_isRack 1 (some .boolean)]
def wsX6_doThing_r2 : List Cond := [Cond.methodLink RX6 117 yX6_isWithin, Cond.static yX6_isWithin, Cond.code yX6_isWithin cX6_isWithin 3 (some .boolean), Cond.static yX6_isBatch, Cond.code yX6_isBatch cX6_isBatch 1 (some .boolean), Cond.static yX6_spotOf, Cond.code yX6_spotOf cX6_spotOf 2 (some .int), Cond.methodLink RX4 78 yX2_isFull, Cond.instanceMethod yX2_isFull, Cond.selects RX2 yX2_isFull yX2_isFull, Cond.initialized RX2, Cond.code yX2_isFull cX2_isFull 1 (some .boolean), Cond.fieldLink RX2 9 "LampRacks$Lamps" "size" "I", Cond.methodLink RX4 85 yX0_hoursOfLamp, Cond.instanceMethod yX0_hoursOfLamp, Cond.selects RX0 yX0_hoursOfLamp yX0_hoursOfLamp, Cond.initialized RX0, Cond.code yX0_hoursOfLamp cX0_hoursOfLamp 5 (some .int), Cond.fieldLink RX0 9 "LampRacks$Batches" "life" "[I", Cond.fieldLink RX0 15 "LampRacks$Batches" "spread" "[I", Cond.methodLink RX0 30 Lib.Math.max.name, Cond.static Lib.Math.max.name, Cond.initialized "java/lang/Math", Cond.code Lib.Math.max.name Lib.Math.max.code 2 (some .int)]
def wsX6_doThing_r3 : List Cond := [Cond.static yX6_shareOf, Cond.code yX6_shareOf cX6_shareOf 1 (some .int), Cond.static yX6_isWeak, Cond.code yX6_isWeak cX6_isWeak 1 (some .boolean), Cond.methodLink RX6 233 yX6_shareOf, Cond.methodLink RX4 88 yX2_append, Cond.instanceMethod yX2_append, Cond.selects RX2 yX2_append yX2_append, Cond.code yX2_append cX2_append 5 (some .int), Cond.fieldLink RX2 15 "LampRacks$Lamps" "batch" "[I", Cond.fieldLink RX2 19 "LampRacks$Lamps" "spot" "[I", Cond.fieldLink RX2 22 "LampRacks$Lamps" "canLast" "[I", Cond.fieldLink RX2 25 "LampRacks$Lamps" "wear" "[I", Cond.fieldLink RX2 28 "LampRacks$Lamps" "burned" "[I", Cond.fieldLink RX2 31 "LampRacks$Lamps" "end" "[I", Cond.methodLink RX6 65 yX4_removeLamp, Cond.instanceMethod yX4_removeLamp, Cond.selects RX4 yX4_removeLamp yX4_removeLamp, Cond.code yX4_removeLamp cX4_removeLamp 5 (some .int), Cond.fieldLink RX4 92 "LampRacks$Lamps" "spot" "[I", Cond.methodLink RX6 73 yX4_changeVolts, Cond.instanceMethod yX4_changeVolts, Cond.selects RX4 yX4_changeVolts yX4_changeVolts, Cond.code yX4_changeVolts cX4_changeVolts 4 (some .int)]
def wsX6_doThing_r4 : List Cond := [Cond.fieldLink RX4 101 "LampRacks$Racks" "volts" "[I", Cond.methodLink RX6 76 yX4_changeSteps, Cond.instanceMethod yX4_changeSteps, Cond.selects RX4 yX4_changeSteps yX4_changeSteps, Cond.code yX4_changeSteps cX4_changeSteps 5 (some .int), Cond.fieldLink RX4 104 "LampRacks$Racks" "stepHours" "[I", Cond.fieldLink RX4 107 "LampRacks$Racks" "stepVolts" "[I", Cond.fieldLink RX4 110 "LampRacks$Racks" "hoursOfStep" "[I", Cond.methodLink RX6 82 yX4_letPass, Cond.instanceMethod yX4_letPass, Cond.selects RX4 yX4_letPass yX4_letPass, Cond.code yX4_letPass cX4_letPass 2 (some .int), Cond.fieldLink RX4 9 "LampRacks$State" "hour" "I", Cond.constant RX4 120 (99999), Cond.methodLink RX4 121 yX4_passHours, Cond.instanceMethod yX4_passHours, Cond.selects RX4 yX4_passHours yX4_passHours, Cond.code yX4_passHours cX4_passHours 4 (some .int), Cond.methodLink RX4 124 yX4_passHoursOfRack, Cond.instanceMethod yX4_passHoursOfRack, Cond.selects RX4 yX4_passHoursOfRack yX4_passHoursOfRack, Cond.code yX4_passHoursOfRack cX4_passHoursOfRack 6 (some .int), Cond.methodLink RX4 130 Lib.Math.max.name, Cond.methodLink RX4 127 yX3_hoursAtSameVolts]
def wsX6_doThing_r5 : List Cond := [Cond.instanceMethod yX3_hoursAtSameVolts, Cond.selects RX3 yX3_hoursAtSameVolts yX3_hoursAtSameVolts, Cond.initialized RX3, Cond.code yX3_hoursAtSameVolts cX3_hoursAtSameVolts 3 (some .int), Cond.fieldLink RX3 18 "LampRacks$Racks" "stepHours" "[I", Cond.fieldLink RX3 15 "LampRacks$Racks" "volts" "[I", Cond.methodLink RX3 37 Lib.Math.min.name, Cond.static Lib.Math.min.name, Cond.code Lib.Math.min.name Lib.Math.min.code 2 (some .int), Cond.methodLink RX3 46 yX3_voltsAfterStep, Cond.instanceMethod yX3_voltsAfterStep, Cond.selects RX3 yX3_voltsAfterStep yX3_voltsAfterStep, Cond.code yX3_voltsAfterStep cX3_voltsAfterStep 2 (some .int), Cond.fieldLink RX3 21 "LampRacks$Racks" "stepVolts" "[I", Cond.methodLink RX3 43 Lib.Math.max.name, Cond.methodLink RX3 50 yX3_hoursToStep, Cond.instanceMethod yX3_hoursToStep, Cond.selects RX3 yX3_hoursToStep yX3_hoursToStep, Cond.code yX3_hoursToStep cX3_hoursToStep 2 (some .int), Cond.fieldLink RX3 24 "LampRacks$Racks" "hoursOfStep" "[I", Cond.methodLink RX4 135 yX4_burnRack, Cond.instanceMethod yX4_burnRack, Cond.selects RX4 yX4_burnRack yX4_burnRack, Cond.code yX4_burnRack cX4_burnRack 10 (some .int)]
def wsX6_doThing_r6 : List Cond := [Cond.methodLink RX4 158 Lib.Math.min.name, Cond.fieldLink RX4 165 "LampRacks$Lamps" "end" "[I", Cond.methodLink RX4 142 yX3_isDark, Cond.instanceMethod yX3_isDark, Cond.selects RX3 yX3_isDark yX3_isDark, Cond.code yX3_isDark cX3_isDark 2 (some .boolean), Cond.methodLink RX4 145 yX2_isDead, Cond.instanceMethod yX2_isDead, Cond.selects RX2 yX2_isDead yX2_isDead, Cond.code yX2_isDead cX2_isDead 2 (some .boolean), Cond.static yX6_isHot, Cond.code yX6_isHot cX6_isHot 1 (some .boolean), Cond.methodLink RX4 151 yX4_wearOfHour, Cond.instanceMethod yX4_wearOfHour, Cond.selects RX4 yX4_wearOfHour yX4_wearOfHour, Cond.code yX4_wearOfHour cX4_wearOfHour 5 (some .int), Cond.fieldLink RX4 15 "LampRacks$State" "wantedVolts" "I", Cond.fieldLink RX4 18 "LampRacks$State" "doublingVolts" "I", Cond.methodLink RX4 155 yX2_hoursLeft, Cond.instanceMethod yX2_hoursLeft, Cond.selects RX2 yX2_hoursLeft yX2_hoursLeft, Cond.code yX2_hoursLeft cX2_hoursLeft 5 (some .int), Cond.methodLink RX2 46 Lib.Math.max.name, Cond.methodLink RX4 161 yX2_burn]
def wsX6_doThing_r7 : List Cond := [Cond.instanceMethod yX2_burn, Cond.selects RX2 yX2_burn yX2_burn, Cond.code yX2_burn cX2_burn 4 none, Cond.methodLink RX4 138 yX3_countHours, Cond.instanceMethod yX3_countHours, Cond.selects RX3 yX3_countHours yX3_countHours, Cond.code yX3_countHours cX3_countHours 5 none]
def wsX6_doThing : List Cond := .code yX6_doThing cX6_doThing 1 (some .int) :: ((wsX6_doThing_r1 ++ (wsX6_doThing_r2 ++ (wsX6_doThing_r3 ++ (wsX6_doThing_r4 ++ (wsX6_doThing_r5 ++ (wsX6_doThing_r6 ++ wsX6_doThing_r7)))))) ++ wsX60 ++ wsX50 ++ wsX40 ++ wsX30 ++ wsX20 ++ wsX00)
def wsX6_isError : List Cond := .code yX6_isError cX6_isError 1 (some .boolean) :: ([])
def wsX6_perform_r1 : List Cond := [Cond.fieldLink RX6 39 "LampRacks" "text" "LLampRacks$Text;", Cond.fieldLink RX6 16 "LampRacks" "before" "LLampRacks$State;", Cond.fieldLink RX6 10 "LampRacks" "now" "LLampRacks$State;", Cond.fieldLink RX6 96 "LampRacks$Text" "things" "I", Cond.fieldLink RX6 43 "LampRacks" "stoppedThing" "I", Cond.fieldLink RX6 47 "LampRacks" "stoppedError" "I", Cond.methodLink RX6 93 yX5_findFault, Cond.instanceMethod yX5_findFault, Cond.selects RX5 yX5_findFault yX5_findFault, Cond.initialized RX5, Cond.code yX5_findFault cX5_findFault 2 (some .int), Cond.fieldLink RX5 22 "LampRacks$Text" "things" "I", Cond.fieldLink RX5 19 "LampRacks$Text" "position" "I", Cond.fieldLink RX5 9 "LampRacks$Text" "length" "I", Cond.methodLink RX5 43 yX5_startReading, Cond.instanceMethod yX5_startReading, Cond.selects RX5 yX5_startReading yX5_startReading, Cond.code yX5_startReading cX5_startReading 1 none, Cond.methodLink RX5 46 yX5_readThing, Cond.instanceMethod yX5_readThing, Cond.selects RX5 yX5_readThing yX5_readThing, Cond.code yX5_readThing cX5_readThing 1 (some .boolean), Cond.fieldLink RX5 25 "LampRacks$Text" "kind" "I", Cond.methodLink RX5 54 yX5_current]
def wsX6_perform_r2 : List Cond := [Cond.instanceMethod yX5_current, Cond.selects RX5 yX5_current yX5_current, Cond.code yX5_current cX5_current 1 (some .int), Cond.fieldLink RX5 15 "LampRacks$Text" "characters" "[C", Cond.methodLink RX5 50 yX5_readSign, Cond.instanceMethod yX5_readSign, Cond.selects RX5 yX5_readSign yX5_readSign, Cond.code yX5_readSign cX5_readSign 2 (some .boolean), Cond.methodLink RX5 58 yX5_readSpot, Cond.instanceMethod yX5_readSpot, Cond.selects RX5 yX5_readSpot yX5_readSpot, Cond.code yX5_readSpot cX5_readSpot 1 (some .boolean), Cond.fieldLink RX5 40 "LampRacks$Text" "number" "I", Cond.fieldLink RX5 31 "LampRacks$Text" "place" "I", Cond.methodLink RX5 75 yX5_readRack, Cond.instanceMethod yX5_readRack, Cond.selects RX5 yX5_readRack yX5_readRack, Cond.code yX5_readRack cX5_readRack 1 (some .boolean), Cond.fieldLink RX5 28 "LampRacks$Text" "rack" "I", Cond.methodLink RX5 61 yX5_readDigit, Cond.instanceMethod yX5_readDigit, Cond.selects RX5 yX5_readDigit yX5_readDigit, Cond.code yX5_readDigit cX5_readDigit 2 (some .boolean), Cond.static yX6_isWithin]
def wsX6_perform_r3 : List Cond := [Cond.initialized RX6, Cond.code yX6_isWithin cX6_isWithin 3 (some .boolean), Cond.methodLink RX5 65 yX5_readRackAndColon, Cond.instanceMethod yX5_readRackAndColon, Cond.selects RX5 yX5_readRackAndColon yX5_readRackAndColon, Cond.code yX5_readRackAndColon cX5_readRackAndColon 1 (some .boolean), Cond.methodLink RX5 68 yX5_readNumber, Cond.instanceMethod yX5_readNumber, Cond.selects RX5 yX5_readNumber yX5_readNumber, Cond.code yX5_readNumber cX5_readNumber 3 (some .boolean), Cond.methodLink RX5 85 yX5_isNextDigit, Cond.instanceMethod yX5_isNextDigit, Cond.selects RX5 yX5_isNextDigit yX5_isNextDigit, Cond.code yX5_isNextDigit cX5_isNextDigit 2 (some .boolean), Cond.methodLink RX5 72 yX5_readSteps, Cond.instanceMethod yX5_readSteps, Cond.selects RX5 yX5_readSteps yX5_readSteps, Cond.code yX5_readSteps cX5_readSteps 1 (some .boolean), Cond.fieldLink RX5 34 "LampRacks$Text" "hours" "I", Cond.methodLink RX5 78 yX5_readDirection, Cond.instanceMethod yX5_readDirection, Cond.selects RX5 yX5_readDirection yX5_readDirection, Cond.code yX5_readDirection cX5_readDirection 1 (some .boolean), Cond.fieldLink RX5 37 "LampRacks$Text" "direction" "I"]
def wsX6_perform_r4 : List Cond := [Cond.methodLink RX6 50 yX4_copyFrom, Cond.instanceMethod yX4_copyFrom, Cond.selects RX4 yX4_copyFrom yX4_copyFrom, Cond.initialized RX4, Cond.code yX4_copyFrom cX4_copyFrom 2 none, Cond.fieldLink RX4 9 "LampRacks$State" "hour" "I", Cond.fieldLink RX4 15 "LampRacks$State" "wantedVolts" "I", Cond.fieldLink RX4 18 "LampRacks$State" "doublingVolts" "I", Cond.fieldLink RX4 24 "LampRacks$State" "batches" "LLampRacks$Batches;", Cond.fieldLink RX4 31 "LampRacks$State" "lamps" "LLampRacks$Lamps;", Cond.fieldLink RX4 38 "LampRacks$State" "racks" "LLampRacks$Racks;", Cond.methodLink RX4 42 yX0_copyFrom, Cond.instanceMethod yX0_copyFrom, Cond.selects RX0 yX0_copyFrom yX0_copyFrom, Cond.initialized RX0, Cond.code yX0_copyFrom cX0_copyFrom 2 none, Cond.fieldLink RX0 9 "LampRacks$Batches" "life" "[I", Cond.fieldLink RX0 15 "LampRacks$Batches" "spread" "[I", Cond.static yX6_copy, Cond.code yX6_copy cX6_copy 2 none, Cond.methodLink RX6 236 Lib.Math.min.name, Cond.static Lib.Math.min.name, Cond.initialized "java/lang/Math", Cond.code Lib.Math.min.name Lib.Math.min.code 2 (some .int)]
def wsX6_perform_r5 : List Cond := [Cond.methodLink RX6 241 arraycopyName, Cond.native arraycopyName, Cond.static arraycopyName, Cond.initialized "java/lang/System", Cond.methodLink RX4 46 yX2_copyFrom, Cond.instanceMethod yX2_copyFrom, Cond.selects RX2 yX2_copyFrom yX2_copyFrom, Cond.initialized RX2, Cond.code yX2_copyFrom cX2_copyFrom 2 none, Cond.fieldLink RX2 9 "LampRacks$Lamps" "size" "I", Cond.fieldLink RX2 15 "LampRacks$Lamps" "batch" "[I", Cond.fieldLink RX2 19 "LampRacks$Lamps" "spot" "[I", Cond.fieldLink RX2 22 "LampRacks$Lamps" "canLast" "[I", Cond.fieldLink RX2 25 "LampRacks$Lamps" "wear" "[I", Cond.fieldLink RX2 28 "LampRacks$Lamps" "burned" "[I", Cond.fieldLink RX2 31 "LampRacks$Lamps" "end" "[I", Cond.methodLink RX4 49 yX3_copyFrom, Cond.instanceMethod yX3_copyFrom, Cond.selects RX3 yX3_copyFrom yX3_copyFrom, Cond.initialized RX3, Cond.code yX3_copyFrom cX3_copyFrom 2 none, Cond.fieldLink RX3 9 "LampRacks$Racks" "lampAt" "[I", Cond.fieldLink RX3 15 "LampRacks$Racks" "volts" "[I", Cond.fieldLink RX3 18 "LampRacks$Racks" "stepHours" "[I"]
def wsX6_perform_r6 : List Cond := [Cond.fieldLink RX3 21 "LampRacks$Racks" "stepVolts" "[I", Cond.fieldLink RX3 24 "LampRacks$Racks" "hoursOfStep" "[I", Cond.methodLink RX6 99 yX5_startReading, Cond.methodLink RX6 102 yX5_readThing, Cond.methodLink RX6 106 yX6_doThing, Cond.instanceMethod yX6_doThing, Cond.selects RX6 yX6_doThing yX6_doThing, Cond.code yX6_doThing cX6_doThing 1 (some .int), Cond.fieldLink RX6 212 "LampRacks$Text" "kind" "I", Cond.fieldLink RX6 215 "LampRacks$Text" "rack" "I", Cond.fieldLink RX6 218 "LampRacks$Text" "place" "I", Cond.fieldLink RX6 221 "LampRacks$Text" "number" "I", Cond.fieldLink RX6 224 "LampRacks$Text" "hours" "I", Cond.fieldLink RX6 227 "LampRacks$Text" "direction" "I", Cond.methodLink RX6 62 yX4_insertLamp, Cond.instanceMethod yX4_insertLamp, Cond.selects RX4 yX4_insertLamp yX4_insertLamp, Cond.code yX4_insertLamp cX4_insertLamp 6 (some .int), Cond.fieldLink RX4 75 "LampRacks$Racks" "lampAt" "[I", Cond.fieldLink RX4 82 "LampRacks$Lamps" "size" "I", Cond.static yX6_isPlace, Cond.code yX6_isPlace cX6_isPlace 2 (some .boolean), Cond.methodLink RX6 230 yX6_isRack, Cond.static yX6_isRack]
def wsX6_perform_r7 : List Cond := [Cond.code yX6_isRack cX6_isRack 1 (some .boolean), Cond.methodLink RX6 117 yX6_isWithin, Cond.static yX6_isBatch, Cond.code yX6_isBatch cX6_isBatch 1 (some .boolean), Cond.static yX6_spotOf, Cond.code yX6_spotOf cX6_spotOf 2 (some .int), Cond.methodLink RX4 78 yX2_isFull, Cond.instanceMethod yX2_isFull, Cond.selects RX2 yX2_isFull yX2_isFull, Cond.code yX2_isFull cX2_isFull 1 (some .boolean), Cond.methodLink RX4 85 yX0_hoursOfLamp, Cond.instanceMethod yX0_hoursOfLamp, Cond.selects RX0 yX0_hoursOfLamp yX0_hoursOfLamp, Cond.code yX0_hoursOfLamp cX0_hoursOfLamp 5 (some .int), Cond.methodLink RX0 30 Lib.Math.max.name, Cond.static Lib.Math.max.name, Cond.code Lib.Math.max.name Lib.Math.max.code 2 (some .int), Cond.static yX6_shareOf, Cond.code yX6_shareOf cX6_shareOf 1 (some .int), Cond.static yX6_isWeak, Cond.code yX6_isWeak cX6_isWeak 1 (some .boolean), Cond.methodLink RX6 233 yX6_shareOf, Cond.methodLink RX4 88 yX2_append, Cond.instanceMethod yX2_append]
def wsX6_perform_r8 : List Cond := [Cond.selects RX2 yX2_append yX2_append, Cond.code yX2_append cX2_append 5 (some .int), Cond.methodLink RX6 65 yX4_removeLamp, Cond.instanceMethod yX4_removeLamp, Cond.selects RX4 yX4_removeLamp yX4_removeLamp, Cond.code yX4_removeLamp cX4_removeLamp 5 (some .int), Cond.fieldLink RX4 92 "LampRacks$Lamps" "spot" "[I", Cond.methodLink RX6 73 yX4_changeVolts, Cond.instanceMethod yX4_changeVolts, Cond.selects RX4 yX4_changeVolts yX4_changeVolts, Cond.code yX4_changeVolts cX4_changeVolts 4 (some .int), Cond.fieldLink RX4 101 "LampRacks$Racks" "volts" "[I", Cond.methodLink RX6 76 yX4_changeSteps, Cond.instanceMethod yX4_changeSteps, Cond.selects RX4 yX4_changeSteps yX4_changeSteps, Cond.code yX4_changeSteps cX4_changeSteps 5 (some .int), Cond.fieldLink RX4 104 "LampRacks$Racks" "stepHours" "[I", Cond.fieldLink RX4 107 "LampRacks$Racks" "stepVolts" "[I", Cond.fieldLink RX4 110 "LampRacks$Racks" "hoursOfStep" "[I", Cond.methodLink RX6 82 yX4_letPass, Cond.instanceMethod yX4_letPass, Cond.selects RX4 yX4_letPass yX4_letPass, Cond.code yX4_letPass cX4_letPass 2 (some .int), Cond.constant RX4 120 (99999)]
def wsX6_perform_r9 : List Cond := [Cond.methodLink RX4 121 yX4_passHours, Cond.instanceMethod yX4_passHours, Cond.selects RX4 yX4_passHours yX4_passHours, Cond.code yX4_passHours cX4_passHours 4 (some .int), Cond.methodLink RX4 124 yX4_passHoursOfRack, Cond.instanceMethod yX4_passHoursOfRack, Cond.selects RX4 yX4_passHoursOfRack yX4_passHoursOfRack, Cond.code yX4_passHoursOfRack cX4_passHoursOfRack 6 (some .int), Cond.methodLink RX4 130 Lib.Math.max.name, Cond.methodLink RX4 127 yX3_hoursAtSameVolts, Cond.instanceMethod yX3_hoursAtSameVolts, Cond.selects RX3 yX3_hoursAtSameVolts yX3_hoursAtSameVolts, Cond.code yX3_hoursAtSameVolts cX3_hoursAtSameVolts 3 (some .int), Cond.methodLink RX3 37 Lib.Math.min.name, Cond.methodLink RX3 46 yX3_voltsAfterStep, Cond.instanceMethod yX3_voltsAfterStep, Cond.selects RX3 yX3_voltsAfterStep yX3_voltsAfterStep, Cond.code yX3_voltsAfterStep cX3_voltsAfterStep 2 (some .int), Cond.methodLink RX3 43 Lib.Math.max.name, Cond.methodLink RX3 50 yX3_hoursToStep, Cond.instanceMethod yX3_hoursToStep, Cond.selects RX3 yX3_hoursToStep yX3_hoursToStep, Cond.code yX3_hoursToStep cX3_hoursToStep 2 (some .int), Cond.methodLink RX4 135 yX4_burnRack]
def wsX6_perform_r10 : List Cond := [Cond.instanceMethod yX4_burnRack, Cond.selects RX4 yX4_burnRack yX4_burnRack, Cond.code yX4_burnRack cX4_burnRack 10 (some .int), Cond.methodLink RX4 158 Lib.Math.min.name, Cond.fieldLink RX4 165 "LampRacks$Lamps" "end" "[I", Cond.methodLink RX4 142 yX3_isDark, Cond.instanceMethod yX3_isDark, Cond.selects RX3 yX3_isDark yX3_isDark, Cond.code yX3_isDark cX3_isDark 2 (some .boolean), Cond.methodLink RX4 145 yX2_isDead, Cond.instanceMethod yX2_isDead, Cond.selects RX2 yX2_isDead yX2_isDead, Cond.code yX2_isDead cX2_isDead 2 (some .boolean), Cond.static yX6_isHot, Cond.code yX6_isHot cX6_isHot 1 (some .boolean), Cond.methodLink RX4 151 yX4_wearOfHour, Cond.instanceMethod yX4_wearOfHour, Cond.selects RX4 yX4_wearOfHour yX4_wearOfHour, Cond.code yX4_wearOfHour cX4_wearOfHour 5 (some .int), Cond.methodLink RX4 155 yX2_hoursLeft, Cond.instanceMethod yX2_hoursLeft, Cond.selects RX2 yX2_hoursLeft yX2_hoursLeft, Cond.code yX2_hoursLeft cX2_hoursLeft 5 (some .int), Cond.methodLink RX2 46 Lib.Math.max.name]
def wsX6_perform_r11 : List Cond := [Cond.methodLink RX4 161 yX2_burn, Cond.instanceMethod yX2_burn, Cond.selects RX2 yX2_burn yX2_burn, Cond.code yX2_burn cX2_burn 4 none, Cond.methodLink RX4 138 yX3_countHours, Cond.instanceMethod yX3_countHours, Cond.selects RX3 yX3_countHours yX3_countHours, Cond.code yX3_countHours cX3_countHours 5 none, Cond.methodLink RX6 109 yX6_isError, Cond.static yX6_isError, Cond.code yX6_isError cX6_isError 1 (some .boolean), Cond.methodLink RX6 113 yX5_readSign, Cond.methodLink RX6 58 yX6_recorded, Cond.instanceMethod yX6_recorded, Cond.selects RX6 yX6_recorded yX6_recorded, Cond.code yX6_recorded cX6_recorded 2 (some .int), Cond.fieldLink RX6 32 "LampRacks" "history" "LLampRacks$History;", Cond.methodLink RX6 210 yX1_append, Cond.instanceMethod yX1_append, Cond.selects RX1 yX1_append yX1_append, Cond.initialized RX1, Cond.code yX1_append cX1_append 2 none, Cond.fieldLink RX1 9 "LampRacks$History" "size" "I", Cond.fieldLink RX1 17 "LampRacks$History" "states" "[LLampRacks$State;"]
def wsX6_perform_r12 : List Cond := [Cond.methodLink RX1 22 yX1_dropOldest, Cond.instanceMethod yX1_dropOldest, Cond.selects RX1 yX1_dropOldest yX1_dropOldest, Cond.code yX1_dropOldest cX1_dropOldest 3 none, Cond.methodLink RX1 25 yX4_copyFrom]
def wsX6_perform : List Cond := .code yX6_perform cX6_perform 5 (some .int) :: ((wsX6_perform_r1 ++ (wsX6_perform_r2 ++ (wsX6_perform_r3 ++ (wsX6_perform_r4 ++ (wsX6_perform_r5 ++ (wsX6_perform_r6 ++ (wsX6_perform_r7 ++ (wsX6_perform_r8 ++ (wsX6_perform_r9 ++ (wsX6_perform_r10 ++ (wsX6_perform_r11 ++ wsX6_perform_r12))))))))))) ++ wsX60 ++ wsX50 ++ wsX40 ++ wsX00 ++ wsX20 ++ wsX30 ++ wsX10)
def wsX6_stopped : List Cond := .code yX6_stopped cX6_stopped 2 (some .int) :: ([.fieldLink RX6 47 "LampRacks" "stoppedError" "I", .fieldLink RX6 43 "LampRacks" "stoppedThing" "I", .methodLink RX6 117 yX6_isWithin, .static yX6_isWithin, .initialized RX6, .code yX6_isWithin cX6_isWithin 3 (some .boolean)] ++ wsX60)
def wsX6_undo_r1 : List Cond := [Cond.fieldLink RX6 32 "LampRacks" "history" "LLampRacks$History;", Cond.fieldLink RX6 121 "LampRacks$History" "size" "I", Cond.fieldLink RX6 10 "LampRacks" "now" "LLampRacks$State;", Cond.methodLink RX6 124 yX1_moveLatestTo, Cond.instanceMethod yX1_moveLatestTo, Cond.selects RX1 yX1_moveLatestTo yX1_moveLatestTo, Cond.initialized RX1, Cond.code yX1_moveLatestTo cX1_moveLatestTo 2 none, Cond.fieldLink RX1 9 "LampRacks$History" "size" "I", Cond.fieldLink RX1 17 "LampRacks$History" "states" "[LLampRacks$State;", Cond.methodLink RX1 25 yX4_copyFrom, Cond.instanceMethod yX4_copyFrom, Cond.selects RX4 yX4_copyFrom yX4_copyFrom, Cond.initialized RX4, Cond.code yX4_copyFrom cX4_copyFrom 2 none, Cond.fieldLink RX4 9 "LampRacks$State" "hour" "I", Cond.fieldLink RX4 15 "LampRacks$State" "wantedVolts" "I", Cond.fieldLink RX4 18 "LampRacks$State" "doublingVolts" "I", Cond.fieldLink RX4 24 "LampRacks$State" "batches" "LLampRacks$Batches;", Cond.fieldLink RX4 31 "LampRacks$State" "lamps" "LLampRacks$Lamps;", Cond.fieldLink RX4 38 "LampRacks$State" "racks" "LLampRacks$Racks;", Cond.methodLink RX4 42 yX0_copyFrom, Cond.instanceMethod yX0_copyFrom, Cond.selects RX0 yX0_copyFrom yX0_copyFrom]
def wsX6_undo_r2 : List Cond := [Cond.initialized RX0, Cond.code yX0_copyFrom cX0_copyFrom 2 none, Cond.fieldLink RX0 9 "LampRacks$Batches" "life" "[I", Cond.fieldLink RX0 15 "LampRacks$Batches" "spread" "[I", Cond.static yX6_copy, Cond.initialized RX6, Cond.code yX6_copy cX6_copy 2 none, Cond.methodLink RX6 236 Lib.Math.min.name, Cond.static Lib.Math.min.name, Cond.initialized "java/lang/Math", Cond.code Lib.Math.min.name Lib.Math.min.code 2 (some .int), Cond.methodLink RX6 241 arraycopyName, Cond.native arraycopyName, Cond.static arraycopyName, Cond.initialized "java/lang/System", Cond.methodLink RX4 46 yX2_copyFrom, Cond.instanceMethod yX2_copyFrom, Cond.selects RX2 yX2_copyFrom yX2_copyFrom, Cond.initialized RX2, Cond.code yX2_copyFrom cX2_copyFrom 2 none, Cond.fieldLink RX2 9 "LampRacks$Lamps" "size" "I", Cond.fieldLink RX2 15 "LampRacks$Lamps" "batch" "[I", Cond.fieldLink RX2 19 "LampRacks$Lamps" "spot" "[I", Cond.fieldLink RX2 22 "LampRacks$Lamps" "canLast" "[I"]
def wsX6_undo_r3 : List Cond := [Cond.fieldLink RX2 25 "LampRacks$Lamps" "wear" "[I", Cond.fieldLink RX2 28 "LampRacks$Lamps" "burned" "[I", Cond.fieldLink RX2 31 "LampRacks$Lamps" "end" "[I", Cond.methodLink RX4 49 yX3_copyFrom, Cond.instanceMethod yX3_copyFrom, Cond.selects RX3 yX3_copyFrom yX3_copyFrom, Cond.initialized RX3, Cond.code yX3_copyFrom cX3_copyFrom 2 none, Cond.fieldLink RX3 9 "LampRacks$Racks" "lampAt" "[I", Cond.fieldLink RX3 15 "LampRacks$Racks" "volts" "[I", Cond.fieldLink RX3 18 "LampRacks$Racks" "stepHours" "[I", Cond.fieldLink RX3 21 "LampRacks$Racks" "stepVolts" "[I", Cond.fieldLink RX3 24 "LampRacks$Racks" "hoursOfStep" "[I"]
def wsX6_undo : List Cond := .code yX6_undo cX6_undo 1 (some .int) :: ((wsX6_undo_r1 ++ (wsX6_undo_r2 ++ wsX6_undo_r3)) ++ wsX60 ++ wsX10 ++ wsX40 ++ wsX00 ++ wsX20 ++ wsX30)
def wsX6_keep_r1 : List Cond := [Cond.fieldLink RX6 22 "LampRacks" "snapshot" "LLampRacks$State;", Cond.fieldLink RX6 10 "LampRacks" "now" "LLampRacks$State;", Cond.fieldLink RX6 25 "LampRacks" "hasSnapshot" "Z", Cond.fieldLink RX6 127 "LampRacks$State" "lamps" "LLampRacks$Lamps;", Cond.fieldLink RX6 131 "LampRacks$Lamps" "size" "I", Cond.methodLink RX6 50 yX4_copyFrom, Cond.instanceMethod yX4_copyFrom, Cond.selects RX4 yX4_copyFrom yX4_copyFrom, Cond.initialized RX4, Cond.code yX4_copyFrom cX4_copyFrom 2 none, Cond.fieldLink RX4 9 "LampRacks$State" "hour" "I", Cond.fieldLink RX4 15 "LampRacks$State" "wantedVolts" "I", Cond.fieldLink RX4 18 "LampRacks$State" "doublingVolts" "I", Cond.fieldLink RX4 24 "LampRacks$State" "batches" "LLampRacks$Batches;", Cond.fieldLink RX4 31 "LampRacks$State" "lamps" "LLampRacks$Lamps;", Cond.fieldLink RX4 38 "LampRacks$State" "racks" "LLampRacks$Racks;", Cond.methodLink RX4 42 yX0_copyFrom, Cond.instanceMethod yX0_copyFrom, Cond.selects RX0 yX0_copyFrom yX0_copyFrom, Cond.initialized RX0, Cond.code yX0_copyFrom cX0_copyFrom 2 none, Cond.fieldLink RX0 9 "LampRacks$Batches" "life" "[I", Cond.fieldLink RX0 15 "LampRacks$Batches" "spread" "[I", Cond.static yX6_copy]
def wsX6_keep_r2 : List Cond := [Cond.initialized RX6, Cond.code yX6_copy cX6_copy 2 none, Cond.methodLink RX6 236 Lib.Math.min.name, Cond.static Lib.Math.min.name, Cond.initialized "java/lang/Math", Cond.code Lib.Math.min.name Lib.Math.min.code 2 (some .int), Cond.methodLink RX6 241 arraycopyName, Cond.native arraycopyName, Cond.static arraycopyName, Cond.initialized "java/lang/System", Cond.methodLink RX4 46 yX2_copyFrom, Cond.instanceMethod yX2_copyFrom, Cond.selects RX2 yX2_copyFrom yX2_copyFrom, Cond.initialized RX2, Cond.code yX2_copyFrom cX2_copyFrom 2 none, Cond.fieldLink RX2 9 "LampRacks$Lamps" "size" "I", Cond.fieldLink RX2 15 "LampRacks$Lamps" "batch" "[I", Cond.fieldLink RX2 19 "LampRacks$Lamps" "spot" "[I", Cond.fieldLink RX2 22 "LampRacks$Lamps" "canLast" "[I", Cond.fieldLink RX2 25 "LampRacks$Lamps" "wear" "[I", Cond.fieldLink RX2 28 "LampRacks$Lamps" "burned" "[I", Cond.fieldLink RX2 31 "LampRacks$Lamps" "end" "[I", Cond.methodLink RX4 49 yX3_copyFrom, Cond.instanceMethod yX3_copyFrom]
def wsX6_keep_r3 : List Cond := [Cond.selects RX3 yX3_copyFrom yX3_copyFrom, Cond.initialized RX3, Cond.code yX3_copyFrom cX3_copyFrom 2 none, Cond.fieldLink RX3 9 "LampRacks$Racks" "lampAt" "[I", Cond.fieldLink RX3 15 "LampRacks$Racks" "volts" "[I", Cond.fieldLink RX3 18 "LampRacks$Racks" "stepHours" "[I", Cond.fieldLink RX3 21 "LampRacks$Racks" "stepVolts" "[I", Cond.fieldLink RX3 24 "LampRacks$Racks" "hoursOfStep" "[I"]
def wsX6_keep : List Cond := .code yX6_keep cX6_keep 1 (some .int) :: ((wsX6_keep_r1 ++ (wsX6_keep_r2 ++ wsX6_keep_r3)) ++ wsX60 ++ wsX40 ++ wsX20 ++ wsX00 ++ wsX30)
def wsX6_restore_r1 : List Cond := [Cond.fieldLink RX6 25 "LampRacks" "hasSnapshot" "Z", Cond.fieldLink RX6 16 "LampRacks" "before" "LLampRacks$State;", Cond.fieldLink RX6 10 "LampRacks" "now" "LLampRacks$State;", Cond.fieldLink RX6 22 "LampRacks" "snapshot" "LLampRacks$State;", Cond.fieldLink RX6 127 "LampRacks$State" "lamps" "LLampRacks$Lamps;", Cond.fieldLink RX6 131 "LampRacks$Lamps" "size" "I", Cond.methodLink RX6 50 yX4_copyFrom, Cond.instanceMethod yX4_copyFrom, Cond.selects RX4 yX4_copyFrom yX4_copyFrom, Cond.initialized RX4, Cond.code yX4_copyFrom cX4_copyFrom 2 none, Cond.fieldLink RX4 9 "LampRacks$State" "hour" "I", Cond.fieldLink RX4 15 "LampRacks$State" "wantedVolts" "I", Cond.fieldLink RX4 18 "LampRacks$State" "doublingVolts" "I", Cond.fieldLink RX4 24 "LampRacks$State" "batches" "LLampRacks$Batches;", Cond.fieldLink RX4 31 "LampRacks$State" "lamps" "LLampRacks$Lamps;", Cond.fieldLink RX4 38 "LampRacks$State" "racks" "LLampRacks$Racks;", Cond.methodLink RX4 42 yX0_copyFrom, Cond.instanceMethod yX0_copyFrom, Cond.selects RX0 yX0_copyFrom yX0_copyFrom, Cond.initialized RX0, Cond.code yX0_copyFrom cX0_copyFrom 2 none, Cond.fieldLink RX0 9 "LampRacks$Batches" "life" "[I", Cond.fieldLink RX0 15 "LampRacks$Batches" "spread" "[I"]
def wsX6_restore_r2 : List Cond := [Cond.static yX6_copy, Cond.initialized RX6, Cond.code yX6_copy cX6_copy 2 none, Cond.methodLink RX6 236 Lib.Math.min.name, Cond.static Lib.Math.min.name, Cond.initialized "java/lang/Math", Cond.code Lib.Math.min.name Lib.Math.min.code 2 (some .int), Cond.methodLink RX6 241 arraycopyName, Cond.native arraycopyName, Cond.static arraycopyName, Cond.initialized "java/lang/System", Cond.methodLink RX4 46 yX2_copyFrom, Cond.instanceMethod yX2_copyFrom, Cond.selects RX2 yX2_copyFrom yX2_copyFrom, Cond.initialized RX2, Cond.code yX2_copyFrom cX2_copyFrom 2 none, Cond.fieldLink RX2 9 "LampRacks$Lamps" "size" "I", Cond.fieldLink RX2 15 "LampRacks$Lamps" "batch" "[I", Cond.fieldLink RX2 19 "LampRacks$Lamps" "spot" "[I", Cond.fieldLink RX2 22 "LampRacks$Lamps" "canLast" "[I", Cond.fieldLink RX2 25 "LampRacks$Lamps" "wear" "[I", Cond.fieldLink RX2 28 "LampRacks$Lamps" "burned" "[I", Cond.fieldLink RX2 31 "LampRacks$Lamps" "end" "[I", Cond.methodLink RX4 49 yX3_copyFrom]
def wsX6_restore_r3 : List Cond := [Cond.instanceMethod yX3_copyFrom, Cond.selects RX3 yX3_copyFrom yX3_copyFrom, Cond.initialized RX3, Cond.code yX3_copyFrom cX3_copyFrom 2 none, Cond.fieldLink RX3 9 "LampRacks$Racks" "lampAt" "[I", Cond.fieldLink RX3 15 "LampRacks$Racks" "volts" "[I", Cond.fieldLink RX3 18 "LampRacks$Racks" "stepHours" "[I", Cond.fieldLink RX3 21 "LampRacks$Racks" "stepVolts" "[I", Cond.fieldLink RX3 24 "LampRacks$Racks" "hoursOfStep" "[I", Cond.methodLink RX6 58 yX6_recorded, Cond.instanceMethod yX6_recorded, Cond.selects RX6 yX6_recorded yX6_recorded, Cond.code yX6_recorded cX6_recorded 2 (some .int), Cond.fieldLink RX6 32 "LampRacks" "history" "LLampRacks$History;", Cond.methodLink RX6 210 yX1_append, Cond.instanceMethod yX1_append, Cond.selects RX1 yX1_append yX1_append, Cond.initialized RX1, Cond.code yX1_append cX1_append 2 none, Cond.fieldLink RX1 9 "LampRacks$History" "size" "I", Cond.fieldLink RX1 17 "LampRacks$History" "states" "[LLampRacks$State;", Cond.methodLink RX1 22 yX1_dropOldest, Cond.instanceMethod yX1_dropOldest, Cond.selects RX1 yX1_dropOldest yX1_dropOldest]
def wsX6_restore_r4 : List Cond := [Cond.code yX1_dropOldest cX1_dropOldest 3 none, Cond.methodLink RX1 25 yX4_copyFrom]
def wsX6_restore : List Cond := .code yX6_restore cX6_restore 1 (some .int) :: ((wsX6_restore_r1 ++ (wsX6_restore_r2 ++ (wsX6_restore_r3 ++ wsX6_restore_r4))) ++ wsX60 ++ wsX40 ++ wsX20 ++ wsX00 ++ wsX30 ++ wsX10)
def wsX6_lamp_r1 : List Cond := [Cond.fieldLink RX6 10 "LampRacks" "now" "LLampRacks$State;", Cond.methodLink RX6 134 yX4_tellOfLamp, Cond.instanceMethod yX4_tellOfLamp, Cond.selects RX4 yX4_tellOfLamp yX4_tellOfLamp, Cond.initialized RX4, Cond.code yX4_tellOfLamp cX4_tellOfLamp 4 (some .int), Cond.fieldLink RX4 31 "LampRacks$State" "lamps" "LLampRacks$Lamps;", Cond.fieldLink RX4 92 "LampRacks$Lamps" "spot" "[I", Cond.fieldLink RX4 171 "LampRacks$Lamps" "batch" "[I", Cond.fieldLink RX4 174 "LampRacks$Lamps" "canLast" "[I", Cond.fieldLink RX4 177 "LampRacks$Lamps" "wear" "[I", Cond.fieldLink RX4 180 "LampRacks$Lamps" "burned" "[I", Cond.fieldLink RX4 165 "LampRacks$Lamps" "end" "[I", Cond.methodLink RX4 168 yX2_has, Cond.instanceMethod yX2_has, Cond.selects RX2 yX2_has yX2_has, Cond.initialized RX2, Cond.code yX2_has cX2_has 2 (some .boolean), Cond.fieldLink RX2 9 "LampRacks$Lamps" "size" "I", Cond.static yX6_isWithin, Cond.initialized RX6, Cond.code yX6_isWithin cX6_isWithin 3 (some .boolean), Cond.methodLink RX4 183 yX2_hoursCounted, Cond.instanceMethod yX2_hoursCounted]
def wsX6_lamp_r2 : List Cond := [Cond.selects RX2 yX2_hoursCounted yX2_hoursCounted, Cond.code yX2_hoursCounted cX2_hoursCounted 2 (some .int), Cond.fieldLink RX2 25 "LampRacks$Lamps" "wear" "[I", Cond.methodLink RX4 145 yX2_isDead, Cond.instanceMethod yX2_isDead, Cond.selects RX2 yX2_isDead yX2_isDead, Cond.code yX2_isDead cX2_isDead 2 (some .boolean), Cond.fieldLink RX2 31 "LampRacks$Lamps" "end" "[I", Cond.static yX6_oneIf, Cond.code yX6_oneIf cX6_oneIf 1 (some .int), Cond.static yX6_isWeak, Cond.code yX6_isWeak cX6_isWeak 1 (some .boolean), Cond.methodLink RX6 233 yX6_shareOf, Cond.static yX6_shareOf, Cond.code yX6_shareOf cX6_shareOf 1 (some .int)]
def wsX6_lamp : List Cond := .code yX6_lamp cX6_lamp 3 (some .int) :: ((wsX6_lamp_r1 ++ wsX6_lamp_r2) ++ wsX60 ++ wsX40 ++ wsX20)
def wsX6_rack_r1 : List Cond := [Cond.fieldLink RX6 10 "LampRacks" "now" "LLampRacks$State;", Cond.methodLink RX6 137 yX4_tellOfRack, Cond.instanceMethod yX4_tellOfRack, Cond.selects RX4 yX4_tellOfRack yX4_tellOfRack, Cond.initialized RX4, Cond.code yX4_tellOfRack cX4_tellOfRack 4 (some .int), Cond.fieldLink RX4 38 "LampRacks$State" "racks" "LLampRacks$Racks;", Cond.fieldLink RX4 101 "LampRacks$Racks" "volts" "[I", Cond.fieldLink RX4 104 "LampRacks$Racks" "stepHours" "[I", Cond.fieldLink RX4 107 "LampRacks$Racks" "stepVolts" "[I", Cond.static yX6_isRack, Cond.initialized RX6, Cond.code yX6_isRack cX6_isRack 1 (some .boolean), Cond.methodLink RX6 117 yX6_isWithin, Cond.static yX6_isWithin, Cond.code yX6_isWithin cX6_isWithin 3 (some .boolean), Cond.methodLink RX4 193 yX4_countInRack, Cond.instanceMethod yX4_countInRack, Cond.selects RX4 yX4_countInRack yX4_countInRack, Cond.code yX4_countInRack cX4_countInRack 6 (some .int), Cond.fieldLink RX4 75 "LampRacks$Racks" "lampAt" "[I", Cond.fieldLink RX4 31 "LampRacks$State" "lamps" "LLampRacks$Lamps;", Cond.static yX6_spotOf, Cond.code yX6_spotOf cX6_spotOf 2 (some .int)]
def wsX6_rack_r2 : List Cond := [Cond.methodLink RX4 145 yX2_isDead, Cond.instanceMethod yX2_isDead, Cond.selects RX2 yX2_isDead yX2_isDead, Cond.initialized RX2, Cond.code yX2_isDead cX2_isDead 2 (some .boolean), Cond.fieldLink RX2 31 "LampRacks$Lamps" "end" "[I", Cond.static yX6_oneIf, Cond.code yX6_oneIf cX6_oneIf 1 (some .int), Cond.methodLink RX4 142 yX3_isDark, Cond.instanceMethod yX3_isDark, Cond.selects RX3 yX3_isDark yX3_isDark, Cond.initialized RX3, Cond.code yX3_isDark cX3_isDark 2 (some .boolean), Cond.fieldLink RX3 15 "LampRacks$Racks" "volts" "[I", Cond.methodLink RX4 151 yX4_wearOfHour, Cond.instanceMethod yX4_wearOfHour, Cond.selects RX4 yX4_wearOfHour yX4_wearOfHour, Cond.code yX4_wearOfHour cX4_wearOfHour 5 (some .int), Cond.fieldLink RX4 15 "LampRacks$State" "wantedVolts" "I", Cond.fieldLink RX4 18 "LampRacks$State" "doublingVolts" "I", Cond.methodLink RX4 130 Lib.Math.max.name, Cond.static Lib.Math.max.name, Cond.initialized "java/lang/Math", Cond.code Lib.Math.max.name Lib.Math.max.code 2 (some .int)]
def wsX6_rack_r3 : List Cond := [Cond.methodLink RX4 196 yX3_hoursToStep, Cond.instanceMethod yX3_hoursToStep, Cond.selects RX3 yX3_hoursToStep yX3_hoursToStep, Cond.code yX3_hoursToStep cX3_hoursToStep 2 (some .int), Cond.fieldLink RX3 18 "LampRacks$Racks" "stepHours" "[I", Cond.fieldLink RX3 24 "LampRacks$Racks" "hoursOfStep" "[I"]
def wsX6_rack : List Cond := .code yX6_rack cX6_rack 3 (some .int) :: ((wsX6_rack_r1 ++ (wsX6_rack_r2 ++ wsX6_rack_r3)) ++ wsX60 ++ wsX40 ++ wsX30 ++ wsX20)
def wsX6_at : List Cond := .code yX6_at cX6_at 4 (some .int) :: ([.fieldLink RX6 10 "LampRacks" "now" "LLampRacks$State;", .fieldLink RX6 144 "LampRacks$State" "racks" "LLampRacks$Racks;", .fieldLink RX6 148 "LampRacks$Racks" "lampAt" "[I", .methodLink RX6 140 yX6_isPlace, .static yX6_isPlace, .initialized RX6, .code yX6_isPlace cX6_isPlace 2 (some .boolean), .methodLink RX6 230 yX6_isRack, .static yX6_isRack, .code yX6_isRack cX6_isRack 1 (some .boolean), .methodLink RX6 117 yX6_isWithin, .static yX6_isWithin, .code yX6_isWithin cX6_isWithin 3 (some .boolean), .methodLink RX6 154 yX6_spotOf, .static yX6_spotOf, .code yX6_spotOf cX6_spotOf 2 (some .int)] ++ wsX60 ++ wsX40 ++ wsX30)
def wsX6_batch_r1 : List Cond := [Cond.fieldLink RX6 10 "LampRacks" "now" "LLampRacks$State;", Cond.methodLink RX6 157 yX4_tellOfBatch, Cond.instanceMethod yX4_tellOfBatch, Cond.selects RX4 yX4_tellOfBatch yX4_tellOfBatch, Cond.initialized RX4, Cond.code yX4_tellOfBatch cX4_tellOfBatch 5 (some .int), Cond.fieldLink RX4 31 "LampRacks$State" "lamps" "LLampRacks$Lamps;", Cond.fieldLink RX4 24 "LampRacks$State" "batches" "LLampRacks$Batches;", Cond.fieldLink RX4 60 "LampRacks$Batches" "life" "[I", Cond.fieldLink RX4 64 "LampRacks$Batches" "spread" "[I", Cond.static yX6_isBatch, Cond.initialized RX6, Cond.code yX6_isBatch cX6_isBatch 1 (some .boolean), Cond.methodLink RX6 117 yX6_isWithin, Cond.static yX6_isWithin, Cond.code yX6_isWithin cX6_isWithin 3 (some .boolean), Cond.methodLink RX4 199 yX2_countDeadOf, Cond.instanceMethod yX2_countDeadOf, Cond.selects RX2 yX2_countDeadOf yX2_countDeadOf, Cond.initialized RX2, Cond.code yX2_countDeadOf cX2_countDeadOf 4 (some .int), Cond.fieldLink RX2 9 "LampRacks$Lamps" "size" "I", Cond.methodLink RX2 56 yX2_isDeadOf, Cond.instanceMethod yX2_isDeadOf]
def wsX6_batch_r2 : List Cond := [Cond.selects RX2 yX2_isDeadOf yX2_isDeadOf, Cond.code yX2_isDeadOf cX2_isDeadOf 3 (some .boolean), Cond.fieldLink RX2 15 "LampRacks$Lamps" "batch" "[I", Cond.methodLink RX2 42 yX2_isDead, Cond.instanceMethod yX2_isDead, Cond.selects RX2 yX2_isDead yX2_isDead, Cond.code yX2_isDead cX2_isDead 2 (some .boolean), Cond.fieldLink RX2 31 "LampRacks$Lamps" "end" "[I", Cond.static yX6_oneIf, Cond.code yX6_oneIf cX6_oneIf 1 (some .int), Cond.methodLink RX4 202 yX2_countDeadBelow, Cond.instanceMethod yX2_countDeadBelow, Cond.selects RX2 yX2_countDeadBelow yX2_countDeadBelow, Cond.code yX2_countDeadBelow cX2_countDeadBelow 5 (some .int), Cond.methodLink RX2 60 yX2_hoursCounted, Cond.instanceMethod yX2_hoursCounted, Cond.selects RX2 yX2_hoursCounted yX2_hoursCounted, Cond.code yX2_hoursCounted cX2_hoursCounted 2 (some .int), Cond.fieldLink RX2 25 "LampRacks$Lamps" "wear" "[I", Cond.methodLink RX4 205 yX2_countOf, Cond.instanceMethod yX2_countOf, Cond.selects RX2 yX2_countOf yX2_countOf, Cond.code yX2_countOf cX2_countOf 4 (some .int), Cond.methodLink RX4 208 yX2_middleLife]
def wsX6_batch_r3 : List Cond := [Cond.instanceMethod yX2_middleLife, Cond.selects RX2 yX2_middleLife yX2_middleLife, Cond.code yX2_middleLife cX2_middleLife 4 (some .int), Cond.methodLink RX2 73 yX2_countOf, Cond.methodLink RX2 76 yX2_countShorterOf, Cond.instanceMethod yX2_countShorterOf, Cond.selects RX2 yX2_countShorterOf yX2_countShorterOf, Cond.code yX2_countShorterOf cX2_countShorterOf 8 (some .int)]
def wsX6_batch : List Cond := .code yX6_batch cX6_batch 3 (some .int) :: ((wsX6_batch_r1 ++ (wsX6_batch_r2 ++ wsX6_batch_r3)) ++ wsX60 ++ wsX40 ++ wsX00 ++ wsX20)
def wsX6_lasted : List Cond := .code yX6_lasted cX6_lasted 3 (some .int) :: ([.constant RX6 163 (99999), .fieldLink RX6 10 "LampRacks" "now" "LLampRacks$State;", .fieldLink RX6 127 "LampRacks$State" "lamps" "LLampRacks$Lamps;", .methodLink RX6 160 yX6_isBatch, .static yX6_isBatch, .initialized RX6, .code yX6_isBatch cX6_isBatch 1 (some .boolean), .methodLink RX6 117 yX6_isWithin, .static yX6_isWithin, .code yX6_isWithin cX6_isWithin 3 (some .boolean), .methodLink RX6 164 yX2_countThatLasted, .instanceMethod yX2_countThatLasted, .selects RX2 yX2_countThatLasted yX2_countThatLasted, .initialized RX2, .code yX2_countThatLasted cX2_countThatLasted 5 (some .int), .fieldLink RX2 9 "LampRacks$Lamps" "size" "I", .fieldLink RX2 15 "LampRacks$Lamps" "batch" "[I", .methodLink RX2 60 yX2_hoursCounted, .instanceMethod yX2_hoursCounted, .selects RX2 yX2_hoursCounted yX2_hoursCounted, .code yX2_hoursCounted cX2_hoursCounted 2 (some .int), .fieldLink RX2 25 "LampRacks$Lamps" "wear" "[I", .static yX6_oneIf, .code yX6_oneIf cX6_oneIf 1 (some .int)] ++ wsX60 ++ wsX40 ++ wsX20)
def wsX6_ended : List Cond := .code yX6_ended cX6_ended 3 (some .int) :: ([.fieldLink RX6 10 "LampRacks" "now" "LLampRacks$State;", .fieldLink RX6 127 "LampRacks$State" "lamps" "LLampRacks$Lamps;", .methodLink RX6 167 yX2_findEnded, .instanceMethod yX2_findEnded, .selects RX2 yX2_findEnded yX2_findEnded, .initialized RX2, .code yX2_findEnded cX2_findEnded 3 (some .int), .fieldLink RX2 9 "LampRacks$Lamps" "size" "I", .methodLink RX2 42 yX2_isDead, .instanceMethod yX2_isDead, .selects RX2 yX2_isDead yX2_isDead, .code yX2_isDead cX2_isDead 2 (some .boolean), .fieldLink RX2 31 "LampRacks$Lamps" "end" "[I", .methodLink RX2 70 yX2_countEndedBefore, .instanceMethod yX2_countEndedBefore, .selects RX2 yX2_countEndedBefore yX2_countEndedBefore, .code yX2_countEndedBefore cX2_countEndedBefore 5 (some .int), .static yX6_oneIf, .initialized RX6, .code yX6_oneIf cX6_oneIf 1 (some .int)] ++ wsX60 ++ wsX40 ++ wsX20)
def wsX6_lasts_r1 : List Cond := [Cond.fieldLink RX6 10 "LampRacks" "now" "LLampRacks$State;", Cond.fieldLink RX6 127 "LampRacks$State" "lamps" "LLampRacks$Lamps;", Cond.fieldLink RX6 176 "LampRacks$Lamps" "spot" "[I", Cond.methodLink RX6 170 yX2_has, Cond.instanceMethod yX2_has, Cond.selects RX2 yX2_has yX2_has, Cond.initialized RX2, Cond.code yX2_has cX2_has 2 (some .boolean), Cond.fieldLink RX2 9 "LampRacks$Lamps" "size" "I", Cond.static yX6_isWithin, Cond.initialized RX6, Cond.code yX6_isWithin cX6_isWithin 3 (some .boolean), Cond.methodLink RX6 117 yX6_isWithin, Cond.methodLink RX6 173 yX2_isDead, Cond.instanceMethod yX2_isDead, Cond.selects RX2 yX2_isDead yX2_isDead, Cond.code yX2_isDead cX2_isDead 2 (some .boolean), Cond.fieldLink RX2 31 "LampRacks$Lamps" "end" "[I", Cond.methodLink RX6 179 yX6_isHot, Cond.static yX6_isHot, Cond.code yX6_isHot cX6_isHot 1 (some .boolean), Cond.methodLink RX6 182 yX4_wearOfHour, Cond.instanceMethod yX4_wearOfHour, Cond.selects RX4 yX4_wearOfHour yX4_wearOfHour]
def wsX6_lasts_r2 : List Cond := [Cond.initialized RX4, Cond.code yX4_wearOfHour cX4_wearOfHour 5 (some .int), Cond.fieldLink RX4 15 "LampRacks$State" "wantedVolts" "I", Cond.fieldLink RX4 18 "LampRacks$State" "doublingVolts" "I", Cond.methodLink RX4 130 Lib.Math.max.name, Cond.static Lib.Math.max.name, Cond.initialized "java/lang/Math", Cond.code Lib.Math.max.name Lib.Math.max.code 2 (some .int), Cond.methodLink RX6 186 yX2_hoursLeft, Cond.instanceMethod yX2_hoursLeft, Cond.selects RX2 yX2_hoursLeft yX2_hoursLeft, Cond.code yX2_hoursLeft cX2_hoursLeft 5 (some .int), Cond.methodLink RX2 46 Lib.Math.max.name, Cond.fieldLink RX2 22 "LampRacks$Lamps" "canLast" "[I", Cond.fieldLink RX2 25 "LampRacks$Lamps" "wear" "[I"]
def wsX6_lasts : List Cond := .code yX6_lasts cX6_lasts 4 (some .int) :: ((wsX6_lasts_r1 ++ wsX6_lasts_r2) ++ wsX60 ++ wsX40 ++ wsX20)
def wsX6_reason_r1 : List Cond := [Cond.fieldLink RX6 10 "LampRacks" "now" "LLampRacks$State;", Cond.fieldLink RX6 127 "LampRacks$State" "lamps" "LLampRacks$Lamps;", Cond.methodLink RX6 170 yX2_has, Cond.instanceMethod yX2_has, Cond.selects RX2 yX2_has yX2_has, Cond.initialized RX2, Cond.code yX2_has cX2_has 2 (some .boolean), Cond.fieldLink RX2 9 "LampRacks$Lamps" "size" "I", Cond.static yX6_isWithin, Cond.initialized RX6, Cond.code yX6_isWithin cX6_isWithin 3 (some .boolean), Cond.methodLink RX6 189 yX4_whyDark, Cond.instanceMethod yX4_whyDark, Cond.selects RX4 yX4_whyDark yX4_whyDark, Cond.initialized RX4, Cond.code yX4_whyDark cX4_whyDark 3 (some .int), Cond.fieldLink RX4 31 "LampRacks$State" "lamps" "LLampRacks$Lamps;", Cond.fieldLink RX4 92 "LampRacks$Lamps" "spot" "[I", Cond.fieldLink RX4 38 "LampRacks$State" "racks" "LLampRacks$Racks;", Cond.methodLink RX4 145 yX2_isDead, Cond.instanceMethod yX2_isDead, Cond.selects RX2 yX2_isDead yX2_isDead, Cond.code yX2_isDead cX2_isDead 2 (some .boolean), Cond.fieldLink RX2 31 "LampRacks$Lamps" "end" "[I"]
def wsX6_reason_r2 : List Cond := [Cond.methodLink RX4 142 yX3_isDark, Cond.instanceMethod yX3_isDark, Cond.selects RX3 yX3_isDark yX3_isDark, Cond.initialized RX3, Cond.code yX3_isDark cX3_isDark 2 (some .boolean), Cond.fieldLink RX3 15 "LampRacks$Racks" "volts" "[I"]
def wsX6_reason : List Cond := .code yX6_reason cX6_reason 2 (some .int) :: ((wsX6_reason_r1 ++ wsX6_reason_r2) ++ wsX60 ++ wsX40 ++ wsX20 ++ wsX30)
def wsX6_next_r1 : List Cond := [Cond.fieldLink RX6 19 "LampRacks" "ahead" "LLampRacks$State;", Cond.fieldLink RX6 10 "LampRacks" "now" "LLampRacks$State;", Cond.fieldLink RX6 127 "LampRacks$State" "lamps" "LLampRacks$Lamps;", Cond.fieldLink RX6 195 "LampRacks$State" "hour" "I", Cond.fieldLink RX6 201 "LampRacks$Lamps" "end" "[I", Cond.methodLink RX6 117 yX6_isWithin, Cond.static yX6_isWithin, Cond.initialized RX6, Cond.code yX6_isWithin cX6_isWithin 3 (some .boolean), Cond.methodLink RX6 50 yX4_copyFrom, Cond.instanceMethod yX4_copyFrom, Cond.selects RX4 yX4_copyFrom yX4_copyFrom, Cond.initialized RX4, Cond.code yX4_copyFrom cX4_copyFrom 2 none, Cond.fieldLink RX4 9 "LampRacks$State" "hour" "I", Cond.fieldLink RX4 15 "LampRacks$State" "wantedVolts" "I", Cond.fieldLink RX4 18 "LampRacks$State" "doublingVolts" "I", Cond.fieldLink RX4 24 "LampRacks$State" "batches" "LLampRacks$Batches;", Cond.fieldLink RX4 31 "LampRacks$State" "lamps" "LLampRacks$Lamps;", Cond.fieldLink RX4 38 "LampRacks$State" "racks" "LLampRacks$Racks;", Cond.methodLink RX4 42 yX0_copyFrom, Cond.instanceMethod yX0_copyFrom, Cond.selects RX0 yX0_copyFrom yX0_copyFrom, Cond.initialized RX0]
def wsX6_next_r2 : List Cond := [Cond.code yX0_copyFrom cX0_copyFrom 2 none, Cond.fieldLink RX0 9 "LampRacks$Batches" "life" "[I", Cond.fieldLink RX0 15 "LampRacks$Batches" "spread" "[I", Cond.static yX6_copy, Cond.code yX6_copy cX6_copy 2 none, Cond.methodLink RX6 236 Lib.Math.min.name, Cond.static Lib.Math.min.name, Cond.initialized "java/lang/Math", Cond.code Lib.Math.min.name Lib.Math.min.code 2 (some .int), Cond.methodLink RX6 241 arraycopyName, Cond.native arraycopyName, Cond.static arraycopyName, Cond.initialized "java/lang/System", Cond.methodLink RX4 46 yX2_copyFrom, Cond.instanceMethod yX2_copyFrom, Cond.selects RX2 yX2_copyFrom yX2_copyFrom, Cond.initialized RX2, Cond.code yX2_copyFrom cX2_copyFrom 2 none, Cond.fieldLink RX2 9 "LampRacks$Lamps" "size" "I", Cond.fieldLink RX2 15 "LampRacks$Lamps" "batch" "[I", Cond.fieldLink RX2 19 "LampRacks$Lamps" "spot" "[I", Cond.fieldLink RX2 22 "LampRacks$Lamps" "canLast" "[I", Cond.fieldLink RX2 25 "LampRacks$Lamps" "wear" "[I", Cond.fieldLink RX2 28 "LampRacks$Lamps" "burned" "[I"]
def wsX6_next_r3 : List Cond := [Cond.fieldLink RX2 31 "LampRacks$Lamps" "end" "[I", Cond.methodLink RX4 49 yX3_copyFrom, Cond.instanceMethod yX3_copyFrom, Cond.selects RX3 yX3_copyFrom yX3_copyFrom, Cond.initialized RX3, Cond.code yX3_copyFrom cX3_copyFrom 2 none, Cond.fieldLink RX3 9 "LampRacks$Racks" "lampAt" "[I", Cond.fieldLink RX3 15 "LampRacks$Racks" "volts" "[I", Cond.fieldLink RX3 18 "LampRacks$Racks" "stepHours" "[I", Cond.fieldLink RX3 21 "LampRacks$Racks" "stepVolts" "[I", Cond.fieldLink RX3 24 "LampRacks$Racks" "hoursOfStep" "[I", Cond.methodLink RX6 192 yX4_passHours, Cond.instanceMethod yX4_passHours, Cond.selects RX4 yX4_passHours yX4_passHours, Cond.code yX4_passHours cX4_passHours 4 (some .int), Cond.methodLink RX4 124 yX4_passHoursOfRack, Cond.instanceMethod yX4_passHoursOfRack, Cond.selects RX4 yX4_passHoursOfRack yX4_passHoursOfRack, Cond.code yX4_passHoursOfRack cX4_passHoursOfRack 6 (some .int), Cond.methodLink RX4 130 Lib.Math.max.name, Cond.static Lib.Math.max.name, Cond.code Lib.Math.max.name Lib.Math.max.code 2 (some .int), Cond.methodLink RX4 127 yX3_hoursAtSameVolts, Cond.instanceMethod yX3_hoursAtSameVolts]
def wsX6_next_r4 : List Cond := [Cond.selects RX3 yX3_hoursAtSameVolts yX3_hoursAtSameVolts, Cond.code yX3_hoursAtSameVolts cX3_hoursAtSameVolts 3 (some .int), Cond.methodLink RX3 37 Lib.Math.min.name, Cond.methodLink RX3 46 yX3_voltsAfterStep, Cond.instanceMethod yX3_voltsAfterStep, Cond.selects RX3 yX3_voltsAfterStep yX3_voltsAfterStep, Cond.code yX3_voltsAfterStep cX3_voltsAfterStep 2 (some .int), Cond.methodLink RX3 43 Lib.Math.max.name, Cond.methodLink RX3 50 yX3_hoursToStep, Cond.instanceMethod yX3_hoursToStep, Cond.selects RX3 yX3_hoursToStep yX3_hoursToStep, Cond.code yX3_hoursToStep cX3_hoursToStep 2 (some .int), Cond.methodLink RX4 135 yX4_burnRack, Cond.instanceMethod yX4_burnRack, Cond.selects RX4 yX4_burnRack yX4_burnRack, Cond.code yX4_burnRack cX4_burnRack 10 (some .int), Cond.fieldLink RX4 75 "LampRacks$Racks" "lampAt" "[I", Cond.fieldLink RX4 101 "LampRacks$Racks" "volts" "[I", Cond.methodLink RX4 158 Lib.Math.min.name, Cond.fieldLink RX4 165 "LampRacks$Lamps" "end" "[I", Cond.methodLink RX4 142 yX3_isDark, Cond.instanceMethod yX3_isDark, Cond.selects RX3 yX3_isDark yX3_isDark, Cond.code yX3_isDark cX3_isDark 2 (some .boolean)]
def wsX6_next_r5 : List Cond := [Cond.static yX6_spotOf, Cond.code yX6_spotOf cX6_spotOf 2 (some .int), Cond.methodLink RX4 145 yX2_isDead, Cond.instanceMethod yX2_isDead, Cond.selects RX2 yX2_isDead yX2_isDead, Cond.code yX2_isDead cX2_isDead 2 (some .boolean), Cond.static yX6_isHot, Cond.code yX6_isHot cX6_isHot 1 (some .boolean), Cond.methodLink RX4 151 yX4_wearOfHour, Cond.instanceMethod yX4_wearOfHour, Cond.selects RX4 yX4_wearOfHour yX4_wearOfHour, Cond.code yX4_wearOfHour cX4_wearOfHour 5 (some .int), Cond.methodLink RX4 155 yX2_hoursLeft, Cond.instanceMethod yX2_hoursLeft, Cond.selects RX2 yX2_hoursLeft yX2_hoursLeft, Cond.code yX2_hoursLeft cX2_hoursLeft 5 (some .int), Cond.methodLink RX2 46 Lib.Math.max.name, Cond.methodLink RX4 161 yX2_burn, Cond.instanceMethod yX2_burn, Cond.selects RX2 yX2_burn yX2_burn, Cond.code yX2_burn cX2_burn 4 none, Cond.methodLink RX4 138 yX3_countHours, Cond.instanceMethod yX3_countHours, Cond.selects RX3 yX3_countHours yX3_countHours]
def wsX6_next_r6 : List Cond := [Cond.code yX3_countHours cX3_countHours 5 none, Cond.methodLink RX6 198 yX2_findFirstEndedAfter, Cond.instanceMethod yX2_findFirstEndedAfter, Cond.selects RX2 yX2_findFirstEndedAfter yX2_findFirstEndedAfter, Cond.code yX2_findFirstEndedAfter cX2_findFirstEndedAfter 4 (some .int)]
def wsX6_next : List Cond := .code yX6_next cX6_next 3 (some .int) :: ((wsX6_next_r1 ++ (wsX6_next_r2 ++ (wsX6_next_r3 ++ (wsX6_next_r4 ++ (wsX6_next_r5 ++ wsX6_next_r6))))) ++ wsX60 ++ wsX40 ++ wsX20 ++ wsX00 ++ wsX30)
def wsX6_count_r1 : List Cond := [Cond.fieldLink RX6 32 "LampRacks" "history" "LLampRacks$History;", Cond.fieldLink RX6 121 "LampRacks$History" "size" "I", Cond.fieldLink RX6 39 "LampRacks" "text" "LLampRacks$Text;", Cond.fieldLink RX6 204 "LampRacks$Text" "length" "I", Cond.fieldLink RX6 10 "LampRacks" "now" "LLampRacks$State;", Cond.methodLink RX6 207 yX4_tellOfAll, Cond.instanceMethod yX4_tellOfAll, Cond.selects RX4 yX4_tellOfAll yX4_tellOfAll, Cond.initialized RX4, Cond.code yX4_tellOfAll cX4_tellOfAll 2 (some .int), Cond.fieldLink RX4 9 "LampRacks$State" "hour" "I", Cond.fieldLink RX4 31 "LampRacks$State" "lamps" "LLampRacks$Lamps;", Cond.fieldLink RX4 82 "LampRacks$Lamps" "size" "I", Cond.fieldLink RX4 180 "LampRacks$Lamps" "burned" "[I", Cond.fieldLink RX4 177 "LampRacks$Lamps" "wear" "[I", Cond.fieldLink RX4 15 "LampRacks$State" "wantedVolts" "I", Cond.fieldLink RX4 18 "LampRacks$State" "doublingVolts" "I", Cond.methodLink RX4 211 yX2_countInRacks, Cond.instanceMethod yX2_countInRacks, Cond.selects RX2 yX2_countInRacks yX2_countInRacks, Cond.initialized RX2, Cond.code yX2_countInRacks cX2_countInRacks 3 (some .int), Cond.fieldLink RX2 9 "LampRacks$Lamps" "size" "I", Cond.fieldLink RX2 19 "LampRacks$Lamps" "spot" "[I"]
def wsX6_count_r2 : List Cond := [Cond.static yX6_oneIf, Cond.initialized RX6, Cond.code yX6_oneIf cX6_oneIf 1 (some .int), Cond.methodLink RX4 215 yX4_countBurning, Cond.instanceMethod yX4_countBurning, Cond.selects RX4 yX4_countBurning yX4_countBurning, Cond.code yX4_countBurning cX4_countBurning 3 (some .int), Cond.methodLink RX4 228 yX4_whyDark, Cond.instanceMethod yX4_whyDark, Cond.selects RX4 yX4_whyDark yX4_whyDark, Cond.code yX4_whyDark cX4_whyDark 3 (some .int), Cond.fieldLink RX4 92 "LampRacks$Lamps" "spot" "[I", Cond.fieldLink RX4 38 "LampRacks$State" "racks" "LLampRacks$Racks;", Cond.methodLink RX4 145 yX2_isDead, Cond.instanceMethod yX2_isDead, Cond.selects RX2 yX2_isDead yX2_isDead, Cond.code yX2_isDead cX2_isDead 2 (some .boolean), Cond.fieldLink RX2 31 "LampRacks$Lamps" "end" "[I", Cond.methodLink RX4 142 yX3_isDark, Cond.instanceMethod yX3_isDark, Cond.selects RX3 yX3_isDark yX3_isDark, Cond.initialized RX3, Cond.code yX3_isDark cX3_isDark 2 (some .boolean), Cond.fieldLink RX3 15 "LampRacks$Racks" "volts" "[I"]
def wsX6_count_r3 : List Cond := [Cond.methodLink RX4 218 yX2_countDead, Cond.instanceMethod yX2_countDead, Cond.selects RX2 yX2_countDead yX2_countDead, Cond.code yX2_countDead cX2_countDead 3 (some .int), Cond.methodLink RX2 42 yX2_isDead, Cond.methodLink RX4 221 yX2_countWeak, Cond.instanceMethod yX2_countWeak, Cond.selects RX2 yX2_countWeak yX2_countWeak, Cond.code yX2_countWeak cX2_countWeak 3 (some .int), Cond.static yX6_isWeak, Cond.code yX6_isWeak cX6_isWeak 1 (some .boolean), Cond.methodLink RX6 233 yX6_shareOf, Cond.static yX6_shareOf, Cond.code yX6_shareOf cX6_shareOf 1 (some .int), Cond.methodLink RX4 224 yX2_sumOf, Cond.instanceMethod yX2_sumOf, Cond.selects RX2 yX2_sumOf yX2_sumOf, Cond.code yX2_sumOf cX2_sumOf 4 (some .int), Cond.methodLink RX2 67 Lib.Math.min.name, Cond.static Lib.Math.min.name, Cond.initialized "java/lang/Math", Cond.code Lib.Math.min.name Lib.Math.min.code 2 (some .int)]
def wsX6_count : List Cond := .code yX6_count cX6_count 2 (some .int) :: ((wsX6_count_r1 ++ (wsX6_count_r2 ++ wsX6_count_r3)) ++ wsX60 ++ wsX10 ++ wsX50 ++ wsX40 ++ wsX20 ++ wsX30)
def wsX7_init : List Cond := .code yX7_init cX7_init 2 none :: ([.methodLink RX7 1 objectInit, .instanceMethod objectInit, .code objectInit ⟨#[0xb1]⟩ 1 none, .arrayClass .int, .fieldLink RX7 7 "LampRacksModel" "z" "[I", .fieldLink RX7 13 "LampRacksModel" "spare" "[I", .fieldLink RX7 16 "LampRacksModel" "past" "[I", .fieldLink RX7 19 "LampRacksModel" "kept" "[I", .fieldLink RX7 22 "LampRacksModel" "text" "[I", .fieldLink RX7 25 "LampRacksModel" "told" "[I"] ++ wsX70)
def wsX7_in : List Cond := .code yX7_in cX7_in 3 (some .boolean) :: ([])
def wsX7_isRack : List Cond := .code yX7_isRack cX7_isRack 1 (some .boolean) :: ([.methodLink RX7 28 yX7_in, .static yX7_in, .initialized RX7, .code yX7_in cX7_in 3 (some .boolean)])
def wsX7_isPlace : List Cond := .code yX7_isPlace cX7_isPlace 1 (some .boolean) :: ([.methodLink RX7 28 yX7_in, .static yX7_in, .initialized RX7, .code yX7_in cX7_in 3 (some .boolean)])
def wsX7_isBatch : List Cond := .code yX7_isBatch cX7_isBatch 1 (some .boolean) :: ([.methodLink RX7 28 yX7_in, .static yX7_in, .initialized RX7, .code yX7_in cX7_in 3 (some .boolean)])
def wsX7_isLamp : List Cond := .code yX7_isLamp cX7_isLamp 2 (some .boolean) :: ([.fieldLink RX7 7 "LampRacksModel" "z" "[I", .methodLink RX7 28 yX7_in, .static yX7_in, .initialized RX7, .code yX7_in cX7_in 3 (some .boolean)] ++ wsX70)
def wsX7_of : List Cond := .code yX7_of cX7_of 3 (some .int) :: ([.fieldLink RX7 7 "LampRacksModel" "z" "[I"] ++ wsX70)
def wsX7_lay : List Cond := .code yX7_lay cX7_lay 4 none :: ([.fieldLink RX7 7 "LampRacksModel" "z" "[I"] ++ wsX70)
def wsX7_ofRack : List Cond := .code yX7_ofRack cX7_ofRack 3 (some .int) :: ([.fieldLink RX7 7 "LampRacksModel" "z" "[I"] ++ wsX70)
def wsX7_isDead : List Cond := .code yX7_isDead cX7_isDead 2 (some .boolean) :: ([.methodLink RX7 32 yX7_of, .instanceMethod yX7_of, .selects RX7 yX7_of yX7_of, .initialized RX7, .code yX7_of cX7_of 3 (some .int), .fieldLink RX7 7 "LampRacksModel" "z" "[I"] ++ wsX70)
def wsX7_lampAt : List Cond := .code yX7_lampAt cX7_lampAt 5 (some .int) :: ([.fieldLink RX7 7 "LampRacksModel" "z" "[I", .methodLink RX7 32 yX7_of, .instanceMethod yX7_of, .selects RX7 yX7_of yX7_of, .initialized RX7, .code yX7_of cX7_of 3 (some .int)] ++ wsX70)
def wsX7_copyState : List Cond := .code yX7_copyState cX7_copyState 5 none :: ([])
def wsX7_recordRow : List Cond := .code yX7_recordRow cX7_recordRow 3 none :: ([.fieldLink RX7 36 "LampRacksModel" "states" "I", .fieldLink RX7 16 "LampRacksModel" "past" "[I", .methodLink RX7 40 yX7_copyState, .static yX7_copyState, .initialized RX7, .code yX7_copyState cX7_copyState 5 none] ++ wsX70)
def wsX7_record : List Cond := .code yX7_record cX7_record 1 none :: ([.fieldLink RX7 7 "LampRacksModel" "z" "[I", .methodLink RX7 44 yX7_recordRow, .instanceMethod yX7_recordRow, .selects RX7 yX7_recordRow yX7_recordRow, .initialized RX7, .code yX7_recordRow cX7_recordRow 3 none, .fieldLink RX7 36 "LampRacksModel" "states" "I", .fieldLink RX7 16 "LampRacksModel" "past" "[I", .methodLink RX7 40 yX7_copyState, .static yX7_copyState, .code yX7_copyState cX7_copyState 5 none] ++ wsX70)
def wsX7_undo : List Cond := .code yX7_undo cX7_undo 1 (some .int) :: ([.fieldLink RX7 36 "LampRacksModel" "states" "I", .fieldLink RX7 16 "LampRacksModel" "past" "[I", .fieldLink RX7 7 "LampRacksModel" "z" "[I", .methodLink RX7 40 yX7_copyState, .static yX7_copyState, .initialized RX7, .code yX7_copyState cX7_copyState 5 none] ++ wsX70)
def wsX7_keep : List Cond := .code yX7_keep cX7_keep 1 (some .int) :: ([.fieldLink RX7 7 "LampRacksModel" "z" "[I", .fieldLink RX7 19 "LampRacksModel" "kept" "[I", .fieldLink RX7 48 "LampRacksModel" "isKept" "Z", .methodLink RX7 40 yX7_copyState, .static yX7_copyState, .initialized RX7, .code yX7_copyState cX7_copyState 5 none] ++ wsX70)
def wsX7_restore : List Cond := .code yX7_restore cX7_restore 1 (some .int) :: ([.fieldLink RX7 48 "LampRacksModel" "isKept" "Z", .fieldLink RX7 19 "LampRacksModel" "kept" "[I", .fieldLink RX7 7 "LampRacksModel" "z" "[I", .methodLink RX7 52 yX7_record, .instanceMethod yX7_record, .selects RX7 yX7_record yX7_record, .initialized RX7, .code yX7_record cX7_record 1 none, .methodLink RX7 44 yX7_recordRow, .instanceMethod yX7_recordRow, .selects RX7 yX7_recordRow yX7_recordRow, .code yX7_recordRow cX7_recordRow 3 none, .fieldLink RX7 36 "LampRacksModel" "states" "I", .fieldLink RX7 16 "LampRacksModel" "past" "[I", .methodLink RX7 40 yX7_copyState, .static yX7_copyState, .code yX7_copyState cX7_copyState 5 none] ++ wsX70)
def wsX7_setBatch : List Cond := .code yX7_setBatch cX7_setBatch 6 (some .int) :: ([.fieldLink RX7 7 "LampRacksModel" "z" "[I", .methodLink RX7 55 yX7_isBatch, .static yX7_isBatch, .initialized RX7, .code yX7_isBatch cX7_isBatch 1 (some .boolean), .methodLink RX7 28 yX7_in, .static yX7_in, .code yX7_in cX7_in 3 (some .boolean), .methodLink RX7 52 yX7_record, .instanceMethod yX7_record, .selects RX7 yX7_record yX7_record, .code yX7_record cX7_record 1 none, .methodLink RX7 44 yX7_recordRow, .instanceMethod yX7_recordRow, .selects RX7 yX7_recordRow yX7_recordRow, .code yX7_recordRow cX7_recordRow 3 none, .fieldLink RX7 36 "LampRacksModel" "states" "I", .fieldLink RX7 16 "LampRacksModel" "past" "[I", .methodLink RX7 40 yX7_copyState, .static yX7_copyState, .code yX7_copyState cX7_copyState 5 none] ++ wsX70)
def wsX7_whyNotPut : List Cond := .code yX7_whyNotPut cX7_whyNotPut 4 (some .int) :: ([.fieldLink RX7 7 "LampRacksModel" "z" "[I", .methodLink RX7 59 yX7_isRack, .static yX7_isRack, .initialized RX7, .code yX7_isRack cX7_isRack 1 (some .boolean), .methodLink RX7 28 yX7_in, .static yX7_in, .code yX7_in cX7_in 3 (some .boolean), .methodLink RX7 62 yX7_isPlace, .static yX7_isPlace, .code yX7_isPlace cX7_isPlace 1 (some .boolean), .methodLink RX7 55 yX7_isBatch, .static yX7_isBatch, .code yX7_isBatch cX7_isBatch 1 (some .boolean), .methodLink RX7 65 yX7_lampAt, .instanceMethod yX7_lampAt, .selects RX7 yX7_lampAt yX7_lampAt, .code yX7_lampAt cX7_lampAt 5 (some .int), .methodLink RX7 32 yX7_of, .instanceMethod yX7_of, .selects RX7 yX7_of yX7_of, .code yX7_of cX7_of 3 (some .int)] ++ wsX70)
def wsX7_putNow : List Cond := .code yX7_putNow cX7_putNow 8 (some .int) :: ([.fieldLink RX7 7 "LampRacksModel" "z" "[I", .methodLink RX7 68 yX7_lay, .instanceMethod yX7_lay, .selects RX7 yX7_lay yX7_lay, .initialized RX7, .code yX7_lay cX7_lay 4 none] ++ wsX70)
def wsX7_put_r1 : List Cond := [Cond.methodLink RX7 72 yX7_whyNotPut, Cond.instanceMethod yX7_whyNotPut, Cond.selects RX7 yX7_whyNotPut yX7_whyNotPut, Cond.initialized RX7, Cond.code yX7_whyNotPut cX7_whyNotPut 4 (some .int), Cond.fieldLink RX7 7 "LampRacksModel" "z" "[I", Cond.methodLink RX7 59 yX7_isRack, Cond.static yX7_isRack, Cond.code yX7_isRack cX7_isRack 1 (some .boolean), Cond.methodLink RX7 28 yX7_in, Cond.static yX7_in, Cond.code yX7_in cX7_in 3 (some .boolean), Cond.methodLink RX7 62 yX7_isPlace, Cond.static yX7_isPlace, Cond.code yX7_isPlace cX7_isPlace 1 (some .boolean), Cond.methodLink RX7 55 yX7_isBatch, Cond.static yX7_isBatch, Cond.code yX7_isBatch cX7_isBatch 1 (some .boolean), Cond.methodLink RX7 65 yX7_lampAt, Cond.instanceMethod yX7_lampAt, Cond.selects RX7 yX7_lampAt yX7_lampAt, Cond.code yX7_lampAt cX7_lampAt 5 (some .int), Cond.methodLink RX7 32 yX7_of, Cond.instanceMethod yX7_of]
def wsX7_put_r2 : List Cond := [Cond.selects RX7 yX7_of yX7_of, Cond.code yX7_of cX7_of 3 (some .int), Cond.methodLink RX7 52 yX7_record, Cond.instanceMethod yX7_record, Cond.selects RX7 yX7_record yX7_record, Cond.code yX7_record cX7_record 1 none, Cond.methodLink RX7 44 yX7_recordRow, Cond.instanceMethod yX7_recordRow, Cond.selects RX7 yX7_recordRow yX7_recordRow, Cond.code yX7_recordRow cX7_recordRow 3 none, Cond.fieldLink RX7 36 "LampRacksModel" "states" "I", Cond.fieldLink RX7 16 "LampRacksModel" "past" "[I", Cond.methodLink RX7 40 yX7_copyState, Cond.static yX7_copyState, Cond.code yX7_copyState cX7_copyState 5 none, Cond.methodLink RX7 76 yX7_putNow, Cond.instanceMethod yX7_putNow, Cond.selects RX7 yX7_putNow yX7_putNow, Cond.code yX7_putNow cX7_putNow 8 (some .int), Cond.methodLink RX7 68 yX7_lay, Cond.instanceMethod yX7_lay, Cond.selects RX7 yX7_lay yX7_lay, Cond.code yX7_lay cX7_lay 4 none]
def wsX7_put : List Cond := .code yX7_put cX7_put 5 (some .int) :: ((wsX7_put_r1 ++ wsX7_put_r2) ++ wsX70)
def wsX7_moveTo : List Cond := .code yX7_moveTo cX7_moveTo 4 none :: ([.methodLink RX7 68 yX7_lay, .instanceMethod yX7_lay, .selects RX7 yX7_lay yX7_lay, .initialized RX7, .code yX7_lay cX7_lay 4 none, .fieldLink RX7 7 "LampRacksModel" "z" "[I"] ++ wsX70)
def wsX7_takeOut_r1 : List Cond := [Cond.methodLink RX7 59 yX7_isRack, Cond.static yX7_isRack, Cond.initialized RX7, Cond.code yX7_isRack cX7_isRack 1 (some .boolean), Cond.methodLink RX7 28 yX7_in, Cond.static yX7_in, Cond.code yX7_in cX7_in 3 (some .boolean), Cond.methodLink RX7 62 yX7_isPlace, Cond.static yX7_isPlace, Cond.code yX7_isPlace cX7_isPlace 1 (some .boolean), Cond.methodLink RX7 65 yX7_lampAt, Cond.instanceMethod yX7_lampAt, Cond.selects RX7 yX7_lampAt yX7_lampAt, Cond.code yX7_lampAt cX7_lampAt 5 (some .int), Cond.fieldLink RX7 7 "LampRacksModel" "z" "[I", Cond.methodLink RX7 32 yX7_of, Cond.instanceMethod yX7_of, Cond.selects RX7 yX7_of yX7_of, Cond.code yX7_of cX7_of 3 (some .int), Cond.methodLink RX7 52 yX7_record, Cond.instanceMethod yX7_record, Cond.selects RX7 yX7_record yX7_record, Cond.code yX7_record cX7_record 1 none, Cond.methodLink RX7 44 yX7_recordRow]
def wsX7_takeOut_r2 : List Cond := [Cond.instanceMethod yX7_recordRow, Cond.selects RX7 yX7_recordRow yX7_recordRow, Cond.code yX7_recordRow cX7_recordRow 3 none, Cond.fieldLink RX7 36 "LampRacksModel" "states" "I", Cond.fieldLink RX7 16 "LampRacksModel" "past" "[I", Cond.methodLink RX7 40 yX7_copyState, Cond.static yX7_copyState, Cond.code yX7_copyState cX7_copyState 5 none, Cond.methodLink RX7 79 yX7_moveTo, Cond.instanceMethod yX7_moveTo, Cond.selects RX7 yX7_moveTo yX7_moveTo, Cond.code yX7_moveTo cX7_moveTo 4 none, Cond.methodLink RX7 68 yX7_lay, Cond.instanceMethod yX7_lay, Cond.selects RX7 yX7_lay yX7_lay, Cond.code yX7_lay cX7_lay 4 none]
def wsX7_takeOut : List Cond := .code yX7_takeOut cX7_takeOut 4 (some .int) :: ((wsX7_takeOut_r1 ++ wsX7_takeOut_r2) ++ wsX70)
def wsX7_swap_r1 : List Cond := [Cond.methodLink RX7 59 yX7_isRack, Cond.static yX7_isRack, Cond.initialized RX7, Cond.code yX7_isRack cX7_isRack 1 (some .boolean), Cond.methodLink RX7 28 yX7_in, Cond.static yX7_in, Cond.code yX7_in cX7_in 3 (some .boolean), Cond.methodLink RX7 62 yX7_isPlace, Cond.static yX7_isPlace, Cond.code yX7_isPlace cX7_isPlace 1 (some .boolean), Cond.methodLink RX7 65 yX7_lampAt, Cond.instanceMethod yX7_lampAt, Cond.selects RX7 yX7_lampAt yX7_lampAt, Cond.code yX7_lampAt cX7_lampAt 5 (some .int), Cond.fieldLink RX7 7 "LampRacksModel" "z" "[I", Cond.methodLink RX7 32 yX7_of, Cond.instanceMethod yX7_of, Cond.selects RX7 yX7_of yX7_of, Cond.code yX7_of cX7_of 3 (some .int), Cond.methodLink RX7 52 yX7_record, Cond.instanceMethod yX7_record, Cond.selects RX7 yX7_record yX7_record, Cond.code yX7_record cX7_record 1 none, Cond.methodLink RX7 44 yX7_recordRow]
def wsX7_swap_r2 : List Cond := [Cond.instanceMethod yX7_recordRow, Cond.selects RX7 yX7_recordRow yX7_recordRow, Cond.code yX7_recordRow cX7_recordRow 3 none, Cond.fieldLink RX7 36 "LampRacksModel" "states" "I", Cond.fieldLink RX7 16 "LampRacksModel" "past" "[I", Cond.methodLink RX7 40 yX7_copyState, Cond.static yX7_copyState, Cond.code yX7_copyState cX7_copyState 5 none, Cond.methodLink RX7 79 yX7_moveTo, Cond.instanceMethod yX7_moveTo, Cond.selects RX7 yX7_moveTo yX7_moveTo, Cond.code yX7_moveTo cX7_moveTo 4 none, Cond.methodLink RX7 68 yX7_lay, Cond.instanceMethod yX7_lay, Cond.selects RX7 yX7_lay yX7_lay, Cond.code yX7_lay cX7_lay 4 none]
def wsX7_swap : List Cond := .code yX7_swap cX7_swap 8 (some .int) :: ((wsX7_swap_r1 ++ wsX7_swap_r2) ++ wsX70)
def wsX7_whyNotVolts : List Cond := .code yX7_whyNotVolts cX7_whyNotVolts 3 (some .int) :: ([.methodLink RX7 59 yX7_isRack, .static yX7_isRack, .initialized RX7, .code yX7_isRack cX7_isRack 1 (some .boolean), .methodLink RX7 28 yX7_in, .static yX7_in, .code yX7_in cX7_in 3 (some .boolean)])
def wsX7_setVolts_r1 : List Cond := [Cond.fieldLink RX7 7 "LampRacksModel" "z" "[I", Cond.methodLink RX7 82 yX7_whyNotVolts, Cond.instanceMethod yX7_whyNotVolts, Cond.selects RX7 yX7_whyNotVolts yX7_whyNotVolts, Cond.initialized RX7, Cond.code yX7_whyNotVolts cX7_whyNotVolts 3 (some .int), Cond.methodLink RX7 59 yX7_isRack, Cond.static yX7_isRack, Cond.code yX7_isRack cX7_isRack 1 (some .boolean), Cond.methodLink RX7 28 yX7_in, Cond.static yX7_in, Cond.code yX7_in cX7_in 3 (some .boolean), Cond.methodLink RX7 85 yX7_ofRack, Cond.instanceMethod yX7_ofRack, Cond.selects RX7 yX7_ofRack yX7_ofRack, Cond.code yX7_ofRack cX7_ofRack 3 (some .int), Cond.methodLink RX7 52 yX7_record, Cond.instanceMethod yX7_record, Cond.selects RX7 yX7_record yX7_record, Cond.code yX7_record cX7_record 1 none, Cond.methodLink RX7 44 yX7_recordRow, Cond.instanceMethod yX7_recordRow, Cond.selects RX7 yX7_recordRow yX7_recordRow, Cond.code yX7_recordRow cX7_recordRow 3 none]
def wsX7_setVolts_r2 : List Cond := [Cond.fieldLink RX7 36 "LampRacksModel" "states" "I", Cond.fieldLink RX7 16 "LampRacksModel" "past" "[I", Cond.methodLink RX7 40 yX7_copyState, Cond.static yX7_copyState, Cond.code yX7_copyState cX7_copyState 5 none]
def wsX7_setVolts : List Cond := .code yX7_setVolts cX7_setVolts 5 (some .int) :: ((wsX7_setVolts_r1 ++ wsX7_setVolts_r2) ++ wsX70)
def wsX7_stepsNow : List Cond := .code yX7_stepsNow cX7_stepsNow 5 none :: ([.fieldLink RX7 7 "LampRacksModel" "z" "[I"] ++ wsX70)
def wsX7_setSteps_r1 : List Cond := [Cond.methodLink RX7 59 yX7_isRack, Cond.static yX7_isRack, Cond.initialized RX7, Cond.code yX7_isRack cX7_isRack 1 (some .boolean), Cond.methodLink RX7 28 yX7_in, Cond.static yX7_in, Cond.code yX7_in cX7_in 3 (some .boolean), Cond.methodLink RX7 52 yX7_record, Cond.instanceMethod yX7_record, Cond.selects RX7 yX7_record yX7_record, Cond.code yX7_record cX7_record 1 none, Cond.fieldLink RX7 7 "LampRacksModel" "z" "[I", Cond.methodLink RX7 44 yX7_recordRow, Cond.instanceMethod yX7_recordRow, Cond.selects RX7 yX7_recordRow yX7_recordRow, Cond.code yX7_recordRow cX7_recordRow 3 none, Cond.fieldLink RX7 36 "LampRacksModel" "states" "I", Cond.fieldLink RX7 16 "LampRacksModel" "past" "[I", Cond.methodLink RX7 40 yX7_copyState, Cond.static yX7_copyState, Cond.code yX7_copyState cX7_copyState 5 none, Cond.methodLink RX7 85 yX7_ofRack, Cond.instanceMethod yX7_ofRack, Cond.selects RX7 yX7_ofRack yX7_ofRack]
def wsX7_setSteps_r2 : List Cond := [Cond.code yX7_ofRack cX7_ofRack 3 (some .int), Cond.methodLink RX7 88 yX7_stepsNow, Cond.instanceMethod yX7_stepsNow, Cond.selects RX7 yX7_stepsNow yX7_stepsNow, Cond.code yX7_stepsNow cX7_stepsNow 5 none]
def wsX7_setSteps : List Cond := .code yX7_setSteps cX7_setSteps 5 (some .int) :: ((wsX7_setSteps_r1 ++ wsX7_setSteps_r2) ++ wsX70)
def wsX7_set : List Cond := .code yX7_set cX7_set 4 (some .int) :: ([.fieldLink RX7 7 "LampRacksModel" "z" "[I", .methodLink RX7 28 yX7_in, .static yX7_in, .initialized RX7, .code yX7_in cX7_in 3 (some .boolean), .methodLink RX7 52 yX7_record, .instanceMethod yX7_record, .selects RX7 yX7_record yX7_record, .code yX7_record cX7_record 1 none, .methodLink RX7 44 yX7_recordRow, .instanceMethod yX7_recordRow, .selects RX7 yX7_recordRow yX7_recordRow, .code yX7_recordRow cX7_recordRow 3 none, .fieldLink RX7 36 "LampRacksModel" "states" "I", .fieldLink RX7 16 "LampRacksModel" "past" "[I", .methodLink RX7 40 yX7_copyState, .static yX7_copyState, .code yX7_copyState cX7_copyState 5 none] ++ wsX70)
def wsX7_wearAt : List Cond := .code yX7_wearAt cX7_wearAt 4 (some .int) :: ([.fieldLink RX7 7 "LampRacksModel" "z" "[I"] ++ wsX70)
def wsX7_isHot : List Cond := .code yX7_isHot cX7_isHot 2 (some .boolean) :: ([.methodLink RX7 32 yX7_of, .instanceMethod yX7_of, .selects RX7 yX7_of yX7_of, .initialized RX7, .code yX7_of cX7_of 3 (some .int), .fieldLink RX7 7 "LampRacksModel" "z" "[I", .methodLink RX7 28 yX7_in, .static yX7_in, .code yX7_in cX7_in 3 (some .boolean)] ++ wsX70)
def wsX7_burns : List Cond := .code yX7_burns cX7_burns 2 (some .boolean) :: ([.methodLink RX7 91 yX7_isDead, .instanceMethod yX7_isDead, .selects RX7 yX7_isDead yX7_isDead, .initialized RX7, .code yX7_isDead cX7_isDead 2 (some .boolean), .methodLink RX7 32 yX7_of, .instanceMethod yX7_of, .selects RX7 yX7_of yX7_of, .code yX7_of cX7_of 3 (some .int), .fieldLink RX7 7 "LampRacksModel" "z" "[I", .methodLink RX7 85 yX7_ofRack, .instanceMethod yX7_ofRack, .selects RX7 yX7_ofRack yX7_ofRack, .code yX7_ofRack cX7_ofRack 3 (some .int)] ++ wsX70)
def wsX7_anHour_r1 : List Cond := [Cond.fieldLink RX7 7 "LampRacksModel" "z" "[I", Cond.methodLink RX7 94 yX7_burns, Cond.instanceMethod yX7_burns, Cond.selects RX7 yX7_burns yX7_burns, Cond.initialized RX7, Cond.code yX7_burns cX7_burns 2 (some .boolean), Cond.methodLink RX7 91 yX7_isDead, Cond.instanceMethod yX7_isDead, Cond.selects RX7 yX7_isDead yX7_isDead, Cond.code yX7_isDead cX7_isDead 2 (some .boolean), Cond.methodLink RX7 32 yX7_of, Cond.instanceMethod yX7_of, Cond.selects RX7 yX7_of yX7_of, Cond.code yX7_of cX7_of 3 (some .int), Cond.methodLink RX7 85 yX7_ofRack, Cond.instanceMethod yX7_ofRack, Cond.selects RX7 yX7_ofRack yX7_ofRack, Cond.code yX7_ofRack cX7_ofRack 3 (some .int), Cond.methodLink RX7 68 yX7_lay, Cond.instanceMethod yX7_lay, Cond.selects RX7 yX7_lay yX7_lay, Cond.code yX7_lay cX7_lay 4 none, Cond.methodLink RX7 97 yX7_isHot, Cond.instanceMethod yX7_isHot]
def wsX7_anHour_r2 : List Cond := [Cond.selects RX7 yX7_isHot yX7_isHot, Cond.code yX7_isHot cX7_isHot 2 (some .boolean), Cond.methodLink RX7 28 yX7_in, Cond.static yX7_in, Cond.code yX7_in cX7_in 3 (some .boolean), Cond.methodLink RX7 100 yX7_wearAt, Cond.instanceMethod yX7_wearAt, Cond.selects RX7 yX7_wearAt yX7_wearAt, Cond.code yX7_wearAt cX7_wearAt 4 (some .int)]
def wsX7_anHour : List Cond := .code yX7_anHour cX7_anHour 5 (some .int) :: ((wsX7_anHour_r1 ++ wsX7_anHour_r2) ++ wsX70)
def wsX7_whyNotPass : List Cond := .code yX7_whyNotPass cX7_whyNotPass 2 (some .int) :: ([.fieldLink RX7 7 "LampRacksModel" "z" "[I", .constant RX7 104 (99999), .methodLink RX7 28 yX7_in, .static yX7_in, .initialized RX7, .code yX7_in cX7_in 3 (some .boolean)] ++ wsX70)
def wsX7_passNow_r1 : List Cond := [Cond.methodLink RX7 105 yX7_anHour, Cond.instanceMethod yX7_anHour, Cond.selects RX7 yX7_anHour yX7_anHour, Cond.initialized RX7, Cond.code yX7_anHour cX7_anHour 5 (some .int), Cond.fieldLink RX7 7 "LampRacksModel" "z" "[I", Cond.methodLink RX7 94 yX7_burns, Cond.instanceMethod yX7_burns, Cond.selects RX7 yX7_burns yX7_burns, Cond.code yX7_burns cX7_burns 2 (some .boolean), Cond.methodLink RX7 91 yX7_isDead, Cond.instanceMethod yX7_isDead, Cond.selects RX7 yX7_isDead yX7_isDead, Cond.code yX7_isDead cX7_isDead 2 (some .boolean), Cond.methodLink RX7 32 yX7_of, Cond.instanceMethod yX7_of, Cond.selects RX7 yX7_of yX7_of, Cond.code yX7_of cX7_of 3 (some .int), Cond.methodLink RX7 85 yX7_ofRack, Cond.instanceMethod yX7_ofRack, Cond.selects RX7 yX7_ofRack yX7_ofRack, Cond.code yX7_ofRack cX7_ofRack 3 (some .int), Cond.methodLink RX7 68 yX7_lay, Cond.instanceMethod yX7_lay]
def wsX7_passNow_r2 : List Cond := [Cond.selects RX7 yX7_lay yX7_lay, Cond.code yX7_lay cX7_lay 4 none, Cond.methodLink RX7 97 yX7_isHot, Cond.instanceMethod yX7_isHot, Cond.selects RX7 yX7_isHot yX7_isHot, Cond.code yX7_isHot cX7_isHot 2 (some .boolean), Cond.methodLink RX7 28 yX7_in, Cond.static yX7_in, Cond.code yX7_in cX7_in 3 (some .boolean), Cond.methodLink RX7 100 yX7_wearAt, Cond.instanceMethod yX7_wearAt, Cond.selects RX7 yX7_wearAt yX7_wearAt, Cond.code yX7_wearAt cX7_wearAt 4 (some .int)]
def wsX7_passNow : List Cond := .code yX7_passNow cX7_passNow 4 (some .int) :: ((wsX7_passNow_r1 ++ wsX7_passNow_r2) ++ wsX70)
def wsX7_pass_r1 : List Cond := [Cond.methodLink RX7 109 yX7_whyNotPass, Cond.instanceMethod yX7_whyNotPass, Cond.selects RX7 yX7_whyNotPass yX7_whyNotPass, Cond.initialized RX7, Cond.code yX7_whyNotPass cX7_whyNotPass 2 (some .int), Cond.fieldLink RX7 7 "LampRacksModel" "z" "[I", Cond.constant RX7 104 (99999), Cond.methodLink RX7 28 yX7_in, Cond.static yX7_in, Cond.code yX7_in cX7_in 3 (some .boolean), Cond.methodLink RX7 52 yX7_record, Cond.instanceMethod yX7_record, Cond.selects RX7 yX7_record yX7_record, Cond.code yX7_record cX7_record 1 none, Cond.methodLink RX7 44 yX7_recordRow, Cond.instanceMethod yX7_recordRow, Cond.selects RX7 yX7_recordRow yX7_recordRow, Cond.code yX7_recordRow cX7_recordRow 3 none, Cond.fieldLink RX7 36 "LampRacksModel" "states" "I", Cond.fieldLink RX7 16 "LampRacksModel" "past" "[I", Cond.methodLink RX7 40 yX7_copyState, Cond.static yX7_copyState, Cond.code yX7_copyState cX7_copyState 5 none, Cond.methodLink RX7 113 yX7_passNow]
def wsX7_pass_r2 : List Cond := [Cond.instanceMethod yX7_passNow, Cond.selects RX7 yX7_passNow yX7_passNow, Cond.code yX7_passNow cX7_passNow 4 (some .int), Cond.methodLink RX7 105 yX7_anHour, Cond.instanceMethod yX7_anHour, Cond.selects RX7 yX7_anHour yX7_anHour, Cond.code yX7_anHour cX7_anHour 5 (some .int), Cond.methodLink RX7 94 yX7_burns, Cond.instanceMethod yX7_burns, Cond.selects RX7 yX7_burns yX7_burns, Cond.code yX7_burns cX7_burns 2 (some .boolean), Cond.methodLink RX7 91 yX7_isDead, Cond.instanceMethod yX7_isDead, Cond.selects RX7 yX7_isDead yX7_isDead, Cond.code yX7_isDead cX7_isDead 2 (some .boolean), Cond.methodLink RX7 32 yX7_of, Cond.instanceMethod yX7_of, Cond.selects RX7 yX7_of yX7_of, Cond.code yX7_of cX7_of 3 (some .int), Cond.methodLink RX7 85 yX7_ofRack, Cond.instanceMethod yX7_ofRack, Cond.selects RX7 yX7_ofRack yX7_ofRack, Cond.code yX7_ofRack cX7_ofRack 3 (some .int), Cond.methodLink RX7 68 yX7_lay]
def wsX7_pass_r3 : List Cond := [Cond.instanceMethod yX7_lay, Cond.selects RX7 yX7_lay yX7_lay, Cond.code yX7_lay cX7_lay 4 none, Cond.methodLink RX7 97 yX7_isHot, Cond.instanceMethod yX7_isHot, Cond.selects RX7 yX7_isHot yX7_isHot, Cond.code yX7_isHot cX7_isHot 2 (some .boolean), Cond.methodLink RX7 100 yX7_wearAt, Cond.instanceMethod yX7_wearAt, Cond.selects RX7 yX7_wearAt yX7_wearAt, Cond.code yX7_wearAt cX7_wearAt 4 (some .int)]
def wsX7_pass : List Cond := .code yX7_pass cX7_pass 3 (some .int) :: ((wsX7_pass_r1 ++ (wsX7_pass_r2 ++ wsX7_pass_r3)) ++ wsX70)
def wsX7_type : List Cond := .code yX7_type cX7_type 2 (some .int) :: ([.fieldLink RX7 116 "LampRacksModel" "length" "I", .fieldLink RX7 22 "LampRacksModel" "text" "[I"] ++ wsX70)
def wsX7_clearText : List Cond := .code yX7_clearText cX7_clearText 2 (some .int) :: ([.fieldLink RX7 116 "LampRacksModel" "length" "I"] ++ wsX70)
def wsX7_sees : List Cond := .code yX7_sees cX7_sees 3 (some .boolean) :: ([.fieldLink RX7 119 "LampRacksModel" "spot" "I", .fieldLink RX7 116 "LampRacksModel" "length" "I", .fieldLink RX7 22 "LampRacksModel" "text" "[I", .methodLink RX7 28 yX7_in, .static yX7_in, .initialized RX7, .code yX7_in cX7_in 3 (some .boolean)] ++ wsX70)
def wsX7_takes : List Cond := .code yX7_takes cX7_takes 3 (some .boolean) :: ([.fieldLink RX7 119 "LampRacksModel" "spot" "I", .methodLink RX7 122 yX7_sees, .instanceMethod yX7_sees, .selects RX7 yX7_sees yX7_sees, .initialized RX7, .code yX7_sees cX7_sees 3 (some .boolean), .fieldLink RX7 116 "LampRacksModel" "length" "I", .fieldLink RX7 22 "LampRacksModel" "text" "[I", .methodLink RX7 28 yX7_in, .static yX7_in, .code yX7_in cX7_in 3 (some .boolean)] ++ wsX70)
def wsX7_number : List Cond := .code yX7_number cX7_number 7 (some .boolean) :: ([.fieldLink RX7 22 "LampRacksModel" "text" "[I", .fieldLink RX7 119 "LampRacksModel" "spot" "I", .fieldLink RX7 25 "LampRacksModel" "told" "[I", .fieldLink RX7 126 "LampRacksModel" "toldMany" "I", .methodLink RX7 122 yX7_sees, .instanceMethod yX7_sees, .selects RX7 yX7_sees yX7_sees, .initialized RX7, .code yX7_sees cX7_sees 3 (some .boolean), .fieldLink RX7 116 "LampRacksModel" "length" "I", .methodLink RX7 28 yX7_in, .static yX7_in, .code yX7_in cX7_in 3 (some .boolean)] ++ wsX70)
def wsX7_readSteps : List Cond := .code yX7_readSteps cX7_readSteps 3 (some .boolean) :: ([.fieldLink RX7 25 "LampRacksModel" "told" "[I", .fieldLink RX7 126 "LampRacksModel" "toldMany" "I", .methodLink RX7 129 yX7_number, .instanceMethod yX7_number, .selects RX7 yX7_number yX7_number, .initialized RX7, .code yX7_number cX7_number 7 (some .boolean), .fieldLink RX7 22 "LampRacksModel" "text" "[I", .fieldLink RX7 119 "LampRacksModel" "spot" "I", .methodLink RX7 122 yX7_sees, .instanceMethod yX7_sees, .selects RX7 yX7_sees yX7_sees, .code yX7_sees cX7_sees 3 (some .boolean), .fieldLink RX7 116 "LampRacksModel" "length" "I", .methodLink RX7 28 yX7_in, .static yX7_in, .code yX7_in cX7_in 3 (some .boolean), .methodLink RX7 132 yX7_takes, .instanceMethod yX7_takes, .selects RX7 yX7_takes yX7_takes, .code yX7_takes cX7_takes 3 (some .boolean)] ++ wsX70)
def wsX7_readThing_r1 : List Cond := [Cond.fieldLink RX7 119 "LampRacksModel" "spot" "I", Cond.fieldLink RX7 116 "LampRacksModel" "length" "I", Cond.fieldLink RX7 22 "LampRacksModel" "text" "[I", Cond.fieldLink RX7 25 "LampRacksModel" "told" "[I", Cond.fieldLink RX7 126 "LampRacksModel" "toldMany" "I", Cond.methodLink RX7 129 yX7_number, Cond.instanceMethod yX7_number, Cond.selects RX7 yX7_number yX7_number, Cond.initialized RX7, Cond.code yX7_number cX7_number 7 (some .boolean), Cond.methodLink RX7 122 yX7_sees, Cond.instanceMethod yX7_sees, Cond.selects RX7 yX7_sees yX7_sees, Cond.code yX7_sees cX7_sees 3 (some .boolean), Cond.methodLink RX7 28 yX7_in, Cond.static yX7_in, Cond.code yX7_in cX7_in 3 (some .boolean), Cond.methodLink RX7 132 yX7_takes, Cond.instanceMethod yX7_takes, Cond.selects RX7 yX7_takes yX7_takes, Cond.code yX7_takes cX7_takes 3 (some .boolean), Cond.methodLink RX7 135 yX7_readSteps, Cond.instanceMethod yX7_readSteps, Cond.selects RX7 yX7_readSteps yX7_readSteps]
def wsX7_readThing_r2 : List Cond := [Cond.code yX7_readSteps cX7_readSteps 3 (some .boolean)]
def wsX7_readThing : List Cond := .code yX7_readThing cX7_readThing 3 (some .boolean) :: ((wsX7_readThing_r1 ++ wsX7_readThing_r2) ++ wsX70)
def wsX7_readText_r1 : List Cond := [Cond.fieldLink RX7 119 "LampRacksModel" "spot" "I", Cond.fieldLink RX7 126 "LampRacksModel" "toldMany" "I", Cond.fieldLink RX7 116 "LampRacksModel" "length" "I", Cond.methodLink RX7 139 yX7_readThing, Cond.instanceMethod yX7_readThing, Cond.selects RX7 yX7_readThing yX7_readThing, Cond.initialized RX7, Cond.code yX7_readThing cX7_readThing 3 (some .boolean), Cond.fieldLink RX7 22 "LampRacksModel" "text" "[I", Cond.fieldLink RX7 25 "LampRacksModel" "told" "[I", Cond.methodLink RX7 129 yX7_number, Cond.instanceMethod yX7_number, Cond.selects RX7 yX7_number yX7_number, Cond.code yX7_number cX7_number 7 (some .boolean), Cond.methodLink RX7 122 yX7_sees, Cond.instanceMethod yX7_sees, Cond.selects RX7 yX7_sees yX7_sees, Cond.code yX7_sees cX7_sees 3 (some .boolean), Cond.methodLink RX7 28 yX7_in, Cond.static yX7_in, Cond.code yX7_in cX7_in 3 (some .boolean), Cond.methodLink RX7 132 yX7_takes, Cond.instanceMethod yX7_takes, Cond.selects RX7 yX7_takes yX7_takes]
def wsX7_readText_r2 : List Cond := [Cond.code yX7_takes cX7_takes 3 (some .boolean), Cond.methodLink RX7 135 yX7_readSteps, Cond.instanceMethod yX7_readSteps, Cond.selects RX7 yX7_readSteps yX7_readSteps, Cond.code yX7_readSteps cX7_readSteps 3 (some .boolean)]
def wsX7_readText : List Cond := .code yX7_readText cX7_readText 2 (some .boolean) :: ((wsX7_readText_r1 ++ wsX7_readText_r2) ++ wsX70)
def wsX7_whyNot_r1 : List Cond := [Cond.fieldLink RX7 25 "LampRacksModel" "told" "[I", Cond.methodLink RX7 72 yX7_whyNotPut, Cond.instanceMethod yX7_whyNotPut, Cond.selects RX7 yX7_whyNotPut yX7_whyNotPut, Cond.initialized RX7, Cond.code yX7_whyNotPut cX7_whyNotPut 4 (some .int), Cond.fieldLink RX7 7 "LampRacksModel" "z" "[I", Cond.methodLink RX7 59 yX7_isRack, Cond.static yX7_isRack, Cond.code yX7_isRack cX7_isRack 1 (some .boolean), Cond.methodLink RX7 28 yX7_in, Cond.static yX7_in, Cond.code yX7_in cX7_in 3 (some .boolean), Cond.methodLink RX7 62 yX7_isPlace, Cond.static yX7_isPlace, Cond.code yX7_isPlace cX7_isPlace 1 (some .boolean), Cond.methodLink RX7 55 yX7_isBatch, Cond.static yX7_isBatch, Cond.code yX7_isBatch cX7_isBatch 1 (some .boolean), Cond.methodLink RX7 65 yX7_lampAt, Cond.instanceMethod yX7_lampAt, Cond.selects RX7 yX7_lampAt yX7_lampAt, Cond.code yX7_lampAt cX7_lampAt 5 (some .int), Cond.methodLink RX7 32 yX7_of]
def wsX7_whyNot_r2 : List Cond := [Cond.instanceMethod yX7_of, Cond.selects RX7 yX7_of yX7_of, Cond.code yX7_of cX7_of 3 (some .int), Cond.methodLink RX7 109 yX7_whyNotPass, Cond.instanceMethod yX7_whyNotPass, Cond.selects RX7 yX7_whyNotPass yX7_whyNotPass, Cond.code yX7_whyNotPass cX7_whyNotPass 2 (some .int), Cond.constant RX7 104 (99999)]
def wsX7_whyNot : List Cond := .code yX7_whyNot cX7_whyNot 4 (some .int) :: ((wsX7_whyNot_r1 ++ wsX7_whyNot_r2) ++ wsX70)
def wsX7_doThing_r1 : List Cond := [Cond.fieldLink RX7 25 "LampRacksModel" "told" "[I", Cond.fieldLink RX7 7 "LampRacksModel" "z" "[I", Cond.methodLink RX7 76 yX7_putNow, Cond.instanceMethod yX7_putNow, Cond.selects RX7 yX7_putNow yX7_putNow, Cond.initialized RX7, Cond.code yX7_putNow cX7_putNow 8 (some .int), Cond.methodLink RX7 68 yX7_lay, Cond.instanceMethod yX7_lay, Cond.selects RX7 yX7_lay yX7_lay, Cond.code yX7_lay cX7_lay 4 none, Cond.methodLink RX7 65 yX7_lampAt, Cond.instanceMethod yX7_lampAt, Cond.selects RX7 yX7_lampAt yX7_lampAt, Cond.code yX7_lampAt cX7_lampAt 5 (some .int), Cond.methodLink RX7 32 yX7_of, Cond.instanceMethod yX7_of, Cond.selects RX7 yX7_of yX7_of, Cond.code yX7_of cX7_of 3 (some .int), Cond.methodLink RX7 79 yX7_moveTo, Cond.instanceMethod yX7_moveTo, Cond.selects RX7 yX7_moveTo yX7_moveTo, Cond.code yX7_moveTo cX7_moveTo 4 none, Cond.methodLink RX7 88 yX7_stepsNow]
def wsX7_doThing_r2 : List Cond := [Cond.instanceMethod yX7_stepsNow, Cond.selects RX7 yX7_stepsNow yX7_stepsNow, Cond.code yX7_stepsNow cX7_stepsNow 5 none, Cond.methodLink RX7 113 yX7_passNow, Cond.instanceMethod yX7_passNow, Cond.selects RX7 yX7_passNow yX7_passNow, Cond.code yX7_passNow cX7_passNow 4 (some .int), Cond.methodLink RX7 105 yX7_anHour, Cond.instanceMethod yX7_anHour, Cond.selects RX7 yX7_anHour yX7_anHour, Cond.code yX7_anHour cX7_anHour 5 (some .int), Cond.methodLink RX7 94 yX7_burns, Cond.instanceMethod yX7_burns, Cond.selects RX7 yX7_burns yX7_burns, Cond.code yX7_burns cX7_burns 2 (some .boolean), Cond.methodLink RX7 91 yX7_isDead, Cond.instanceMethod yX7_isDead, Cond.selects RX7 yX7_isDead yX7_isDead, Cond.code yX7_isDead cX7_isDead 2 (some .boolean), Cond.methodLink RX7 85 yX7_ofRack, Cond.instanceMethod yX7_ofRack, Cond.selects RX7 yX7_ofRack yX7_ofRack, Cond.code yX7_ofRack cX7_ofRack 3 (some .int), Cond.methodLink RX7 97 yX7_isHot]
def wsX7_doThing_r3 : List Cond := [Cond.instanceMethod yX7_isHot, Cond.selects RX7 yX7_isHot yX7_isHot, Cond.code yX7_isHot cX7_isHot 2 (some .boolean), Cond.methodLink RX7 28 yX7_in, Cond.static yX7_in, Cond.code yX7_in cX7_in 3 (some .boolean), Cond.methodLink RX7 100 yX7_wearAt, Cond.instanceMethod yX7_wearAt, Cond.selects RX7 yX7_wearAt yX7_wearAt, Cond.code yX7_wearAt cX7_wearAt 4 (some .int)]
def wsX7_doThing : List Cond := .code yX7_doThing cX7_doThing 5 none :: ((wsX7_doThing_r1 ++ (wsX7_doThing_r2 ++ wsX7_doThing_r3)) ++ wsX70)
def wsX7_perform_r1 : List Cond := [Cond.fieldLink RX7 119 "LampRacksModel" "spot" "I", Cond.fieldLink RX7 7 "LampRacksModel" "z" "[I", Cond.fieldLink RX7 13 "LampRacksModel" "spare" "[I", Cond.fieldLink RX7 126 "LampRacksModel" "toldMany" "I", Cond.fieldLink RX7 148 "LampRacksModel" "stopNumber" "I", Cond.fieldLink RX7 151 "LampRacksModel" "stopError" "I", Cond.methodLink RX7 142 yX7_readText, Cond.instanceMethod yX7_readText, Cond.selects RX7 yX7_readText yX7_readText, Cond.initialized RX7, Cond.code yX7_readText cX7_readText 2 (some .boolean), Cond.fieldLink RX7 116 "LampRacksModel" "length" "I", Cond.methodLink RX7 139 yX7_readThing, Cond.instanceMethod yX7_readThing, Cond.selects RX7 yX7_readThing yX7_readThing, Cond.code yX7_readThing cX7_readThing 3 (some .boolean), Cond.fieldLink RX7 22 "LampRacksModel" "text" "[I", Cond.fieldLink RX7 25 "LampRacksModel" "told" "[I", Cond.methodLink RX7 129 yX7_number, Cond.instanceMethod yX7_number, Cond.selects RX7 yX7_number yX7_number, Cond.code yX7_number cX7_number 7 (some .boolean), Cond.methodLink RX7 122 yX7_sees, Cond.instanceMethod yX7_sees]
def wsX7_perform_r2 : List Cond := [Cond.selects RX7 yX7_sees yX7_sees, Cond.code yX7_sees cX7_sees 3 (some .boolean), Cond.methodLink RX7 28 yX7_in, Cond.static yX7_in, Cond.code yX7_in cX7_in 3 (some .boolean), Cond.methodLink RX7 132 yX7_takes, Cond.instanceMethod yX7_takes, Cond.selects RX7 yX7_takes yX7_takes, Cond.code yX7_takes cX7_takes 3 (some .boolean), Cond.methodLink RX7 135 yX7_readSteps, Cond.instanceMethod yX7_readSteps, Cond.selects RX7 yX7_readSteps yX7_readSteps, Cond.code yX7_readSteps cX7_readSteps 3 (some .boolean), Cond.methodLink RX7 40 yX7_copyState, Cond.static yX7_copyState, Cond.code yX7_copyState cX7_copyState 5 none, Cond.methodLink RX7 145 yX7_whyNot, Cond.instanceMethod yX7_whyNot, Cond.selects RX7 yX7_whyNot yX7_whyNot, Cond.code yX7_whyNot cX7_whyNot 4 (some .int), Cond.methodLink RX7 72 yX7_whyNotPut, Cond.instanceMethod yX7_whyNotPut, Cond.selects RX7 yX7_whyNotPut yX7_whyNotPut, Cond.code yX7_whyNotPut cX7_whyNotPut 4 (some .int)]
def wsX7_perform_r3 : List Cond := [Cond.methodLink RX7 59 yX7_isRack, Cond.static yX7_isRack, Cond.code yX7_isRack cX7_isRack 1 (some .boolean), Cond.methodLink RX7 62 yX7_isPlace, Cond.static yX7_isPlace, Cond.code yX7_isPlace cX7_isPlace 1 (some .boolean), Cond.methodLink RX7 55 yX7_isBatch, Cond.static yX7_isBatch, Cond.code yX7_isBatch cX7_isBatch 1 (some .boolean), Cond.methodLink RX7 65 yX7_lampAt, Cond.instanceMethod yX7_lampAt, Cond.selects RX7 yX7_lampAt yX7_lampAt, Cond.code yX7_lampAt cX7_lampAt 5 (some .int), Cond.methodLink RX7 32 yX7_of, Cond.instanceMethod yX7_of, Cond.selects RX7 yX7_of yX7_of, Cond.code yX7_of cX7_of 3 (some .int), Cond.methodLink RX7 109 yX7_whyNotPass, Cond.instanceMethod yX7_whyNotPass, Cond.selects RX7 yX7_whyNotPass yX7_whyNotPass, Cond.code yX7_whyNotPass cX7_whyNotPass 2 (some .int), Cond.constant RX7 104 (99999), Cond.methodLink RX7 154 yX7_doThing, Cond.instanceMethod yX7_doThing]
def wsX7_perform_r4 : List Cond := [Cond.selects RX7 yX7_doThing yX7_doThing, Cond.code yX7_doThing cX7_doThing 5 none, Cond.methodLink RX7 76 yX7_putNow, Cond.instanceMethod yX7_putNow, Cond.selects RX7 yX7_putNow yX7_putNow, Cond.code yX7_putNow cX7_putNow 8 (some .int), Cond.methodLink RX7 68 yX7_lay, Cond.instanceMethod yX7_lay, Cond.selects RX7 yX7_lay yX7_lay, Cond.code yX7_lay cX7_lay 4 none, Cond.methodLink RX7 79 yX7_moveTo, Cond.instanceMethod yX7_moveTo, Cond.selects RX7 yX7_moveTo yX7_moveTo, Cond.code yX7_moveTo cX7_moveTo 4 none, Cond.methodLink RX7 88 yX7_stepsNow, Cond.instanceMethod yX7_stepsNow, Cond.selects RX7 yX7_stepsNow yX7_stepsNow, Cond.code yX7_stepsNow cX7_stepsNow 5 none, Cond.methodLink RX7 113 yX7_passNow, Cond.instanceMethod yX7_passNow, Cond.selects RX7 yX7_passNow yX7_passNow, Cond.code yX7_passNow cX7_passNow 4 (some .int), Cond.methodLink RX7 105 yX7_anHour, Cond.instanceMethod yX7_anHour]
def wsX7_perform_r5 : List Cond := [Cond.selects RX7 yX7_anHour yX7_anHour, Cond.code yX7_anHour cX7_anHour 5 (some .int), Cond.methodLink RX7 94 yX7_burns, Cond.instanceMethod yX7_burns, Cond.selects RX7 yX7_burns yX7_burns, Cond.code yX7_burns cX7_burns 2 (some .boolean), Cond.methodLink RX7 91 yX7_isDead, Cond.instanceMethod yX7_isDead, Cond.selects RX7 yX7_isDead yX7_isDead, Cond.code yX7_isDead cX7_isDead 2 (some .boolean), Cond.methodLink RX7 85 yX7_ofRack, Cond.instanceMethod yX7_ofRack, Cond.selects RX7 yX7_ofRack yX7_ofRack, Cond.code yX7_ofRack cX7_ofRack 3 (some .int), Cond.methodLink RX7 97 yX7_isHot, Cond.instanceMethod yX7_isHot, Cond.selects RX7 yX7_isHot yX7_isHot, Cond.code yX7_isHot cX7_isHot 2 (some .boolean), Cond.methodLink RX7 100 yX7_wearAt, Cond.instanceMethod yX7_wearAt, Cond.selects RX7 yX7_wearAt yX7_wearAt, Cond.code yX7_wearAt cX7_wearAt 4 (some .int), Cond.methodLink RX7 44 yX7_recordRow, Cond.instanceMethod yX7_recordRow]
def wsX7_perform_r6 : List Cond := [Cond.selects RX7 yX7_recordRow yX7_recordRow, Cond.code yX7_recordRow cX7_recordRow 3 none, Cond.fieldLink RX7 36 "LampRacksModel" "states" "I", Cond.fieldLink RX7 16 "LampRacksModel" "past" "[I"]
def wsX7_perform : List Cond := .code yX7_perform cX7_perform 3 (some .int) :: ((wsX7_perform_r1 ++ (wsX7_perform_r2 ++ (wsX7_perform_r3 ++ (wsX7_perform_r4 ++ (wsX7_perform_r5 ++ wsX7_perform_r6))))) ++ wsX70)
def wsX7_stopped : List Cond := .code yX7_stopped cX7_stopped 2 (some .int) :: ([.fieldLink RX7 151 "LampRacksModel" "stopError" "I", .fieldLink RX7 148 "LampRacksModel" "stopNumber" "I", .methodLink RX7 28 yX7_in, .static yX7_in, .initialized RX7, .code yX7_in cX7_in 3 (some .boolean)] ++ wsX70)
def wsX7_counts : List Cond := .code yX7_counts cX7_counts 2 (some .int) :: ([.methodLink RX7 32 yX7_of, .instanceMethod yX7_of, .selects RX7 yX7_of yX7_of, .initialized RX7, .code yX7_of cX7_of 3 (some .int), .fieldLink RX7 7 "LampRacksModel" "z" "[I"] ++ wsX70)
def wsX7_lamp : List Cond := .code yX7_lamp cX7_lamp 3 (some .int) :: ([.methodLink RX7 158 yX7_isLamp, .instanceMethod yX7_isLamp, .selects RX7 yX7_isLamp yX7_isLamp, .initialized RX7, .code yX7_isLamp cX7_isLamp 2 (some .boolean), .fieldLink RX7 7 "LampRacksModel" "z" "[I", .methodLink RX7 28 yX7_in, .static yX7_in, .code yX7_in cX7_in 3 (some .boolean), .methodLink RX7 32 yX7_of, .instanceMethod yX7_of, .selects RX7 yX7_of yX7_of, .code yX7_of cX7_of 3 (some .int), .methodLink RX7 161 yX7_counts, .instanceMethod yX7_counts, .selects RX7 yX7_counts yX7_counts, .code yX7_counts cX7_counts 2 (some .int), .methodLink RX7 91 yX7_isDead, .instanceMethod yX7_isDead, .selects RX7 yX7_isDead yX7_isDead, .code yX7_isDead cX7_isDead 2 (some .boolean)] ++ wsX70)
def wsX7_lampsIn : List Cond := .code yX7_lampsIn cX7_lampsIn 5 (some .int) :: ([.fieldLink RX7 7 "LampRacksModel" "z" "[I", .methodLink RX7 32 yX7_of, .instanceMethod yX7_of, .selects RX7 yX7_of yX7_of, .initialized RX7, .code yX7_of cX7_of 3 (some .int), .methodLink RX7 91 yX7_isDead, .instanceMethod yX7_isDead, .selects RX7 yX7_isDead yX7_isDead, .code yX7_isDead cX7_isDead 2 (some .boolean)] ++ wsX70)
def wsX7_rack_r1 : List Cond := [Cond.methodLink RX7 59 yX7_isRack, Cond.static yX7_isRack, Cond.initialized RX7, Cond.code yX7_isRack cX7_isRack 1 (some .boolean), Cond.methodLink RX7 28 yX7_in, Cond.static yX7_in, Cond.code yX7_in cX7_in 3 (some .boolean), Cond.methodLink RX7 85 yX7_ofRack, Cond.instanceMethod yX7_ofRack, Cond.selects RX7 yX7_ofRack yX7_ofRack, Cond.code yX7_ofRack cX7_ofRack 3 (some .int), Cond.fieldLink RX7 7 "LampRacksModel" "z" "[I", Cond.methodLink RX7 164 yX7_lampsIn, Cond.instanceMethod yX7_lampsIn, Cond.selects RX7 yX7_lampsIn yX7_lampsIn, Cond.code yX7_lampsIn cX7_lampsIn 5 (some .int), Cond.methodLink RX7 32 yX7_of, Cond.instanceMethod yX7_of, Cond.selects RX7 yX7_of yX7_of, Cond.code yX7_of cX7_of 3 (some .int), Cond.methodLink RX7 91 yX7_isDead, Cond.instanceMethod yX7_isDead, Cond.selects RX7 yX7_isDead yX7_isDead, Cond.code yX7_isDead cX7_isDead 2 (some .boolean)]
def wsX7_rack_r2 : List Cond := [Cond.methodLink RX7 100 yX7_wearAt, Cond.instanceMethod yX7_wearAt, Cond.selects RX7 yX7_wearAt yX7_wearAt, Cond.code yX7_wearAt cX7_wearAt 4 (some .int)]
def wsX7_rack : List Cond := .code yX7_rack cX7_rack 4 (some .int) :: ((wsX7_rack_r1 ++ wsX7_rack_r2) ++ wsX70)
def wsX7_at : List Cond := .code yX7_at cX7_at 3 (some .int) :: ([.methodLink RX7 59 yX7_isRack, .static yX7_isRack, .initialized RX7, .code yX7_isRack cX7_isRack 1 (some .boolean), .methodLink RX7 28 yX7_in, .static yX7_in, .code yX7_in cX7_in 3 (some .boolean), .methodLink RX7 62 yX7_isPlace, .static yX7_isPlace, .code yX7_isPlace cX7_isPlace 1 (some .boolean), .methodLink RX7 65 yX7_lampAt, .instanceMethod yX7_lampAt, .selects RX7 yX7_lampAt yX7_lampAt, .code yX7_lampAt cX7_lampAt 5 (some .int), .fieldLink RX7 7 "LampRacksModel" "z" "[I", .methodLink RX7 32 yX7_of, .instanceMethod yX7_of, .selects RX7 yX7_of yX7_of, .code yX7_of cX7_of 3 (some .int)] ++ wsX70)
def wsX7_lampsOf : List Cond := .code yX7_lampsOf cX7_lampsOf 7 (some .int) :: ([.fieldLink RX7 7 "LampRacksModel" "z" "[I", .methodLink RX7 91 yX7_isDead, .instanceMethod yX7_isDead, .selects RX7 yX7_isDead yX7_isDead, .initialized RX7, .code yX7_isDead cX7_isDead 2 (some .boolean), .methodLink RX7 32 yX7_of, .instanceMethod yX7_of, .selects RX7 yX7_of yX7_of, .code yX7_of cX7_of 3 (some .int), .methodLink RX7 161 yX7_counts, .instanceMethod yX7_counts, .selects RX7 yX7_counts yX7_counts, .code yX7_counts cX7_counts 2 (some .int)] ++ wsX70)
def wsX7_middleLife : List Cond := .code yX7_middleLife cX7_middleLife 6 (some .int) :: ([.fieldLink RX7 7 "LampRacksModel" "z" "[I", .methodLink RX7 167 yX7_lampsOf, .instanceMethod yX7_lampsOf, .selects RX7 yX7_lampsOf yX7_lampsOf, .initialized RX7, .code yX7_lampsOf cX7_lampsOf 7 (some .int), .methodLink RX7 91 yX7_isDead, .instanceMethod yX7_isDead, .selects RX7 yX7_isDead yX7_isDead, .code yX7_isDead cX7_isDead 2 (some .boolean), .methodLink RX7 32 yX7_of, .instanceMethod yX7_of, .selects RX7 yX7_of yX7_of, .code yX7_of cX7_of 3 (some .int), .methodLink RX7 161 yX7_counts, .instanceMethod yX7_counts, .selects RX7 yX7_counts yX7_counts, .code yX7_counts cX7_counts 2 (some .int)] ++ wsX70)
def wsX7_early : List Cond := .code yX7_early cX7_early 2 (some .int) :: ([.fieldLink RX7 7 "LampRacksModel" "z" "[I", .methodLink RX7 167 yX7_lampsOf, .instanceMethod yX7_lampsOf, .selects RX7 yX7_lampsOf yX7_lampsOf, .initialized RX7, .code yX7_lampsOf cX7_lampsOf 7 (some .int), .methodLink RX7 91 yX7_isDead, .instanceMethod yX7_isDead, .selects RX7 yX7_isDead yX7_isDead, .code yX7_isDead cX7_isDead 2 (some .boolean), .methodLink RX7 32 yX7_of, .instanceMethod yX7_of, .selects RX7 yX7_of yX7_of, .code yX7_of cX7_of 3 (some .int), .methodLink RX7 161 yX7_counts, .instanceMethod yX7_counts, .selects RX7 yX7_counts yX7_counts, .code yX7_counts cX7_counts 2 (some .int)] ++ wsX70)
def wsX7_batch_r1 : List Cond := [Cond.fieldLink RX7 7 "LampRacksModel" "z" "[I", Cond.methodLink RX7 55 yX7_isBatch, Cond.static yX7_isBatch, Cond.initialized RX7, Cond.code yX7_isBatch cX7_isBatch 1 (some .boolean), Cond.methodLink RX7 28 yX7_in, Cond.static yX7_in, Cond.code yX7_in cX7_in 3 (some .boolean), Cond.methodLink RX7 167 yX7_lampsOf, Cond.instanceMethod yX7_lampsOf, Cond.selects RX7 yX7_lampsOf yX7_lampsOf, Cond.code yX7_lampsOf cX7_lampsOf 7 (some .int), Cond.methodLink RX7 91 yX7_isDead, Cond.instanceMethod yX7_isDead, Cond.selects RX7 yX7_isDead yX7_isDead, Cond.code yX7_isDead cX7_isDead 2 (some .boolean), Cond.methodLink RX7 32 yX7_of, Cond.instanceMethod yX7_of, Cond.selects RX7 yX7_of yX7_of, Cond.code yX7_of cX7_of 3 (some .int), Cond.methodLink RX7 161 yX7_counts, Cond.instanceMethod yX7_counts, Cond.selects RX7 yX7_counts yX7_counts, Cond.code yX7_counts cX7_counts 2 (some .int)]
def wsX7_batch_r2 : List Cond := [Cond.methodLink RX7 170 yX7_early, Cond.instanceMethod yX7_early, Cond.selects RX7 yX7_early yX7_early, Cond.code yX7_early cX7_early 2 (some .int), Cond.methodLink RX7 173 yX7_middleLife, Cond.instanceMethod yX7_middleLife, Cond.selects RX7 yX7_middleLife yX7_middleLife, Cond.code yX7_middleLife cX7_middleLife 6 (some .int)]
def wsX7_batch : List Cond := .code yX7_batch cX7_batch 3 (some .int) :: ((wsX7_batch_r1 ++ wsX7_batch_r2) ++ wsX70)
def wsX7_lasted_r1 : List Cond := [Cond.constant RX7 104 (99999), Cond.methodLink RX7 55 yX7_isBatch, Cond.static yX7_isBatch, Cond.initialized RX7, Cond.code yX7_isBatch cX7_isBatch 1 (some .boolean), Cond.methodLink RX7 28 yX7_in, Cond.static yX7_in, Cond.code yX7_in cX7_in 3 (some .boolean), Cond.methodLink RX7 167 yX7_lampsOf, Cond.instanceMethod yX7_lampsOf, Cond.selects RX7 yX7_lampsOf yX7_lampsOf, Cond.code yX7_lampsOf cX7_lampsOf 7 (some .int), Cond.fieldLink RX7 7 "LampRacksModel" "z" "[I", Cond.methodLink RX7 91 yX7_isDead, Cond.instanceMethod yX7_isDead, Cond.selects RX7 yX7_isDead yX7_isDead, Cond.code yX7_isDead cX7_isDead 2 (some .boolean), Cond.methodLink RX7 32 yX7_of, Cond.instanceMethod yX7_of, Cond.selects RX7 yX7_of yX7_of, Cond.code yX7_of cX7_of 3 (some .int), Cond.methodLink RX7 161 yX7_counts, Cond.instanceMethod yX7_counts, Cond.selects RX7 yX7_counts yX7_counts]
def wsX7_lasted_r2 : List Cond := [Cond.code yX7_counts cX7_counts 2 (some .int)]
def wsX7_lasted : List Cond := .code yX7_lasted cX7_lasted 3 (some .int) :: ((wsX7_lasted_r1 ++ wsX7_lasted_r2) ++ wsX70)
def wsX7_endsAhead : List Cond := .code yX7_endsAhead cX7_endsAhead 4 (some .int) :: ([.fieldLink RX7 7 "LampRacksModel" "z" "[I", .methodLink RX7 91 yX7_isDead, .instanceMethod yX7_isDead, .selects RX7 yX7_isDead yX7_isDead, .initialized RX7, .code yX7_isDead cX7_isDead 2 (some .boolean), .methodLink RX7 32 yX7_of, .instanceMethod yX7_of, .selects RX7 yX7_of yX7_of, .code yX7_of cX7_of 3 (some .int)] ++ wsX70)
def wsX7_ended : List Cond := .code yX7_ended cX7_ended 4 (some .int) :: ([.fieldLink RX7 7 "LampRacksModel" "z" "[I", .methodLink RX7 91 yX7_isDead, .instanceMethod yX7_isDead, .selects RX7 yX7_isDead yX7_isDead, .initialized RX7, .code yX7_isDead cX7_isDead 2 (some .boolean), .methodLink RX7 32 yX7_of, .instanceMethod yX7_of, .selects RX7 yX7_of yX7_of, .code yX7_of cX7_of 3 (some .int), .methodLink RX7 176 yX7_endsAhead, .instanceMethod yX7_endsAhead, .selects RX7 yX7_endsAhead yX7_endsAhead, .code yX7_endsAhead cX7_endsAhead 4 (some .int)] ++ wsX70)
def wsX7_lasts_r1 : List Cond := [Cond.methodLink RX7 158 yX7_isLamp, Cond.instanceMethod yX7_isLamp, Cond.selects RX7 yX7_isLamp yX7_isLamp, Cond.initialized RX7, Cond.code yX7_isLamp cX7_isLamp 2 (some .boolean), Cond.fieldLink RX7 7 "LampRacksModel" "z" "[I", Cond.methodLink RX7 28 yX7_in, Cond.static yX7_in, Cond.code yX7_in cX7_in 3 (some .boolean), Cond.methodLink RX7 91 yX7_isDead, Cond.instanceMethod yX7_isDead, Cond.selects RX7 yX7_isDead yX7_isDead, Cond.code yX7_isDead cX7_isDead 2 (some .boolean), Cond.methodLink RX7 32 yX7_of, Cond.instanceMethod yX7_of, Cond.selects RX7 yX7_of yX7_of, Cond.code yX7_of cX7_of 3 (some .int), Cond.methodLink RX7 97 yX7_isHot, Cond.instanceMethod yX7_isHot, Cond.selects RX7 yX7_isHot yX7_isHot, Cond.code yX7_isHot cX7_isHot 2 (some .boolean), Cond.methodLink RX7 100 yX7_wearAt, Cond.instanceMethod yX7_wearAt, Cond.selects RX7 yX7_wearAt yX7_wearAt]
def wsX7_lasts_r2 : List Cond := [Cond.code yX7_wearAt cX7_wearAt 4 (some .int)]
def wsX7_lasts : List Cond := .code yX7_lasts cX7_lasts 4 (some .int) :: ((wsX7_lasts_r1 ++ wsX7_lasts_r2) ++ wsX70)
def wsX7_reason_r1 : List Cond := [Cond.methodLink RX7 158 yX7_isLamp, Cond.instanceMethod yX7_isLamp, Cond.selects RX7 yX7_isLamp yX7_isLamp, Cond.initialized RX7, Cond.code yX7_isLamp cX7_isLamp 2 (some .boolean), Cond.fieldLink RX7 7 "LampRacksModel" "z" "[I", Cond.methodLink RX7 28 yX7_in, Cond.static yX7_in, Cond.code yX7_in cX7_in 3 (some .boolean), Cond.methodLink RX7 91 yX7_isDead, Cond.instanceMethod yX7_isDead, Cond.selects RX7 yX7_isDead yX7_isDead, Cond.code yX7_isDead cX7_isDead 2 (some .boolean), Cond.methodLink RX7 32 yX7_of, Cond.instanceMethod yX7_of, Cond.selects RX7 yX7_of yX7_of, Cond.code yX7_of cX7_of 3 (some .int), Cond.methodLink RX7 94 yX7_burns, Cond.instanceMethod yX7_burns, Cond.selects RX7 yX7_burns yX7_burns, Cond.code yX7_burns cX7_burns 2 (some .boolean), Cond.methodLink RX7 85 yX7_ofRack, Cond.instanceMethod yX7_ofRack, Cond.selects RX7 yX7_ofRack yX7_ofRack]
def wsX7_reason_r2 : List Cond := [Cond.code yX7_ofRack cX7_ofRack 3 (some .int)]
def wsX7_reason : List Cond := .code yX7_reason cX7_reason 2 (some .int) :: ((wsX7_reason_r1 ++ wsX7_reason_r2) ++ wsX70)
def wsX7_firstEndedAt : List Cond := .code yX7_firstEndedAt cX7_firstEndedAt 4 (some .int) :: ([.fieldLink RX7 7 "LampRacksModel" "z" "[I", .methodLink RX7 32 yX7_of, .instanceMethod yX7_of, .selects RX7 yX7_of yX7_of, .initialized RX7, .code yX7_of cX7_of 3 (some .int)] ++ wsX70)
def wsX7_next_r1 : List Cond := [Cond.fieldLink RX7 7 "LampRacksModel" "z" "[I", Cond.fieldLink RX7 13 "LampRacksModel" "spare" "[I", Cond.methodLink RX7 28 yX7_in, Cond.static yX7_in, Cond.initialized RX7, Cond.code yX7_in cX7_in 3 (some .boolean), Cond.methodLink RX7 40 yX7_copyState, Cond.static yX7_copyState, Cond.code yX7_copyState cX7_copyState 5 none, Cond.methodLink RX7 105 yX7_anHour, Cond.instanceMethod yX7_anHour, Cond.selects RX7 yX7_anHour yX7_anHour, Cond.code yX7_anHour cX7_anHour 5 (some .int), Cond.methodLink RX7 94 yX7_burns, Cond.instanceMethod yX7_burns, Cond.selects RX7 yX7_burns yX7_burns, Cond.code yX7_burns cX7_burns 2 (some .boolean), Cond.methodLink RX7 91 yX7_isDead, Cond.instanceMethod yX7_isDead, Cond.selects RX7 yX7_isDead yX7_isDead, Cond.code yX7_isDead cX7_isDead 2 (some .boolean), Cond.methodLink RX7 32 yX7_of, Cond.instanceMethod yX7_of, Cond.selects RX7 yX7_of yX7_of]
def wsX7_next_r2 : List Cond := [Cond.code yX7_of cX7_of 3 (some .int), Cond.methodLink RX7 85 yX7_ofRack, Cond.instanceMethod yX7_ofRack, Cond.selects RX7 yX7_ofRack yX7_ofRack, Cond.code yX7_ofRack cX7_ofRack 3 (some .int), Cond.methodLink RX7 68 yX7_lay, Cond.instanceMethod yX7_lay, Cond.selects RX7 yX7_lay yX7_lay, Cond.code yX7_lay cX7_lay 4 none, Cond.methodLink RX7 97 yX7_isHot, Cond.instanceMethod yX7_isHot, Cond.selects RX7 yX7_isHot yX7_isHot, Cond.code yX7_isHot cX7_isHot 2 (some .boolean), Cond.methodLink RX7 100 yX7_wearAt, Cond.instanceMethod yX7_wearAt, Cond.selects RX7 yX7_wearAt yX7_wearAt, Cond.code yX7_wearAt cX7_wearAt 4 (some .int), Cond.methodLink RX7 179 yX7_firstEndedAt, Cond.instanceMethod yX7_firstEndedAt, Cond.selects RX7 yX7_firstEndedAt yX7_firstEndedAt, Cond.code yX7_firstEndedAt cX7_firstEndedAt 4 (some .int)]
def wsX7_next : List Cond := .code yX7_next cX7_next 5 (some .int) :: ((wsX7_next_r1 ++ wsX7_next_r2) ++ wsX70)
def wsX7_sum : List Cond := .code yX7_sum cX7_sum 4 (some .int) :: ([.fieldLink RX7 7 "LampRacksModel" "z" "[I", .methodLink RX7 32 yX7_of, .instanceMethod yX7_of, .selects RX7 yX7_of yX7_of, .initialized RX7, .code yX7_of cX7_of 3 (some .int)] ++ wsX70)
def wsX7_burning : List Cond := .code yX7_burning cX7_burning 3 (some .int) :: ([.fieldLink RX7 7 "LampRacksModel" "z" "[I", .methodLink RX7 94 yX7_burns, .instanceMethod yX7_burns, .selects RX7 yX7_burns yX7_burns, .initialized RX7, .code yX7_burns cX7_burns 2 (some .boolean), .methodLink RX7 91 yX7_isDead, .instanceMethod yX7_isDead, .selects RX7 yX7_isDead yX7_isDead, .code yX7_isDead cX7_isDead 2 (some .boolean), .methodLink RX7 32 yX7_of, .instanceMethod yX7_of, .selects RX7 yX7_of yX7_of, .code yX7_of cX7_of 3 (some .int), .methodLink RX7 85 yX7_ofRack, .instanceMethod yX7_ofRack, .selects RX7 yX7_ofRack yX7_ofRack, .code yX7_ofRack cX7_ofRack 3 (some .int)] ++ wsX70)
def wsX7_dead : List Cond := .code yX7_dead cX7_dead 3 (some .int) :: ([.fieldLink RX7 7 "LampRacksModel" "z" "[I", .methodLink RX7 91 yX7_isDead, .instanceMethod yX7_isDead, .selects RX7 yX7_isDead yX7_isDead, .initialized RX7, .code yX7_isDead cX7_isDead 2 (some .boolean), .methodLink RX7 32 yX7_of, .instanceMethod yX7_of, .selects RX7 yX7_of yX7_of, .code yX7_of cX7_of 3 (some .int)] ++ wsX70)
def wsX7_count_r1 : List Cond := [Cond.fieldLink RX7 7 "LampRacksModel" "z" "[I", Cond.fieldLink RX7 36 "LampRacksModel" "states" "I", Cond.fieldLink RX7 116 "LampRacksModel" "length" "I", Cond.methodLink RX7 164 yX7_lampsIn, Cond.instanceMethod yX7_lampsIn, Cond.selects RX7 yX7_lampsIn yX7_lampsIn, Cond.initialized RX7, Cond.code yX7_lampsIn cX7_lampsIn 5 (some .int), Cond.methodLink RX7 32 yX7_of, Cond.instanceMethod yX7_of, Cond.selects RX7 yX7_of yX7_of, Cond.code yX7_of cX7_of 3 (some .int), Cond.methodLink RX7 91 yX7_isDead, Cond.instanceMethod yX7_isDead, Cond.selects RX7 yX7_isDead yX7_isDead, Cond.code yX7_isDead cX7_isDead 2 (some .boolean), Cond.methodLink RX7 182 yX7_burning, Cond.instanceMethod yX7_burning, Cond.selects RX7 yX7_burning yX7_burning, Cond.code yX7_burning cX7_burning 3 (some .int), Cond.methodLink RX7 94 yX7_burns, Cond.instanceMethod yX7_burns, Cond.selects RX7 yX7_burns yX7_burns, Cond.code yX7_burns cX7_burns 2 (some .boolean)]
def wsX7_count_r2 : List Cond := [Cond.methodLink RX7 85 yX7_ofRack, Cond.instanceMethod yX7_ofRack, Cond.selects RX7 yX7_ofRack yX7_ofRack, Cond.code yX7_ofRack cX7_ofRack 3 (some .int), Cond.methodLink RX7 185 yX7_dead, Cond.instanceMethod yX7_dead, Cond.selects RX7 yX7_dead yX7_dead, Cond.code yX7_dead cX7_dead 3 (some .int), Cond.methodLink RX7 188 yX7_sum, Cond.instanceMethod yX7_sum, Cond.selects RX7 yX7_sum yX7_sum, Cond.code yX7_sum cX7_sum 4 (some .int)]
def wsX7_count : List Cond := .code yX7_count cX7_count 2 (some .int) :: ((wsX7_count_r1 ++ wsX7_count_r2) ++ wsX70)
def wsJ9_max_7cf53 : List Cond := .code yJ9_max_7cf53 cJ9_max_7cf53 2 (some .int) :: ([])
def wsJ9_min_7cf53 : List Cond := .code yJ9_min_7cf53 cJ9_min_7cf53 2 (some .int) :: ([])

abbrev vwCl : List vw_C := [(RX0, TX0, 2), (RX1, TX1, 2), (RX2, TX2, 7), (RX3, TX3, 5), (RX4, TX4, 6), (RX5, TX5, 10), (RX6, TX6, 9), (RX7, TX7, 13)]
end
section
/-! my own layer over the kit's rows: one goal form X (world, locals, place, stack as data), one row an instruction, RO and MU contracts -/
abbrev GG : Type := va_G × ClassId × ClassId × ClassId
abbrev gT (G : GG) : List (ClassId × FieldType) := [(G.2.1, .int), (G.2.2.1, .char), (G.2.2.2, .object "LampRacks$State")]
def xN : List Cond := [.methodLinkNest RX0 18 yX6_copy "LampRacks", .methodLinkNest RX0 22 yX6_shareOf "LampRacks", .methodLinkNest RX0 26 yX6_isWeak "LampRacks", .methodLinkNest RX1 21 yX4_init "LampRacks", .methodLinkNest RX2 34 yX6_copy "LampRacks", .methodLinkNest RX2 38 yX6_isWithin "LampRacks", .methodLinkNest RX2 52 yX6_oneIf "LampRacks", .methodLinkNest RX2 64 yX6_isWeak "LampRacks", .methodLinkNest RX3 33 yX6_copy "LampRacks", .methodLinkNest RX4 30 yX2_init "LampRacks", .methodLinkNest RX4 52 yX6_isBatch "LampRacks", .methodLinkNest RX4 56 yX6_isWithin "LampRacks", .methodLinkNest RX4 67 yX6_isPlace "LampRacks", .methodLinkNest RX4 71 yX6_spotOf "LampRacks", .methodLinkNest RX4 98 yX6_isRack "LampRacks", .methodLinkNest RX4 148 yX6_isHot "LampRacks", .methodLinkNest RX4 186 yX6_oneIf "LampRacks", .methodLinkNest RX4 190 yX6_isWeak "LampRacks", .methodLinkNest RX5 81 yX6_isWithin "LampRacks", .methodLinkNest RX6 9 yX4_init "LampRacks", .methodLinkNest RX6 38 yX5_init "LampRacks"]
theorem xN_form : ∀ w ∈ xN, ∃ (a : String) (i : Nat) (x : MethodName) (h : String), w = Cond.methodLinkNest a i x h := by
  intro w hw
  simp only [xN, List.mem_cons, List.not_mem_nil, or_false] at hw
  rcases hw with h | h | h | h | h | h | h | h | h | h | h | h | h | h | h | h | h | h | h | h | h
  all_goals exact ⟨_, _, _, _, h⟩
/-- what the tables say of the classes, the arrays and the nest mates' links -/
def KK (G : GG) (U : State) : Prop := va_K G.1 vwCl (gT G) U ∧ ∀ w ∈ xN, va_Nw w U
theorem KK.warm {G : GG} {s U : State} (hW : s.WarmedH U.vm) (h : KK G s) : KK G U := ⟨va_K.moved hW.alike h.1, fun w hw => by
  obtain ⟨a, i, x, h', rfl⟩ := xN_form w hw
  exact va_Nw.warmM hW (h.2 _ hw)⟩
theorem KK.call {G : GG} {U : State} {g : JFrame} {mk : MethodId} {a : Array Value} (h : KK G U) : KK G (U.calling g mk a) := ⟨va_K.moved (u := U) (U := U.calling g mk a) (Vm.Alike.refl U.vm) h.1, fun w hw => by
  obtain ⟨b, i, x, h', rfl⟩ := xN_form w hw
  exact va_Nw.same (u := U) (by first | rfl | decide) rfl (h.2 _ hw)⟩
/-- a truth as the machine's int -/
def b2i (P : Prop) [Decidable P] : Int32 := if P then 1 else 0
theorem b2i_t {P : Prop} [Decidable P] (h : P) : b2i P = 1 := if_pos h
theorem b2i_f {P : Prop} [Decidable P] (h : ¬ P) : b2i P = 0 := if_neg h
theorem b2i_e0 {P : Prop} [Decidable P] : b2i P = 0 ↔ ¬ P := by
  unfold b2i
  by_cases h : P
  · simp [h]
  · simp [h]
theorem b2i_c {P Q : Prop} [Decidable P] [Decidable Q] (h : P ↔ Q) : b2i P = b2i Q := by
  unfold b2i
  by_cases hp : P
  · rw [if_pos hp, if_pos (h.mp hp)]
  · rw [if_neg hp, if_neg (fun q => hp (h.mpr q))]
theorem b2i_nz (P : Prop) [Decidable P] : narrow .boolean (.int (b2i P)) = .int (b2i P) := by
  by_cases h : P
  · rw [b2i_t h]; rfl
  · rw [b2i_f h]; rfl
/-- the cells that a method may write: its world's -/
def aw (ws : va_W) : Nat → Prop := fun q => ∃ (k : Nat) (e : va_E), ws[k]? = some (q, e)
abbrev CX : Type := Program × Launch × Env × Room × State × MethodId × Array Value × List Frame × Method × Code × (va_W → Heap → List Loc → Prop) × GG × (State → Prop) × Nat
def xl (cx : CX) : Launch := cx.2.1
def xG (cx : CX) : GG := cx.2.2.2.2.2.2.2.2.2.2.2.1
/-- the one goal: from place pc with the locals lv, the stack st and the world ws the machine comes to Q -/
def X (cx : CX) (z : Nat × Nat) (ws : va_W) (lv : List (Nat × Value)) (pc : Nat) (st : List Value) : Prop := match cx with
  | (p, l, e, R, s, m, args, below, meth, c, Inv, _, Q, n) => ∀ (H : Heap) (locs : List Loc), Inv ws H locs → ∀ ls : Array Slot, lv_has ls n lv → W p l e R s m args below meth c H locs z.1 z.2 Q (F0 m pc ls st)
/-- what a walk stands on -/
def XC (cx : CX) (cc : ByteArray) (Ts : List Cond) (own : String) (rm : Room) (nL : Nat) : Prop := match cx with
  | (p, _, _, R, s, m, args, _, meth, c, Inv, G, _, n) => p.tables.exec = Jvm.exec ∧ c.code = cc ∧ c.maxLocals = n ∧ n = nL ∧ s.vm.findClass own = some m.cls ∧ (∀ w ∈ Ts, w.before args s = true) ∧ KK G s ∧ (∀ ws H locs, Inv ws H locs → va_P G.1 vwCl ws H ∧ va_D (fun _ => True) ws) ∧ R = rm ∧ meth.locks = false
/-- a walk that may write -/
def XM (cx : CX) : Prop := match cx with
  | (_, _, _, _, s, _, _, _, _, _, Inv, G, _, _) => ∃ A : Nat → Prop, ∀ ws H locs, Inv ws H locs ↔ (va_P G.1 vwCl ws H ∧ va_D A ws ∧ va_S A s.heap H locs)
/-- the end of a walk: with r, in the world w -/
def XE (cx : CX) (z : Nat × Nat) (ret : Option FieldType) (r : Option Value) (w : va_W) : Prop := match cx with
  | (_, _, _, _, s, _, args, below, meth, _, Inv, _, Q, _) => meth.sig.returnType = ret ∧ ∃ (Qc : Array Value → State → Outcome → State → Prop) (free : Addr → Prop), Q = MQ below Qc args s z.1 z.2 free ∧ ∀ H locs, Inv w H locs → (∀ t : State, t.heap = H → s.WarmedH t.vm → Qc args s (.returned r) t) ∧ ∀ q ∈ locs, free q.base
def CPc (G : GG) (av : List Value) (w : va_W) : Array Value → State → Prop := va_Pc av (fun U => va_P G.1 vwCl w U.heap ∧ va_D (fun _ => True) w ∧ KK G U)
theorem CPc_blind (G : GG) (av : List Value) (w : va_W) : FrameBlind (CPc G av w) := by
  intro a U g mk h
  obtain ⟨h1, h2, h3, h4⟩ := h
  exact ⟨h1, h2, h3, h4.call⟩
/-- a contract of a method that changes nothing: its answer is v -/
def RO (l : Launch) (G : GG) (y : MethodName) (ws : List Cond) (rm : Room) (av : List Value) (w : va_W) (v : Value) : Prop :=
  Met l y ws rm (CPc G av w) (fun _ st o t => o = .returned (some v) ∧ t.heap = st.heap) 0 0 (fun _ => False)
/-- a contract of a method that changes its world w to w' (the same cells) and answers r -/
def MU (l : Launch) (G : GG) (y : MethodName) (ws : List Cond) (rm : Room) (av : List Value) (w : va_W) (r : Option Value) (w' : va_W) : Prop :=
  Met l y ws rm (CPc G av w) (fun _ st o t => o = .returned r ∧ va_P G.1 vwCl w' t.heap ∧ va_F (aw w) st t) 0 0 (aw w)
theorem RO.of {l : Launch} {G : GG} {y : MethodName} {ws ws' : List Cond} {rm : Room} {av : List Value} {w : va_W} {v : Value} {cc : ByteArray} {maxL : Nat} {ret : Option FieldType} (hy : plainName y.cls = true) (hw : ws = Cond.code y cc maxL ret :: ws') (hn : (lg_sl av).length ≤ maxL)
    (body : ∀ cx : CX, xl cx = l → xG cx = G → XC cx cc ws y.cls rm maxL → XE cx (0, 0) ret (some v) w → X cx (0, 0) w (lv_args 0 av) 0 []) : RO l G y ws rm av w v := by
  refine Met.ofW (cc := cc) (maxL := maxL) (ret := ret) hy hw ?_
  intro p e s m args below meth c s₁ B hml hv
  obtain ⟨rfl, hP, hD, hK⟩ := hv
  have hts := atoms_spec (ws := ws) B.pre
  have hown : s.vm.findClass y.cls = some m.cls := findClass_of_methodNamed B.named
  rw [lg_entry_eq]
  refine body (p, l, e, rm, s, m, av.toArray, below, meth, c, (fun w2 H locs => w2 = w ∧ H = s.heap ∧ locs = []), G, _, maxL) rfl rfl ⟨B.exec, B.bytes, hml, rfl, hown, hts, hK, ?_, rfl, B.notSynchronized⟩ ⟨B.returns, _, _, rfl, ?_⟩ s.heap [] ⟨rfl, rfl, rfl⟩ _ ?_
  · intro w2 H locs h
    obtain ⟨rfl, rfl, rfl⟩ := h
    exact ⟨hP, hD⟩
  · intro H locs h
    obtain ⟨-, rfl, rfl⟩ := h
    exact ⟨fun t ht _ => ⟨rfl, ht⟩, fun q hq => by cases hq⟩
  · exact lv_entry av hn
theorem MU.of {l : Launch} {G : GG} {y : MethodName} {ws ws' : List Cond} {rm : Room} {av : List Value} {w w' : va_W} {r : Option Value} {cc : ByteArray} {maxL : Nat} {ret : Option FieldType} (hy : plainName y.cls = true) (hw : ws = Cond.code y cc maxL ret :: ws') (hn : (lg_sl av).length ≤ maxL)
    (body : ∀ cx : CX, xl cx = l → xG cx = G → XC cx cc ws y.cls rm maxL → XM cx → XE cx (0, 0) ret r w' → X cx (0, 0) w (lv_args 0 av) 0 []) : MU l G y ws rm av w r w' := by
  refine Met.ofW (cc := cc) (maxL := maxL) (ret := ret) hy hw ?_
  intro p e s m args below meth c s₁ B hml hv
  obtain ⟨rfl, hP, hD, hK⟩ := hv
  have hts := atoms_spec (ws := ws) B.pre
  have hown : s.vm.findClass y.cls = some m.cls := findClass_of_methodNamed B.named
  rw [lg_entry_eq]
  refine body (p, l, e, rm, s, m, av.toArray, below, meth, c, (fun w2 H locs => va_P G.1 vwCl w2 H ∧ va_D (aw w) w2 ∧ va_S (aw w) s.heap H locs), G, _, maxL) rfl rfl ⟨B.exec, B.bytes, hml, rfl, hown, hts, hK, ?_, rfl, B.notSynchronized⟩ ⟨aw w, fun _ _ _ => Iff.rfl⟩ ⟨B.returns, _, _, rfl, ?_⟩ s.heap [] ⟨hP, ⟨hD.1, fun k q hk => ⟨k, q.2, hk⟩⟩, va_S.rf⟩ _ ?_
  · intro w2 H locs h
    exact ⟨h.1, h.2.1.weaken (fun _ _ _ _ => trivial)⟩
  · intro H locs h
    exact ⟨fun t ht _ => ⟨rfl, by rw [ht]; exact h.1, h.2.2.F ht⟩, h.2.2.2.2⟩
  · exact lv_entry av hn

theorem cut_P {D : va_G} {cl : List vw_C} {ws wc : va_W} {H : Heap} (hP : va_P D cl ws H) (isC : List Nat) (hcut : isC.map (fun i => ws[i]?) = wc.map some) : va_P D cl wc H := by
  intro k q hk
  have h1 : (isC.map (fun i => ws[i]?))[k]? = some (some q) := by rw [hcut, List.getElem?_map, hk]; rfl
  rw [List.getElem?_map] at h1
  cases hi : isC[k]? with
  | none => rw [hi] at h1; cases h1
  | some i => rw [hi] at h1; exact hP i q (Option.some.inj h1)
theorem aw_in {A : Nat → Prop} {ws wc : va_W} (hD : va_D A ws) (isC : List Nat) (hcut : isC.map (fun i => ws[i]?) = wc.map some) : ∀ q, aw wc q → A q := by
  intro q h
  obtain ⟨k, e, hk⟩ := h
  have h1 : (isC.map (fun i => ws[i]?))[k]? = some (some (q, e)) := by rw [hcut, List.getElem?_map, hk]; rfl
  rw [List.getElem?_map] at h1
  cases hi : isC[k]? with
  | none => rw [hi] at h1; cases h1
  | some i => rw [hi] at h1; exact hD.2 i (q, e) (Option.some.inj h1)
theorem fst_at {ws ws' : va_W} (h : ws'.map (fun q => q.1) = ws.map (fun q => q.1)) {k : Nat} {q : Nat × va_E} (hk : ws'[k]? = some q) : ∃ q0, ws[k]? = some q0 ∧ q0.1 = q.1 := by
  have h1 : (ws'.map (fun q => q.1))[k]? = some q.1 := by rw [List.getElem?_map, hk]; rfl
  rw [h, List.getElem?_map] at h1
  cases hi : ws[k]? with
  | none => rw [hi] at h1; cases h1
  | some q0 => rw [hi] at h1; exact ⟨q0, rfl, Option.some.inj h1⟩
theorem back_D {A : Nat → Prop} {ws ws' : va_W} (hD : va_D A ws) (h : ws'.map (fun q => q.1) = ws.map (fun q => q.1)) : va_D A ws' := by
  refine ⟨fun i j p q hi hj hpq => ?_, fun k q hk => ?_⟩
  · obtain ⟨p0, h1, h2⟩ := fst_at h hi
    obtain ⟨q0, h3, h4⟩ := fst_at h hj
    exact hD.1 i j p0 q0 h1 h3 (h2.trans (hpq.trans h4.symm))
  · obtain ⟨q0, h1, h2⟩ := fst_at h hk
    rw [← h2]
    exact hD.2 k q0 h1
theorem back_P {D : va_G} {cl : List vw_C} {A : Nat → Prop} {ws ws' wc wc' : va_W} {H H1 : Heap} (hP : va_P D cl ws H) (hD : va_D A ws) (isC oth : List Nat) (hcut : isC.map (fun i => ws[i]?) = wc.map some) (ho1 : ws'.map (fun q => q.1) = ws.map (fun q => q.1)) (ho2 : oth.map (fun i => ws'[i]?) = oth.map (fun i => ws[i]?)) (ho3 : (List.range ws.length).all (fun i => isC.contains i || oth.contains i) = true) (ho4 : isC.map (fun i => ws'[i]?) = wc'.map some) (hF : H.size ≤ H1.size ∧ ∀ q : Nat, q < H.size → ¬ aw wc q → H1[q]? = H[q]?) (hP1 : va_P D cl wc' H1) : va_P D cl ws' H1 := by
  intro k q hk
  obtain ⟨q0, hk0, hq0⟩ := fst_at ho1 hk
  have hlen : k < ws.length := (List.getElem?_eq_some_iff.mp hk0).1
  by_cases hin : k ∈ isC
  · obtain ⟨j, hj⟩ := List.getElem?_of_mem hin
    have h1 : (isC.map (fun i => ws'[i]?))[j]? = some (some q) := by rw [List.getElem?_map, hj]; show some (ws'[k]?) = _; rw [hk]
    rw [ho4, List.getElem?_map] at h1
    cases hi : wc'[j]? with
    | none => rw [hi] at h1; cases h1
    | some r => rw [hi] at h1; have := Option.some.inj (Option.some.inj h1); subst this; exact hP1 j _ hi
  · have h3 := List.all_eq_true.mp ho3 k (List.mem_range.mpr hlen)
    have h4 : k ∈ oth := by
      rcases (Bool.or_eq_true _ _).mp h3 with h | h
      · exact absurd (List.contains_iff_mem.mp h) hin
      · exact List.contains_iff_mem.mp h
    obtain ⟨j, hj⟩ := List.getElem?_of_mem h4
    have h5 : ws'[k]? = ws[k]? := by
      have h6 : (oth.map (fun i => ws'[i]?))[j]? = (oth.map (fun i => ws[i]?))[j]? := by rw [ho2]
      rw [List.getElem?_map, List.getElem?_map, hj] at h6
      exact Option.some.inj h6
    rw [hk] at h5
    have hat := hP k q h5.symm
    refine hat.kept (hF.2 q.1 hat.lt (fun h => ?_))
    obtain ⟨k2, e, hk2⟩ := h
    have h7 : (isC.map (fun i => ws[i]?))[k2]? = some (some (q.1, e)) := by rw [hcut, List.getElem?_map, hk2]; rfl
    rw [List.getElem?_map] at h7
    cases hi : isC[k2]? with
    | none => rw [hi] at h7; cases h7
    | some i =>
      rw [hi] at h7
      have h8 := hD.1 k i q (q.1, e) h5.symm (Option.some.inj h7) rfl
      subst h8
      exact hin (List.mem_of_getElem? hi)
def allc (F : Nat → Prop) (x : Int32) : Nat → List Nat → Prop
  | _, [] => True
  | j, t :: ts => (x.toInt = (j : Int) → F t) ∧ allc F x (j + 1) ts
theorem allc_at (F : Nat → Prop) (x : Int32) : ∀ (ts : List Nat) (j0 : Nat), allc F x j0 ts → ∀ (j t : Nat), ts[j]? = some t → x.toInt = ((j0 + j : Nat) : Int) → F t := by
  intro ts
  induction ts with
  | nil => intro j0 _ j t h; simp at h
  | cons a ts ih =>
    intro j0 h j t hj hx
    cases j with
    | zero =>
      simp only [List.getElem?_cons_zero, Option.some.injEq] at hj
      subst hj
      exact h.1 hx
    | succ j =>
      simp only [List.getElem?_cons_succ] at hj
      exact ih (j0 + 1) h.2 j t hj (by rw [hx]; congr 1; omega)
def alll (F : Nat → Prop) (x : Int32) : List (Int × Nat) → Prop
  | [] => True
  | t :: ts => (x.toInt = t.1 → F t.2) ∧ alll F x ts
section XROWS
variable {cx : CX} {z : Nat × Nat} {cc : ByteArray} {Ts : List Cond} {own : String} {rm : Room} {nL : Nat} {ws : va_W} {lv : List (Nat × Value)} {pc : Nat} {st : List Value}
theorem x_lv (lv' : List (Nat × Value)) (is : List Nat) (h : lv_pick lv is = lv') (kk : X cx z ws lv' pc st) : X cx z ws lv pc st := by
  obtain ⟨p, l, e, R, s, m, args, below, meth, c, Inv, G, Q, n⟩ := cx
  intro H locs hI ls hl
  exact kk H locs hI ls (lv_sub hl is h)

theorem x_top {x y : Int32} (h : x = y) (kk : X cx z ws lv pc (.int y :: st)) : X cx z ws lv pc (.int x :: st) := by
  subst h
  exact kk
theorem inc1 (k : Nat) : nI k + Int32.ofInt 1 = nI (k + 1) := nI_1 k

theorem x_iconst (C : XC cx cc Ts own rm nL) {k : Int} {v : Int32} (hd : decode cc pc = .ok (.iconst k, 1)) (hv : Int32.ofInt k = v)
    (kk : X cx z ws lv (pc + 1) (.int v :: st)) : X cx z ws lv pc st := by
  obtain ⟨p, l, e, R, s, m, args, below, meth, c, Inv, G, Q, n⟩ := cx
  obtain ⟨hx, hb, hml, hnn, hown, hts, hK, hI0, hR, hlocks⟩ := C
  intro H locs hI ls hl
  exact lv_iconst hx hb hd hv (kk H locs hI ls hl)

theorem x_bipush (C : XC cx cc Ts own rm nL) {k : Int} {v : Int32} (hd : decode cc pc = .ok (.bipush k, 2)) (hv : (Int8.ofInt k).toInt32 = v)
    (kk : X cx z ws lv (pc + 2) (.int v :: st)) : X cx z ws lv pc st := by
  obtain ⟨p, l, e, R, s, m, args, below, meth, c, Inv, G, Q, n⟩ := cx
  obtain ⟨hx, hb, hml, hnn, hown, hts, hK, hI0, hR, hlocks⟩ := C
  intro H locs hI ls hl
  exact lv_bipush hx hb hd hv (kk H locs hI ls hl)

theorem x_sipush (C : XC cx cc Ts own rm nL) {k : Int} {v : Int32} (hd : decode cc pc = .ok (.sipush k, 3)) (hv : (Int16.ofInt k).toInt32 = v)
    (kk : X cx z ws lv (pc + 3) (.int v :: st)) : X cx z ws lv pc st := by
  obtain ⟨p, l, e, R, s, m, args, below, meth, c, Inv, G, Q, n⟩ := cx
  obtain ⟨hx, hb, hml, hnn, hown, hts, hK, hI0, hR, hlocks⟩ := C
  intro H locs hI ls hl
  exact lv_sipush hx hb hd hv (kk H locs hI ls hl)

theorem x_ldc (C : XC cx cc Ts own rm nL) {index : Nat} {v : Int32} (hm : Cond.constant own index v ∈ Ts) (hd : decode cc pc = .ok (.ldc index, 2))
    (kk : X cx z ws lv (pc + 2) (.int v :: st)) : X cx z ws lv pc st := by
  obtain ⟨p, l, e, R, s, m, args, below, meth, c, Inv, G, Q, n⟩ := cx
  obtain ⟨hx, hb, hml, hnn, hown, hts, hK, hI0, hR, hlocks⟩ := C
  intro H locs hI ls hl
  exact lv_ldc hx hb hown (hts _ hm) hd (kk H locs hI ls hl)

theorem x_iload_n (C : XC cx cc Ts own rm nL) {k : Fin 4} {i : Nat} (j : Nat) {x : Int32} (hd : decode cc pc = .ok (.iload_n k, 1)) (hi : (k : Nat) = i) (hv : lv[j]? = some (i, .int x))
    (kk : X cx z ws lv (pc + 1) (.int x :: st)) : X cx z ws lv pc st := by
  obtain ⟨p, l, e, R, s, m, args, below, meth, c, Inv, G, Q, n⟩ := cx
  obtain ⟨hx, hb, hml, hnn, hown, hts, hK, hI0, hR, hlocks⟩ := C
  intro H locs hI ls hl
  exact lv_iload_n hx hb hd hi (lv_at hl j hv) (kk H locs hI ls hl)

theorem x_iload (C : XC cx cc Ts own rm nL) {i : Nat} (j : Nat) {x : Int32} (hd : decode cc pc = .ok (.iload i, 2)) (hv : lv[j]? = some (i, .int x))
    (kk : X cx z ws lv (pc + 2) (.int x :: st)) : X cx z ws lv pc st := by
  obtain ⟨p, l, e, R, s, m, args, below, meth, c, Inv, G, Q, n⟩ := cx
  obtain ⟨hx, hb, hml, hnn, hown, hts, hK, hI0, hR, hlocks⟩ := C
  intro H locs hI ls hl
  exact lv_iload hx hb hd (lv_at hl j hv) (kk H locs hI ls hl)

theorem x_aload_n (C : XC cx cc Ts own rm nL) {k : Fin 4} {i : Nat} (j : Nat) {x : Nat} (hd : decode cc pc = .ok (.aload_n k, 1)) (hi : (k : Nat) = i) (hv : lv[j]? = some (i, .ref x))
    (kk : X cx z ws lv (pc + 1) (.ref x :: st)) : X cx z ws lv pc st := by
  obtain ⟨p, l, e, R, s, m, args, below, meth, c, Inv, G, Q, n⟩ := cx
  obtain ⟨hx, hb, hml, hnn, hown, hts, hK, hI0, hR, hlocks⟩ := C
  intro H locs hI ls hl
  exact lv_aload_n hx hb hd hi (lv_at hl j hv) (kk H locs hI ls hl)

theorem x_istore_n (C : XC cx cc Ts own rm nL) {k : Fin 4} {i : Nat} {x : Int32} (lv' : List (Nat × Value)) (hd : decode cc pc = .ok (.istore_n k, 1)) (hi : (k : Nat) = i) (hn : i < nL) (hv : (i, Value.int x) :: lv.filter (fun q => !(q.1 == i) && !(q.1 + 1 == i && q.2.category == 2)) = lv')
    (kk : X cx z ws lv' (pc + 1) st) : X cx z ws lv pc (.int x :: st) := by
  obtain ⟨p, l, e, R, s, m, args, below, meth, c, Inv, G, Q, n⟩ := cx
  obtain ⟨hx, hb, hml, hnn, hown, hts, hK, hI0, hR, hlocks⟩ := C
  intro H locs hI ls hl
  exact lv_istore_n hx hb hd hi hl (by rw [hnn]; exact hn) hv (fun ls' hl' => kk H locs hI ls' hl')

theorem x_istore (C : XC cx cc Ts own rm nL) {i : Nat} {x : Int32} (lv' : List (Nat × Value)) (hd : decode cc pc = .ok (.istore i, 2)) (hn : i < nL) (hv : (i, Value.int x) :: lv.filter (fun q => !(q.1 == i) && !(q.1 + 1 == i && q.2.category == 2)) = lv')
    (kk : X cx z ws lv' (pc + 2) st) : X cx z ws lv pc (.int x :: st) := by
  obtain ⟨p, l, e, R, s, m, args, below, meth, c, Inv, G, Q, n⟩ := cx
  obtain ⟨hx, hb, hml, hnn, hown, hts, hK, hI0, hR, hlocks⟩ := C
  intro H locs hI ls hl
  exact lv_istore hx hb hd hl (by rw [hnn]; exact hn) hv (fun ls' hl' => kk H locs hI ls' hl')

theorem x_astore_n (C : XC cx cc Ts own rm nL) {k : Fin 4} {i : Nat} {x : Nat} (lv' : List (Nat × Value)) (hd : decode cc pc = .ok (.astore_n k, 1)) (hi : (k : Nat) = i) (hn : i < nL) (hv : (i, Value.ref x) :: lv.filter (fun q => !(q.1 == i) && !(q.1 + 1 == i && q.2.category == 2)) = lv')
    (kk : X cx z ws lv' (pc + 1) st) : X cx z ws lv pc (.ref x :: st) := by
  obtain ⟨p, l, e, R, s, m, args, below, meth, c, Inv, G, Q, n⟩ := cx
  obtain ⟨hx, hb, hml, hnn, hown, hts, hK, hI0, hR, hlocks⟩ := C
  intro H locs hI ls hl
  exact lv_astore_n hx hb hd hi hl (by rw [hnn]; exact hn) hv (fun ls' hl' => kk H locs hI ls' hl')

theorem x_astore (C : XC cx cc Ts own rm nL) {i : Nat} {x : Nat} (lv' : List (Nat × Value)) (hd : decode cc pc = .ok (.astore i, 2)) (hn : i < nL) (hv : (i, Value.ref x) :: lv.filter (fun q => !(q.1 == i) && !(q.1 + 1 == i && q.2.category == 2)) = lv')
    (kk : X cx z ws lv' (pc + 2) st) : X cx z ws lv pc (.ref x :: st) := by
  obtain ⟨p, l, e, R, s, m, args, below, meth, c, Inv, G, Q, n⟩ := cx
  obtain ⟨hx, hb, hml, hnn, hown, hts, hK, hI0, hR, hlocks⟩ := C
  intro H locs hI ls hl
  exact lv_astore hx hb hd hl (by rw [hnn]; exact hn) hv (fun ls' hl' => kk H locs hI ls' hl')

theorem x_iinc (C : XC cx cc Ts own rm nL) {i : Nat} (j : Nat) {k : Int} {x v : Int32} (lv' : List (Nat × Value)) (hd : decode cc pc = .ok (.iinc i k, 3)) (hj : lv[j]? = some (i, .int x)) (hx2 : x + Int32.ofInt k = v) (hn : i < nL) (hv : (i, Value.int v) :: lv.filter (fun q => !(q.1 == i) && !(q.1 + 1 == i && q.2.category == 2)) = lv')
    (kk : X cx z ws lv' (pc + 3) st) : X cx z ws lv pc st := by
  obtain ⟨p, l, e, R, s, m, args, below, meth, c, Inv, G, Q, n⟩ := cx
  obtain ⟨hx, hb, hml, hnn, hown, hts, hK, hI0, hR, hlocks⟩ := C
  intro H locs hI ls hl
  exact lv_iinc hx hb hd hl hj hx2 (by rw [hnn]; exact hn) hv (fun ls' hl' => kk H locs hI ls' hl')

theorem x_iadd (C : XC cx cc Ts own rm nL) {x y v : Int32} (hv : x + y = v) (hd : decode cc pc = .ok (.iadd, 1))
    (kk : X cx z ws lv (pc + 1) (.int v :: st)) : X cx z ws lv pc (.int y :: .int x :: st) := by
  obtain ⟨p, l, e, R, s, m, args, below, meth, c, Inv, G, Q, n⟩ := cx
  obtain ⟨hx, hb, hml, hnn, hown, hts, hK, hI0, hR, hlocks⟩ := C
  intro H locs hI ls hl
  subst hv; exact lv_iadd hx hb hd (kk H locs hI ls hl)

theorem x_isub (C : XC cx cc Ts own rm nL) {x y v : Int32} (hv : x - y = v) (hd : decode cc pc = .ok (.isub, 1))
    (kk : X cx z ws lv (pc + 1) (.int v :: st)) : X cx z ws lv pc (.int y :: .int x :: st) := by
  obtain ⟨p, l, e, R, s, m, args, below, meth, c, Inv, G, Q, n⟩ := cx
  obtain ⟨hx, hb, hml, hnn, hown, hts, hK, hI0, hR, hlocks⟩ := C
  intro H locs hI ls hl
  subst hv; exact lv_isub hx hb hd (kk H locs hI ls hl)

theorem x_imul (C : XC cx cc Ts own rm nL) {x y v : Int32} (hv : x * y = v) (hd : decode cc pc = .ok (.imul, 1))
    (kk : X cx z ws lv (pc + 1) (.int v :: st)) : X cx z ws lv pc (.int y :: .int x :: st) := by
  obtain ⟨p, l, e, R, s, m, args, below, meth, c, Inv, G, Q, n⟩ := cx
  obtain ⟨hx, hb, hml, hnn, hown, hts, hK, hI0, hR, hlocks⟩ := C
  intro H locs hI ls hl
  subst hv; exact lv_imul hx hb hd (kk H locs hI ls hl)

theorem x_iand (C : XC cx cc Ts own rm nL) {x y : Int32} (hd : decode cc pc = .ok (.iand, 1))
    (kk : X cx z ws lv (pc + 1) (.int (x &&& y) :: st)) : X cx z ws lv pc (.int y :: .int x :: st) := by
  obtain ⟨p, l, e, R, s, m, args, below, meth, c, Inv, G, Q, n⟩ := cx
  obtain ⟨hx, hb, hml, hnn, hown, hts, hK, hI0, hR, hlocks⟩ := C
  intro H locs hI ls hl
  exact lv_iand hx hb hd (kk H locs hI ls hl)

theorem x_idiv (C : XC cx cc Ts own rm nL) {x y v : Int32} (hv : x / y = v) (hd : decode cc pc = .ok (.idiv, 1)) (hne : ¬ y = 0)
    (kk : X cx z ws lv (pc + 1) (.int v :: st)) : X cx z ws lv pc (.int y :: .int x :: st) := by
  obtain ⟨p, l, e, R, s, m, args, below, meth, c, Inv, G, Q, n⟩ := cx
  obtain ⟨hx, hb, hml, hnn, hown, hts, hK, hI0, hR, hlocks⟩ := C
  intro H locs hI ls hl
  subst hv; exact lv_idiv hx hb hd hne (kk H locs hI ls hl)

theorem x_irem (C : XC cx cc Ts own rm nL) {x y v : Int32} (hv : x - x / y * y = v) (hd : decode cc pc = .ok (.irem, 1)) (hne : ¬ y = 0)
    (kk : X cx z ws lv (pc + 1) (.int v :: st)) : X cx z ws lv pc (.int y :: .int x :: st) := by
  obtain ⟨p, l, e, R, s, m, args, below, meth, c, Inv, G, Q, n⟩ := cx
  obtain ⟨hx, hb, hml, hnn, hown, hts, hK, hI0, hR, hlocks⟩ := C
  intro H locs hI ls hl
  subst hv; exact lv_irem hx hb hd hne (kk H locs hI ls hl)

theorem x_i2c (C : XC cx cc Ts own rm nL) {x v : Int32} (hd : decode cc pc = .ok (.i2c, 1)) (hv : (x.toUInt32 % 65536).toInt32 = v)
    (kk : X cx z ws lv (pc + 1) (.int v :: st)) : X cx z ws lv pc (.int x :: st) := by
  obtain ⟨p, l, e, R, s, m, args, below, meth, c, Inv, G, Q, n⟩ := cx
  obtain ⟨hx, hb, hml, hnn, hown, hts, hK, hI0, hR, hlocks⟩ := C
  intro H locs hI ls hl
  exact lv_i2c hx hb hd hv (kk H locs hI ls hl)

theorem x_dup (C : XC cx cc Ts own rm nL) {a : Value} (hd : decode cc pc = .ok (.dup, 1)) (hc : a.category = 1)
    (kk : X cx z ws lv (pc + 1) (a :: a :: st)) : X cx z ws lv pc (a :: st) := by
  obtain ⟨p, l, e, R, s, m, args, below, meth, c, Inv, G, Q, n⟩ := cx
  obtain ⟨hx, hb, hml, hnn, hown, hts, hK, hI0, hR, hlocks⟩ := C
  intro H locs hI ls hl
  exact lv_dup hx hb hd hc (kk H locs hI ls hl)

theorem x_dup2 (C : XC cx cc Ts own rm nL) {a b : Value} (hd : decode cc pc = .ok (.dup2, 1)) (hc : a.category = 1) (hc2 : b.category = 1)
    (kk : X cx z ws lv (pc + 1) (a :: b :: a :: b :: st)) : X cx z ws lv pc (a :: b :: st) := by
  obtain ⟨p, l, e, R, s, m, args, below, meth, c, Inv, G, Q, n⟩ := cx
  obtain ⟨hx, hb, hml, hnn, hown, hts, hK, hI0, hR, hlocks⟩ := C
  intro H locs hI ls hl
  exact lv_dup2_11 hx hb hd hc hc2 (kk H locs hI ls hl)

theorem x_pop (C : XC cx cc Ts own rm nL) {a : Value} (hd : decode cc pc = .ok (.pop, 1)) (hc : a.category = 1)
    (kk : X cx z ws lv (pc + 1) st) : X cx z ws lv pc (a :: st) := by
  obtain ⟨p, l, e, R, s, m, args, below, meth, c, Inv, G, Q, n⟩ := cx
  obtain ⟨hx, hb, hml, hnn, hown, hts, hK, hI0, hR, hlocks⟩ := C
  intro H locs hI ls hl
  exact lv_pop hx hb hd hc (kk H locs hI ls hl)

theorem x_goto (C : XC cx cc Ts own rm nL) {off : Int} {tgt : Nat} (hd : decode cc pc = .ok (.goto off, 3)) (ht : (pc : Int) + off = (tgt : Int))
    (kk : X cx z ws lv (tgt) st) : X cx z ws lv pc st := by
  obtain ⟨p, l, e, R, s, m, args, below, meth, c, Inv, G, Q, n⟩ := cx
  obtain ⟨hx, hb, hml, hnn, hown, hts, hK, hI0, hR, hlocks⟩ := C
  intro H locs hI ls hl
  exact lv_goto hx hb hd ht (kk H locs hI ls hl)

theorem x_icmp_eq (C : XC cx cc Ts own rm nL) {x y : Int32} {off : Int} (tgt : Nat) (hd : decode cc pc = .ok (.if_icmp .eq off, 3)) (ht : (pc : Int) + off = (tgt : Int))
    (kt : x = y → X cx z ws lv tgt st) (kf : ¬ x = y → X cx z ws lv (pc + 3) st) : X cx z ws lv pc (.int y :: .int x :: st) := by
  obtain ⟨p, l, e, R, s, m, args, below, meth, c, Inv, G, Q, n⟩ := cx
  obtain ⟨hx, hb, hml, hnn, hown, hts, hK, hI0, hR, hlocks⟩ := C
  intro H locs hI ls hl
  exact lv_icmp_eq hx hb hd ht (fun h => kt h H locs hI ls hl) (fun h => kf h H locs hI ls hl)

theorem x_if_eq (C : XC cx cc Ts own rm nL) {x : Int32} {off : Int} (tgt : Nat) (hd : decode cc pc = .ok (.ifCond .eq off, 3)) (ht : (pc : Int) + off = (tgt : Int))
    (kt : x = 0 → X cx z ws lv tgt st) (kf : ¬ x = 0 → X cx z ws lv (pc + 3) st) : X cx z ws lv pc (.int x :: st) := by
  obtain ⟨p, l, e, R, s, m, args, below, meth, c, Inv, G, Q, n⟩ := cx
  obtain ⟨hx, hb, hml, hnn, hown, hts, hK, hI0, hR, hlocks⟩ := C
  intro H locs hI ls hl
  exact lv_if_eq hx hb hd ht (fun h => kt h H locs hI ls hl) (fun h => kf h H locs hI ls hl)

theorem x_icmp_ne (C : XC cx cc Ts own rm nL) {x y : Int32} {off : Int} (tgt : Nat) (hd : decode cc pc = .ok (.if_icmp .ne off, 3)) (ht : (pc : Int) + off = (tgt : Int))
    (kt : ¬ x = y → X cx z ws lv tgt st) (kf : x = y → X cx z ws lv (pc + 3) st) : X cx z ws lv pc (.int y :: .int x :: st) := by
  obtain ⟨p, l, e, R, s, m, args, below, meth, c, Inv, G, Q, n⟩ := cx
  obtain ⟨hx, hb, hml, hnn, hown, hts, hK, hI0, hR, hlocks⟩ := C
  intro H locs hI ls hl
  exact lv_icmp_ne hx hb hd ht (fun h => kt h H locs hI ls hl) (fun h => kf h H locs hI ls hl)

theorem x_if_ne (C : XC cx cc Ts own rm nL) {x : Int32} {off : Int} (tgt : Nat) (hd : decode cc pc = .ok (.ifCond .ne off, 3)) (ht : (pc : Int) + off = (tgt : Int))
    (kt : ¬ x = 0 → X cx z ws lv tgt st) (kf : x = 0 → X cx z ws lv (pc + 3) st) : X cx z ws lv pc (.int x :: st) := by
  obtain ⟨p, l, e, R, s, m, args, below, meth, c, Inv, G, Q, n⟩ := cx
  obtain ⟨hx, hb, hml, hnn, hown, hts, hK, hI0, hR, hlocks⟩ := C
  intro H locs hI ls hl
  exact lv_if_ne hx hb hd ht (fun h => kt h H locs hI ls hl) (fun h => kf h H locs hI ls hl)

theorem x_icmp_lt (C : XC cx cc Ts own rm nL) {x y : Int32} {off : Int} (tgt : Nat) (hd : decode cc pc = .ok (.if_icmp .lt off, 3)) (ht : (pc : Int) + off = (tgt : Int))
    (kt : x < y → X cx z ws lv tgt st) (kf : ¬ x < y → X cx z ws lv (pc + 3) st) : X cx z ws lv pc (.int y :: .int x :: st) := by
  obtain ⟨p, l, e, R, s, m, args, below, meth, c, Inv, G, Q, n⟩ := cx
  obtain ⟨hx, hb, hml, hnn, hown, hts, hK, hI0, hR, hlocks⟩ := C
  intro H locs hI ls hl
  exact lv_icmp_lt hx hb hd ht (fun h => kt h H locs hI ls hl) (fun h => kf h H locs hI ls hl)

theorem x_if_lt (C : XC cx cc Ts own rm nL) {x : Int32} {off : Int} (tgt : Nat) (hd : decode cc pc = .ok (.ifCond .lt off, 3)) (ht : (pc : Int) + off = (tgt : Int))
    (kt : x < 0 → X cx z ws lv tgt st) (kf : ¬ x < 0 → X cx z ws lv (pc + 3) st) : X cx z ws lv pc (.int x :: st) := by
  obtain ⟨p, l, e, R, s, m, args, below, meth, c, Inv, G, Q, n⟩ := cx
  obtain ⟨hx, hb, hml, hnn, hown, hts, hK, hI0, hR, hlocks⟩ := C
  intro H locs hI ls hl
  exact lv_if_lt hx hb hd ht (fun h => kt h H locs hI ls hl) (fun h => kf h H locs hI ls hl)

theorem x_icmp_ge (C : XC cx cc Ts own rm nL) {x y : Int32} {off : Int} (tgt : Nat) (hd : decode cc pc = .ok (.if_icmp .ge off, 3)) (ht : (pc : Int) + off = (tgt : Int))
    (kt : y ≤ x → X cx z ws lv tgt st) (kf : ¬ y ≤ x → X cx z ws lv (pc + 3) st) : X cx z ws lv pc (.int y :: .int x :: st) := by
  obtain ⟨p, l, e, R, s, m, args, below, meth, c, Inv, G, Q, n⟩ := cx
  obtain ⟨hx, hb, hml, hnn, hown, hts, hK, hI0, hR, hlocks⟩ := C
  intro H locs hI ls hl
  exact lv_icmp_ge hx hb hd ht (fun h => kt h H locs hI ls hl) (fun h => kf h H locs hI ls hl)

theorem x_if_ge (C : XC cx cc Ts own rm nL) {x : Int32} {off : Int} (tgt : Nat) (hd : decode cc pc = .ok (.ifCond .ge off, 3)) (ht : (pc : Int) + off = (tgt : Int))
    (kt : 0 ≤ x → X cx z ws lv tgt st) (kf : ¬ 0 ≤ x → X cx z ws lv (pc + 3) st) : X cx z ws lv pc (.int x :: st) := by
  obtain ⟨p, l, e, R, s, m, args, below, meth, c, Inv, G, Q, n⟩ := cx
  obtain ⟨hx, hb, hml, hnn, hown, hts, hK, hI0, hR, hlocks⟩ := C
  intro H locs hI ls hl
  exact lv_if_ge hx hb hd ht (fun h => kt h H locs hI ls hl) (fun h => kf h H locs hI ls hl)

theorem x_icmp_gt (C : XC cx cc Ts own rm nL) {x y : Int32} {off : Int} (tgt : Nat) (hd : decode cc pc = .ok (.if_icmp .gt off, 3)) (ht : (pc : Int) + off = (tgt : Int))
    (kt : y < x → X cx z ws lv tgt st) (kf : ¬ y < x → X cx z ws lv (pc + 3) st) : X cx z ws lv pc (.int y :: .int x :: st) := by
  obtain ⟨p, l, e, R, s, m, args, below, meth, c, Inv, G, Q, n⟩ := cx
  obtain ⟨hx, hb, hml, hnn, hown, hts, hK, hI0, hR, hlocks⟩ := C
  intro H locs hI ls hl
  exact lv_icmp_gt hx hb hd ht (fun h => kt h H locs hI ls hl) (fun h => kf h H locs hI ls hl)

theorem x_if_gt (C : XC cx cc Ts own rm nL) {x : Int32} {off : Int} (tgt : Nat) (hd : decode cc pc = .ok (.ifCond .gt off, 3)) (ht : (pc : Int) + off = (tgt : Int))
    (kt : 0 < x → X cx z ws lv tgt st) (kf : ¬ 0 < x → X cx z ws lv (pc + 3) st) : X cx z ws lv pc (.int x :: st) := by
  obtain ⟨p, l, e, R, s, m, args, below, meth, c, Inv, G, Q, n⟩ := cx
  obtain ⟨hx, hb, hml, hnn, hown, hts, hK, hI0, hR, hlocks⟩ := C
  intro H locs hI ls hl
  exact lv_if_gt hx hb hd ht (fun h => kt h H locs hI ls hl) (fun h => kf h H locs hI ls hl)

theorem x_icmp_le (C : XC cx cc Ts own rm nL) {x y : Int32} {off : Int} (tgt : Nat) (hd : decode cc pc = .ok (.if_icmp .le off, 3)) (ht : (pc : Int) + off = (tgt : Int))
    (kt : x ≤ y → X cx z ws lv tgt st) (kf : ¬ x ≤ y → X cx z ws lv (pc + 3) st) : X cx z ws lv pc (.int y :: .int x :: st) := by
  obtain ⟨p, l, e, R, s, m, args, below, meth, c, Inv, G, Q, n⟩ := cx
  obtain ⟨hx, hb, hml, hnn, hown, hts, hK, hI0, hR, hlocks⟩ := C
  intro H locs hI ls hl
  exact lv_icmp_le hx hb hd ht (fun h => kt h H locs hI ls hl) (fun h => kf h H locs hI ls hl)

theorem x_if_le (C : XC cx cc Ts own rm nL) {x : Int32} {off : Int} (tgt : Nat) (hd : decode cc pc = .ok (.ifCond .le off, 3)) (ht : (pc : Int) + off = (tgt : Int))
    (kt : x ≤ 0 → X cx z ws lv tgt st) (kf : ¬ x ≤ 0 → X cx z ws lv (pc + 3) st) : X cx z ws lv pc (.int x :: st) := by
  obtain ⟨p, l, e, R, s, m, args, below, meth, c, Inv, G, Q, n⟩ := cx
  obtain ⟨hx, hb, hml, hnn, hown, hts, hK, hI0, hR, hlocks⟩ := C
  intro H locs hI ls hl
  exact lv_if_le hx hb hd ht (fun h => kt h H locs hI ls hl) (fun h => kf h H locs hI ls hl)

theorem x_ifb_eq (C : XC cx cc Ts own rm nL) {P : Prop} [Decidable P] {off : Int} (tgt : Nat) (hd : decode cc pc = .ok (.ifCond .eq off, 3)) (ht : (pc : Int) + off = (tgt : Int))
    (kt : ¬ P → X cx z ws lv tgt st) (kf : P → X cx z ws lv (pc + 3) st) : X cx z ws lv pc (.int (b2i P) :: st) := by
  obtain ⟨p, l, e, R, s, m, args, below, meth, c, Inv, G, Q, n⟩ := cx
  obtain ⟨hx, hb, hml, hnn, hown, hts, hK, hI0, hR, hlocks⟩ := C
  intro H locs hI ls hl
  exact lv_if_eq (x := b2i P) hx hb hd ht (fun h => kt (b2i_e0.mp h) H locs hI ls hl) (fun h => kf (Classical.not_not.mp (fun q => h (b2i_e0.mpr q))) H locs hI ls hl)

theorem x_ifb_ne (C : XC cx cc Ts own rm nL) {P : Prop} [Decidable P] {off : Int} (tgt : Nat) (hd : decode cc pc = .ok (.ifCond .ne off, 3)) (ht : (pc : Int) + off = (tgt : Int))
    (kt : P → X cx z ws lv tgt st) (kf : ¬ P → X cx z ws lv (pc + 3) st) : X cx z ws lv pc (.int (b2i P) :: st) := by
  obtain ⟨p, l, e, R, s, m, args, below, meth, c, Inv, G, Q, n⟩ := cx
  obtain ⟨hx, hb, hml, hnn, hown, hts, hK, hI0, hR, hlocks⟩ := C
  intro H locs hI ls hl
  exact lv_if_ne (x := b2i P) hx hb hd ht (fun h => kt (Classical.not_not.mp (fun q => h (b2i_e0.mpr q))) H locs hI ls hl) (fun h => kf (b2i_e0.mp h) H locs hI ls hl)

theorem x_getf (C : XC cx cc Ts own rm nL) {a ci : Nat} {fs : List Value} (q0 : Nat) (he : ws[q0]? = some (a, .inr (ci, fs))) {Cn : String} {T : u_T} {N : Nat} (hc : vwCl[ci]? = some (Cn, T, N)) (hin : ∀ w ∈ u_ws Cn T N, w ∈ Ts) (k : Nat) (hk : k < N) {ref : String} {index : Nat} (hlk : Cond.fieldLink own index ref (T k).2.1 (T k).2.2.1 ∈ Ts) (hsame : (T k).1 = ref) {v : Value} (hv : fs[k]? = some v) (hd : decode cc pc = .ok (.getfield index, 3))
    (kk : X cx z ws lv (pc + 3) (v :: st)) : X cx z ws lv pc (.ref a :: st) := by
  obtain ⟨p, l, e, R, s, m, args, below, meth, c, Inv, G, Q, n⟩ := cx
  obtain ⟨hx, hb, hml, hnn, hown, hts, hK, hI0, hR, hlocks⟩ := C
  intro H locs hI ls hl
  exact va_get hx hb hts hin hown hK.1 (hI0 _ _ _ hI).1 q0 he hc k hk (hts _ hlk) (fun x h => by rw [← hsame]; exact h) hv hd (kk H locs hI ls hl)

theorem x_putf (C : XC cx cc Ts own rm nL) (M : XM cx) {a ci : Nat} {fs : List Value} (q0 : Nat) (he : ws[q0]? = some (a, .inr (ci, fs))) {Cn : String} {T : u_T} {N : Nat} (hc : vwCl[ci]? = some (Cn, T, N)) (hin : ∀ w ∈ u_ws Cn T N, w ∈ Ts) (k : Nat) (hk : k < N) {ref : String} {index : Nat} (hlk : Cond.fieldLink own index ref (T k).2.1 (T k).2.2.1 ∈ Ts) (hsame : (T k).1 = ref) (hfin : (T k).2.2.2 = false) (ty0 : Nat → FieldType) (hty : ∀ k, k < N → parseFieldDescriptor (T k).2.2.1 = some (ty0 k)) (hnm : ∀ a, a < N → ∀ b, b < N → a ≠ b → (T a).2.1 ≠ (T b).2.1) {ty : FieldType} {v : Value} (hde : parseFieldDescriptor (T k).2.2.1 = some ty) (hn : narrow ty v = v) (hfit : fits ty v = true) (hlen : k < fs.length) (ws' : va_W) (hw : ws.set q0 (a, .inr (ci, fs.set k v)) = ws') (hd : decode cc pc = .ok (.putfield index, 3))
    (kk : X cx z ws' lv (pc + 3) st) : X cx z ws lv pc (v :: .ref a :: st) := by
  obtain ⟨p, l, e, R, s, m, args, below, meth, c, Inv, G, Q, n⟩ := cx
  obtain ⟨hx, hb, hml, hnn, hown, hts, hK, hI0, hR, hlocks⟩ := C
  obtain ⟨A, hA⟩ := M
  intro H locs hI ls hl
  subst hw
  obtain ⟨hP, hD, hS⟩ := (hA _ _ _).mp hI
  exact va_put hx hb hts hin ty0 hty hnm hown hK.1 hP hD hS q0 he hc k hk (hts _ hlk) (fun x h => by rw [← hsame]; exact h) hfin hde hn hfit hlen hd (fun H1 locs1 h1 h2 h3 => kk H1 locs1 ((hA _ _ _).mpr ⟨h1, h2, h3⟩) ls hl)

theorem x_iald (C : XC cx cc Ts own rm nL) {a cA n0 : Nat} {f : Nat → Int32} (q0 : Nat) (ha : ws[q0]? = some (a, .inl (cA, n0, .inl f))) (hc : cA = (xG cx).2.1) {i : Int32} (hin : vp_in i n0) {v : Int32} (hv : f i.toNatClampNeg = v) (hd : decode cc pc = .ok (.iaload, 1))
    (kk : X cx z ws lv (pc + 1) (.int v :: st)) : X cx z ws lv pc (.int i :: .ref a :: st) := by
  obtain ⟨p, l, e, R, s, m, args, below, meth, c, Inv, G, Q, n⟩ := cx
  obtain ⟨hx, hb, hml, hnn, hown, hts, hK, hI0, hR, hlocks⟩ := C
  intro H locs hI ls hl
  subst hc; subst hv; exact va_iald hx hb hK.1 (hI0 _ _ _ hI).1 q0 0 ha rfl hin hd (kk H locs hI ls hl)

theorem x_cald (C : XC cx cc Ts own rm nL) {a cA n0 : Nat} {f : Nat → Int32} (q0 : Nat) (ha : ws[q0]? = some (a, .inl (cA, n0, .inl f))) (hc : cA = (xG cx).2.2.1) {i : Int32} (hin : vp_in i n0) {v : Int32} (hv : f i.toNatClampNeg = v) (hd : decode cc pc = .ok (.caload, 1))
    (kk : X cx z ws lv (pc + 1) (.int v :: st)) : X cx z ws lv pc (.int i :: .ref a :: st) := by
  obtain ⟨p, l, e, R, s, m, args, below, meth, c, Inv, G, Q, n⟩ := cx
  obtain ⟨hx, hb, hml, hnn, hown, hts, hK, hI0, hR, hlocks⟩ := C
  intro H locs hI ls hl
  subst hc; subst hv; exact va_cald hx hb hK.1 (hI0 _ _ _ hI).1 q0 1 ha rfl hin hd (kk H locs hI ls hl)

theorem x_alen (C : XC cx cc Ts own rm nL) {a cA n0 : Nat} {f : Nat → Int32} (q0 : Nat) (ha : ws[q0]? = some (a, .inl (cA, n0, .inl f))) (hc : cA = (xG cx).2.1) {v : Int32} (hv : nI n0 = v) (hd : decode cc pc = .ok (.arraylength, 1))
    (kk : X cx z ws lv (pc + 1) (.int v :: st)) : X cx z ws lv pc (.ref a :: st) := by
  obtain ⟨p, l, e, R, s, m, args, below, meth, c, Inv, G, Q, n⟩ := cx
  obtain ⟨hx, hb, hml, hnn, hown, hts, hK, hI0, hR, hlocks⟩ := C
  intro H locs hI ls hl
  subst hc; subst hv; exact va_alen hx hb hK.1 (hI0 _ _ _ hI).1 q0 0 ha rfl rfl hd (kk H locs hI ls hl)

theorem x_iast (C : XC cx cc Ts own rm nL) (M : XM cx) {a cA n0 : Nat} {f : Nat → Int32} (q0 : Nat) (ha : ws[q0]? = some (a, .inl (cA, n0, .inl f))) (hc : cA = (xG cx).2.1) {i x : Int32} (hin : vp_in i n0) {j : Nat} (hj : i.toNatClampNeg = j) (ws' : va_W) (hw : ws.set q0 (a, .inl (cA, n0, .inl (upd f j x))) = ws') (hd : decode cc pc = .ok (.iastore, 1))
    (kk : X cx z ws' lv (pc + 1) st) : X cx z ws lv pc (.int x :: .int i :: .ref a :: st) := by
  obtain ⟨p, l, e, R, s, m, args, below, meth, c, Inv, G, Q, n⟩ := cx
  obtain ⟨hx, hb, hml, hnn, hown, hts, hK, hI0, hR, hlocks⟩ := C
  obtain ⟨A, hA⟩ := M
  intro H locs hI ls hl
  subst hj
  subst hw
  subst hc
  obtain ⟨hP, hD, hS⟩ := (hA _ _ _).mp hI
  exact va_iast hx hb hK.1 hP hD hS q0 0 ha rfl hin hd (fun H1 locs1 h1 h2 h3 => kk H1 locs1 ((hA _ _ _).mpr ⟨h1, h2, h3⟩) ls hl)

theorem x_cast (C : XC cx cc Ts own rm nL) (M : XM cx) {a cA n0 : Nat} {f : Nat → Int32} (q0 : Nat) (ha : ws[q0]? = some (a, .inl (cA, n0, .inl f))) (hc : cA = (xG cx).2.2.1) {i x : Int32} (hin : vp_in i n0) {j : Nat} (hj : i.toNatClampNeg = j) (ws' : va_W) (hw : ws.set q0 (a, .inl (cA, n0, .inl (upd f j (vp_nar .char x)))) = ws') (hd : decode cc pc = .ok (.castore, 1))
    (kk : X cx z ws' lv (pc + 1) st) : X cx z ws lv pc (.int x :: .int i :: .ref a :: st) := by
  obtain ⟨p, l, e, R, s, m, args, below, meth, c, Inv, G, Q, n⟩ := cx
  obtain ⟨hx, hb, hml, hnn, hown, hts, hK, hI0, hR, hlocks⟩ := C
  obtain ⟨A, hA⟩ := M
  intro H locs hI ls hl
  subst hj
  subst hw
  subst hc
  obtain ⟨hP, hD, hS⟩ := (hA _ _ _).mp hI
  exact va_cast hx hb hK.1 hP hD hS q0 1 ha rfl hin hd (fun H1 locs1 h1 h2 h3 => kk H1 locs1 ((hA _ _ _).mpr ⟨h1, h2, h3⟩) ls hl)

theorem x_mmax (C : XC cx cc Ts own rm nL) {index : Nat} {x y : Int32} (m1 : Cond.methodLink own index Lib.Math.max.name ∈ Ts) (m2 : Cond.static Lib.Math.max.name ∈ Ts) (m3 : Cond.initialized "java/lang/Math" ∈ Ts) (m4 : Cond.code Lib.Math.max.name Lib.Math.max.code 2 (some .int) ∈ Ts) (hf : 1 ≤ rm.frames ∧ (st.map fun v => v.category).sum + 13 ≤ rm.locals ∧ z.1 ≤ rm.cells ∧ z.2 ≤ rm.slots) (hd : decode cc pc = .ok (.invokestatic index, 3))
    (kk : X cx z ws lv (pc + 3) (.int (if x < y then y else x) :: st)) : X cx z ws lv pc (.int y :: .int x :: st) := by
  obtain ⟨p, l, e, R, s, m, args, below, meth, c, Inv, G, Q, n⟩ := cx
  obtain ⟨hx, hb, hml, hnn, hown, hts, hK, hI0, hR, hlocks⟩ := C
  intro H locs hI ls hl
  subst hR; exact va_mmax hx hb (hml.trans hl.1.symm) hown (hts _ m1) (hts _ m2) (hts _ m3) (hts _ m4) hf.1 hf.2.1 hf.2.2.1 hf.2.2.2 hd (kk H locs hI ls hl)

theorem x_mmin (C : XC cx cc Ts own rm nL) {index : Nat} {x y : Int32} (m1 : Cond.methodLink own index Lib.Math.min.name ∈ Ts) (m2 : Cond.static Lib.Math.min.name ∈ Ts) (m3 : Cond.initialized "java/lang/Math" ∈ Ts) (m4 : Cond.code Lib.Math.min.name Lib.Math.min.code 2 (some .int) ∈ Ts) (hf : 1 ≤ rm.frames ∧ (st.map fun v => v.category).sum + 13 ≤ rm.locals ∧ z.1 ≤ rm.cells ∧ z.2 ≤ rm.slots) (hd : decode cc pc = .ok (.invokestatic index, 3))
    (kk : X cx z ws lv (pc + 3) (.int (if y < x then y else x) :: st)) : X cx z ws lv pc (.int y :: .int x :: st) := by
  obtain ⟨p, l, e, R, s, m, args, below, meth, c, Inv, G, Q, n⟩ := cx
  obtain ⟨hx, hb, hml, hnn, hown, hts, hK, hI0, hR, hlocks⟩ := C
  intro H locs hI ls hl
  subst hR; exact va_mmin hx hb (hml.trans hl.1.symm) hown (hts _ m1) (hts _ m2) (hts _ m3) (hts _ m4) hf.1 hf.2.1 hf.2.2.1 hf.2.2.2 hd (kk H locs hI ls hl)

theorem x_callVRO (C : XC cx cc Ts own rm nL) {y : MethodName} {rmy : Room} (As rest : List Value) {wc : va_W} (isC : List Nat) {v : Value} {Cn : String} {T : u_T} {N b ci k0 : Nat} {fs : List Value} {index : Nat} {maxL : Nat} {ret : Option FieldType} {bytes : ByteArray} {wsy ws2 : List Cond} (hg : GoodIn Ts (wsV own index Cn y wsy)) (hw : wsy = Cond.code y bytes maxL ret :: ws2) (hy : y.cls = Cn ∧ y.cls ≠ "java/lang/invoke/MethodHandle" ∧ y.cls ≠ "java/lang/invoke/VarHandle" ∧ (parseMethodDescriptor y.desc).map (fun d => d.parameters.length) = some As.length) (he : wc[k0]? = some (b, .inr (ci, fs))) (hc : vwCl[ci]? = some (Cn, T, N)) (hM : RO (xl cx) (xG cx) y wsy rmy (.ref b :: As) wc v) (hcut : isC.map (fun i => ws[i]?) = wc.map some) (hnd : va_nd isC = true) (hst : st = As.reverse ++ .ref b :: rest) (hrc : rmy.cells = 0) (hrs : rmy.slots = 0) (hroom : rmy.frames + 1 ≤ rm.frames ∧ 8 + (maxL + 11) + rmy.locals ≤ rm.locals) (hcat : (rest.map fun v => v.category).sum ≤ 8) (hz : z.1 ≤ rm.cells ∧ z.2 ≤ rm.slots) (hd : decode cc pc = .ok (.invokevirtual index, 3))
    (kk : X cx z ws lv (pc + 3) (v :: rest)) : X cx z ws lv pc st := by
  obtain ⟨p, l, e, R, s, m, args, below, meth, c, Inv, G, Q, n⟩ := cx
  obtain ⟨hx, hb, hml, hnn, hown, hts, hK, hI0, hR, hlocks⟩ := C
  intro H locs hI ls hl
  subst hst
  subst hR
  have hP0 := hI0 _ _ _ hI
  have hPc : va_P G.1 vwCl wc H := cut_P hP0.1 isC hcut
  have hDc : va_D (fun _ => True) wc := hP0.2.sub isC hnd hcut
  intro T hT X0
  have hr := va_runV (As := As) (rest := rest) ⟨hx, hb, hml, hown, hts⟩ hM (cwV As.length hts hg hw hrc hrs hy hroom) ⟨CPc_blind _ _ _, va_recv hK.1 hPc hc he, fun U hU hW => ⟨rfl, by rw [hU]; exact hPc, hDc, hK.warm hW⟩⟩ (H := H) (locs := locs) (cells := z.1) (slots := z.2) (g := F0 m pc ls (As.reverse ++ .ref b :: rest)) (e := e) (below := below) (meth := meth) rfl rfl hl.1 rfl (lv_room hcat) hd ⟨hz.1, hz.2⟩
  obtain ⟨v0, st₀, t, T', L, h0, X', hL, e1, e2, hq, stp⟩ := hr T hT X0
  obtain ⟨hv, hh⟩ := hq
  cases hv
  obtain ⟨t2, a1, b1⟩ := kk H locs hI ls hl T' (by rw [e1, hh, h0]) (Stand.forget X' (fun q h => (hL q h).elim))
  exact ⟨t2, stp t2 a1, b1⟩

theorem x_callVMU (C : XC cx cc Ts own rm nL) {y : MethodName} {rmy : Room} (As rest : List Value) {wc : va_W} (isC : List Nat) {r : Option Value} {wc' : va_W} (ws' : va_W) (oth : List Nat) (ho1 : ws'.map (fun q => q.1) = ws.map (fun q => q.1)) (ho2 : oth.map (fun i => ws'[i]?) = oth.map (fun i => ws[i]?)) (ho3 : (List.range ws.length).all (fun i => isC.contains i || oth.contains i) = true) (ho4 : isC.map (fun i => ws'[i]?) = wc'.map some) {Cn : String} {T : u_T} {N b ci k0 : Nat} {fs : List Value} {index : Nat} {maxL : Nat} {ret : Option FieldType} {bytes : ByteArray} {wsy ws2 : List Cond} (hg : GoodIn Ts (wsV own index Cn y wsy)) (hw : wsy = Cond.code y bytes maxL ret :: ws2) (hy : y.cls = Cn ∧ y.cls ≠ "java/lang/invoke/MethodHandle" ∧ y.cls ≠ "java/lang/invoke/VarHandle" ∧ (parseMethodDescriptor y.desc).map (fun d => d.parameters.length) = some As.length) (he : wc[k0]? = some (b, .inr (ci, fs))) (hc : vwCl[ci]? = some (Cn, T, N)) (M : XM cx) (hM : MU (xl cx) (xG cx) y wsy rmy (.ref b :: As) wc r wc') (hcut : isC.map (fun i => ws[i]?) = wc.map some) (hnd : va_nd isC = true) (hst : st = As.reverse ++ .ref b :: rest) (hrc : rmy.cells = 0) (hrs : rmy.slots = 0) (hroom : rmy.frames + 1 ≤ rm.frames ∧ 8 + (maxL + 11) + rmy.locals ≤ rm.locals) (hcat : (rest.map fun v => v.category).sum ≤ 8) (hz : z.1 ≤ rm.cells ∧ z.2 ≤ rm.slots) (hd : decode cc pc = .ok (.invokevirtual index, 3))
    (kk : X cx z ws' lv (pc + 3) (r.toList ++ rest)) : X cx z ws lv pc st := by
  obtain ⟨p, l, e, R, s, m, args, below, meth, c, Inv, G, Q, n⟩ := cx
  obtain ⟨hx, hb, hml, hnn, hown, hts, hK, hI0, hR, hlocks⟩ := C
  intro H locs hI ls hl
  subst hst
  subst hR
  have hP0 := hI0 _ _ _ hI
  have hPc : va_P G.1 vwCl wc H := cut_P hP0.1 isC hcut
  have hDc : va_D (fun _ => True) wc := hP0.2.sub isC hnd hcut
  intro T hT X0
  have hr := va_runV (As := As) (rest := rest) ⟨hx, hb, hml, hown, hts⟩ hM (cwV As.length hts hg hw hrc hrs hy hroom) ⟨CPc_blind _ _ _, va_recv hK.1 hPc hc he, fun U hU hW => ⟨rfl, by rw [hU]; exact hPc, hDc, hK.warm hW⟩⟩ (H := H) (locs := locs) (cells := z.1) (slots := z.2) (g := F0 m pc ls (As.reverse ++ .ref b :: rest)) (e := e) (below := below) (meth := meth) rfl rfl hl.1 rfl (lv_room hcat) hd ⟨hz.1, hz.2⟩
  obtain ⟨v0, st₀, t, T', L, h0, X', hL, e1, e2, hq, stp⟩ := hr T hT X0
  obtain ⟨hv, hP1, hF1⟩ := hq
  cases hv
  obtain ⟨A, hA⟩ := M
  obtain ⟨hP, hD, hS⟩ := (hA _ _ _).mp hI
  have hfA : ∀ q, aw wc q → A q := aw_in hD isC hcut
  have hF2 : H.size ≤ t.heap.size ∧ ∀ q : Nat, q < H.size → ¬ aw wc q → t.heap[q]? = H[q]? := by rw [← h0]; exact hF1
  have hS' : va_S A s.heap t.heap (locs ++ L) := ⟨Nat.le_trans hS.1 hF2.1, fun q h1 h2 => by rw [hF2.2 q (Nat.lt_of_lt_of_le h1 hS.1) (fun z => h2 (hfA q z))]; exact hS.2.1 q h1 h2, fun q hq => by
    rcases List.mem_append.mp hq with h | h
    · exact hS.2.2 q h
    · exact hfA _ (hL q h)⟩
  obtain ⟨t2, a1, b1⟩ := kk t.heap (locs ++ L) ((hA _ _ _).mpr ⟨back_P hP hD isC oth hcut ho1 ho2 ho3 ho4 hF2 hP1, back_D hD ho1, hS'⟩) ls hl T' e1 X'
  exact ⟨t2, stp t2 a1, b1⟩

theorem x_callSRO (C : XC cx cc Ts own rm nL) {y : MethodName} {rmy : Room} (As rest : List Value) {wc : va_W} (isC : List Nat) {v : Value} {index : Nat} {maxL : Nat} {ret : Option FieldType} {bytes : ByteArray} {wsy ws2 : List Cond} (hg : GoodIn Ts (va_wsS own index y wsy)) (hw : wsy = Cond.code y bytes maxL ret :: ws2) (hy : y.cls ≠ "java/lang/invoke/MethodHandle" ∧ y.cls ≠ "java/lang/invoke/VarHandle" ∧ (parseMethodDescriptor y.desc).map (fun d => d.parameters.length) = some As.length) (hM : RO (xl cx) (xG cx) y wsy rmy (As) wc v) (hcut : isC.map (fun i => ws[i]?) = wc.map some) (hnd : va_nd isC = true) (hst : st = As.reverse ++ rest) (hrc : rmy.cells = 0) (hrs : rmy.slots = 0) (hroom : rmy.frames + 1 ≤ rm.frames ∧ 8 + (maxL + 11) + rmy.locals ≤ rm.locals) (hcat : (rest.map fun v => v.category).sum ≤ 8) (hz : z.1 ≤ rm.cells ∧ z.2 ≤ rm.slots) (hd : decode cc pc = .ok (.invokestatic index, 3))
    (kk : X cx z ws lv (pc + 3) (v :: rest)) : X cx z ws lv pc st := by
  obtain ⟨p, l, e, R, s, m, args, below, meth, c, Inv, G, Q, n⟩ := cx
  obtain ⟨hx, hb, hml, hnn, hown, hts, hK, hI0, hR, hlocks⟩ := C
  intro H locs hI ls hl
  subst hst
  subst hR
  have hP0 := hI0 _ _ _ hI
  have hPc : va_P G.1 vwCl wc H := cut_P hP0.1 isC hcut
  have hDc : va_D (fun _ => True) wc := hP0.2.sub isC hnd hcut
  intro T hT X0
  have hr := va_runS (As := As) (rest := rest) ⟨hx, hb, hml, hown, hts⟩ hM (va_cwS As.length hts hg hw hrc hrs hy hroom) ⟨CPc_blind _ _ _, fun U hU hW => ⟨rfl, by rw [hU]; exact hPc, hDc, hK.warm hW⟩⟩ (H := H) (locs := locs) (cells := z.1) (slots := z.2) (g := F0 m pc ls (As.reverse ++ rest)) (e := e) (below := below) (meth := meth) rfl rfl hl.1 rfl (lv_room hcat) hd ⟨hz.1, hz.2⟩
  obtain ⟨v0, st₀, t, T', L, h0, X', hL, e1, e2, hq, stp⟩ := hr T hT X0
  obtain ⟨hv, hh⟩ := hq
  cases hv
  obtain ⟨t2, a1, b1⟩ := kk H locs hI ls hl T' (by rw [e1, hh, h0]) (Stand.forget X' (fun q h => (hL q h).elim))
  exact ⟨t2, stp t2 a1, b1⟩

theorem x_callSMU (C : XC cx cc Ts own rm nL) {y : MethodName} {rmy : Room} (As rest : List Value) {wc : va_W} (isC : List Nat) {r : Option Value} {wc' : va_W} (ws' : va_W) (oth : List Nat) (ho1 : ws'.map (fun q => q.1) = ws.map (fun q => q.1)) (ho2 : oth.map (fun i => ws'[i]?) = oth.map (fun i => ws[i]?)) (ho3 : (List.range ws.length).all (fun i => isC.contains i || oth.contains i) = true) (ho4 : isC.map (fun i => ws'[i]?) = wc'.map some) {index : Nat} {maxL : Nat} {ret : Option FieldType} {bytes : ByteArray} {wsy ws2 : List Cond} (hg : GoodIn Ts (va_wsS own index y wsy)) (hw : wsy = Cond.code y bytes maxL ret :: ws2) (hy : y.cls ≠ "java/lang/invoke/MethodHandle" ∧ y.cls ≠ "java/lang/invoke/VarHandle" ∧ (parseMethodDescriptor y.desc).map (fun d => d.parameters.length) = some As.length) (M : XM cx) (hM : MU (xl cx) (xG cx) y wsy rmy (As) wc r wc') (hcut : isC.map (fun i => ws[i]?) = wc.map some) (hnd : va_nd isC = true) (hst : st = As.reverse ++ rest) (hrc : rmy.cells = 0) (hrs : rmy.slots = 0) (hroom : rmy.frames + 1 ≤ rm.frames ∧ 8 + (maxL + 11) + rmy.locals ≤ rm.locals) (hcat : (rest.map fun v => v.category).sum ≤ 8) (hz : z.1 ≤ rm.cells ∧ z.2 ≤ rm.slots) (hd : decode cc pc = .ok (.invokestatic index, 3))
    (kk : X cx z ws' lv (pc + 3) (r.toList ++ rest)) : X cx z ws lv pc st := by
  obtain ⟨p, l, e, R, s, m, args, below, meth, c, Inv, G, Q, n⟩ := cx
  obtain ⟨hx, hb, hml, hnn, hown, hts, hK, hI0, hR, hlocks⟩ := C
  intro H locs hI ls hl
  subst hst
  subst hR
  have hP0 := hI0 _ _ _ hI
  have hPc : va_P G.1 vwCl wc H := cut_P hP0.1 isC hcut
  have hDc : va_D (fun _ => True) wc := hP0.2.sub isC hnd hcut
  intro T hT X0
  have hr := va_runS (As := As) (rest := rest) ⟨hx, hb, hml, hown, hts⟩ hM (va_cwS As.length hts hg hw hrc hrs hy hroom) ⟨CPc_blind _ _ _, fun U hU hW => ⟨rfl, by rw [hU]; exact hPc, hDc, hK.warm hW⟩⟩ (H := H) (locs := locs) (cells := z.1) (slots := z.2) (g := F0 m pc ls (As.reverse ++ rest)) (e := e) (below := below) (meth := meth) rfl rfl hl.1 rfl (lv_room hcat) hd ⟨hz.1, hz.2⟩
  obtain ⟨v0, st₀, t, T', L, h0, X', hL, e1, e2, hq, stp⟩ := hr T hT X0
  obtain ⟨hv, hP1, hF1⟩ := hq
  cases hv
  obtain ⟨A, hA⟩ := M
  obtain ⟨hP, hD, hS⟩ := (hA _ _ _).mp hI
  have hfA : ∀ q, aw wc q → A q := aw_in hD isC hcut
  have hF2 : H.size ≤ t.heap.size ∧ ∀ q : Nat, q < H.size → ¬ aw wc q → t.heap[q]? = H[q]? := by rw [← h0]; exact hF1
  have hS' : va_S A s.heap t.heap (locs ++ L) := ⟨Nat.le_trans hS.1 hF2.1, fun q h1 h2 => by rw [hF2.2 q (Nat.lt_of_lt_of_le h1 hS.1) (fun z => h2 (hfA q z))]; exact hS.2.1 q h1 h2, fun q hq => by
    rcases List.mem_append.mp hq with h | h
    · exact hS.2.2 q h
    · exact hfA _ (hL q h)⟩
  obtain ⟨t2, a1, b1⟩ := kk t.heap (locs ++ L) ((hA _ _ _).mpr ⟨back_P hP hD isC oth hcut ho1 ho2 ho3 ho4 hF2 hP1, back_D hD ho1, hS'⟩) ls hl T' e1 X'
  exact ⟨t2, stp t2 a1, b1⟩

theorem x_callNRO (C : XC cx cc Ts own rm nL) {y : MethodName} {rmy : Room} (As rest : List Value) {wc : va_W} (isC : List Nat) {v : Value} {index : Nat} {maxL : Nat} {ret : Option FieldType} {bytes : ByteArray} {wsy ws2 : List Cond} {host : String} (hg : GoodIn Ts wsy) (hnest : Cond.methodLinkNest own index y host ∈ xN) (hsta : Cond.static y ∈ Ts) (hini : Cond.initialized y.cls ∈ Ts) (hw : wsy = Cond.code y bytes maxL ret :: ws2) (hy : y.cls ≠ "java/lang/invoke/MethodHandle" ∧ y.cls ≠ "java/lang/invoke/VarHandle" ∧ (parseMethodDescriptor y.desc).map (fun d => d.parameters.length) = some As.length) (hM : RO (xl cx) (xG cx) y wsy rmy (As) wc v) (hcut : isC.map (fun i => ws[i]?) = wc.map some) (hnd : va_nd isC = true) (hst : st = As.reverse ++ rest) (hrc : rmy.cells = 0) (hrs : rmy.slots = 0) (hroom : rmy.frames + 1 ≤ rm.frames ∧ 8 + (maxL + 11) + rmy.locals ≤ rm.locals) (hcat : (rest.map fun v => v.category).sum ≤ 8) (hz : z.1 ≤ rm.cells ∧ z.2 ≤ rm.slots) (hd : decode cc pc = .ok (.invokestatic index, 3))
    (kk : X cx z ws lv (pc + 3) (v :: rest)) : X cx z ws lv pc st := by
  obtain ⟨p, l, e, R, s, m, args, below, meth, c, Inv, G, Q, n⟩ := cx
  obtain ⟨hx, hb, hml, hnn, hown, hts, hK, hI0, hR, hlocks⟩ := C
  intro H locs hI ls hl
  subst hst
  subst hR
  have hP0 := hI0 _ _ _ hI
  have hPc : va_P G.1 vwCl wc H := cut_P hP0.1 isC hcut
  have hDc : va_D (fun _ => True) wc := hP0.2.sub isC hnd hcut
  intro T hT X0
  have hr := va_runSN (As := As) (rest := rest) ⟨hx, hb, hml, hown, hts⟩ hM ⟨va_cnB As.length hts hg hw hrc hrs (hK.2 _ hnest) (hts _ hini) hy hroom, hts _ hsta, trivial⟩ ⟨CPc_blind _ _ _, fun U hU hW => ⟨rfl, by rw [hU]; exact hPc, hDc, hK.warm hW⟩⟩ (H := H) (locs := locs) (cells := z.1) (slots := z.2) (g := F0 m pc ls (As.reverse ++ rest)) (e := e) (below := below) (meth := meth) rfl rfl hl.1 rfl (lv_room hcat) hd ⟨hz.1, hz.2⟩
  obtain ⟨v0, st₀, t, T', L, h0, X', hL, e1, e2, hq, stp⟩ := hr T hT X0
  obtain ⟨hv, hh⟩ := hq
  cases hv
  obtain ⟨t2, a1, b1⟩ := kk H locs hI ls hl T' (by rw [e1, hh, h0]) (Stand.forget X' (fun q h => (hL q h).elim))
  exact ⟨t2, stp t2 a1, b1⟩

theorem x_callNMU (C : XC cx cc Ts own rm nL) {y : MethodName} {rmy : Room} (As rest : List Value) {wc : va_W} (isC : List Nat) {r : Option Value} {wc' : va_W} (ws' : va_W) (oth : List Nat) (ho1 : ws'.map (fun q => q.1) = ws.map (fun q => q.1)) (ho2 : oth.map (fun i => ws'[i]?) = oth.map (fun i => ws[i]?)) (ho3 : (List.range ws.length).all (fun i => isC.contains i || oth.contains i) = true) (ho4 : isC.map (fun i => ws'[i]?) = wc'.map some) {index : Nat} {maxL : Nat} {ret : Option FieldType} {bytes : ByteArray} {wsy ws2 : List Cond} {host : String} (hg : GoodIn Ts wsy) (hnest : Cond.methodLinkNest own index y host ∈ xN) (hsta : Cond.static y ∈ Ts) (hini : Cond.initialized y.cls ∈ Ts) (hw : wsy = Cond.code y bytes maxL ret :: ws2) (hy : y.cls ≠ "java/lang/invoke/MethodHandle" ∧ y.cls ≠ "java/lang/invoke/VarHandle" ∧ (parseMethodDescriptor y.desc).map (fun d => d.parameters.length) = some As.length) (M : XM cx) (hM : MU (xl cx) (xG cx) y wsy rmy (As) wc r wc') (hcut : isC.map (fun i => ws[i]?) = wc.map some) (hnd : va_nd isC = true) (hst : st = As.reverse ++ rest) (hrc : rmy.cells = 0) (hrs : rmy.slots = 0) (hroom : rmy.frames + 1 ≤ rm.frames ∧ 8 + (maxL + 11) + rmy.locals ≤ rm.locals) (hcat : (rest.map fun v => v.category).sum ≤ 8) (hz : z.1 ≤ rm.cells ∧ z.2 ≤ rm.slots) (hd : decode cc pc = .ok (.invokestatic index, 3))
    (kk : X cx z ws' lv (pc + 3) (r.toList ++ rest)) : X cx z ws lv pc st := by
  obtain ⟨p, l, e, R, s, m, args, below, meth, c, Inv, G, Q, n⟩ := cx
  obtain ⟨hx, hb, hml, hnn, hown, hts, hK, hI0, hR, hlocks⟩ := C
  intro H locs hI ls hl
  subst hst
  subst hR
  have hP0 := hI0 _ _ _ hI
  have hPc : va_P G.1 vwCl wc H := cut_P hP0.1 isC hcut
  have hDc : va_D (fun _ => True) wc := hP0.2.sub isC hnd hcut
  intro T hT X0
  have hr := va_runSN (As := As) (rest := rest) ⟨hx, hb, hml, hown, hts⟩ hM ⟨va_cnB As.length hts hg hw hrc hrs (hK.2 _ hnest) (hts _ hini) hy hroom, hts _ hsta, trivial⟩ ⟨CPc_blind _ _ _, fun U hU hW => ⟨rfl, by rw [hU]; exact hPc, hDc, hK.warm hW⟩⟩ (H := H) (locs := locs) (cells := z.1) (slots := z.2) (g := F0 m pc ls (As.reverse ++ rest)) (e := e) (below := below) (meth := meth) rfl rfl hl.1 rfl (lv_room hcat) hd ⟨hz.1, hz.2⟩
  obtain ⟨v0, st₀, t, T', L, h0, X', hL, e1, e2, hq, stp⟩ := hr T hT X0
  obtain ⟨hv, hP1, hF1⟩ := hq
  cases hv
  obtain ⟨A, hA⟩ := M
  obtain ⟨hP, hD, hS⟩ := (hA _ _ _).mp hI
  have hfA : ∀ q, aw wc q → A q := aw_in hD isC hcut
  have hF2 : H.size ≤ t.heap.size ∧ ∀ q : Nat, q < H.size → ¬ aw wc q → t.heap[q]? = H[q]? := by rw [← h0]; exact hF1
  have hS' : va_S A s.heap t.heap (locs ++ L) := ⟨Nat.le_trans hS.1 hF2.1, fun q h1 h2 => by rw [hF2.2 q (Nat.lt_of_lt_of_le h1 hS.1) (fun z => h2 (hfA q z))]; exact hS.2.1 q h1 h2, fun q hq => by
    rcases List.mem_append.mp hq with h | h
    · exact hS.2.2 q h
    · exact hfA _ (hL q h)⟩
  obtain ⟨t2, a1, b1⟩ := kk t.heap (locs ++ L) ((hA _ _ _).mpr ⟨back_P hP hD isC oth hcut ho1 ho2 ho3 ho4 hF2 hP1, back_D hD ho1, hS'⟩) ls hl T' e1 X'
  exact ⟨t2, stp t2 a1, b1⟩

theorem x_iret (C : XC cx cc Ts own rm nL) {v v' : Int32} {w : va_W} (E : XE cx z (some .int) (some (.int v')) w) (hd : decode cc pc = .ok (.ireturn, 1)) (hv : v = v') (hw : ws = w) : X cx z ws lv pc [.int v] := by
  obtain ⟨p, l, e, R, s, m, args, below, meth, c, Inv, G, Q, n⟩ := cx
  obtain ⟨hx, hb, hml, hnn, hown, hts, hK, hI0, hR, hlocks⟩ := C
  obtain ⟨hr, Qc, free, hQ, hE⟩ := E
  subst hv
  subst hw
  subst hQ
  intro H locs hI ls hl
  exact W.iret hx hb hr (hE H locs hI).1 (hE H locs hI).2 hd
theorem x_zret (C : XC cx cc Ts own rm nL) {v : Int32} {P : Prop} [Decidable P] {w : va_W} (E : XE cx z (some .boolean) (some (.int (b2i P))) w) (hd : decode cc pc = .ok (.ireturn, 1)) (hv : v = b2i P) (hw : ws = w) : X cx z ws lv pc [.int v] := by
  obtain ⟨p, l, e, R, s, m, args, below, meth, c, Inv, G, Q, n⟩ := cx
  obtain ⟨hx, hb, hml, hnn, hown, hts, hK, hI0, hR, hlocks⟩ := C
  obtain ⟨hr, Qc, free, hQ, hE⟩ := E
  subst hv
  subst hw
  subst hQ
  intro H locs hI ls hl
  exact W.zret hx hb hr (b2i_nz P) (hE H locs hI).1 (hE H locs hI).2 hd
theorem x_vret (C : XC cx cc Ts own rm nL) {w : va_W} (E : XE cx z none none w) (hd : decode cc pc = .ok (.return_, 1)) (hw : ws = w) : X cx z ws lv pc [] := by
  obtain ⟨p, l, e, R, s, m, args, below, meth, c, Inv, G, Q, n⟩ := cx
  obtain ⟨hx, hb, hml, hnn, hown, hts, hK, hI0, hR, hlocks⟩ := C
  obtain ⟨hr, Qc, free, hQ, hE⟩ := E
  subst hw
  subst hQ
  intro H locs hI ls hl
  exact W.vret hx hb hr (hE H locs hI).1 (hE H locs hI).2 hd

theorem x_tsw (C : XC cx cc Ts own rm nL) {x : Int32} {dflt hi : Int} {offs : Array Int} {len : Nat} (hd : decode cc pc = .ok (.tableswitch dflt 0 hi offs, len)) (ts : List Nat) (td : Nat) (h1 : hi + 1 = ts.length) (h2 : offs.toList.map (fun o => (pc : Int) + o) = ts.map (fun t : Nat => (t : Int))) (h3 : (pc : Int) + dflt = (td : Int))
    (kk : allc (fun t => X cx z ws lv t st) x 0 ts) (kd : (∀ j : Nat, j < ts.length → ¬ x.toInt = (j : Int)) → X cx z ws lv td st) : X cx z ws lv pc (.int x :: st) := by
  by_cases hj : ∃ j : Nat, j < ts.length ∧ x.toInt = (j : Int)
  · obtain ⟨j, hj, hxj⟩ := hj
    obtain ⟨t, ht⟩ : ∃ t, ts[j]? = some t := ⟨_, List.getElem?_eq_getElem hj⟩
    have hk := allc_at _ x ts 0 kk j t ht (by rw [hxj]; simp)
    obtain ⟨p, l, e, R, s, m, args, below, meth, c, Inv, G, Q, n⟩ := cx
    obtain ⟨hx, hb, hml, hnn, hown, hts, hK, hI0, hR, hlocks⟩ := C
    intro H locs hI ls hl
    have ho : (offs.toList.map (fun o : Int => (pc : Int) + o))[j]? = some (t : Int) := by rw [h2, List.getElem?_map, ht]; rfl
    rw [List.getElem?_map] at ho
    cases hoj : offs.toList[j]? with
    | none => rw [hoj] at ho; cases ho
    | some o =>
      rw [hoj] at ho
      have hoo : (pc : Int) + o = (t : Int) := Option.some.inj ho
      refine lv_tableIn hx hb hd (by omega) (by omega) (off := o) ?_ hoo (hk H locs hI ls hl)
      rw [← Array.getElem?_toList, hxj]
      simpa using hoj
  · have hn : ∀ j : Nat, j < ts.length → ¬ x.toInt = (j : Int) := fun j h1 h2 => hj ⟨j, h1, h2⟩
    have hk := kd hn
    obtain ⟨p, l, e, R, s, m, args, below, meth, c, Inv, G, Q, n⟩ := cx
    obtain ⟨hx, hb, hml, hnn, hown, hts, hK, hI0, hR, hlocks⟩ := C
    intro H locs hI ls hl
    refine lv_tableOut hx hb hd ?_ h3 (hk H locs hI ls hl)
    by_cases h : x.toInt < 0
    · exact Or.inl h
    · refine Or.inr ?_
      by_cases g : hi < x.toInt
      · exact g
      · exact absurd (by omega) (hn x.toInt.toNat (by omega))
theorem x_lsw (C : XC cx cc Ts own rm nL) {x : Int32} {dflt : Int} {ps : Array (Int × Int)} {len : Nat} (hd : decode cc pc = .ok (.lookupswitch dflt ps, len)) (hp : (ps.toList.zip (ps.toList.drop 1)).all (fun (a, next) => a.1 < next.1) = true) (ts : List (Int × Nat)) (td : Nat) (h2 : ps.toList.map (fun o : Int × Int => (o.1, (pc : Int) + o.2)) = ts.map (fun t : Int × Nat => (t.1, (t.2 : Int)))) (h3 : (pc : Int) + dflt = (td : Int))
    (kk : alll (fun t => X cx z ws lv t st) x ts) (kd : (∀ q ∈ ts, ¬ x.toInt = q.1) → X cx z ws lv td st) : X cx z ws lv pc (.int x :: st) := by
  have key : ∀ (pl : List (Int × Int)) (tl : List (Int × Nat)), pl.map (fun o : Int × Int => (o.1, (pc : Int) + o.2)) = tl.map (fun t : Int × Nat => (t.1, (t.2 : Int))) → alll (fun t => X cx z ws lv t st) x tl → ((∀ q ∈ tl, ¬ x.toInt = q.1) → X cx z ws lv td st) → ∃ (o : Int) (t : Nat), Op.lookupswitch.offset pl dflt x.toInt = o ∧ (pc : Int) + o = (t : Int) ∧ X cx z ws lv t st := by
    intro pl
    induction pl with
    | nil =>
      intro tl h _ hk
      cases tl with
      | nil => exact ⟨dflt, td, rfl, h3, hk (fun q hq => by cases hq)⟩
      | cons a b => simp at h
    | cons q pl ih =>
      intro tl h ha hk
      cases tl with
      | nil => simp at h
      | cons a b =>
        simp only [List.map_cons, List.cons.injEq, Prod.mk.injEq] at h
        obtain ⟨⟨e1, e2⟩, e3⟩ := h
        obtain ⟨a1, a2⟩ := ha
        by_cases hq : x.toInt = a.1
        · refine ⟨q.2, a.2, ?_, e2, a1 hq⟩
          obtain ⟨q1, q2⟩ := q
          simp only at e1
          subst e1
          simp [Op.lookupswitch.offset, hq]
        · obtain ⟨o, t, i1, i2, i3⟩ := ih b e3 a2 (fun hb => hk (fun r hr => by
            rcases List.mem_cons.mp hr with h | h
            · rw [h]; exact hq
            · exact hb r h))
          refine ⟨o, t, ?_, i2, i3⟩
          obtain ⟨q1, q2⟩ := q
          simp only at e1
          subst e1
          rw [← i1]
          simp [Op.lookupswitch.offset, Ne.symm hq, hq]
  obtain ⟨o, t, i1, i2, hk⟩ := key ps.toList ts h2 kk kd
  obtain ⟨p, l, e, R, s, m, args, below, meth, c, Inv, G, Q, n⟩ := cx
  obtain ⟨hx, hb, hml, hnn, hown, hts, hK, hI0, hR, hlocks⟩ := C
  intro H locs hI ls hl
  exact lv_lookup hx hb hd hp i1 i2 (hk H locs hI ls hl)

end XROWS
end
