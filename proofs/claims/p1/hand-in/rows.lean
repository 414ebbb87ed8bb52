section
-- ===== PART A: goes FIRST, ahead of the names: the tables' words, and 'selects' of the private methods out of them =====
/-- a private method of a class that the tables say can be made, by its rows of tables_1 -/
def lw_okq (q : MethodName × Nat) : Prop := (q.1.cls ≠ "java/lang/invoke/MethodHandle" ∧ q.1.cls ≠ "java/lang/invoke/VarHandle") ∧ Cond.instantiable q.1.cls q.2 ∈ tables_1 ∧ Cond.privateMethod q.1 ∈ tables_1 ∧ Cond.instanceMethod q.1 ∈ tables_1
theorem lw_p0 : lw_okq (⟨"WindSigned$Tokens", "advance", "()V"⟩, 7) := ⟨⟨by decide +kernel, by decide +kernel⟩, List.mem_of_getElem? (i := 54) (by decide +kernel), List.mem_of_getElem? (i := 531) (by decide +kernel), List.mem_of_getElem? (i := 532) (by decide +kernel)⟩
theorem lw_p1 : lw_okq (⟨"WindSigned$Tokens", "kindAt", "(I)I"⟩, 7) := ⟨⟨by decide +kernel, by decide +kernel⟩, List.mem_of_getElem? (i := 54) (by decide +kernel), List.mem_of_getElem? (i := 535) (by decide +kernel), List.mem_of_getElem? (i := 536) (by decide +kernel)⟩
theorem lw_p2 : lw_okq (⟨"WindSigned$Teller", "readPlain", "()V"⟩, 2) := ⟨⟨by decide +kernel, by decide +kernel⟩, List.mem_of_getElem? (i := 48) (by decide +kernel), List.mem_of_getElem? (i := 551) (by decide +kernel), List.mem_of_getElem? (i := 552) (by decide +kernel)⟩
theorem lw_p3 : lw_okq (⟨"WindSigned$Teller", "readHouse", "()V"⟩, 2) := ⟨⟨by decide +kernel, by decide +kernel⟩, List.mem_of_getElem? (i := 48) (by decide +kernel), List.mem_of_getElem? (i := 628) (by decide +kernel), List.mem_of_getElem? (i := 629) (by decide +kernel)⟩
theorem lw_p4 : lw_okq (⟨"WindSigned$Teller", "readFreeCell", "([II)I"⟩, 2) := ⟨⟨by decide +kernel, by decide +kernel⟩, List.mem_of_getElem? (i := 48) (by decide +kernel), List.mem_of_getElem? (i := 633) (by decide +kernel), List.mem_of_getElem? (i := 634) (by decide +kernel)⟩
theorem lw_p5 : lw_okq (⟨"WindSigned$Teller", "readShelter", "()V"⟩, 2) := ⟨⟨by decide +kernel, by decide +kernel⟩, List.mem_of_getElem? (i := 48) (by decide +kernel), List.mem_of_getElem? (i := 638) (by decide +kernel), List.mem_of_getElem? (i := 639) (by decide +kernel)⟩
theorem lw_p6 : lw_okq (⟨"WindSigned$Teller", "readThing", "()V"⟩, 2) := ⟨⟨by decide +kernel, by decide +kernel⟩, List.mem_of_getElem? (i := 48) (by decide +kernel), List.mem_of_getElem? (i := 643) (by decide +kernel), List.mem_of_getElem? (i := 644) (by decide +kernel)⟩
theorem lw_p7 : lw_okq (⟨"WindSigned$Teller", "readWind", "()V"⟩, 2) := ⟨⟨by decide +kernel, by decide +kernel⟩, List.mem_of_getElem? (i := 48) (by decide +kernel), List.mem_of_getElem? (i := 651) (by decide +kernel), List.mem_of_getElem? (i := 652) (by decide +kernel)⟩
theorem lw_p8 : lw_okq (⟨"WindSigned", "settle", "()V"⟩, 13) := ⟨⟨by decide +kernel, by decide +kernel⟩, List.mem_of_getElem? (i := 23) (by decide +kernel), List.mem_of_getElem? (i := 671) (by decide +kernel), List.mem_of_getElem? (i := 672) (by decide +kernel)⟩
theorem lw_p9 : lw_okq (⟨"WindSigned$Calendar", "addWindsTold", "(LWindSigned$Plain;I)V"⟩, 9) := ⟨⟨by decide +kernel, by decide +kernel⟩, List.mem_of_getElem? (i := 253) (by decide +kernel), List.mem_of_getElem? (i := 679) (by decide +kernel), List.mem_of_getElem? (i := 680) (by decide +kernel)⟩
theorem lw_p10 : lw_okq (⟨"WindSigned$Calendar", "addWind", "(III)V"⟩, 9) := ⟨⟨by decide +kernel, by decide +kernel⟩, List.mem_of_getElem? (i := 253) (by decide +kernel), List.mem_of_getElem? (i := 683) (by decide +kernel), List.mem_of_getElem? (i := 684) (by decide +kernel)⟩
theorem lw_p11 : lw_okq (⟨"WindSigned$Calendar", "addActs", "(LWindSigned$Acts;I)V"⟩, 9) := ⟨⟨by decide +kernel, by decide +kernel⟩, List.mem_of_getElem? (i := 253) (by decide +kernel), List.mem_of_getElem? (i := 687) (by decide +kernel), List.mem_of_getElem? (i := 688) (by decide +kernel)⟩
theorem lw_p12 : lw_okq (⟨"WindSigned$Walk", "begin", "(II)V"⟩, 10) := ⟨⟨by decide +kernel, by decide +kernel⟩, List.mem_of_getElem? (i := 335) (by decide +kernel), List.mem_of_getElem? (i := 703) (by decide +kernel), List.mem_of_getElem? (i := 704) (by decide +kernel)⟩
theorem lw_p13 : lw_okq (⟨"WindSigned$Walk", "passDay", "(I)V"⟩, 10) := ⟨⟨by decide +kernel, by decide +kernel⟩, List.mem_of_getElem? (i := 335) (by decide +kernel), List.mem_of_getElem? (i := 707) (by decide +kernel), List.mem_of_getElem? (i := 708) (by decide +kernel)⟩
theorem lw_p14 : lw_okq (⟨"WindSigned$Walk", "push", "(II)I"⟩, 10) := ⟨⟨by decide +kernel, by decide +kernel⟩, List.mem_of_getElem? (i := 335) (by decide +kernel), List.mem_of_getElem? (i := 711) (by decide +kernel), List.mem_of_getElem? (i := 712) (by decide +kernel)⟩
theorem lw_p15 : lw_okq (⟨"WindSigned", "isHouse", "(I)Z"⟩, 13) := ⟨⟨by decide +kernel, by decide +kernel⟩, List.mem_of_getElem? (i := 23) (by decide +kernel), List.mem_of_getElem? (i := 744) (by decide +kernel), List.mem_of_getElem? (i := 745) (by decide +kernel)⟩
def lw_privs_1 : List (MethodName × Nat) := [(⟨"WindSigned$Tokens", "advance", "()V"⟩, 7), (⟨"WindSigned$Tokens", "kindAt", "(I)I"⟩, 7), (⟨"WindSigned$Teller", "readPlain", "()V"⟩, 2), (⟨"WindSigned$Teller", "readHouse", "()V"⟩, 2), (⟨"WindSigned$Teller", "readFreeCell", "([II)I"⟩, 2), (⟨"WindSigned$Teller", "readShelter", "()V"⟩, 2), (⟨"WindSigned$Teller", "readThing", "()V"⟩, 2), (⟨"WindSigned$Teller", "readWind", "()V"⟩, 2), (⟨"WindSigned", "settle", "()V"⟩, 13), (⟨"WindSigned$Calendar", "addWindsTold", "(LWindSigned$Plain;I)V"⟩, 9), (⟨"WindSigned$Calendar", "addWind", "(III)V"⟩, 9), (⟨"WindSigned$Calendar", "addActs", "(LWindSigned$Acts;I)V"⟩, 9), (⟨"WindSigned$Walk", "begin", "(II)V"⟩, 10), (⟨"WindSigned$Walk", "passDay", "(I)V"⟩, 10), (⟨"WindSigned$Walk", "push", "(II)I"⟩, 10), (⟨"WindSigned", "isHouse", "(I)Z"⟩, 13)]
theorem lw_r1 : ∀ q ∈ lw_privs_1, lw_okq q := List.forall_mem_cons.mpr ⟨lw_p0, List.forall_mem_cons.mpr ⟨lw_p1, List.forall_mem_cons.mpr ⟨lw_p2, List.forall_mem_cons.mpr ⟨lw_p3, List.forall_mem_cons.mpr ⟨lw_p4, List.forall_mem_cons.mpr ⟨lw_p5, List.forall_mem_cons.mpr ⟨lw_p6, List.forall_mem_cons.mpr ⟨lw_p7, List.forall_mem_cons.mpr ⟨lw_p8, List.forall_mem_cons.mpr ⟨lw_p9, List.forall_mem_cons.mpr ⟨lw_p10, List.forall_mem_cons.mpr ⟨lw_p11, List.forall_mem_cons.mpr ⟨lw_p12, List.forall_mem_cons.mpr ⟨lw_p13, List.forall_mem_cons.mpr ⟨lw_p14, List.forall_mem_cons.mpr ⟨lw_p15, fun _ h => absurd h List.not_mem_nil⟩⟩⟩⟩⟩⟩⟩⟩⟩⟩⟩⟩⟩⟩⟩⟩
theorem lw_p16 : lw_okq (⟨"WindSigned", "isShelter", "(I)Z"⟩, 13) := ⟨⟨by decide +kernel, by decide +kernel⟩, List.mem_of_getElem? (i := 23) (by decide +kernel), List.mem_of_getElem? (i := 752) (by decide +kernel), List.mem_of_getElem? (i := 753) (by decide +kernel)⟩
theorem lw_p17 : lw_okq (⟨"WindSigned", "isThing", "(I)Z"⟩, 13) := ⟨⟨by decide +kernel, by decide +kernel⟩, List.mem_of_getElem? (i := 23) (by decide +kernel), List.mem_of_getElem? (i := 760) (by decide +kernel), List.mem_of_getElem? (i := 761) (by decide +kernel)⟩
theorem lw_p18 : lw_okq (⟨"WindSigned", "isWind", "(I)Z"⟩, 13) := ⟨⟨by decide +kernel, by decide +kernel⟩, List.mem_of_getElem? (i := 23) (by decide +kernel), List.mem_of_getElem? (i := 768) (by decide +kernel), List.mem_of_getElem? (i := 769) (by decide +kernel)⟩
theorem lw_p19 : lw_okq (⟨"WindSigned", "isDay", "(I)Z"⟩, 13) := ⟨⟨by decide +kernel, by decide +kernel⟩, List.mem_of_getElem? (i := 23) (by decide +kernel), List.mem_of_getElem? (i := 776) (by decide +kernel), List.mem_of_getElem? (i := 777) (by decide +kernel)⟩
theorem lw_p20 : lw_okq (⟨"WindSigned", "placeOf", "(II)I"⟩, 13) := ⟨⟨by decide +kernel, by decide +kernel⟩, List.mem_of_getElem? (i := 23) (by decide +kernel), List.mem_of_getElem? (i := 784) (by decide +kernel), List.mem_of_getElem? (i := 785) (by decide +kernel)⟩
theorem lw_p21 : lw_okq (⟨"WindSigned", "thingsIn", "(II)I"⟩, 13) := ⟨⟨by decide +kernel, by decide +kernel⟩, List.mem_of_getElem? (i := 23) (by decide +kernel), List.mem_of_getElem? (i := 796) (by decide +kernel), List.mem_of_getElem? (i := 797) (by decide +kernel)⟩
theorem lw_p22 : lw_okq (⟨"WindSigned", "isEarlyDay", "(I)Z"⟩, 13) := ⟨⟨by decide +kernel, by decide +kernel⟩, List.mem_of_getElem? (i := 23) (by decide +kernel), List.mem_of_getElem? (i := 804) (by decide +kernel), List.mem_of_getElem? (i := 805) (by decide +kernel)⟩
theorem lw_p23 : lw_okq (⟨"WindSigned", "thingsMoved", "(I)I"⟩, 13) := ⟨⟨by decide +kernel, by decide +kernel⟩, List.mem_of_getElem? (i := 23) (by decide +kernel), List.mem_of_getElem? (i := 808) (by decide +kernel), List.mem_of_getElem? (i := 809) (by decide +kernel)⟩
theorem lw_p24 : lw_okq (⟨"WindSigned", "daysInCellTold", "(I)I"⟩, 13) := ⟨⟨by decide +kernel, by decide +kernel⟩, List.mem_of_getElem? (i := 23) (by decide +kernel), List.mem_of_getElem? (i := 836) (by decide +kernel), List.mem_of_getElem? (i := 837) (by decide +kernel)⟩
theorem lw_p25 : lw_okq (⟨"WindSigned", "houseThatHas", "(II)I"⟩, 13) := ⟨⟨by decide +kernel, by decide +kernel⟩, List.mem_of_getElem? (i := 23) (by decide +kernel), List.mem_of_getElem? (i := 852) (by decide +kernel), List.mem_of_getElem? (i := 853) (by decide +kernel)⟩
theorem lw_p26 : lw_okq (⟨"WindSigned", "thingsOf", "(II)I"⟩, 13) := ⟨⟨by decide +kernel, by decide +kernel⟩, List.mem_of_getElem? (i := 23) (by decide +kernel), List.mem_of_getElem? (i := 870) (by decide +kernel), List.mem_of_getElem? (i := 871) (by decide +kernel)⟩
theorem lw_p27 : lw_okq (⟨"WindSigned", "isRight", "(II)Z"⟩, 13) := ⟨⟨by decide +kernel, by decide +kernel⟩, List.mem_of_getElem? (i := 23) (by decide +kernel), List.mem_of_getElem? (i := 878) (by decide +kernel), List.mem_of_getElem? (i := 879) (by decide +kernel)⟩
theorem lw_p28 : lw_okq (⟨"WindSigned", "daysHadBy", "(II)I"⟩, 13) := ⟨⟨by decide +kernel, by decide +kernel⟩, List.mem_of_getElem? (i := 23) (by decide +kernel), List.mem_of_getElem? (i := 934) (by decide +kernel), List.mem_of_getElem? (i := 935) (by decide +kernel)⟩
theorem lw_p29 : lw_okq (⟨"WindSigned", "stillDays", "()I"⟩, 13) := ⟨⟨by decide +kernel, by decide +kernel⟩, List.mem_of_getElem? (i := 23) (by decide +kernel), List.mem_of_getElem? (i := 948) (by decide +kernel), List.mem_of_getElem? (i := 949) (by decide +kernel)⟩
theorem lw_p30 : lw_okq (⟨"WindSigned", "thingsMovedBy", "(I)I"⟩, 13) := ⟨⟨by decide +kernel, by decide +kernel⟩, List.mem_of_getElem? (i := 23) (by decide +kernel), List.mem_of_getElem? (i := 973) (by decide +kernel), List.mem_of_getElem? (i := 974) (by decide +kernel)⟩
theorem lw_p31 : lw_okq (⟨"WindSigned", "isEverLainIn", "(I)Z"⟩, 13) := ⟨⟨by decide +kernel, by decide +kernel⟩, List.mem_of_getElem? (i := 23) (by decide +kernel), List.mem_of_getElem? (i := 985) (by decide +kernel), List.mem_of_getElem? (i := 986) (by decide +kernel)⟩
def lw_privs_2 : List (MethodName × Nat) := [(⟨"WindSigned", "isShelter", "(I)Z"⟩, 13), (⟨"WindSigned", "isThing", "(I)Z"⟩, 13), (⟨"WindSigned", "isWind", "(I)Z"⟩, 13), (⟨"WindSigned", "isDay", "(I)Z"⟩, 13), (⟨"WindSigned", "placeOf", "(II)I"⟩, 13), (⟨"WindSigned", "thingsIn", "(II)I"⟩, 13), (⟨"WindSigned", "isEarlyDay", "(I)Z"⟩, 13), (⟨"WindSigned", "thingsMoved", "(I)I"⟩, 13), (⟨"WindSigned", "daysInCellTold", "(I)I"⟩, 13), (⟨"WindSigned", "houseThatHas", "(II)I"⟩, 13), (⟨"WindSigned", "thingsOf", "(II)I"⟩, 13), (⟨"WindSigned", "isRight", "(II)Z"⟩, 13), (⟨"WindSigned", "daysHadBy", "(II)I"⟩, 13), (⟨"WindSigned", "stillDays", "()I"⟩, 13), (⟨"WindSigned", "thingsMovedBy", "(I)I"⟩, 13), (⟨"WindSigned", "isEverLainIn", "(I)Z"⟩, 13)]
theorem lw_r2 : ∀ q ∈ lw_privs_2, lw_okq q := List.forall_mem_cons.mpr ⟨lw_p16, List.forall_mem_cons.mpr ⟨lw_p17, List.forall_mem_cons.mpr ⟨lw_p18, List.forall_mem_cons.mpr ⟨lw_p19, List.forall_mem_cons.mpr ⟨lw_p20, List.forall_mem_cons.mpr ⟨lw_p21, List.forall_mem_cons.mpr ⟨lw_p22, List.forall_mem_cons.mpr ⟨lw_p23, List.forall_mem_cons.mpr ⟨lw_p24, List.forall_mem_cons.mpr ⟨lw_p25, List.forall_mem_cons.mpr ⟨lw_p26, List.forall_mem_cons.mpr ⟨lw_p27, List.forall_mem_cons.mpr ⟨lw_p28, List.forall_mem_cons.mpr ⟨lw_p29, List.forall_mem_cons.mpr ⟨lw_p30, List.forall_mem_cons.mpr ⟨lw_p31, fun _ h => absurd h List.not_mem_nil⟩⟩⟩⟩⟩⟩⟩⟩⟩⟩⟩⟩⟩⟩⟩⟩
theorem lw_p32 : lw_okq (⟨"WindSigned$Trials", "buildBeside", "(II)Z"⟩, 4) := ⟨⟨by decide +kernel, by decide +kernel⟩, List.mem_of_getElem? (i := 405) (by decide +kernel), List.mem_of_getElem? (i := 998) (by decide +kernel), List.mem_of_getElem? (i := 999) (by decide +kernel)⟩
theorem lw_p33 : lw_okq (⟨"WindSigned$Trials", "rightThings", "()I"⟩, 4) := ⟨⟨by decide +kernel, by decide +kernel⟩, List.mem_of_getElem? (i := 405) (by decide +kernel), List.mem_of_getElem? (i := 1050) (by decide +kernel), List.mem_of_getElem? (i := 1051) (by decide +kernel)⟩
theorem lw_p34 : lw_okq (⟨"WindSigned$Guesses", "isSeenRow", "(I)Z"⟩, 7) := ⟨⟨by decide +kernel, by decide +kernel⟩, List.mem_of_getElem? (i := 430) (by decide +kernel), List.mem_of_getElem? (i := 1086) (by decide +kernel), List.mem_of_getElem? (i := 1087) (by decide +kernel)⟩
theorem lw_p35 : lw_okq (⟨"WindSigned$Guesses", "isDaySeen", "(J)Z"⟩, 7) := ⟨⟨by decide +kernel, by decide +kernel⟩, List.mem_of_getElem? (i := 430) (by decide +kernel), List.mem_of_getElem? (i := 1090) (by decide +kernel), List.mem_of_getElem? (i := 1091) (by decide +kernel)⟩
theorem lw_p36 : lw_okq (⟨"WindSigned$Guesses", "isPlaceSeen", "(J)Z"⟩, 7) := ⟨⟨by decide +kernel, by decide +kernel⟩, List.mem_of_getElem? (i := 430) (by decide +kernel), List.mem_of_getElem? (i := 1094) (by decide +kernel), List.mem_of_getElem? (i := 1095) (by decide +kernel)⟩
theorem lw_p37 : lw_okq (⟨"WindSigned$Guesses", "walkFits", "(I)Z"⟩, 7) := ⟨⟨by decide +kernel, by decide +kernel⟩, List.mem_of_getElem? (i := 430) (by decide +kernel), List.mem_of_getElem? (i := 1103) (by decide +kernel), List.mem_of_getElem? (i := 1104) (by decide +kernel)⟩
theorem lw_p38 : lw_okq (⟨"WindSigned$Guesses", "mostInOnePlace", "(I)I"⟩, 7) := ⟨⟨by decide +kernel, by decide +kernel⟩, List.mem_of_getElem? (i := 430) (by decide +kernel), List.mem_of_getElem? (i := 1137) (by decide +kernel), List.mem_of_getElem? (i := 1138) (by decide +kernel)⟩
theorem lw_p39 : lw_okq (⟨"WindSigned$Guesses", "fittingIn", "(II)I"⟩, 7) := ⟨⟨by decide +kernel, by decide +kernel⟩, List.mem_of_getElem? (i := 430) (by decide +kernel), List.mem_of_getElem? (i := 1141) (by decide +kernel), List.mem_of_getElem? (i := 1142) (by decide +kernel)⟩
theorem lw_p40 : lw_okq (⟨"WindSigned$Trials", "stepsByLaw", "(I)I"⟩, 4) := ⟨⟨by decide +kernel, by decide +kernel⟩, List.mem_of_getElem? (i := 405) (by decide +kernel), List.mem_of_getElem? (i := 1175) (by decide +kernel), List.mem_of_getElem? (i := 1176) (by decide +kernel)⟩
theorem lw_p41 : lw_okq (⟨"WindSigned$Trials", "ordersBehind", "(I)I"⟩, 4) := ⟨⟨by decide +kernel, by decide +kernel⟩, List.mem_of_getElem? (i := 405) (by decide +kernel), List.mem_of_getElem? (i := 1200) (by decide +kernel), List.mem_of_getElem? (i := 1201) (by decide +kernel)⟩
theorem lw_p42 : lw_okq (⟨"WindSigned", "isPair", "(II)Z"⟩, 13) := ⟨⟨by decide +kernel, by decide +kernel⟩, List.mem_of_getElem? (i := 23) (by decide +kernel), List.mem_of_getElem? (i := 1220) (by decide +kernel), List.mem_of_getElem? (i := 1221) (by decide +kernel)⟩
theorem lw_p43 : lw_okq (⟨"WindSigned$Trials", "waysOf", "(I)J"⟩, 4) := ⟨⟨by decide +kernel, by decide +kernel⟩, List.mem_of_getElem? (i := 405) (by decide +kernel), List.mem_of_getElem? (i := 1245) (by decide +kernel), List.mem_of_getElem? (i := 1246) (by decide +kernel)⟩
theorem lw_p44 : lw_okq (⟨"WindSigned$Trials", "waysInAll", "()J"⟩, 4) := ⟨⟨by decide +kernel, by decide +kernel⟩, List.mem_of_getElem? (i := 405) (by decide +kernel), List.mem_of_getElem? (i := 1249) (by decide +kernel), List.mem_of_getElem? (i := 1250) (by decide +kernel)⟩
theorem lw_p45 : lw_okq (⟨"WindSignedModel", "advance", "()V"⟩, 39) := ⟨⟨by decide +kernel, by decide +kernel⟩, List.mem_of_getElem? (i := 1369) (by decide +kernel), List.mem_of_getElem? (i := 1520) (by decide +kernel), List.mem_of_getElem? (i := 1521) (by decide +kernel)⟩
theorem lw_p46 : lw_okq (⟨"WindSignedModel", "see", "(I)I"⟩, 39) := ⟨⟨by decide +kernel, by decide +kernel⟩, List.mem_of_getElem? (i := 1369) (by decide +kernel), List.mem_of_getElem? (i := 1524) (by decide +kernel), List.mem_of_getElem? (i := 1525) (by decide +kernel)⟩
theorem lw_p47 : lw_okq (⟨"WindSignedModel", "good", "()Z"⟩, 39) := ⟨⟨by decide +kernel, by decide +kernel⟩, List.mem_of_getElem? (i := 1369) (by decide +kernel), List.mem_of_getElem? (i := 1534) (by decide +kernel), List.mem_of_getElem? (i := 1535) (by decide +kernel)⟩
def lw_privs_3 : List (MethodName × Nat) := [(⟨"WindSigned$Trials", "buildBeside", "(II)Z"⟩, 4), (⟨"WindSigned$Trials", "rightThings", "()I"⟩, 4), (⟨"WindSigned$Guesses", "isSeenRow", "(I)Z"⟩, 7), (⟨"WindSigned$Guesses", "isDaySeen", "(J)Z"⟩, 7), (⟨"WindSigned$Guesses", "isPlaceSeen", "(J)Z"⟩, 7), (⟨"WindSigned$Guesses", "walkFits", "(I)Z"⟩, 7), (⟨"WindSigned$Guesses", "mostInOnePlace", "(I)I"⟩, 7), (⟨"WindSigned$Guesses", "fittingIn", "(II)I"⟩, 7), (⟨"WindSigned$Trials", "stepsByLaw", "(I)I"⟩, 4), (⟨"WindSigned$Trials", "ordersBehind", "(I)I"⟩, 4), (⟨"WindSigned", "isPair", "(II)Z"⟩, 13), (⟨"WindSigned$Trials", "waysOf", "(I)J"⟩, 4), (⟨"WindSigned$Trials", "waysInAll", "()J"⟩, 4), (⟨"WindSignedModel", "advance", "()V"⟩, 39), (⟨"WindSignedModel", "see", "(I)I"⟩, 39), (⟨"WindSignedModel", "good", "()Z"⟩, 39)]
theorem lw_r3 : ∀ q ∈ lw_privs_3, lw_okq q := List.forall_mem_cons.mpr ⟨lw_p32, List.forall_mem_cons.mpr ⟨lw_p33, List.forall_mem_cons.mpr ⟨lw_p34, List.forall_mem_cons.mpr ⟨lw_p35, List.forall_mem_cons.mpr ⟨lw_p36, List.forall_mem_cons.mpr ⟨lw_p37, List.forall_mem_cons.mpr ⟨lw_p38, List.forall_mem_cons.mpr ⟨lw_p39, List.forall_mem_cons.mpr ⟨lw_p40, List.forall_mem_cons.mpr ⟨lw_p41, List.forall_mem_cons.mpr ⟨lw_p42, List.forall_mem_cons.mpr ⟨lw_p43, List.forall_mem_cons.mpr ⟨lw_p44, List.forall_mem_cons.mpr ⟨lw_p45, List.forall_mem_cons.mpr ⟨lw_p46, List.forall_mem_cons.mpr ⟨lw_p47, fun _ h => absurd h List.not_mem_nil⟩⟩⟩⟩⟩⟩⟩⟩⟩⟩⟩⟩⟩⟩⟩⟩
theorem lw_p48 : lw_okq (⟨"WindSignedModel", "readLine", "()V"⟩, 39) := ⟨⟨by decide +kernel, by decide +kernel⟩, List.mem_of_getElem? (i := 1369) (by decide +kernel), List.mem_of_getElem? (i := 1538) (by decide +kernel), List.mem_of_getElem? (i := 1539) (by decide +kernel)⟩
theorem lw_p49 : lw_okq (⟨"WindSignedModel", "readFirst", "()V"⟩, 39) := ⟨⟨by decide +kernel, by decide +kernel⟩, List.mem_of_getElem? (i := 1369) (by decide +kernel), List.mem_of_getElem? (i := 1542) (by decide +kernel), List.mem_of_getElem? (i := 1543) (by decide +kernel)⟩
theorem lw_p50 : lw_okq (⟨"WindSignedModel", "expects", "(Ljava/lang/String;)V"⟩, 39) := ⟨⟨by decide +kernel, by decide +kernel⟩, List.mem_of_getElem? (i := 1369) (by decide +kernel), List.mem_of_getElem? (i := 1547) (by decide +kernel), List.mem_of_getElem? (i := 1548) (by decide +kernel)⟩
theorem lw_p51 : lw_okq (⟨"WindSignedModel", "takes", "(Ljava/lang/String;)Z"⟩, 39) := ⟨⟨by decide +kernel, by decide +kernel⟩, List.mem_of_getElem? (i := 1369) (by decide +kernel), List.mem_of_getElem? (i := 1551) (by decide +kernel), List.mem_of_getElem? (i := 1552) (by decide +kernel)⟩
theorem lw_p52 : lw_okq (⟨"WindSignedModel", "is", "(Ljava/lang/String;)Z"⟩, 39) := ⟨⟨by decide +kernel, by decide +kernel⟩, List.mem_of_getElem? (i := 1369) (by decide +kernel), List.mem_of_getElem? (i := 1555) (by decide +kernel), List.mem_of_getElem? (i := 1556) (by decide +kernel)⟩
theorem lw_p53 : lw_okq (⟨"WindSignedModel", "errs", "(I)V"⟩, 39) := ⟨⟨by decide +kernel, by decide +kernel⟩, List.mem_of_getElem? (i := 1369) (by decide +kernel), List.mem_of_getElem? (i := 1561) (by decide +kernel), List.mem_of_getElem? (i := 1562) (by decide +kernel)⟩
theorem lw_p54 : lw_okq (⟨"WindSignedModel", "toldBy", "(Ljava/lang/String;II)I"⟩, 39) := ⟨⟨by decide +kernel, by decide +kernel⟩, List.mem_of_getElem? (i := 1369) (by decide +kernel), List.mem_of_getElem? (i := 1566) (by decide +kernel), List.mem_of_getElem? (i := 1567) (by decide +kernel)⟩
theorem lw_p55 : lw_okq (⟨"WindSignedModel", "number", "(II)I"⟩, 39) := ⟨⟨by decide +kernel, by decide +kernel⟩, List.mem_of_getElem? (i := 1369) (by decide +kernel), List.mem_of_getElem? (i := 1570) (by decide +kernel), List.mem_of_getElem? (i := 1571) (by decide +kernel)⟩
theorem lw_p56 : lw_okq (⟨"WindSignedModel", "readNext", "()V"⟩, 39) := ⟨⟨by decide +kernel, by decide +kernel⟩, List.mem_of_getElem? (i := 1369) (by decide +kernel), List.mem_of_getElem? (i := 1578) (by decide +kernel), List.mem_of_getElem? (i := 1579) (by decide +kernel)⟩
theorem lw_p57 : lw_okq (⟨"WindSignedModel", "isFull", "()Z"⟩, 39) := ⟨⟨by decide +kernel, by decide +kernel⟩, List.mem_of_getElem? (i := 1369) (by decide +kernel), List.mem_of_getElem? (i := 1586) (by decide +kernel), List.mem_of_getElem? (i := 1587) (by decide +kernel)⟩
theorem lw_p58 : lw_okq (⟨"WindSignedModel", "readCell", "(II)I"⟩, 39) := ⟨⟨by decide +kernel, by decide +kernel⟩, List.mem_of_getElem? (i := 1369) (by decide +kernel), List.mem_of_getElem? (i := 1590) (by decide +kernel), List.mem_of_getElem? (i := 1591) (by decide +kernel)⟩
theorem lw_p59 : lw_okq (⟨"WindSignedModel", "isTaken", "(III)Z"⟩, 39) := ⟨⟨by decide +kernel, by decide +kernel⟩, List.mem_of_getElem? (i := 1369) (by decide +kernel), List.mem_of_getElem? (i := 1594) (by decide +kernel), List.mem_of_getElem? (i := 1595) (by decide +kernel)⟩
theorem lw_p60 : lw_okq (⟨"WindSignedModel", "readThing", "()V"⟩, 39) := ⟨⟨by decide +kernel, by decide +kernel⟩, List.mem_of_getElem? (i := 1369) (by decide +kernel), List.mem_of_getElem? (i := 1598) (by decide +kernel), List.mem_of_getElem? (i := 1599) (by decide +kernel)⟩
theorem lw_p61 : lw_okq (⟨"WindSignedModel", "readWind", "()V"⟩, 39) := ⟨⟨by decide +kernel, by decide +kernel⟩, List.mem_of_getElem? (i := 1369) (by decide +kernel), List.mem_of_getElem? (i := 1605) (by decide +kernel), List.mem_of_getElem? (i := 1606) (by decide +kernel)⟩
theorem lw_p62 : lw_okq (⟨"WindSignedModel", "isHouse", "(I)Z"⟩, 39) := ⟨⟨by decide +kernel, by decide +kernel⟩, List.mem_of_getElem? (i := 1369) (by decide +kernel), List.mem_of_getElem? (i := 1613) (by decide +kernel), List.mem_of_getElem? (i := 1614) (by decide +kernel)⟩
theorem lw_p63 : lw_okq (⟨"WindSignedModel", "houses", "()I"⟩, 39) := ⟨⟨by decide +kernel, by decide +kernel⟩, List.mem_of_getElem? (i := 1369) (by decide +kernel), List.mem_of_getElem? (i := 1617) (by decide +kernel), List.mem_of_getElem? (i := 1618) (by decide +kernel)⟩
def lw_privs_4 : List (MethodName × Nat) := [(⟨"WindSignedModel", "readLine", "()V"⟩, 39), (⟨"WindSignedModel", "readFirst", "()V"⟩, 39), (⟨"WindSignedModel", "expects", "(Ljava/lang/String;)V"⟩, 39), (⟨"WindSignedModel", "takes", "(Ljava/lang/String;)Z"⟩, 39), (⟨"WindSignedModel", "is", "(Ljava/lang/String;)Z"⟩, 39), (⟨"WindSignedModel", "errs", "(I)V"⟩, 39), (⟨"WindSignedModel", "toldBy", "(Ljava/lang/String;II)I"⟩, 39), (⟨"WindSignedModel", "number", "(II)I"⟩, 39), (⟨"WindSignedModel", "readNext", "()V"⟩, 39), (⟨"WindSignedModel", "isFull", "()Z"⟩, 39), (⟨"WindSignedModel", "readCell", "(II)I"⟩, 39), (⟨"WindSignedModel", "isTaken", "(III)Z"⟩, 39), (⟨"WindSignedModel", "readThing", "()V"⟩, 39), (⟨"WindSignedModel", "readWind", "()V"⟩, 39), (⟨"WindSignedModel", "isHouse", "(I)Z"⟩, 39), (⟨"WindSignedModel", "houses", "()I"⟩, 39)]
theorem lw_r4 : ∀ q ∈ lw_privs_4, lw_okq q := List.forall_mem_cons.mpr ⟨lw_p48, List.forall_mem_cons.mpr ⟨lw_p49, List.forall_mem_cons.mpr ⟨lw_p50, List.forall_mem_cons.mpr ⟨lw_p51, List.forall_mem_cons.mpr ⟨lw_p52, List.forall_mem_cons.mpr ⟨lw_p53, List.forall_mem_cons.mpr ⟨lw_p54, List.forall_mem_cons.mpr ⟨lw_p55, List.forall_mem_cons.mpr ⟨lw_p56, List.forall_mem_cons.mpr ⟨lw_p57, List.forall_mem_cons.mpr ⟨lw_p58, List.forall_mem_cons.mpr ⟨lw_p59, List.forall_mem_cons.mpr ⟨lw_p60, List.forall_mem_cons.mpr ⟨lw_p61, List.forall_mem_cons.mpr ⟨lw_p62, List.forall_mem_cons.mpr ⟨lw_p63, fun _ h => absurd h List.not_mem_nil⟩⟩⟩⟩⟩⟩⟩⟩⟩⟩⟩⟩⟩⟩⟩⟩
theorem lw_p64 : lw_okq (⟨"WindSignedModel", "shelters", "()I"⟩, 39) := ⟨⟨by decide +kernel, by decide +kernel⟩, List.mem_of_getElem? (i := 1369) (by decide +kernel), List.mem_of_getElem? (i := 1625) (by decide +kernel), List.mem_of_getElem? (i := 1626) (by decide +kernel)⟩
theorem lw_p65 : lw_okq (⟨"WindSignedModel", "isThing", "(I)Z"⟩, 39) := ⟨⟨by decide +kernel, by decide +kernel⟩, List.mem_of_getElem? (i := 1369) (by decide +kernel), List.mem_of_getElem? (i := 1633) (by decide +kernel), List.mem_of_getElem? (i := 1634) (by decide +kernel)⟩
theorem lw_p66 : lw_okq (⟨"WindSignedModel", "things", "()I"⟩, 39) := ⟨⟨by decide +kernel, by decide +kernel⟩, List.mem_of_getElem? (i := 1369) (by decide +kernel), List.mem_of_getElem? (i := 1637) (by decide +kernel), List.mem_of_getElem? (i := 1638) (by decide +kernel)⟩
theorem lw_p67 : lw_okq (⟨"WindSignedModel", "thingOf", "(II)I"⟩, 39) := ⟨⟨by decide +kernel, by decide +kernel⟩, List.mem_of_getElem? (i := 1369) (by decide +kernel), List.mem_of_getElem? (i := 1641) (by decide +kernel), List.mem_of_getElem? (i := 1642) (by decide +kernel)⟩
theorem lw_p68 : lw_okq (⟨"WindSignedModel", "windOf", "(II)I"⟩, 39) := ⟨⟨by decide +kernel, by decide +kernel⟩, List.mem_of_getElem? (i := 1369) (by decide +kernel), List.mem_of_getElem? (i := 1649) (by decide +kernel), List.mem_of_getElem? (i := 1650) (by decide +kernel)⟩
theorem lw_p69 : lw_okq (⟨"WindSignedModel", "asksDay", "(I)Z"⟩, 39) := ⟨⟨by decide +kernel, by decide +kernel⟩, List.mem_of_getElem? (i := 1369) (by decide +kernel), List.mem_of_getElem? (i := 1657) (by decide +kernel), List.mem_of_getElem? (i := 1658) (by decide +kernel)⟩
theorem lw_p70 : lw_okq (⟨"WindSignedModel", "asksPlain", "()Z"⟩, 39) := ⟨⟨by decide +kernel, by decide +kernel⟩, List.mem_of_getElem? (i := 1369) (by decide +kernel), List.mem_of_getElem? (i := 1661) (by decide +kernel), List.mem_of_getElem? (i := 1662) (by decide +kernel)⟩
theorem lw_p71 : lw_okq (⟨"WindSignedModel", "asItIs", "()V"⟩, 39) := ⟨⟨by decide +kernel, by decide +kernel⟩, List.mem_of_getElem? (i := 1369) (by decide +kernel), List.mem_of_getElem? (i := 1665) (by decide +kernel), List.mem_of_getElem? (i := 1666) (by decide +kernel)⟩
theorem lw_p72 : lw_okq (⟨"WindSignedModel", "allShelters", "()I"⟩, 39) := ⟨⟨by decide +kernel, by decide +kernel⟩, List.mem_of_getElem? (i := 1369) (by decide +kernel), List.mem_of_getElem? (i := 1669) (by decide +kernel), List.mem_of_getElem? (i := 1670) (by decide +kernel)⟩
theorem lw_p73 : lw_okq (⟨"WindSignedModel", "raise", "(I)V"⟩, 39) := ⟨⟨by decide +kernel, by decide +kernel⟩, List.mem_of_getElem? (i := 1369) (by decide +kernel), List.mem_of_getElem? (i := 1673) (by decide +kernel), List.mem_of_getElem? (i := 1674) (by decide +kernel)⟩
theorem lw_p74 : lw_okq (⟨"WindSignedModel", "goAll", "()V"⟩, 39) := ⟨⟨by decide +kernel, by decide +kernel⟩, List.mem_of_getElem? (i := 1369) (by decide +kernel), List.mem_of_getElem? (i := 1680) (by decide +kernel), List.mem_of_getElem? (i := 1681) (by decide +kernel)⟩
theorem lw_p75 : lw_okq (⟨"WindSignedModel", "days", "()I"⟩, 39) := ⟨⟨by decide +kernel, by decide +kernel⟩, List.mem_of_getElem? (i := 1369) (by decide +kernel), List.mem_of_getElem? (i := 1684) (by decide +kernel), List.mem_of_getElem? (i := 1685) (by decide +kernel)⟩
theorem lw_p76 : lw_okq (⟨"WindSignedModel", "goDay", "(I)V"⟩, 39) := ⟨⟨by decide +kernel, by decide +kernel⟩, List.mem_of_getElem? (i := 1369) (by decide +kernel), List.mem_of_getElem? (i := 1688) (by decide +kernel), List.mem_of_getElem? (i := 1689) (by decide +kernel)⟩
theorem lw_p77 : lw_okq (⟨"WindSignedModel", "windBlows", "(IIII)V"⟩, 39) := ⟨⟨by decide +kernel, by decide +kernel⟩, List.mem_of_getElem? (i := 1369) (by decide +kernel), List.mem_of_getElem? (i := 1692) (by decide +kernel), List.mem_of_getElem? (i := 1693) (by decide +kernel)⟩
theorem lw_p78 : lw_okq (⟨"WindSignedModel", "blowOver", "(III)I"⟩, 39) := ⟨⟨by decide +kernel, by decide +kernel⟩, List.mem_of_getElem? (i := 1369) (by decide +kernel), List.mem_of_getElem? (i := 1696) (by decide +kernel), List.mem_of_getElem? (i := 1697) (by decide +kernel)⟩
theorem lw_p79 : lw_okq (⟨"WindSignedModel", "isKept", "(II)Z"⟩, 39) := ⟨⟨by decide +kernel, by decide +kernel⟩, List.mem_of_getElem? (i := 1369) (by decide +kernel), List.mem_of_getElem? (i := 1700) (by decide +kernel), List.mem_of_getElem? (i := 1701) (by decide +kernel)⟩
def lw_privs_5 : List (MethodName × Nat) := [(⟨"WindSignedModel", "shelters", "()I"⟩, 39), (⟨"WindSignedModel", "isThing", "(I)Z"⟩, 39), (⟨"WindSignedModel", "things", "()I"⟩, 39), (⟨"WindSignedModel", "thingOf", "(II)I"⟩, 39), (⟨"WindSignedModel", "windOf", "(II)I"⟩, 39), (⟨"WindSignedModel", "asksDay", "(I)Z"⟩, 39), (⟨"WindSignedModel", "asksPlain", "()Z"⟩, 39), (⟨"WindSignedModel", "asItIs", "()V"⟩, 39), (⟨"WindSignedModel", "allShelters", "()I"⟩, 39), (⟨"WindSignedModel", "raise", "(I)V"⟩, 39), (⟨"WindSignedModel", "goAll", "()V"⟩, 39), (⟨"WindSignedModel", "days", "()I"⟩, 39), (⟨"WindSignedModel", "goDay", "(I)V"⟩, 39), (⟨"WindSignedModel", "windBlows", "(IIII)V"⟩, 39), (⟨"WindSignedModel", "blowOver", "(III)I"⟩, 39), (⟨"WindSignedModel", "isKept", "(II)Z"⟩, 39)]
theorem lw_r5 : ∀ q ∈ lw_privs_5, lw_okq q := List.forall_mem_cons.mpr ⟨lw_p64, List.forall_mem_cons.mpr ⟨lw_p65, List.forall_mem_cons.mpr ⟨lw_p66, List.forall_mem_cons.mpr ⟨lw_p67, List.forall_mem_cons.mpr ⟨lw_p68, List.forall_mem_cons.mpr ⟨lw_p69, List.forall_mem_cons.mpr ⟨lw_p70, List.forall_mem_cons.mpr ⟨lw_p71, List.forall_mem_cons.mpr ⟨lw_p72, List.forall_mem_cons.mpr ⟨lw_p73, List.forall_mem_cons.mpr ⟨lw_p74, List.forall_mem_cons.mpr ⟨lw_p75, List.forall_mem_cons.mpr ⟨lw_p76, List.forall_mem_cons.mpr ⟨lw_p77, List.forall_mem_cons.mpr ⟨lw_p78, List.forall_mem_cons.mpr ⟨lw_p79, fun _ h => absurd h List.not_mem_nil⟩⟩⟩⟩⟩⟩⟩⟩⟩⟩⟩⟩⟩⟩⟩⟩
theorem lw_p80 : lw_okq (⟨"WindSignedModel", "beside", "(II)I"⟩, 39) := ⟨⟨by decide +kernel, by decide +kernel⟩, List.mem_of_getElem? (i := 1369) (by decide +kernel), List.mem_of_getElem? (i := 1707) (by decide +kernel), List.mem_of_getElem? (i := 1708) (by decide +kernel)⟩
theorem lw_p81 : lw_okq (⟨"WindSignedModel", "otherEdge", "(II)I"⟩, 39) := ⟨⟨by decide +kernel, by decide +kernel⟩, List.mem_of_getElem? (i := 1369) (by decide +kernel), List.mem_of_getElem? (i := 1717) (by decide +kernel), List.mem_of_getElem? (i := 1718) (by decide +kernel)⟩
theorem lw_p82 : lw_okq (⟨"WindSignedModel", "isPlain", "()Z"⟩, 39) := ⟨⟨by decide +kernel, by decide +kernel⟩, List.mem_of_getElem? (i := 1369) (by decide +kernel), List.mem_of_getElem? (i := 1724) (by decide +kernel), List.mem_of_getElem? (i := 1725) (by decide +kernel)⟩
theorem lw_p83 : lw_okq (⟨"WindSignedModel", "isDay", "(J)Z"⟩, 39) := ⟨⟨by decide +kernel, by decide +kernel⟩, List.mem_of_getElem? (i := 1369) (by decide +kernel), List.mem_of_getElem? (i := 1728) (by decide +kernel), List.mem_of_getElem? (i := 1729) (by decide +kernel)⟩
theorem lw_p84 : lw_okq (⟨"WindSignedModel", "liesOf", "(II)I"⟩, 39) := ⟨⟨by decide +kernel, by decide +kernel⟩, List.mem_of_getElem? (i := 1369) (by decide +kernel), List.mem_of_getElem? (i := 1732) (by decide +kernel), List.mem_of_getElem? (i := 1733) (by decide +kernel)⟩
theorem lw_p85 : lw_okq (⟨"WindSignedModel", "isCell", "(J)Z"⟩, 39) := ⟨⟨by decide +kernel, by decide +kernel⟩, List.mem_of_getElem? (i := 1369) (by decide +kernel), List.mem_of_getElem? (i := 1740) (by decide +kernel), List.mem_of_getElem? (i := 1741) (by decide +kernel)⟩
theorem lw_p86 : lw_okq (⟨"WindSignedModel", "hereOf", "(II)I"⟩, 39) := ⟨⟨by decide +kernel, by decide +kernel⟩, List.mem_of_getElem? (i := 1369) (by decide +kernel), List.mem_of_getElem? (i := 1745) (by decide +kernel), List.mem_of_getElem? (i := 1746) (by decide +kernel)⟩
theorem lw_p87 : lw_okq (⟨"WindSignedModel", "asksAhead", "(I)Z"⟩, 39) := ⟨⟨by decide +kernel, by decide +kernel⟩, List.mem_of_getElem? (i := 1369) (by decide +kernel), List.mem_of_getElem? (i := 1753) (by decide +kernel), List.mem_of_getElem? (i := 1754) (by decide +kernel)⟩
theorem lw_p88 : lw_okq (⟨"WindSignedModel", "isAhead", "(J)Z"⟩, 39) := ⟨⟨by decide +kernel, by decide +kernel⟩, List.mem_of_getElem? (i := 1369) (by decide +kernel), List.mem_of_getElem? (i := 1757) (by decide +kernel), List.mem_of_getElem? (i := 1758) (by decide +kernel)⟩
theorem lw_p89 : lw_okq (⟨"WindSignedModel", "movedIn", "(I)I"⟩, 39) := ⟨⟨by decide +kernel, by decide +kernel⟩, List.mem_of_getElem? (i := 1369) (by decide +kernel), List.mem_of_getElem? (i := 1761) (by decide +kernel), List.mem_of_getElem? (i := 1762) (by decide +kernel)⟩
theorem lw_p90 : lw_okq (⟨"WindSignedModel", "asksThing", "(I)Z"⟩, 39) := ⟨⟨by decide +kernel, by decide +kernel⟩, List.mem_of_getElem? (i := 1369) (by decide +kernel), List.mem_of_getElem? (i := 1773) (by decide +kernel), List.mem_of_getElem? (i := 1774) (by decide +kernel)⟩
theorem lw_p91 : lw_okq (⟨"WindSignedModel", "wornBy", "(I)I"⟩, 39) := ⟨⟨by decide +kernel, by decide +kernel⟩, List.mem_of_getElem? (i := 1369) (by decide +kernel), List.mem_of_getElem? (i := 1777) (by decide +kernel), List.mem_of_getElem? (i := 1778) (by decide +kernel)⟩
theorem lw_p92 : lw_okq (⟨"WindSignedModel", "waitsOf", "(I)I"⟩, 39) := ⟨⟨by decide +kernel, by decide +kernel⟩, List.mem_of_getElem? (i := 1369) (by decide +kernel), List.mem_of_getElem? (i := 1793) (by decide +kernel), List.mem_of_getElem? (i := 1794) (by decide +kernel)⟩
theorem lw_p93 : lw_okq (⟨"WindSignedModel", "hadBy", "(II)I"⟩, 39) := ⟨⟨by decide +kernel, by decide +kernel⟩, List.mem_of_getElem? (i := 1369) (by decide +kernel), List.mem_of_getElem? (i := 1809) (by decide +kernel), List.mem_of_getElem? (i := 1810) (by decide +kernel)⟩
theorem lw_p94 : lw_okq (⟨"WindSignedModel", "hasOf", "(II)I"⟩, 39) := ⟨⟨by decide +kernel, by decide +kernel⟩, List.mem_of_getElem? (i := 1369) (by decide +kernel), List.mem_of_getElem? (i := 1821) (by decide +kernel), List.mem_of_getElem? (i := 1822) (by decide +kernel)⟩
theorem lw_p95 : lw_okq (⟨"WindSignedModel", "rightIn", "(I)I"⟩, 39) := ⟨⟨by decide +kernel, by decide +kernel⟩, List.mem_of_getElem? (i := 1369) (by decide +kernel), List.mem_of_getElem? (i := 1829) (by decide +kernel), List.mem_of_getElem? (i := 1830) (by decide +kernel)⟩
def lw_privs_6 : List (MethodName × Nat) := [(⟨"WindSignedModel", "beside", "(II)I"⟩, 39), (⟨"WindSignedModel", "otherEdge", "(II)I"⟩, 39), (⟨"WindSignedModel", "isPlain", "()Z"⟩, 39), (⟨"WindSignedModel", "isDay", "(J)Z"⟩, 39), (⟨"WindSignedModel", "liesOf", "(II)I"⟩, 39), (⟨"WindSignedModel", "isCell", "(J)Z"⟩, 39), (⟨"WindSignedModel", "hereOf", "(II)I"⟩, 39), (⟨"WindSignedModel", "asksAhead", "(I)Z"⟩, 39), (⟨"WindSignedModel", "isAhead", "(J)Z"⟩, 39), (⟨"WindSignedModel", "movedIn", "(I)I"⟩, 39), (⟨"WindSignedModel", "asksThing", "(I)Z"⟩, 39), (⟨"WindSignedModel", "wornBy", "(I)I"⟩, 39), (⟨"WindSignedModel", "waitsOf", "(I)I"⟩, 39), (⟨"WindSignedModel", "hadBy", "(II)I"⟩, 39), (⟨"WindSignedModel", "hasOf", "(II)I"⟩, 39), (⟨"WindSignedModel", "rightIn", "(I)I"⟩, 39)]
theorem lw_r6 : ∀ q ∈ lw_privs_6, lw_okq q := List.forall_mem_cons.mpr ⟨lw_p80, List.forall_mem_cons.mpr ⟨lw_p81, List.forall_mem_cons.mpr ⟨lw_p82, List.forall_mem_cons.mpr ⟨lw_p83, List.forall_mem_cons.mpr ⟨lw_p84, List.forall_mem_cons.mpr ⟨lw_p85, List.forall_mem_cons.mpr ⟨lw_p86, List.forall_mem_cons.mpr ⟨lw_p87, List.forall_mem_cons.mpr ⟨lw_p88, List.forall_mem_cons.mpr ⟨lw_p89, List.forall_mem_cons.mpr ⟨lw_p90, List.forall_mem_cons.mpr ⟨lw_p91, List.forall_mem_cons.mpr ⟨lw_p92, List.forall_mem_cons.mpr ⟨lw_p93, List.forall_mem_cons.mpr ⟨lw_p94, List.forall_mem_cons.mpr ⟨lw_p95, fun _ h => absurd h List.not_mem_nil⟩⟩⟩⟩⟩⟩⟩⟩⟩⟩⟩⟩⟩⟩⟩⟩
theorem lw_p96 : lw_okq (⟨"WindSignedModel", "isEdge", "(I)Z"⟩, 39) := ⟨⟨by decide +kernel, by decide +kernel⟩, List.mem_of_getElem? (i := 1369) (by decide +kernel), List.mem_of_getElem? (i := 1873) (by decide +kernel), List.mem_of_getElem? (i := 1874) (by decide +kernel)⟩
theorem lw_p97 : lw_okq (⟨"WindSignedModel", "forceOf", "(I)I"⟩, 39) := ⟨⟨by decide +kernel, by decide +kernel⟩, List.mem_of_getElem? (i := 1369) (by decide +kernel), List.mem_of_getElem? (i := 1885) (by decide +kernel), List.mem_of_getElem? (i := 1886) (by decide +kernel)⟩
theorem lw_p98 : lw_okq (⟨"WindSignedModel", "movesOf", "(I)I"⟩, 39) := ⟨⟨by decide +kernel, by decide +kernel⟩, List.mem_of_getElem? (i := 1369) (by decide +kernel), List.mem_of_getElem? (i := 1909) (by decide +kernel), List.mem_of_getElem? (i := 1910) (by decide +kernel)⟩
theorem lw_p99 : lw_okq (⟨"WindSignedModel", "keepsOf", "(I)I"⟩, 39) := ⟨⟨by decide +kernel, by decide +kernel⟩, List.mem_of_getElem? (i := 1369) (by decide +kernel), List.mem_of_getElem? (i := 1925) (by decide +kernel), List.mem_of_getElem? (i := 1926) (by decide +kernel)⟩
theorem lw_p100 : lw_okq (⟨"WindSignedModel", "blowOf", "(IIII)I"⟩, 39) := ⟨⟨by decide +kernel, by decide +kernel⟩, List.mem_of_getElem? (i := 1369) (by decide +kernel), List.mem_of_getElem? (i := 1938) (by decide +kernel), List.mem_of_getElem? (i := 1939) (by decide +kernel)⟩
theorem lw_p101 : lw_okq (⟨"WindSignedModel", "rightLast", "()I"⟩, 39) := ⟨⟨by decide +kernel, by decide +kernel⟩, List.mem_of_getElem? (i := 1369) (by decide +kernel), List.mem_of_getElem? (i := 1951) (by decide +kernel), List.mem_of_getElem? (i := 1952) (by decide +kernel)⟩
theorem lw_p102 : lw_okq (⟨"WindSignedModel", "layFits", "(II)I"⟩, 39) := ⟨⟨by decide +kernel, by decide +kernel⟩, List.mem_of_getElem? (i := 1369) (by decide +kernel), List.mem_of_getElem? (i := 1963) (by decide +kernel), List.mem_of_getElem? (i := 1964) (by decide +kernel)⟩
theorem lw_p103 : lw_okq (⟨"WindSignedModel", "askSeen", "(II)I"⟩, 39) := ⟨⟨by decide +kernel, by decide +kernel⟩, List.mem_of_getElem? (i := 1369) (by decide +kernel), List.mem_of_getElem? (i := 1967) (by decide +kernel), List.mem_of_getElem? (i := 1968) (by decide +kernel)⟩
theorem lw_p104 : lw_okq (⟨"WindSignedModel", "numberAt", "(II)J"⟩, 39) := ⟨⟨by decide +kernel, by decide +kernel⟩, List.mem_of_getElem? (i := 1369) (by decide +kernel), List.mem_of_getElem? (i := 1974) (by decide +kernel), List.mem_of_getElem? (i := 1975) (by decide +kernel)⟩
theorem lw_p105 : lw_okq (⟨"WindSignedModel", "isSeen", "(II)Z"⟩, 39) := ⟨⟨by decide +kernel, by decide +kernel⟩, List.mem_of_getElem? (i := 1369) (by decide +kernel), List.mem_of_getElem? (i := 1979) (by decide +kernel), List.mem_of_getElem? (i := 1980) (by decide +kernel)⟩
theorem lw_p106 : lw_okq (⟨"WindSignedModel", "askOf", "()I"⟩, 39) := ⟨⟨by decide +kernel, by decide +kernel⟩, List.mem_of_getElem? (i := 1369) (by decide +kernel), List.mem_of_getElem? (i := 1995) (by decide +kernel), List.mem_of_getElem? (i := 1996) (by decide +kernel)⟩
theorem lw_p107 : lw_okq (⟨"WindSignedModel", "worstIn", "(I)I"⟩, 39) := ⟨⟨by decide +kernel, by decide +kernel⟩, List.mem_of_getElem? (i := 1369) (by decide +kernel), List.mem_of_getElem? (i := 1999) (by decide +kernel), List.mem_of_getElem? (i := 2000) (by decide +kernel)⟩
theorem lw_p108 : lw_okq (⟨"WindSignedModel", "goBy", "(I)V"⟩, 39) := ⟨⟨by decide +kernel, by decide +kernel⟩, List.mem_of_getElem? (i := 1369) (by decide +kernel), List.mem_of_getElem? (i := 2015) (by decide +kernel), List.mem_of_getElem? (i := 2016) (by decide +kernel)⟩
theorem lw_p109 : lw_okq (⟨"WindSignedModel", "allSteps", "()I"⟩, 39) := ⟨⟨by decide +kernel, by decide +kernel⟩, List.mem_of_getElem? (i := 1369) (by decide +kernel), List.mem_of_getElem? (i := 2023) (by decide +kernel), List.mem_of_getElem? (i := 2024) (by decide +kernel)⟩
theorem lw_p110 : lw_okq (⟨"WindSignedModel", "worthOf", "(I)I"⟩, 39) := ⟨⟨by decide +kernel, by decide +kernel⟩, List.mem_of_getElem? (i := 1369) (by decide +kernel), List.mem_of_getElem? (i := 2031) (by decide +kernel), List.mem_of_getElem? (i := 2032) (by decide +kernel)⟩
theorem lw_p111 : lw_okq (⟨"WindSignedModel", "areHouses", "(II)Z"⟩, 39) := ⟨⟨by decide +kernel, by decide +kernel⟩, List.mem_of_getElem? (i := 1369) (by decide +kernel), List.mem_of_getElem? (i := 2053) (by decide +kernel), List.mem_of_getElem? (i := 2054) (by decide +kernel)⟩
def lw_privs_7 : List (MethodName × Nat) := [(⟨"WindSignedModel", "isEdge", "(I)Z"⟩, 39), (⟨"WindSignedModel", "forceOf", "(I)I"⟩, 39), (⟨"WindSignedModel", "movesOf", "(I)I"⟩, 39), (⟨"WindSignedModel", "keepsOf", "(I)I"⟩, 39), (⟨"WindSignedModel", "blowOf", "(IIII)I"⟩, 39), (⟨"WindSignedModel", "rightLast", "()I"⟩, 39), (⟨"WindSignedModel", "layFits", "(II)I"⟩, 39), (⟨"WindSignedModel", "askSeen", "(II)I"⟩, 39), (⟨"WindSignedModel", "numberAt", "(II)J"⟩, 39), (⟨"WindSignedModel", "isSeen", "(II)Z"⟩, 39), (⟨"WindSignedModel", "askOf", "()I"⟩, 39), (⟨"WindSignedModel", "worstIn", "(I)I"⟩, 39), (⟨"WindSignedModel", "goBy", "(I)V"⟩, 39), (⟨"WindSignedModel", "allSteps", "()I"⟩, 39), (⟨"WindSignedModel", "worthOf", "(I)I"⟩, 39), (⟨"WindSignedModel", "areHouses", "(II)Z"⟩, 39)]
theorem lw_r7 : ∀ q ∈ lw_privs_7, lw_okq q := List.forall_mem_cons.mpr ⟨lw_p96, List.forall_mem_cons.mpr ⟨lw_p97, List.forall_mem_cons.mpr ⟨lw_p98, List.forall_mem_cons.mpr ⟨lw_p99, List.forall_mem_cons.mpr ⟨lw_p100, List.forall_mem_cons.mpr ⟨lw_p101, List.forall_mem_cons.mpr ⟨lw_p102, List.forall_mem_cons.mpr ⟨lw_p103, List.forall_mem_cons.mpr ⟨lw_p104, List.forall_mem_cons.mpr ⟨lw_p105, List.forall_mem_cons.mpr ⟨lw_p106, List.forall_mem_cons.mpr ⟨lw_p107, List.forall_mem_cons.mpr ⟨lw_p108, List.forall_mem_cons.mpr ⟨lw_p109, List.forall_mem_cons.mpr ⟨lw_p110, List.forall_mem_cons.mpr ⟨lw_p111, fun _ h => absurd h List.not_mem_nil⟩⟩⟩⟩⟩⟩⟩⟩⟩⟩⟩⟩⟩⟩⟩⟩
theorem lw_p112 : lw_okq (⟨"WindSignedModel", "getsBy", "(IIIII)I"⟩, 39) := ⟨⟨by decide +kernel, by decide +kernel⟩, List.mem_of_getElem? (i := 1369) (by decide +kernel), List.mem_of_getElem? (i := 2057) (by decide +kernel), List.mem_of_getElem? (i := 2058) (by decide +kernel)⟩
theorem lw_p113 : lw_okq (⟨"WindSignedModel", "layWinds", "(I)V"⟩, 39) := ⟨⟨by decide +kernel, by decide +kernel⟩, List.mem_of_getElem? (i := 1369) (by decide +kernel), List.mem_of_getElem? (i := 2070) (by decide +kernel), List.mem_of_getElem? (i := 2071) (by decide +kernel)⟩
theorem lw_p114 : lw_okq (⟨"WindSignedModel", "keepAct", "(I)Z"⟩, 39) := ⟨⟨by decide +kernel, by decide +kernel⟩, List.mem_of_getElem? (i := 1369) (by decide +kernel), List.mem_of_getElem? (i := 2083) (by decide +kernel), List.mem_of_getElem? (i := 2084) (by decide +kernel)⟩
theorem lw_p115 : lw_okq (⟨"WindSignedModel", "goDrawn", "(J)I"⟩, 39) := ⟨⟨by decide +kernel, by decide +kernel⟩, List.mem_of_getElem? (i := 1369) (by decide +kernel), List.mem_of_getElem? (i := 2107) (by decide +kernel), List.mem_of_getElem? (i := 2108) (by decide +kernel)⟩
def lw_privs_8 : List (MethodName × Nat) := [(⟨"WindSignedModel", "getsBy", "(IIIII)I"⟩, 39), (⟨"WindSignedModel", "layWinds", "(I)V"⟩, 39), (⟨"WindSignedModel", "keepAct", "(I)Z"⟩, 39), (⟨"WindSignedModel", "goDrawn", "(J)I"⟩, 39)]
theorem lw_r8 : ∀ q ∈ lw_privs_8, lw_okq q := List.forall_mem_cons.mpr ⟨lw_p112, List.forall_mem_cons.mpr ⟨lw_p113, List.forall_mem_cons.mpr ⟨lw_p114, List.forall_mem_cons.mpr ⟨lw_p115, fun _ h => absurd h List.not_mem_nil⟩⟩⟩⟩
def lw_privs : List (MethodName × Nat) := lw_privs_1 ++ (lw_privs_2 ++ (lw_privs_3 ++ (lw_privs_4 ++ (lw_privs_5 ++ (lw_privs_6 ++ (lw_privs_7 ++ (lw_privs_8)))))))
def lw_tbl : List Cond := k2_sels lw_privs ++ tables_1
theorem lw_privs_ok : ∀ q ∈ lw_privs, lw_okq q := by
  show ∀ q ∈ lw_privs_1 ++ (lw_privs_2 ++ (lw_privs_3 ++ (lw_privs_4 ++ (lw_privs_5 ++ (lw_privs_6 ++ (lw_privs_7 ++ (lw_privs_8))))))), lw_okq q
  exact List.forall_mem_append.mpr ⟨lw_r1, List.forall_mem_append.mpr ⟨lw_r2, List.forall_mem_append.mpr ⟨lw_r3, List.forall_mem_append.mpr ⟨lw_r4, List.forall_mem_append.mpr ⟨lw_r5, List.forall_mem_append.mpr ⟨lw_r6, List.forall_mem_append.mpr ⟨lw_r7, lw_r8⟩⟩⟩⟩⟩⟩⟩
end
section
/-! ===== BEGIN new T[n][m]: the outer array a place, the inner ones among the pooled ===== -/
/-- f, but v at every address of l -/
def vr_up {α : Type} (f : Nat → α) (l : List Nat) (v : α) : Nat → α := fun a => if a ∈ l then v else f a
theorem vr_up_in {α : Type} {f : Nat → α} {l : List Nat} {v : α} {a : Nat} (h : a ∈ l) : vr_up f l v a = v := if_pos h
theorem vr_up_ne {α : Type} {f : Nat → α} {l : List Nat} {v : α} {a : Nat} (h : a ∉ l) : vr_up f l v a = f a := if_neg h
theorem vr_rows {L l : List Nat} {f : Nat → va_E} {e : va_E} (h : ∀ a, a ∈ l → a ∉ L) : va_pl L f ++ l.map (fun a => (a, e)) = va_pl (L ++ l) (vr_up f l e) := by
  unfold va_pl
  rw [List.map_append]
  congr 1
  · apply List.map_congr_left
    intro a ha
    rw [vr_up_ne (fun q => h a q ha)]
  · apply List.map_congr_left
    intro a ha
    rw [vr_up_in ha]
theorem vr_lay {X rows : va_W} {x : Nat × va_E} {pl : va_W} {D : va_G} {cl : List vw_C} {H : Heap} (hP : va_P D cl (((X ++ pl) ++ [x]) ++ rows) H) : va_P D cl ((X ++ [x]) ++ (pl ++ rows)) H := by
  rw [List.append_assoc (X ++ pl)] at hP
  have h := va_P.swap hP
  rw [← List.append_assoc X] at h
  have h2 := va_P.swap h
  rw [List.append_assoc (X ++ [x])] at h2
  exact h2
theorem vr_layD {X rows : va_W} {x : Nat × va_E} {pl : va_W} {A : Nat → Prop} (hD : va_D A (((X ++ pl) ++ [x]) ++ rows)) : va_D A ((X ++ [x]) ++ (pl ++ rows)) := by
  rw [List.append_assoc (X ++ pl)] at hD
  have h := va_D.swap hD
  rw [← List.append_assoc X] at h
  have h2 := va_D.swap h
  rw [List.append_assoc (X ++ [x])] at h2
  exact h2
theorem vr_outer (c : ClassId) (N h0 : Nat) : ∀ i : Nat, Jvm.Free.Multi.outerC c N h0 i = arrV c N (fun j => va_rf (if j < i then some (h0 + 1 + j) else none))
  | 0 => by
    show ({ cls := c, slots := Array.replicate N .null, vm := .none } : Cell) = _
    rw [arrV_new]
    refine congrArg (arrV c N) (funext fun j => ?_)
    simp [va_rf]
  | i + 1 => by
    show (Jvm.Free.Multi.outerC c N h0 i).setSlot i (.ref (h0 + 1 + i)) = _
    rw [vr_outer c N h0 i, arrV_store]
    refine congrArg (arrV c N) (funext fun j => ?_)
    by_cases e : j = i
    · subst e
      simp [updV, va_rf]
    · by_cases h : j < i
      · simp [updV, e, h, Nat.lt_succ_of_lt h]
      · simp [updV, e, h, show ¬ j < i + 1 by omega]
section VGM
variable {p : Program} {l : Launch} {e : Env} {R : Room} {s : State} {m : MethodId} {args : Array Value} {below : List Frame} {meth : Method} {c : Code} {H : Heap} {locs : List Loc} {cells slots : Nat} {Q : State → Prop}
variable {cc : ByteArray} {pc : Nat} {ls : Array Slot} {rest : List Value} {D : va_G} {cl : List vw_C} {A : Nat → Prop} {a : Nat} {tys : List (ClassId × FieldType)} {ws : va_W} {H0 : Heap}
theorem va_mna {X : va_W} {L : List Nat} {f : Nat → va_E} {cc : ByteArray} (hexec : p.tables.exec = Jvm.exec) (hb : c.code = cc) {own : String} {index : Nat} {ty : FieldType} {cy : ClassId} (hown : s.vm.findClass own = some m.cls) (hclink : (Cond.classLink own index ("[" ++ (FieldType.array ty).toString)).before args s = true) (hover : (Cond.arrayOver (.array ty)).before args s = true) (harr : (Cond.arrayClass ty).before args s = true) (hcy : s.vm.findClass (FieldType.array ty).toString = some cy)
    (hK : va_K D cl tys s) (hP : va_P D cl (X ++ va_pl L f) H) (hD : va_D A (X ++ va_pl L f)) (hS : va_S A H0 H locs) (hA : ∀ q, H0.size ≤ q → A q) {n k : Int32} {N' K' : Nat} {z : vp_A} (hn : ¬ n < 0) (hk : ¬ k < 0) (hN : n.toNatClampNeg = N') (hM : k.toNatClampNeg = K')
    (hb1 : N' * 4 ≤ 536870912) (hb2 : K' * componentBytes ty ≤ 536870912) (hb3 : K' ≤ 536870912) (hdf : fits ty (defaultValue ty) = true) (hdd : (defaultValue ty).isDefault = true) (hcells : cells + (1 + N') ≤ R.cells) (hslots : slots + (N' + N' * K') ≤ R.slots) (hz : ∀ c : ClassId, Jvm.Free.Multi.innerC c K' (defaultValue ty) = vp_cell c z) (hdg : decode cc pc = .ok (.multianewarray index 2, 4))
    (kk : ∀ (q : Nat) (r : Nat → Nat) (cA : ClassId) (H1 : Heap), (∀ i j : Nat, i < N' → j < N' → r i = r j → i = j) → (∀ i : Nat, i < N' → r i ∉ L) → va_K D cl (tys ++ [(cA, .array ty)]) s →
      va_P D cl ((X ++ [(q, .inl (cA, N', .inr (.inr (.inr (.inr (fun i => if i < N' then some (r i) else none))))))]) ++ va_pl (L ++ (List.range N').map r) (vr_up f ((List.range N').map r) (.inl (cy, z)))) H1 → va_D A ((X ++ [(q, .inl (cA, N', .inr (.inr (.inr (.inr (fun i => if i < N' then some (r i) else none))))))]) ++ va_pl (L ++ (List.range N').map r) (vr_up f ((List.range N').map r) (.inl (cy, z)))) → va_S A H0 H1 locs →
      W p l e R s m args below meth c H1 locs (cells + 1 + N') (slots + N' + N' * K') Q (F0 m (pc + 4) ls (.ref q :: rest))) : W p l e R s m args below meth c H locs cells slots Q (F0 m pc ls (.int k :: .int n :: rest)) := by
  subst hN
  subst hM
  intro T hT Xs
  obtain ⟨vm₁, cA, comp, -, fA, fC, hO, -, X', step⟩ := Xs.multianewarray2F hexec hown hclink hover harr (g := F0 m pc ls (.int k :: .int n :: rest)) rfl (by rw [hb]; exact hdg) rfl hn hk hb1 hb2 hb3 hdf hdd hcells hslots
  have ec : some cy = some comp := hcy.symm.trans fC
  cases ec
  generalize hF : Jvm.Free.Multi.fill (T.setVm vm₁) cA cy n.toNatClampNeg k.toNatClampNeg (defaultValue ty) n.toNatClampNeg = F at X' step
  have hTh : (T.setVm vm₁).heap = H := hT
  obtain ⟨f1, f2, -, -⟩ := Jvm.Free.Multi.fill_facts (T.setVm vm₁) cA cy n.toNatClampNeg k.toNatClampNeg (defaultValue ty) n.toNatClampNeg
  rw [hF, hTh] at f1 f2
  have hold : ∀ x : Nat, x < H.size → F.heap[x]? = H[x]? := fun x hx => by
    have := Jvm.Free.Multi.fill_old (T.setVm vm₁) cA cy n.toNatClampNeg k.toNatClampNeg (defaultValue ty) (a := x) (by rw [hTh]; exact hx) n.toNatClampNeg
    rw [hF, hTh] at this
    exact this
  have hrow : ∀ j : Nat, j < n.toNatClampNeg → F.heap[H.size + 1 + j]? = some (vp_cell cy z) := fun j hj => by
    have := Jvm.Free.Multi.fill_inner (T.setVm vm₁) cA cy n.toNatClampNeg k.toNatClampNeg (defaultValue ty) n.toNatClampNeg j hj
    rw [hF, hTh, hz] at this
    exact this
  have hout : Jvm.Free.Multi.outerC cA n.toNatClampNeg H.size n.toNatClampNeg = vp_cell cA (n.toNatClampNeg, .inr (.inr (.inr (.inr (fun i => if i < n.toNatClampNeg then some (H.size + 1 + i) else none))))) := by
    rw [vp_cell_q]
    exact vr_outer cA n.toNatClampNeg H.size n.toNatClampNeg
  rw [hout] at f2
  have hlt : ∀ a, a ∈ L → a < H.size := fun a ha => by
    obtain ⟨k9, hk9⟩ := va_pl_get (X := X) (f := f) ha
    exact (hP k9 _ hk9).lt
  have hnl : ∀ i : Nat, i < n.toNatClampNeg → H.size + 1 + i ∉ L := fun i _ h => by
    have := hlt _ h
    omega
  have hnm : ∀ a, a ∈ (List.range n.toNatClampNeg).map (fun i => H.size + 1 + i) → a ∉ L := fun a ha h => by
    obtain ⟨i, -, rfl⟩ := List.mem_map.mp ha
    have := hlt _ h
    omega
  have hP0 : va_P D cl (X ++ va_pl L f) F.heap := hP.kept (fun k9 x hx => hold x.1 ((hP k9 x hx).lt))
  have hP1 : va_P D cl ((X ++ va_pl L f) ++ [(H.size, .inl (cA, n.toNatClampNeg, .inr (.inr (.inr (.inr (fun i => if i < n.toNatClampNeg then some (H.size + 1 + i) else none))))))]) F.heap := hP0.app (fun k9 x hx => by
    have h0 : k9 < 1 := (List.getElem?_eq_some_iff.mp hx).1
    rw [show k9 = 0 by omega] at hx
    cases hx
    exact f2)
  have hP2 : va_P D cl (((X ++ va_pl L f) ++ [(H.size, .inl (cA, n.toNatClampNeg, .inr (.inr (.inr (.inr (fun i => if i < n.toNatClampNeg then some (H.size + 1 + i) else none))))))]) ++ ((List.range n.toNatClampNeg).map (fun i => H.size + 1 + i)).map (fun a => (a, .inl (cy, z)))) F.heap := hP1.app (fun k9 x hx => by
    obtain ⟨a, ha, rfl⟩ := List.mem_map.mp (List.mem_of_getElem? hx)
    obtain ⟨i, hi, rfl⟩ := List.mem_map.mp ha
    exact hrow i (List.mem_range.mp hi))
  have hD2 : va_D A (((X ++ va_pl L f) ++ [(H.size, .inl (cA, n.toNatClampNeg, .inr (.inr (.inr (.inr (fun i => if i < n.toNatClampNeg then some (H.size + 1 + i) else none))))))]) ++ ((List.range n.toNatClampNeg).map (fun i => H.size + 1 + i)).map (fun a => (a, .inl (cy, z)))) := by
    have hD1 := hD.push (e := .inl (cA, n.toNatClampNeg, .inr (.inr (.inr (.inr (fun i => if i < n.toNatClampNeg then some (H.size + 1 + i) else none)))))) hP rfl (hA _ hS.1)
    generalize hW1 : (X ++ va_pl L f) ++ [(H.size, .inl (cA, n.toNatClampNeg, .inr (.inr (.inr (.inr (fun i => if i < n.toNatClampNeg then some (H.size + 1 + i) else none))))))] = W1 at hD1 hP1 ⊢
    have hle : ∀ (k9 : Nat) (x : Nat × va_E), W1[k9]? = some x → x.1 ≤ H.size := fun k9 x hx => by
      rw [← hW1] at hx
      by_cases hl : k9 < (X ++ va_pl L f).length
      · rw [List.getElem?_append_left hl] at hx
        exact Nat.le_of_lt ((hP k9 x hx).lt)
      · rw [List.getElem?_append_right (by omega)] at hx
        have h0 : k9 - (X ++ va_pl L f).length < 1 := (List.getElem?_eq_some_iff.mp hx).1
        rw [show k9 - (X ++ va_pl L f).length = 0 by omega] at hx
        cases hx
        exact Nat.le_refl _
    have hr : ∀ (k9 : Nat) (x : Nat × va_E), (((List.range n.toNatClampNeg).map (fun i => H.size + 1 + i)).map (fun a => ((a, .inl (cy, z)) : Nat × va_E)))[k9]? = some x → x.1 = H.size + 1 + k9 := fun k9 x hx => by
      rw [List.getElem?_map, List.getElem?_map] at hx
      by_cases h9 : k9 < n.toNatClampNeg
      · rw [List.getElem?_range h9] at hx
        cases hx
        rfl
      · have hn0 : (List.range n.toNatClampNeg)[k9]? = none := List.getElem?_eq_none (by rw [List.length_range]; omega)
        rw [hn0] at hx
        cases hx
    refine ⟨fun i j x y hi hj hxy => ?_, fun k9 x hx => ?_⟩
    · by_cases h1 : i < W1.length <;> by_cases h2 : j < W1.length
      · rw [List.getElem?_append_left h1] at hi
        rw [List.getElem?_append_left h2] at hj
        exact hD1.1 i j x y hi hj hxy
      · rw [List.getElem?_append_left h1] at hi
        rw [List.getElem?_append_right (by omega)] at hj
        have := hle _ _ hi
        have := hr _ _ hj
        omega
      · rw [List.getElem?_append_right (by omega)] at hi
        rw [List.getElem?_append_left h2] at hj
        have := hle _ _ hj
        have := hr _ _ hi
        omega
      · rw [List.getElem?_append_right (by omega)] at hi hj
        have := hr _ _ hi
        have := hr _ _ hj
        omega
    · by_cases h1 : k9 < W1.length
      · rw [List.getElem?_append_left h1] at hx
        exact hD1.2 k9 x hx
      · rw [List.getElem?_append_right (by omega)] at hx
        have := hr _ _ hx
        exact hA _ (by have := hS.1; omega)
  have hAr : ArrOfT s cA (.array ty) := fun N9 z9 => by
    obtain ⟨-, k9, hk9, cm9, hkk9⟩ := (hO 0 0 0).1
    exact ⟨(fun q hq => by cases hq), k9, hk9, cm9, hkk9⟩
  have hK2 : va_K D cl (tys ++ [(cA, .array ty)]) s := ⟨hK.1, fun k9 x hx => by
    by_cases hl : k9 < tys.length
    · rw [List.getElem?_append_left hl] at hx
      exact hK.2 k9 x hx
    · rw [List.getElem?_append_right (by omega)] at hx
      have h0 : k9 - tys.length < 1 := (List.getElem?_eq_some_iff.mp hx).1
      rw [show k9 - tys.length = 0 by omega] at hx
      cases hx
      exact ⟨hAr, fA⟩⟩
  obtain ⟨t, a1, b1⟩ := kk H.size (fun i => H.size + 1 + i) cA F.heap (fun i j _ _ h => by have h9 : H.size + 1 + i = H.size + 1 + j := h; omega) hnl hK2 (by rw [← vr_rows hnm]; exact vr_lay hP2) (by rw [← vr_rows hnm]; exact vr_layD hD2) ⟨by rw [f1]; have := hS.1; omega, fun x h1 h2 => (hold x (Nat.lt_of_lt_of_le h1 hS.1)).trans (hS.2.1 x h1 h2), hS.2.2⟩ F rfl X'
  refine ⟨t, step t ?_, b1⟩
  have e : T.heap.size = H.size := by rw [hT]
  rw [e]
  exact a1
end VGM
/-! ===== END ===== -/
end
section
/-! ===== a checker for bytecode: abstract values, intervals, known cells ===== -/
abbrev zV : Type := Nat × Nat × Int
/-- intervals of the symbols: how many, and each -/
def zI : Type := Nat × (Nat → Int × Int)
def zI.length (iv : zI) : Nat := Prod.fst iv
def zI.at (iv : zI) (i : Nat) : Option (Int × Int) := bif Nat.blt i (Prod.fst iv) then some (Prod.snd iv i) else none
def zI.push (iv : zI) (q : Int × Int) : zI := Prod.mk (Prod.fst iv + 1) (fun i => bif Nat.beq i (Prod.fst iv) then q else Prod.snd iv i)
def zI.set (iv : zI) (k : Nat) (q : Int × Int) : zI := Prod.mk (Prod.fst iv) (fun i => bif Nat.beq i k then q else Prod.snd iv i)
theorem zI.at_lt {iv : zI} {i : Nat} {q : Int × Int} (h : iv.at i = some q) : i < iv.length := by
  unfold zI.at at h
  cases hb : Nat.blt i (Prod.fst iv) with
  | true => exact Nat.le_of_ble_eq_true hb
  | false => rw [hb] at h; cases h
theorem zI.at_push {iv : zI} {i : Nat} {q r : Int × Int} (h : (iv.push q).at i = some r) : (i < iv.length ∧ iv.at i = some r) ∨ (i = iv.length ∧ r = q) := by
  have hl : i < iv.length + 1 := zI.at_lt h
  by_cases e : i = iv.length
  · refine Or.inr ⟨e, ?_⟩
    unfold zI.at at h
    rw [show Nat.blt i (Prod.fst (iv.push q)) = true from Nat.ble_eq_true_of_le hl] at h
    have h2 : (bif Nat.beq i (Prod.fst iv) then q else Prod.snd iv i) = r := Option.some.inj h
    rw [show Nat.beq i (Prod.fst iv) = true by rw [e]; exact Nat.beq_refl _] at h2
    exact h2.symm
  · have hl' : i < iv.length := by omega
    refine Or.inl ⟨hl', ?_⟩
    unfold zI.at at h ⊢
    rw [show Nat.blt i (Prod.fst (iv.push q)) = true from Nat.ble_eq_true_of_le hl] at h
    rw [show Nat.blt i (Prod.fst iv) = true from Nat.ble_eq_true_of_le hl']
    have h2 : (bif Nat.beq i (Prod.fst iv) then q else Prod.snd iv i) = r := Option.some.inj h
    rw [show Nat.beq i (Prod.fst iv) = false from Bool.eq_false_iff.mpr (fun hb => e (Nat.eq_of_beq_eq_true hb))] at h2
    exact congrArg some h2
theorem zI.at_set {iv : zI} {k i : Nat} {q r : Int × Int} (h : (iv.set k q).at i = some r) : (i = k ∧ r = q) ∨ iv.at i = some r := by
  have hl : i < (iv.set k q).length := zI.at_lt h
  change i < iv.length at hl
  unfold zI.at at h ⊢
  rw [show Nat.blt i (Prod.fst (iv.set k q)) = true from Nat.ble_eq_true_of_le hl] at h
  rw [show Nat.blt i (Prod.fst iv) = true from Nat.ble_eq_true_of_le hl]
  have h2 : (bif Nat.beq i k then q else Prod.snd iv i) = r := Option.some.inj h
  cases hb : Nat.beq i k with
  | true => rw [hb] at h2; exact Or.inl ⟨Nat.eq_of_beq_eq_true hb, h2.symm⟩
  | false => rw [hb] at h2; exact Or.inr (congrArg some h2)
abbrev zL : Type := List (Nat × zV)
abbrev zRw : Type := List (List (Option zV))
/-- what is known of the cells: how many; is nothing known of one; what stands at a place of one -/
def zO : Type := Nat × (Nat → Bool) × (Nat → Nat → Option zV)
def zO.length (ov : zO) : Nat := Prod.fst ov
abbrev zC : Type := Nat × Nat × List (Nat × Int × Int)
/-- an instruction: its code, a count, a number, numbers -/
abbrev zQ : Type := Nat × Nat × Int × List Int
abbrev zP : Type := Nat × zQ × Nat
/-- cells, slots, intervals, values by place, stack, known cells -/
abbrev zS : Type := Nat × Nat × zI × zL × List zV × zO
abbrev zR : Type := Option (List (Option Nat × zS))
def z_val (ρ : Nat → Int) (v : zV) : Int := ρ v.2.1 + v.2.2
def zcv (ad : Nat → Nat) (b : Nat) (ρ : Nat → Int) (v : zV) : Value := match v.1 with
  | 0 => .int (Int32.ofInt (z_val ρ v))
  | 1 => .long (Int64.ofInt (z_val ρ v))
  | 2 => .ref (ad v.2.1)
  | 3 => .null
  | _ => .ref b
def zok (n : Nat) (iv : zI) (ρ : Nat → Int) (v : zV) : Prop := match v.1 with
  | 0 => v.2.1 < iv.length ∧ -2147483648 ≤ z_val ρ v ∧ z_val ρ v ≤ 2147483647
  | 1 => v.2.1 < iv.length ∧ -9223372036854775808 ≤ z_val ρ v ∧ z_val ρ v ≤ 9223372036854775807
  | 2 => v.2.1 < n
  | _ => True
def ziv (iv : zI) (ρ : Nat → Int) : Prop := ρ 0 = 0 ∧ 0 < iv.length ∧ ∀ (i : Nat) (q : Int × Int), iv.at i = some q → q.1 ≤ ρ i ∧ ρ i ≤ q.2
theorem z_bm32 {z : Int} (h1 : -2147483648 ≤ z) (h2 : z ≤ 2147483647) : z.bmod 4294967296 = z := by
  rw [Int.bmod_def]
  split <;> omega
theorem z_bm64 {z : Int} (h1 : -9223372036854775808 ≤ z) (h2 : z ≤ 9223372036854775807) : z.bmod 18446744073709551616 = z := by
  rw [Int.bmod_def]
  split <;> omega
theorem z_i32 {z : Int} (h1 : -2147483648 ≤ z) (h2 : z ≤ 2147483647) : (Int32.ofInt z).toInt = z := by
  rw [Int32.toInt_ofInt]
  exact z_bm32 h1 h2
theorem z_i64 {z : Int} (h1 : -9223372036854775808 ≤ z) (h2 : z ≤ 9223372036854775807) : (Int64.ofInt z).toInt = z := by
  rw [Int64.toInt_ofInt]
  exact z_bm64 h1 h2
theorem z_r32 (x : Int32) : -2147483648 ≤ x.toInt ∧ x.toInt ≤ 2147483647 := by
  have a := x.le_toInt
  have b := x.toInt_lt
  omega
theorem z_r64 (x : Int64) : -9223372036854775808 ≤ x.toInt ∧ x.toInt ≤ 9223372036854775807 := by
  have a := x.le_toInt
  have b := x.toInt_lt
  omega
theorem z_o32 (x : Int32) : Int32.ofInt x.toInt = x := by
  apply Int32.toInt_inj.mp
  exact z_i32 (z_r32 x).1 (z_r32 x).2
theorem z_o64 (x : Int64) : Int64.ofInt x.toInt = x := by
  apply Int64.toInt_inj.mp
  exact z_i64 (z_r64 x).1 (z_r64 x).2
theorem zok_ext {n n' : Nat} {iv iv' : zI} {ρ ρ' : Nat → Int} {v : zV} (h : zok n iv ρ v) (hx : ∀ i, i < iv.length → ρ' i = ρ i) (hl : iv.length ≤ iv'.length) (hn : n ≤ n') : zok n' iv' ρ' v := by
  obtain ⟨k, s, o⟩ := v
  match k, h with
  | 0, h =>
    obtain ⟨h1, h2, h3⟩ := h
    have e : ρ' s = ρ s := hx s h1
    have h1' : s < iv.length := h1
    refine ⟨Nat.lt_of_lt_of_le h1' hl, ?_, ?_⟩ <;> (unfold z_val at *; dsimp only at *; rw [e]; assumption)
  | 1, h =>
    obtain ⟨h1, h2, h3⟩ := h
    have e : ρ' s = ρ s := hx s h1
    have h1' : s < iv.length := h1
    refine ⟨Nat.lt_of_lt_of_le h1' hl, ?_, ?_⟩ <;> (unfold z_val at *; dsimp only at *; rw [e]; assumption)
  | 2, h => exact Nat.lt_of_lt_of_le (show s < n from h) hn
  | _ + 3, _ => exact True.intro
theorem zcv_ext {n : Nat} {iv : zI} {ρ ρ' : Nat → Int} {ad ad' : Nat → Nat} {b : Nat} {v : zV} (h : zok n iv ρ v) (hx : ∀ i, i < iv.length → ρ' i = ρ i) (ha : ∀ q, q < n → ad' q = ad q) : zcv ad' b ρ' v = zcv ad b ρ v := by
  obtain ⟨k, s, o⟩ := v
  match k, h with
  | 0, h =>
    have e : ρ' s = ρ s := hx s h.1
    show Value.int (Int32.ofInt (ρ' s + o)) = Value.int (Int32.ofInt (ρ s + o))
    rw [e]
  | 1, h =>
    have e : ρ' s = ρ s := hx s h.1
    show Value.long (Int64.ofInt (ρ' s + o)) = Value.long (Int64.ofInt (ρ s + o))
    rw [e]
  | 2, h =>
    show Value.ref (ad' s) = Value.ref (ad s)
    rw [ha s h]
  | 3, _ => rfl
  | _ + 4, _ => rfl
def z_bd (iv : zI) (v : zV) : Option (Int × Int) := match iv.at v.2.1 with
  | some q => some (q.1 + v.2.2, q.2 + v.2.2)
  | none => none
theorem z_bd_ok {iv : zI} {ρ : Nat → Int} {v : zV} {q : Int × Int} (h : z_bd iv v = some q) (hi : ziv iv ρ) : v.2.1 < iv.length ∧ q.1 ≤ z_val ρ v ∧ z_val ρ v ≤ q.2 := by
  unfold z_bd at h
  split at h
  next q' hq =>
    cases h
    have h1 := hi.2.2 _ _ hq
    refine ⟨zI.at_lt hq, ?_, ?_⟩ <;> (unfold z_val; dsimp only; omega)
  next => cases h
def z_mk (iv : zI) (k : Nat) (lo hi : Int) : zI × zV := if lo = hi then (iv, (k, 0, lo)) else (iv.push (lo, hi), (k, iv.length, 0))
/-- what a new value brings -/
def zNw (iv iv' : zI) (ρ ρ' : Nat → Int) (k : Nat) (v : zV) (x : Int) : Prop := (∀ i, i < iv.length → ρ' i = ρ i) ∧ iv.length ≤ iv'.length ∧ ziv iv' ρ' ∧ v.1 = k ∧ v.2.1 < iv'.length ∧ z_val ρ' v = x
theorem z_mk_ok {iv : zI} {ρ : Nat → Int} (k : Nat) {lo hi x : Int} (hi' : ziv iv ρ) (h1 : lo ≤ x) (h2 : x ≤ hi) : ∃ ρ', zNw iv (z_mk iv k lo hi).1 ρ ρ' k (z_mk iv k lo hi).2 x := by
  unfold z_mk
  by_cases e : lo = hi
  · rw [if_pos e]
    refine ⟨ρ, fun _ _ => rfl, Nat.le_refl _, hi', rfl, hi'.2.1, ?_⟩
    show ρ 0 + lo = x
    rw [hi'.1]; omega
  · rw [if_neg e]
    refine ⟨fun i => if i = iv.length then x else ρ i, fun i h => if_neg (Nat.ne_of_lt h), Nat.le_succ _, ⟨?_, Nat.succ_pos _, ?_⟩, rfl, Nat.lt_succ_self _, ?_⟩
    · show (if 0 = iv.length then x else ρ 0) = 0
      rw [if_neg (Nat.ne_of_lt hi'.2.1)]; exact hi'.1
    · intro i q hq
      show q.1 ≤ (if i = iv.length then x else ρ i) ∧ (if i = iv.length then x else ρ i) ≤ q.2
      rcases zI.at_push hq with ⟨hl, hq⟩ | ⟨hl, rfl⟩
      · rw [if_neg (Nat.ne_of_lt hl)]
        exact hi'.2.2 i q hq
      · rw [if_pos hl]
        exact ⟨h1, h2⟩
    · show (if iv.length = iv.length then x else ρ iv.length) + 0 = x
      rw [if_pos rfl]; omega
def z_rl (k : Nat) : Int := if k = 0 then -2147483648 else -9223372036854775808
def z_rh (k : Nat) : Int := if k = 0 then 2147483647 else 9223372036854775807
def z_in (k : Nat) (lo hi : Int) : Bool := decide (z_rl k ≤ lo) && decide (hi ≤ z_rh k)
def z_add (k : Nat) (iv : zI) (x y : zV) : Option (zI × zV) := match z_bd iv x, z_bd iv y with
  | some q1, some q2 => if z_in k (q1.1 + q2.1) (q1.2 + q2.2) then (if x.2.1 = 0 then some (iv, (k, y.2.1, x.2.2 + y.2.2)) else if y.2.1 = 0 then some (iv, (k, x.2.1, x.2.2 + y.2.2)) else some (z_mk iv k (q1.1 + q2.1) (q1.2 + q2.2))) else some (z_mk iv k (z_rl k) (z_rh k))
  | _, _ => none
def z_sub (k : Nat) (iv : zI) (x y : zV) : Option (zI × zV) := match z_bd iv x, z_bd iv y with
  | some q1, some q2 => if z_in k (q1.1 - q2.2) (q1.2 - q2.1) then (if y.2.1 = 0 then some (iv, (k, x.2.1, x.2.2 - y.2.2)) else some (z_mk iv k (q1.1 - q2.2) (q1.2 - q2.1))) else some (z_mk iv k (z_rl k) (z_rh k))
  | _, _ => none
/-- both known: the machine's own answer; else any number of the kind -/
def z_fold (k : Nat) (cf : Int → Int → Int) (iv : zI) (x y : zV) : Option (zI × zV) := match z_bd iv x, z_bd iv y with
  | some q1, some q2 => if q1.1 = q1.2 ∧ q2.1 = q2.2 then some (iv, (k, 0, cf q1.1 q2.1)) else some (z_mk iv k (z_rl k) (z_rh k))
  | _, _ => none
/-- a divisor must be known, and not 0 -/
def z_foldD (k : Nat) (cf : Int → Int → Int) (iv : zI) (x y : zV) : Option (zI × zV) := match z_bd iv y with
  | some q2 => if q2.1 = q2.2 ∧ q2.1 ≠ 0 then z_fold k cf iv x y else none
  | none => none
/-- what an operation on two values must keep -/
def zBi (op : Int32 → Int32 → Int32) (f : zI → zV → zV → Option (zI × zV)) : Prop := ∀ (iv : zI) (x y : zV) (r : zI × zV) (ρ : Nat → Int) (X Y : Int32), f iv x y = some r → ziv iv ρ → x.2.1 < iv.length → y.2.1 < iv.length → X.toInt = z_val ρ x → Y.toInt = z_val ρ y → ∃ ρ', zNw iv r.1 ρ ρ' 0 r.2 (op X Y).toInt
def zBl (op : Int64 → Int64 → Int64) (f : zI → zV → zV → Option (zI × zV)) : Prop := ∀ (iv : zI) (x y : zV) (r : zI × zV) (ρ : Nat → Int) (X Y : Int64), f iv x y = some r → ziv iv ρ → x.2.1 < iv.length → y.2.1 < iv.length → X.toInt = z_val ρ x → Y.toInt = z_val ρ y → ∃ ρ', zNw iv r.1 ρ ρ' 1 r.2 (op X Y).toInt
def zBs (op : Int64 → Int32 → Int64) (f : zI → zV → zV → Option (zI × zV)) : Prop := ∀ (iv : zI) (x y : zV) (r : zI × zV) (ρ : Nat → Int) (X : Int64) (Y : Int32), f iv x y = some r → ziv iv ρ → x.2.1 < iv.length → y.2.1 < iv.length → X.toInt = z_val ρ x → Y.toInt = z_val ρ y → ∃ ρ', zNw iv r.1 ρ ρ' 1 r.2 (op X Y).toInt
theorem z_same {iv : zI} {ρ : Nat → Int} {v : zV} {k : Nat} {x : Int} (hi : ziv iv ρ) (hk : v.1 = k) (hs : v.2.1 < iv.length) (hx : z_val ρ v = x) : ∃ ρ', zNw iv iv ρ ρ' k v x := ⟨ρ, fun _ _ => rfl, Nat.le_refl _, hi, hk, hs, hx⟩
theorem zBi_full {iv : zI} {ρ : Nat → Int} (hi : ziv iv ρ) (r : Int32) : ∃ ρ', zNw iv (z_mk iv 0 (z_rl 0) (z_rh 0)).1 ρ ρ' 0 (z_mk iv 0 (z_rl 0) (z_rh 0)).2 r.toInt := z_mk_ok 0 hi (z_r32 r).1 (z_r32 r).2
theorem zBl_full {iv : zI} {ρ : Nat → Int} (hi : ziv iv ρ) (r : Int64) : ∃ ρ', zNw iv (z_mk iv 1 (z_rl 1) (z_rh 1)).1 ρ ρ' 1 (z_mk iv 1 (z_rl 1) (z_rh 1)).2 r.toInt := z_mk_ok 1 hi (z_r64 r).1 (z_r64 r).2
theorem z_addI {x y : Int32} (h1 : -2147483648 ≤ x.toInt + y.toInt) (h2 : x.toInt + y.toInt ≤ 2147483647) : (x + y).toInt = x.toInt + y.toInt := by
  rw [Int32.toInt_add]
  exact z_bm32 h1 h2
theorem z_subI {x y : Int32} (h1 : -2147483648 ≤ x.toInt - y.toInt) (h2 : x.toInt - y.toInt ≤ 2147483647) : (x - y).toInt = x.toInt - y.toInt := by
  rw [Int32.toInt_sub]
  exact z_bm32 h1 h2
theorem z_addL {x y : Int64} (h1 : -9223372036854775808 ≤ x.toInt + y.toInt) (h2 : x.toInt + y.toInt ≤ 9223372036854775807) : (x + y).toInt = x.toInt + y.toInt := by
  rw [Int64.toInt_add]
  exact z_bm64 h1 h2
theorem z_subL {x y : Int64} (h1 : -9223372036854775808 ≤ x.toInt - y.toInt) (h2 : x.toInt - y.toInt ≤ 9223372036854775807) : (x - y).toInt = x.toInt - y.toInt := by
  rw [Int64.toInt_sub]
  exact z_bm64 h1 h2
theorem z_in0 {lo hi : Int} (h : z_in 0 lo hi = true) : -2147483648 ≤ lo ∧ hi ≤ 2147483647 := by
  simpa [z_in, z_rl, z_rh] using h
theorem z_in1 {lo hi : Int} (h : z_in 1 lo hi = true) : -9223372036854775808 ≤ lo ∧ hi ≤ 9223372036854775807 := by
  simpa [z_in, z_rl, z_rh] using h
theorem zb_iadd : zBi (fun a b => a + b) (z_add 0) := by
  intro iv x y r ρ X Y h hi hx hy eX eY
  unfold z_add at h
  split at h
  next q1 q2 e1 e2 =>
    have b1 := z_bd_ok e1 hi
    have b2 := z_bd_ok e2 hi
    split at h
    next hin =>
      have hr := z_in0 hin
      have es : (X + Y).toInt = z_val ρ x + z_val ρ y := by rw [z_addI (by omega) (by omega), eX, eY]
      split at h
      next h0 =>
        cases h
        refine z_same hi rfl hy ?_
        rw [es]; unfold z_val; dsimp only; rw [h0, hi.1]; omega
      next =>
        split at h
        next h0 =>
          cases h
          refine z_same hi rfl hx ?_
          rw [es]; unfold z_val; dsimp only; rw [h0, hi.1]; omega
        next =>
          cases h
          exact z_mk_ok 0 hi (by rw [es]; omega) (by rw [es]; omega)
    next => cases h; exact zBi_full hi _
  next => cases h
theorem zb_isub : zBi (fun a b => a - b) (z_sub 0) := by
  intro iv x y r ρ X Y h hi hx hy eX eY
  unfold z_sub at h
  split at h
  next q1 q2 e1 e2 =>
    have b1 := z_bd_ok e1 hi
    have b2 := z_bd_ok e2 hi
    split at h
    next hin =>
      have hr := z_in0 hin
      have es : (X - Y).toInt = z_val ρ x - z_val ρ y := by rw [z_subI (by omega) (by omega), eX, eY]
      split at h
      next h0 =>
        cases h
        refine z_same hi rfl hx ?_
        rw [es]; unfold z_val; dsimp only; rw [h0, hi.1]; omega
      next =>
        cases h
        exact z_mk_ok 0 hi (by rw [es]; omega) (by rw [es]; omega)
    next => cases h; exact zBi_full hi _
  next => cases h
theorem zb_ladd : zBl (fun a b => a + b) (z_add 1) := by
  intro iv x y r ρ X Y h hi hx hy eX eY
  unfold z_add at h
  split at h
  next q1 q2 e1 e2 =>
    have b1 := z_bd_ok e1 hi
    have b2 := z_bd_ok e2 hi
    split at h
    next hin =>
      have hr := z_in1 hin
      have es : (X + Y).toInt = z_val ρ x + z_val ρ y := by rw [z_addL (by omega) (by omega), eX, eY]
      split at h
      next h0 =>
        cases h
        refine z_same hi rfl hy ?_
        rw [es]; unfold z_val; dsimp only; rw [h0, hi.1]; omega
      next =>
        split at h
        next h0 =>
          cases h
          refine z_same hi rfl hx ?_
          rw [es]; unfold z_val; dsimp only; rw [h0, hi.1]; omega
        next =>
          cases h
          exact z_mk_ok 1 hi (by rw [es]; omega) (by rw [es]; omega)
    next => cases h; exact zBl_full hi _
  next => cases h
theorem zb_lsub : zBl (fun a b => a - b) (z_sub 1) := by
  intro iv x y r ρ X Y h hi hx hy eX eY
  unfold z_sub at h
  split at h
  next q1 q2 e1 e2 =>
    have b1 := z_bd_ok e1 hi
    have b2 := z_bd_ok e2 hi
    split at h
    next hin =>
      have hr := z_in1 hin
      have es : (X - Y).toInt = z_val ρ x - z_val ρ y := by rw [z_subL (by omega) (by omega), eX, eY]
      split at h
      next h0 =>
        cases h
        refine z_same hi rfl hx ?_
        rw [es]; unfold z_val; dsimp only; rw [h0, hi.1]; omega
      next =>
        cases h
        exact z_mk_ok 1 hi (by rw [es]; omega) (by rw [es]; omega)
    next => cases h; exact zBl_full hi _
  next => cases h
theorem zb_ifold (op : Int32 → Int32 → Int32) : zBi op (z_fold 0 (fun a b => (op (Int32.ofInt a) (Int32.ofInt b)).toInt)) := by
  intro iv x y r ρ X Y h hi hx hy eX eY
  unfold z_fold at h
  split at h
  next q1 q2 e1 e2 =>
    have b1 := z_bd_ok e1 hi
    have b2 := z_bd_ok e2 hi
    split at h
    next h0 =>
      cases h
      have ex : X = Int32.ofInt q1.1 := by rw [← z_o32 X, eX]; congr 1; omega
      have ey : Y = Int32.ofInt q2.1 := by rw [← z_o32 Y, eY]; congr 1; omega
      refine z_same hi rfl hi.2.1 ?_
      show ρ 0 + _ = _
      rw [hi.1, ex, ey]; exact Int.zero_add _
    next => cases h; exact zBi_full hi _
  next => cases h
theorem zb_lfold (op : Int64 → Int64 → Int64) : zBl op (z_fold 1 (fun a b => (op (Int64.ofInt a) (Int64.ofInt b)).toInt)) := by
  intro iv x y r ρ X Y h hi hx hy eX eY
  unfold z_fold at h
  split at h
  next q1 q2 e1 e2 =>
    have b1 := z_bd_ok e1 hi
    have b2 := z_bd_ok e2 hi
    split at h
    next h0 =>
      cases h
      have ex : X = Int64.ofInt q1.1 := by rw [← z_o64 X, eX]; congr 1; omega
      have ey : Y = Int64.ofInt q2.1 := by rw [← z_o64 Y, eY]; congr 1; omega
      refine z_same hi rfl hi.2.1 ?_
      show ρ 0 + _ = _
      rw [hi.1, ex, ey]; exact Int.zero_add _
    next => cases h; exact zBl_full hi _
  next => cases h
theorem zb_sfold (op : Int64 → Int32 → Int64) : zBs op (z_fold 1 (fun a b => (op (Int64.ofInt a) (Int32.ofInt b)).toInt)) := by
  intro iv x y r ρ X Y h hi hx hy eX eY
  unfold z_fold at h
  split at h
  next q1 q2 e1 e2 =>
    have b1 := z_bd_ok e1 hi
    have b2 := z_bd_ok e2 hi
    split at h
    next h0 =>
      cases h
      have ex : X = Int64.ofInt q1.1 := by rw [← z_o64 X, eX]; congr 1; omega
      have ey : Y = Int32.ofInt q2.1 := by rw [← z_o32 Y, eY]; congr 1; omega
      refine z_same hi rfl hi.2.1 ?_
      show ρ 0 + _ = _
      rw [hi.1, ex, ey]; exact Int.zero_add _
    next => cases h; exact zBl_full hi _
  next => cases h
theorem zb_ifoldD (op : Int32 → Int32 → Int32) : zBi op (z_foldD 0 (fun a b => (op (Int32.ofInt a) (Int32.ofInt b)).toInt)) := by
  intro iv x y r ρ X Y h hi hx hy eX eY
  unfold z_foldD at h
  split at h
  next =>
    split at h
    · exact zb_ifold op iv x y r ρ X Y h hi hx hy eX eY
    · cases h
  next => cases h
theorem zb_lfoldD (op : Int64 → Int64 → Int64) : zBl op (z_foldD 1 (fun a b => (op (Int64.ofInt a) (Int64.ofInt b)).toInt)) := by
  intro iv x y r ρ X Y h hi hx hy eX eY
  unfold z_foldD at h
  split at h
  next =>
    split at h
    · exact zb_lfold op iv x y r ρ X Y h hi hx hy eX eY
    · cases h
  next => cases h
/-! ===== what a branch tells ===== -/
def z_put (iv : zI) (v : zV) (lo hi : Int) : zI := if v.2.1 = 0 then iv else iv.set v.2.1 (lo - v.2.2, hi - v.2.2)
theorem z_put_ok {iv : zI} {ρ : Nat → Int} {v : zV} {lo hi : Int} (h : ziv iv ρ) (h1 : lo ≤ z_val ρ v) (h2 : z_val ρ v ≤ hi) : ziv (z_put iv v lo hi) ρ ∧ (z_put iv v lo hi).length = iv.length := by
  unfold z_put
  split
  · exact ⟨h, rfl⟩
  · refine ⟨⟨h.1, h.2.1, fun i q hq => ?_⟩, rfl⟩
    rcases zI.at_set hq with ⟨e, rfl⟩ | hq
    · subst e
      unfold z_val at h1 h2
      dsimp only
      omega
    · exact h.2.2 i q hq
/-- x < y: what follows; none where it can't be -/
def z_lt (iv : zI) (x y : zV) : Option zI := if x.2.1 = y.2.1 then (if x.2.2 < y.2.2 then some iv else none) else match z_bd iv x, z_bd iv y with
  | some q1, some q2 => if q1.1 < q2.2 then some (z_put (z_put iv x q1.1 (min q1.2 (q2.2 - 1))) y (max q2.1 (q1.1 + 1)) q2.2) else none
  | _, _ => some iv
def z_le (iv : zI) (x y : zV) : Option zI := if x.2.1 = y.2.1 then (if x.2.2 ≤ y.2.2 then some iv else none) else match z_bd iv x, z_bd iv y with
  | some q1, some q2 => if q1.1 ≤ q2.2 then some (z_put (z_put iv x q1.1 (min q1.2 q2.2)) y (max q2.1 q1.1) q2.2) else none
  | _, _ => some iv
def z_eq (iv : zI) (x y : zV) : Option zI := if x.2.1 = y.2.1 then (if x.2.2 = y.2.2 then some iv else none) else match z_bd iv x, z_bd iv y with
  | some q1, some q2 => if q1.1 ≤ q2.2 ∧ q2.1 ≤ q1.2 then some (z_put (z_put iv x (max q1.1 q2.1) (min q1.2 q2.2)) y (max q1.1 q2.1) (min q1.2 q2.2)) else none
  | _, _ => some iv
/-- a refinement that a fact allows -/
def zRf (iv : zI) (ρ : Nat → Int) (o : Option zI) : Prop := ∃ iv', o = some iv' ∧ ziv iv' ρ ∧ iv'.length = iv.length
theorem z_lt_ok {iv : zI} {ρ : Nat → Int} {x y : zV} (h : ziv iv ρ) (hv : z_val ρ x < z_val ρ y) : zRf iv ρ (z_lt iv x y) := by
  unfold z_lt
  split
  next e =>
    rw [if_pos (by unfold z_val at hv; rw [e] at hv; omega)]
    exact ⟨iv, rfl, h, rfl⟩
  next =>
    split
    next q1 q2 e1 e2 =>
      have b1 := z_bd_ok e1 h
      have b2 := z_bd_ok e2 h
      rw [if_pos (by omega)]
      have p1 := z_put_ok (v := x) (lo := q1.1) (hi := min q1.2 (q2.2 - 1)) h (by omega) (by omega)
      have p2 := z_put_ok (v := y) (lo := max q2.1 (q1.1 + 1)) (hi := q2.2) p1.1 (by omega) (by omega)
      exact ⟨_, rfl, p2.1, p2.2.trans p1.2⟩
    next => exact ⟨iv, rfl, h, rfl⟩
theorem z_le_ok {iv : zI} {ρ : Nat → Int} {x y : zV} (h : ziv iv ρ) (hv : z_val ρ x ≤ z_val ρ y) : zRf iv ρ (z_le iv x y) := by
  unfold z_le
  split
  next e =>
    rw [if_pos (by unfold z_val at hv; rw [e] at hv; omega)]
    exact ⟨iv, rfl, h, rfl⟩
  next =>
    split
    next q1 q2 e1 e2 =>
      have b1 := z_bd_ok e1 h
      have b2 := z_bd_ok e2 h
      rw [if_pos (by omega)]
      have p1 := z_put_ok (v := x) (lo := q1.1) (hi := min q1.2 q2.2) h (by omega) (by omega)
      have p2 := z_put_ok (v := y) (lo := max q2.1 q1.1) (hi := q2.2) p1.1 (by omega) (by omega)
      exact ⟨_, rfl, p2.1, p2.2.trans p1.2⟩
    next => exact ⟨iv, rfl, h, rfl⟩
theorem z_eq_ok {iv : zI} {ρ : Nat → Int} {x y : zV} (h : ziv iv ρ) (hv : z_val ρ x = z_val ρ y) : zRf iv ρ (z_eq iv x y) := by
  unfold z_eq
  split
  next e =>
    rw [if_pos (by unfold z_val at hv; rw [e] at hv; omega)]
    exact ⟨iv, rfl, h, rfl⟩
  next =>
    split
    next q1 q2 e1 e2 =>
      have b1 := z_bd_ok e1 h
      have b2 := z_bd_ok e2 h
      rw [if_pos ⟨by omega, by omega⟩]
      have p1 := z_put_ok (v := x) (lo := max q1.1 q2.1) (hi := min q1.2 q2.2) h (by omega) (by omega)
      have p2 := z_put_ok (v := y) (lo := max q1.1 q2.1) (hi := min q1.2 q2.2) p1.1 (by omega) (by omega)
      exact ⟨_, rfl, p2.1, p2.2.trans p1.2⟩
    next => exact ⟨iv, rfl, h, rfl⟩
def z_ol (o : Option zI) : List zI := match o with
  | some x => [x]
  | none => []
def z_ne (iv : zI) (x y : zV) : List zI := if x.2.1 = y.2.1 ∨ x.2.1 = 0 ∨ y.2.1 = 0 then z_ol (z_lt iv x y) ++ z_ol (z_lt iv y x) else [iv]
/-- the intervals where the branch is taken, and where it isn't -/
def z_br (cd : Jvm.ClassFile.Cond) (iv : zI) (x y : zV) : List zI × List zI := match cd with
  | .eq => (z_ol (z_eq iv x y), z_ne iv x y)
  | .ne => (z_ne iv x y, z_ol (z_eq iv x y))
  | .lt => (z_ol (z_lt iv x y), z_ol (z_le iv y x))
  | .ge => (z_ol (z_le iv y x), z_ol (z_lt iv x y))
  | .gt => (z_ol (z_lt iv y x), z_ol (z_le iv x y))
  | .le => (z_ol (z_le iv x y), z_ol (z_lt iv y x))
def zRl (iv : zI) (ρ : Nat → Int) (o : List zI) : Prop := ∃ iv', iv' ∈ o ∧ ziv iv' ρ ∧ iv'.length = iv.length
theorem zRf.l {iv : zI} {ρ : Nat → Int} {o : Option zI} (h : zRf iv ρ o) : zRl iv ρ (z_ol o) := by
  obtain ⟨iv', rfl, h1, h2⟩ := h
  exact ⟨iv', List.mem_singleton.mpr rfl, h1, h2⟩
theorem z_ne_ok {iv : zI} {ρ : Nat → Int} {x y : zV} (h : ziv iv ρ) (hv : ¬ z_val ρ x = z_val ρ y) : zRl iv ρ (z_ne iv x y) := by
  unfold z_ne
  split
  · rcases Int.lt_or_gt_of_ne hv with q | q
    · obtain ⟨iv', h1, h2⟩ := (z_lt_ok h q).l
      exact ⟨iv', List.mem_append_left _ h1, h2⟩
    · obtain ⟨iv', h1, h2⟩ := (z_lt_ok h q).l
      exact ⟨iv', List.mem_append_right _ h1, h2⟩
  · exact ⟨iv, List.mem_singleton.mpr rfl, h, rfl⟩
end
section
/-! ===== known cells, and what a state means ===== -/
def z_lkr (rows : zRw) (p i : Nat) : Option zV := match rows[p]? with
  | some r => (match r[i]? with
    | some v => v
    | none => none)
  | none => none
def z_nof (ov : zO) (p : Nat) : Bool := Prod.fst (Prod.snd ov) p
def z_at2 (ov : zO) (p i : Nat) : Option zV := Prod.snd (Prod.snd ov) p i
def z_lk (ov : zO) (p i : Nat) : Option zV := bif z_nof ov p then none else (bif Nat.blt p (Prod.fst ov) then z_at2 ov p i else none)
/-- of this cell nothing is known -/
def z_un (ov : zO) (p : Nat) : Option (List (Option zV)) := bif z_nof ov p then some [] else none
theorem z_un_lk {ov : zO} {p i : Nat} (h : z_un ov p = some []) : z_lk ov p i = none := by
  unfold z_un at h
  unfold z_lk
  cases hb : z_nof ov p with
  | true => rfl
  | false => rw [hb] at h; cases h
def z_o0 : zO := Prod.mk 0 (Prod.mk (fun _ => true) (fun _ _ => none))
theorem z_o0_lk {p i : Nat} {v : zV} (h : z_lk z_o0 p i = some v) : False := by cases h
def z_wr (ov : zO) (p i : Nat) (v : zV) : zO := Prod.mk (Prod.fst ov) (Prod.mk (Prod.fst (Prod.snd ov)) (fun p' i' => bif Nat.beq p' p then (bif Nat.beq i' i then some v else z_at2 ov p' i') else z_at2 ov p' i'))
def z_sw (ov : zO) (p i : Nat) (v : zV) : Option zO := match z_lk ov p i with
  | some _ => some (z_wr ov p i v)
  | none => none
def z_ap (ov : zO) (rows : zRw) : zO := Prod.mk (Prod.fst ov + rows.length) (Prod.mk (fun p => bif Nat.blt p (Prod.fst ov) then z_nof ov p else (match rows[p - Prod.fst ov]? with
    | some [] => true
    | some _ => false
    | none => true)) (fun p i => bif Nat.blt p (Prod.fst ov) then z_at2 ov p i else z_lkr rows (p - Prod.fst ov) i))
theorem z_ap_length {ov : zO} {rows : zRw} : (z_ap ov rows).length = ov.length + rows.length := rfl
theorem z_lk_lt {ov : zO} {p i : Nat} {v : zV} (h : z_lk ov p i = some v) : p < ov.length := by
  unfold z_lk at h
  cases hb : z_nof ov p with
  | true => rw [hb] at h; cases h
  | false =>
    rw [hb] at h
    cases hc : Nat.blt p (Prod.fst ov) with
    | true => exact Nat.le_of_ble_eq_true hc
    | false => rw [hc] at h; cases h
def z_sp (g : zC) (i : Nat) : Option (Nat × Int × Int) := match g.2.2 with
  | [x] => some x
  | q => q[i]?
def z_spv (sp : Option (Nat × Int × Int)) (v : Value) : Prop := match sp with
  | some (0, lo, hi) => ∃ x : Int32, v = .int x ∧ lo ≤ x.toInt ∧ x.toInt ≤ hi
  | some (1, lo, hi) => ∃ x : Int64, v = .long x ∧ lo ≤ x.toInt ∧ x.toInt ≤ hi
  | _ => True
def z_wv (g : zC) (ov : zO) (ad : Nat → Nat) (b : Nat) (ρ : Nat → Int) (p i : Nat) (v : Value) : Prop := match z_lk ov p i with
  | some a => v = zcv ad b ρ a
  | none => z_spv (z_sp g i) v
def z_en (cA : Nat → ClassId) (g : zC) (F : Nat → Value → Prop) (e : va_E) : Prop := match g.1 with
  | 0 => ∃ fs : List Value, e = .inr (g.2.1, fs) ∧ fs.length = g.2.2.length ∧ ∀ (i : Nat) (v : Value), fs[i]? = some v → F i v
  | 1 => ∃ f : Nat → Int32, e = .inl (cA 1, g.2.1, .inl f) ∧ ∀ j, j < g.2.1 → F j (.int (f j))
  | 2 => ∃ f : Nat → Int64, e = .inl (cA 2, g.2.1, .inr (.inl f)) ∧ ∀ j, j < g.2.1 → F j (.long (f j))
  | 3 => ∃ f : Nat → Int32, e = .inl (cA 3, g.2.1, .inl f) ∧ ∀ j, j < g.2.1 → F j (.int (f j))
  | 4 => ∃ f : Nat → Int32, e = .inl (cA 4, g.2.1, .inl f) ∧ ∀ j, j < g.2.1 → F j (.int (f j))
  | k => ∃ f : Nat → Option Nat, e = .inl (cA k, g.2.1, .inr (.inr (.inr (.inr f)))) ∧ ∀ j, j < g.2.1 → F j (va_rf (f j))
def z_wd (G : List zC) (cA : Nat → ClassId) (ov : zO) (ad : Nat → Nat) (b : Nat) (ρ : Nat → Int) (ws : va_W) : Prop := ws.length = ov.length ∧ ∀ (p : Nat) (q : Nat × va_E), ws[p]? = some q → q.1 = ad p ∧ ∃ g, G[p]? = some g ∧ z_en cA g (z_wv g ov ad b ρ p) q.2
def z_pu (iv : zI) (lv : zL) (sk : List zV) (ov : zO) (ρ : Nat → Int) : Prop := ziv iv ρ ∧ (∀ q ∈ lv, zok ov.length iv ρ q.2) ∧ (∀ v ∈ sk, zok ov.length iv ρ v) ∧ ∀ (p9 i9 : Nat) (v : zV), z_lk ov p9 i9 = some v → zok ov.length iv ρ v
/-- what is known of the script: its length; from a place on, six of its ints -/
def zSc (sl : Nat) (xs : Nat → Int32) (fl : Bool) (ρ : Nat → Int) : Prop := ρ 1 = (sl : Int) ∧ (fl = true → 0 ≤ ρ 8 ∧ ρ 8 + 6 ≤ (sl : Int) ∧ (∀ j, j < 6 → ρ (2 + j) = (xs ((ρ 8).toNat + j)).toInt) ∧ ρ 9 = (xs (ρ 8).toNat &&& 127).toInt)
theorem zSc_ext {sl : Nat} {xs : Nat → Int32} {fl : Bool} {ρ ρ' : Nat → Int} (h : zSc sl xs fl ρ) (hx : ∀ i, i < 10 → ρ' i = ρ i) : zSc sl xs fl ρ' := by
  refine ⟨(hx 1 (by omega)).trans h.1, fun e => ?_⟩
  obtain ⟨h1, h2, h3, h4⟩ := h.2 e
  have e8 := hx 8 (by omega)
  refine ⟨by rw [e8]; exact h1, by rw [e8]; exact h2, fun j hj => ?_, by rw [hx 9 (by omega), e8]; exact h4⟩
  rw [hx (2 + j) (by omega), e8]
  exact h3 j hj
def z_gm (D : va_G) (cl : List vw_C) (A : Nat → Prop) (cA : Nat → ClassId) (G : List zC) (b sl : Nat) (xs : Nat → Int32) (fl : Bool) (h0 : Heap) (nL : Nat) (iv : zI) (lv : zL) (sk : List zV) (ov : zO) (ρ : Nat → Int) (ad : Nat → Nat) (ws : va_W) (H : Heap) (locs : List Loc) (ls : Array Slot) : Prop :=
  z_pu iv lv sk ov ρ ∧ lv_has ls nL (lv.map fun q => (q.1, zcv ad b ρ q.2)) ∧ z_wd G cA ov ad b ρ ws ∧ va_P D cl ws H ∧ va_D A ws ∧ va_S A h0 H locs ∧ zSc sl xs fl ρ ∧ 9 < iv.length
theorem z_en_mono {cA : Nat → ClassId} {g : zC} {F F' : Nat → Value → Prop} {e : va_E} (h : ∀ i v, F i v → F' i v) (he : z_en cA g F e) : z_en cA g F' e := by
  unfold z_en at he ⊢
  split at he
  · obtain ⟨fs, h1, h2, h3⟩ := he; exact ⟨fs, h1, h2, fun i v hv => h i v (h3 i v hv)⟩
  · obtain ⟨f, h1, h2⟩ := he; exact ⟨f, h1, fun j hj => h j _ (h2 j hj)⟩
  · obtain ⟨f, h1, h2⟩ := he; exact ⟨f, h1, fun j hj => h j _ (h2 j hj)⟩
  · obtain ⟨f, h1, h2⟩ := he; exact ⟨f, h1, fun j hj => h j _ (h2 j hj)⟩
  · obtain ⟨f, h1, h2⟩ := he; exact ⟨f, h1, fun j hj => h j _ (h2 j hj)⟩
  · obtain ⟨f, h1, h2⟩ := he; exact ⟨f, h1, fun j hj => h j _ (h2 j hj)⟩
theorem z_wd_ext {G : List zC} {cA : Nat → ClassId} {ov : zO} {ad ad' : Nat → Nat} {b : Nat} {ρ ρ' : Nat → Int} {ws : va_W} {iv : zI} (hw : z_wd G cA ov ad b ρ ws) (hk : ∀ (p9 i9 : Nat) (v : zV), z_lk ov p9 i9 = some v → zok ov.length iv ρ v) (hx : ∀ i, i < iv.length → ρ' i = ρ i) (ha : ∀ q, q < ov.length → ad' q = ad q) : z_wd G cA ov ad' b ρ' ws := by
  refine ⟨hw.1, fun p q hq => ?_⟩
  obtain ⟨h1, g, hg, he⟩ := hw.2 p q hq
  have hp : p < ov.length := by rw [← hw.1]; exact (List.getElem?_eq_some_iff.mp hq).1
  refine ⟨by rw [ha p hp]; exact h1, g, hg, z_en_mono (fun i v hv => ?_) he⟩
  unfold z_wv at hv ⊢
  split at hv
  next a e =>
    rw [hv]
    exact (zcv_ext (hk _ _ a e) hx ha).symm
  next => exact hv
theorem z_gm.mv {D : va_G} {cl : List vw_C} {A : Nat → Prop} {cA : Nat → ClassId} {G : List zC} {b sl : Nat} {xs : Nat → Int32} {fl : Bool} {h0 : Heap} {nL : Nat} {iv iv' : zI} {lv : zL} {sk sk' : List zV} {ov : zO} {ρ ρ' : Nat → Int} {ad : Nat → Nat} {ws : va_W} {H : Heap} {locs : List Loc} {ls : Array Slot}
    (h : z_gm D cl A cA G b sl xs fl h0 nL iv lv sk ov ρ ad ws H locs ls) (hx : ∀ i, i < iv.length → ρ' i = ρ i) (hl : iv.length ≤ iv'.length) (hv : ziv iv' ρ') (hs : ∀ v ∈ sk', zok ov.length iv' ρ' v) : z_gm D cl A cA G b sl xs fl h0 nL iv' lv sk' ov ρ' ad ws H locs ls := by
  obtain ⟨⟨h1, h2, h3, h4⟩, h5, h6, hP, hD, hS, e1, e2⟩ := h
  refine ⟨⟨hv, fun q hq => zok_ext (h2 q hq) hx hl (Nat.le_refl _), hs, fun r hr v hv => zok_ext (h4 r hr v hv) hx hl (Nat.le_refl _)⟩, ?_, z_wd_ext h6 h4 hx (fun _ _ => rfl), hP, hD, hS, zSc_ext e1 (fun i hi => hx i (by omega)), Nat.lt_of_lt_of_le e2 hl⟩
  have e : (lv.map fun q => (q.1, zcv ad b ρ' q.2)) = (lv.map fun q => (q.1, zcv ad b ρ q.2)) := List.map_congr_left (fun q hq => by rw [zcv_ext (h2 q hq) hx (fun _ _ => rfl)])
  rw [e]
  exact h5
theorem z_skm {n : Nat} {iv : zI} {ρ ρ' : Nat → Int} {ad ad' : Nat → Nat} {b : Nat} {sk : List zV} (h : ∀ v ∈ sk, zok n iv ρ v) (hx : ∀ i, i < iv.length → ρ' i = ρ i) (ha : ∀ q, q < n → ad' q = ad q) : sk.map (zcv ad' b ρ') = sk.map (zcv ad b ρ) := List.map_congr_left (fun v hv => zcv_ext (h v hv) hx ha)
abbrev z_gs (D : va_G) (cl : List vw_C) (A : Nat → Prop) (cA : Nat → ClassId) (G : List zC) (b sl : Nat) (xs : Nat → Int32) (fl : Bool) (h0 : Heap) (nL : Nat) (st : zS) (ρ : Nat → Int) (ad : Nat → Nat) (ws : va_W) (H : Heap) (locs : List Loc) (ls : Array Slot) : Prop := z_gm D cl A cA G b sl xs fl h0 nL st.2.2.1 st.2.2.2.1 st.2.2.2.2.1 st.2.2.2.2.2 ρ ad ws H locs ls
def z_xt (st st' : zS) (ρ : Nat → Int) (ad : Nat → Nat) (ρ' : Nat → Int) (ad' : Nat → Nat) : Prop := (∀ i, i < st.2.2.1.length → ρ' i = ρ i) ∧ (∀ q, q < st.2.2.2.2.2.length → ad' q = ad q) ∧ st.2.2.1.length ≤ st'.2.2.1.length ∧ st.2.2.2.2.2.length ≤ st'.2.2.2.2.2.length
/-- the goal at one instruction: where each state behind it comes to its end, so does the one ahead of it -/
def zSt (p : Program) (l : Launch) (e : Env) (R : Room) (s : State) (m : MethodId) (args : Array Value) (below : List Frame) (meth : Method) (c : Code) (Q : State → Prop) (D : va_G) (cl : List vw_C) (A : Nat → Prop) (cA : Nat → ClassId) (G : List zC) (b sl : Nat) (xs : Nat → Int32) (fl : Bool) (h0 : Heap) (nL : Nat) (pc len : Nat) (st : zS) (ss : List (Option Nat × zS)) : Prop :=
  ∀ (ρ : Nat → Int) (ad : Nat → Nat) (ws : va_W) (H : Heap) (locs : List Loc) (ls : Array Slot), z_gs D cl A cA G b sl xs fl h0 nL st ρ ad ws H locs ls →
    (∀ q ∈ ss, ∀ (ρ' : Nat → Int) (ad' : Nat → Nat) (ws' : va_W) (H' : Heap) (locs' : List Loc) (ls' : Array Slot), z_xt st q.2 ρ ad ρ' ad' → z_gs D cl A cA G b sl xs fl h0 nL q.2 ρ' ad' ws' H' locs' ls' → W p l e R s m args below meth c H' locs' q.2.1 q.2.2.1 Q (F0 m (q.1.getD (pc + len)) ls' (q.2.2.2.2.2.1.map (zcv ad' b ρ')))) →
    W p l e R s m args below meth c H locs st.1 st.2.1 Q (F0 m pc ls (st.2.2.2.2.1.map (zcv ad b ρ)))
section ZST
variable {p : Program} {l : Launch} {e : Env} {R : Room} {s : State} {m : MethodId} {args : Array Value} {below : List Frame} {meth : Method} {c : Code} {Q : State → Prop} {D : va_G} {cl : List vw_C} {A : Nat → Prop} {cA : Nat → ClassId} {G : List zC} {b sl : Nat} {xs : Nat → Int32} {fl : Bool} {h0 : Heap} {nL : Nat} {cc : ByteArray} {pc : Nat}
/-! constants -/
def z_push (v : zV) (st : zS) : zR := match st with
  | (cu, su, iv, lv, sk, ov) => some [(none, (cu, su, iv, lv, v :: sk, ov))]
theorem zs_push {len : Nat} {v : zV} {x : Value} {st : zS} {ss : List (Option Nat × zS)} (h : z_push v st = some ss) (hv : ∀ (ad : Nat → Nat) (ρ : Nat → Int), ρ 0 = 0 → zcv ad b ρ v = x) (hk : ∀ (n : Nat) (iv : zI) (ρ : Nat → Int), ziv iv ρ → zok n iv ρ v)
    (hr : ∀ (H : Heap) (locs : List Loc) (cells slots : Nat) (ls : Array Slot) (rest : List Value), W p l e R s m args below meth c H locs cells slots Q (F0 m (pc + len) ls (x :: rest)) → W p l e R s m args below meth c H locs cells slots Q (F0 m pc ls rest)) : zSt p l e R s m args below meth c Q D cl A cA G b sl xs fl h0 nL pc len st ss := by
  obtain ⟨cu, su, iv, lv, sk, ov⟩ := st
  cases h
  intro ρ ad ws H locs ls hg kk
  have hi := hg.1.1
  have hq := kk _ (List.mem_singleton.mpr rfl) ρ ad ws H locs ls ⟨fun _ _ => rfl, fun _ _ => rfl, Nat.le_refl _, Nat.le_refl _⟩ (hg.mv (fun _ _ => rfl) (Nat.le_refl _) hi (fun w hw => (List.mem_cons.mp hw).elim (fun q => by rw [q]; exact hk _ _ _ hi) (fun q => hg.1.2.2.1 w q)))
  refine hr _ _ _ _ _ _ ?_
  have e : (v :: sk).map (zcv ad b ρ) = x :: sk.map (zcv ad b ρ) := by rw [List.map_cons, hv ad ρ hi.1]
  rw [← e]
  exact hq
theorem z_okc {n : Nat} {iv : zI} {ρ : Nat → Int} {k : Int} (hi : ziv iv ρ) (h1 : -2147483648 ≤ k) (h2 : k ≤ 2147483647) : zok n iv ρ (0, 0, k) := by
  refine ⟨hi.2.1, ?_, ?_⟩ <;> (unfold z_val; dsimp only; rw [hi.1]; omega)
theorem z_okl {n : Nat} {iv : zI} {ρ : Nat → Int} {k : Int} (hi : ziv iv ρ) (h1 : -9223372036854775808 ≤ k) (h2 : k ≤ 9223372036854775807) : zok n iv ρ (1, 0, k) := by
  refine ⟨hi.2.1, ?_, ?_⟩ <;> (unfold z_val; dsimp only; rw [hi.1]; omega)
theorem z_cvc {ad : Nat → Nat} {ρ : Nat → Int} {k : Int} (h : ρ 0 = 0) : zcv ad b ρ (0, 0, k) = .int (Int32.ofInt k) := by
  show Value.int (Int32.ofInt (ρ 0 + k)) = _
  rw [h, Int.zero_add]
theorem z_cvl {ad : Nat → Nat} {ρ : Nat → Int} {k : Int} (h : ρ 0 = 0) : zcv ad b ρ (1, 0, k) = .long (Int64.ofInt k) := by
  show Value.long (Int64.ofInt (ρ 0 + k)) = _
  rw [h, Int.zero_add]
def z_ipush (n : Int) (st : zS) : zR := if -32768 ≤ n ∧ n ≤ 32767 then z_push (0, 0, n) st else none
theorem zs_iconst (hx : p.tables.exec = Jvm.exec) (hb : c.code = cc) {n : Int} {st : zS} {ss : List (Option Nat × zS)} (hd : decode cc pc = .ok (.iconst n, 1)) (h : z_ipush n st = some ss) : zSt p l e R s m args below meth c Q D cl A cA G b sl xs fl h0 nL pc 1 st ss := by
  unfold z_ipush at h
  split at h
  next hn => exact zs_push h (fun ad ρ h0 => z_cvc h0) (fun _ _ _ hi => z_okc hi (by omega) (by omega)) (fun _ _ _ _ _ _ k => lv_iconst hx hb hd rfl k)
  next => cases h
theorem z_i8 {n : Int} (h1 : -128 ≤ n) (h2 : n ≤ 127) : (Int8.ofInt n).toInt32 = Int32.ofInt n := by
  apply Int32.toInt_inj.mp
  rw [Int8.toInt_toInt32, z_i32 (by omega) (by omega), Int8.toInt_ofInt]
  show n.bmod 256 = n
  rw [Int.bmod_def]
  split <;> omega
theorem z_i16 {n : Int} (h1 : -32768 ≤ n) (h2 : n ≤ 32767) : (Int16.ofInt n).toInt32 = Int32.ofInt n := by
  apply Int32.toInt_inj.mp
  rw [Int16.toInt_toInt32, z_i32 (by omega) (by omega), Int16.toInt_ofInt]
  show n.bmod 65536 = n
  rw [Int.bmod_def]
  split <;> omega
def z_bpush (n : Int) (st : zS) : zR := if -128 ≤ n ∧ n ≤ 127 then z_push (0, 0, n) st else none
theorem zs_bipush (hx : p.tables.exec = Jvm.exec) (hb : c.code = cc) {n : Int} {st : zS} {ss : List (Option Nat × zS)} (hd : decode cc pc = .ok (.bipush n, 2)) (h : z_bpush n st = some ss) : zSt p l e R s m args below meth c Q D cl A cA G b sl xs fl h0 nL pc 2 st ss := by
  unfold z_bpush at h
  split at h
  next hn => exact zs_push h (fun ad ρ h0 => z_cvc h0) (fun _ _ _ hi => z_okc hi (by omega) (by omega)) (fun _ _ _ _ _ _ k => lv_bipush hx hb hd (z_i8 hn.1 hn.2) k)
  next => cases h
theorem zs_sipush (hx : p.tables.exec = Jvm.exec) (hb : c.code = cc) {n : Int} {st : zS} {ss : List (Option Nat × zS)} (hd : decode cc pc = .ok (.sipush n, 3)) (h : z_ipush n st = some ss) : zSt p l e R s m args below meth c Q D cl A cA G b sl xs fl h0 nL pc 3 st ss := by
  unfold z_ipush at h
  split at h
  next hn => exact zs_push h (fun ad ρ h0 => z_cvc h0) (fun _ _ _ hi => z_okc hi (by omega) (by omega)) (fun _ _ _ _ _ _ k => lv_sipush hx hb hd (z_i16 hn.1 hn.2) k)
  next => cases h
theorem zs_lconst (hx : p.tables.exec = Jvm.exec) (hb : c.code = cc) {n : Fin 2} {st : zS} {ss : List (Option Nat × zS)} (hd : decode cc pc = .ok (.lconst n, 1)) (h : z_push (1, 0, (n.val : Int)) st = some ss) : zSt p l e R s m args below meth c Q D cl A cA G b sl xs fl h0 nL pc 1 st ss := by
  have hn : n.val < 2 := n.isLt
  exact zs_push h (fun ad ρ h0 => z_cvl h0) (fun _ _ _ hi => z_okl hi (by omega) (by omega)) (fun _ _ _ _ _ _ k => lv_lconst hx hb hd rfl k)
theorem zs_null (hx : p.tables.exec = Jvm.exec) (hb : c.code = cc) {st : zS} {ss : List (Option Nat × zS)} (hd : decode cc pc = .ok (.aconst_null, 1)) (h : z_push (3, 0, 0) st = some ss) : zSt p l e R s m args below meth c Q D cl A cA G b sl xs fl h0 nL pc 1 st ss :=
  zs_push h (fun ad ρ h0 => rfl) (fun _ _ _ hi => True.intro) (fun _ _ _ _ _ _ k => lv_null hx hb hd k)
/-! places -/
def z_fd (lv : zL) (k : Nat) : Option zV := match lv with
  | [] => none
  | (i, v) :: r => if i = k then some v else z_fd r k
theorem z_fd_mem {lv : zL} {k : Nat} {v : zV} (h : z_fd lv k = some v) : (k, v) ∈ lv := by
  induction lv with
  | nil => cases h
  | cons q r ih =>
    obtain ⟨i, w⟩ := q
    unfold z_fd at h
    split at h
    next e => cases h; subst e; exact List.mem_cons_self
    next => exact List.mem_cons_of_mem _ (ih h)
def z_ld (kd : Nat → Bool) (k : Nat) (st : zS) : zR := match st with
  | (cu, su, iv, lv, sk, ov) => match z_fd lv k with
    | some v => if kd v.1 then some [(none, (cu, su, iv, lv, v :: sk, ov))] else none
    | none => none
theorem zs_ld {len k : Nat} {kd : Nat → Bool} {st : zS} {ss : List (Option Nat × zS)} (h : z_ld kd k st = some ss)
    (hr : ∀ (ad : Nat → Nat) (ρ : Nat → Int) (v : zV) (H : Heap) (locs : List Loc) (cells slots : Nat) (ls : Array Slot) (rest : List Value), kd v.1 = true → ls[k]? = some (.val (zcv ad b ρ v)) → W p l e R s m args below meth c H locs cells slots Q (F0 m (pc + len) ls (zcv ad b ρ v :: rest)) → W p l e R s m args below meth c H locs cells slots Q (F0 m pc ls rest)) : zSt p l e R s m args below meth c Q D cl A cA G b sl xs fl h0 nL pc len st ss := by
  obtain ⟨cu, su, iv, lv, sk, ov⟩ := st
  unfold z_ld at h
  dsimp only at h
  split at h
  next v hv =>
    split at h
    next hk =>
      cases h
      intro ρ ad ws H locs ls hg kk
      have hm := z_fd_mem hv
      have hls : ls[k]? = some (.val (zcv ad b ρ v)) := hg.2.1.2.2 (k, zcv ad b ρ v) (List.mem_map.mpr ⟨(k, v), hm, rfl⟩)
      refine hr ad ρ v _ _ _ _ _ _ hk hls ?_
      exact kk _ (List.mem_singleton.mpr rfl) ρ ad ws H locs ls ⟨fun _ _ => rfl, fun _ _ => rfl, Nat.le_refl _, Nat.le_refl _⟩ (hg.mv (fun _ _ => rfl) (Nat.le_refl _) hg.1.1 (fun w hw => (List.mem_cons.mp hw).elim (fun q => q ▸ hg.1.2.1 _ hm) (fun q => hg.1.2.2.1 w q)))
    next => cases h
  next => cases h
def z_k0 (k : Nat) : Bool := Nat.beq k 0
def z_k1 (k : Nat) : Bool := Nat.beq k 1
def z_kr (k : Nat) : Bool := Nat.beq k 2 || Nat.beq k 4
theorem z_k0c {v : zV} (h : z_k0 v.1 = true) (ad : Nat → Nat) (b : Nat) (ρ : Nat → Int) : zcv ad b ρ v = .int (Int32.ofInt (z_val ρ v)) := by
  have e : v.1 = 0 := Nat.eq_of_beq_eq_true h
  unfold zcv; rw [e]; rfl
theorem z_k1c {v : zV} (h : z_k1 v.1 = true) (ad : Nat → Nat) (b : Nat) (ρ : Nat → Int) : zcv ad b ρ v = .long (Int64.ofInt (z_val ρ v)) := by
  have e : v.1 = 1 := Nat.eq_of_beq_eq_true h
  unfold zcv; rw [e]; rfl
theorem z_krc {v : zV} (h : z_kr v.1 = true) (ad : Nat → Nat) (b : Nat) (ρ : Nat → Int) : ∃ a : Nat, zcv ad b ρ v = .ref a := by
  unfold z_kr at h
  rcases Bool.or_eq_true _ _ ▸ h with q | q
  · have e : v.1 = 2 := Nat.eq_of_beq_eq_true q
    unfold zcv; rw [e]; exact ⟨_, rfl⟩
  · have e : v.1 = 4 := Nat.eq_of_beq_eq_true q
    unfold zcv; rw [e]; exact ⟨_, rfl⟩
theorem zs_iload (hx : p.tables.exec = Jvm.exec) (hb : c.code = cc) {k : Nat} {st : zS} {ss : List (Option Nat × zS)} (hd : decode cc pc = .ok (.iload k, 2)) (h : z_ld z_k0 k st = some ss) : zSt p l e R s m args below meth c Q D cl A cA G b sl xs fl h0 nL pc 2 st ss := zs_ld h (fun ad ρ v _ _ _ _ _ _ hk hl q => by
  rw [z_k0c hk] at hl q; exact lv_iload hx hb hd hl q)
theorem zs_iload_n (hx : p.tables.exec = Jvm.exec) (hb : c.code = cc) {k : Fin 4} {st : zS} {ss : List (Option Nat × zS)} (hd : decode cc pc = .ok (.iload_n k, 1)) (h : z_ld z_k0 k.val st = some ss) : zSt p l e R s m args below meth c Q D cl A cA G b sl xs fl h0 nL pc 1 st ss := zs_ld h (fun ad ρ v _ _ _ _ _ _ hk hl q => by
  rw [z_k0c hk] at hl q; exact lv_iload_n hx hb hd rfl hl q)
theorem zs_lload (hx : p.tables.exec = Jvm.exec) (hb : c.code = cc) {k : Nat} {st : zS} {ss : List (Option Nat × zS)} (hd : decode cc pc = .ok (.lload k, 2)) (h : z_ld z_k1 k st = some ss) : zSt p l e R s m args below meth c Q D cl A cA G b sl xs fl h0 nL pc 2 st ss := zs_ld h (fun ad ρ v _ _ _ _ _ _ hk hl q => by
  rw [z_k1c hk] at hl q; exact lv_lload hx hb hd hl q)
theorem zs_lload_n (hx : p.tables.exec = Jvm.exec) (hb : c.code = cc) {k : Fin 4} {st : zS} {ss : List (Option Nat × zS)} (hd : decode cc pc = .ok (.lload_n k, 1)) (h : z_ld z_k1 k.val st = some ss) : zSt p l e R s m args below meth c Q D cl A cA G b sl xs fl h0 nL pc 1 st ss := zs_ld h (fun ad ρ v _ _ _ _ _ _ hk hl q => by
  rw [z_k1c hk] at hl q; exact lv_lload_n hx hb hd rfl hl q)
theorem zs_aload (hx : p.tables.exec = Jvm.exec) (hb : c.code = cc) {k : Nat} {st : zS} {ss : List (Option Nat × zS)} (hd : decode cc pc = .ok (.aload k, 2)) (h : z_ld z_kr k st = some ss) : zSt p l e R s m args below meth c Q D cl A cA G b sl xs fl h0 nL pc 2 st ss := zs_ld h (fun ad ρ v _ _ _ _ _ _ hk hl q => by
  obtain ⟨a, ea⟩ := z_krc hk ad b ρ
  rw [ea] at hl q; exact lv_aload hx hb hd hl q)
theorem zs_aload_n (hx : p.tables.exec = Jvm.exec) (hb : c.code = cc) {k : Fin 4} {st : zS} {ss : List (Option Nat × zS)} (hd : decode cc pc = .ok (.aload_n k, 1)) (h : z_ld z_kr k.val st = some ss) : zSt p l e R s m args below meth c Q D cl A cA G b sl xs fl h0 nL pc 1 st ss := zs_ld h (fun ad ρ v _ _ _ _ _ _ hk hl q => by
  obtain ⟨a, ea⟩ := z_krc hk ad b ρ
  rw [ea] at hl q; exact lv_aload_n hx hb hd rfl hl q)
theorem z_cat {ad : Nat → Nat} {ρ : Nat → Int} (v : zV) : ((zcv ad b ρ v).category == 2) = Nat.beq v.1 1 := by
  obtain ⟨k, s, o⟩ := v
  match k with
  | 0 => rfl
  | 1 => rfl
  | 2 => rfl
  | 3 => rfl
  | _ + 4 => rfl
def z_st1 (lv : zL) (k : Nat) (v : zV) : zL := (k, v) :: lv.filter (fun q => !(q.1 == k) && !(q.1 + 1 == k && Nat.beq q.2.1 1))
def z_st2 (lv : zL) (k : Nat) (v : zV) : zL := (k, v) :: lv.filter (fun q => !(q.1 == k) && (!(q.1 == k + 1) && !(q.1 + 1 == k && Nat.beq q.2.1 1)))
theorem z_st1_map {ad : Nat → Nat} {ρ : Nat → Int} {lv : zL} {k : Nat} {v : zV} : (k, zcv ad b ρ v) :: (lv.map fun q => (q.1, zcv ad b ρ q.2)).filter (fun q => !(q.1 == k) && !(q.1 + 1 == k && q.2.category == 2)) = (z_st1 lv k v).map fun q => (q.1, zcv ad b ρ q.2) := by
  unfold z_st1
  rw [List.map_cons, List.filter_map]
  congr 2
  apply List.filter_congr
  intro q _
  show (!(q.1 == k) && !(q.1 + 1 == k && (zcv ad b ρ q.2).category == 2)) = _
  rw [z_cat]
theorem z_st2_map {ad : Nat → Nat} {ρ : Nat → Int} {lv : zL} {k : Nat} {v : zV} : (k, zcv ad b ρ v) :: (lv.map fun q => (q.1, zcv ad b ρ q.2)).filter (fun q => !(q.1 == k) && (!(q.1 == k + 1) && !(q.1 + 1 == k && q.2.category == 2))) = (z_st2 lv k v).map fun q => (q.1, zcv ad b ρ q.2) := by
  unfold z_st2
  rw [List.map_cons, List.filter_map]
  congr 2
  apply List.filter_congr
  intro q _
  show (!(q.1 == k) && (!(q.1 == k + 1) && !(q.1 + 1 == k && (zcv ad b ρ q.2).category == 2))) = _
  rw [z_cat]
def z_sto (kd : Nat → Bool) (nL k : Nat) (st : zS) : zR := match st with
  | (cu, su, iv, lv, v :: sk, ov) => if kd v.1 && Nat.blt k nL then some [(none, (cu, su, iv, z_st1 lv k v, sk, ov))] else none
  | _ => none
def z_sto2 (nL k : Nat) (st : zS) : zR := match st with
  | (cu, su, iv, lv, v :: sk, ov) => if z_k1 v.1 && Nat.blt (k + 1) nL then some [(none, (cu, su, iv, z_st2 lv k v, sk, ov))] else none
  | _ => none
theorem z_gm.lv {iv : zI} {lv lv' : zL} {sk sk' : List zV} {ov : zO} {ρ : Nat → Int} {ad : Nat → Nat} {ws : va_W} {H : Heap} {locs : List Loc} {ls ls' : Array Slot} (h : z_gm D cl A cA G b sl xs fl h0 nL iv lv sk ov ρ ad ws H locs ls) (hl : lv_has ls' nL (lv'.map fun q => (q.1, zcv ad b ρ q.2))) (h1 : ∀ q ∈ lv', zok ov.length iv ρ q.2) (h2 : ∀ v ∈ sk', zok ov.length iv ρ v) : z_gm D cl A cA G b sl xs fl h0 nL iv lv' sk' ov ρ ad ws H locs ls' :=
  ⟨⟨h.1.1, h1, h2, h.1.2.2.2⟩, hl, h.2.2⟩
theorem zs_sto {len k : Nat} {kd : Nat → Bool} {st : zS} {ss : List (Option Nat × zS)} (h : z_sto kd nL k st = some ss)
    (hr : ∀ (ad : Nat → Nat) (ρ : Nat → Int) (v : zV) (lv : List (Nat × Value)) (H : Heap) (locs : List Loc) (cells slots : Nat) (ls : Array Slot) (rest : List Value), kd v.1 = true → k < nL → lv_has ls nL lv → (∀ ls' : Array Slot, lv_has ls' nL ((k, zcv ad b ρ v) :: lv.filter (fun q => !(q.1 == k) && !(q.1 + 1 == k && q.2.category == 2))) → W p l e R s m args below meth c H locs cells slots Q (F0 m (pc + len) ls' rest)) → W p l e R s m args below meth c H locs cells slots Q (F0 m pc ls (zcv ad b ρ v :: rest))) : zSt p l e R s m args below meth c Q D cl A cA G b sl xs fl h0 nL pc len st ss := by
  obtain ⟨cu, su, iv, lv, sk, ov⟩ := st
  unfold z_sto at h
  rcases sk with _ | ⟨v, sk⟩
  · cases h
  dsimp only at h
  split at h
  next hk =>
    cases h
    rw [Bool.and_eq_true] at hk
    intro ρ ad ws H locs ls hg kk
    refine hr ad ρ v _ _ _ _ _ _ _ hk.1 (Nat.le_of_ble_eq_true hk.2) hg.2.1 (fun ls' hl' => ?_)
    rw [z_st1_map] at hl'
    refine kk _ (List.mem_singleton.mpr rfl) ρ ad ws H locs ls' ⟨fun _ _ => rfl, fun _ _ => rfl, Nat.le_refl _, Nat.le_refl _⟩ (hg.lv hl' (fun q hq => ?_) (fun w hw => hg.1.2.2.1 w (List.mem_cons_of_mem _ hw)))
    rcases List.mem_cons.mp hq with r | r
    · subst r; exact hg.1.2.2.1 v List.mem_cons_self
    · exact hg.1.2.1 q (List.mem_filter.mp r).1
  next => cases h
theorem zs_sto2 {len k : Nat} {st : zS} {ss : List (Option Nat × zS)} (h : z_sto2 nL k st = some ss)
    (hr : ∀ (ad : Nat → Nat) (ρ : Nat → Int) (v : zV) (lv : List (Nat × Value)) (H : Heap) (locs : List Loc) (cells slots : Nat) (ls : Array Slot) (rest : List Value), z_k1 v.1 = true → k + 1 < nL → lv_has ls nL lv → (∀ ls' : Array Slot, lv_has ls' nL ((k, zcv ad b ρ v) :: lv.filter (fun q => !(q.1 == k) && (!(q.1 == k + 1) && !(q.1 + 1 == k && q.2.category == 2)))) → W p l e R s m args below meth c H locs cells slots Q (F0 m (pc + len) ls' rest)) → W p l e R s m args below meth c H locs cells slots Q (F0 m pc ls (zcv ad b ρ v :: rest))) : zSt p l e R s m args below meth c Q D cl A cA G b sl xs fl h0 nL pc len st ss := by
  obtain ⟨cu, su, iv, lv, sk, ov⟩ := st
  unfold z_sto2 at h
  rcases sk with _ | ⟨v, sk⟩
  · cases h
  dsimp only at h
  split at h
  next hk =>
    cases h
    rw [Bool.and_eq_true] at hk
    intro ρ ad ws H locs ls hg kk
    refine hr ad ρ v _ _ _ _ _ _ _ hk.1 (Nat.le_of_ble_eq_true hk.2) hg.2.1 (fun ls' hl' => ?_)
    rw [z_st2_map] at hl'
    refine kk _ (List.mem_singleton.mpr rfl) ρ ad ws H locs ls' ⟨fun _ _ => rfl, fun _ _ => rfl, Nat.le_refl _, Nat.le_refl _⟩ (hg.lv hl' (fun q hq => ?_) (fun w hw => hg.1.2.2.1 w (List.mem_cons_of_mem _ hw)))
    rcases List.mem_cons.mp hq with r | r
    · subst r; exact hg.1.2.2.1 v List.mem_cons_self
    · exact hg.1.2.1 q (List.mem_filter.mp r).1
  next => cases h
theorem zs_istore (hx : p.tables.exec = Jvm.exec) (hb : c.code = cc) {k : Nat} {st : zS} {ss : List (Option Nat × zS)} (hd : decode cc pc = .ok (.istore k, 2)) (h : z_sto z_k0 nL k st = some ss) : zSt p l e R s m args below meth c Q D cl A cA G b sl xs fl h0 nL pc 2 st ss := zs_sto h (fun ad ρ v _ _ _ _ _ _ _ hk hn hl q => by
  rw [z_k0c hk] at q ⊢; exact lv_istore hx hb hd hl hn rfl q)
theorem zs_istore_n (hx : p.tables.exec = Jvm.exec) (hb : c.code = cc) {k : Fin 4} {st : zS} {ss : List (Option Nat × zS)} (hd : decode cc pc = .ok (.istore_n k, 1)) (h : z_sto z_k0 nL k.val st = some ss) : zSt p l e R s m args below meth c Q D cl A cA G b sl xs fl h0 nL pc 1 st ss := zs_sto h (fun ad ρ v _ _ _ _ _ _ _ hk hn hl q => by
  rw [z_k0c hk] at q ⊢; exact lv_istore_n hx hb hd rfl hl hn rfl q)
theorem zs_lstore (hx : p.tables.exec = Jvm.exec) (hb : c.code = cc) {k : Nat} {st : zS} {ss : List (Option Nat × zS)} (hd : decode cc pc = .ok (.lstore k, 2)) (h : z_sto2 nL k st = some ss) : zSt p l e R s m args below meth c Q D cl A cA G b sl xs fl h0 nL pc 2 st ss := zs_sto2 h (fun ad ρ v _ _ _ _ _ _ _ hk hn hl q => by
  rw [z_k1c hk] at q ⊢; exact lv_lstore hx hb hd hl hn rfl q)
theorem zs_lstore_n (hx : p.tables.exec = Jvm.exec) (hb : c.code = cc) {k : Fin 4} {st : zS} {ss : List (Option Nat × zS)} (hd : decode cc pc = .ok (.lstore_n k, 1)) (h : z_sto2 nL k.val st = some ss) : zSt p l e R s m args below meth c Q D cl A cA G b sl xs fl h0 nL pc 1 st ss := zs_sto2 h (fun ad ρ v _ _ _ _ _ _ _ hk hn hl q => by
  rw [z_k1c hk] at q ⊢; exact lv_lstore_n hx hb hd rfl hl hn rfl q)
theorem zs_astore (hx : p.tables.exec = Jvm.exec) (hb : c.code = cc) {k : Nat} {st : zS} {ss : List (Option Nat × zS)} (hd : decode cc pc = .ok (.astore k, 2)) (h : z_sto z_kr nL k st = some ss) : zSt p l e R s m args below meth c Q D cl A cA G b sl xs fl h0 nL pc 2 st ss := zs_sto h (fun ad ρ v _ _ _ _ _ _ _ hk hn hl q => by
  obtain ⟨a, ea⟩ := z_krc hk ad b ρ
  rw [ea] at q ⊢; exact lv_astore hx hb hd hl hn rfl q)
theorem zs_astore_n (hx : p.tables.exec = Jvm.exec) (hb : c.code = cc) {k : Fin 4} {st : zS} {ss : List (Option Nat × zS)} (hd : decode cc pc = .ok (.astore_n k, 1)) (h : z_sto z_kr nL k.val st = some ss) : zSt p l e R s m args below meth c Q D cl A cA G b sl xs fl h0 nL pc 1 st ss := zs_sto h (fun ad ρ v _ _ _ _ _ _ _ hk hn hl q => by
  obtain ⟨a, ea⟩ := z_krc hk ad b ρ
  rw [ea] at q ⊢; exact lv_astore_n hx hb hd rfl hl hn rfl q)
end ZST
end
section
section ZST3
variable {p : Program} {l : Launch} {e : Env} {R : Room} {s : State} {m : MethodId} {args : Array Value} {below : List Frame} {meth : Method} {c : Code} {Q : State → Prop} {D : va_G} {cl : List vw_C} {A : Nat → Prop} {cA : Nat → ClassId} {G : List zC} {b sl : Nat} {xs : Nat → Int32} {fl : Bool} {h0 : Heap} {nL : Nat} {cc : ByteArray} {pc : Nat}
theorem z_ok0 {n : Nat} {iv : zI} {ρ : Nat → Int} {v : zV} (h : zok n iv ρ v) (hk : v.1 = 0) : v.2.1 < iv.length ∧ -2147483648 ≤ z_val ρ v ∧ z_val ρ v ≤ 2147483647 := by
  unfold zok at h; rw [hk] at h; exact h
theorem z_ok1 {n : Nat} {iv : zI} {ρ : Nat → Int} {v : zV} (h : zok n iv ρ v) (hk : v.1 = 1) : v.2.1 < iv.length ∧ -9223372036854775808 ≤ z_val ρ v ∧ z_val ρ v ≤ 9223372036854775807 := by
  unfold zok at h; rw [hk] at h; exact h
theorem z_ok0' {n : Nat} {iv : zI} {ρ : Nat → Int} {v : zV} (hk : v.1 = 0) (h1 : v.2.1 < iv.length) (x : Int32) (hx : z_val ρ v = x.toInt) : zok n iv ρ v := by
  unfold zok; rw [hk]; exact ⟨h1, by rw [hx]; exact (z_r32 x).1, by rw [hx]; exact (z_r32 x).2⟩
theorem z_ok1' {n : Nat} {iv : zI} {ρ : Nat → Int} {v : zV} (hk : v.1 = 1) (h1 : v.2.1 < iv.length) (x : Int64) (hx : z_val ρ v = x.toInt) : zok n iv ρ v := by
  unfold zok; rw [hk]; exact ⟨h1, by rw [hx]; exact (z_r64 x).1, by rw [hx]; exact (z_r64 x).2⟩
theorem z_cv0 {v : zV} (hk : v.1 = 0) (ad : Nat → Nat) (b : Nat) (ρ : Nat → Int) : zcv ad b ρ v = .int (Int32.ofInt (z_val ρ v)) := by unfold zcv; rw [hk]; rfl
theorem z_cv1 {v : zV} (hk : v.1 = 1) (ad : Nat → Nat) (b : Nat) (ρ : Nat → Int) : zcv ad b ρ v = .long (Int64.ofInt (z_val ρ v)) := by unfold zcv; rw [hk]; rfl
theorem z_cv2 {v : zV} (hk : v.1 = 2) (ad : Nat → Nat) (b : Nat) (ρ : Nat → Int) : zcv ad b ρ v = .ref (ad v.2.1) := by unfold zcv; rw [hk]; rfl
/-! one new value in place of k old ones -/
theorem z_fin {cu su : Nat} {iv iv' : zI} {lv : zL} {sk r : List zV} {ov : zO} {ρ ρ' : Nat → Int} {ad : Nat → Nat} {ws : va_W} {H : Heap} {locs : List Loc} {ls : Array Slot} {len : Nat} {v : zV} {x : Value}
    (hg : z_gm D cl A cA G b sl xs fl h0 nL iv lv sk ov ρ ad ws H locs ls) (hsub : ∀ w ∈ r, w ∈ sk) (hx : ∀ i, i < iv.length → ρ' i = ρ i) (hl : iv.length ≤ iv'.length) (hv : ziv iv' ρ') (hvo : zok ov.length iv' ρ' v) (hvx : zcv ad b ρ' v = x)
    (kk : ∀ q ∈ [((none : Option Nat), ((cu, su, iv', lv, v :: r, ov) : zS))], ∀ (ρ' : Nat → Int) (ad' : Nat → Nat) (ws' : va_W) (H' : Heap) (locs' : List Loc) (ls' : Array Slot), z_xt (cu, su, iv, lv, sk, ov) q.2 ρ ad ρ' ad' → z_gs D cl A cA G b sl xs fl h0 nL q.2 ρ' ad' ws' H' locs' ls' → W p l e R s m args below meth c H' locs' q.2.1 q.2.2.1 Q (F0 m (q.1.getD (pc + len)) ls' (q.2.2.2.2.2.1.map (zcv ad' b ρ')))) :
    W p l e R s m args below meth c H locs cu su Q (F0 m (pc + len) ls (x :: r.map (zcv ad b ρ))) := by
  have hq := kk _ (List.mem_singleton.mpr rfl) ρ' ad ws H locs ls ⟨hx, fun _ _ => rfl, hl, Nat.le_refl _⟩ (hg.mv hx hl hv (fun w hw => (List.mem_cons.mp hw).elim (fun q => by rw [q]; exact hvo) (fun q => zok_ext (hg.1.2.2.1 w (hsub w q)) hx hl (Nat.le_refl _))))
  have e : (v :: r).map (zcv ad b ρ') = x :: r.map (zcv ad b ρ) := by
    rw [List.map_cons, hvx, z_skm (fun w hw => hg.1.2.2.1 w (hsub w hw)) hx (fun _ _ => rfl)]
  rw [← e]
  exact hq
def z_bo (k1 k2 : Nat) (f : zI → zV → zV → Option (zI × zV)) (st : zS) : zR := match st with
  | (cu, su, iv, lv, y :: x :: r, ov) => if x.1 = k1 ∧ y.1 = k2 then (match f iv x y with
      | some q => some [(none, (cu, su, q.1, lv, q.2 :: r, ov))]
      | none => none) else none
  | _ => none
theorem z_bo_inv {k1 k2 : Nat} {f : zI → zV → zV → Option (zI × zV)} {st : zS} {ss : List (Option Nat × zS)} (h : z_bo k1 k2 f st = some ss) : ∃ cu su iv lv y x r ov q, st = (cu, su, iv, lv, y :: x :: r, ov) ∧ x.1 = k1 ∧ y.1 = k2 ∧ f iv x y = some q ∧ ss = [(none, (cu, su, q.1, lv, q.2 :: r, ov))] := by
  obtain ⟨cu, su, iv, lv, sk, ov⟩ := st
  unfold z_bo at h
  rcases sk with _ | ⟨y, _ | ⟨x, r⟩⟩
  · cases h
  · cases h
  dsimp only at h
  split at h
  next hk =>
    split at h
    next q hq => cases h; exact ⟨cu, su, iv, lv, y, x, r, ov, q, rfl, hk.1, hk.2, hq, rfl⟩
    next => cases h
  next => cases h
theorem zs_bi {len : Nat} {op : Int32 → Int32 → Int32} {f : zI → zV → zV → Option (zI × zV)} {st : zS} {ss : List (Option Nat × zS)} (hf : zBi op f) (h : z_bo 0 0 f st = some ss)
    (hr : ∀ (X Y : Int32) (H : Heap) (locs : List Loc) (cells slots : Nat) (ls : Array Slot) (rest : List Value), (∃ iv x y ρ, f iv x y ≠ none ∧ ziv iv ρ ∧ Y.toInt = z_val ρ y) → W p l e R s m args below meth c H locs cells slots Q (F0 m (pc + len) ls (.int (op X Y) :: rest)) → W p l e R s m args below meth c H locs cells slots Q (F0 m pc ls (.int Y :: .int X :: rest))) : zSt p l e R s m args below meth c Q D cl A cA G b sl xs fl h0 nL pc len st ss := by
  obtain ⟨cu, su, iv, lv, y, x, r, ov, q, rfl, hx, hy, hq, rfl⟩ := z_bo_inv h
  intro ρ ad ws H locs ls hg kk
  have ox := z_ok0 (hg.1.2.2.1 x (List.mem_cons_of_mem _ List.mem_cons_self)) hx
  have oy := z_ok0 (hg.1.2.2.1 y List.mem_cons_self) hy
  have eX := z_i32 ox.2.1 ox.2.2
  have eY := z_i32 oy.2.1 oy.2.2
  obtain ⟨ρ', n1, n2, n3, n4, n5, n6⟩ := hf iv x y q ρ _ _ hq hg.1.1 ox.1 oy.1 eX eY
  show W p l e R s m args below meth c H locs cu su Q (F0 m pc ls (zcv ad b ρ y :: zcv ad b ρ x :: r.map (zcv ad b ρ)))
  rw [z_cv0 hx, z_cv0 hy]
  refine hr _ _ _ _ _ _ _ _ ⟨iv, x, y, ρ, (by rw [hq]; exact fun h => by cases h), hg.1.1, eY⟩ ?_
  exact z_fin hg (fun w hw => List.mem_cons_of_mem _ (List.mem_cons_of_mem _ hw)) n1 n2 n3 (z_ok0' n4 n5 _ n6) (by rw [z_cv0 n4, n6, z_o32]) kk
theorem zs_bl {len : Nat} {op : Int64 → Int64 → Int64} {f : zI → zV → zV → Option (zI × zV)} {st : zS} {ss : List (Option Nat × zS)} (hf : zBl op f) (h : z_bo 1 1 f st = some ss)
    (hr : ∀ (X Y : Int64) (H : Heap) (locs : List Loc) (cells slots : Nat) (ls : Array Slot) (rest : List Value), (∃ iv x y ρ, f iv x y ≠ none ∧ ziv iv ρ ∧ Y.toInt = z_val ρ y) → W p l e R s m args below meth c H locs cells slots Q (F0 m (pc + len) ls (.long (op X Y) :: rest)) → W p l e R s m args below meth c H locs cells slots Q (F0 m pc ls (.long Y :: .long X :: rest))) : zSt p l e R s m args below meth c Q D cl A cA G b sl xs fl h0 nL pc len st ss := by
  obtain ⟨cu, su, iv, lv, y, x, r, ov, q, rfl, hx, hy, hq, rfl⟩ := z_bo_inv h
  intro ρ ad ws H locs ls hg kk
  have ox := z_ok1 (hg.1.2.2.1 x (List.mem_cons_of_mem _ List.mem_cons_self)) hx
  have oy := z_ok1 (hg.1.2.2.1 y List.mem_cons_self) hy
  have eX := z_i64 ox.2.1 ox.2.2
  have eY := z_i64 oy.2.1 oy.2.2
  obtain ⟨ρ', n1, n2, n3, n4, n5, n6⟩ := hf iv x y q ρ _ _ hq hg.1.1 ox.1 oy.1 eX eY
  show W p l e R s m args below meth c H locs cu su Q (F0 m pc ls (zcv ad b ρ y :: zcv ad b ρ x :: r.map (zcv ad b ρ)))
  rw [z_cv1 hx, z_cv1 hy]
  refine hr _ _ _ _ _ _ _ _ ⟨iv, x, y, ρ, (by rw [hq]; exact fun h => by cases h), hg.1.1, eY⟩ ?_
  exact z_fin hg (fun w hw => List.mem_cons_of_mem _ (List.mem_cons_of_mem _ hw)) n1 n2 n3 (z_ok1' n4 n5 _ n6) (by rw [z_cv1 n4, n6, z_o64]) kk
theorem zs_bs {len : Nat} {op : Int64 → Int32 → Int64} {f : zI → zV → zV → Option (zI × zV)} {st : zS} {ss : List (Option Nat × zS)} (hf : zBs op f) (h : z_bo 1 0 f st = some ss)
    (hr : ∀ (X : Int64) (Y : Int32) (H : Heap) (locs : List Loc) (cells slots : Nat) (ls : Array Slot) (rest : List Value), W p l e R s m args below meth c H locs cells slots Q (F0 m (pc + len) ls (.long (op X Y) :: rest)) → W p l e R s m args below meth c H locs cells slots Q (F0 m pc ls (.int Y :: .long X :: rest))) : zSt p l e R s m args below meth c Q D cl A cA G b sl xs fl h0 nL pc len st ss := by
  obtain ⟨cu, su, iv, lv, y, x, r, ov, q, rfl, hx, hy, hq, rfl⟩ := z_bo_inv h
  intro ρ ad ws H locs ls hg kk
  have ox := z_ok1 (hg.1.2.2.1 x (List.mem_cons_of_mem _ List.mem_cons_self)) hx
  have oy := z_ok0 (hg.1.2.2.1 y List.mem_cons_self) hy
  have eX := z_i64 ox.2.1 ox.2.2
  have eY := z_i32 oy.2.1 oy.2.2
  obtain ⟨ρ', n1, n2, n3, n4, n5, n6⟩ := hf iv x y q ρ _ _ hq hg.1.1 ox.1 oy.1 eX eY
  show W p l e R s m args below meth c H locs cu su Q (F0 m pc ls (zcv ad b ρ y :: zcv ad b ρ x :: r.map (zcv ad b ρ)))
  rw [z_cv1 hx, z_cv0 hy]
  refine hr _ _ _ _ _ _ _ _ ?_
  exact z_fin hg (fun w hw => List.mem_cons_of_mem _ (List.mem_cons_of_mem _ hw)) n1 n2 n3 (z_ok1' n4 n5 _ n6) (by rw [z_cv1 n4, n6, z_o64]) kk
abbrev cfI (op : Int32 → Int32 → Int32) : Int → Int → Int := fun a b => (op (Int32.ofInt a) (Int32.ofInt b)).toInt
abbrev cfL (op : Int64 → Int64 → Int64) : Int → Int → Int := fun a b => (op (Int64.ofInt a) (Int64.ofInt b)).toInt
abbrev cfS (op : Int64 → Int32 → Int64) : Int → Int → Int := fun a b => (op (Int64.ofInt a) (Int32.ofInt b)).toInt
theorem zs_iadd (hx : p.tables.exec = Jvm.exec) (hb : c.code = cc) {st : zS} {ss : List (Option Nat × zS)} (hd : decode cc pc = .ok (.iadd, 1)) (h : z_bo 0 0 (z_add 0) st = some ss) : zSt p l e R s m args below meth c Q D cl A cA G b sl xs fl h0 nL pc 1 st ss := zs_bi zb_iadd h (fun X Y _ _ _ _ _ _ _ k => lv_iadd hx hb hd k)
theorem zs_isub (hx : p.tables.exec = Jvm.exec) (hb : c.code = cc) {st : zS} {ss : List (Option Nat × zS)} (hd : decode cc pc = .ok (.isub, 1)) (h : z_bo 0 0 (z_sub 0) st = some ss) : zSt p l e R s m args below meth c Q D cl A cA G b sl xs fl h0 nL pc 1 st ss := zs_bi zb_isub h (fun X Y _ _ _ _ _ _ _ k => lv_isub hx hb hd k)
theorem zs_imul (hx : p.tables.exec = Jvm.exec) (hb : c.code = cc) {st : zS} {ss : List (Option Nat × zS)} (hd : decode cc pc = .ok (.imul, 1)) (h : z_bo 0 0 (z_fold 0 (cfI fun a b => a * b)) st = some ss) : zSt p l e R s m args below meth c Q D cl A cA G b sl xs fl h0 nL pc 1 st ss := zs_bi (zb_ifold fun a b => a * b) h (fun X Y _ _ _ _ _ _ _ k => lv_imul hx hb hd k)
theorem zs_iand (hx : p.tables.exec = Jvm.exec) (hb : c.code = cc) {st : zS} {ss : List (Option Nat × zS)} (hd : decode cc pc = .ok (.iand, 1)) (h : z_bo 0 0 (z_fold 0 (cfI fun a b => a &&& b)) st = some ss) : zSt p l e R s m args below meth c Q D cl A cA G b sl xs fl h0 nL pc 1 st ss := zs_bi (zb_ifold fun a b => a &&& b) h (fun X Y _ _ _ _ _ _ _ k => lv_iand hx hb hd k)
/-- the first int of a step, by 127: a symbol of its own -/
def z_ian (fl : Bool) (st : zS) : zR := match st with
  | (cu, su, iv, lv, (0, 0, 127) :: (0, 2, 0) :: r, ov) => if fl = true then some [(none, (cu, su, iv, lv, (0, 9, 0) :: r, ov))] else none
  | _ => none
theorem zs_ian (hx : p.tables.exec = Jvm.exec) (hb : c.code = cc) {st : zS} {ss : List (Option Nat × zS)} (hd : decode cc pc = .ok (.iand, 1)) (h : z_ian fl st = some ss) : zSt p l e R s m args below meth c Q D cl A cA G b sl xs fl h0 nL pc 1 st ss := by
  unfold z_ian at h
  split at h
  next cu su iv lv r ov =>
    split at h
    next hf =>
      cases h
      intro ρ ad ws H locs ls hg kk
      obtain ⟨s1, s2, s3, s4⟩ := hg.2.2.2.2.2.2.1.2 hf
      have hl9 : 9 < iv.length := hg.2.2.2.2.2.2.2
      have e2 : zcv ad b ρ (0, 2, 0) = .int (xs (ρ 8).toNat) := by
        rw [z_cv0 rfl]
        have e : z_val ρ (0, 2, 0) = (xs (ρ 8).toNat).toInt := by
          show ρ 2 + 0 = _
          have := s3 0 (by omega)
          rw [Nat.add_zero] at this
          rw [Int.add_zero]
          exact this
        rw [e, z_o32]
      have e7 : zcv ad b ρ (0, 0, 127) = .int 127 := by
        rw [z_cv0 rfl]
        have e : z_val ρ (0, 0, 127) = 127 := by show ρ 0 + 127 = 127; rw [hg.1.1.1]; rfl
        rw [e]; rfl
      have ev : z_val ρ (0, 9, 0) = (xs (ρ 8).toNat &&& 127).toInt := by show ρ 9 + 0 = _; rw [s4]; omega
      show W p l e R s m args below meth c H locs cu su Q (F0 m pc ls (zcv ad b ρ (0, 0, 127) :: zcv ad b ρ (0, 2, 0) :: r.map (zcv ad b ρ)))
      rw [e2, e7]
      refine lv_iand hx hb hd ?_
      exact z_fin (v := (0, 9, 0)) hg (fun w hw => List.mem_cons_of_mem _ (List.mem_cons_of_mem _ hw)) (fun _ _ => rfl) (Nat.le_refl _) hg.1.1 (z_ok0' rfl hl9 _ ev) (by rw [z_cv0 rfl, ev, z_o32]) kk
    next => cases h
  next => cases h
theorem zs_ior (hx : p.tables.exec = Jvm.exec) (hb : c.code = cc) {st : zS} {ss : List (Option Nat × zS)} (hd : decode cc pc = .ok (.ior, 1)) (h : z_bo 0 0 (z_fold 0 (cfI fun a b => a ||| b)) st = some ss) : zSt p l e R s m args below meth c Q D cl A cA G b sl xs fl h0 nL pc 1 st ss := zs_bi (zb_ifold fun a b => a ||| b) h (fun X Y _ _ _ _ _ _ _ k => lv_ior hx hb hd k)
theorem zs_ixor (hx : p.tables.exec = Jvm.exec) (hb : c.code = cc) {st : zS} {ss : List (Option Nat × zS)} (hd : decode cc pc = .ok (.ixor, 1)) (h : z_bo 0 0 (z_fold 0 (cfI fun a b => a ^^^ b)) st = some ss) : zSt p l e R s m args below meth c Q D cl A cA G b sl xs fl h0 nL pc 1 st ss := zs_bi (zb_ifold fun a b => a ^^^ b) h (fun X Y _ _ _ _ _ _ _ k => lv_ixor hx hb hd k)
theorem zs_ishl (hx : p.tables.exec = Jvm.exec) (hb : c.code = cc) {st : zS} {ss : List (Option Nat × zS)} (hd : decode cc pc = .ok (.ishl, 1)) (h : z_bo 0 0 (z_fold 0 (cfI fun a b => a <<< (b &&& 31))) st = some ss) : zSt p l e R s m args below meth c Q D cl A cA G b sl xs fl h0 nL pc 1 st ss := zs_bi (zb_ifold fun a b => a <<< (b &&& 31)) h (fun X Y _ _ _ _ _ _ _ k => lv_ishl hx hb hd k)
theorem zs_ishr (hx : p.tables.exec = Jvm.exec) (hb : c.code = cc) {st : zS} {ss : List (Option Nat × zS)} (hd : decode cc pc = .ok (.ishr, 1)) (h : z_bo 0 0 (z_fold 0 (cfI fun a b => a >>> (b &&& 31))) st = some ss) : zSt p l e R s m args below meth c Q D cl A cA G b sl xs fl h0 nL pc 1 st ss := zs_bi (zb_ifold fun a b => a >>> (b &&& 31)) h (fun X Y _ _ _ _ _ _ _ k => lv_ishr hx hb hd k)
theorem z_nz {iv : zI} {x y : zV} {ρ : Nat → Int} {k : Nat} {cf : Int → Int → Int} (h : z_foldD k cf iv x y ≠ none) (hi : ziv iv ρ) : z_val ρ y ≠ 0 := by
  unfold z_foldD at h
  split at h
  next q2 e2 =>
    have b2 := z_bd_ok e2 hi
    split at h
    next q => have := q.2; omega
    next => exact absurd rfl h
  next => exact absurd rfl h
theorem zs_idiv (hx : p.tables.exec = Jvm.exec) (hb : c.code = cc) {st : zS} {ss : List (Option Nat × zS)} (hd : decode cc pc = .ok (.idiv, 1)) (h : z_bo 0 0 (z_foldD 0 (cfI fun a b => a / b)) st = some ss) : zSt p l e R s m args below meth c Q D cl A cA G b sl xs fl h0 nL pc 1 st ss := zs_bi (zb_ifoldD fun a b => a / b) h (fun X Y _ _ _ _ _ _ hY k => by
  obtain ⟨iv, x, y, ρ, h1, h2, h3⟩ := hY
  exact lv_idiv hx hb hd (fun e => z_nz h1 h2 (by rw [← h3, e]; rfl)) k)
theorem zs_irem (hx : p.tables.exec = Jvm.exec) (hb : c.code = cc) {st : zS} {ss : List (Option Nat × zS)} (hd : decode cc pc = .ok (.irem, 1)) (h : z_bo 0 0 (z_foldD 0 (cfI fun a b => a - a / b * b)) st = some ss) : zSt p l e R s m args below meth c Q D cl A cA G b sl xs fl h0 nL pc 1 st ss := zs_bi (zb_ifoldD fun a b => a - a / b * b) h (fun X Y _ _ _ _ _ _ hY k => by
  obtain ⟨iv, x, y, ρ, h1, h2, h3⟩ := hY
  exact lv_irem hx hb hd (fun e => z_nz h1 h2 (by rw [← h3, e]; rfl)) k)
theorem zs_ladd (hx : p.tables.exec = Jvm.exec) (hb : c.code = cc) {st : zS} {ss : List (Option Nat × zS)} (hd : decode cc pc = .ok (.ladd, 1)) (h : z_bo 1 1 (z_add 1) st = some ss) : zSt p l e R s m args below meth c Q D cl A cA G b sl xs fl h0 nL pc 1 st ss := zs_bl zb_ladd h (fun X Y _ _ _ _ _ _ _ k => lv_ladd hx hb hd k)
theorem zs_lsub (hx : p.tables.exec = Jvm.exec) (hb : c.code = cc) {st : zS} {ss : List (Option Nat × zS)} (hd : decode cc pc = .ok (.lsub, 1)) (h : z_bo 1 1 (z_sub 1) st = some ss) : zSt p l e R s m args below meth c Q D cl A cA G b sl xs fl h0 nL pc 1 st ss := zs_bl zb_lsub h (fun X Y _ _ _ _ _ _ _ k => lv_lsub hx hb hd k)
theorem zs_lmul (hx : p.tables.exec = Jvm.exec) (hb : c.code = cc) {st : zS} {ss : List (Option Nat × zS)} (hd : decode cc pc = .ok (.lmul, 1)) (h : z_bo 1 1 (z_fold 1 (cfL fun a b => a * b)) st = some ss) : zSt p l e R s m args below meth c Q D cl A cA G b sl xs fl h0 nL pc 1 st ss := zs_bl (zb_lfold fun a b => a * b) h (fun X Y _ _ _ _ _ _ _ k => lv_lmul hx hb hd k)
theorem zs_land (hx : p.tables.exec = Jvm.exec) (hb : c.code = cc) {st : zS} {ss : List (Option Nat × zS)} (hd : decode cc pc = .ok (.land, 1)) (h : z_bo 1 1 (z_fold 1 (cfL fun a b => a &&& b)) st = some ss) : zSt p l e R s m args below meth c Q D cl A cA G b sl xs fl h0 nL pc 1 st ss := zs_bl (zb_lfold fun a b => a &&& b) h (fun X Y _ _ _ _ _ _ _ k => lv_land hx hb hd k)
theorem zs_lor (hx : p.tables.exec = Jvm.exec) (hb : c.code = cc) {st : zS} {ss : List (Option Nat × zS)} (hd : decode cc pc = .ok (.lor, 1)) (h : z_bo 1 1 (z_fold 1 (cfL fun a b => a ||| b)) st = some ss) : zSt p l e R s m args below meth c Q D cl A cA G b sl xs fl h0 nL pc 1 st ss := zs_bl (zb_lfold fun a b => a ||| b) h (fun X Y _ _ _ _ _ _ _ k => lv_lor hx hb hd k)
theorem zs_ldiv (hx : p.tables.exec = Jvm.exec) (hb : c.code = cc) {st : zS} {ss : List (Option Nat × zS)} (hd : decode cc pc = .ok (.ldiv, 1)) (h : z_bo 1 1 (z_foldD 1 (cfL fun a b => a / b)) st = some ss) : zSt p l e R s m args below meth c Q D cl A cA G b sl xs fl h0 nL pc 1 st ss := zs_bl (zb_lfoldD fun a b => a / b) h (fun X Y _ _ _ _ _ _ hY k => by
  obtain ⟨iv, x, y, ρ, h1, h2, h3⟩ := hY
  exact lv_ldiv hx hb hd (fun e => z_nz h1 h2 (by rw [← h3, e]; rfl)) k)
theorem zs_lrem (hx : p.tables.exec = Jvm.exec) (hb : c.code = cc) {st : zS} {ss : List (Option Nat × zS)} (hd : decode cc pc = .ok (.lrem, 1)) (h : z_bo 1 1 (z_foldD 1 (cfL fun a b => a - a / b * b)) st = some ss) : zSt p l e R s m args below meth c Q D cl A cA G b sl xs fl h0 nL pc 1 st ss := zs_bl (zb_lfoldD fun a b => a - a / b * b) h (fun X Y _ _ _ _ _ _ hY k => by
  obtain ⟨iv, x, y, ρ, h1, h2, h3⟩ := hY
  exact lv_lrem hx hb hd (fun e => z_nz h1 h2 (by rw [← h3, e]; rfl)) k)
theorem zs_lshl (hx : p.tables.exec = Jvm.exec) (hb : c.code = cc) {st : zS} {ss : List (Option Nat × zS)} (hd : decode cc pc = .ok (.lshl, 1)) (h : z_bo 1 0 (z_fold 1 (cfS fun a b => a <<< (b.toInt64 &&& 63))) st = some ss) : zSt p l e R s m args below meth c Q D cl A cA G b sl xs fl h0 nL pc 1 st ss := zs_bs (zb_sfold fun a b => a <<< (b.toInt64 &&& 63)) h (fun X Y _ _ _ _ _ _ k => lv_lshl hx hb hd rfl k)
theorem zs_lshr (hx : p.tables.exec = Jvm.exec) (hb : c.code = cc) {st : zS} {ss : List (Option Nat × zS)} (hd : decode cc pc = .ok (.lshr, 1)) (h : z_bo 1 0 (z_fold 1 (cfS fun a b => a >>> (b.toInt64 &&& 63))) st = some ss) : zSt p l e R s m args below meth c Q D cl A cA G b sl xs fl h0 nL pc 1 st ss := zs_bs (zb_sfold fun a b => a >>> (b.toInt64 &&& 63)) h (fun X Y _ _ _ _ _ _ k => lv_lshr hx hb hd rfl k)
/-! one value for one -/
def z_uo (k1 : Nat) (f : zI → zV → Option (zI × zV)) (st : zS) : zR := match st with
  | (cu, su, iv, lv, x :: r, ov) => if x.1 = k1 then (match f iv x with
      | some q => some [(none, (cu, su, q.1, lv, q.2 :: r, ov))]
      | none => none) else none
  | _ => none
theorem z_uo_inv {k1 : Nat} {f : zI → zV → Option (zI × zV)} {st : zS} {ss : List (Option Nat × zS)} (h : z_uo k1 f st = some ss) : ∃ cu su iv lv x r ov q, st = (cu, su, iv, lv, x :: r, ov) ∧ x.1 = k1 ∧ f iv x = some q ∧ ss = [(none, (cu, su, q.1, lv, q.2 :: r, ov))] := by
  obtain ⟨cu, su, iv, lv, sk, ov⟩ := st
  unfold z_uo at h
  rcases sk with _ | ⟨x, r⟩
  · cases h
  dsimp only at h
  split at h
  next hk =>
    split at h
    next q hq => cases h; exact ⟨cu, su, iv, lv, x, r, ov, q, rfl, hk, hq, rfl⟩
    next => cases h
  next => cases h
def z_i2l (iv : zI) (x : zV) : Option (zI × zV) := some (iv, (1, x.2.1, x.2.2))
theorem z_wide {z : Int} (h1 : -2147483648 ≤ z) (h2 : z ≤ 2147483647) : (Int32.ofInt z).toInt64 = Int64.ofInt z := by
  apply Int64.toInt_inj.mp
  rw [Int32.toInt_toInt64, z_i32 h1 h2, z_i64 (by omega) (by omega)]
theorem zs_i2l (hx : p.tables.exec = Jvm.exec) (hb : c.code = cc) {st : zS} {ss : List (Option Nat × zS)} (hd : decode cc pc = .ok (.i2l, 1)) (h : z_uo 0 z_i2l st = some ss) : zSt p l e R s m args below meth c Q D cl A cA G b sl xs fl h0 nL pc 1 st ss := by
  obtain ⟨cu, su, iv, lv, x, r, ov, q, rfl, hk, hq, rfl⟩ := z_uo_inv h
  cases hq
  intro ρ ad ws H locs ls hg kk
  have ox := z_ok0 (hg.1.2.2.1 x List.mem_cons_self) hk
  show W p l e R s m args below meth c H locs cu su Q (F0 m pc ls (zcv ad b ρ x :: r.map (zcv ad b ρ)))
  rw [z_cv0 hk]
  refine lv_i2l hx hb hd (z_wide ox.2.1 ox.2.2) ?_
  have o2 : zok ov.length iv ρ (1, x.2.1, x.2.2) := ⟨ox.1, by show _ ≤ z_val ρ x; omega, by show z_val ρ x ≤ _; omega⟩
  exact z_fin hg (fun w hw => List.mem_cons_of_mem _ hw) (fun _ _ => rfl) (Nat.le_refl _) hg.1.1 o2 rfl kk
def z_l2i (iv : zI) (x : zV) : Option (zI × zV) := match z_bd iv x with
  | some q => if z_in 0 q.1 q.2 then some (iv, (0, x.2.1, x.2.2)) else some (z_mk iv 0 (z_rl 0) (z_rh 0))
  | none => none
theorem z_narrow {z : Int} (h1 : -2147483648 ≤ z) (h2 : z ≤ 2147483647) : (Int64.ofInt z).toInt32 = Int32.ofInt z := by
  apply Int32.toInt_inj.mp
  rw [Int64.toInt_toInt32, z_i64 (by omega) (by omega), z_i32 h1 h2]
  exact z_bm32 h1 h2
theorem zs_l2i (hx : p.tables.exec = Jvm.exec) (hb : c.code = cc) {st : zS} {ss : List (Option Nat × zS)} (hd : decode cc pc = .ok (.l2i, 1)) (h : z_uo 1 z_l2i st = some ss) : zSt p l e R s m args below meth c Q D cl A cA G b sl xs fl h0 nL pc 1 st ss := by
  obtain ⟨cu, su, iv, lv, x, r, ov, q, rfl, hk, hq, rfl⟩ := z_uo_inv h
  intro ρ ad ws H locs ls hg kk
  have ox := z_ok1 (hg.1.2.2.1 x List.mem_cons_self) hk
  show W p l e R s m args below meth c H locs cu su Q (F0 m pc ls (zcv ad b ρ x :: r.map (zcv ad b ρ)))
  rw [z_cv1 hk]
  unfold z_l2i at hq
  split at hq
  next q1 e1 =>
    have b1 := z_bd_ok e1 hg.1.1
    split at hq
    next hin =>
      have hr := z_in0 hin
      cases hq
      refine lv_l2i hx hb hd (z_narrow (by omega) (by omega)) ?_
      have o2 : zok ov.length iv ρ (0, x.2.1, x.2.2) := ⟨ox.1, by show _ ≤ z_val ρ x; omega, by show z_val ρ x ≤ _; omega⟩
      exact z_fin hg (fun w hw => List.mem_cons_of_mem _ hw) (fun _ _ => rfl) (Nat.le_refl _) hg.1.1 o2 rfl kk
    next =>
      cases hq
      refine lv_l2i hx hb hd rfl ?_
      obtain ⟨ρ', n1, n2, n3, n4, n5, n6⟩ := zBi_full hg.1.1 (Int64.ofInt (z_val ρ x)).toInt32
      exact z_fin hg (fun w hw => List.mem_cons_of_mem _ hw) n1 n2 n3 (z_ok0' n4 n5 _ n6) (by rw [z_cv0 n4, n6, z_o32]) kk
  next => cases hq
def z_i2b (iv : zI) (x : zV) : Option (zI × zV) := if x.2.1 = 0 then some (iv, (0, 0, ((Int32.ofInt x.2.2).toInt8.toInt32).toInt)) else some (z_mk iv 0 (-128) 127)
theorem z_b8 (x : Int32) : -128 ≤ x.toInt8.toInt32.toInt ∧ x.toInt8.toInt32.toInt ≤ 127 := by
  rw [Int8.toInt_toInt32]
  have a := x.toInt8.le_toInt
  have b := x.toInt8.toInt_lt
  omega
theorem zs_i2b (hx : p.tables.exec = Jvm.exec) (hb : c.code = cc) {st : zS} {ss : List (Option Nat × zS)} (hd : decode cc pc = .ok (.i2b, 1)) (h : z_uo 0 z_i2b st = some ss) : zSt p l e R s m args below meth c Q D cl A cA G b sl xs fl h0 nL pc 1 st ss := by
  obtain ⟨cu, su, iv, lv, x, r, ov, q, rfl, hk, hq, rfl⟩ := z_uo_inv h
  intro ρ ad ws H locs ls hg kk
  show W p l e R s m args below meth c H locs cu su Q (F0 m pc ls (zcv ad b ρ x :: r.map (zcv ad b ρ)))
  rw [z_cv0 hk]
  refine lv_i2b hx hb hd rfl ?_
  have hb8 := z_b8 (Int32.ofInt (z_val ρ x))
  unfold z_i2b at hq
  split at hq
  next hz =>
    cases hq
    have ez : z_val ρ x = x.2.2 := by unfold z_val; rw [hz, hg.1.1.1]; omega
    refine z_fin hg (fun w hw => List.mem_cons_of_mem _ hw) (fun _ _ => rfl) (Nat.le_refl _) hg.1.1 ?_ ?_ kk
    · rw [ez] at hb8; exact z_okc hg.1.1 (by omega) (by omega)
    · rw [z_cvc hg.1.1.1, z_o32, ez]
  next =>
    cases hq
    obtain ⟨ρ', n1, n2, n3, n4, n5, n6⟩ := z_mk_ok 0 hg.1.1 hb8.1 hb8.2
    exact z_fin hg (fun w hw => List.mem_cons_of_mem _ hw) n1 n2 n3 (z_ok0' n4 n5 _ n6) (by rw [z_cv0 n4, n6, z_o32]) kk
/-! the stack alone -/
def z_rest (f : List zV → Option (List zV)) (st : zS) : zR := match st with
  | (cu, su, iv, lv, sk, ov) => match f sk with
    | some r => some [(none, (cu, su, iv, lv, r, ov))]
    | none => none
def z_dup (sk : List zV) : Option (List zV) := match sk with
  | x :: r => if Nat.beq x.1 1 then none else some (x :: x :: r)
  | [] => none
def z_pop (sk : List zV) : Option (List zV) := match sk with
  | x :: r => if Nat.beq x.1 1 then none else some r
  | [] => none
def z_dup2 (sk : List zV) : Option (List zV) := match sk with
  | x :: y :: r => if Nat.beq x.1 1 || Nat.beq y.1 1 then none else some (x :: y :: x :: y :: r)
  | _ => none
def z_pop2 (sk : List zV) : Option (List zV) := match sk with
  | x :: r => if Nat.beq x.1 1 then some r else none
  | [] => none
theorem z_cat1 {ad : Nat → Nat} {ρ : Nat → Int} {v : zV} (h : ¬ Nat.beq v.1 1 = true) : (zcv ad b ρ v).category = 1 := by
  have hc := z_cat (b := b) (ad := ad) (ρ := ρ) v
  rcases lv_cat (zcv ad b ρ v) with q | q
  · exact q
  · rw [q] at hc
    exact absurd hc.symm h
theorem z_cat2 {ad : Nat → Nat} {ρ : Nat → Int} {v : zV} (h : Nat.beq v.1 1 = true) : (zcv ad b ρ v).category = 2 := by
  have hc := z_cat (b := b) (ad := ad) (ρ := ρ) v
  rw [h] at hc
  exact eq_of_beq hc
theorem zs_rest {len : Nat} {f : List zV → Option (List zV)} {st : zS} {ss : List (Option Nat × zS)} (h : z_rest f st = some ss) (hs : ∀ (sk r : List zV), f sk = some r → ∀ w ∈ r, w ∈ sk)
    (hr : ∀ (sk r : List zV) (ad : Nat → Nat) (ρ : Nat → Int) (H : Heap) (locs : List Loc) (cells slots : Nat) (ls : Array Slot), f sk = some r → W p l e R s m args below meth c H locs cells slots Q (F0 m (pc + len) ls (r.map (zcv ad b ρ))) → W p l e R s m args below meth c H locs cells slots Q (F0 m pc ls (sk.map (zcv ad b ρ)))) : zSt p l e R s m args below meth c Q D cl A cA G b sl xs fl h0 nL pc len st ss := by
  obtain ⟨cu, su, iv, lv, sk, ov⟩ := st
  unfold z_rest at h
  dsimp only at h
  split at h
  next r hf =>
    cases h
    intro ρ ad ws H locs ls hg kk
    refine hr sk r ad ρ _ _ _ _ _ hf ?_
    exact kk _ (List.mem_singleton.mpr rfl) ρ ad ws H locs ls ⟨fun _ _ => rfl, fun _ _ => rfl, Nat.le_refl _, Nat.le_refl _⟩ (hg.mv (fun _ _ => rfl) (Nat.le_refl _) hg.1.1 (fun w hw => hg.1.2.2.1 w (hs sk r hf w hw)))
  next => cases h
theorem zs_dup (hx : p.tables.exec = Jvm.exec) (hb : c.code = cc) {st : zS} {ss : List (Option Nat × zS)} (hd : decode cc pc = .ok (.dup, 1)) (h : z_rest z_dup st = some ss) : zSt p l e R s m args below meth c Q D cl A cA G b sl xs fl h0 nL pc 1 st ss := by
  refine zs_rest h (fun sk r hf => ?_) (fun sk r ad ρ _ _ _ _ _ hf k => ?_)
  · unfold z_dup at hf
    split at hf
    next x r0 =>
      split at hf
      · cases hf
      · cases hf; intro w hw; exact (List.mem_cons.mp hw).elim (fun q => q ▸ List.mem_cons_self) id
    next => cases hf
  · unfold z_dup at hf
    split at hf
    next x r0 =>
      split at hf
      · cases hf
      next hc => cases hf; exact lv_dup hx hb hd (z_cat1 hc) k
    next => cases hf
theorem zs_pop (hx : p.tables.exec = Jvm.exec) (hb : c.code = cc) {st : zS} {ss : List (Option Nat × zS)} (hd : decode cc pc = .ok (.pop, 1)) (h : z_rest z_pop st = some ss) : zSt p l e R s m args below meth c Q D cl A cA G b sl xs fl h0 nL pc 1 st ss := by
  refine zs_rest h (fun sk r hf => ?_) (fun sk r ad ρ _ _ _ _ _ hf k => ?_)
  · unfold z_pop at hf
    split at hf
    next x r0 =>
      split at hf
      · cases hf
      · cases hf; intro w hw; exact List.mem_cons_of_mem _ hw
    next => cases hf
  · unfold z_pop at hf
    split at hf
    next x r0 =>
      split at hf
      · cases hf
      next hc => cases hf; exact lv_pop hx hb hd (z_cat1 hc) k
    next => cases hf
theorem zs_pop2 (hx : p.tables.exec = Jvm.exec) (hb : c.code = cc) {st : zS} {ss : List (Option Nat × zS)} (hd : decode cc pc = .ok (.pop2, 1)) (h : z_rest z_pop2 st = some ss) : zSt p l e R s m args below meth c Q D cl A cA G b sl xs fl h0 nL pc 1 st ss := by
  refine zs_rest h (fun sk r hf => ?_) (fun sk r ad ρ _ _ _ _ _ hf k => ?_)
  · unfold z_pop2 at hf
    split at hf
    next x r0 =>
      split at hf
      · cases hf; intro w hw; exact List.mem_cons_of_mem _ hw
      · cases hf
    next => cases hf
  · unfold z_pop2 at hf
    split at hf
    next x r0 =>
      split at hf
      next hc => cases hf; exact lv_pop2_2 hx hb hd (z_cat2 hc) k
      · cases hf
    next => cases hf
theorem zs_dup2 (hx : p.tables.exec = Jvm.exec) (hb : c.code = cc) {st : zS} {ss : List (Option Nat × zS)} (hd : decode cc pc = .ok (.dup2, 1)) (h : z_rest z_dup2 st = some ss) : zSt p l e R s m args below meth c Q D cl A cA G b sl xs fl h0 nL pc 1 st ss := by
  refine zs_rest h (fun sk r hf => ?_) (fun sk r ad ρ _ _ _ _ _ hf k => ?_)
  · unfold z_dup2 at hf
    split at hf
    next x y r0 =>
      split at hf
      · cases hf
      · cases hf; intro w hw; rcases List.mem_cons.mp hw with q | q
        · exact q ▸ List.mem_cons_self
        · rcases List.mem_cons.mp q with q | q
          · exact q ▸ List.mem_cons_of_mem _ List.mem_cons_self
          · exact q
    next => cases hf
  · unfold z_dup2 at hf
    split at hf
    next x y r0 =>
      split at hf
      · cases hf
      next hc =>
        cases hf
        have h1 : ¬ Nat.beq x.1 1 = true := fun q => hc (by rw [q]; rfl)
        have h2 : ¬ Nat.beq y.1 1 = true := fun q => hc (by rw [q, Bool.or_true])
        exact lv_dup2_11 hx hb hd (z_cat1 h1) (z_cat1 h2) k
    next => cases hf
end ZST3
end
section
/-! ===== branches ===== -/
def z_cd (cd : Jvm.ClassFile.Cond) (a b : Int) : Prop := match cd with
  | .eq => a = b
  | .ne => ¬ a = b
  | .lt => a < b
  | .ge => b ≤ a
  | .gt => b < a
  | .le => a ≤ b
theorem z_br_t {cd : Jvm.ClassFile.Cond} {iv : zI} {ρ : Nat → Int} {x y : zV} (h : ziv iv ρ) (hc : z_cd cd (z_val ρ x) (z_val ρ y)) : zRl iv ρ (z_br cd iv x y).1 := by
  cases cd with
  | eq => exact (z_eq_ok h hc).l
  | ne => exact z_ne_ok h hc
  | lt => exact (z_lt_ok h hc).l
  | ge => exact (z_le_ok h hc).l
  | gt => exact (z_lt_ok h hc).l
  | le => exact (z_le_ok h hc).l
theorem z_br_f {cd : Jvm.ClassFile.Cond} {iv : zI} {ρ : Nat → Int} {x y : zV} (h : ziv iv ρ) (hc : ¬ z_cd cd (z_val ρ x) (z_val ρ y)) : zRl iv ρ (z_br cd iv x y).2 := by
  cases cd with
  | eq => exact z_ne_ok h hc
  | ne => exact (z_eq_ok h (Classical.not_not.mp hc)).l
  | lt => exact (z_le_ok h (Int.not_lt.mp hc)).l
  | ge => exact (z_lt_ok h (Int.not_le.mp hc)).l
  | gt => exact (z_le_ok h (Int.not_lt.mp hc)).l
  | le => exact (z_lt_ok h (Int.not_le.mp hc)).l
def z_jp (pc : Nat) (off : Int) : Option Nat := if 0 ≤ (pc : Int) + off then some ((pc : Int) + off).toNat else none
theorem z_jp_ok {pc t : Nat} {off : Int} (h : z_jp pc off = some t) : (pc : Int) + off = (t : Int) := by
  unfold z_jp at h
  split at h
  next hn => cases h; omega
  next => cases h
def z_cmp (cd : Jvm.ClassFile.Cond) (pc : Nat) (off : Int) (x y : zV) (cu su : Nat) (iv : zI) (lv : zL) (r : List zV) (ov : zO) : zR := match z_jp pc off with
  | some t => some ((z_br cd iv x y).1.map (fun i => (some t, (cu, su, i, lv, r, ov))) ++ (z_br cd iv x y).2.map (fun i => (none, (cu, su, i, lv, r, ov))))
  | none => none
def z_icmp (cd : Jvm.ClassFile.Cond) (pc : Nat) (off : Int) (st : zS) : zR := match st with
  | (cu, su, iv, lv, y :: x :: r, ov) => if x.1 = 0 ∧ y.1 = 0 then z_cmp cd pc off x y cu su iv lv r ov else none
  | _ => none
def z_if (cd : Jvm.ClassFile.Cond) (pc : Nat) (off : Int) (st : zS) : zR := match st with
  | (cu, su, iv, lv, x :: r, ov) => if x.1 = 0 then z_cmp cd pc off x (0, 0, 0) cu su iv lv r ov else none
  | _ => none
def z_goto (pc : Nat) (off : Int) (st : zS) : zR := match z_jp pc off with
  | some t => some [(some t, st)]
  | none => none
section ZST4
variable {p : Program} {l : Launch} {e : Env} {R : Room} {s : State} {m : MethodId} {args : Array Value} {below : List Frame} {meth : Method} {c : Code} {Q : State → Prop} {D : va_G} {cl : List vw_C} {A : Nat → Prop} {cA : Nat → ClassId} {G : List zC} {b sl : Nat} {xs : Nat → Int32} {fl : Bool} {h0 : Heap} {nL : Nat} {cc : ByteArray} {pc : Nat}
/-! what a way on asks for -/
abbrev zKK (p : Program) (l : Launch) (e : Env) (R : Room) (s : State) (m : MethodId) (args : Array Value) (below : List Frame) (meth : Method) (c : Code) (Q : State → Prop) (D : va_G) (cl : List vw_C) (A : Nat → Prop) (cA : Nat → ClassId) (G : List zC) (b sl : Nat) (xs : Nat → Int32) (fl : Bool) (h0 : Heap) (nL : Nat) (pc len : Nat) (st : zS) (ρ : Nat → Int) (ad : Nat → Nat) (ss : List (Option Nat × zS)) : Prop := ∀ q ∈ ss, ∀ (ρ' : Nat → Int) (ad' : Nat → Nat) (ws' : va_W) (H' : Heap) (locs' : List Loc) (ls' : Array Slot), z_xt st q.2 ρ ad ρ' ad' → z_gs D cl A cA G b sl xs fl h0 nL q.2 ρ' ad' ws' H' locs' ls' → W p l e R s m args below meth c H' locs' q.2.1 q.2.2.1 Q (F0 m (q.1.getD (pc + len)) ls' (q.2.2.2.2.2.1.map (zcv ad' b ρ')))
/-- a narrower state, the same values -/
theorem z_rf {cu su : Nat} {iv iv' : zI} {lv : zL} {sk r : List zV} {ov : zO} {ρ : Nat → Int} {ad : Nat → Nat} {ws : va_W} {H : Heap} {locs : List Loc} {ls : Array Slot} {len : Nat} {t : Option Nat} {ss : List (Option Nat × zS)}
    (hg : z_gm D cl A cA G b sl xs fl h0 nL iv lv sk ov ρ ad ws H locs ls) (kk : zKK p l e R s m args below meth c Q D cl A cA G b sl xs fl h0 nL pc len (cu, su, iv, lv, sk, ov) ρ ad ss) (hm : (t, ((cu, su, iv', lv, r, ov) : zS)) ∈ ss) (hv : ziv iv' ρ) (hl : iv'.length = iv.length) (hs : ∀ w ∈ r, zok ov.length iv' ρ w) :
    W p l e R s m args below meth c H locs cu su Q (F0 m (t.getD (pc + len)) ls (r.map (zcv ad b ρ))) :=
  kk _ hm ρ ad ws H locs ls ⟨fun _ _ => rfl, fun _ _ => rfl, by rw [hl]; exact Nat.le_refl _, Nat.le_refl _⟩ (hg.mv (fun _ _ => rfl) (by rw [hl]; exact Nat.le_refl _) hv hs)
theorem z_okrf {n : Nat} {iv iv' : zI} {ρ : Nat → Int} {v : zV} (h : zok n iv ρ v) (hl : iv'.length = iv.length) : zok n iv' ρ v := zok_ext h (fun _ _ => rfl) (by rw [hl]; exact Nat.le_refl _) (Nat.le_refl _)
theorem z_rowc (hx : p.tables.exec = Jvm.exec) (hb : c.code = cc) {cd : Jvm.ClassFile.Cond} {off : Int} {t : Nat} (hd : decode cc pc = .ok (.if_icmp cd off, 3)) (ht : (pc : Int) + off = (t : Int)) {X Y : Int32} {H : Heap} {locs : List Loc} {cells slots : Nat} {ls : Array Slot} {rest : List Value}
    (kt : z_cd cd X.toInt Y.toInt → W p l e R s m args below meth c H locs cells slots Q (F0 m t ls rest)) (kf : ¬ z_cd cd X.toInt Y.toInt → W p l e R s m args below meth c H locs cells slots Q (F0 m (pc + 3) ls rest)) : W p l e R s m args below meth c H locs cells slots Q (F0 m pc ls (.int Y :: .int X :: rest)) := by
  cases cd with
  | eq => exact lv_icmp_eq hx hb hd ht (fun q => kt (by rw [q]; exact rfl)) (fun q => kf (fun w => q (Int32.toInt_inj.mp w)))
  | ne => exact lv_icmp_ne hx hb hd ht (fun q => kt (fun w => q (Int32.toInt_inj.mp w))) (fun q => kf (fun w => w (by rw [q])))
  | lt => exact lv_icmp_lt hx hb hd ht (fun q => kt (Int32.lt_iff_toInt_lt.mp q)) (fun q => kf (fun w => q (Int32.lt_iff_toInt_lt.mpr w)))
  | ge => exact lv_icmp_ge hx hb hd ht (fun q => kt (Int32.le_iff_toInt_le.mp q)) (fun q => kf (fun w => q (Int32.le_iff_toInt_le.mpr w)))
  | gt => exact lv_icmp_gt hx hb hd ht (fun q => kt (Int32.lt_iff_toInt_lt.mp q)) (fun q => kf (fun w => q (Int32.lt_iff_toInt_lt.mpr w)))
  | le => exact lv_icmp_le hx hb hd ht (fun q => kt (Int32.le_iff_toInt_le.mp q)) (fun q => kf (fun w => q (Int32.le_iff_toInt_le.mpr w)))
theorem z_rowi (hx : p.tables.exec = Jvm.exec) (hb : c.code = cc) {cd : Jvm.ClassFile.Cond} {off : Int} {t : Nat} (hd : decode cc pc = .ok (.ifCond cd off, 3)) (ht : (pc : Int) + off = (t : Int)) {X : Int32} {H : Heap} {locs : List Loc} {cells slots : Nat} {ls : Array Slot} {rest : List Value}
    (kt : z_cd cd X.toInt 0 → W p l e R s m args below meth c H locs cells slots Q (F0 m t ls rest)) (kf : ¬ z_cd cd X.toInt 0 → W p l e R s m args below meth c H locs cells slots Q (F0 m (pc + 3) ls rest)) : W p l e R s m args below meth c H locs cells slots Q (F0 m pc ls (.int X :: rest)) := by
  have e0 : (0 : Int32).toInt = 0 := rfl
  cases cd with
  | eq => exact lv_if_eq hx hb hd ht (fun q => kt (by rw [q]; exact rfl)) (fun q => kf (fun w => q (Int32.toInt_inj.mp w)))
  | ne => exact lv_if_ne hx hb hd ht (fun q => kt (fun w => q (Int32.toInt_inj.mp w))) (fun q => kf (fun w => w (by rw [q]; exact rfl)))
  | lt => exact lv_if_lt hx hb hd ht (fun q => kt (Int32.lt_iff_toInt_lt.mp q)) (fun q => kf (fun w => q (Int32.lt_iff_toInt_lt.mpr w)))
  | ge => exact lv_if_ge hx hb hd ht (fun q => kt (Int32.le_iff_toInt_le.mp q)) (fun q => kf (fun w => q (Int32.le_iff_toInt_le.mpr w)))
  | gt => exact lv_if_gt hx hb hd ht (fun q => kt (Int32.lt_iff_toInt_lt.mp q)) (fun q => kf (fun w => q (Int32.lt_iff_toInt_lt.mpr w)))
  | le => exact lv_if_le hx hb hd ht (fun q => kt (Int32.le_iff_toInt_le.mp q)) (fun q => kf (fun w => q (Int32.le_iff_toInt_le.mpr w)))
theorem zs_icmp (hx : p.tables.exec = Jvm.exec) (hb : c.code = cc) {cd : Jvm.ClassFile.Cond} {off : Int} {st : zS} {ss : List (Option Nat × zS)} (hd : decode cc pc = .ok (.if_icmp cd off, 3)) (h : z_icmp cd pc off st = some ss) : zSt p l e R s m args below meth c Q D cl A cA G b sl xs fl h0 nL pc 3 st ss := by
  obtain ⟨cu, su, iv, lv, sk, ov⟩ := st
  unfold z_icmp at h
  rcases sk with _ | ⟨y, _ | ⟨x, r⟩⟩
  · cases h
  · cases h
  dsimp only at h
  split at h
  next hk =>
    unfold z_cmp at h
    split at h
    next t ht =>
      cases h
      intro ρ ad ws H locs ls hg kk
      have ox := z_ok0 (hg.1.2.2.1 x (List.mem_cons_of_mem _ List.mem_cons_self)) hk.1
      have oy := z_ok0 (hg.1.2.2.1 y List.mem_cons_self) hk.2
      have hr : ∀ w ∈ r, zok ov.length iv ρ w := fun w hw => hg.1.2.2.1 w (List.mem_cons_of_mem _ (List.mem_cons_of_mem _ hw))
      show W p l e R s m args below meth c H locs cu su Q (F0 m pc ls (zcv ad b ρ y :: zcv ad b ρ x :: r.map (zcv ad b ρ)))
      rw [z_cv0 hk.1, z_cv0 hk.2]
      refine z_rowc hx hb hd (z_jp_ok ht) (fun q => ?_) (fun q => ?_)
      · rw [z_i32 ox.2.1 ox.2.2, z_i32 oy.2.1 oy.2.2] at q
        obtain ⟨iv', m1, m2, m3⟩ := z_br_t hg.1.1 q
        exact z_rf (t := some t) hg kk (List.mem_append_left _ (List.mem_map.mpr ⟨iv', m1, rfl⟩)) m2 m3 (fun w hw => z_okrf (hr w hw) m3)
      · rw [z_i32 ox.2.1 ox.2.2, z_i32 oy.2.1 oy.2.2] at q
        obtain ⟨iv', m1, m2, m3⟩ := z_br_f hg.1.1 q
        exact z_rf (t := none) hg kk (List.mem_append_right _ (List.mem_map.mpr ⟨iv', m1, rfl⟩)) m2 m3 (fun w hw => z_okrf (hr w hw) m3)
    next => cases h
  next => cases h
theorem z_val0 {iv : zI} {ρ : Nat → Int} (hi : ziv iv ρ) (k : Nat) (n : Int) : z_val ρ (k, 0, n) = n := by
  unfold z_val; dsimp only; rw [hi.1]; omega
theorem zs_if (hx : p.tables.exec = Jvm.exec) (hb : c.code = cc) {cd : Jvm.ClassFile.Cond} {off : Int} {st : zS} {ss : List (Option Nat × zS)} (hd : decode cc pc = .ok (.ifCond cd off, 3)) (h : z_if cd pc off st = some ss) : zSt p l e R s m args below meth c Q D cl A cA G b sl xs fl h0 nL pc 3 st ss := by
  obtain ⟨cu, su, iv, lv, sk, ov⟩ := st
  unfold z_if at h
  rcases sk with _ | ⟨x, r⟩
  · cases h
  dsimp only at h
  split at h
  next hk =>
    unfold z_cmp at h
    split at h
    next t ht =>
      cases h
      intro ρ ad ws H locs ls hg kk
      have ox := z_ok0 (hg.1.2.2.1 x List.mem_cons_self) hk
      have hr : ∀ w ∈ r, zok ov.length iv ρ w := fun w hw => hg.1.2.2.1 w (List.mem_cons_of_mem _ hw)
      show W p l e R s m args below meth c H locs cu su Q (F0 m pc ls (zcv ad b ρ x :: r.map (zcv ad b ρ)))
      rw [z_cv0 hk]
      refine z_rowi hx hb hd (z_jp_ok ht) (fun q => ?_) (fun q => ?_)
      · rw [z_i32 ox.2.1 ox.2.2] at q
        obtain ⟨iv', m1, m2, m3⟩ := z_br_t (x := x) (y := (0, 0, 0)) hg.1.1 (by rw [z_val0 hg.1.1]; exact q)
        exact z_rf (t := some t) hg kk (List.mem_append_left _ (List.mem_map.mpr ⟨iv', m1, rfl⟩)) m2 m3 (fun w hw => z_okrf (hr w hw) m3)
      · rw [z_i32 ox.2.1 ox.2.2] at q
        obtain ⟨iv', m1, m2, m3⟩ := z_br_f (x := x) (y := (0, 0, 0)) hg.1.1 (by rw [z_val0 hg.1.1]; exact q)
        exact z_rf (t := none) hg kk (List.mem_append_right _ (List.mem_map.mpr ⟨iv', m1, rfl⟩)) m2 m3 (fun w hw => z_okrf (hr w hw) m3)
    next => cases h
  next => cases h
theorem zs_goto (hx : p.tables.exec = Jvm.exec) (hb : c.code = cc) {off : Int} {st : zS} {ss : List (Option Nat × zS)} (hd : decode cc pc = .ok (.goto off, 3)) (h : z_goto pc off st = some ss) : zSt p l e R s m args below meth c Q D cl A cA G b sl xs fl h0 nL pc 3 st ss := by
  unfold z_goto at h
  split at h
  next t ht =>
    cases h
    intro ρ ad ws H locs ls hg kk
    refine lv_goto hx hb hd (z_jp_ok ht) ?_
    exact kk _ (List.mem_singleton.mpr rfl) ρ ad ws H locs ls ⟨fun _ _ => rfl, fun _ _ => rfl, Nat.le_refl _, Nat.le_refl _⟩ hg
  next => cases h
/-! the order of two longs -/
def z_lcmp (st : zS) : zR := match st with
  | (cu, su, iv, lv, y :: x :: r, ov) => if x.1 = 1 ∧ y.1 = 1 then some ((z_ol (z_lt iv x y)).map (fun i => (none, (cu, su, i, lv, (0, 0, -1) :: r, ov))) ++ ((z_ol (z_eq iv x y)).map (fun i => (none, (cu, su, i, lv, (0, 0, 0) :: r, ov))) ++ (z_ol (z_lt iv y x)).map (fun i => (none, (cu, su, i, lv, (0, 0, 1) :: r, ov))))) else none
  | _ => none
theorem zs_lcmp (hx : p.tables.exec = Jvm.exec) (hb : c.code = cc) {st : zS} {ss : List (Option Nat × zS)} (hd : decode cc pc = .ok (.lcmp, 1)) (h : z_lcmp st = some ss) : zSt p l e R s m args below meth c Q D cl A cA G b sl xs fl h0 nL pc 1 st ss := by
  obtain ⟨cu, su, iv, lv, sk, ov⟩ := st
  unfold z_lcmp at h
  rcases sk with _ | ⟨y, _ | ⟨x, r⟩⟩
  · cases h
  · cases h
  dsimp only at h
  split at h
  next hk =>
    cases h
    intro ρ ad ws H locs ls hg kk
    have ox := z_ok1 (hg.1.2.2.1 x (List.mem_cons_of_mem _ List.mem_cons_self)) hk.1
    have oy := z_ok1 (hg.1.2.2.1 y List.mem_cons_self) hk.2
    have eX := z_i64 ox.2.1 ox.2.2
    have eY := z_i64 oy.2.1 oy.2.2
    have hr : ∀ w ∈ r, zok ov.length iv ρ w := fun w hw => hg.1.2.2.1 w (List.mem_cons_of_mem _ (List.mem_cons_of_mem _ hw))
    show W p l e R s m args below meth c H locs cu su Q (F0 m pc ls (zcv ad b ρ y :: zcv ad b ρ x :: r.map (zcv ad b ρ)))
    rw [z_cv1 hk.1, z_cv1 hk.2]
    refine W.lcmp hx hb hd ?_
    have fin : ∀ (n : Int) (iv' : zI) (X : Int32), -2147483648 ≤ n → n ≤ 2147483647 → Int32.ofInt n = X → (none, ((cu, su, iv', lv, (0, 0, n) :: r, ov) : zS)) ∈ ((z_ol (z_lt iv x y)).map (fun i => ((none : Option Nat), ((cu, su, i, lv, (0, 0, -1) :: r, ov) : zS))) ++ ((z_ol (z_eq iv x y)).map (fun i => (none, (cu, su, i, lv, (0, 0, 0) :: r, ov))) ++ (z_ol (z_lt iv y x)).map (fun i => (none, (cu, su, i, lv, (0, 0, 1) :: r, ov))))) → ziv iv' ρ → iv'.length = iv.length → W p l e R s m args below meth c H locs cu su Q (F0 m (pc + 1) ls (.int X :: r.map (zcv ad b ρ))) := by
      intro n iv' X n1 n2 eX hm m2 m3
      have hq := z_rf (t := none) hg kk hm m2 m3 (fun w hw => (List.mem_cons.mp hw).elim (fun q => by rw [q]; exact z_okc m2 n1 n2) (fun q => z_okrf (hr w q) m3))
      have e : ((0, 0, n) :: r : List zV).map (zcv ad b ρ) = .int X :: r.map (zcv ad b ρ) := by rw [List.map_cons, z_cvc m2.1, eX]
      rw [← e]; exact hq
    by_cases h1 : z_val ρ x < z_val ρ y
    · obtain ⟨iv', m1, m2, m3⟩ := (z_lt_ok hg.1.1 h1).l
      have ev : lg_cmp (Int64.ofInt (z_val ρ x)) (Int64.ofInt (z_val ρ y)) = -1 := by
        unfold lg_cmp
        rw [if_neg (by show ¬ _ > _; rw [gt_iff_lt, Int64.lt_iff_toInt_lt, eX, eY]; omega), if_neg (by rw [← Int64.toInt_inj, eX, eY]; omega)]
      exact fin (-1) iv' _ (by omega) (by omega) (by rw [ev]; rfl) (List.mem_append_left _ (List.mem_map.mpr ⟨iv', m1, rfl⟩)) m2 m3
    · by_cases h2 : z_val ρ x = z_val ρ y
      · obtain ⟨iv', m1, m2, m3⟩ := (z_eq_ok hg.1.1 h2).l
        have ev : lg_cmp (Int64.ofInt (z_val ρ x)) (Int64.ofInt (z_val ρ y)) = 0 := by
          unfold lg_cmp
          rw [if_neg (by show ¬ _ > _; rw [gt_iff_lt, Int64.lt_iff_toInt_lt, eX, eY]; omega), if_pos (by rw [h2])]
        exact fin 0 iv' _ (by omega) (by omega) (by rw [ev]; rfl) (List.mem_append_right _ (List.mem_append_left _ (List.mem_map.mpr ⟨iv', m1, rfl⟩))) m2 m3
      · obtain ⟨iv', m1, m2, m3⟩ := (z_lt_ok (x := y) (y := x) hg.1.1 (by omega)).l
        have ev : lg_cmp (Int64.ofInt (z_val ρ x)) (Int64.ofInt (z_val ρ y)) = 1 := by
          unfold lg_cmp
          rw [if_pos (by show _ > _; rw [gt_iff_lt, Int64.lt_iff_toInt_lt, eX, eY]; omega)]
        exact fin 1 iv' _ (by omega) (by omega) (by rw [ev]; rfl) (List.mem_append_right _ (List.mem_append_right _ (List.mem_map.mpr ⟨iv', m1, rfl⟩))) m2 m3
  next => cases h
/-! switches -/
def z_tab (f : zI → zS) (iv : zI) (x : zV) (pc : Nat) : Int → List Int → Option (List (Option Nat × zS))
  | _, [] => some []
  | k, o :: r => match z_jp pc o, z_tab f iv x pc (k + 1) r with
    | some t, some q => some ((z_ol (z_eq iv x (0, 0, k))).map (fun i => (some t, f i)) ++ q)
    | _, _ => none
theorem z_tab_ok {f : zI → zS} {iv : zI} {x : zV} {pc : Nat} {ρ : Nat → Int} (hi : ziv iv ρ) : ∀ (offs : List Int) (k : Int) (q : List (Option Nat × zS)), z_tab f iv x pc k offs = some q → ∀ (j : Nat) (off : Int), offs[j]? = some off → z_val ρ x = k + j → ∃ (t : Nat) (iv' : zI), (pc : Int) + off = (t : Int) ∧ (some t, f iv') ∈ q ∧ ziv iv' ρ ∧ iv'.length = iv.length
  | [], _, _, _, j, off, hj, _ => by cases hj
  | o :: r, k, q, h, j, off, hj, hv => by
    unfold z_tab at h
    split at h
    next t q' ht hq' =>
      cases h
      match j, hj with
      | 0, hj =>
        cases hj
        obtain ⟨iv', m1, m2, m3⟩ := (z_eq_ok (x := x) (y := (0, 0, k)) hi (by rw [z_val0 hi]; omega)).l
        exact ⟨t, iv', z_jp_ok ht, List.mem_append_left _ (List.mem_map.mpr ⟨iv', m1, rfl⟩), m2, m3⟩
      | j + 1, hj =>
        obtain ⟨t', iv', a1, a2, a3⟩ := z_tab_ok hi r (k + 1) q' hq' j off hj (by omega)
        exact ⟨t', iv', a1, List.mem_append_right _ a2, a3⟩
    next => cases h
def z_tsw (pc : Nat) (dflt lo hi : Int) (offs : Array Int) (st : zS) : zR := match st with
  | (cu, su, iv, lv, x :: r, ov) => if x.1 = 0 ∧ (offs.toList.length : Int) = hi - lo + 1 then (match z_jp pc dflt, z_tab (fun i => (cu, su, i, lv, r, ov)) iv x pc lo offs.toList with
    | some t, some q => some (q ++ ((z_ol (z_lt iv x (0, 0, lo))).map (fun i => (some t, (cu, su, i, lv, r, ov))) ++ (z_ol (z_lt iv (0, 0, hi) x)).map (fun i => (some t, (cu, su, i, lv, r, ov)))))
    | _, _ => none) else none
  | _ => none
theorem zs_tsw (hx : p.tables.exec = Jvm.exec) (hb : c.code = cc) {dflt lo hi : Int} {offs : Array Int} {len : Nat} {st : zS} {ss : List (Option Nat × zS)} (hd : decode cc pc = .ok (.tableswitch dflt lo hi offs, len)) (h : z_tsw pc dflt lo hi offs st = some ss) : zSt p l e R s m args below meth c Q D cl A cA G b sl xs fl h0 nL pc len st ss := by
  obtain ⟨cu, su, iv, lv, sk, ov⟩ := st
  unfold z_tsw at h
  rcases sk with _ | ⟨x, r⟩
  · cases h
  dsimp only at h
  split at h
  next hk =>
    split at h
    next t q ht hq =>
      cases h
      intro ρ ad ws H locs ls hg kk
      have ox := z_ok0 (hg.1.2.2.1 x List.mem_cons_self) hk.1
      have eX := z_i32 ox.2.1 ox.2.2
      have hr : ∀ w ∈ r, zok ov.length iv ρ w := fun w hw => hg.1.2.2.1 w (List.mem_cons_of_mem _ hw)
      show W p l e R s m args below meth c H locs cu su Q (F0 m pc ls (zcv ad b ρ x :: r.map (zcv ad b ρ)))
      rw [z_cv0 hk.1]
      by_cases h1 : z_val ρ x < lo
      · refine lv_tableOut hx hb hd (Or.inl (by rw [eX]; exact h1)) (z_jp_ok ht) ?_
        obtain ⟨iv', m1, m2, m3⟩ := (z_lt_ok (x := x) (y := (0, 0, lo)) hg.1.1 (by rw [z_val0 hg.1.1]; exact h1)).l
        exact z_rf (t := some t) hg kk (List.mem_append_right _ (List.mem_append_left _ (List.mem_map.mpr ⟨iv', m1, rfl⟩))) m2 m3 (fun w hw => z_okrf (hr w hw) m3)
      · by_cases h2 : hi < z_val ρ x
        · refine lv_tableOut hx hb hd (Or.inr (by rw [eX]; exact h2)) (z_jp_ok ht) ?_
          obtain ⟨iv', m1, m2, m3⟩ := (z_lt_ok (x := (0, 0, hi)) (y := x) hg.1.1 (by rw [z_val0 hg.1.1]; exact h2)).l
          exact z_rf (t := some t) hg kk (List.mem_append_right _ (List.mem_append_right _ (List.mem_map.mpr ⟨iv', m1, rfl⟩))) m2 m3 (fun w hw => z_okrf (hr w hw) m3)
        · have hj : (z_val ρ x - lo).toNat < offs.toList.length := by omega
          obtain ⟨off, ho⟩ : ∃ off, offs.toList[(z_val ρ x - lo).toNat]? = some off := ⟨_, List.getElem?_eq_getElem hj⟩
          obtain ⟨t', iv', a1, a2, a3, a4⟩ := z_tab_ok hg.1.1 offs.toList lo q hq _ off ho (by omega)
          refine lv_tableIn hx hb hd (by rw [eX]; exact h1) (by rw [eX]; exact h2) (off := off) (by rw [eX, ← Array.getElem?_toList]; exact ho) a1 ?_
          exact z_rf (t := some t') hg kk (List.mem_append_left _ a2) a3 a4 (fun w hw => z_okrf (hr w hw) a4)
    next => cases h
  next => cases h
def z_lks (f : zI → zS) (x : zV) (pc : Nat) (dflt : Int) : List (Int × Int) → List zI → Option (List (Option Nat × zS))
  | [], ivs => match z_jp pc dflt with
    | some t => some (ivs.map (fun i => (some t, f i)))
    | none => none
  | (a, o) :: r, ivs => match z_jp pc o, z_lks f x pc dflt r (ivs.flatMap (fun i => z_ne i x (0, 0, a))) with
    | some t, some q => some ((ivs.flatMap (fun i => z_ol (z_eq i x (0, 0, a)))).map (fun i => (some t, f i)) ++ q)
    | _, _ => none
theorem z_lks_ok {f : zI → zS} {x : zV} {pc : Nat} {dflt : Int} {ρ : Nat → Int} : ∀ (ps : List (Int × Int)) (ivs : List zI) (q : List (Option Nat × zS)), z_lks f x pc dflt ps ivs = some q → ∀ iv ∈ ivs, ziv iv ρ → ∃ (t : Nat) (iv' : zI), (pc : Int) + Op.lookupswitch.offset ps dflt (z_val ρ x) = (t : Int) ∧ (some t, f iv') ∈ q ∧ ziv iv' ρ ∧ iv'.length = iv.length
  | [], ivs, q, h, iv, hm, hi => by
    unfold z_lks at h
    split at h
    next t ht => cases h; exact ⟨t, iv, z_jp_ok ht, List.mem_map.mpr ⟨iv, hm, rfl⟩, hi, rfl⟩
    next => cases h
  | (a, o) :: r, ivs, q, h, iv, hm, hi => by
    unfold z_lks at h
    split at h
    next t q' ht hq' =>
      cases h
      by_cases ha : z_val ρ x = a
      · obtain ⟨iv', m1, m2, m3⟩ := (z_eq_ok (x := x) (y := (0, 0, a)) hi (by rw [z_val0 hi]; exact ha)).l
        refine ⟨t, iv', ?_, List.mem_append_left _ (List.mem_map.mpr ⟨iv', List.mem_flatMap.mpr ⟨iv, hm, m1⟩, rfl⟩), m2, m3⟩
        rw [Op.lookupswitch.offset_cons, if_pos ha.symm]
        exact z_jp_ok ht
      · obtain ⟨iv1, m1, m2, m3⟩ := z_ne_ok (x := x) (y := (0, 0, a)) hi (by rw [z_val0 hi]; exact ha)
        obtain ⟨t', iv', a1, a2, a3, a4⟩ := z_lks_ok r _ q' hq' iv1 (List.mem_flatMap.mpr ⟨iv, hm, m1⟩) m2
        refine ⟨t', iv', ?_, List.mem_append_right _ a2, a3, a4.trans m3⟩
        rw [Op.lookupswitch.offset_cons, if_neg (fun e => ha e.symm)]
        exact a1
    next => cases h
def z_lsw (pc : Nat) (dflt : Int) (ps : Array (Int × Int)) (st : zS) : zR := match st with
  | (cu, su, iv, lv, x :: r, ov) => if x.1 = 0 ∧ (ps.toList.zip (ps.toList.drop 1)).all (fun (a, next) => a.1 < next.1) = true then z_lks (fun i => (cu, su, i, lv, r, ov)) x pc dflt ps.toList [iv] else none
  | _ => none
theorem zs_lsw (hx : p.tables.exec = Jvm.exec) (hb : c.code = cc) {dflt : Int} {ps : Array (Int × Int)} {len : Nat} {st : zS} {ss : List (Option Nat × zS)} (hd : decode cc pc = .ok (.lookupswitch dflt ps, len)) (h : z_lsw pc dflt ps st = some ss) : zSt p l e R s m args below meth c Q D cl A cA G b sl xs fl h0 nL pc len st ss := by
  obtain ⟨cu, su, iv, lv, sk, ov⟩ := st
  unfold z_lsw at h
  rcases sk with _ | ⟨x, r⟩
  · cases h
  dsimp only at h
  split at h
  next hk =>
    intro ρ ad ws H locs ls hg kk
    have ox := z_ok0 (hg.1.2.2.1 x List.mem_cons_self) hk.1
    have eX := z_i32 ox.2.1 ox.2.2
    have hr : ∀ w ∈ r, zok ov.length iv ρ w := fun w hw => hg.1.2.2.1 w (List.mem_cons_of_mem _ hw)
    show W p l e R s m args below meth c H locs cu su Q (F0 m pc ls (zcv ad b ρ x :: r.map (zcv ad b ρ)))
    rw [z_cv0 hk.1]
    obtain ⟨t, iv', a1, a2, a3, a4⟩ := z_lks_ok _ _ _ h iv (List.mem_singleton.mpr rfl) hg.1.1
    refine lv_lookup hx hb hd hk.2 (by rw [eX]) a1 ?_
    exact z_rf (t := some t) hg kk a2 a3 a4 (fun w hw => z_okrf (hr w hw) a4)
  next => cases h
end ZST4
end
section
/-! ===== tables: what the statement's words give ===== -/
def z_tyk (t : FieldType) : Nat := match t with
  | .int => 0
  | .long => 1
  | .object _ => 2
  | .array _ => 2
  | _ => 9
def zClsOk (cl : List vw_C) (zN : List String) (Ts : List Jvm.Cond) : Prop := ∀ (ci : Nat) (C : String) (T : u_T) (N : Nat), cl[ci]? = some (C, T, N) → zN[ci]? = some C ∧ (∀ w ∈ u_ws C T N, w ∈ Ts) ∧ (∃ ty0 : Nat → FieldType, ∀ k, k < N → parseFieldDescriptor (T k).2.2.1 = some (ty0 k)) ∧ (∀ a, a < N → ∀ b, b < N → a ≠ b → (T a).2.1 ≠ (T b).2.1) ∧ ∀ k, k < N → (T k).1 = C
def zGOk (cl : List vw_C) (G : List zC) : Prop := ∀ (p : Nat) (g : zC), G[p]? = some g → g.1 = 0 → ∃ (C : String) (T : u_T) (N : Nat), cl[g.2.1]? = some (C, T, N) ∧ g.2.2.length = N ∧ ∀ (f : Nat) (sp : Nat × Int × Int), g.2.2[f]? = some sp → ∃ ty, parseFieldDescriptor (T f).2.2.1 = some ty ∧ z_tyk ty = sp.1
def z_as (q : List (Nat × Nat × Nat)) (k : Nat) : Option (Nat × Nat) := match q with
  | [] => none
  | (i, a, b) :: r => if Nat.beq i k then some (a, b) else z_as r k
def z_fl (FL : List (List (Nat × Nat × Nat))) (cn idx : Nat) : Option (Nat × Nat) := match FL[cn]? with
  | some q => z_as q idx
  | none => none
def zFLOk (cl : List vw_C) (zN : List String) (FL : List (List (Nat × Nat × Nat))) (Ts : List Jvm.Cond) : Prop := ∀ (cn idx ci f : Nat) (own : String), z_fl FL cn idx = some (ci, f) → zN[cn]? = some own → ∃ (C : String) (T : u_T) (N : Nat), cl[ci]? = some (C, T, N) ∧ f < N ∧ Jvm.Cond.fieldLink own idx (T f).1 (T f).2.1 (T f).2.2.1 ∈ Ts
/-- the arrays' types: tag k + 1 at place k -/
def zTyOk (cA : Nat → ClassId) (tyl : List FieldType) (tys : List (ClassId × FieldType)) : Prop := tyl[0]? = some .int ∧ tyl[1]? = some .long ∧ tyl[2]? = some .byte ∧ tyl[3]? = some .boolean ∧ (∀ (k : Nat) (t : FieldType), 4 ≤ k → tyl[k]? = some t → t.isReference = true) ∧ ∀ (k : Nat) (t : FieldType), tyl[k]? = some t → tys[k]? = some (cA (k + 1), t)
theorem z_wr_lk {ov : zO} {p i p' i' : Nat} {v : zV} : z_lk (z_wr ov p i v) p' i' = bif z_nof ov p' then none else (bif Nat.blt p' (Prod.fst ov) then (bif Nat.beq p' p then (bif Nat.beq i' i then some v else z_at2 ov p' i') else z_at2 ov p' i') else none) := rfl
theorem z_sw_ok {ov ov' : zO} {p i : Nat} {v : zV} (h : z_sw ov p i v = some ov') : ov'.length = ov.length ∧ z_lk ov' p i = some v ∧ (∀ p' i', ¬ (p' = p ∧ i' = i) → z_lk ov' p' i' = z_lk ov p' i') ∧ ∀ (p9 i9 : Nat) (w : zV), z_lk ov' p9 i9 = some w → w = v ∨ z_lk ov p9 i9 = some w := by
  unfold z_sw at h
  split at h
  next v0 hr =>
    cases h
    have h1 : z_lk (z_wr ov p i v) p i = some v := by
      rw [z_wr_lk, Nat.beq_refl, Nat.beq_refl]
      unfold z_lk at hr
      cases hb : z_nof ov p with
      | true => rw [hb] at hr; cases hr
      | false =>
        rw [hb] at hr
        cases hc : Nat.blt p (Prod.fst ov) with
        | true => rfl
        | false => rw [hc] at hr; cases hr
    have h2 : ∀ p' i', ¬ (p' = p ∧ i' = i) → z_lk (z_wr ov p i v) p' i' = z_lk ov p' i' := by
      intro p' i' hn
      rw [z_wr_lk]
      unfold z_lk
      cases hb : Nat.beq p' p with
      | false => rfl
      | true =>
        cases hc : Nat.beq i' i with
        | false => rfl
        | true => exact absurd ⟨Nat.eq_of_beq_eq_true hb, Nat.eq_of_beq_eq_true hc⟩ hn
    refine ⟨rfl, h1, h2, fun p9 i9 w hw => ?_⟩
    by_cases e : p9 = p ∧ i9 = i
    · rw [e.1, e.2, h1] at hw
      exact Or.inl (Option.some.inj hw).symm
    · rw [h2 p9 i9 e] at hw
      exact Or.inr hw
  next => cases h
theorem z_wd_upd {G : List zC} {cA : Nat → ClassId} {ov ov' : zO} {ad : Nat → Nat} {b : Nat} {ρ : Nat → Int} {ws : va_W} {p a : Nat} {e0 e1 : va_E} {g : zC} (hw : z_wd G cA ov ad b ρ ws) (hp : ws[p]? = some (a, e0)) (hg : G[p]? = some g) (hl : ov'.length = ov.length) (ho : ∀ p', p' ≠ p → ∀ i, z_lk ov' p' i = z_lk ov p' i) (he : z_en cA g (z_wv g ov' ad b ρ p) e1) : z_wd G cA ov' ad b ρ (ws.set p (a, e1)) := by
  refine ⟨by rw [List.length_set, hl]; exact hw.1, fun p' q hq => ?_⟩
  by_cases e : p' = p
  · subst e
    rw [List.getElem?_set_self (List.getElem?_eq_some_iff.mp hp).1] at hq
    cases hq
    exact ⟨(hw.2 _ _ hp).1, g, hg, he⟩
  · rw [List.getElem?_set_ne (fun q => e q.symm)] at hq
    obtain ⟨h1, g', hg', he'⟩ := hw.2 p' q hq
    refine ⟨h1, g', hg', z_en_mono (fun i v hv => ?_) he'⟩
    unfold z_wv at hv ⊢
    rw [ho p' e i]
    exact hv
theorem z_wd_at {G : List zC} {cA : Nat → ClassId} {ov : zO} {ad : Nat → Nat} {b : Nat} {ρ : Nat → Int} {ws : va_W} {p : Nat} {g : zC} (hw : z_wd G cA ov ad b ρ ws) (hp : p < ov.length) (hg : G[p]? = some g) : ∃ e0, ws[p]? = some (ad p, e0) ∧ z_en cA g (z_wv g ov ad b ρ p) e0 := by
  have hp' : p < ws.length := by rw [hw.1]; exact hp
  obtain ⟨q, hq⟩ : ∃ q, ws[p]? = some q := ⟨_, List.getElem?_eq_getElem hp'⟩
  obtain ⟨h1, g', hg', he⟩ := hw.2 p q hq
  cases hg.symm.trans hg'
  obtain ⟨a, e0⟩ := q
  dsimp only at h1
  subst h1
  exact ⟨e0, hq, he⟩
section ZST5
variable {p : Program} {l : Launch} {e : Env} {R : Room} {s : State} {m : MethodId} {args : Array Value} {below : List Frame} {meth : Method} {c : Code} {Q : State → Prop} {D : va_G} {cl : List vw_C} {A : Nat → Prop} {cA : Nat → ClassId} {G : List zC} {b sl : Nat} {xs : Nat → Int32} {fl : Bool} {h0 : Heap} {nL : Nat} {cc : ByteArray} {pc : Nat}
variable {Ts : List Jvm.Cond} {zN : List String} {FL : List (List (Nat × Nat × Nat))} {tys : List (ClassId × FieldType)} {tyl : List FieldType} {own : String} {cn : Nat}
theorem z_gm.ov {iv iv' : zI} {lv : zL} {sk r : List zV} {ov ov' : zO} {ρ : Nat → Int} {ad : Nat → Nat} {ws ws' : va_W} {H H' : Heap} {locs locs' : List Loc} {ls : Array Slot} (h : z_gm D cl A cA G b sl xs fl h0 nL iv lv sk ov ρ ad ws H locs ls) (hiv : ziv iv' ρ) (hli : iv'.length = iv.length) (hl : ov'.length = ov.length) (hk : ∀ (p9 i9 : Nat) (w : zV), z_lk ov' p9 i9 = some w → zok ov.length iv ρ w) (hs : ∀ w ∈ r, zok ov.length iv ρ w) (hw : z_wd G cA ov' ad b ρ ws') (hP : va_P D cl ws' H') (hD : va_D A ws') (hS : va_S A h0 H' locs') : z_gm D cl A cA G b sl xs fl h0 nL iv' lv r ov' ρ ad ws' H' locs' ls :=
  ⟨⟨hiv, fun q hq => by rw [hl]; exact z_okrf (h.1.2.1 q hq) hli, fun w hw => by rw [hl]; exact z_okrf (hs w hw) hli, fun r hr w hw => by rw [hl]; exact z_okrf (hk r hr w hw) hli⟩, h.2.1, hw, hP, hD, hS, h.2.2.2.2.2.2.1, by rw [hli]; exact h.2.2.2.2.2.2.2⟩
/-! fields -/
def z_get (G : List zC) (FL : List (List (Nat × Nat × Nat))) (cn idx : Nat) (st : zS) : zR := match st with
  | (cu, su, iv, lv, x :: r, ov) => if x.1 = 2 then (match z_fl FL cn idx, G[x.2.1]? with
    | some (ci, f), some g => if g.1 = 0 ∧ g.2.1 = ci ∧ f < g.2.2.length then (match z_lk ov x.2.1 f with
      | some v => some [(none, (cu, su, iv, lv, v :: r, ov))]
      | none => none) else none
    | _, _ => none) else none
  | _ => none
theorem zs_get (hx : p.tables.exec = Jvm.exec) (hb : c.code = cc) (hts : ∀ w ∈ Ts, w.before args s = true) (hK : va_K D cl tys s) (hown : s.vm.findClass own = some m.cls) (hN : zN[cn]? = some own) (hC : zClsOk cl zN Ts) (hF : zFLOk cl zN FL Ts) {idx : Nat} {st : zS} {ss : List (Option Nat × zS)} (hd : decode cc pc = .ok (.getfield idx, 3)) (h : z_get G FL cn idx st = some ss) : zSt p l e R s m args below meth c Q D cl A cA G b sl xs fl h0 nL pc 3 st ss := by
  obtain ⟨cu, su, iv, lv, sk, ov⟩ := st
  unfold z_get at h
  rcases sk with _ | ⟨x, r⟩
  · cases h
  dsimp only at h
  split at h
  next hk =>
    split at h
    next ci f g hf hg =>
      split at h
      next hc =>
        split at h
        next v hv =>
          cases h
          obtain ⟨hc1, hc2, hc3⟩ := hc
          intro ρ ad ws H locs ls hgm kk
          have hxo : x.2.1 < ov.length := by
            have := hgm.1.2.2.1 x List.mem_cons_self
            unfold zok at this; rw [hk] at this; exact this
          obtain ⟨e0, hq, he⟩ := z_wd_at hgm.2.2.1 hxo hg
          unfold z_en at he
          rw [hc1] at he
          obtain ⟨fs, rfl, hl, hvs⟩ := he
          obtain ⟨C, T, N, hcl, hfN, hlink⟩ := hF cn idx ci f own hf hN
          obtain ⟨v0, hv0⟩ : ∃ v0, fs[f]? = some v0 := ⟨_, List.getElem?_eq_getElem (by rw [hl]; exact hc3)⟩
          have hw := hvs f v0 hv0
          unfold z_wv at hw
          rw [hv] at hw
          dsimp only at hw
          rw [hc2] at hq
          show W p l e R s m args below meth c H locs cu su Q (F0 m pc ls (zcv ad b ρ x :: r.map (zcv ad b ρ)))
          rw [z_cv2 hk]
          refine va_get hx hb hts (hC ci C T N hcl).2.1 hown hK hgm.2.2.2.1 x.2.1 hq hcl f hfN (hts _ hlink) (fun _ h9 => h9) hv0 hd ?_
          rw [hw]
          exact kk _ (List.mem_singleton.mpr rfl) ρ ad ws H locs ls ⟨fun _ _ => rfl, fun _ _ => rfl, Nat.le_refl _, Nat.le_refl _⟩ (hgm.mv (fun _ _ => rfl) (Nat.le_refl _) hgm.1.1 (fun w hw => (List.mem_cons.mp hw).elim (fun q => by rw [q]; exact hgm.1.2.2.2 _ _ v hv) (fun q => hgm.1.2.2.1 w (List.mem_cons_of_mem _ q))))
        next => cases h
      next => cases h
    next => cases h
  next => cases h
def z_fin? (cl : List vw_C) (ci f : Nat) : Bool := match cl[ci]? with
  | some q => (q.2.1 f).2.2.2
  | none => true
def z_pk (k v : Nat) : Bool := match k with
  | 0 => Nat.beq v 0
  | 1 => Nat.beq v 1
  | 2 => Nat.beq v 2 || Nat.beq v 3
  | _ => false
def z_putf (cl : List vw_C) (G : List zC) (FL : List (List (Nat × Nat × Nat))) (cn : Nat) (ini : Bool) (idx : Nat) (st : zS) : zR := match st with
  | (cu, su, iv, lv, v :: x :: r, ov) => if x.1 = 2 then (match z_fl FL cn idx, G[x.2.1]? with
    | some (ci, f), some g => if g.1 = 0 ∧ g.2.1 = ci ∧ (z_fin? cl ci f = false ∨ (ini = true ∧ ci = cn)) then (match g.2.2[f]? with
      | some sp => if z_pk sp.1 v.1 then (match z_sw ov x.2.1 f v with
        | some ov' => some [(none, (cu, su, iv, lv, r, ov'))]
        | none => none) else none
      | none => none) else none
    | _, _ => none) else none
  | _ => none
theorem z_pk_ok {k : Nat} {v : zV} {ty : FieldType} (h : z_pk k v.1 = true) (ht : z_tyk ty = k) (ad : Nat → Nat) (b : Nat) (ρ : Nat → Int) : narrow ty (zcv ad b ρ v) = zcv ad b ρ v ∧ fits ty (zcv ad b ρ v) = true := by
  obtain ⟨kv, s, o⟩ := v
  dsimp only at h
  unfold z_tyk at ht
  split at ht
  · subst ht
    have e : kv = 0 := Nat.eq_of_beq_eq_true h
    subst e; exact ⟨rfl, rfl⟩
  · subst ht
    have e : kv = 1 := Nat.eq_of_beq_eq_true h
    subst e; exact ⟨rfl, rfl⟩
  · subst ht
    rcases Bool.or_eq_true _ _ ▸ (show (Nat.beq kv 2 || Nat.beq kv 3) = true from h) with q | q
    · have e : kv = 2 := Nat.eq_of_beq_eq_true q
      subst e; exact ⟨rfl, rfl⟩
    · have e : kv = 3 := Nat.eq_of_beq_eq_true q
      subst e; exact ⟨rfl, rfl⟩
  · subst ht
    rcases Bool.or_eq_true _ _ ▸ (show (Nat.beq kv 2 || Nat.beq kv 3) = true from h) with q | q
    · have e : kv = 2 := Nat.eq_of_beq_eq_true q
      subst e; exact ⟨rfl, rfl⟩
    · have e : kv = 3 := Nat.eq_of_beq_eq_true q
      subst e; exact ⟨rfl, rfl⟩
  · subst ht; cases h
theorem zs_putf (hx : p.tables.exec = Jvm.exec) (hb : c.code = cc) (hts : ∀ w ∈ Ts, w.before args s = true) (hK : va_K D cl tys s) (hown : s.vm.findClass own = some m.cls) (hN : zN[cn]? = some own) (hC : zClsOk cl zN Ts) (hG : zGOk cl G) (hF : zFLOk cl zN FL Ts) {ini : Bool} (hin : ini = true → meth.name = "<init>") {idx : Nat} {st : zS} {ss : List (Option Nat × zS)} (hd : decode cc pc = .ok (.putfield idx, 3)) (h : z_putf cl G FL cn ini idx st = some ss) : zSt p l e R s m args below meth c Q D cl A cA G b sl xs fl h0 nL pc 3 st ss := by
  obtain ⟨cu, su, iv, lv, sk, ov⟩ := st
  unfold z_putf at h
  rcases sk with _ | ⟨v, _ | ⟨x, r⟩⟩
  · cases h
  · cases h
  dsimp only at h
  split at h
  next hk =>
    split at h
    next ci f g hf hg =>
      split at h
      next hc =>
        split at h
        next sp hsp =>
          split at h
          next hpk =>
            split at h
            next ov' hov =>
              cases h
              obtain ⟨hc1, hc2, hc3⟩ := hc
              intro ρ ad ws H locs ls hgm kk
              have hxo : x.2.1 < ov.length := by
                have := hgm.1.2.2.1 x (List.mem_cons_of_mem _ List.mem_cons_self)
                unfold zok at this; rw [hk] at this; exact this
              obtain ⟨e0, hq, he⟩ := z_wd_at hgm.2.2.1 hxo hg
              unfold z_en at he
              rw [hc1] at he
              obtain ⟨fs, rfl, hl, hvs⟩ := he
              obtain ⟨C, T, N, hcl, hfN, hlink⟩ := hF cn idx ci f own hf hN
              obtain ⟨C2, T2, N2, hcl2, hl2, hty2⟩ := hG x.2.1 g hg hc1
              rw [hc2] at hq hcl2
              cases hcl.symm.trans hcl2
              obtain ⟨ty, hty, htk⟩ := hty2 f sp hsp
              obtain ⟨hNC, hin2, ⟨ty0, hty0⟩, hnm, hdecl⟩ := hC ci C T N hcl
              have hnf := z_pk_ok hpk htk ad b ρ
              obtain ⟨o1, o2, o3, o4⟩ := z_sw_ok hov
              have hfl : f < fs.length := by rw [hl]; exact (List.getElem?_eq_some_iff.mp hsp).1
              show W p l e R s m args below meth c H locs cu su Q (F0 m pc ls (zcv ad b ρ v :: zcv ad b ρ x :: r.map (zcv ad b ρ)))
              rw [z_cv2 hk]
              have fin : ∀ (H1 : Heap) (locs1 : List Loc), va_P D cl (ws.set x.2.1 (ad x.2.1, .inr (ci, fs.set f (zcv ad b ρ v)))) H1 → va_D A (ws.set x.2.1 (ad x.2.1, .inr (ci, fs.set f (zcv ad b ρ v)))) → va_S A h0 H1 locs1 → W p l e R s m args below meth c H1 locs1 cu su Q (F0 m (pc + 3) ls (r.map (zcv ad b ρ))) := by
                intro H1 locs1 hP1 hD1 hS1
                refine kk _ (List.mem_singleton.mpr rfl) ρ ad _ H1 locs1 ls ⟨fun _ _ => rfl, fun _ _ => rfl, Nat.le_refl _, Nat.le_of_eq o1.symm⟩ (hgm.ov hgm.1.1 rfl o1 (fun r' hr' w hw => ?_) (fun w hw => hgm.1.2.2.1 w (List.mem_cons_of_mem _ (List.mem_cons_of_mem _ hw))) ?_ hP1 hD1 hS1)
                · rcases o4 r' hr' w hw with q | q2
                  · subst q; exact hgm.1.2.2.1 _ List.mem_cons_self
                  · exact hgm.1.2.2.2 _ _ w q2
                · refine z_wd_upd hgm.2.2.1 hq hg o1 (fun p' hp' i => o3 p' i (fun q => hp' q.1)) ?_
                  unfold z_en
                  rw [hc1]
                  refine ⟨_, by rw [hc2], by rw [List.length_set]; exact hl, fun i w hw => ?_⟩
                  unfold z_wv
                  by_cases ei : i = f
                  · subst ei
                    rw [List.getElem?_set_self hfl] at hw
                    cases hw
                    rw [o2]
                  · rw [List.getElem?_set_ne (fun q => ei q.symm)] at hw
                    rw [o3 x.2.1 i (fun q => ei q.2)]
                    exact hvs i w hw
              by_cases hfin : (T f).2.2.2 = false
              · exact va_put hx hb hts hin2 ty0 hty0 hnm hown hK hgm.2.2.2.1 hgm.2.2.2.2.1 hgm.2.2.2.2.2.1 x.2.1 hq hcl f hfN (hts _ hlink) (fun _ h9 => h9) hfin hty hnf.1 hnf.2 hfl hd fin
              · have hft : (T f).2.2.2 = true := by
                  cases hb9 : (T f).2.2.2
                  · exact absurd hb9 hfin
                  · rfl
                have hz : ini = true ∧ ci = cn := by
                  rcases hc3 with q | q
                  · unfold z_fin? at q
                    rw [hcl] at q
                    exact absurd q hfin
                  · exact q
                have hoC : C = own := by
                  have := hNC
                  rw [hz.2, hN] at this
                  exact (Option.some.inj this).symm
                exact va_putF hx hb hts hin2 ty0 hty0 hnm hown hK hgm.2.2.2.1 hgm.2.2.2.2.1 hgm.2.2.2.2.2.1 x.2.1 hq hcl f hfN (hts _ hlink) (fun _ h9 => h9) hft (hin hz.1) (by rw [hdecl f hfN]; exact hoC) hty hnf.1 hnf.2 hfl hd fin
            next => cases h
          next => cases h
        next => cases h
      next => cases h
    next => cases h
  next => cases h
end ZST5
end
section
/-! ===== arrays ===== -/
def z_els (ov : zO) (p : Nat) (iv : zI) (x : zV) : Int → Nat → Option (List (zI × zV))
  | _, 0 => some []
  | j, n + 1 => match z_els ov p iv x (j + 1) n with
    | none => none
    | some q => (match z_eq iv x (0, 0, j) with
      | none => some q
      | some i => (match z_lk ov p j.toNat with
        | some v => some ((i, v) :: q)
        | none => none))
theorem z_els_ok {ov : zO} {p : Nat} {iv : zI} {x : zV} {ρ : Nat → Int} (hi : ziv iv ρ) : ∀ (n : Nat) (j : Int) (q : List (zI × zV)), z_els ov p iv x j n = some q → ∀ t : Nat, t < n → z_val ρ x = j + t → ∃ (iv' : zI) (v : zV), (iv', v) ∈ q ∧ z_lk ov p (z_val ρ x).toNat = some v ∧ ziv iv' ρ ∧ iv'.length = iv.length
  | 0, _, _, _, t, ht, _ => absurd ht (Nat.not_lt_zero t)
  | n + 1, j, q, h, t, ht, hv => by
    unfold z_els at h
    split at h
    next => cases h
    next q' hq' =>
      match t, ht, hv with
      | 0, _, hv =>
        have ej : z_val ρ x = j := by omega
        obtain ⟨iv', m1, m2, m3⟩ := z_eq_ok (x := x) (y := (0, 0, j)) hi (by rw [z_val0 hi]; exact ej)
        rw [m1] at h
        dsimp only at h
        split at h
        next v hv' => cases h; exact ⟨iv', v, List.mem_cons_self, by rw [ej]; exact hv', m2, m3⟩
        next => cases h
      | t + 1, ht, hv =>
        obtain ⟨iv', v, a1, a2⟩ := z_els_ok hi n (j + 1) q' hq' t (by omega) (by omega)
        split at h
        next => cases h; exact ⟨iv', v, a1, a2⟩
        next =>
          split at h
          next => cases h; exact ⟨iv', v, List.mem_cons_of_mem _ a1, a2⟩
          next => cases h
def z_ald (tg : Nat → Bool) (kr : Nat) (G : List zC) (st : zS) : zR := match st with
  | (cu, su, iv, lv, x :: a :: r, ov) => if x.1 = 0 ∧ a.1 = 2 then (match G[a.2.1]?, z_bd iv x with
    | some g, some q => if tg g.1 = true ∧ 0 ≤ q.1 ∧ q.2 < (g.2.1 : Int) then (match g.2.2 with
      | [(k, lo, hi)] => (match z_un ov a.2.1 with
        | some [] => if k = kr then some [(none, (cu, su, (z_mk iv kr lo hi).1, lv, (z_mk iv kr lo hi).2 :: r, ov))] else none
        | _ => none)
      | _ => (match z_els ov a.2.1 iv x q.1 (q.2 - q.1 + 1).toNat with
        | some es => some (es.map (fun w => (none, (cu, su, w.1, lv, w.2 :: r, ov))))
        | none => none)) else none
    | _, _ => none) else none
  | _ => none
section ZST6
variable {p : Program} {l : Launch} {e : Env} {R : Room} {s : State} {m : MethodId} {args : Array Value} {below : List Frame} {meth : Method} {c : Code} {Q : State → Prop} {D : va_G} {cl : List vw_C} {A : Nat → Prop} {cA : Nat → ClassId} {G : List zC} {b sl : Nat} {xs : Nat → Int32} {fl : Bool} {h0 : Heap} {nL : Nat} {cc : ByteArray} {pc : Nat}
variable {Ts : List Jvm.Cond} {zN : List String} {FL : List (List (Nat × Nat × Nat))} {tys : List (ClassId × FieldType)} {tyl : List FieldType} {own : String} {cn : Nat}
theorem z_vin {z : Int} {n : Nat} (h1 : 0 ≤ z) (h2 : z < (n : Int)) (h3 : z ≤ 2147483647) : vp_in (Int32.ofInt z) n ∧ (Int32.ofInt z).toNatClampNeg = z.toNat := by
  have e := z_i32 (z := z) (by omega) h3
  have e2 : (Int32.ofInt z).toNatClampNeg = z.toNat := by
    show (Int32.ofInt z).toInt.toNat = z.toNat
    rw [e]
  refine ⟨fun q => ?_, e2⟩
  rcases q with q | q
  · rw [Int32.lt_iff_toInt_lt, e] at q
    have : (0 : Int32).toInt = 0 := rfl
    omega
  · rw [e2] at q; omega
/-- what stands at a place of an array, known or by its bounds -/
theorem z_rd {g : zC} {ov : zO} {ad : Nat → Nat} {ρ : Nat → Int} {pp j : Nat} {v : Value} {k : Nat} {lo hi : Int} (hw : z_wv g ov ad b ρ pp j v) (hg : g.2.2 = [(k, lo, hi)]) (ho : z_un ov pp = some []) : z_spv (some (k, lo, hi)) v := by
  unfold z_wv at hw
  rw [z_un_lk ho] at hw
  dsimp only at hw
  unfold z_sp at hw
  rw [hg] at hw
  exact hw
theorem zs_ald {tg : Nat → Bool} {kr : Nat} {st : zS} {ss : List (Option Nat × zS)} (h : z_ald tg kr G st = some ss) (hkr : kr ≤ 1)
    (hr : ∀ (g : zC) (F : Nat → Value → Prop) (ad : Nat → Nat) (q0 : Nat) (e0 : va_E) (ws : va_W) (j : Int32) (H : Heap) (locs : List Loc) (cells slots : Nat) (ls : Array Slot) (rest : List Value), tg g.1 = true → z_en cA g F e0 → va_P D cl ws H → ws[q0]? = some (ad q0, e0) → vp_in j g.2.1 → (∀ v : Value, F j.toNatClampNeg v → W p l e R s m args below meth c H locs cells slots Q (F0 m (pc + 1) ls (v :: rest))) → W p l e R s m args below meth c H locs cells slots Q (F0 m pc ls (.int j :: .ref (ad q0) :: rest))) : zSt p l e R s m args below meth c Q D cl A cA G b sl xs fl h0 nL pc 1 st ss := by
  obtain ⟨cu, su, iv, lv, sk, ov⟩ := st
  unfold z_ald at h
  rcases sk with _ | ⟨x, _ | ⟨a, r⟩⟩
  · cases h
  · cases h
  dsimp only at h
  split at h
  next hk =>
    split at h
    next g q hg hq =>
      split at h
      next hc =>
        obtain ⟨hc1, hc2, hc3⟩ := hc
        intro ρ ad ws H locs ls hgm kk
        have hxo : a.2.1 < ov.length := by
          have := hgm.1.2.2.1 a (List.mem_cons_of_mem _ List.mem_cons_self)
          unfold zok at this; rw [hk.2] at this; exact this
        have ox := z_ok0 (hgm.1.2.2.1 x List.mem_cons_self) hk.1
        have hb := z_bd_ok hq hgm.1.1
        obtain ⟨hvi, hcl⟩ := z_vin (z := z_val ρ x) (n := g.2.1) (by omega) (by omega) ox.2.2
        obtain ⟨e0, hqw, he⟩ := z_wd_at hgm.2.2.1 hxo hg
        have hrr : ∀ w ∈ r, zok ov.length iv ρ w := fun w hw => hgm.1.2.2.1 w (List.mem_cons_of_mem _ (List.mem_cons_of_mem _ hw))
        show W p l e R s m args below meth c H locs cu su Q (F0 m pc ls (zcv ad b ρ x :: zcv ad b ρ a :: r.map (zcv ad b ρ)))
        rw [z_cv0 hk.1, z_cv2 hk.2]
        refine hr g _ ad a.2.1 e0 ws _ H locs cu su ls _ hc1 he hgm.2.2.2.1 hqw hvi (fun v hv => ?_)
        rw [hcl] at hv
        split at h
        next k lo hi hsp =>
          split at h
          next ho =>
            split at h
            next hkk =>
              cases h
              subst hkk
              have hs := z_rd hv hsp ho
              match k, hkr, hs with
              | 0, _, hs =>
                obtain ⟨X, rfl, b1, b2⟩ := hs
                obtain ⟨ρ', n1, n2, n3, n4, n5, n6⟩ := z_mk_ok 0 hgm.1.1 b1 b2
                exact z_fin hgm (fun w hw => List.mem_cons_of_mem _ (List.mem_cons_of_mem _ hw)) n1 n2 n3 (z_ok0' n4 n5 _ n6) (by rw [z_cv0 n4, n6, z_o32]) kk
              | 1, _, hs =>
                obtain ⟨X, rfl, b1, b2⟩ := hs
                obtain ⟨ρ', n1, n2, n3, n4, n5, n6⟩ := z_mk_ok 1 hgm.1.1 b1 b2
                exact z_fin hgm (fun w hw => List.mem_cons_of_mem _ (List.mem_cons_of_mem _ hw)) n1 n2 n3 (z_ok1' n4 n5 _ n6) (by rw [z_cv1 n4, n6, z_o64]) kk
            next => cases h
          next => cases h
        next =>
          split at h
          next es hes =>
            cases h
            obtain ⟨iv', w, m1, m2, m3, m4⟩ := z_els_ok hgm.1.1 _ _ es hes (z_val ρ x - q.1).toNat (by omega) (by omega)
            unfold z_wv at hv
            rw [m2] at hv
            dsimp only at hv
            rw [hv]
            exact z_rf (t := none) (r := w :: r) hgm kk (List.mem_map.mpr ⟨(iv', w), m1, rfl⟩) m3 m4 (fun w' hw' => (List.mem_cons.mp hw').elim (fun q9 => by rw [q9]; exact z_okrf (hgm.1.2.2.2 _ _ w m2) m4) (fun q9 => z_okrf (hrr w' q9) m4))
          next => cases h
      next => cases h
    next => cases h
  next => cases h
def z_t1 (t : Nat) : Bool := Nat.beq t 1
def z_t2 (t : Nat) : Bool := Nat.beq t 2
def z_t34 (t : Nat) : Bool := Nat.beq t 3 || Nat.beq t 4
def z_t5 (t : Nat) : Bool := Nat.ble 5 t
theorem z_en1 {g : zC} {F : Nat → Value → Prop} {e0 : va_E} (ht : g.1 = 1) (he : z_en cA g F e0) : ∃ f : Nat → Int32, e0 = .inl (cA 1, g.2.1, .inl f) ∧ ∀ j, j < g.2.1 → F j (.int (f j)) := by
  unfold z_en at he; rw [ht] at he; exact he
theorem z_en2 {g : zC} {F : Nat → Value → Prop} {e0 : va_E} (ht : g.1 = 2) (he : z_en cA g F e0) : ∃ f : Nat → Int64, e0 = .inl (cA 2, g.2.1, .inr (.inl f)) ∧ ∀ j, j < g.2.1 → F j (.long (f j)) := by
  unfold z_en at he; rw [ht] at he; exact he
theorem z_en3 {g : zC} {F : Nat → Value → Prop} {e0 : va_E} (ht : g.1 = 3) (he : z_en cA g F e0) : ∃ f : Nat → Int32, e0 = .inl (cA 3, g.2.1, .inl f) ∧ ∀ j, j < g.2.1 → F j (.int (f j)) := by
  unfold z_en at he; rw [ht] at he; exact he
theorem z_en4 {g : zC} {F : Nat → Value → Prop} {e0 : va_E} (ht : g.1 = 4) (he : z_en cA g F e0) : ∃ f : Nat → Int32, e0 = .inl (cA 4, g.2.1, .inl f) ∧ ∀ j, j < g.2.1 → F j (.int (f j)) := by
  unfold z_en at he; rw [ht] at he; exact he
theorem z_en5 {g : zC} {F : Nat → Value → Prop} {e0 : va_E} {k : Nat} (ht : g.1 = k + 5) (he : z_en cA g F e0) : ∃ f : Nat → Option Nat, e0 = .inl (cA (k + 5), g.2.1, .inr (.inr (.inr (.inr f)))) ∧ ∀ j, j < g.2.1 → F j (va_rf (f j)) := by
  unfold z_en at he; rw [ht] at he; exact he
theorem z_inlt {j : Int32} {n : Nat} (h : vp_in j n) : j.toNatClampNeg < n := Nat.not_le.mp fun q => h (Or.inr q)
theorem zs_iald (hx : p.tables.exec = Jvm.exec) (hb : c.code = cc) (hK : va_K D cl tys s) (hT : zTyOk cA tyl tys) {st : zS} {ss : List (Option Nat × zS)} (hd : decode cc pc = .ok (.iaload, 1)) (h : z_ald z_t1 0 G st = some ss) : zSt p l e R s m args below meth c Q D cl A cA G b sl xs fl h0 nL pc 1 st ss := by
  refine zs_ald h (by omega) (fun g F ad q0 e0 ws j H locs cells slots ls rest ht he hP hq hin k => ?_)
  obtain ⟨f, rfl, hf⟩ := z_en1 (Nat.eq_of_beq_eq_true ht) he
  exact va_iald hx hb hK hP q0 0 hq (hT.2.2.2.2.2 0 _ hT.1) hin hd (k _ (hf _ (z_inlt hin)))
theorem zs_lald (hx : p.tables.exec = Jvm.exec) (hb : c.code = cc) (hK : va_K D cl tys s) (hT : zTyOk cA tyl tys) {st : zS} {ss : List (Option Nat × zS)} (hd : decode cc pc = .ok (.laload, 1)) (h : z_ald z_t2 1 G st = some ss) : zSt p l e R s m args below meth c Q D cl A cA G b sl xs fl h0 nL pc 1 st ss := by
  refine zs_ald h (by omega) (fun g F ad q0 e0 ws j H locs cells slots ls rest ht he hP hq hin k => ?_)
  obtain ⟨f, rfl, hf⟩ := z_en2 (Nat.eq_of_beq_eq_true ht) he
  exact va_lald hx hb hK hP q0 1 hq (hT.2.2.2.2.2 1 _ hT.2.1) hin hd (k _ (hf _ (z_inlt hin)))
theorem zs_bald (hx : p.tables.exec = Jvm.exec) (hb : c.code = cc) (hK : va_K D cl tys s) (hT : zTyOk cA tyl tys) {st : zS} {ss : List (Option Nat × zS)} (hd : decode cc pc = .ok (.baload, 1)) (h : z_ald z_t34 0 G st = some ss) : zSt p l e R s m args below meth c Q D cl A cA G b sl xs fl h0 nL pc 1 st ss := by
  refine zs_ald h (by omega) (fun g F ad q0 e0 ws j H locs cells slots ls rest ht he hP hq hin k => ?_)
  unfold z_t34 at ht
  rcases Bool.or_eq_true _ _ ▸ ht with t | t
  · obtain ⟨f, rfl, hf⟩ := z_en3 (Nat.eq_of_beq_eq_true t) he
    exact va_bald hx hb hK hP q0 2 hq (hT.2.2.2.2.2 2 _ hT.2.2.1) hin hd (k _ (hf _ (z_inlt hin)))
  · obtain ⟨f, rfl, hf⟩ := z_en4 (Nat.eq_of_beq_eq_true t) he
    exact va_zald hx hb hK hP q0 3 hq (hT.2.2.2.2.2 3 _ hT.2.2.2.1) hin hd (k _ (hf _ (z_inlt hin)))
def z_t5b (tyl : List FieldType) (t : Nat) : Bool := Nat.ble 5 t && Nat.blt (t - 1) tyl.length
theorem zs_aald (hx : p.tables.exec = Jvm.exec) (hb : c.code = cc) (hK : va_K D cl tys s) (hT : zTyOk cA tyl tys) {st : zS} {ss : List (Option Nat × zS)} (hd : decode cc pc = .ok (.aaload, 1)) (h : z_ald (z_t5b tyl) 0 G st = some ss) : zSt p l e R s m args below meth c Q D cl A cA G b sl xs fl h0 nL pc 1 st ss := by
  refine zs_ald h (by omega) (fun g F ad q0 e0 ws j H locs cells slots ls rest ht he hP hq hin k => ?_)
  unfold z_t5b at ht
  rw [Bool.and_eq_true] at ht
  have h5 : 5 ≤ g.1 := Nat.le_of_ble_eq_true ht.1
  have hlt : g.1 - 1 < tyl.length := Nat.le_of_ble_eq_true ht.2
  obtain ⟨kk, hkk⟩ : ∃ kk, g.1 = kk + 5 := ⟨g.1 - 5, by omega⟩
  obtain ⟨f, rfl, hf⟩ := z_en5 hkk he
  obtain ⟨ty, hty⟩ : ∃ ty, tyl[g.1 - 1]? = some ty := ⟨_, List.getElem?_eq_getElem hlt⟩
  have hr := hT.2.2.2.2.1 (g.1 - 1) ty (by omega) hty
  have hq2 := hT.2.2.2.2.2 (g.1 - 1) ty hty
  have e1 : g.1 - 1 + 1 = kk + 5 := by omega
  rw [e1] at hq2
  have hcell := hP q0 _ hq
  have hin2 : ¬ (j < 0 ∨ (arrV (cA (kk + 5)) g.2.1 (fun j => va_rf (f j))).slots.size ≤ j.toNatClampNeg) := by rw [arrV_size]; exact hin
  exact W.aald (v := va_rf (f j.toNatClampNeg)) hx hb hcell ((hK.2 _ _ hq2).1 g.2.1 (fun j => va_rf (f j))) hr (fun q => by cases q) hin2 (by show (arrV _ _ _).slots[_]? = _; rw [arrV_read _ _ (z_inlt hin)]) rfl rfl hd (k _ (hf _ (z_inlt hin)))
/-! the script -/
def z_sof (iv : zI) (x : zV) : Option Nat := if Nat.beq x.2.1 8 then (if 0 ≤ x.2.2 ∧ x.2.2 < 6 then some x.2.2.toNat else none) else if Nat.beq x.2.1 0 then (match iv.at 8 with
  | some q => if q.1 = q.2 ∧ 0 ≤ x.2.2 - q.1 ∧ x.2.2 - q.1 < 6 then some (x.2.2 - q.1).toNat else none
  | none => none) else none
theorem z_sof_ok {iv : zI} {x : zV} {d : Nat} {ρ : Nat → Int} (hi : ziv iv ρ) (h : z_sof iv x = some d) : d < 6 ∧ z_val ρ x = ρ 8 + d := by
  unfold z_sof at h
  split at h
  next hb =>
    have e : x.2.1 = 8 := Nat.eq_of_beq_eq_true hb
    split at h
    next hc => cases h; unfold z_val; rw [e]; omega
    next => cases h
  next =>
    split at h
    next hb =>
      have e : x.2.1 = 0 := Nat.eq_of_beq_eq_true hb
      split at h
      next q hq =>
        split at h
        next hc =>
          cases h
          have := hi.2.2 8 q hq
          unfold z_val; rw [e, hi.1]; omega
        next => cases h
      next => cases h
    next => cases h
def z_sld (fl : Bool) (st : zS) : zR := match st with
  | (cu, su, iv, lv, x :: a :: r, ov) => if x.1 = 0 ∧ a.1 = 4 ∧ fl = true then (match z_sof iv x with
    | some d => some [(none, (cu, su, iv, lv, (0, 2 + d, 0) :: r, ov))]
    | none => none) else none
  | _ => none
theorem z_cv4 {v : zV} (hk : v.1 = 4) (ad : Nat → Nat) (b : Nat) (ρ : Nat → Int) : zcv ad b ρ v = .ref b := by unfold zcv; rw [hk]; rfl
theorem zs_sld (hx : p.tables.exec = Jvm.exec) (hb : c.code = cc) (hX : va_X b sl xs s h0) (hbl : b < h0.size) (hbA : ¬ A b) {st : zS} {ss : List (Option Nat × zS)} (hd : decode cc pc = .ok (.iaload, 1)) (h : z_sld fl st = some ss) : zSt p l e R s m args below meth c Q D cl A cA G b sl xs fl h0 nL pc 1 st ss := by
  obtain ⟨cu, su, iv, lv, sk, ov⟩ := st
  unfold z_sld at h
  rcases sk with _ | ⟨x, _ | ⟨a, r⟩⟩
  · cases h
  · cases h
  dsimp only at h
  split at h
  next hk =>
    split at h
    next d hds =>
      cases h
      intro ρ ad ws H locs ls hgm kk
      have ox := z_ok0 (hgm.1.2.2.1 x List.mem_cons_self) hk.1
      obtain ⟨hd6, hdv⟩ := z_sof_ok hgm.1.1 hds
      obtain ⟨s1, s2, s3, -⟩ := hgm.2.2.2.2.2.2.1.2 hk.2.2
      obtain ⟨hvi, hcl⟩ := z_vin (z := z_val ρ x) (n := sl) (by omega) (by omega) ox.2.2
      show W p l e R s m args below meth c H locs cu su Q (F0 m pc ls (zcv ad b ρ x :: zcv ad b ρ a :: r.map (zcv ad b ρ)))
      rw [z_cv0 hk.1, z_cv4 hk.2.1]
      refine va_sld hx hb hX hbl hbA hgm.2.2.2.2.2.1 hvi hd ?_
      rw [hcl, hdv, show (ρ 8 + (d : Int)).toNat = (ρ 8).toNat + d by omega]
      have ev : z_val ρ (0, 2 + d, 0) = (xs ((ρ 8).toNat + d)).toInt := by show ρ (2 + d) + 0 = _; rw [s3 d hd6]; omega
      have hl8 : 9 < iv.length := hgm.2.2.2.2.2.2.2
      exact z_fin (v := (0, 2 + d, 0)) hgm (fun w hw => List.mem_cons_of_mem _ (List.mem_cons_of_mem _ hw)) (fun _ _ => rfl) (Nat.le_refl _) hgm.1.1 (z_ok0' rfl (by show 2 + d < iv.length; omega) _ ev) (by rw [z_cv0 rfl, ev, z_o32]) kk
    next => cases h
  next => cases h
/-! lengths -/
def z_alen (G : List zC) (tyl : List FieldType) (st : zS) : zR := match st with
  | (cu, su, iv, lv, a :: r, ov) => if a.1 = 4 then some [(none, (cu, su, iv, lv, (0, 1, 0) :: r, ov))] else if a.1 = 2 then (match G[a.2.1]? with
    | some g => if 1 ≤ g.1 ∧ g.1 - 1 < tyl.length ∧ (g.2.1 : Int) ≤ 2147483647 then some [(none, (cu, su, iv, lv, (0, 0, (g.2.1 : Int)) :: r, ov))] else none
    | none => none) else none
  | _ => none
theorem z_ofN (n : Nat) : Int32.ofNat n = Int32.ofInt (n : Int) := by
  apply Int32.toInt_inj.mp
  rw [Int32.toInt_ofInt, Int32.toInt_ofNat']
theorem zs_alen (hx : p.tables.exec = Jvm.exec) (hb : c.code = cc) (hK : va_K D cl tys s) (hT : zTyOk cA tyl tys) (hX : va_X b sl xs s h0) (hbl : b < h0.size) (hbA : ¬ A b) (hsl : sl ≤ 2147483647) {st : zS} {ss : List (Option Nat × zS)} (hd : decode cc pc = .ok (.arraylength, 1)) (h : z_alen G tyl st = some ss) : zSt p l e R s m args below meth c Q D cl A cA G b sl xs fl h0 nL pc 1 st ss := by
  obtain ⟨cu, su, iv, lv, sk, ov⟩ := st
  unfold z_alen at h
  rcases sk with _ | ⟨a, r⟩
  · cases h
  dsimp only at h
  split at h
  next hk =>
    cases h
    intro ρ ad ws H locs ls hgm kk
    have h1 := hgm.2.2.2.2.2.2.1.1
    show W p l e R s m args below meth c H locs cu su Q (F0 m pc ls (zcv ad b ρ a :: r.map (zcv ad b ρ)))
    rw [z_cv4 hk]
    refine va_slen hx hb hX hbl hbA hgm.2.2.2.2.2.1 hd ?_
    have ev : z_val ρ (0, 1, 0) = (sl : Int) := by show ρ 1 + 0 = _; rw [h1]; omega
    refine z_fin (v := (0, 1, 0)) hgm (fun w hw => List.mem_cons_of_mem _ hw) (fun _ _ => rfl) (Nat.le_refl _) hgm.1.1 ⟨by have h8 : 9 < iv.length := hgm.2.2.2.2.2.2.2; show 1 < iv.length; omega, by rw [ev]; omega, by rw [ev]; omega⟩ ?_ kk
    show Value.int (Int32.ofInt (z_val ρ (0, 1, 0))) = _
    rw [ev, z_ofN]
  next =>
    split at h
    next hk =>
      split at h
      next g hg =>
        split at h
        next hc =>
          cases h
          obtain ⟨hc1, hc2, hc3⟩ := hc
          intro ρ ad ws H locs ls hgm kk
          have hxo : a.2.1 < ov.length := by
            have := hgm.1.2.2.1 a List.mem_cons_self
            unfold zok at this; rw [hk] at this; exact this
          obtain ⟨e0, hq, he⟩ := z_wd_at hgm.2.2.1 hxo hg
          obtain ⟨ty, hty⟩ : ∃ ty, tyl[g.1 - 1]? = some ty := ⟨_, List.getElem?_eq_getElem hc2⟩
          have hq2 := hT.2.2.2.2.2 (g.1 - 1) ty hty
          rw [show g.1 - 1 + 1 = g.1 by omega] at hq2
          obtain ⟨cx, hcx⟩ : ∃ cx, e0 = .inl (cA g.1, g.2.1, cx) := by
            match hgt : g.1, hc1 with
            | 1, _ => obtain ⟨f, h1, -⟩ := z_en1 hgt he; exact ⟨_, h1⟩
            | 2, _ => obtain ⟨f, h1, -⟩ := z_en2 hgt he; exact ⟨_, h1⟩
            | 3, _ => obtain ⟨f, h1, -⟩ := z_en3 hgt he; exact ⟨_, h1⟩
            | 4, _ => obtain ⟨f, h1, -⟩ := z_en4 hgt he; exact ⟨_, h1⟩
            | k + 5, _ => obtain ⟨f, h1, -⟩ := z_en5 hgt he; exact ⟨_, h1⟩
          subst hcx
          show W p l e R s m args below meth c H locs cu su Q (F0 m pc ls (zcv ad b ρ a :: r.map (zcv ad b ρ)))
          rw [z_cv2 hk]
          refine va_alen hx hb hK hgm.2.2.2.1 a.2.1 (g.1 - 1) hq hq2 rfl hd ?_
          exact z_fin hgm (fun w hw => List.mem_cons_of_mem _ hw) (fun _ _ => rfl) (Nat.le_refl _) hgm.1.1 (z_okc hgm.1.1 (by omega) hc3) (by rw [z_cvc hgm.1.1.1, z_ofN]) kk
        next => cases h
      next => cases h
    next => cases h
end ZST6
end
section
/-! ===== stores into arrays ===== -/
def z_sts (ov : zO) (p : Nat) (iv : zI) (x v : zV) : Int → Nat → Option (List (zI × zO))
  | _, 0 => some []
  | j, n + 1 => match z_sts ov p iv x v (j + 1) n with
    | none => none
    | some q => (match z_eq iv x (0, 0, j) with
      | none => some q
      | some i => (match z_sw ov p j.toNat v with
        | some o => some ((i, o) :: q)
        | none => none))
theorem z_sts_ok {ov : zO} {p : Nat} {iv : zI} {x v : zV} {ρ : Nat → Int} (hi : ziv iv ρ) : ∀ (n : Nat) (j : Int) (q : List (zI × zO)), z_sts ov p iv x v j n = some q → ∀ t : Nat, t < n → z_val ρ x = j + t → ∃ (iv' : zI) (o : zO), (iv', o) ∈ q ∧ z_sw ov p (z_val ρ x).toNat v = some o ∧ ziv iv' ρ ∧ iv'.length = iv.length
  | 0, _, _, _, t, ht, _ => absurd ht (Nat.not_lt_zero t)
  | n + 1, j, q, h, t, ht, hv => by
    unfold z_sts at h
    split at h
    next => cases h
    next q' hq' =>
      match t, ht, hv with
      | 0, _, hv =>
        have ej : z_val ρ x = j := by omega
        obtain ⟨iv', m1, m2, m3⟩ := z_eq_ok (x := x) (y := (0, 0, j)) hi (by rw [z_val0 hi]; exact ej)
        rw [m1] at h
        dsimp only at h
        split at h
        next o hv' => cases h; exact ⟨iv', o, List.mem_cons_self, by rw [ej]; exact hv', m2, m3⟩
        next => cases h
      | t + 1, ht, hv =>
        obtain ⟨iv', o, a1, a2⟩ := z_sts_ok hi n (j + 1) q' hq' t (by omega) (by omega)
        split at h
        next => cases h; exact ⟨iv', o, a1, a2⟩
        next =>
          split at h
          next => cases h; exact ⟨iv', o, List.mem_cons_of_mem _ a1, a2⟩
          next => cases h
/-- kv: the kind of what is stored; vl, vh: its bounds by the tag -/
def z_ast (tg : Nat → Bool) (kv : Nat) (vl vh : Nat → Int) (G : List zC) (st : zS) : zR := match st with
  | (cu, su, iv, lv, v :: x :: a :: r, ov) => if v.1 = kv ∧ x.1 = 0 ∧ a.1 = 2 then (match G[a.2.1]?, z_bd iv x, z_bd iv v with
    | some g, some q, some w => if tg g.1 = true ∧ 0 ≤ q.1 ∧ q.2 < (g.2.1 : Int) ∧ vl g.1 ≤ w.1 ∧ w.2 ≤ vh g.1 then (match g.2.2 with
      | [(k, lo, hi)] => (match z_un ov a.2.1 with
        | some [] => if k = kv ∧ lo ≤ w.1 ∧ w.2 ≤ hi then some [(none, (cu, su, iv, lv, r, ov))] else none
        | _ => none)
      | _ => (match z_sts ov a.2.1 iv x v q.1 (q.2 - q.1 + 1).toNat with
        | some es => some (es.map (fun o => (none, (cu, su, o.1, lv, r, o.2))))
        | none => none)) else none
    | _, _, _ => none) else none
  | _ => none
section ZST7
variable {p : Program} {l : Launch} {e : Env} {R : Room} {s : State} {m : MethodId} {args : Array Value} {below : List Frame} {meth : Method} {c : Code} {Q : State → Prop} {D : va_G} {cl : List vw_C} {A : Nat → Prop} {cA : Nat → ClassId} {G : List zC} {b sl : Nat} {xs : Nat → Int32} {fl : Bool} {h0 : Heap} {nL : Nat} {cc : ByteArray} {pc : Nat}
variable {Ts : List Jvm.Cond} {zN : List String} {FL : List (List (Nat × Nat × Nat))} {tys : List (ClassId × FieldType)} {tyl : List FieldType} {own : String} {cn : Nat}
theorem zs_ast {tg : Nat → Bool} {kv : Nat} {vl vh : Nat → Int} {st : zS} {ss : List (Option Nat × zS)} (h : z_ast tg kv vl vh G st = some ss) (hkv : kv ≤ 1)
    (hr : ∀ (g : zC) (F : Nat → Value → Prop) (a q0 : Nat) (e0 : va_E) (ws : va_W) (j : Int32) (V : Value) (z : Int) (H : Heap) (locs : List Loc) (cells slots : Nat) (ls : Array Slot) (rest : List Value), tg g.1 = true → z_en cA g F e0 → va_P D cl ws H → va_D A ws → va_S A h0 H locs → ws[q0]? = some (a, e0) → vp_in j g.2.1 → (kv = 0 → V = .int (Int32.ofInt z) ∧ -2147483648 ≤ z ∧ z ≤ 2147483647) → (kv = 1 → V = .long (Int64.ofInt z)) → vl g.1 ≤ z → z ≤ vh g.1 →
      (∀ (e1 : va_E) (H1 : Heap) (locs1 : List Loc), (∀ F' : Nat → Value → Prop, F' j.toNatClampNeg V → (∀ i v, i ≠ j.toNatClampNeg → F i v → F' i v) → z_en cA g F' e1) → va_P D cl (ws.set q0 (a, e1)) H1 → va_D A (ws.set q0 (a, e1)) → va_S A h0 H1 locs1 → W p l e R s m args below meth c H1 locs1 cells slots Q (F0 m (pc + 1) ls rest)) → W p l e R s m args below meth c H locs cells slots Q (F0 m pc ls (V :: .int j :: .ref a :: rest))) : zSt p l e R s m args below meth c Q D cl A cA G b sl xs fl h0 nL pc 1 st ss := by
  obtain ⟨cu, su, iv, lv, sk, ov⟩ := st
  unfold z_ast at h
  rcases sk with _ | ⟨v, _ | ⟨x, _ | ⟨a, r⟩⟩⟩
  · cases h
  · cases h
  · cases h
  dsimp only at h
  split at h
  next hk =>
    obtain ⟨hkv1, hkx, hka⟩ := hk
    split at h
    next g q w hg hq hw =>
      split at h
      next hc =>
        obtain ⟨hc1, hc2, hc3, hc4, hc5⟩ := hc
        intro ρ ad ws H locs ls hgm kk
        have hxo : a.2.1 < ov.length := by
          have := hgm.1.2.2.1 a (List.mem_cons_of_mem _ (List.mem_cons_of_mem _ List.mem_cons_self))
          unfold zok at this; rw [hka] at this; exact this
        have ox := z_ok0 (hgm.1.2.2.1 x (List.mem_cons_of_mem _ List.mem_cons_self)) hkx
        have ov0 := hgm.1.2.2.1 v List.mem_cons_self
        have hb1 := z_bd_ok hq hgm.1.1
        have hb2 := z_bd_ok hw hgm.1.1
        obtain ⟨hvi, hcl⟩ := z_vin (z := z_val ρ x) (n := g.2.1) (by omega) (by omega) ox.2.2
        obtain ⟨e0, hqw, he⟩ := z_wd_at hgm.2.2.1 hxo hg
        have hrr : ∀ w ∈ r, zok ov.length iv ρ w := fun w hw => hgm.1.2.2.1 w (List.mem_cons_of_mem _ (List.mem_cons_of_mem _ (List.mem_cons_of_mem _ hw)))
        show W p l e R s m args below meth c H locs cu su Q (F0 m pc ls (zcv ad b ρ v :: zcv ad b ρ x :: zcv ad b ρ a :: r.map (zcv ad b ρ)))
        rw [z_cv0 hkx, z_cv2 hka]
        refine hr g _ (ad a.2.1) a.2.1 e0 ws _ _ (z_val ρ v) H locs cu su ls _ hc1 he hgm.2.2.2.1 hgm.2.2.2.2.1 hgm.2.2.2.2.2.1 hqw hvi (fun e => ?_) (fun e => ?_) (by omega) (by omega) (fun e1 H1 locs1 hen hP1 hD1 hS1 => ?_)
        · rw [e] at hkv1
          exact ⟨z_cv0 hkv1 ad b ρ, (z_ok0 ov0 hkv1).2⟩
        · rw [e] at hkv1
          exact z_cv1 hkv1 ad b ρ
        rw [hcl] at hen
        split at h
        next k lo hi hsp =>
          split at h
          next ho =>
            split at h
            next hkk =>
              cases h
              obtain ⟨hk1, hk2, hk3⟩ := hkk
              refine kk _ (List.mem_singleton.mpr rfl) ρ ad _ H1 locs1 ls ⟨fun _ _ => rfl, fun _ _ => rfl, Nat.le_refl _, Nat.le_refl _⟩ (hgm.ov hgm.1.1 rfl rfl hgm.1.2.2.2 hrr ?_ hP1 hD1 hS1)
              refine z_wd_upd hgm.2.2.1 hqw hg rfl (fun _ _ _ => rfl) (hen _ ?_ (fun i v' _ hv' => hv'))
              have hnl := z_un_lk (i := (z_val ρ x).toNat) ho
              unfold z_wv
              dsimp only
              rw [hnl]
              dsimp only
              unfold z_sp
              rw [hsp]
              dsimp only
              rw [hk1]
              match kv, hkv, hkv1 with
              | 0, _, hkv1 =>
                have o0 := z_ok0 ov0 hkv1
                exact ⟨_, z_cv0 hkv1 ad b ρ, by rw [z_i32 o0.2.1 o0.2.2]; omega, by rw [z_i32 o0.2.1 o0.2.2]; omega⟩
              | 1, _, hkv1 =>
                have o0 := z_ok1 ov0 hkv1
                exact ⟨_, z_cv1 hkv1 ad b ρ, by rw [z_i64 o0.2.1 o0.2.2]; omega, by rw [z_i64 o0.2.1 o0.2.2]; omega⟩
            next => cases h
          next => cases h
        next =>
          split at h
          next es hes =>
            cases h
            obtain ⟨iv', o, m1, m2, m3, m4⟩ := z_sts_ok hgm.1.1 _ _ es hes (z_val ρ x - q.1).toNat (by omega) (by omega)
            obtain ⟨o1, o2, o3, o4⟩ := z_sw_ok m2
            refine kk _ (List.mem_map.mpr ⟨(iv', o), m1, rfl⟩) ρ ad _ H1 locs1 ls ⟨fun _ _ => rfl, fun _ _ => rfl, Nat.le_of_eq m4.symm, Nat.le_of_eq o1.symm⟩ (hgm.ov m3 m4 o1 (fun r' hr' w hw => ?_) hrr ?_ hP1 hD1 hS1)
            · rcases o4 r' hr' w hw with q9 | q2
              · subst q9; exact ov0
              · exact hgm.1.2.2.2 _ _ w q2
            · refine z_wd_upd hgm.2.2.1 hqw hg o1 (fun p' hp' i => o3 p' i (fun q => hp' q.1)) (hen _ ?_ (fun i v' hi' hv' => ?_))
              · unfold z_wv; rw [o2]
              · unfold z_wv at hv' ⊢
                rw [o3 a.2.1 i (fun q => hi' q.2)]
                exact hv'
          next => cases h
      next => cases h
    next => cases h
  next => cases h
theorem z_upd {F F' : Nat → Value → Prop} {f : Nat → Int32} {n k : Nat} {y : Int32} (hf : ∀ j, j < n → F j (.int (f j))) (h1 : F' k (.int y)) (h2 : ∀ i v, i ≠ k → F i v → F' i v) : ∀ j, j < n → F' j (.int (upd f k y j)) := by
  intro j hj
  by_cases ej : j = k
  · subst ej; rw [pk_us]; exact h1
  · rw [pk_un ej]; exact h2 j _ ej (hf j hj)
theorem z_updL {F F' : Nat → Value → Prop} {f : Nat → Int64} {n k : Nat} {y : Int64} (hf : ∀ j, j < n → F j (.long (f j))) (h1 : F' k (.long y)) (h2 : ∀ i v, i ≠ k → F i v → F' i v) : ∀ j, j < n → F' j (.long (vp_updL f k y j)) := by
  intro j hj
  by_cases ej : j = k
  · subst ej; rw [pk_uLs]; exact h1
  · rw [pk_uLn ej]; exact h2 j _ ej (hf j hj)
def z_vl (t : Nat) : Int := if t = 3 then -128 else if t = 4 then 0 else -2147483648
def z_vh (t : Nat) : Int := if t = 3 then 127 else if t = 4 then 1 else 2147483647
theorem zs_iast (hx : p.tables.exec = Jvm.exec) (hb : c.code = cc) (hK : va_K D cl tys s) (hT : zTyOk cA tyl tys) {st : zS} {ss : List (Option Nat × zS)} (hd : decode cc pc = .ok (.iastore, 1)) (h : z_ast z_t1 0 z_vl z_vh G st = some ss) : zSt p l e R s m args below meth c Q D cl A cA G b sl xs fl h0 nL pc 1 st ss := by
  refine zs_ast h (by omega) (fun g F a q0 e0 ws j V z H locs cells slots ls rest ht he hP hD hS hq hin hV _ _ _ k => ?_)
  have hg1 : g.1 = 1 := Nat.eq_of_beq_eq_true ht
  obtain ⟨f, rfl, hf⟩ := z_en1 hg1 he
  obtain ⟨rfl, -⟩ := hV rfl
  refine va_iast hx hb hK hP hD hS q0 0 hq (hT.2.2.2.2.2 0 _ hT.1) hin hd (fun H1 locs1 hP1 hD1 hS1 => k _ H1 locs1 (fun F' h1 h2 => ?_) hP1 hD1 hS1)
  unfold z_en; rw [hg1]
  exact ⟨_, rfl, z_upd hf h1 h2⟩
theorem z_narb {z : Int} (h1 : -128 ≤ z) (h2 : z ≤ 127) : vp_nar .byte (Int32.ofInt z) = Int32.ofInt z := by
  rw [vp_nar_byte]
  apply Int32.toInt_inj.mp
  rw [Int8.toInt_toInt32, Int32.toInt_toInt8, z_i32 (by omega) (by omega)]
  show z.bmod 256 = z
  rw [Int.bmod_def]
  split <;> omega
theorem z_narz {z : Int} (h1 : 0 ≤ z) (h2 : z ≤ 1) : vp_nar .boolean (Int32.ofInt z) = Int32.ofInt z := by
  rcases (show z = 0 ∨ z = 1 by omega) with rfl | rfl
  · decide
  · decide
theorem zs_bast (hx : p.tables.exec = Jvm.exec) (hb : c.code = cc) (hK : va_K D cl tys s) (hT : zTyOk cA tyl tys) {st : zS} {ss : List (Option Nat × zS)} (hd : decode cc pc = .ok (.bastore, 1)) (h : z_ast z_t34 0 z_vl z_vh G st = some ss) : zSt p l e R s m args below meth c Q D cl A cA G b sl xs fl h0 nL pc 1 st ss := by
  refine zs_ast h (by omega) (fun g F a q0 e0 ws j V z H locs cells slots ls rest ht he hP hD hS hq hin hV _ hl hh k => ?_)
  obtain ⟨rfl, -⟩ := hV rfl
  unfold z_t34 at ht
  rcases Bool.or_eq_true _ _ ▸ ht with t | t
  · have hg1 : g.1 = 3 := Nat.eq_of_beq_eq_true t
    obtain ⟨f, rfl, hf⟩ := z_en3 hg1 he
    rw [hg1] at hl hh
    refine va_bast hx hb hK hP hD hS q0 2 hq (hT.2.2.2.2.2 2 _ hT.2.2.1) hin hd (fun H1 locs1 hP1 hD1 hS1 => k _ H1 locs1 (fun F' h1 h2 => ?_) hP1 hD1 hS1)
    unfold z_en; rw [hg1]
    rw [z_narb hl hh]
    exact ⟨_, rfl, z_upd hf h1 h2⟩
  · have hg1 : g.1 = 4 := Nat.eq_of_beq_eq_true t
    obtain ⟨f, rfl, hf⟩ := z_en4 hg1 he
    rw [hg1] at hl hh
    refine va_zast hx hb hK hP hD hS q0 3 hq (hT.2.2.2.2.2 3 _ hT.2.2.2.1) hin hd (fun H1 locs1 hP1 hD1 hS1 => k _ H1 locs1 (fun F' h1 h2 => ?_) hP1 hD1 hS1)
    unfold z_en; rw [hg1]
    rw [z_narz hl hh]
    exact ⟨_, rfl, z_upd hf h1 h2⟩
def z_vlL (_ : Nat) : Int := -9223372036854775808
def z_vhL (_ : Nat) : Int := 9223372036854775807
theorem zs_last (hx : p.tables.exec = Jvm.exec) (hb : c.code = cc) (hK : va_K D cl tys s) (hT : zTyOk cA tyl tys) {st : zS} {ss : List (Option Nat × zS)} (hd : decode cc pc = .ok (.lastore, 1)) (h : z_ast z_t2 1 z_vlL z_vhL G st = some ss) : zSt p l e R s m args below meth c Q D cl A cA G b sl xs fl h0 nL pc 1 st ss := by
  refine zs_ast h (by omega) (fun g F a q0 e0 ws j V z H locs cells slots ls rest ht he hP hD hS hq hin _ hV _ _ k => ?_)
  have hg1 : g.1 = 2 := Nat.eq_of_beq_eq_true ht
  obtain ⟨f, rfl, hf⟩ := z_en2 hg1 he
  have hV := hV rfl
  subst hV
  refine va_last hx hb hK hP hD hS q0 1 hq (hT.2.2.2.2.2 1 _ hT.2.1) hin hd (fun H1 locs1 hP1 hD1 hS1 => k _ H1 locs1 (fun F' h1 h2 => ?_) hP1 hD1 hS1)
  unfold z_en; rw [hg1]
  exact ⟨_, rfl, z_updL hf h1 h2⟩
/-! references, at a known place -/
def z_aast (G : List zC) (tc : List (Nat × Nat × Nat)) (st : zS) : zR := match st with
  | (cu, su, iv, lv, v :: x :: a :: r, ov) => if v.1 = 2 ∧ x.1 = 0 ∧ x.2.1 = 0 ∧ a.1 = 2 then (match G[a.2.1]?, G[v.2.1]? with
    | some g, some gv => if 5 ≤ g.1 ∧ 0 ≤ x.2.2 ∧ x.2.2 < (g.2.1 : Int) ∧ gv.1 = 0 ∧ z_as tc g.1 = some (gv.2.1, 0) then (match z_sw ov a.2.1 x.2.2.toNat v with
      | some ov' => some [(none, (cu, su, iv, lv, r, ov'))]
      | none => none) else none
    | _, _ => none) else none
  | _ => none
/-- tc: the number of an array's tag, of its elements' own kind -/
def zTcOk (cl : List vw_C) (tyl : List FieldType) (tc : List (Nat × Nat × Nat)) : Prop := ∀ (t ci z : Nat), z_as tc t = some (ci, z) → 5 ≤ t → ∃ r : vw_C, cl[ci]? = some r ∧ tyl[t - 1]? = some (.object r.1)
theorem zs_aast (hx : p.tables.exec = Jvm.exec) (hb : c.code = cc) (hK : va_K D cl tys s) (hT : zTyOk cA tyl tys) {tc : List (Nat × Nat × Nat)} (hTc : zTcOk cl tyl tc) {st : zS} {ss : List (Option Nat × zS)} (hd : decode cc pc = .ok (.aastore, 1)) (h : z_aast G tc st = some ss) : zSt p l e R s m args below meth c Q D cl A cA G b sl xs fl h0 nL pc 1 st ss := by
  obtain ⟨cu, su, iv, lv, sk, ov⟩ := st
  unfold z_aast at h
  rcases sk with _ | ⟨v, _ | ⟨x, _ | ⟨a, r⟩⟩⟩
  · cases h
  · cases h
  · cases h
  dsimp only at h
  split at h
  next hk =>
    obtain ⟨hkv, hkx, hkx0, hka⟩ := hk
    split at h
    next g gv hg hgv =>
      split at h
      next hc =>
        obtain ⟨hc1, hc2, hc3, hc4, hc5⟩ := hc
        split at h
        next ov' hov =>
          cases h
          intro ρ ad ws H locs ls hgm kk
          have hao : a.2.1 < ov.length := by
            have := hgm.1.2.2.1 a (List.mem_cons_of_mem _ (List.mem_cons_of_mem _ List.mem_cons_self))
            unfold zok at this; rw [hka] at this; exact this
          have hvo : v.2.1 < ov.length := by
            have := hgm.1.2.2.1 v List.mem_cons_self
            unfold zok at this; rw [hkv] at this; exact this
          have ox := z_ok0 (hgm.1.2.2.1 x (List.mem_cons_of_mem _ List.mem_cons_self)) hkx
          have ex : z_val ρ x = x.2.2 := by unfold z_val; rw [hkx0, hgm.1.1.1]; omega
          obtain ⟨hvi, hcl⟩ := z_vin (z := z_val ρ x) (n := g.2.1) (by omega) (by omega) ox.2.2
          obtain ⟨e0, hqw, he⟩ := z_wd_at hgm.2.2.1 hao hg
          obtain ⟨ev, hqv, hev⟩ := z_wd_at hgm.2.2.1 hvo hgv
          obtain ⟨kk5, hkk5⟩ : ∃ kk, g.1 = kk + 5 := ⟨g.1 - 5, by omega⟩
          obtain ⟨f, rfl, hf⟩ := z_en5 hkk5 he
          unfold z_en at hev
          rw [hc4] at hev
          obtain ⟨fs, rfl, -⟩ := hev
          obtain ⟨rc, hrc, hty⟩ := hTc g.1 gv.2.1 0 hc5 hc1
          have hq2 := hT.2.2.2.2.2 (g.1 - 1) _ hty
          rw [show g.1 - 1 + 1 = kk5 + 5 by omega] at hq2
          obtain ⟨o1, o2, o3, o4⟩ := z_sw_ok hov
          show W p l e R s m args below meth c H locs cu su Q (F0 m pc ls (zcv ad b ρ v :: zcv ad b ρ x :: zcv ad b ρ a :: r.map (zcv ad b ρ)))
          rw [z_cv0 hkx, z_cv2 hka, z_cv2 hkv]
          refine va_astq hx hb hK hgm.2.2.2.1 hgm.2.2.2.2.1 hgm.2.2.2.2.2.1 a.2.1 (g.1 - 1) v.2.1 gv.2.1 hqw hq2 hqv hrc hvi hd (fun H1 locs1 hP1 hD1 hS1 => ?_)
          refine kk _ (List.mem_singleton.mpr rfl) ρ ad _ H1 locs1 ls ⟨fun _ _ => rfl, fun _ _ => rfl, Nat.le_refl _, Nat.le_of_eq o1.symm⟩ (hgm.ov hgm.1.1 rfl o1 (fun r' hr' w hw => ?_) (fun w hw => hgm.1.2.2.1 w (List.mem_cons_of_mem _ (List.mem_cons_of_mem _ (List.mem_cons_of_mem _ hw)))) ?_ hP1 hD1 hS1)
          · rcases o4 r' hr' w hw with q | q2
            · subst q; exact hgm.1.2.2.1 _ List.mem_cons_self
            · exact hgm.1.2.2.2 _ _ w q2
          · refine z_wd_upd hgm.2.2.1 hqw hg o1 (fun p' hp' i => o3 p' i (fun q => hp' q.1)) ?_
            unfold z_en
            rw [hkk5]
            refine ⟨_, rfl, fun j hj => ?_⟩
            unfold z_wv
            rw [hcl, ex]
            by_cases ej : j = x.2.2.toNat
            · subst ej
              rw [o2]
              show va_rf (va_up f _ _ _) = _
              rw [show va_up f x.2.2.toNat (some (ad v.2.1)) x.2.2.toNat = some (ad v.2.1) from if_pos rfl]
              exact (z_cv2 hkv ad b ρ).symm
            · rw [o3 a.2.1 j (fun q => ej q.2)]
              rw [show va_up f x.2.2.toNat (some (ad v.2.1)) j = f j from if_neg ej]
              exact hf j hj
        next => cases h
      next => cases h
    next => cases h
  next => cases h
end ZST7
end
section
/-! ===== new cells ===== -/
theorem z_lk_l {ov : zO} {rows : zRw} {p i : Nat} (h : p < ov.length) : z_lk (z_ap ov rows) p i = z_lk ov p i := by
  have hb : Nat.blt p (Prod.fst ov) = true := Nat.ble_eq_true_of_le h
  have hb2 : Nat.blt p (Prod.fst (z_ap ov rows)) = true := Nat.ble_eq_true_of_le (Nat.lt_of_lt_of_le h (Nat.le_add_right _ _))
  have e1 : z_nof (z_ap ov rows) p = z_nof ov p := by
    show (bif Nat.blt p (Prod.fst ov) then z_nof ov p else _) = _
    rw [hb]; rfl
  have e2 : z_at2 (z_ap ov rows) p i = z_at2 ov p i := by
    show (bif Nat.blt p (Prod.fst ov) then z_at2 ov p i else _) = _
    rw [hb]; rfl
  unfold z_lk
  rw [e1, e2, hb, hb2]
theorem z_lk_r {ov : zO} {rows : zRw} {k i : Nat} : z_lk (z_ap ov rows) (ov.length + k) i = z_lkr rows k i := by
  have hb : Nat.blt (ov.length + k) (Prod.fst ov) = false := Bool.eq_false_iff.mpr (fun h => by
    have := Nat.le_of_ble_eq_true h
    have e : Prod.fst ov = ov.length := rfl
    omega)
  have ek : ov.length + k - Prod.fst ov = k := by
    have e : Prod.fst ov = ov.length := rfl
    omega
  have e1 : z_nof (z_ap ov rows) (ov.length + k) = (match rows[k]? with
    | some [] => true
    | some _ => false
    | none => true) := by
    show (bif Nat.blt (ov.length + k) (Prod.fst ov) then z_nof ov (ov.length + k) else (match rows[ov.length + k - Prod.fst ov]? with
      | some [] => true
      | some _ => false
      | none => true)) = _
    rw [hb, ek]; rfl
  have e2 : z_at2 (z_ap ov rows) (ov.length + k) i = z_lkr rows k i := by
    show (bif Nat.blt (ov.length + k) (Prod.fst ov) then z_at2 ov (ov.length + k) i else z_lkr rows (ov.length + k - Prod.fst ov) i) = _
    rw [hb, ek]; rfl
  unfold z_lk
  rw [e1, e2]
  unfold z_lkr
  cases hr : rows[k]? with
  | none => rfl
  | some r =>
    have hlt : k < rows.length := (List.getElem?_eq_some_iff.mp hr).1
    have hb2 : Nat.blt (ov.length + k) (Prod.fst (z_ap ov rows)) = true := Nat.ble_eq_true_of_le (by
      show ov.length + k + 1 ≤ ov.length + rows.length
      omega)
    rw [hb2]
    cases r with
    | nil => rfl
    | cons a t => rfl
theorem z_lkr_mem {rows : zRw} {p i : Nat} {v : zV} (h : z_lkr rows p i = some v) : ∃ r ∈ rows, some v ∈ r := by
  unfold z_lkr at h
  split at h
  next r hr =>
    split at h
    next w hw =>
      subst h
      exact ⟨r, List.mem_of_getElem? hr, List.mem_of_getElem? hw⟩
    next => cases h
  next => cases h
theorem z_wd_app {G : List zC} {cA : Nat → ClassId} {ov : zO} {rows : zRw} {ad ad' : Nat → Nat} {b : Nat} {ρ : Nat → Int} {ws news : va_W} {iv : zI} (hw : z_wd G cA ov ad b ρ ws) (hk : ∀ (p9 i9 : Nat) (v : zV), z_lk ov p9 i9 = some v → zok ov.length iv ρ v) (ha : ∀ q, q < ov.length → ad' q = ad q) (hl : news.length = rows.length)
    (hn : ∀ (i : Nat) (q : Nat × va_E), news[i]? = some q → q.1 = ad' (ov.length + i) ∧ ∃ g, G[ov.length + i]? = some g ∧ z_en cA g (z_wv g (z_ap ov rows) ad' b ρ (ov.length + i)) q.2) : z_wd G cA (z_ap ov rows) ad' b ρ (ws ++ news) := by
  have hw' := z_wd_ext (ρ' := ρ) hw hk (fun _ _ => rfl) ha
  refine ⟨by rw [List.length_append, z_ap_length, hw.1, hl], fun p q hq => ?_⟩
  by_cases hp : p < ws.length
  · rw [List.getElem?_append_left hp] at hq
    obtain ⟨h1, g, hg, he⟩ := hw'.2 p q hq
    refine ⟨h1, g, hg, z_en_mono (fun i v hv => ?_) he⟩
    unfold z_wv at hv ⊢
    rw [z_lk_l (by rw [← hw.1]; exact hp)]
    exact hv
  · rw [List.getElem?_append_right (by omega)] at hq
    have := hn _ q hq
    rw [show ov.length + (p - ws.length) = p by rw [← hw.1]; omega] at this
    exact this
section ZST8
variable {p : Program} {l : Launch} {e : Env} {R : Room} {s : State} {m : MethodId} {args : Array Value} {below : List Frame} {meth : Method} {c : Code} {Q : State → Prop} {D : va_G} {cl : List vw_C} {A : Nat → Prop} {cA : Nat → ClassId} {G : List zC} {b sl : Nat} {xs : Nat → Int32} {fl : Bool} {h0 : Heap} {nL : Nat} {cc : ByteArray} {pc : Nat}
variable {Ts : List Jvm.Cond} {zN : List String} {FL : List (List (Nat × Nat × Nat))} {tys : List (ClassId × FieldType)} {tyl : List FieldType} {own : String} {cn : Nat}
theorem z_gm.app {iv : zI} {lv : zL} {sk sk' : List zV} {ov : zO} {rows : zRw} {ρ : Nat → Int} {ad ad' : Nat → Nat} {ws news : va_W} {H H' : Heap} {locs locs' : List Loc} {ls : Array Slot} (h : z_gm D cl A cA G b sl xs fl h0 nL iv lv sk ov ρ ad ws H locs ls) (ha : ∀ q, q < ov.length → ad' q = ad q) (hl : news.length = rows.length)
    (hn : ∀ (i : Nat) (q : Nat × va_E), news[i]? = some q → q.1 = ad' (ov.length + i) ∧ ∃ g, G[ov.length + i]? = some g ∧ z_en cA g (z_wv g (z_ap ov rows) ad' b ρ (ov.length + i)) q.2) (hrows : ∀ r ∈ rows, ∀ v, some v ∈ r → zok (z_ap ov rows).length iv ρ v) (hs : ∀ w ∈ sk', zok (z_ap ov rows).length iv ρ w) (hP : va_P D cl (ws ++ news) H') (hD : va_D A (ws ++ news)) (hS : va_S A h0 H' locs') :
    z_gm D cl A cA G b sl xs fl h0 nL iv lv sk' (z_ap ov rows) ρ ad' (ws ++ news) H' locs' ls := by
  have hle : ov.length ≤ (z_ap ov rows).length := by rw [z_ap_length]; omega
  have up : ∀ v, zok ov.length iv ρ v → zok (z_ap ov rows).length iv ρ v := fun v hv => zok_ext hv (fun _ _ => rfl) (Nat.le_refl _) hle
  refine ⟨⟨h.1.1, fun q hq => up _ (h.1.2.1 q hq), hs, fun r hr v hv => ?_⟩, ?_, z_wd_app h.2.2.1 h.1.2.2.2 ha hl hn, hP, hD, hS, h.2.2.2.2.2.2⟩
  · by_cases hp : r < ov.length
    · rw [z_lk_l hp] at hv
      exact up _ (h.1.2.2.2 r hr v hv)
    · rw [show r = ov.length + (r - ov.length) by omega, z_lk_r] at hv
      obtain ⟨r9, q1, q2⟩ := z_lkr_mem hv
      exact hrows r9 q1 v q2
  · have e : (lv.map fun q => (q.1, zcv ad' b ρ q.2)) = (lv.map fun q => (q.1, zcv ad b ρ q.2)) := List.map_congr_left (fun q hq => by rw [zcv_ext (h.1.2.1 q hq) (fun _ _ => rfl) ha])
    rw [e]; exact h.2.1
/-- default values -/
def z_dv (k : Nat) : zV := match k with
  | 0 => (0, 0, 0)
  | 1 => (1, 0, 0)
  | _ => (3, 0, 0)
theorem z_dvo {n : Nat} {iv : zI} {ρ : Nat → Int} (hi : ziv iv ρ) (k : Nat) : zok n iv ρ (z_dv k) := by
  match k with
  | 0 => exact z_okc hi (by omega) (by omega)
  | 1 => exact z_okl hi (by omega) (by omega)
  | _ + 2 => exact True.intro
theorem z_dvv {ad : Nat → Nat} {ρ : Nat → Int} {k : Nat} {ty : FieldType} (h0 : ρ 0 = 0) (hk : z_tyk ty = k) (hk2 : k ≤ 2) : zcv ad b ρ (z_dv k) = defaultValue ty := by
  unfold z_tyk at hk
  split at hk
  · subst hk; show zcv ad b ρ (0, 0, 0) = _; rw [z_cvc h0]; rfl
  · subst hk; show zcv ad b ρ (1, 0, 0) = _; rw [z_cvl h0]; rfl
  · subst hk; rfl
  · subst hk; rfl
  · omega
/-- NW: (place in the pool, number, slots) of what is made -/
def zNWOk (cl : List vw_C) (zN : List String) (NW : List (List (Nat × Nat × Nat))) (Ts : List Jvm.Cond) : Prop := ∀ (cn idx ci n : Nat) (own : String), z_fl NW cn idx = some (ci, n) → zN[cn]? = some own → ∃ (C : String) (T : u_T), cl[ci]? = some (C, T, n) ∧ Jvm.Cond.classLink own idx C ∈ Ts ∧ Jvm.Cond.instantiable C n ∈ Ts ∧ Jvm.Cond.initialized C ∈ Ts
def z_new (G : List zC) (NW : List (List (Nat × Nat × Nat))) (cn CC SS idx : Nat) (st : zS) : zR := match st with
  | (cu, su, iv, lv, sk, ov) => match z_fl NW cn idx, G[ov.length]? with
    | some (ci, n), some g => if g.1 = 0 ∧ g.2.1 = ci ∧ cu + 1 ≤ CC ∧ su + n ≤ SS ∧ g.2.2.all (fun sp => Nat.ble sp.1 2) = true then some [(none, (cu + 1, su + n, iv, lv, (2, ov.length, 0) :: sk, z_ap ov [g.2.2.map (fun sp => some (z_dv sp.1))]))] else none
    | _, _ => none
theorem z_up_lt {ad : Nat → Nat} {n q : Nat} : ∀ k, k < n → va_up ad n q k = ad k := fun k hk => if_neg (Nat.ne_of_lt hk)
theorem zs_new {CC SS : Nat} (hx : p.tables.exec = Jvm.exec) (hb : c.code = cc) (hts : ∀ w ∈ Ts, w.before args s = true) (hK : va_K D cl tys s) (hown : s.vm.findClass own = some m.cls) (hN : zN[cn]? = some own) (hC : zClsOk cl zN Ts) (hG : zGOk cl G) {NW : List (List (Nat × Nat × Nat))} (hW : zNWOk cl zN NW Ts) (hA : ∀ q : Nat, h0.size ≤ q → A q) (hR1 : CC ≤ R.cells) (hR2 : SS ≤ R.slots) {idx : Nat} {st : zS} {ss : List (Option Nat × zS)} (hd : decode cc pc = .ok (.new idx, 3)) (h : z_new G NW cn CC SS idx st = some ss) : zSt p l e R s m args below meth c Q D cl A cA G b sl xs fl h0 nL pc 3 st ss := by
  obtain ⟨cu, su, iv, lv, sk, ov⟩ := st
  unfold z_new at h
  dsimp only at h
  split at h
  next ci n g hf hg =>
    split at h
    next hc =>
      cases h
      obtain ⟨hc1, hc2, hc3, hc4, hc5⟩ := hc
      obtain ⟨C, T, hcl, w1, w2, w3⟩ := hW cn idx ci n own hf hN
      obtain ⟨C2, T2, N2, hcl2, hl2, hty2⟩ := hG _ g hg hc1
      rw [hc2] at hcl2
      cases hcl.symm.trans hcl2
      obtain ⟨hNC, hin2, ⟨ty0, hty0⟩, hnm, hdecl⟩ := hC ci C T _ hcl
      intro ρ ad ws H locs ls hgm kk
      have hfs : ∀ j, j < g.2.2.length → defaultValue (ty0 j) = vp_V (g.2.2.map (fun sp => zcv ad b ρ (z_dv sp.1))) j := by
        intro j hj
        obtain ⟨sp, hsp⟩ : ∃ sp, g.2.2[j]? = some sp := ⟨_, List.getElem?_eq_getElem hj⟩
        obtain ⟨ty, hty, htk⟩ := hty2 j sp hsp
        have e1 : ty = ty0 j := Option.some.inj (hty.symm.trans (hty0 j (by omega)))
        have hk2 : sp.1 ≤ 2 := Nat.le_of_ble_eq_true (List.all_eq_true.mp hc5 sp (List.mem_of_getElem? hsp))
        unfold vp_V
        rw [List.getD_eq_getElem?_getD, List.getElem?_map, hsp]
        show defaultValue (ty0 j) = zcv ad b ρ (z_dv sp.1)
        rw [← e1]
        exact (z_dvv hgm.1.1.1 htk hk2).symm
      have hSS : su + g.2.2.length ≤ SS := by omega
      show W p l e R s m args below meth c H locs cu su Q (F0 m pc ls (sk.map (zcv ad b ρ)))
      refine va_new hx hb hts hin2 ty0 hty0 hown (hts _ w1) (hts _ w2) (hts _ w3) hK hgm.2.2.2.1 hgm.2.2.2.2.1 hgm.2.2.2.2.2.1 hA hcl (fs := g.2.2.map (fun sp => zcv ad b ρ (z_dv sp.1))) (fun j hj => hfs j (by omega)) (by omega) (by omega) hd (fun q H1 hP1 hD1 hS1 => ?_)
      have hq := kk _ (List.mem_singleton.mpr rfl) ρ (va_up ad ov.length q) _ H1 locs ls ⟨fun _ _ => rfl, z_up_lt, Nat.le_refl _, by show ov.length ≤ (z_ap ov _).length; rw [z_ap_length]; omega⟩ (hgm.app (sk' := (2, ov.length, 0) :: sk) z_up_lt (rows := [g.2.2.map (fun sp => some (z_dv sp.1))]) rfl (fun i q' hq' => ?_) (fun r hr v hv => ?_) (fun w hw => ?_) hP1 hD1 hS1)
      · have e : ((2, ov.length, 0) :: sk : List zV).map (zcv (va_up ad ov.length q) b ρ) = .ref q :: sk.map (zcv ad b ρ) := by
          rw [List.map_cons, z_skm hgm.1.2.2.1 (fun _ _ => rfl) z_up_lt]
          show Value.ref (va_up ad ov.length q ov.length) :: _ = _
          rw [show va_up ad ov.length q ov.length = q from if_pos rfl]
        rw [← e]
        exact hq
      · have hi : i < 1 := (List.getElem?_eq_some_iff.mp hq').1
        rw [show i = 0 by omega] at hq' ⊢
        cases hq'
        refine ⟨(if_pos rfl).symm, g, hg, ?_⟩
        unfold z_en
        rw [hc1]
        refine ⟨_, by rw [hc2], by rw [List.length_map], fun j v hv => ?_⟩
        rw [List.getElem?_map] at hv
        obtain ⟨sp, hsp, rfl⟩ := Option.map_eq_some_iff.mp hv
        unfold z_wv
        rw [z_lk_r]
        unfold z_lkr
        show match (match (g.2.2.map (fun sp => some (z_dv sp.1)))[j]? with | some v => v | none => none) with | some a => _ | none => _
        rw [List.getElem?_map, hsp]
        show zcv ad b ρ (z_dv sp.1) = zcv _ b ρ (z_dv sp.1)
        exact (zcv_ext (n := 0) (z_dvo hgm.1.1 sp.1) (fun _ _ => rfl) (fun q hq => absurd hq (Nat.not_lt_zero q))).symm
      · rw [List.mem_singleton] at hr
        subst hr
        obtain ⟨sp, -, hsp⟩ := List.mem_map.mp hv
        cases hsp
        exact z_dvo hgm.1.1 sp.1
      · rcases List.mem_cons.mp hw with q1 | q1
        · subst q1
          show ov.length < (z_ap ov _).length
          rw [z_ap_length]; exact Nat.lt_succ_self _
        · exact zok_ext (hgm.1.2.2.1 w q1) (fun _ _ => rfl) (Nat.le_refl _) (by rw [z_ap_length]; omega)
    next => cases h
  next => cases h
/-! arrays of numbers -/
def z_at (t : ArrayType) : Nat := match t with
  | .int => 1
  | .long => 2
  | .byte => 3
  | .boolean => 4
  | _ => 0
def z_tk (t : Nat) : Nat := if t = 2 then 1 else 0
/-- what is known of a new array: nothing but its bounds, or every place -/
def z_row (g : zC) (k : Nat) : Option (List (Option zV)) := match g.2.2 with
  | [(k', lo, hi)] => if k' = k ∧ lo ≤ 0 ∧ 0 ≤ hi then some [] else none
  | _ => some (List.replicate g.2.1 (some (z_dv k)))
def z_newa (G : List zC) (CC SS : Nat) (t : ArrayType) (st : zS) : zR := match st with
  | (cu, su, iv, lv, x :: r, ov) => match G[ov.length]? with
    | some g => if x.1 = 0 ∧ x.2.1 = 0 ∧ x.2.2 = (g.2.1 : Int) ∧ g.1 = z_at t ∧ 1 ≤ g.1 ∧ g.2.1 ≤ 100000 ∧ cu + 1 ≤ CC ∧ su + g.2.1 ≤ SS then (match z_row g (z_tk g.1) with
      | some row => some [(none, (cu + 1, su + g.2.1, iv, lv, (2, ov.length, 0) :: r, z_ap ov [row]))]
      | none => none) else none
    | none => none
  | _ => none
theorem z_rowo {g : zC} {k : Nat} {row : List (Option zV)} {n : Nat} {iv : zI} {ρ : Nat → Int} (hi : ziv iv ρ) (h : z_row g k = some row) : ∀ v, some v ∈ row → zok n iv ρ v := by
  unfold z_row at h
  split at h
  next =>
    split at h
    next => cases h; intro v hv; cases hv
    next => cases h
  next =>
    cases h
    intro v hv
    have := List.eq_of_mem_replicate hv
    cases this
    exact z_dvo hi k
theorem z_rowv {g : zC} {k : Nat} {row : List (Option zV)} {ov : zO} {rows : zRw} {ad : Nat → Nat} {iv : zI} {ρ : Nat → Int} {j i : Nat} {V : Value} (hi : ziv iv ρ) (h : z_row g k = some row) (hr : rows[i]? = some row) (hj : j < g.2.1) (hV : zcv ad b ρ (z_dv k) = V) (hk : (k = 0 ∧ V = .int 0) ∨ (k = 1 ∧ V = .long 0) ∨ (2 ≤ k ∧ g.2.2.length ≠ 1)) : z_wv g (z_ap ov rows) ad b ρ (ov.length + i) j V := by
  unfold z_wv
  rw [z_lk_r]
  unfold z_lkr
  rw [hr]
  dsimp only
  unfold z_row at h
  split at h
  next k' lo hi' hsp =>
    split at h
    next hc =>
      cases h
      show z_spv (z_sp g j) V
      unfold z_sp
      rw [hsp]
      dsimp only
      obtain ⟨hc1, hc2, hc3⟩ := hc
      subst hc1
      rcases hk with ⟨rfl, rfl⟩ | ⟨rfl, rfl⟩ | ⟨h2, h3⟩
      · exact ⟨0, rfl, hc2, hc3⟩
      · exact ⟨0, rfl, hc2, hc3⟩
      · rw [hsp] at h3; exact absurd rfl h3
    next => cases h
  next =>
    cases h
    rw [List.getElem?_replicate, if_pos hj]
    exact hV.symm
theorem z_tyl {t : ArrayType} (hT : zTyOk cA tyl tys) (h : 1 ≤ z_at t) : tyl[z_at t - 1]? = some (newarray.typeOf t) ∧ (∀ c : ClassId, va_RA s c (newarray.typeOf t) ↔ s.vm.findClass ("[" ++ (newarray.typeOf t).toString) = some c) := by
  cases t with
  | int => exact ⟨hT.1, fun _ => Iff.rfl⟩
  | long => exact ⟨hT.2.1, fun _ => Iff.rfl⟩
  | byte => exact ⟨hT.2.2.1, fun _ => Iff.rfl⟩
  | boolean => exact ⟨hT.2.2.2.1, fun _ => Iff.rfl⟩
  | _ => exact absurd h (by decide)
def zArOk (Ts : List Jvm.Cond) : Prop := ∀ t : ArrayType, 1 ≤ z_at t → Jvm.Cond.arrayClass (newarray.typeOf t) ∈ Ts
theorem zs_newa {CC SS : Nat} (hx : p.tables.exec = Jvm.exec) (hb : c.code = cc) (hts : ∀ w ∈ Ts, w.before args s = true) (hK : va_K D cl tys s) (hT : zTyOk cA tyl tys) (hAr : zArOk Ts) (hA : ∀ q : Nat, h0.size ≤ q → A q) (hR1 : CC ≤ R.cells) (hR2 : SS ≤ R.slots) {t : ArrayType} {st : zS} {ss : List (Option Nat × zS)} (hd : decode cc pc = .ok (.newarray t, 2)) (h : z_newa G CC SS t st = some ss) : zSt p l e R s m args below meth c Q D cl A cA G b sl xs fl h0 nL pc 2 st ss := by
  obtain ⟨cu, su, iv, lv, sk, ov⟩ := st
  unfold z_newa at h
  rcases sk with _ | ⟨x, r⟩
  · cases h
  dsimp only at h
  split at h
  next g hg =>
    split at h
    next hc =>
      obtain ⟨hc1, hc2, hc3, hc4, hc5, hc6, hc7, hc8⟩ := hc
      split at h
      next row hrow =>
        cases h
        intro ρ ad ws H locs ls hgm kk
        have ox := z_ok0 (hgm.1.2.2.1 x List.mem_cons_self) hc1
        have ex : z_val ρ x = (g.2.1 : Int) := by unfold z_val; rw [hc2, hgm.1.1.1, hc3]; omega
        obtain ⟨hty, hRA⟩ := z_tyl (s := s) (t := t) hT (by omega)
        have hmem := hT.2.2.2.2.2 _ _ hty
        rw [show z_at t - 1 + 1 = g.1 by omega] at hmem
        have hfc := (hRA _).mp ((hK.2 _ _ hmem).2)
        show W p l e R s m args below meth c H locs cu su Q (F0 m pc ls (zcv ad b ρ x :: r.map (zcv ad b ρ)))
        rw [z_cv0 hc1, ex]
        have hpos : ¬ Int32.ofInt (g.2.1 : Int) < 0 := by
          rw [Int32.lt_iff_toInt_lt, z_i32 (by omega) (by omega)]
          have : (0 : Int32).toInt = 0 := rfl
          omega
        have hclamp : (Int32.ofInt (g.2.1 : Int)).toNatClampNeg = g.2.1 := by
          show (Int32.ofInt (g.2.1 : Int)).toInt.toNat = _
          rw [z_i32 (by omega) (by omega)]; omega
        have hbytes : g.2.1 * componentBytes (newarray.typeOf t) ≤ 536870912 := by
          have h8 : componentBytes (newarray.typeOf t) ≤ 8 := by cases t <;> decide
          have := Nat.mul_le_mul hc6 h8
          omega
        -- the cell of a new array by its tag
        have main : ∀ (a0 : vp_A), (∀ c : ClassId, vp_cell c a0 = arrV c g.2.1 (fun _ => defaultValue (newarray.typeOf t))) → (∀ (F : Nat → Value → Prop), (∀ j, j < g.2.1 → F j (defaultValue (newarray.typeOf t))) → z_en cA g F (.inl (cA g.1, a0))) → W p l e R s m args below meth c H locs cu su Q (F0 m pc ls (.int (Int32.ofInt (g.2.1 : Int)) :: r.map (zcv ad b ρ))) := by
          intro a0 ha0 hen
          refine va_newa hx hb (hts _ (hAr t (by omega))) rfl hK hgm.2.2.2.1 hgm.2.2.2.2.1 hgm.2.2.2.2.2.1 hA (a0 := a0) ha0 hpos hclamp hbytes (by omega) (by omega) hd (fun q cA1 H1 hK1 hP1 hD1 hS1 => ?_)
          have hlast : (tys ++ [(cA1, newarray.typeOf t)])[tys.length]? = some (cA1, newarray.typeOf t) := by rw [List.getElem?_append_right (Nat.le_refl _), Nat.sub_self]; rfl
          have hfc1 := (hRA _).mp ((hK1.2 _ _ hlast).2)
          have ec : cA1 = cA g.1 := Option.some.inj (hfc1.symm.trans hfc)
          rw [ec] at hP1 hD1
          have hq := kk _ (List.mem_singleton.mpr rfl) ρ (va_up ad ov.length q) _ H1 locs ls ⟨fun _ _ => rfl, z_up_lt, Nat.le_refl _, by show ov.length ≤ (z_ap ov _).length; rw [z_ap_length]; omega⟩ (hgm.app (sk' := (2, ov.length, 0) :: r) z_up_lt (rows := [row]) rfl (fun i q' hq' => ?_) (fun r' hr v hv => ?_) (fun w hw => ?_) hP1 hD1 hS1)
          · have e : ((2, ov.length, 0) :: r : List zV).map (zcv (va_up ad ov.length q) b ρ) = .ref q :: r.map (zcv ad b ρ) := by
              rw [List.map_cons, z_skm (fun w hw => hgm.1.2.2.1 w (List.mem_cons_of_mem _ hw)) (fun _ _ => rfl) z_up_lt]
              show Value.ref (va_up ad ov.length q ov.length) :: _ = _
              rw [show va_up ad ov.length q ov.length = q from if_pos rfl]
            rw [← e]
            exact hq
          · have hi : i < 1 := (List.getElem?_eq_some_iff.mp hq').1
            rw [show i = 0 by omega] at hq' ⊢
            cases hq'
            refine ⟨(if_pos rfl).symm, g, hg, hen _ (fun j hj => ?_)⟩
            have ht : (z_tk g.1 = 0 ∧ defaultValue (newarray.typeOf t) = .int 0) ∨ (z_tk g.1 = 1 ∧ defaultValue (newarray.typeOf t) = .long 0) ∨ (2 ≤ z_tk g.1 ∧ g.2.2.length ≠ 1) := by
              rw [hc4] at hc5 ⊢
              cases t with
              | int => exact Or.inl ⟨rfl, rfl⟩
              | long => exact Or.inr (Or.inl ⟨rfl, rfl⟩)
              | byte => exact Or.inl ⟨rfl, rfl⟩
              | boolean => exact Or.inl ⟨rfl, rfl⟩
              | _ => exact absurd hc5 (by decide)
            refine z_rowv hgm.1.1 hrow rfl hj ?_ ht
            rcases ht with ⟨q1, q2⟩ | ⟨q1, q2⟩ | ⟨q1, -⟩
            · rw [q1, q2]; show zcv _ b ρ (0, 0, 0) = _; rw [z_cvc hgm.1.1.1]; rfl
            · rw [q1, q2]; show zcv _ b ρ (1, 0, 0) = _; rw [z_cvl hgm.1.1.1]; rfl
            · unfold z_tk at q1; split at q1 <;> omega
          · rw [List.mem_singleton] at hr
            subst hr
            exact z_rowo hgm.1.1 hrow v hv
          · rcases List.mem_cons.mp hw with q1 | q1
            · subst q1
              show ov.length < (z_ap ov _).length
              rw [z_ap_length]; exact Nat.lt_succ_self _
            · exact zok_ext (hgm.1.2.2.1 w (List.mem_cons_of_mem _ q1)) (fun _ _ => rfl) (Nat.le_refl _) (by rw [z_ap_length]; omega)
        cases t with
        | int => exact main (g.2.1, .inl (fun _ => 0)) (fun _ => rfl) (fun F hF => by unfold z_en; rw [hc4]; exact ⟨_, rfl, hF⟩)
        | long => exact main (g.2.1, .inr (.inl (fun _ => 0))) (fun _ => rfl) (fun F hF => by unfold z_en; rw [hc4]; exact ⟨_, rfl, hF⟩)
        | byte => exact main (g.2.1, .inl (fun _ => 0)) (fun _ => rfl) (fun F hF => by unfold z_en; rw [hc4]; exact ⟨_, rfl, hF⟩)
        | boolean => exact main (g.2.1, .inl (fun _ => 0)) (fun _ => rfl) (fun F hF => by unfold z_en; rw [hc4]; exact ⟨_, rfl, hF⟩)
        | _ => exact absurd hc5 (by rw [hc4]; decide)
      next => cases h
    next => cases h
  next => cases h
end ZST8
end
section
/-! ===== arrays of references, of arrays; counters; constants; copies ===== -/
/-- the classes of the arrays of references are there -/
def zOv (tyl : List FieldType) (s : State) : Prop := ∀ (k : Nat) (t : FieldType), 4 ≤ k → tyl[k]? = some t → (Jvm.Cond.arrayOver t).before #[] s = true
theorem zOv.moved {u U : State} {tyl : List FieldType} (h : u.vm.Alike U.vm) (q : zOv tyl u) : zOv tyl U := fun k t hk ht => by
  have e := Cond.arrayOver_setVmC (args := #[]) (s := u) h t
  rw [q k t hk ht] at e
  exact e
section ZST9
variable {p : Program} {l : Launch} {e : Env} {R : Room} {s : State} {m : MethodId} {args : Array Value} {below : List Frame} {meth : Method} {c : Code} {Q : State → Prop} {D : va_G} {cl : List vw_C} {A : Nat → Prop} {cA : Nat → ClassId} {G : List zC} {b sl : Nat} {xs : Nat → Int32} {fl : Bool} {h0 : Heap} {nL : Nat} {cc : ByteArray} {pc : Nat}
variable {Ts : List Jvm.Cond} {zN : List String} {FL : List (List (Nat × Nat × Nat))} {tys : List (ClassId × FieldType)} {tyl : List FieldType} {own : String} {cn : Nat}
def zANOk (zN : List String) (tyl : List FieldType) (AN : List (List (Nat × Nat × Nat))) (Ts : List Jvm.Cond) : Prop := ∀ (cn idx tag n : Nat) (own : String), z_fl AN cn idx = some (tag, n) → zN[cn]? = some own → 5 ≤ tag ∧ ∃ C : String, tyl[tag - 1]? = some (.object C) ∧ Jvm.Cond.classLink own idx C ∈ Ts
def z_anew (G : List zC) (AN : List (List (Nat × Nat × Nat))) (cn CC SS idx : Nat) (st : zS) : zR := match st with
  | (cu, su, iv, lv, x :: r, ov) => match z_fl AN cn idx, G[ov.length]? with
    | some (tag, _), some g => if x.1 = 0 ∧ x.2.1 = 0 ∧ x.2.2 = (g.2.1 : Int) ∧ g.1 = tag ∧ g.2.1 ≤ 100000 ∧ cu + 1 ≤ CC ∧ su + g.2.1 ≤ SS then some [(none, (cu + 1, su + g.2.1, iv, lv, (2, ov.length, 0) :: r, z_ap ov [List.replicate g.2.1 (some (3, 0, 0))]))] else none
    | _, _ => none
  | _ => none
theorem zs_anew {CC SS : Nat} (hx : p.tables.exec = Jvm.exec) (hb : c.code = cc) (hts : ∀ w ∈ Ts, w.before args s = true) (hK : va_K D cl tys s) (hown : s.vm.findClass own = some m.cls) (hN : zN[cn]? = some own) (hT : zTyOk cA tyl tys) {AN : List (List (Nat × Nat × Nat))} (hOv : zOv tyl s) (hAN : zANOk zN tyl AN Ts) (hA : ∀ q : Nat, h0.size ≤ q → A q) (hR1 : CC ≤ R.cells) (hR2 : SS ≤ R.slots) {idx : Nat} {st : zS} {ss : List (Option Nat × zS)} (hd : decode cc pc = .ok (.anewarray idx, 3)) (h : z_anew G AN cn CC SS idx st = some ss) : zSt p l e R s m args below meth c Q D cl A cA G b sl xs fl h0 nL pc 3 st ss := by
  obtain ⟨cu, su, iv, lv, sk, ov⟩ := st
  unfold z_anew at h
  rcases sk with _ | ⟨x, r⟩
  · cases h
  dsimp only at h
  split at h
  next tag n9 g hf hg =>
    split at h
    next hc =>
      cases h
      obtain ⟨hc1, hc2, hc3, hc4, hc5, hc6, hc7⟩ := hc
      obtain ⟨ht5, C, hty, w1⟩ := hAN cn idx tag n9 own hf hN
      intro ρ ad ws H locs ls hgm kk
      have ex : z_val ρ x = (g.2.1 : Int) := by unfold z_val; rw [hc2, hgm.1.1.1, hc3]; omega
      have hmem := hT.2.2.2.2.2 _ _ hty
      obtain ⟨k5, hk5⟩ : ∃ k, g.1 = k + 5 := ⟨g.1 - 5, by omega⟩
      rw [show tag - 1 + 1 = k5 + 5 by omega] at hmem
      obtain ⟨kA, comp, -, -, -, hfc⟩ := (hK.2 _ _ hmem).2
      show W p l e R s m args below meth c H locs cu su Q (F0 m pc ls (zcv ad b ρ x :: r.map (zcv ad b ρ)))
      rw [z_cv0 hc1, ex]
      have hpos : ¬ Int32.ofInt (g.2.1 : Int) < 0 := by
        rw [Int32.lt_iff_toInt_lt, z_i32 (by omega) (by omega)]
        have : (0 : Int32).toInt = 0 := rfl
        omega
      have hclamp : (Int32.ofInt (g.2.1 : Int)).toNatClampNeg = g.2.1 := by
        show (Int32.ofInt (g.2.1 : Int)).toInt.toNat = _
        rw [z_i32 (by omega) (by omega)]; omega
      refine va_newq hx hb hown (hts _ w1) (show (Jvm.Cond.arrayOver (.object C)).before #[] s = true from hOv _ _ (by omega) hty) hK hgm.2.2.2.1 hgm.2.2.2.2.1 hgm.2.2.2.2.2.1 hA hpos hclamp (by omega) (by omega) (by omega) hd (fun q cA1 H1 hK1 hP1 hD1 hS1 => ?_)
      have hlast : (tys ++ [(cA1, FieldType.object C)])[tys.length]? = some (cA1, FieldType.object C) := by rw [List.getElem?_append_right (Nat.le_refl _), Nat.sub_self]; rfl
      obtain ⟨kA1, comp1, -, -, -, hfc1⟩ := (hK1.2 _ _ hlast).2
      have ec : cA1 = cA (k5 + 5) := Option.some.inj (hfc1.symm.trans hfc)
      rw [ec] at hP1 hD1
      have hq := kk _ (List.mem_singleton.mpr rfl) ρ (va_up ad ov.length q) _ H1 locs ls ⟨fun _ _ => rfl, z_up_lt, Nat.le_refl _, by show ov.length ≤ (z_ap ov _).length; rw [z_ap_length]; omega⟩ (hgm.app (sk' := (2, ov.length, 0) :: r) z_up_lt (rows := [List.replicate g.2.1 (some (3, 0, 0))]) rfl (fun i q' hq' => ?_) (fun r' hr v hv => ?_) (fun w hw => ?_) hP1 hD1 hS1)
      · have e : ((2, ov.length, 0) :: r : List zV).map (zcv (va_up ad ov.length q) b ρ) = .ref q :: r.map (zcv ad b ρ) := by
          rw [List.map_cons, z_skm (fun w hw => hgm.1.2.2.1 w (List.mem_cons_of_mem _ hw)) (fun _ _ => rfl) z_up_lt]
          show Value.ref (va_up ad ov.length q ov.length) :: _ = _
          rw [show va_up ad ov.length q ov.length = q from if_pos rfl]
        rw [← e]
        exact hq
      · have hi : i < 1 := (List.getElem?_eq_some_iff.mp hq').1
        rw [show i = 0 by omega] at hq' ⊢
        cases hq'
        refine ⟨(if_pos rfl).symm, g, hg, ?_⟩
        unfold z_en
        rw [hk5]
        refine ⟨_, rfl, fun j hj => ?_⟩
        unfold z_wv
        rw [z_lk_r]
        unfold z_lkr
        show match (match (List.replicate g.2.1 (some ((3, 0, 0) : zV)))[j]? with | some v => v | none => none) with | some a => _ | none => _
        rw [List.getElem?_replicate, if_pos hj]
        rfl
      · rw [List.mem_singleton] at hr
        subst hr
        have := List.eq_of_mem_replicate hv
        cases this
        exact True.intro
      · rcases List.mem_cons.mp hw with q1 | q1
        · subst q1
          show ov.length < (z_ap ov _).length
          rw [z_ap_length]; exact Nat.lt_succ_self _
        · exact zok_ext (hgm.1.2.2.1 w (List.mem_cons_of_mem _ q1)) (fun _ _ => rfl) (Nat.le_refl _) (by rw [z_ap_length]; omega)
    next => cases h
  next => cases h
/-! new T[n][k] -/
def zMNOk (zN : List String) (tyl : List FieldType) (MN : List (List (Nat × Nat × Nat))) (Ts : List Jvm.Cond) : Prop := ∀ (cn idx tO tI : Nat) (own : String), z_fl MN cn idx = some (tO, tI) → zN[cn]? = some own → 5 ≤ tO ∧ ((tI = 1 ∧ tyl[tO - 1]? = some (.array .int) ∧ Jvm.Cond.classLink own idx ("[" ++ (FieldType.array .int).toString) ∈ Ts ∧ Jvm.Cond.arrayClass .int ∈ Ts) ∨ (tI = 2 ∧ tyl[tO - 1]? = some (.array .long) ∧ Jvm.Cond.classLink own idx ("[" ++ (FieldType.array .long).toString) ∈ Ts ∧ Jvm.Cond.arrayClass .long ∈ Ts))
def z_inn (G : List zC) (k t K : Nat) : Nat → Bool
  | 0 => true
  | i + 1 => (match G[k + i]? with
    | some g => Nat.beq g.1 t && Nat.beq g.2.1 K && (match g.2.2 with
      | [(k', lo, hi)] => Nat.beq k' (z_tk t) && decide (lo ≤ 0) && decide (0 ≤ hi)
      | _ => false)
    | none => false) && z_inn G k t K i
theorem z_inn_ok {G : List zC} {k t K : Nat} : ∀ (n : Nat), z_inn G k t K n = true → ∀ i, i < n → ∃ lo hi, G[k + i]? = some (t, K, [(z_tk t, lo, hi)]) ∧ lo ≤ 0 ∧ 0 ≤ hi
  | 0, _, i, hi => absurd hi (Nat.not_lt_zero i)
  | n + 1, h, i, hi => by
    unfold z_inn at h
    rw [Bool.and_eq_true] at h
    by_cases e : i = n
    · subst e
      have h1 := h.1
      split at h1
      next g hg =>
        rw [Bool.and_eq_true, Bool.and_eq_true] at h1
        obtain ⟨⟨a1, a2⟩, a3⟩ := h1
        split at a3
        next k' lo hi' hsp =>
          rw [Bool.and_eq_true, Bool.and_eq_true] at a3
          obtain ⟨⟨b1, b2⟩, b3⟩ := a3
          have e1 : g.1 = t := Nat.eq_of_beq_eq_true a1
          have e2 : g.2.1 = K := Nat.eq_of_beq_eq_true a2
          have e3 : k' = z_tk t := Nat.eq_of_beq_eq_true b1
          refine ⟨lo, hi', ?_, of_decide_eq_true b2, of_decide_eq_true b3⟩
          rw [hg]
          obtain ⟨g1, g2, g3⟩ := g
          dsimp only at e1 e2 hsp
          subst e1; subst e2; subst e3; subst hsp
          rfl
        next => cases a3
      next => cases h1
    · exact z_inn_ok n h.2 i (by omega)
def z_mna (G : List zC) (MN : List (List (Nat × Nat × Nat))) (cn CC SS idx : Nat) (st : zS) : zR := match st with
  | (cu, su, iv, lv, y :: x :: r, ov) => match z_fl MN cn idx, G[ov.length]? with
    | some (tO, tI), some g => if x.1 = 0 ∧ x.2.1 = 0 ∧ x.2.2 = (g.2.1 : Int) ∧ y.1 = 0 ∧ y.2.1 = 0 ∧ 0 ≤ y.2.2 ∧ y.2.2 ≤ 1000 ∧ g.1 = tO ∧ g.2.1 ≤ 1000 ∧ cu + (1 + g.2.1) ≤ CC ∧ su + (g.2.1 + g.2.1 * y.2.2.toNat) ≤ SS ∧ z_inn G (ov.length + 1) tI y.2.2.toNat g.2.1 = true then some [(none, (cu + 1 + g.2.1, su + g.2.1 + g.2.1 * y.2.2.toNat, iv, lv, (2, ov.length, 0) :: r, z_ap ov ((List.range g.2.1).map (fun i => some ((2, ov.length + 1 + i, 0) : zV)) :: List.replicate g.2.1 [])))] else none
    | _, _ => none
  | _ => none
theorem zs_mna {CC SS : Nat} (hx : p.tables.exec = Jvm.exec) (hb : c.code = cc) (hts : ∀ w ∈ Ts, w.before args s = true) (hK : va_K D cl tys s) (hown : s.vm.findClass own = some m.cls) (hN : zN[cn]? = some own) (hT : zTyOk cA tyl tys) {MN : List (List (Nat × Nat × Nat))} (hOv : zOv tyl s) (hMN : zMNOk zN tyl MN Ts) (hA : ∀ q : Nat, h0.size ≤ q → A q) (hR1 : CC ≤ R.cells) (hR2 : SS ≤ R.slots) {idx : Nat} {st : zS} {ss : List (Option Nat × zS)} (hd : decode cc pc = .ok (.multianewarray idx 2, 4)) (h : z_mna G MN cn CC SS idx st = some ss) : zSt p l e R s m args below meth c Q D cl A cA G b sl xs fl h0 nL pc 4 st ss := by
  obtain ⟨cu, su, iv, lv, sk, ov⟩ := st
  unfold z_mna at h
  rcases sk with _ | ⟨y, _ | ⟨x, r⟩⟩
  · cases h
  · cases h
  dsimp only at h
  split at h
  next tO tI g hf hg =>
    split at h
    next hc =>
      cases h
      obtain ⟨hc1, hc2, hc3, hd1, hd2, hd3, hd4, hc4, hc5, hc6, hc7, hc8⟩ := hc
      obtain ⟨ht5, hty⟩ := hMN cn idx tO tI own hf hN
      intro ρ ad ws H locs ls hgm kk
      have ex : z_val ρ x = (g.2.1 : Int) := by unfold z_val; rw [hc2, hgm.1.1.1, hc3]; omega
      have ey : z_val ρ y = y.2.2 := by unfold z_val; rw [hd2, hgm.1.1.1]; omega
      obtain ⟨k5, hk5⟩ : ∃ k, g.1 = k + 5 := ⟨g.1 - 5, by omega⟩
      have hposx : ¬ Int32.ofInt (g.2.1 : Int) < 0 := by
        rw [Int32.lt_iff_toInt_lt, z_i32 (by omega) (by omega)]
        have : (0 : Int32).toInt = 0 := rfl
        omega
      have hclx : (Int32.ofInt (g.2.1 : Int)).toNatClampNeg = g.2.1 := by
        show (Int32.ofInt (g.2.1 : Int)).toInt.toNat = _
        rw [z_i32 (by omega) (by omega)]; omega
      have hposy : ¬ Int32.ofInt y.2.2 < 0 := by
        rw [Int32.lt_iff_toInt_lt, z_i32 (by omega) (by omega)]
        have : (0 : Int32).toInt = 0 := rfl
        omega
      have hcly : (Int32.ofInt y.2.2).toNatClampNeg = y.2.2.toNat := by
        show (Int32.ofInt y.2.2).toInt.toNat = _
        rw [z_i32 (by omega) (by omega)]
      show W p l e R s m args below meth c H locs cu su Q (F0 m pc ls (zcv ad b ρ y :: zcv ad b ρ x :: r.map (zcv ad b ρ)))
      rw [z_cv0 hc1, z_cv0 hd1, ex, ey]
      have hP0 : va_P D cl (ws ++ va_pl [] (fun _ => .inr (0, []))) H := by show va_P D cl (ws ++ []) H; rw [List.append_nil]; exact hgm.2.2.2.1
      have hD0 : va_D A (ws ++ va_pl [] (fun _ => .inr (0, []))) := by show va_D A (ws ++ []); rw [List.append_nil]; exact hgm.2.2.2.2.1
      have main : ∀ (ty : FieldType) (z : vp_A), tyl[tO - 1]? = some (.array ty) → (∀ cx : ClassId, va_RA s cx (.array ty) → s.vm.findClass ("[" ++ (FieldType.array ty).toString) = some cx) → Jvm.Cond.classLink own idx ("[" ++ (FieldType.array ty).toString) ∈ Ts → Jvm.Cond.arrayClass ty ∈ Ts → s.vm.findClass (FieldType.array ty).toString = some (cA tI) → componentBytes ty ≤ 8 → fits ty (defaultValue ty) = true → (defaultValue ty).isDefault = true → (∀ cx : ClassId, Jvm.Free.Multi.innerC cx y.2.2.toNat (defaultValue ty) = vp_cell cx z) → (∀ (lo hi : Int) (F : Nat → Value → Prop), lo ≤ 0 → 0 ≤ hi → (∀ j v, z_spv (some (z_tk tI, lo, hi)) v → F j v) → z_en cA (tI, y.2.2.toNat, [(z_tk tI, lo, hi)]) F (.inl (cA tI, z))) → W p l e R s m args below meth c H locs cu su Q (F0 m pc ls (.int (Int32.ofInt y.2.2) :: .int (Int32.ofInt (g.2.1 : Int)) :: r.map (zcv ad b ρ))) := by
        intro ty z hty hra w1 w3 hcy hcb hdf hdd hz hen
        have hmem := hT.2.2.2.2.2 _ _ hty
        rw [show tO - 1 + 1 = k5 + 5 by omega] at hmem
        have hfc := hra _ (hK.2 _ _ hmem).2
        have hbb : y.2.2.toNat * componentBytes ty ≤ 536870912 := by
          have := Nat.mul_le_mul (show y.2.2.toNat ≤ 1000 by omega) hcb
          omega
        refine va_mna (X := ws) (L := []) (f := fun _ => .inr (0, [])) hx hb hown (hts _ w1) (show (Jvm.Cond.arrayOver (.array ty)).before args s = true from hOv _ _ (by omega) hty) (hts _ w3) hcy hK hP0 hD0 hgm.2.2.2.2.2.1 hA hposx hposy hclx hcly (by omega) hbb (by omega) hdf hdd (by omega) (by omega) hz hd (fun q rr cA1 H1 hinj _ hK1 hP1 hD1 hS1 => ?_)
        have hlast : (tys ++ [(cA1, FieldType.array ty)])[tys.length]? = some (cA1, FieldType.array ty) := by rw [List.getElem?_append_right (Nat.le_refl _), Nat.sub_self]; rfl
        have hfc1 := hra _ (hK1.2 _ _ hlast).2
        have ec : cA1 = cA (k5 + 5) := Option.some.inj (hfc1.symm.trans hfc)
        rw [ec] at hP1 hD1
        rw [List.append_assoc] at hP1 hD1
        -- the places of the new cells
        have epl : ∀ (fz : Nat → va_E), ([(q, (.inl (cA (k5 + 5), g.2.1, .inr (.inr (.inr (.inr (fun i => if i < g.2.1 then some (rr i) else none))))) : va_E))] ++ va_pl ([] ++ (List.range g.2.1).map rr) fz) = (q, .inl (cA (k5 + 5), g.2.1, .inr (.inr (.inr (.inr (fun i => if i < g.2.1 then some (rr i) else none)))))) :: ((List.range g.2.1).map rr).map (fun a => (a, fz a)) := fun fz => rfl
        rw [epl] at hP1 hD1
        have hadl : ∀ k, k < ov.length → (fun k => if k < ov.length then ad k else if k = ov.length then q else rr (k - ov.length - 1)) k = ad k := fun k hk => if_pos hk
        have hq := kk _ (List.mem_singleton.mpr rfl) ρ (fun k => if k < ov.length then ad k else if k = ov.length then q else rr (k - ov.length - 1)) _ H1 locs ls ⟨fun _ _ => rfl, hadl, Nat.le_refl _, by show ov.length ≤ (z_ap ov _).length; rw [z_ap_length]; omega⟩ (hgm.app (sk' := (2, ov.length, 0) :: r) hadl (rows := (List.range g.2.1).map (fun i => some ((2, ov.length + 1 + i, 0) : zV)) :: List.replicate g.2.1 []) (by rw [List.length_cons, List.length_cons, List.length_map, List.length_map, List.length_range, List.length_replicate]) (fun i q' hq' => ?_) (fun r' hr v hv => ?_) (fun w hw => ?_) hP1 hD1 hS1)
        · have e : ((2, ov.length, 0) :: r : List zV).map (zcv (fun k => if k < ov.length then ad k else if k = ov.length then q else rr (k - ov.length - 1)) b ρ) = .ref q :: r.map (zcv ad b ρ) := by
            rw [List.map_cons, z_skm (fun w hw => hgm.1.2.2.1 w (List.mem_cons_of_mem _ (List.mem_cons_of_mem _ hw))) (fun _ _ => rfl) hadl]
            show Value.ref (if ov.length < ov.length then _ else if ov.length = ov.length then q else _) :: _ = _
            rw [if_neg (Nat.lt_irrefl _), if_pos rfl]
          rw [← e]
          exact hq
        · match i, hq' with
          | 0, hq' =>
            cases hq'
            refine ⟨?_, g, hg, ?_⟩
            · show q = if ov.length + 0 < ov.length then _ else if ov.length + 0 = ov.length then q else _
              rw [if_neg (by omega), if_pos (by omega)]
            unfold z_en
            rw [hk5]
            refine ⟨_, rfl, fun j hj => ?_⟩
            unfold z_wv
            rw [z_lk_r]
            unfold z_lkr
            show match (match ((List.range g.2.1).map (fun i => some ((2, ov.length + 1 + i, 0) : zV)))[j]? with | some v => v | none => none) with | some a => _ | none => _
            rw [List.getElem?_map, List.getElem?_range hj]
            show va_rf (if j < g.2.1 then some (rr j) else none) = Value.ref (if ov.length + 1 + j < ov.length then _ else if ov.length + 1 + j = ov.length then q else rr (ov.length + 1 + j - ov.length - 1))
            rw [if_pos hj, if_neg (by omega), if_neg (by omega), show ov.length + 1 + j - ov.length - 1 = j by omega]
            rfl
          | i + 1, hq' =>
            rw [List.getElem?_cons_succ, List.getElem?_map, List.getElem?_map] at hq'
            have hi : i < g.2.1 := by
              rcases Nat.lt_or_ge i g.2.1 with h9 | h9
              · exact h9
              · rw [List.getElem?_eq_none (by rw [List.length_range]; exact h9)] at hq'
                cases hq'
            rw [List.getElem?_range hi] at hq'
            cases hq'
            obtain ⟨lo, hi', hgi, hlo, hhi⟩ := z_inn_ok _ hc8 i hi
            refine ⟨?_, _, by rw [show ov.length + (i + 1) = ov.length + 1 + i by omega]; exact hgi, ?_⟩
            · show rr i = if ov.length + (i + 1) < ov.length then _ else if ov.length + (i + 1) = ov.length then q else rr (ov.length + (i + 1) - ov.length - 1)
              rw [if_neg (by omega), if_neg (by omega), show ov.length + (i + 1) - ov.length - 1 = i by omega]
            · have hm : rr i ∈ (List.range g.2.1).map rr := List.mem_map.mpr ⟨i, List.mem_range.mpr hi, rfl⟩
              have hz9 : vr_up (fun _ => (.inr (0, []) : va_E)) ((List.range g.2.1).map rr) (.inl (cA tI, z)) (rr i) = .inl (cA tI, z) := vr_up_in hm
              dsimp only
              rw [hz9]
              refine hen lo hi' _ hlo hhi (fun j v hv => ?_)
              unfold z_wv
              rw [z_lk_r]
              unfold z_lkr
              rw [List.getElem?_cons_succ, List.getElem?_replicate, if_pos hi]
              exact hv
        · rcases List.mem_cons.mp hr with q9 | q9
          · subst q9
            obtain ⟨i, hi, hsp⟩ := List.mem_map.mp hv
            cases hsp
            have := List.mem_range.mp hi
            show ov.length + 1 + i < (z_ap ov _).length
            rw [z_ap_length, List.length_cons, List.length_replicate]; omega
          · have := List.eq_of_mem_replicate q9
            subst this
            cases hv
        · rcases List.mem_cons.mp hw with q1 | q1
          · subst q1
            show ov.length < (z_ap ov _).length
            rw [z_ap_length, List.length_cons]; omega
          · exact zok_ext (hgm.1.2.2.1 w (List.mem_cons_of_mem _ (List.mem_cons_of_mem _ q1))) (fun _ _ => rfl) (Nat.le_refl _) (by rw [z_ap_length]; omega)
      rcases hty with ⟨rfl, q1, q2, q4⟩ | ⟨rfl, q1, q2, q4⟩
      · have hm1 := hT.2.2.2.2.2 0 _ hT.1
        have hf1 : s.vm.findClass ("[" ++ FieldType.int.toString) = some (cA 1) := (hK.2 _ _ hm1).2
        refine main .int (y.2.2.toNat, .inl (fun _ => 0)) q1 (fun _ h9 => h9) q2 q4 hf1 (by decide) rfl rfl (fun cx => ?_) (fun lo hi F h1 h2 hF => ?_)
        · show ({ cls := cx, slots := Array.replicate y.2.2.toNat (.int 0), vm := .none } : Cell) = _
          rw [arrV_new]; rfl
        · exact ⟨fun _ => 0, rfl, fun j _ => hF j _ ⟨0, rfl, h1, h2⟩⟩
      · have hm1 := hT.2.2.2.2.2 1 _ hT.2.1
        have hf1 : s.vm.findClass ("[" ++ FieldType.long.toString) = some (cA 2) := (hK.2 _ _ hm1).2
        refine main .long (y.2.2.toNat, .inr (.inl (fun _ => 0))) q1 (fun _ h9 => h9) q2 q4 hf1 (by decide) rfl rfl (fun cx => ?_) (fun lo hi F h1 h2 hF => ?_)
        · show ({ cls := cx, slots := Array.replicate y.2.2.toNat (.long 0), vm := .none } : Cell) = _
          rw [arrV_new]; rfl
        · exact ⟨fun _ => 0, rfl, fun j _ => hF j _ ⟨0, rfl, h1, h2⟩⟩
    next => cases h
  next => cases h
/-! counters -/
def z_inc (nL k : Nat) (n : Int) (st : zS) : zR := match st with
  | (cu, su, iv, lv, sk, ov) => match z_fd lv k with
    | some v => if v.1 = 0 ∧ k < nL ∧ -32768 ≤ n ∧ n ≤ 32767 then (match z_add 0 iv v (0, 0, n) with
      | some q => some [(none, (cu, su, q.1, z_st1 lv k q.2, sk, ov))]
      | none => none) else none
    | none => none
theorem zs_inc (hx : p.tables.exec = Jvm.exec) (hb : c.code = cc) {k : Nat} {n : Int} {st : zS} {ss : List (Option Nat × zS)} (hd : decode cc pc = .ok (.iinc k n, 3)) (h : z_inc nL k n st = some ss) : zSt p l e R s m args below meth c Q D cl A cA G b sl xs fl h0 nL pc 3 st ss := by
  obtain ⟨cu, su, iv, lv, sk, ov⟩ := st
  unfold z_inc at h
  dsimp only at h
  split at h
  next v hv =>
    split at h
    next hc =>
      split at h
      next q hq =>
        cases h
        obtain ⟨hc1, hc2, hc3, hc4⟩ := hc
        intro ρ ad ws H locs ls hgm kk
        have hm := z_fd_mem hv
        have ox := z_ok0 (hgm.1.2.1 _ hm) hc1
        have eX := z_i32 ox.2.1 ox.2.2
        have eN : (Int32.ofInt n).toInt = z_val ρ (0, 0, n) := by rw [z_i32 (by omega) (by omega), z_val0 hgm.1.1]
        obtain ⟨ρ', n1, n2, n3, n4, n5, n6⟩ := zb_iadd iv v (0, 0, n) q ρ _ _ hq hgm.1.1 ox.1 hgm.1.1.2.1 eX eN
        have hg2 := hgm.mv n1 n2 n3 (fun w hw => zok_ext (hgm.1.2.2.1 w hw) n1 n2 (Nat.le_refl _))
        obtain ⟨i9, hi9⟩ := List.getElem?_of_mem (List.mem_map.mpr ⟨(k, v), hm, rfl⟩ : (k, zcv ad b ρ v) ∈ lv.map fun q => (q.1, zcv ad b ρ q.2))
        rw [z_cv0 hc1] at hi9
        show W p l e R s m args below meth c H locs cu su Q (F0 m pc ls (sk.map (zcv ad b ρ)))
        refine lv_iinc hx hb hd hgm.2.1 hi9 rfl hc2 rfl (fun ls' hl' => ?_)
        have hnew : zcv ad b ρ' q.2 = .int (Int32.ofInt (z_val ρ v) + Int32.ofInt n) := by rw [z_cv0 n4, n6, z_o32]
        have elv : (lv.map fun q => (q.1, zcv ad b ρ q.2)) = (lv.map fun q => (q.1, zcv ad b ρ' q.2)) := List.map_congr_left (fun q9 hq9 => by rw [zcv_ext (hgm.1.2.1 q9 hq9) n1 (fun _ _ => rfl)])
        rw [elv, ← hnew, z_st1_map] at hl'
        have esk : sk.map (zcv ad b ρ) = sk.map (zcv ad b ρ') := (z_skm hgm.1.2.2.1 n1 (fun _ _ => rfl)).symm
        rw [esk]
        refine kk _ (List.mem_singleton.mpr rfl) ρ' ad ws H locs ls' ⟨n1, fun _ _ => rfl, n2, Nat.le_refl _⟩ (hg2.lv hl' (fun q9 hq9 => ?_) hg2.1.2.2.1)
        rcases List.mem_cons.mp hq9 with r9 | r9
        · subst r9; exact z_ok0' n4 n5 _ n6
        · exact hg2.1.2.1 q9 (List.mem_filter.mp r9).1
      next => cases h
    next => cases h
  next => cases h
/-! constants of the pool -/
def z_ka (q : List (Nat × Int)) (k : Nat) : Option Int := match q with
  | [] => none
  | (i, v) :: r => if Nat.beq i k then some v else z_ka r k
def z_kt (KT : List (List (Nat × Int))) (cn idx : Nat) : Option Int := match KT[cn]? with
  | some q => z_ka q idx
  | none => none
def zKIOk (zN : List String) (KT : List (List (Nat × Int))) (Ts : List Jvm.Cond) : Prop := ∀ (cn idx : Nat) (v : Int) (own : String), z_kt KT cn idx = some v → zN[cn]? = some own → Jvm.Cond.constant own idx (Int32.ofInt v) ∈ Ts
def zKLOk (zN : List String) (KT : List (List (Nat × Int))) (Ts : List Jvm.Cond) : Prop := ∀ (cn idx : Nat) (v : Int) (own : String), z_kt KT cn idx = some v → zN[cn]? = some own → Jvm.Cond.constantLong own idx (Int64.ofInt v) ∈ Ts
def z_ldc (KT : List (List (Nat × Int))) (cn idx : Nat) (st : zS) : zR := match z_kt KT cn idx with
  | some v => if -2147483648 ≤ v ∧ v ≤ 2147483647 then z_push (0, 0, v) st else none
  | none => none
def z_ldc2 (KT : List (List (Nat × Int))) (cn idx : Nat) (st : zS) : zR := match z_kt KT cn idx with
  | some v => if -9223372036854775808 ≤ v ∧ v ≤ 9223372036854775807 then z_push (1, 0, v) st else none
  | none => none
theorem zs_ldc (hx : p.tables.exec = Jvm.exec) (hb : c.code = cc) (hts : ∀ w ∈ Ts, w.before args s = true) (hown : s.vm.findClass own = some m.cls) (hN : zN[cn]? = some own) {KT : List (List (Nat × Int))} (hKT : zKIOk zN KT Ts) {idx : Nat} {st : zS} {ss : List (Option Nat × zS)} (hd : decode cc pc = .ok (.ldc idx, 2)) (h : z_ldc KT cn idx st = some ss) : zSt p l e R s m args below meth c Q D cl A cA G b sl xs fl h0 nL pc 2 st ss := by
  unfold z_ldc at h
  split at h
  next v hv =>
    split at h
    next hr => exact zs_push h (fun ad ρ h0 => z_cvc h0) (fun _ _ _ hi => z_okc hi hr.1 hr.2) (fun _ _ _ _ _ _ k => lv_ldc hx hb hown (hts _ (hKT cn idx v own hv hN)) hd k)
    next => cases h
  next => cases h
theorem zs_ldcw (hx : p.tables.exec = Jvm.exec) (hb : c.code = cc) (hts : ∀ w ∈ Ts, w.before args s = true) (hown : s.vm.findClass own = some m.cls) (hN : zN[cn]? = some own) {KT : List (List (Nat × Int))} (hKT : zKIOk zN KT Ts) {idx : Nat} {st : zS} {ss : List (Option Nat × zS)} (hd : decode cc pc = .ok (.ldc_w idx, 3)) (h : z_ldc KT cn idx st = some ss) : zSt p l e R s m args below meth c Q D cl A cA G b sl xs fl h0 nL pc 3 st ss := by
  unfold z_ldc at h
  split at h
  next v hv =>
    split at h
    next hr => exact zs_push h (fun ad ρ h0 => z_cvc h0) (fun _ _ _ hi => z_okc hi hr.1 hr.2) (fun _ _ _ _ _ _ k => lv_ldcw hx hb hown (hts _ (hKT cn idx v own hv hN)) hd k)
    next => cases h
  next => cases h
theorem zs_ldc2 (hx : p.tables.exec = Jvm.exec) (hb : c.code = cc) (hts : ∀ w ∈ Ts, w.before args s = true) (hown : s.vm.findClass own = some m.cls) (hN : zN[cn]? = some own) {KT : List (List (Nat × Int))} (hKT : zKLOk zN KT Ts) {idx : Nat} {st : zS} {ss : List (Option Nat × zS)} (hd : decode cc pc = .ok (.ldc2_w idx, 3)) (h : z_ldc2 KT cn idx st = some ss) : zSt p l e R s m args below meth c Q D cl A cA G b sl xs fl h0 nL pc 3 st ss := by
  unfold z_ldc2 at h
  split at h
  next v hv =>
    split at h
    next hr => exact zs_push h (fun ad ρ h0 => z_cvl h0) (fun _ _ _ hi => z_okl hi hr.1 hr.2) (fun _ _ _ _ _ _ k => lv_ldc2 hx hb hown (hts _ (hKT cn idx v own hv hN)) hd k)
    next => cases h
  next => cases h
/-! copies of whole numbers between arrays of which bounds alone are known -/
def z_ca (s : zV) : Option Int := if s.1 = 0 ∧ s.2.1 = 0 ∧ 0 ≤ s.2.2 ∧ s.2.2 ≤ 100000 then some s.2.2 else none
def z_copy (G : List zC) (st : zS) : zR := match st with
  | (cu, su, iv, lv, n :: dp :: d :: sp :: a :: r, ov) => match z_ca n, z_ca dp, z_ca sp, G[d.2.1]?, G[a.2.1]? with
    | some n', some dp', some sp', some gd, some ga => if d.1 = 2 ∧ a.1 = 2 ∧ gd.1 = 1 ∧ ga.1 = 1 ∧ sp' + n' ≤ (ga.2.1 : Int) ∧ dp' + n' ≤ (gd.2.1 : Int) then (match gd.2.2, ga.2.2, z_un ov d.2.1, z_un ov a.2.1 with
      | [(0, lo, hi)], [(0, lo2, hi2)], some [], some [] => if lo ≤ lo2 ∧ hi2 ≤ hi then some [(none, (cu, su, iv, lv, r, ov))] else none
      | _, _, _, _ => none) else none
    | _, _, _, _, _ => none
  | _ => none
theorem z_ca_ok {v : zV} {n : Int} {iv : zI} {ρ : Nat → Int} (h : z_ca v = some n) (hi : ziv iv ρ) (ad : Nat → Nat) (b : Nat) : zcv ad b ρ v = .int (Int32.ofInt n) ∧ 0 ≤ n ∧ n ≤ 100000 ∧ ¬ Int32.ofInt n < 0 ∧ (Int32.ofInt n).toNatClampNeg = n.toNat := by
  unfold z_ca at h
  split at h
  next hc =>
    cases h
    obtain ⟨h1, h2, h3, h4⟩ := hc
    refine ⟨?_, h3, h4, ?_, ?_⟩
    · rw [z_cv0 h1]; unfold z_val; rw [h2, hi.1, Int.zero_add]
    · rw [Int32.lt_iff_toInt_lt, z_i32 (by omega) (by omega)]
      have : (0 : Int32).toInt = 0 := rfl
      omega
    · show (Int32.ofInt v.2.2).toInt.toNat = _
      rw [z_i32 (by omega) (by omega)]
  next => cases h
theorem zs_copy (hx : p.tables.exec = Jvm.exec) (hb : c.code = cc) (hml : c.maxLocals = nL) (hK : va_K D cl tys s) (hT : zTyOk cA tyl tys) (hown : s.vm.findClass own = some m.cls) {idx : Nat} (hlink : (Jvm.Cond.methodLink own idx arraycopyName).before args s = true) (hnat : (Jvm.Cond.native arraycopyName).before args s = true) (hstat : (Jvm.Cond.static arraycopyName).before args s = true) (hini : (Jvm.Cond.initialized "java/lang/System").before args s = true) (hfr : 1 ≤ R.frames) {lo : Nat} (hlo : lo ≤ R.locals) {st : zS} (hsum : ∀ (ad : Nat → Nat) (ρ : Nat → Int), (((st.2.2.2.2.1.drop 5).map (zcv ad b ρ)).map fun v => v.category).sum + (nativeFrameWords "java/lang/System" "arraycopy" 5 + 11) ≤ lo) {ss : List (Option Nat × zS)} (hd : decode cc pc = .ok (.invokestatic idx, 3)) (h : z_copy G st = some ss) : zSt p l e R s m args below meth c Q D cl A cA G b sl xs fl h0 nL pc 3 st ss := by
  obtain ⟨cu, su, iv, lv, sk, ov⟩ := st
  unfold z_copy at h
  rcases sk with _ | ⟨n, _ | ⟨dp, _ | ⟨d, _ | ⟨sp, _ | ⟨a, r⟩⟩⟩⟩⟩
  · cases h
  · cases h
  · cases h
  · cases h
  · cases h
  dsimp only at h
  split at h
  next n' dp' sp' gd ga e1 e2 e3 hgd hga =>
    split at h
    next hc =>
      obtain ⟨c1, c2, c3, c4, c5, c6⟩ := hc
      split at h
      next lo1 hi1 lo2 hi2 hs1 hs2 ho1 ho2 =>
        split at h
        next hb9 =>
          cases h
          intro ρ ad ws H locs ls hgm kk
          obtain ⟨v1, p1, q1, r1, t1⟩ := z_ca_ok e1 hgm.1.1 ad b
          obtain ⟨v2, p2, q2, r2, t2⟩ := z_ca_ok e2 hgm.1.1 ad b
          obtain ⟨v3, p3, q3, r3, t3⟩ := z_ca_ok e3 hgm.1.1 ad b
          have hdo : d.2.1 < ov.length := by
            have h9 := hgm.1.2.2.1 d (List.mem_cons_of_mem _ (List.mem_cons_of_mem _ List.mem_cons_self))
            unfold zok at h9; rw [c1] at h9; exact h9
          have hao : a.2.1 < ov.length := by
            have h9 := hgm.1.2.2.1 a (List.mem_cons_of_mem _ (List.mem_cons_of_mem _ (List.mem_cons_of_mem _ (List.mem_cons_of_mem _ List.mem_cons_self))))
            unfold zok at h9; rw [c2] at h9; exact h9
          obtain ⟨ed, hqd, hed⟩ := z_wd_at hgm.2.2.1 hdo hgd
          obtain ⟨ea, hqa, hea⟩ := z_wd_at hgm.2.2.1 hao hga
          obtain ⟨gf, rfl, hgf⟩ := z_en1 c3 hed
          obtain ⟨ff, rfl, hff⟩ := z_en1 c4 hea
          show W p l e R s m args below meth c H locs cu su Q (F0 m pc ls (zcv ad b ρ n :: zcv ad b ρ dp :: zcv ad b ρ d :: zcv ad b ρ sp :: zcv ad b ρ a :: r.map (zcv ad b ρ)))
          rw [v1, v2, v3, z_cv2 c1, z_cv2 c2]
          refine va_copyi hx hb (hml.trans hgm.2.1.1.symm) hown hlink hnat hstat hini hK hgm.2.2.2.1 hgm.2.2.2.2.1 hgm.2.2.2.2.2.1 a.2.1 d.2.1 0 0 hqa hqd (hT.2.2.2.2.2 0 _ hT.1) (hT.2.2.2.2.2 0 _ hT.1) rfl r3 r2 r1 (by rw [t3, t1]; omega) (by rw [t2, t1]; omega) (fun _ _ => rfl) hfr (Nat.le_trans (hsum ad ρ) hlo) hd (fun H1 locs1 hP1 hD1 hS1 => ?_)
          refine kk _ (List.mem_singleton.mpr rfl) ρ ad _ H1 locs1 ls ⟨fun _ _ => rfl, fun _ _ => rfl, Nat.le_refl _, Nat.le_refl _⟩ (hgm.ov hgm.1.1 rfl rfl hgm.1.2.2.2 (fun w hw => hgm.1.2.2.1 w (List.mem_cons_of_mem _ (List.mem_cons_of_mem _ (List.mem_cons_of_mem _ (List.mem_cons_of_mem _ (List.mem_cons_of_mem _ hw)))))) ?_ hP1 hD1 hS1)
          refine z_wd_upd hgm.2.2.1 hqd hgd rfl (fun _ _ _ => rfl) ?_
          unfold z_en
          rw [c3]
          refine ⟨_, rfl, fun j hj => ?_⟩
          unfold va_cpy
          split
          next hin =>
            have hx9 := hff (((Int32.ofInt sp').toNatClampNeg) + (j - (Int32.ofInt dp').toNatClampNeg)) (by rw [t3, t2] at *; rw [t1] at hin; omega)
            have := z_rd hx9 hs2 ho2
            obtain ⟨X, eX, b1, b2⟩ := this
            have hnl := z_un_lk (i := j) ho1
            unfold z_wv
            dsimp only
            rw [hnl]
            dsimp only
            unfold z_sp
            rw [hs1]
            exact ⟨X, eX, by omega, by omega⟩
          next => exact hgf j hj
        next => cases h
      next => cases h
    next => cases h
  next => cases h
end ZST9
end
section
/-! ===== one instruction, of all kinds ===== -/
abbrev zT3 : Type := List (List (Nat × Nat × Nat))
/-- y, bytes, places, what it gives back, rows, cells, slots, number, whether it is a maker -/
abbrev zM : Type := MethodName × ByteArray × Nat × Option FieldType × List zP × Nat × Nat × Nat × Bool
/-- G, cl, tyl, FL, NW, AN, MN, KI, KL, tc, methods, calls -/
abbrev zTb : Type := List zC × List vw_C × List FieldType × zT3 × zT3 × zT3 × zT3 × List (List (Nat × Int)) × List (List (Nat × Int)) × List (Nat × Nat × Nat) × List zM × List (List (Nat × Nat × Nat × Nat))
def z_g (len n : Nat) (r : zR) : zR := if Nat.beq len n then r else none
theorem z_g_ok {len n : Nat} {r : zR} {ss : List (Option Nat × zS)} (h : z_g len n r = some ss) : len = n ∧ r = some ss := by
  unfold z_g at h
  split at h
  next hb => exact ⟨Nat.eq_of_beq_eq_true hb, h⟩
  next => cases h
def z_or (a b : zR) : zR := match a with
  | some r => some r
  | none => b
theorem z_or_ok {a b : zR} {ss : List (Option Nat × zS)} (h : z_or a b = some ss) : a = some ss ∨ b = some ss := by
  unfold z_or at h
  split at h
  · cases h; exact Or.inl rfl
  · exact Or.inr h
def zstep (T : zTb) (fl : Bool) (M : zM) (pc : Nat) (i : Instr) (len : Nat) (st : zS) : zR := match i with
  | .iconst n => z_g len 1 (z_ipush n st)
  | .bipush n => z_g len 2 (z_bpush n st)
  | .sipush n => z_g len 3 (z_ipush n st)
  | .lconst n => z_g len 1 (z_push (1, 0, (n.val : Int)) st)
  | .aconst_null => z_g len 1 (z_push (3, 0, 0) st)
  | .ldc k => z_g len 2 (z_ldc T.2.2.2.2.2.2.2.1 M.2.2.2.2.2.2.2.1 k st)
  | .ldc_w k => z_g len 3 (z_ldc T.2.2.2.2.2.2.2.1 M.2.2.2.2.2.2.2.1 k st)
  | .ldc2_w k => z_g len 3 (z_ldc2 T.2.2.2.2.2.2.2.2.1 M.2.2.2.2.2.2.2.1 k st)
  | .iload k => z_g len 2 (z_ld z_k0 k st)
  | .iload_n k => z_g len 1 (z_ld z_k0 k.val st)
  | .lload k => z_g len 2 (z_ld z_k1 k st)
  | .lload_n k => z_g len 1 (z_ld z_k1 k.val st)
  | .aload k => z_g len 2 (z_ld z_kr k st)
  | .aload_n k => z_g len 1 (z_ld z_kr k.val st)
  | .istore k => z_g len 2 (z_sto z_k0 M.2.2.1 k st)
  | .istore_n k => z_g len 1 (z_sto z_k0 M.2.2.1 k.val st)
  | .lstore k => z_g len 2 (z_sto2 M.2.2.1 k st)
  | .lstore_n k => z_g len 1 (z_sto2 M.2.2.1 k.val st)
  | .astore k => z_g len 2 (z_sto z_kr M.2.2.1 k st)
  | .astore_n k => z_g len 1 (z_sto z_kr M.2.2.1 k.val st)
  | .iinc k n => z_g len 3 (z_inc M.2.2.1 k n st)
  | .iadd => z_g len 1 (z_bo 0 0 (z_add 0) st)
  | .isub => z_g len 1 (z_bo 0 0 (z_sub 0) st)
  | .imul => z_g len 1 (z_bo 0 0 (z_fold 0 (cfI fun a b => a * b)) st)
  | .iand => z_g len 1 (z_or (z_ian fl st) (z_bo 0 0 (z_fold 0 (cfI fun a b => a &&& b)) st))
  | .ior => z_g len 1 (z_bo 0 0 (z_fold 0 (cfI fun a b => a ||| b)) st)
  | .ixor => z_g len 1 (z_bo 0 0 (z_fold 0 (cfI fun a b => a ^^^ b)) st)
  | .ishl => z_g len 1 (z_bo 0 0 (z_fold 0 (cfI fun a b => a <<< (b &&& 31))) st)
  | .ishr => z_g len 1 (z_bo 0 0 (z_fold 0 (cfI fun a b => a >>> (b &&& 31))) st)
  | .idiv => z_g len 1 (z_bo 0 0 (z_foldD 0 (cfI fun a b => a / b)) st)
  | .irem => z_g len 1 (z_bo 0 0 (z_foldD 0 (cfI fun a b => a - a / b * b)) st)
  | .ladd => z_g len 1 (z_bo 1 1 (z_add 1) st)
  | .lsub => z_g len 1 (z_bo 1 1 (z_sub 1) st)
  | .lmul => z_g len 1 (z_bo 1 1 (z_fold 1 (cfL fun a b => a * b)) st)
  | .land => z_g len 1 (z_bo 1 1 (z_fold 1 (cfL fun a b => a &&& b)) st)
  | .lor => z_g len 1 (z_bo 1 1 (z_fold 1 (cfL fun a b => a ||| b)) st)
  | .ldiv => z_g len 1 (z_bo 1 1 (z_foldD 1 (cfL fun a b => a / b)) st)
  | .lrem => z_g len 1 (z_bo 1 1 (z_foldD 1 (cfL fun a b => a - a / b * b)) st)
  | .lshl => z_g len 1 (z_bo 1 0 (z_fold 1 (cfS fun a b => a <<< (b.toInt64 &&& 63))) st)
  | .lshr => z_g len 1 (z_bo 1 0 (z_fold 1 (cfS fun a b => a >>> (b.toInt64 &&& 63))) st)
  | .i2l => z_g len 1 (z_uo 0 z_i2l st)
  | .l2i => z_g len 1 (z_uo 1 z_l2i st)
  | .i2b => z_g len 1 (z_uo 0 z_i2b st)
  | .dup => z_g len 1 (z_rest z_dup st)
  | .pop => z_g len 1 (z_rest z_pop st)
  | .pop2 => z_g len 1 (z_rest z_pop2 st)
  | .dup2 => z_g len 1 (z_rest z_dup2 st)
  | .if_icmp cd off => z_g len 3 (z_icmp cd pc off st)
  | .ifCond cd off => z_g len 3 (z_if cd pc off st)
  | .goto off => z_g len 3 (z_goto pc off st)
  | .lcmp => z_g len 1 (z_lcmp st)
  | .tableswitch d lo hi offs => z_tsw pc d lo hi offs st
  | .lookupswitch d ps => z_lsw pc d ps st
  | .getfield k => z_g len 3 (z_get T.1 T.2.2.2.1 M.2.2.2.2.2.2.2.1 k st)
  | .putfield k => z_g len 3 (z_putf T.2.1 T.1 T.2.2.2.1 M.2.2.2.2.2.2.2.1 M.2.2.2.2.2.2.2.2 k st)
  | .iaload => z_g len 1 (z_or (z_ald z_t1 0 T.1 st) (z_sld fl st))
  | .laload => z_g len 1 (z_ald z_t2 1 T.1 st)
  | .baload => z_g len 1 (z_ald z_t34 0 T.1 st)
  | .aaload => z_g len 1 (z_ald (z_t5b T.2.2.1) 0 T.1 st)
  | .arraylength => z_g len 1 (z_alen T.1 T.2.2.1 st)
  | .iastore => z_g len 1 (z_ast z_t1 0 z_vl z_vh T.1 st)
  | .bastore => z_g len 1 (z_ast z_t34 0 z_vl z_vh T.1 st)
  | .lastore => z_g len 1 (z_ast z_t2 1 z_vlL z_vhL T.1 st)
  | .aastore => z_g len 1 (z_aast T.1 T.2.2.2.2.2.2.2.2.2.1 st)
  | .new k => z_g len 3 (z_new T.1 T.2.2.2.2.1 M.2.2.2.2.2.2.2.1 M.2.2.2.2.2.1 M.2.2.2.2.2.2.1 k st)
  | .newarray t => z_g len 2 (z_newa T.1 M.2.2.2.2.2.1 M.2.2.2.2.2.2.1 t st)
  | .anewarray k => z_g len 3 (z_anew T.1 T.2.2.2.2.2.1 M.2.2.2.2.2.2.2.1 M.2.2.2.2.2.1 M.2.2.2.2.2.2.1 k st)
  | .multianewarray k d => if d = 2 then z_g len 4 (z_mna T.1 T.2.2.2.2.2.2.1 M.2.2.2.2.2.2.2.1 M.2.2.2.2.2.1 M.2.2.2.2.2.2.1 k st) else none
  | _ => none
/-- the tables hold what the words say -/
def zTbOk (T : zTb) (zN : List String) (Ts : List Jvm.Cond) (cA : Nat → ClassId) (tys : List (ClassId × FieldType)) : Prop :=
  zClsOk T.2.1 zN Ts ∧ zGOk T.2.1 T.1 ∧ zFLOk T.2.1 zN T.2.2.2.1 Ts ∧ zTyOk cA T.2.2.1 tys ∧ zNWOk T.2.1 zN T.2.2.2.2.1 Ts ∧ zANOk zN T.2.2.1 T.2.2.2.2.2.1 Ts ∧ zMNOk zN T.2.2.1 T.2.2.2.2.2.2.1 Ts ∧ zKIOk zN T.2.2.2.2.2.2.2.1 Ts ∧ zKLOk zN T.2.2.2.2.2.2.2.2.1 Ts ∧ zTcOk T.2.1 T.2.2.1 T.2.2.2.2.2.2.2.2.2.1 ∧ zArOk Ts
/-- what holds within a method -/
def zCx (p : Program) (R : Room) (s : State) (m : MethodId) (args : Array Value) (meth : Method) (c : Code) (T : zTb) (Ts : List Jvm.Cond) (D : va_G) (A : Nat → Prop) (tys : List (ClassId × FieldType)) (b sl : Nat) (xs : Nat → Int32) (h0 : Heap) (M : zM) : Prop :=
  p.tables.exec = Jvm.exec ∧ c.code = M.2.1 ∧ c.maxLocals = M.2.2.1 ∧ meth.sig.returnType = M.2.2.2.1 ∧ meth.locks = false ∧ s.vm.findClass M.1.cls = some m.cls ∧ (∀ w ∈ Ts, w.before args s = true) ∧ va_K D T.2.1 tys s ∧ (M.2.2.2.2.2.2.2.2 = true → meth.name = "<init>") ∧ (va_X b sl xs s h0 ∧ zOv T.2.2.1 s) ∧ b < h0.size ∧ ¬ A b ∧ (∀ q : Nat, h0.size ≤ q → A q) ∧ sl ≤ 2147483647 ∧ M.2.2.2.2.2.1 ≤ R.cells ∧ M.2.2.2.2.2.2.1 ≤ R.slots
section ZST10
variable {p : Program} {l : Launch} {e : Env} {R : Room} {s : State} {m : MethodId} {args : Array Value} {below : List Frame} {meth : Method} {c : Code} {Q : State → Prop} {D : va_G} {A : Nat → Prop} {cA : Nat → ClassId} {b sl : Nat} {h0 : Heap} {pc : Nat} {T : zTb} {M : zM}
variable {Ts : List Jvm.Cond} {zN : List String} {tys : List (ClassId × FieldType)} {xs : Nat → Int32} {fl : Bool}
set_option maxHeartbeats 4000000 in
theorem zstep_sound (hT : zTbOk T zN Ts cA tys) (hC : zCx p R s m args meth c T Ts D A tys b sl xs h0 M) (hN : zN[M.2.2.2.2.2.2.2.1]? = some M.1.cls) {i : Instr} {len : Nat} (hd : decode M.2.1 pc = .ok (i, len)) {st : zS} {ss : List (Option Nat × zS)} (h : zstep T fl M pc i len st = some ss) : zSt p l e R s m args below meth c Q D T.2.1 A cA T.1 b sl xs fl h0 M.2.2.1 pc len st ss := by
  obtain ⟨hx, hb, hml, hr, hlk, hown, hts, hK, hin, hX, hbl, hbA, hA, hsl, hR1, hR2⟩ := hC
  obtain ⟨t1, t2, t3, t4, t5, t6, t7, t8, t9, t10, t11⟩ := hT
  cases i
  case iconst n => obtain ⟨rfl, h⟩ := z_g_ok h; exact zs_iconst hx hb hd h
  case bipush n => obtain ⟨rfl, h⟩ := z_g_ok h; exact zs_bipush hx hb hd h
  case sipush n => obtain ⟨rfl, h⟩ := z_g_ok h; exact zs_sipush hx hb hd h
  case lconst n => obtain ⟨rfl, h⟩ := z_g_ok h; exact zs_lconst hx hb hd h
  case aconst_null => obtain ⟨rfl, h⟩ := z_g_ok h; exact zs_null hx hb hd h
  case ldc k => obtain ⟨rfl, h⟩ := z_g_ok h; exact zs_ldc hx hb hts hown hN t8 hd h
  case ldc_w k => obtain ⟨rfl, h⟩ := z_g_ok h; exact zs_ldcw hx hb hts hown hN t8 hd h
  case ldc2_w k => obtain ⟨rfl, h⟩ := z_g_ok h; exact zs_ldc2 hx hb hts hown hN t9 hd h
  case iload k => obtain ⟨rfl, h⟩ := z_g_ok h; exact zs_iload hx hb hd h
  case iload_n k => obtain ⟨rfl, h⟩ := z_g_ok h; exact zs_iload_n hx hb hd h
  case lload k => obtain ⟨rfl, h⟩ := z_g_ok h; exact zs_lload hx hb hd h
  case lload_n k => obtain ⟨rfl, h⟩ := z_g_ok h; exact zs_lload_n hx hb hd h
  case aload k => obtain ⟨rfl, h⟩ := z_g_ok h; exact zs_aload hx hb hd h
  case aload_n k => obtain ⟨rfl, h⟩ := z_g_ok h; exact zs_aload_n hx hb hd h
  case istore k => obtain ⟨rfl, h⟩ := z_g_ok h; exact zs_istore hx hb hd h
  case istore_n k => obtain ⟨rfl, h⟩ := z_g_ok h; exact zs_istore_n hx hb hd h
  case lstore k => obtain ⟨rfl, h⟩ := z_g_ok h; exact zs_lstore hx hb hd h
  case lstore_n k => obtain ⟨rfl, h⟩ := z_g_ok h; exact zs_lstore_n hx hb hd h
  case astore k => obtain ⟨rfl, h⟩ := z_g_ok h; exact zs_astore hx hb hd h
  case astore_n k => obtain ⟨rfl, h⟩ := z_g_ok h; exact zs_astore_n hx hb hd h
  case iinc k n => obtain ⟨rfl, h⟩ := z_g_ok h; exact zs_inc hx hb hd h
  case iadd => obtain ⟨rfl, h⟩ := z_g_ok h; exact zs_iadd hx hb hd h
  case isub => obtain ⟨rfl, h⟩ := z_g_ok h; exact zs_isub hx hb hd h
  case imul => obtain ⟨rfl, h⟩ := z_g_ok h; exact zs_imul hx hb hd h
  case iand =>
    obtain ⟨rfl, h⟩ := z_g_ok h
    rcases z_or_ok h with h | h
    · exact zs_ian hx hb hd h
    · exact zs_iand hx hb hd h
  case ior => obtain ⟨rfl, h⟩ := z_g_ok h; exact zs_ior hx hb hd h
  case ixor => obtain ⟨rfl, h⟩ := z_g_ok h; exact zs_ixor hx hb hd h
  case ishl => obtain ⟨rfl, h⟩ := z_g_ok h; exact zs_ishl hx hb hd h
  case ishr => obtain ⟨rfl, h⟩ := z_g_ok h; exact zs_ishr hx hb hd h
  case idiv => obtain ⟨rfl, h⟩ := z_g_ok h; exact zs_idiv hx hb hd h
  case irem => obtain ⟨rfl, h⟩ := z_g_ok h; exact zs_irem hx hb hd h
  case ladd => obtain ⟨rfl, h⟩ := z_g_ok h; exact zs_ladd hx hb hd h
  case lsub => obtain ⟨rfl, h⟩ := z_g_ok h; exact zs_lsub hx hb hd h
  case lmul => obtain ⟨rfl, h⟩ := z_g_ok h; exact zs_lmul hx hb hd h
  case land => obtain ⟨rfl, h⟩ := z_g_ok h; exact zs_land hx hb hd h
  case lor => obtain ⟨rfl, h⟩ := z_g_ok h; exact zs_lor hx hb hd h
  case ldiv => obtain ⟨rfl, h⟩ := z_g_ok h; exact zs_ldiv hx hb hd h
  case lrem => obtain ⟨rfl, h⟩ := z_g_ok h; exact zs_lrem hx hb hd h
  case lshl => obtain ⟨rfl, h⟩ := z_g_ok h; exact zs_lshl hx hb hd h
  case lshr => obtain ⟨rfl, h⟩ := z_g_ok h; exact zs_lshr hx hb hd h
  case i2l => obtain ⟨rfl, h⟩ := z_g_ok h; exact zs_i2l hx hb hd h
  case l2i => obtain ⟨rfl, h⟩ := z_g_ok h; exact zs_l2i hx hb hd h
  case i2b => obtain ⟨rfl, h⟩ := z_g_ok h; exact zs_i2b hx hb hd h
  case dup => obtain ⟨rfl, h⟩ := z_g_ok h; exact zs_dup hx hb hd h
  case pop => obtain ⟨rfl, h⟩ := z_g_ok h; exact zs_pop hx hb hd h
  case pop2 => obtain ⟨rfl, h⟩ := z_g_ok h; exact zs_pop2 hx hb hd h
  case dup2 => obtain ⟨rfl, h⟩ := z_g_ok h; exact zs_dup2 hx hb hd h
  case if_icmp cd off => obtain ⟨rfl, h⟩ := z_g_ok h; exact zs_icmp hx hb hd h
  case ifCond cd off => obtain ⟨rfl, h⟩ := z_g_ok h; exact zs_if hx hb hd h
  case goto off => obtain ⟨rfl, h⟩ := z_g_ok h; exact zs_goto hx hb hd h
  case lcmp => obtain ⟨rfl, h⟩ := z_g_ok h; exact zs_lcmp hx hb hd h
  case tableswitch d lo hi offs => exact zs_tsw hx hb hd h
  case lookupswitch d ps => exact zs_lsw hx hb hd h
  case getfield k => obtain ⟨rfl, h⟩ := z_g_ok h; exact zs_get hx hb hts hK hown hN t1 t3 hd h
  case putfield k => obtain ⟨rfl, h⟩ := z_g_ok h; exact zs_putf hx hb hts hK hown hN t1 t2 t3 hin hd h
  case iaload =>
    obtain ⟨rfl, h⟩ := z_g_ok h
    rcases z_or_ok h with h | h
    · exact zs_iald hx hb hK t4 hd h
    · exact zs_sld hx hb hX.1 hbl hbA hd h
  case laload => obtain ⟨rfl, h⟩ := z_g_ok h; exact zs_lald hx hb hK t4 hd h
  case baload => obtain ⟨rfl, h⟩ := z_g_ok h; exact zs_bald hx hb hK t4 hd h
  case aaload => obtain ⟨rfl, h⟩ := z_g_ok h; exact zs_aald hx hb hK t4 hd h
  case arraylength => obtain ⟨rfl, h⟩ := z_g_ok h; exact zs_alen hx hb hK t4 hX.1 hbl hbA hsl hd h
  case iastore => obtain ⟨rfl, h⟩ := z_g_ok h; exact zs_iast hx hb hK t4 hd h
  case bastore => obtain ⟨rfl, h⟩ := z_g_ok h; exact zs_bast hx hb hK t4 hd h
  case lastore => obtain ⟨rfl, h⟩ := z_g_ok h; exact zs_last hx hb hK t4 hd h
  case aastore => obtain ⟨rfl, h⟩ := z_g_ok h; exact zs_aast hx hb hK t4 t10 hd h
  case new k => obtain ⟨rfl, h⟩ := z_g_ok h; exact zs_new hx hb hts hK hown hN t1 t2 t5 hA hR1 hR2 hd h
  case newarray t => obtain ⟨rfl, h⟩ := z_g_ok h; exact zs_newa hx hb hts hK t4 t11 hA hR1 hR2 hd h
  case anewarray k => obtain ⟨rfl, h⟩ := z_g_ok h; exact zs_anew hx hb hts hK hown hN t4 hX.2 t6 hA hR1 hR2 hd h
  case multianewarray k d =>
    change (if d = 2 then z_g len 4 (z_mna T.1 T.2.2.2.2.2.2.1 M.2.2.2.2.2.2.2.1 M.2.2.2.2.2.1 M.2.2.2.2.2.2.1 k st) else none) = some ss at h
    split at h
    next hd2 =>
      subst hd2
      obtain ⟨rfl, h⟩ := z_g_ok h
      exact zs_mna hx hb hts hK hown hN t4 hX.2 t7 hA hR1 hR2 hd h
    next => cases h
  all_goals (change (none : zR) = some ss at h; cases h)
end ZST10
end
section
/-! ===== instructions by their codes: a tree of small definitions ===== -/
/-- ends and calls: 0 return, 1 of an int, 2 of a long, 4 virtual, 5 static, 6 special -/
def z_spk (i : Instr) : Option (Nat × Nat) := match i with
  | .return_ => some (0, 0)
  | .ireturn => some (1, 0)
  | .lreturn => some (2, 0)
  | .invokevirtual k => some (4, k)
  | .invokestatic k => some (5, k)
  | .invokespecial k => some (6, k)
  | _ => none
def z_prs (L : List Int) : List (Int × Int) := match L with
  | a :: b :: r => (a, b) :: z_prs r
  | _ => []
def z_ts (z : Int) (L : List Int) : Instr := match L with
  | lo :: hi :: r => .tableswitch z lo hi r.toArray
  | _ => .nop
def z_tsC (pc : Nat) (z : Int) (L : List Int) (st : zS) : zR := match L with
  | lo :: hi :: r => z_tsw pc z lo hi r.toArray st
  | _ => none
theorem z_tsC_eq {T : zTb} {fl : Bool} {M : zM} {pc len : Nat} {z : Int} {L : List Int} {st : zS} : z_tsC pc z L st = zstep T fl M pc (z_ts z L) len st := by
  unfold z_tsC z_ts
  split
  · rfl
  · rfl
def zD0 (k n : Nat) (z : Int) (L : List Int) : Instr := bif Nat.beq k 0 then .iconst z else .nop
def zS0 (T : zTb) (fl : Bool) (M : zM) (pc k n : Nat) (z : Int) (L : List Int) (len : Nat) (st : zS) : zR := bif Nat.beq k 0 then z_g len 1 (z_ipush z st) else none
theorem zE0 {T : zTb} {fl : Bool} {M : zM} {pc k n : Nat} {z : Int} {L : List Int} {len : Nat} {st : zS} : zS0 T fl M pc k n z L len st = zstep T fl M pc (zD0 k n z L) len st := by
  unfold zS0 zD0
  cases Nat.beq k 0 with
  | true => exact rfl
  | false => rfl
theorem zK0 {k n : Nat} {z : Int} {L : List Int} : z_spk (zD0 k n z L) = none := by
  unfold zD0
  cases Nat.beq k 0 with
  | true => rfl
  | false => rfl
def zD1 (k n : Nat) (z : Int) (L : List Int) : Instr := bif Nat.beq k 1 then .bipush z else .nop
def zS1 (T : zTb) (fl : Bool) (M : zM) (pc k n : Nat) (z : Int) (L : List Int) (len : Nat) (st : zS) : zR := bif Nat.beq k 1 then z_g len 2 (z_bpush z st) else none
theorem zE1 {T : zTb} {fl : Bool} {M : zM} {pc k n : Nat} {z : Int} {L : List Int} {len : Nat} {st : zS} : zS1 T fl M pc k n z L len st = zstep T fl M pc (zD1 k n z L) len st := by
  unfold zS1 zD1
  cases Nat.beq k 1 with
  | true => exact rfl
  | false => rfl
theorem zK1 {k n : Nat} {z : Int} {L : List Int} : z_spk (zD1 k n z L) = none := by
  unfold zD1
  cases Nat.beq k 1 with
  | true => rfl
  | false => rfl
def zD2 (k n : Nat) (z : Int) (L : List Int) : Instr := bif Nat.beq k 2 then .sipush z else .nop
def zS2 (T : zTb) (fl : Bool) (M : zM) (pc k n : Nat) (z : Int) (L : List Int) (len : Nat) (st : zS) : zR := bif Nat.beq k 2 then z_g len 3 (z_ipush z st) else none
theorem zE2 {T : zTb} {fl : Bool} {M : zM} {pc k n : Nat} {z : Int} {L : List Int} {len : Nat} {st : zS} : zS2 T fl M pc k n z L len st = zstep T fl M pc (zD2 k n z L) len st := by
  unfold zS2 zD2
  cases Nat.beq k 2 with
  | true => exact rfl
  | false => rfl
theorem zK2 {k n : Nat} {z : Int} {L : List Int} : z_spk (zD2 k n z L) = none := by
  unfold zD2
  cases Nat.beq k 2 with
  | true => rfl
  | false => rfl
def zD3 (k n : Nat) (z : Int) (L : List Int) : Instr := bif Nat.blt k 2 then zD1 k n z L else zD2 k n z L
def zS3 (T : zTb) (fl : Bool) (M : zM) (pc k n : Nat) (z : Int) (L : List Int) (len : Nat) (st : zS) : zR := bif Nat.blt k 2 then zS1 T fl M pc k n z L len st else zS2 T fl M pc k n z L len st
theorem zE3 {T : zTb} {fl : Bool} {M : zM} {pc k n : Nat} {z : Int} {L : List Int} {len : Nat} {st : zS} : zS3 T fl M pc k n z L len st = zstep T fl M pc (zD3 k n z L) len st := by
  unfold zS3 zD3
  cases Nat.blt k 2 with
  | true => exact zE1 (n := n) (z := z) (L := L)
  | false => exact zE2 (n := n) (z := z) (L := L)
theorem zK3 {k n : Nat} {z : Int} {L : List Int} : z_spk (zD3 k n z L) = none := by
  unfold zD3
  cases Nat.blt k 2 with
  | true => exact zK1 (n := n) (z := z) (L := L)
  | false => exact zK2 (n := n) (z := z) (L := L)
def zD4 (k n : Nat) (z : Int) (L : List Int) : Instr := bif Nat.blt k 1 then zD0 k n z L else zD3 k n z L
def zS4 (T : zTb) (fl : Bool) (M : zM) (pc k n : Nat) (z : Int) (L : List Int) (len : Nat) (st : zS) : zR := bif Nat.blt k 1 then zS0 T fl M pc k n z L len st else zS3 T fl M pc k n z L len st
theorem zE4 {T : zTb} {fl : Bool} {M : zM} {pc k n : Nat} {z : Int} {L : List Int} {len : Nat} {st : zS} : zS4 T fl M pc k n z L len st = zstep T fl M pc (zD4 k n z L) len st := by
  unfold zS4 zD4
  cases Nat.blt k 1 with
  | true => exact zE0 (n := n) (z := z) (L := L)
  | false => exact zE3 (n := n) (z := z) (L := L)
theorem zK4 {k n : Nat} {z : Int} {L : List Int} : z_spk (zD4 k n z L) = none := by
  unfold zD4
  cases Nat.blt k 1 with
  | true => exact zK0 (n := n) (z := z) (L := L)
  | false => exact zK3 (n := n) (z := z) (L := L)
def zD5 (k n : Nat) (z : Int) (L : List Int) : Instr := bif Nat.beq k 3 then .lconst 0 else .nop
def zS5 (T : zTb) (fl : Bool) (M : zM) (pc k n : Nat) (z : Int) (L : List Int) (len : Nat) (st : zS) : zR := bif Nat.beq k 3 then z_g len 1 (z_push (1, 0, 0) st) else none
theorem zE5 {T : zTb} {fl : Bool} {M : zM} {pc k n : Nat} {z : Int} {L : List Int} {len : Nat} {st : zS} : zS5 T fl M pc k n z L len st = zstep T fl M pc (zD5 k n z L) len st := by
  unfold zS5 zD5
  cases Nat.beq k 3 with
  | true => exact rfl
  | false => rfl
theorem zK5 {k n : Nat} {z : Int} {L : List Int} : z_spk (zD5 k n z L) = none := by
  unfold zD5
  cases Nat.beq k 3 with
  | true => rfl
  | false => rfl
def zD6 (k n : Nat) (z : Int) (L : List Int) : Instr := bif Nat.beq k 4 then .lconst 1 else .nop
def zS6 (T : zTb) (fl : Bool) (M : zM) (pc k n : Nat) (z : Int) (L : List Int) (len : Nat) (st : zS) : zR := bif Nat.beq k 4 then z_g len 1 (z_push (1, 0, 1) st) else none
theorem zE6 {T : zTb} {fl : Bool} {M : zM} {pc k n : Nat} {z : Int} {L : List Int} {len : Nat} {st : zS} : zS6 T fl M pc k n z L len st = zstep T fl M pc (zD6 k n z L) len st := by
  unfold zS6 zD6
  cases Nat.beq k 4 with
  | true => exact rfl
  | false => rfl
theorem zK6 {k n : Nat} {z : Int} {L : List Int} : z_spk (zD6 k n z L) = none := by
  unfold zD6
  cases Nat.beq k 4 with
  | true => rfl
  | false => rfl
def zD7 (k n : Nat) (z : Int) (L : List Int) : Instr := bif Nat.beq k 5 then .aconst_null else .nop
def zS7 (T : zTb) (fl : Bool) (M : zM) (pc k n : Nat) (z : Int) (L : List Int) (len : Nat) (st : zS) : zR := bif Nat.beq k 5 then z_g len 1 (z_push (3, 0, 0) st) else none
theorem zE7 {T : zTb} {fl : Bool} {M : zM} {pc k n : Nat} {z : Int} {L : List Int} {len : Nat} {st : zS} : zS7 T fl M pc k n z L len st = zstep T fl M pc (zD7 k n z L) len st := by
  unfold zS7 zD7
  cases Nat.beq k 5 with
  | true => exact rfl
  | false => rfl
theorem zK7 {k n : Nat} {z : Int} {L : List Int} : z_spk (zD7 k n z L) = none := by
  unfold zD7
  cases Nat.beq k 5 with
  | true => rfl
  | false => rfl
def zD8 (k n : Nat) (z : Int) (L : List Int) : Instr := bif Nat.blt k 5 then zD6 k n z L else zD7 k n z L
def zS8 (T : zTb) (fl : Bool) (M : zM) (pc k n : Nat) (z : Int) (L : List Int) (len : Nat) (st : zS) : zR := bif Nat.blt k 5 then zS6 T fl M pc k n z L len st else zS7 T fl M pc k n z L len st
theorem zE8 {T : zTb} {fl : Bool} {M : zM} {pc k n : Nat} {z : Int} {L : List Int} {len : Nat} {st : zS} : zS8 T fl M pc k n z L len st = zstep T fl M pc (zD8 k n z L) len st := by
  unfold zS8 zD8
  cases Nat.blt k 5 with
  | true => exact zE6 (n := n) (z := z) (L := L)
  | false => exact zE7 (n := n) (z := z) (L := L)
theorem zK8 {k n : Nat} {z : Int} {L : List Int} : z_spk (zD8 k n z L) = none := by
  unfold zD8
  cases Nat.blt k 5 with
  | true => exact zK6 (n := n) (z := z) (L := L)
  | false => exact zK7 (n := n) (z := z) (L := L)
def zD9 (k n : Nat) (z : Int) (L : List Int) : Instr := bif Nat.blt k 4 then zD5 k n z L else zD8 k n z L
def zS9 (T : zTb) (fl : Bool) (M : zM) (pc k n : Nat) (z : Int) (L : List Int) (len : Nat) (st : zS) : zR := bif Nat.blt k 4 then zS5 T fl M pc k n z L len st else zS8 T fl M pc k n z L len st
theorem zE9 {T : zTb} {fl : Bool} {M : zM} {pc k n : Nat} {z : Int} {L : List Int} {len : Nat} {st : zS} : zS9 T fl M pc k n z L len st = zstep T fl M pc (zD9 k n z L) len st := by
  unfold zS9 zD9
  cases Nat.blt k 4 with
  | true => exact zE5 (n := n) (z := z) (L := L)
  | false => exact zE8 (n := n) (z := z) (L := L)
theorem zK9 {k n : Nat} {z : Int} {L : List Int} : z_spk (zD9 k n z L) = none := by
  unfold zD9
  cases Nat.blt k 4 with
  | true => exact zK5 (n := n) (z := z) (L := L)
  | false => exact zK8 (n := n) (z := z) (L := L)
def zD10 (k n : Nat) (z : Int) (L : List Int) : Instr := bif Nat.blt k 3 then zD4 k n z L else zD9 k n z L
def zS10 (T : zTb) (fl : Bool) (M : zM) (pc k n : Nat) (z : Int) (L : List Int) (len : Nat) (st : zS) : zR := bif Nat.blt k 3 then zS4 T fl M pc k n z L len st else zS9 T fl M pc k n z L len st
theorem zE10 {T : zTb} {fl : Bool} {M : zM} {pc k n : Nat} {z : Int} {L : List Int} {len : Nat} {st : zS} : zS10 T fl M pc k n z L len st = zstep T fl M pc (zD10 k n z L) len st := by
  unfold zS10 zD10
  cases Nat.blt k 3 with
  | true => exact zE4 (n := n) (z := z) (L := L)
  | false => exact zE9 (n := n) (z := z) (L := L)
theorem zK10 {k n : Nat} {z : Int} {L : List Int} : z_spk (zD10 k n z L) = none := by
  unfold zD10
  cases Nat.blt k 3 with
  | true => exact zK4 (n := n) (z := z) (L := L)
  | false => exact zK9 (n := n) (z := z) (L := L)
def zD11 (k n : Nat) (z : Int) (L : List Int) : Instr := bif Nat.beq k 6 then .ldc n else .nop
def zS11 (T : zTb) (fl : Bool) (M : zM) (pc k n : Nat) (z : Int) (L : List Int) (len : Nat) (st : zS) : zR := bif Nat.beq k 6 then z_g len 2 (z_ldc T.2.2.2.2.2.2.2.1 M.2.2.2.2.2.2.2.1 n st) else none
theorem zE11 {T : zTb} {fl : Bool} {M : zM} {pc k n : Nat} {z : Int} {L : List Int} {len : Nat} {st : zS} : zS11 T fl M pc k n z L len st = zstep T fl M pc (zD11 k n z L) len st := by
  unfold zS11 zD11
  cases Nat.beq k 6 with
  | true => exact rfl
  | false => rfl
theorem zK11 {k n : Nat} {z : Int} {L : List Int} : z_spk (zD11 k n z L) = none := by
  unfold zD11
  cases Nat.beq k 6 with
  | true => rfl
  | false => rfl
def zD12 (k n : Nat) (z : Int) (L : List Int) : Instr := bif Nat.beq k 7 then .ldc_w n else .nop
def zS12 (T : zTb) (fl : Bool) (M : zM) (pc k n : Nat) (z : Int) (L : List Int) (len : Nat) (st : zS) : zR := bif Nat.beq k 7 then z_g len 3 (z_ldc T.2.2.2.2.2.2.2.1 M.2.2.2.2.2.2.2.1 n st) else none
theorem zE12 {T : zTb} {fl : Bool} {M : zM} {pc k n : Nat} {z : Int} {L : List Int} {len : Nat} {st : zS} : zS12 T fl M pc k n z L len st = zstep T fl M pc (zD12 k n z L) len st := by
  unfold zS12 zD12
  cases Nat.beq k 7 with
  | true => exact rfl
  | false => rfl
theorem zK12 {k n : Nat} {z : Int} {L : List Int} : z_spk (zD12 k n z L) = none := by
  unfold zD12
  cases Nat.beq k 7 with
  | true => rfl
  | false => rfl
def zD13 (k n : Nat) (z : Int) (L : List Int) : Instr := bif Nat.beq k 8 then .ldc2_w n else .nop
def zS13 (T : zTb) (fl : Bool) (M : zM) (pc k n : Nat) (z : Int) (L : List Int) (len : Nat) (st : zS) : zR := bif Nat.beq k 8 then z_g len 3 (z_ldc2 T.2.2.2.2.2.2.2.2.1 M.2.2.2.2.2.2.2.1 n st) else none
theorem zE13 {T : zTb} {fl : Bool} {M : zM} {pc k n : Nat} {z : Int} {L : List Int} {len : Nat} {st : zS} : zS13 T fl M pc k n z L len st = zstep T fl M pc (zD13 k n z L) len st := by
  unfold zS13 zD13
  cases Nat.beq k 8 with
  | true => exact rfl
  | false => rfl
theorem zK13 {k n : Nat} {z : Int} {L : List Int} : z_spk (zD13 k n z L) = none := by
  unfold zD13
  cases Nat.beq k 8 with
  | true => rfl
  | false => rfl
def zD14 (k n : Nat) (z : Int) (L : List Int) : Instr := bif Nat.blt k 8 then zD12 k n z L else zD13 k n z L
def zS14 (T : zTb) (fl : Bool) (M : zM) (pc k n : Nat) (z : Int) (L : List Int) (len : Nat) (st : zS) : zR := bif Nat.blt k 8 then zS12 T fl M pc k n z L len st else zS13 T fl M pc k n z L len st
theorem zE14 {T : zTb} {fl : Bool} {M : zM} {pc k n : Nat} {z : Int} {L : List Int} {len : Nat} {st : zS} : zS14 T fl M pc k n z L len st = zstep T fl M pc (zD14 k n z L) len st := by
  unfold zS14 zD14
  cases Nat.blt k 8 with
  | true => exact zE12 (n := n) (z := z) (L := L)
  | false => exact zE13 (n := n) (z := z) (L := L)
theorem zK14 {k n : Nat} {z : Int} {L : List Int} : z_spk (zD14 k n z L) = none := by
  unfold zD14
  cases Nat.blt k 8 with
  | true => exact zK12 (n := n) (z := z) (L := L)
  | false => exact zK13 (n := n) (z := z) (L := L)
def zD15 (k n : Nat) (z : Int) (L : List Int) : Instr := bif Nat.blt k 7 then zD11 k n z L else zD14 k n z L
def zS15 (T : zTb) (fl : Bool) (M : zM) (pc k n : Nat) (z : Int) (L : List Int) (len : Nat) (st : zS) : zR := bif Nat.blt k 7 then zS11 T fl M pc k n z L len st else zS14 T fl M pc k n z L len st
theorem zE15 {T : zTb} {fl : Bool} {M : zM} {pc k n : Nat} {z : Int} {L : List Int} {len : Nat} {st : zS} : zS15 T fl M pc k n z L len st = zstep T fl M pc (zD15 k n z L) len st := by
  unfold zS15 zD15
  cases Nat.blt k 7 with
  | true => exact zE11 (n := n) (z := z) (L := L)
  | false => exact zE14 (n := n) (z := z) (L := L)
theorem zK15 {k n : Nat} {z : Int} {L : List Int} : z_spk (zD15 k n z L) = none := by
  unfold zD15
  cases Nat.blt k 7 with
  | true => exact zK11 (n := n) (z := z) (L := L)
  | false => exact zK14 (n := n) (z := z) (L := L)
def zD16 (k n : Nat) (z : Int) (L : List Int) : Instr := bif Nat.beq k 9 then .iload n else .nop
def zS16 (T : zTb) (fl : Bool) (M : zM) (pc k n : Nat) (z : Int) (L : List Int) (len : Nat) (st : zS) : zR := bif Nat.beq k 9 then z_g len 2 (z_ld z_k0 n st) else none
theorem zE16 {T : zTb} {fl : Bool} {M : zM} {pc k n : Nat} {z : Int} {L : List Int} {len : Nat} {st : zS} : zS16 T fl M pc k n z L len st = zstep T fl M pc (zD16 k n z L) len st := by
  unfold zS16 zD16
  cases Nat.beq k 9 with
  | true => exact rfl
  | false => rfl
theorem zK16 {k n : Nat} {z : Int} {L : List Int} : z_spk (zD16 k n z L) = none := by
  unfold zD16
  cases Nat.beq k 9 with
  | true => rfl
  | false => rfl
def zD17 (k n : Nat) (z : Int) (L : List Int) : Instr := bif Nat.beq k 10 then .iload_n 0 else .nop
def zS17 (T : zTb) (fl : Bool) (M : zM) (pc k n : Nat) (z : Int) (L : List Int) (len : Nat) (st : zS) : zR := bif Nat.beq k 10 then z_g len 1 (z_ld z_k0 0 st) else none
theorem zE17 {T : zTb} {fl : Bool} {M : zM} {pc k n : Nat} {z : Int} {L : List Int} {len : Nat} {st : zS} : zS17 T fl M pc k n z L len st = zstep T fl M pc (zD17 k n z L) len st := by
  unfold zS17 zD17
  cases Nat.beq k 10 with
  | true => exact rfl
  | false => rfl
theorem zK17 {k n : Nat} {z : Int} {L : List Int} : z_spk (zD17 k n z L) = none := by
  unfold zD17
  cases Nat.beq k 10 with
  | true => rfl
  | false => rfl
def zD18 (k n : Nat) (z : Int) (L : List Int) : Instr := bif Nat.beq k 11 then .iload_n 1 else .nop
def zS18 (T : zTb) (fl : Bool) (M : zM) (pc k n : Nat) (z : Int) (L : List Int) (len : Nat) (st : zS) : zR := bif Nat.beq k 11 then z_g len 1 (z_ld z_k0 1 st) else none
theorem zE18 {T : zTb} {fl : Bool} {M : zM} {pc k n : Nat} {z : Int} {L : List Int} {len : Nat} {st : zS} : zS18 T fl M pc k n z L len st = zstep T fl M pc (zD18 k n z L) len st := by
  unfold zS18 zD18
  cases Nat.beq k 11 with
  | true => exact rfl
  | false => rfl
theorem zK18 {k n : Nat} {z : Int} {L : List Int} : z_spk (zD18 k n z L) = none := by
  unfold zD18
  cases Nat.beq k 11 with
  | true => rfl
  | false => rfl
def zD19 (k n : Nat) (z : Int) (L : List Int) : Instr := bif Nat.blt k 11 then zD17 k n z L else zD18 k n z L
def zS19 (T : zTb) (fl : Bool) (M : zM) (pc k n : Nat) (z : Int) (L : List Int) (len : Nat) (st : zS) : zR := bif Nat.blt k 11 then zS17 T fl M pc k n z L len st else zS18 T fl M pc k n z L len st
theorem zE19 {T : zTb} {fl : Bool} {M : zM} {pc k n : Nat} {z : Int} {L : List Int} {len : Nat} {st : zS} : zS19 T fl M pc k n z L len st = zstep T fl M pc (zD19 k n z L) len st := by
  unfold zS19 zD19
  cases Nat.blt k 11 with
  | true => exact zE17 (n := n) (z := z) (L := L)
  | false => exact zE18 (n := n) (z := z) (L := L)
theorem zK19 {k n : Nat} {z : Int} {L : List Int} : z_spk (zD19 k n z L) = none := by
  unfold zD19
  cases Nat.blt k 11 with
  | true => exact zK17 (n := n) (z := z) (L := L)
  | false => exact zK18 (n := n) (z := z) (L := L)
def zD20 (k n : Nat) (z : Int) (L : List Int) : Instr := bif Nat.blt k 10 then zD16 k n z L else zD19 k n z L
def zS20 (T : zTb) (fl : Bool) (M : zM) (pc k n : Nat) (z : Int) (L : List Int) (len : Nat) (st : zS) : zR := bif Nat.blt k 10 then zS16 T fl M pc k n z L len st else zS19 T fl M pc k n z L len st
theorem zE20 {T : zTb} {fl : Bool} {M : zM} {pc k n : Nat} {z : Int} {L : List Int} {len : Nat} {st : zS} : zS20 T fl M pc k n z L len st = zstep T fl M pc (zD20 k n z L) len st := by
  unfold zS20 zD20
  cases Nat.blt k 10 with
  | true => exact zE16 (n := n) (z := z) (L := L)
  | false => exact zE19 (n := n) (z := z) (L := L)
theorem zK20 {k n : Nat} {z : Int} {L : List Int} : z_spk (zD20 k n z L) = none := by
  unfold zD20
  cases Nat.blt k 10 with
  | true => exact zK16 (n := n) (z := z) (L := L)
  | false => exact zK19 (n := n) (z := z) (L := L)
def zD21 (k n : Nat) (z : Int) (L : List Int) : Instr := bif Nat.blt k 9 then zD15 k n z L else zD20 k n z L
def zS21 (T : zTb) (fl : Bool) (M : zM) (pc k n : Nat) (z : Int) (L : List Int) (len : Nat) (st : zS) : zR := bif Nat.blt k 9 then zS15 T fl M pc k n z L len st else zS20 T fl M pc k n z L len st
theorem zE21 {T : zTb} {fl : Bool} {M : zM} {pc k n : Nat} {z : Int} {L : List Int} {len : Nat} {st : zS} : zS21 T fl M pc k n z L len st = zstep T fl M pc (zD21 k n z L) len st := by
  unfold zS21 zD21
  cases Nat.blt k 9 with
  | true => exact zE15 (n := n) (z := z) (L := L)
  | false => exact zE20 (n := n) (z := z) (L := L)
theorem zK21 {k n : Nat} {z : Int} {L : List Int} : z_spk (zD21 k n z L) = none := by
  unfold zD21
  cases Nat.blt k 9 with
  | true => exact zK15 (n := n) (z := z) (L := L)
  | false => exact zK20 (n := n) (z := z) (L := L)
def zD22 (k n : Nat) (z : Int) (L : List Int) : Instr := bif Nat.blt k 6 then zD10 k n z L else zD21 k n z L
def zS22 (T : zTb) (fl : Bool) (M : zM) (pc k n : Nat) (z : Int) (L : List Int) (len : Nat) (st : zS) : zR := bif Nat.blt k 6 then zS10 T fl M pc k n z L len st else zS21 T fl M pc k n z L len st
theorem zE22 {T : zTb} {fl : Bool} {M : zM} {pc k n : Nat} {z : Int} {L : List Int} {len : Nat} {st : zS} : zS22 T fl M pc k n z L len st = zstep T fl M pc (zD22 k n z L) len st := by
  unfold zS22 zD22
  cases Nat.blt k 6 with
  | true => exact zE10 (n := n) (z := z) (L := L)
  | false => exact zE21 (n := n) (z := z) (L := L)
theorem zK22 {k n : Nat} {z : Int} {L : List Int} : z_spk (zD22 k n z L) = none := by
  unfold zD22
  cases Nat.blt k 6 with
  | true => exact zK10 (n := n) (z := z) (L := L)
  | false => exact zK21 (n := n) (z := z) (L := L)
def zD23 (k n : Nat) (z : Int) (L : List Int) : Instr := bif Nat.beq k 12 then .iload_n 2 else .nop
def zS23 (T : zTb) (fl : Bool) (M : zM) (pc k n : Nat) (z : Int) (L : List Int) (len : Nat) (st : zS) : zR := bif Nat.beq k 12 then z_g len 1 (z_ld z_k0 2 st) else none
theorem zE23 {T : zTb} {fl : Bool} {M : zM} {pc k n : Nat} {z : Int} {L : List Int} {len : Nat} {st : zS} : zS23 T fl M pc k n z L len st = zstep T fl M pc (zD23 k n z L) len st := by
  unfold zS23 zD23
  cases Nat.beq k 12 with
  | true => exact rfl
  | false => rfl
theorem zK23 {k n : Nat} {z : Int} {L : List Int} : z_spk (zD23 k n z L) = none := by
  unfold zD23
  cases Nat.beq k 12 with
  | true => rfl
  | false => rfl
def zD24 (k n : Nat) (z : Int) (L : List Int) : Instr := bif Nat.beq k 13 then .iload_n 3 else .nop
def zS24 (T : zTb) (fl : Bool) (M : zM) (pc k n : Nat) (z : Int) (L : List Int) (len : Nat) (st : zS) : zR := bif Nat.beq k 13 then z_g len 1 (z_ld z_k0 3 st) else none
theorem zE24 {T : zTb} {fl : Bool} {M : zM} {pc k n : Nat} {z : Int} {L : List Int} {len : Nat} {st : zS} : zS24 T fl M pc k n z L len st = zstep T fl M pc (zD24 k n z L) len st := by
  unfold zS24 zD24
  cases Nat.beq k 13 with
  | true => exact rfl
  | false => rfl
theorem zK24 {k n : Nat} {z : Int} {L : List Int} : z_spk (zD24 k n z L) = none := by
  unfold zD24
  cases Nat.beq k 13 with
  | true => rfl
  | false => rfl
def zD25 (k n : Nat) (z : Int) (L : List Int) : Instr := bif Nat.beq k 14 then .lload n else .nop
def zS25 (T : zTb) (fl : Bool) (M : zM) (pc k n : Nat) (z : Int) (L : List Int) (len : Nat) (st : zS) : zR := bif Nat.beq k 14 then z_g len 2 (z_ld z_k1 n st) else none
theorem zE25 {T : zTb} {fl : Bool} {M : zM} {pc k n : Nat} {z : Int} {L : List Int} {len : Nat} {st : zS} : zS25 T fl M pc k n z L len st = zstep T fl M pc (zD25 k n z L) len st := by
  unfold zS25 zD25
  cases Nat.beq k 14 with
  | true => exact rfl
  | false => rfl
theorem zK25 {k n : Nat} {z : Int} {L : List Int} : z_spk (zD25 k n z L) = none := by
  unfold zD25
  cases Nat.beq k 14 with
  | true => rfl
  | false => rfl
def zD26 (k n : Nat) (z : Int) (L : List Int) : Instr := bif Nat.blt k 14 then zD24 k n z L else zD25 k n z L
def zS26 (T : zTb) (fl : Bool) (M : zM) (pc k n : Nat) (z : Int) (L : List Int) (len : Nat) (st : zS) : zR := bif Nat.blt k 14 then zS24 T fl M pc k n z L len st else zS25 T fl M pc k n z L len st
theorem zE26 {T : zTb} {fl : Bool} {M : zM} {pc k n : Nat} {z : Int} {L : List Int} {len : Nat} {st : zS} : zS26 T fl M pc k n z L len st = zstep T fl M pc (zD26 k n z L) len st := by
  unfold zS26 zD26
  cases Nat.blt k 14 with
  | true => exact zE24 (n := n) (z := z) (L := L)
  | false => exact zE25 (n := n) (z := z) (L := L)
theorem zK26 {k n : Nat} {z : Int} {L : List Int} : z_spk (zD26 k n z L) = none := by
  unfold zD26
  cases Nat.blt k 14 with
  | true => exact zK24 (n := n) (z := z) (L := L)
  | false => exact zK25 (n := n) (z := z) (L := L)
def zD27 (k n : Nat) (z : Int) (L : List Int) : Instr := bif Nat.blt k 13 then zD23 k n z L else zD26 k n z L
def zS27 (T : zTb) (fl : Bool) (M : zM) (pc k n : Nat) (z : Int) (L : List Int) (len : Nat) (st : zS) : zR := bif Nat.blt k 13 then zS23 T fl M pc k n z L len st else zS26 T fl M pc k n z L len st
theorem zE27 {T : zTb} {fl : Bool} {M : zM} {pc k n : Nat} {z : Int} {L : List Int} {len : Nat} {st : zS} : zS27 T fl M pc k n z L len st = zstep T fl M pc (zD27 k n z L) len st := by
  unfold zS27 zD27
  cases Nat.blt k 13 with
  | true => exact zE23 (n := n) (z := z) (L := L)
  | false => exact zE26 (n := n) (z := z) (L := L)
theorem zK27 {k n : Nat} {z : Int} {L : List Int} : z_spk (zD27 k n z L) = none := by
  unfold zD27
  cases Nat.blt k 13 with
  | true => exact zK23 (n := n) (z := z) (L := L)
  | false => exact zK26 (n := n) (z := z) (L := L)
def zD28 (k n : Nat) (z : Int) (L : List Int) : Instr := bif Nat.beq k 15 then .lload_n 0 else .nop
def zS28 (T : zTb) (fl : Bool) (M : zM) (pc k n : Nat) (z : Int) (L : List Int) (len : Nat) (st : zS) : zR := bif Nat.beq k 15 then z_g len 1 (z_ld z_k1 0 st) else none
theorem zE28 {T : zTb} {fl : Bool} {M : zM} {pc k n : Nat} {z : Int} {L : List Int} {len : Nat} {st : zS} : zS28 T fl M pc k n z L len st = zstep T fl M pc (zD28 k n z L) len st := by
  unfold zS28 zD28
  cases Nat.beq k 15 with
  | true => exact rfl
  | false => rfl
theorem zK28 {k n : Nat} {z : Int} {L : List Int} : z_spk (zD28 k n z L) = none := by
  unfold zD28
  cases Nat.beq k 15 with
  | true => rfl
  | false => rfl
def zD29 (k n : Nat) (z : Int) (L : List Int) : Instr := bif Nat.beq k 16 then .lload_n 1 else .nop
def zS29 (T : zTb) (fl : Bool) (M : zM) (pc k n : Nat) (z : Int) (L : List Int) (len : Nat) (st : zS) : zR := bif Nat.beq k 16 then z_g len 1 (z_ld z_k1 1 st) else none
theorem zE29 {T : zTb} {fl : Bool} {M : zM} {pc k n : Nat} {z : Int} {L : List Int} {len : Nat} {st : zS} : zS29 T fl M pc k n z L len st = zstep T fl M pc (zD29 k n z L) len st := by
  unfold zS29 zD29
  cases Nat.beq k 16 with
  | true => exact rfl
  | false => rfl
theorem zK29 {k n : Nat} {z : Int} {L : List Int} : z_spk (zD29 k n z L) = none := by
  unfold zD29
  cases Nat.beq k 16 with
  | true => rfl
  | false => rfl
def zD30 (k n : Nat) (z : Int) (L : List Int) : Instr := bif Nat.beq k 17 then .lload_n 2 else .nop
def zS30 (T : zTb) (fl : Bool) (M : zM) (pc k n : Nat) (z : Int) (L : List Int) (len : Nat) (st : zS) : zR := bif Nat.beq k 17 then z_g len 1 (z_ld z_k1 2 st) else none
theorem zE30 {T : zTb} {fl : Bool} {M : zM} {pc k n : Nat} {z : Int} {L : List Int} {len : Nat} {st : zS} : zS30 T fl M pc k n z L len st = zstep T fl M pc (zD30 k n z L) len st := by
  unfold zS30 zD30
  cases Nat.beq k 17 with
  | true => exact rfl
  | false => rfl
theorem zK30 {k n : Nat} {z : Int} {L : List Int} : z_spk (zD30 k n z L) = none := by
  unfold zD30
  cases Nat.beq k 17 with
  | true => rfl
  | false => rfl
def zD31 (k n : Nat) (z : Int) (L : List Int) : Instr := bif Nat.blt k 17 then zD29 k n z L else zD30 k n z L
def zS31 (T : zTb) (fl : Bool) (M : zM) (pc k n : Nat) (z : Int) (L : List Int) (len : Nat) (st : zS) : zR := bif Nat.blt k 17 then zS29 T fl M pc k n z L len st else zS30 T fl M pc k n z L len st
theorem zE31 {T : zTb} {fl : Bool} {M : zM} {pc k n : Nat} {z : Int} {L : List Int} {len : Nat} {st : zS} : zS31 T fl M pc k n z L len st = zstep T fl M pc (zD31 k n z L) len st := by
  unfold zS31 zD31
  cases Nat.blt k 17 with
  | true => exact zE29 (n := n) (z := z) (L := L)
  | false => exact zE30 (n := n) (z := z) (L := L)
theorem zK31 {k n : Nat} {z : Int} {L : List Int} : z_spk (zD31 k n z L) = none := by
  unfold zD31
  cases Nat.blt k 17 with
  | true => exact zK29 (n := n) (z := z) (L := L)
  | false => exact zK30 (n := n) (z := z) (L := L)
def zD32 (k n : Nat) (z : Int) (L : List Int) : Instr := bif Nat.blt k 16 then zD28 k n z L else zD31 k n z L
def zS32 (T : zTb) (fl : Bool) (M : zM) (pc k n : Nat) (z : Int) (L : List Int) (len : Nat) (st : zS) : zR := bif Nat.blt k 16 then zS28 T fl M pc k n z L len st else zS31 T fl M pc k n z L len st
theorem zE32 {T : zTb} {fl : Bool} {M : zM} {pc k n : Nat} {z : Int} {L : List Int} {len : Nat} {st : zS} : zS32 T fl M pc k n z L len st = zstep T fl M pc (zD32 k n z L) len st := by
  unfold zS32 zD32
  cases Nat.blt k 16 with
  | true => exact zE28 (n := n) (z := z) (L := L)
  | false => exact zE31 (n := n) (z := z) (L := L)
theorem zK32 {k n : Nat} {z : Int} {L : List Int} : z_spk (zD32 k n z L) = none := by
  unfold zD32
  cases Nat.blt k 16 with
  | true => exact zK28 (n := n) (z := z) (L := L)
  | false => exact zK31 (n := n) (z := z) (L := L)
def zD33 (k n : Nat) (z : Int) (L : List Int) : Instr := bif Nat.blt k 15 then zD27 k n z L else zD32 k n z L
def zS33 (T : zTb) (fl : Bool) (M : zM) (pc k n : Nat) (z : Int) (L : List Int) (len : Nat) (st : zS) : zR := bif Nat.blt k 15 then zS27 T fl M pc k n z L len st else zS32 T fl M pc k n z L len st
theorem zE33 {T : zTb} {fl : Bool} {M : zM} {pc k n : Nat} {z : Int} {L : List Int} {len : Nat} {st : zS} : zS33 T fl M pc k n z L len st = zstep T fl M pc (zD33 k n z L) len st := by
  unfold zS33 zD33
  cases Nat.blt k 15 with
  | true => exact zE27 (n := n) (z := z) (L := L)
  | false => exact zE32 (n := n) (z := z) (L := L)
theorem zK33 {k n : Nat} {z : Int} {L : List Int} : z_spk (zD33 k n z L) = none := by
  unfold zD33
  cases Nat.blt k 15 with
  | true => exact zK27 (n := n) (z := z) (L := L)
  | false => exact zK32 (n := n) (z := z) (L := L)
def zD34 (k n : Nat) (z : Int) (L : List Int) : Instr := bif Nat.beq k 18 then .lload_n 3 else .nop
def zS34 (T : zTb) (fl : Bool) (M : zM) (pc k n : Nat) (z : Int) (L : List Int) (len : Nat) (st : zS) : zR := bif Nat.beq k 18 then z_g len 1 (z_ld z_k1 3 st) else none
theorem zE34 {T : zTb} {fl : Bool} {M : zM} {pc k n : Nat} {z : Int} {L : List Int} {len : Nat} {st : zS} : zS34 T fl M pc k n z L len st = zstep T fl M pc (zD34 k n z L) len st := by
  unfold zS34 zD34
  cases Nat.beq k 18 with
  | true => exact rfl
  | false => rfl
theorem zK34 {k n : Nat} {z : Int} {L : List Int} : z_spk (zD34 k n z L) = none := by
  unfold zD34
  cases Nat.beq k 18 with
  | true => rfl
  | false => rfl
def zD35 (k n : Nat) (z : Int) (L : List Int) : Instr := bif Nat.beq k 19 then .aload n else .nop
def zS35 (T : zTb) (fl : Bool) (M : zM) (pc k n : Nat) (z : Int) (L : List Int) (len : Nat) (st : zS) : zR := bif Nat.beq k 19 then z_g len 2 (z_ld z_kr n st) else none
theorem zE35 {T : zTb} {fl : Bool} {M : zM} {pc k n : Nat} {z : Int} {L : List Int} {len : Nat} {st : zS} : zS35 T fl M pc k n z L len st = zstep T fl M pc (zD35 k n z L) len st := by
  unfold zS35 zD35
  cases Nat.beq k 19 with
  | true => exact rfl
  | false => rfl
theorem zK35 {k n : Nat} {z : Int} {L : List Int} : z_spk (zD35 k n z L) = none := by
  unfold zD35
  cases Nat.beq k 19 with
  | true => rfl
  | false => rfl
def zD36 (k n : Nat) (z : Int) (L : List Int) : Instr := bif Nat.beq k 20 then .aload_n 0 else .nop
def zS36 (T : zTb) (fl : Bool) (M : zM) (pc k n : Nat) (z : Int) (L : List Int) (len : Nat) (st : zS) : zR := bif Nat.beq k 20 then z_g len 1 (z_ld z_kr 0 st) else none
theorem zE36 {T : zTb} {fl : Bool} {M : zM} {pc k n : Nat} {z : Int} {L : List Int} {len : Nat} {st : zS} : zS36 T fl M pc k n z L len st = zstep T fl M pc (zD36 k n z L) len st := by
  unfold zS36 zD36
  cases Nat.beq k 20 with
  | true => exact rfl
  | false => rfl
theorem zK36 {k n : Nat} {z : Int} {L : List Int} : z_spk (zD36 k n z L) = none := by
  unfold zD36
  cases Nat.beq k 20 with
  | true => rfl
  | false => rfl
def zD37 (k n : Nat) (z : Int) (L : List Int) : Instr := bif Nat.blt k 20 then zD35 k n z L else zD36 k n z L
def zS37 (T : zTb) (fl : Bool) (M : zM) (pc k n : Nat) (z : Int) (L : List Int) (len : Nat) (st : zS) : zR := bif Nat.blt k 20 then zS35 T fl M pc k n z L len st else zS36 T fl M pc k n z L len st
theorem zE37 {T : zTb} {fl : Bool} {M : zM} {pc k n : Nat} {z : Int} {L : List Int} {len : Nat} {st : zS} : zS37 T fl M pc k n z L len st = zstep T fl M pc (zD37 k n z L) len st := by
  unfold zS37 zD37
  cases Nat.blt k 20 with
  | true => exact zE35 (n := n) (z := z) (L := L)
  | false => exact zE36 (n := n) (z := z) (L := L)
theorem zK37 {k n : Nat} {z : Int} {L : List Int} : z_spk (zD37 k n z L) = none := by
  unfold zD37
  cases Nat.blt k 20 with
  | true => exact zK35 (n := n) (z := z) (L := L)
  | false => exact zK36 (n := n) (z := z) (L := L)
def zD38 (k n : Nat) (z : Int) (L : List Int) : Instr := bif Nat.blt k 19 then zD34 k n z L else zD37 k n z L
def zS38 (T : zTb) (fl : Bool) (M : zM) (pc k n : Nat) (z : Int) (L : List Int) (len : Nat) (st : zS) : zR := bif Nat.blt k 19 then zS34 T fl M pc k n z L len st else zS37 T fl M pc k n z L len st
theorem zE38 {T : zTb} {fl : Bool} {M : zM} {pc k n : Nat} {z : Int} {L : List Int} {len : Nat} {st : zS} : zS38 T fl M pc k n z L len st = zstep T fl M pc (zD38 k n z L) len st := by
  unfold zS38 zD38
  cases Nat.blt k 19 with
  | true => exact zE34 (n := n) (z := z) (L := L)
  | false => exact zE37 (n := n) (z := z) (L := L)
theorem zK38 {k n : Nat} {z : Int} {L : List Int} : z_spk (zD38 k n z L) = none := by
  unfold zD38
  cases Nat.blt k 19 with
  | true => exact zK34 (n := n) (z := z) (L := L)
  | false => exact zK37 (n := n) (z := z) (L := L)
def zD39 (k n : Nat) (z : Int) (L : List Int) : Instr := bif Nat.beq k 21 then .aload_n 1 else .nop
def zS39 (T : zTb) (fl : Bool) (M : zM) (pc k n : Nat) (z : Int) (L : List Int) (len : Nat) (st : zS) : zR := bif Nat.beq k 21 then z_g len 1 (z_ld z_kr 1 st) else none
theorem zE39 {T : zTb} {fl : Bool} {M : zM} {pc k n : Nat} {z : Int} {L : List Int} {len : Nat} {st : zS} : zS39 T fl M pc k n z L len st = zstep T fl M pc (zD39 k n z L) len st := by
  unfold zS39 zD39
  cases Nat.beq k 21 with
  | true => exact rfl
  | false => rfl
theorem zK39 {k n : Nat} {z : Int} {L : List Int} : z_spk (zD39 k n z L) = none := by
  unfold zD39
  cases Nat.beq k 21 with
  | true => rfl
  | false => rfl
def zD40 (k n : Nat) (z : Int) (L : List Int) : Instr := bif Nat.beq k 22 then .aload_n 2 else .nop
def zS40 (T : zTb) (fl : Bool) (M : zM) (pc k n : Nat) (z : Int) (L : List Int) (len : Nat) (st : zS) : zR := bif Nat.beq k 22 then z_g len 1 (z_ld z_kr 2 st) else none
theorem zE40 {T : zTb} {fl : Bool} {M : zM} {pc k n : Nat} {z : Int} {L : List Int} {len : Nat} {st : zS} : zS40 T fl M pc k n z L len st = zstep T fl M pc (zD40 k n z L) len st := by
  unfold zS40 zD40
  cases Nat.beq k 22 with
  | true => exact rfl
  | false => rfl
theorem zK40 {k n : Nat} {z : Int} {L : List Int} : z_spk (zD40 k n z L) = none := by
  unfold zD40
  cases Nat.beq k 22 with
  | true => rfl
  | false => rfl
def zD41 (k n : Nat) (z : Int) (L : List Int) : Instr := bif Nat.blt k 22 then zD39 k n z L else zD40 k n z L
def zS41 (T : zTb) (fl : Bool) (M : zM) (pc k n : Nat) (z : Int) (L : List Int) (len : Nat) (st : zS) : zR := bif Nat.blt k 22 then zS39 T fl M pc k n z L len st else zS40 T fl M pc k n z L len st
theorem zE41 {T : zTb} {fl : Bool} {M : zM} {pc k n : Nat} {z : Int} {L : List Int} {len : Nat} {st : zS} : zS41 T fl M pc k n z L len st = zstep T fl M pc (zD41 k n z L) len st := by
  unfold zS41 zD41
  cases Nat.blt k 22 with
  | true => exact zE39 (n := n) (z := z) (L := L)
  | false => exact zE40 (n := n) (z := z) (L := L)
theorem zK41 {k n : Nat} {z : Int} {L : List Int} : z_spk (zD41 k n z L) = none := by
  unfold zD41
  cases Nat.blt k 22 with
  | true => exact zK39 (n := n) (z := z) (L := L)
  | false => exact zK40 (n := n) (z := z) (L := L)
def zD42 (k n : Nat) (z : Int) (L : List Int) : Instr := bif Nat.beq k 23 then .aload_n 3 else .nop
def zS42 (T : zTb) (fl : Bool) (M : zM) (pc k n : Nat) (z : Int) (L : List Int) (len : Nat) (st : zS) : zR := bif Nat.beq k 23 then z_g len 1 (z_ld z_kr 3 st) else none
theorem zE42 {T : zTb} {fl : Bool} {M : zM} {pc k n : Nat} {z : Int} {L : List Int} {len : Nat} {st : zS} : zS42 T fl M pc k n z L len st = zstep T fl M pc (zD42 k n z L) len st := by
  unfold zS42 zD42
  cases Nat.beq k 23 with
  | true => exact rfl
  | false => rfl
theorem zK42 {k n : Nat} {z : Int} {L : List Int} : z_spk (zD42 k n z L) = none := by
  unfold zD42
  cases Nat.beq k 23 with
  | true => rfl
  | false => rfl
def zD43 (k n : Nat) (z : Int) (L : List Int) : Instr := bif Nat.beq k 24 then .istore n else .nop
def zS43 (T : zTb) (fl : Bool) (M : zM) (pc k n : Nat) (z : Int) (L : List Int) (len : Nat) (st : zS) : zR := bif Nat.beq k 24 then z_g len 2 (z_sto z_k0 M.2.2.1 n st) else none
theorem zE43 {T : zTb} {fl : Bool} {M : zM} {pc k n : Nat} {z : Int} {L : List Int} {len : Nat} {st : zS} : zS43 T fl M pc k n z L len st = zstep T fl M pc (zD43 k n z L) len st := by
  unfold zS43 zD43
  cases Nat.beq k 24 with
  | true => exact rfl
  | false => rfl
theorem zK43 {k n : Nat} {z : Int} {L : List Int} : z_spk (zD43 k n z L) = none := by
  unfold zD43
  cases Nat.beq k 24 with
  | true => rfl
  | false => rfl
def zD44 (k n : Nat) (z : Int) (L : List Int) : Instr := bif Nat.blt k 24 then zD42 k n z L else zD43 k n z L
def zS44 (T : zTb) (fl : Bool) (M : zM) (pc k n : Nat) (z : Int) (L : List Int) (len : Nat) (st : zS) : zR := bif Nat.blt k 24 then zS42 T fl M pc k n z L len st else zS43 T fl M pc k n z L len st
theorem zE44 {T : zTb} {fl : Bool} {M : zM} {pc k n : Nat} {z : Int} {L : List Int} {len : Nat} {st : zS} : zS44 T fl M pc k n z L len st = zstep T fl M pc (zD44 k n z L) len st := by
  unfold zS44 zD44
  cases Nat.blt k 24 with
  | true => exact zE42 (n := n) (z := z) (L := L)
  | false => exact zE43 (n := n) (z := z) (L := L)
theorem zK44 {k n : Nat} {z : Int} {L : List Int} : z_spk (zD44 k n z L) = none := by
  unfold zD44
  cases Nat.blt k 24 with
  | true => exact zK42 (n := n) (z := z) (L := L)
  | false => exact zK43 (n := n) (z := z) (L := L)
def zD45 (k n : Nat) (z : Int) (L : List Int) : Instr := bif Nat.blt k 23 then zD41 k n z L else zD44 k n z L
def zS45 (T : zTb) (fl : Bool) (M : zM) (pc k n : Nat) (z : Int) (L : List Int) (len : Nat) (st : zS) : zR := bif Nat.blt k 23 then zS41 T fl M pc k n z L len st else zS44 T fl M pc k n z L len st
theorem zE45 {T : zTb} {fl : Bool} {M : zM} {pc k n : Nat} {z : Int} {L : List Int} {len : Nat} {st : zS} : zS45 T fl M pc k n z L len st = zstep T fl M pc (zD45 k n z L) len st := by
  unfold zS45 zD45
  cases Nat.blt k 23 with
  | true => exact zE41 (n := n) (z := z) (L := L)
  | false => exact zE44 (n := n) (z := z) (L := L)
theorem zK45 {k n : Nat} {z : Int} {L : List Int} : z_spk (zD45 k n z L) = none := by
  unfold zD45
  cases Nat.blt k 23 with
  | true => exact zK41 (n := n) (z := z) (L := L)
  | false => exact zK44 (n := n) (z := z) (L := L)
def zD46 (k n : Nat) (z : Int) (L : List Int) : Instr := bif Nat.blt k 21 then zD38 k n z L else zD45 k n z L
def zS46 (T : zTb) (fl : Bool) (M : zM) (pc k n : Nat) (z : Int) (L : List Int) (len : Nat) (st : zS) : zR := bif Nat.blt k 21 then zS38 T fl M pc k n z L len st else zS45 T fl M pc k n z L len st
theorem zE46 {T : zTb} {fl : Bool} {M : zM} {pc k n : Nat} {z : Int} {L : List Int} {len : Nat} {st : zS} : zS46 T fl M pc k n z L len st = zstep T fl M pc (zD46 k n z L) len st := by
  unfold zS46 zD46
  cases Nat.blt k 21 with
  | true => exact zE38 (n := n) (z := z) (L := L)
  | false => exact zE45 (n := n) (z := z) (L := L)
theorem zK46 {k n : Nat} {z : Int} {L : List Int} : z_spk (zD46 k n z L) = none := by
  unfold zD46
  cases Nat.blt k 21 with
  | true => exact zK38 (n := n) (z := z) (L := L)
  | false => exact zK45 (n := n) (z := z) (L := L)
def zD47 (k n : Nat) (z : Int) (L : List Int) : Instr := bif Nat.blt k 18 then zD33 k n z L else zD46 k n z L
def zS47 (T : zTb) (fl : Bool) (M : zM) (pc k n : Nat) (z : Int) (L : List Int) (len : Nat) (st : zS) : zR := bif Nat.blt k 18 then zS33 T fl M pc k n z L len st else zS46 T fl M pc k n z L len st
theorem zE47 {T : zTb} {fl : Bool} {M : zM} {pc k n : Nat} {z : Int} {L : List Int} {len : Nat} {st : zS} : zS47 T fl M pc k n z L len st = zstep T fl M pc (zD47 k n z L) len st := by
  unfold zS47 zD47
  cases Nat.blt k 18 with
  | true => exact zE33 (n := n) (z := z) (L := L)
  | false => exact zE46 (n := n) (z := z) (L := L)
theorem zK47 {k n : Nat} {z : Int} {L : List Int} : z_spk (zD47 k n z L) = none := by
  unfold zD47
  cases Nat.blt k 18 with
  | true => exact zK33 (n := n) (z := z) (L := L)
  | false => exact zK46 (n := n) (z := z) (L := L)
def zD48 (k n : Nat) (z : Int) (L : List Int) : Instr := bif Nat.blt k 12 then zD22 k n z L else zD47 k n z L
def zS48 (T : zTb) (fl : Bool) (M : zM) (pc k n : Nat) (z : Int) (L : List Int) (len : Nat) (st : zS) : zR := bif Nat.blt k 12 then zS22 T fl M pc k n z L len st else zS47 T fl M pc k n z L len st
theorem zE48 {T : zTb} {fl : Bool} {M : zM} {pc k n : Nat} {z : Int} {L : List Int} {len : Nat} {st : zS} : zS48 T fl M pc k n z L len st = zstep T fl M pc (zD48 k n z L) len st := by
  unfold zS48 zD48
  cases Nat.blt k 12 with
  | true => exact zE22 (n := n) (z := z) (L := L)
  | false => exact zE47 (n := n) (z := z) (L := L)
theorem zK48 {k n : Nat} {z : Int} {L : List Int} : z_spk (zD48 k n z L) = none := by
  unfold zD48
  cases Nat.blt k 12 with
  | true => exact zK22 (n := n) (z := z) (L := L)
  | false => exact zK47 (n := n) (z := z) (L := L)
def zD49 (k n : Nat) (z : Int) (L : List Int) : Instr := bif Nat.beq k 25 then .istore_n 0 else .nop
def zS49 (T : zTb) (fl : Bool) (M : zM) (pc k n : Nat) (z : Int) (L : List Int) (len : Nat) (st : zS) : zR := bif Nat.beq k 25 then z_g len 1 (z_sto z_k0 M.2.2.1 0 st) else none
theorem zE49 {T : zTb} {fl : Bool} {M : zM} {pc k n : Nat} {z : Int} {L : List Int} {len : Nat} {st : zS} : zS49 T fl M pc k n z L len st = zstep T fl M pc (zD49 k n z L) len st := by
  unfold zS49 zD49
  cases Nat.beq k 25 with
  | true => exact rfl
  | false => rfl
theorem zK49 {k n : Nat} {z : Int} {L : List Int} : z_spk (zD49 k n z L) = none := by
  unfold zD49
  cases Nat.beq k 25 with
  | true => rfl
  | false => rfl
def zD50 (k n : Nat) (z : Int) (L : List Int) : Instr := bif Nat.beq k 26 then .istore_n 1 else .nop
def zS50 (T : zTb) (fl : Bool) (M : zM) (pc k n : Nat) (z : Int) (L : List Int) (len : Nat) (st : zS) : zR := bif Nat.beq k 26 then z_g len 1 (z_sto z_k0 M.2.2.1 1 st) else none
theorem zE50 {T : zTb} {fl : Bool} {M : zM} {pc k n : Nat} {z : Int} {L : List Int} {len : Nat} {st : zS} : zS50 T fl M pc k n z L len st = zstep T fl M pc (zD50 k n z L) len st := by
  unfold zS50 zD50
  cases Nat.beq k 26 with
  | true => exact rfl
  | false => rfl
theorem zK50 {k n : Nat} {z : Int} {L : List Int} : z_spk (zD50 k n z L) = none := by
  unfold zD50
  cases Nat.beq k 26 with
  | true => rfl
  | false => rfl
def zD51 (k n : Nat) (z : Int) (L : List Int) : Instr := bif Nat.beq k 27 then .istore_n 2 else .nop
def zS51 (T : zTb) (fl : Bool) (M : zM) (pc k n : Nat) (z : Int) (L : List Int) (len : Nat) (st : zS) : zR := bif Nat.beq k 27 then z_g len 1 (z_sto z_k0 M.2.2.1 2 st) else none
theorem zE51 {T : zTb} {fl : Bool} {M : zM} {pc k n : Nat} {z : Int} {L : List Int} {len : Nat} {st : zS} : zS51 T fl M pc k n z L len st = zstep T fl M pc (zD51 k n z L) len st := by
  unfold zS51 zD51
  cases Nat.beq k 27 with
  | true => exact rfl
  | false => rfl
theorem zK51 {k n : Nat} {z : Int} {L : List Int} : z_spk (zD51 k n z L) = none := by
  unfold zD51
  cases Nat.beq k 27 with
  | true => rfl
  | false => rfl
def zD52 (k n : Nat) (z : Int) (L : List Int) : Instr := bif Nat.blt k 27 then zD50 k n z L else zD51 k n z L
def zS52 (T : zTb) (fl : Bool) (M : zM) (pc k n : Nat) (z : Int) (L : List Int) (len : Nat) (st : zS) : zR := bif Nat.blt k 27 then zS50 T fl M pc k n z L len st else zS51 T fl M pc k n z L len st
theorem zE52 {T : zTb} {fl : Bool} {M : zM} {pc k n : Nat} {z : Int} {L : List Int} {len : Nat} {st : zS} : zS52 T fl M pc k n z L len st = zstep T fl M pc (zD52 k n z L) len st := by
  unfold zS52 zD52
  cases Nat.blt k 27 with
  | true => exact zE50 (n := n) (z := z) (L := L)
  | false => exact zE51 (n := n) (z := z) (L := L)
theorem zK52 {k n : Nat} {z : Int} {L : List Int} : z_spk (zD52 k n z L) = none := by
  unfold zD52
  cases Nat.blt k 27 with
  | true => exact zK50 (n := n) (z := z) (L := L)
  | false => exact zK51 (n := n) (z := z) (L := L)
def zD53 (k n : Nat) (z : Int) (L : List Int) : Instr := bif Nat.blt k 26 then zD49 k n z L else zD52 k n z L
def zS53 (T : zTb) (fl : Bool) (M : zM) (pc k n : Nat) (z : Int) (L : List Int) (len : Nat) (st : zS) : zR := bif Nat.blt k 26 then zS49 T fl M pc k n z L len st else zS52 T fl M pc k n z L len st
theorem zE53 {T : zTb} {fl : Bool} {M : zM} {pc k n : Nat} {z : Int} {L : List Int} {len : Nat} {st : zS} : zS53 T fl M pc k n z L len st = zstep T fl M pc (zD53 k n z L) len st := by
  unfold zS53 zD53
  cases Nat.blt k 26 with
  | true => exact zE49 (n := n) (z := z) (L := L)
  | false => exact zE52 (n := n) (z := z) (L := L)
theorem zK53 {k n : Nat} {z : Int} {L : List Int} : z_spk (zD53 k n z L) = none := by
  unfold zD53
  cases Nat.blt k 26 with
  | true => exact zK49 (n := n) (z := z) (L := L)
  | false => exact zK52 (n := n) (z := z) (L := L)
def zD54 (k n : Nat) (z : Int) (L : List Int) : Instr := bif Nat.beq k 28 then .istore_n 3 else .nop
def zS54 (T : zTb) (fl : Bool) (M : zM) (pc k n : Nat) (z : Int) (L : List Int) (len : Nat) (st : zS) : zR := bif Nat.beq k 28 then z_g len 1 (z_sto z_k0 M.2.2.1 3 st) else none
theorem zE54 {T : zTb} {fl : Bool} {M : zM} {pc k n : Nat} {z : Int} {L : List Int} {len : Nat} {st : zS} : zS54 T fl M pc k n z L len st = zstep T fl M pc (zD54 k n z L) len st := by
  unfold zS54 zD54
  cases Nat.beq k 28 with
  | true => exact rfl
  | false => rfl
theorem zK54 {k n : Nat} {z : Int} {L : List Int} : z_spk (zD54 k n z L) = none := by
  unfold zD54
  cases Nat.beq k 28 with
  | true => rfl
  | false => rfl
def zD55 (k n : Nat) (z : Int) (L : List Int) : Instr := bif Nat.beq k 29 then .lstore n else .nop
def zS55 (T : zTb) (fl : Bool) (M : zM) (pc k n : Nat) (z : Int) (L : List Int) (len : Nat) (st : zS) : zR := bif Nat.beq k 29 then z_g len 2 (z_sto2 M.2.2.1 n st) else none
theorem zE55 {T : zTb} {fl : Bool} {M : zM} {pc k n : Nat} {z : Int} {L : List Int} {len : Nat} {st : zS} : zS55 T fl M pc k n z L len st = zstep T fl M pc (zD55 k n z L) len st := by
  unfold zS55 zD55
  cases Nat.beq k 29 with
  | true => exact rfl
  | false => rfl
theorem zK55 {k n : Nat} {z : Int} {L : List Int} : z_spk (zD55 k n z L) = none := by
  unfold zD55
  cases Nat.beq k 29 with
  | true => rfl
  | false => rfl
def zD56 (k n : Nat) (z : Int) (L : List Int) : Instr := bif Nat.beq k 30 then .lstore_n 0 else .nop
def zS56 (T : zTb) (fl : Bool) (M : zM) (pc k n : Nat) (z : Int) (L : List Int) (len : Nat) (st : zS) : zR := bif Nat.beq k 30 then z_g len 1 (z_sto2 M.2.2.1 0 st) else none
theorem zE56 {T : zTb} {fl : Bool} {M : zM} {pc k n : Nat} {z : Int} {L : List Int} {len : Nat} {st : zS} : zS56 T fl M pc k n z L len st = zstep T fl M pc (zD56 k n z L) len st := by
  unfold zS56 zD56
  cases Nat.beq k 30 with
  | true => exact rfl
  | false => rfl
theorem zK56 {k n : Nat} {z : Int} {L : List Int} : z_spk (zD56 k n z L) = none := by
  unfold zD56
  cases Nat.beq k 30 with
  | true => rfl
  | false => rfl
def zD57 (k n : Nat) (z : Int) (L : List Int) : Instr := bif Nat.blt k 30 then zD55 k n z L else zD56 k n z L
def zS57 (T : zTb) (fl : Bool) (M : zM) (pc k n : Nat) (z : Int) (L : List Int) (len : Nat) (st : zS) : zR := bif Nat.blt k 30 then zS55 T fl M pc k n z L len st else zS56 T fl M pc k n z L len st
theorem zE57 {T : zTb} {fl : Bool} {M : zM} {pc k n : Nat} {z : Int} {L : List Int} {len : Nat} {st : zS} : zS57 T fl M pc k n z L len st = zstep T fl M pc (zD57 k n z L) len st := by
  unfold zS57 zD57
  cases Nat.blt k 30 with
  | true => exact zE55 (n := n) (z := z) (L := L)
  | false => exact zE56 (n := n) (z := z) (L := L)
theorem zK57 {k n : Nat} {z : Int} {L : List Int} : z_spk (zD57 k n z L) = none := by
  unfold zD57
  cases Nat.blt k 30 with
  | true => exact zK55 (n := n) (z := z) (L := L)
  | false => exact zK56 (n := n) (z := z) (L := L)
def zD58 (k n : Nat) (z : Int) (L : List Int) : Instr := bif Nat.blt k 29 then zD54 k n z L else zD57 k n z L
def zS58 (T : zTb) (fl : Bool) (M : zM) (pc k n : Nat) (z : Int) (L : List Int) (len : Nat) (st : zS) : zR := bif Nat.blt k 29 then zS54 T fl M pc k n z L len st else zS57 T fl M pc k n z L len st
theorem zE58 {T : zTb} {fl : Bool} {M : zM} {pc k n : Nat} {z : Int} {L : List Int} {len : Nat} {st : zS} : zS58 T fl M pc k n z L len st = zstep T fl M pc (zD58 k n z L) len st := by
  unfold zS58 zD58
  cases Nat.blt k 29 with
  | true => exact zE54 (n := n) (z := z) (L := L)
  | false => exact zE57 (n := n) (z := z) (L := L)
theorem zK58 {k n : Nat} {z : Int} {L : List Int} : z_spk (zD58 k n z L) = none := by
  unfold zD58
  cases Nat.blt k 29 with
  | true => exact zK54 (n := n) (z := z) (L := L)
  | false => exact zK57 (n := n) (z := z) (L := L)
def zD59 (k n : Nat) (z : Int) (L : List Int) : Instr := bif Nat.blt k 28 then zD53 k n z L else zD58 k n z L
def zS59 (T : zTb) (fl : Bool) (M : zM) (pc k n : Nat) (z : Int) (L : List Int) (len : Nat) (st : zS) : zR := bif Nat.blt k 28 then zS53 T fl M pc k n z L len st else zS58 T fl M pc k n z L len st
theorem zE59 {T : zTb} {fl : Bool} {M : zM} {pc k n : Nat} {z : Int} {L : List Int} {len : Nat} {st : zS} : zS59 T fl M pc k n z L len st = zstep T fl M pc (zD59 k n z L) len st := by
  unfold zS59 zD59
  cases Nat.blt k 28 with
  | true => exact zE53 (n := n) (z := z) (L := L)
  | false => exact zE58 (n := n) (z := z) (L := L)
theorem zK59 {k n : Nat} {z : Int} {L : List Int} : z_spk (zD59 k n z L) = none := by
  unfold zD59
  cases Nat.blt k 28 with
  | true => exact zK53 (n := n) (z := z) (L := L)
  | false => exact zK58 (n := n) (z := z) (L := L)
def zD60 (k n : Nat) (z : Int) (L : List Int) : Instr := bif Nat.beq k 31 then .lstore_n 1 else .nop
def zS60 (T : zTb) (fl : Bool) (M : zM) (pc k n : Nat) (z : Int) (L : List Int) (len : Nat) (st : zS) : zR := bif Nat.beq k 31 then z_g len 1 (z_sto2 M.2.2.1 1 st) else none
theorem zE60 {T : zTb} {fl : Bool} {M : zM} {pc k n : Nat} {z : Int} {L : List Int} {len : Nat} {st : zS} : zS60 T fl M pc k n z L len st = zstep T fl M pc (zD60 k n z L) len st := by
  unfold zS60 zD60
  cases Nat.beq k 31 with
  | true => exact rfl
  | false => rfl
theorem zK60 {k n : Nat} {z : Int} {L : List Int} : z_spk (zD60 k n z L) = none := by
  unfold zD60
  cases Nat.beq k 31 with
  | true => rfl
  | false => rfl
def zD61 (k n : Nat) (z : Int) (L : List Int) : Instr := bif Nat.beq k 32 then .lstore_n 2 else .nop
def zS61 (T : zTb) (fl : Bool) (M : zM) (pc k n : Nat) (z : Int) (L : List Int) (len : Nat) (st : zS) : zR := bif Nat.beq k 32 then z_g len 1 (z_sto2 M.2.2.1 2 st) else none
theorem zE61 {T : zTb} {fl : Bool} {M : zM} {pc k n : Nat} {z : Int} {L : List Int} {len : Nat} {st : zS} : zS61 T fl M pc k n z L len st = zstep T fl M pc (zD61 k n z L) len st := by
  unfold zS61 zD61
  cases Nat.beq k 32 with
  | true => exact rfl
  | false => rfl
theorem zK61 {k n : Nat} {z : Int} {L : List Int} : z_spk (zD61 k n z L) = none := by
  unfold zD61
  cases Nat.beq k 32 with
  | true => rfl
  | false => rfl
def zD62 (k n : Nat) (z : Int) (L : List Int) : Instr := bif Nat.beq k 33 then .lstore_n 3 else .nop
def zS62 (T : zTb) (fl : Bool) (M : zM) (pc k n : Nat) (z : Int) (L : List Int) (len : Nat) (st : zS) : zR := bif Nat.beq k 33 then z_g len 1 (z_sto2 M.2.2.1 3 st) else none
theorem zE62 {T : zTb} {fl : Bool} {M : zM} {pc k n : Nat} {z : Int} {L : List Int} {len : Nat} {st : zS} : zS62 T fl M pc k n z L len st = zstep T fl M pc (zD62 k n z L) len st := by
  unfold zS62 zD62
  cases Nat.beq k 33 with
  | true => exact rfl
  | false => rfl
theorem zK62 {k n : Nat} {z : Int} {L : List Int} : z_spk (zD62 k n z L) = none := by
  unfold zD62
  cases Nat.beq k 33 with
  | true => rfl
  | false => rfl
def zD63 (k n : Nat) (z : Int) (L : List Int) : Instr := bif Nat.blt k 33 then zD61 k n z L else zD62 k n z L
def zS63 (T : zTb) (fl : Bool) (M : zM) (pc k n : Nat) (z : Int) (L : List Int) (len : Nat) (st : zS) : zR := bif Nat.blt k 33 then zS61 T fl M pc k n z L len st else zS62 T fl M pc k n z L len st
theorem zE63 {T : zTb} {fl : Bool} {M : zM} {pc k n : Nat} {z : Int} {L : List Int} {len : Nat} {st : zS} : zS63 T fl M pc k n z L len st = zstep T fl M pc (zD63 k n z L) len st := by
  unfold zS63 zD63
  cases Nat.blt k 33 with
  | true => exact zE61 (n := n) (z := z) (L := L)
  | false => exact zE62 (n := n) (z := z) (L := L)
theorem zK63 {k n : Nat} {z : Int} {L : List Int} : z_spk (zD63 k n z L) = none := by
  unfold zD63
  cases Nat.blt k 33 with
  | true => exact zK61 (n := n) (z := z) (L := L)
  | false => exact zK62 (n := n) (z := z) (L := L)
def zD64 (k n : Nat) (z : Int) (L : List Int) : Instr := bif Nat.blt k 32 then zD60 k n z L else zD63 k n z L
def zS64 (T : zTb) (fl : Bool) (M : zM) (pc k n : Nat) (z : Int) (L : List Int) (len : Nat) (st : zS) : zR := bif Nat.blt k 32 then zS60 T fl M pc k n z L len st else zS63 T fl M pc k n z L len st
theorem zE64 {T : zTb} {fl : Bool} {M : zM} {pc k n : Nat} {z : Int} {L : List Int} {len : Nat} {st : zS} : zS64 T fl M pc k n z L len st = zstep T fl M pc (zD64 k n z L) len st := by
  unfold zS64 zD64
  cases Nat.blt k 32 with
  | true => exact zE60 (n := n) (z := z) (L := L)
  | false => exact zE63 (n := n) (z := z) (L := L)
theorem zK64 {k n : Nat} {z : Int} {L : List Int} : z_spk (zD64 k n z L) = none := by
  unfold zD64
  cases Nat.blt k 32 with
  | true => exact zK60 (n := n) (z := z) (L := L)
  | false => exact zK63 (n := n) (z := z) (L := L)
def zD65 (k n : Nat) (z : Int) (L : List Int) : Instr := bif Nat.beq k 34 then .astore n else .nop
def zS65 (T : zTb) (fl : Bool) (M : zM) (pc k n : Nat) (z : Int) (L : List Int) (len : Nat) (st : zS) : zR := bif Nat.beq k 34 then z_g len 2 (z_sto z_kr M.2.2.1 n st) else none
theorem zE65 {T : zTb} {fl : Bool} {M : zM} {pc k n : Nat} {z : Int} {L : List Int} {len : Nat} {st : zS} : zS65 T fl M pc k n z L len st = zstep T fl M pc (zD65 k n z L) len st := by
  unfold zS65 zD65
  cases Nat.beq k 34 with
  | true => exact rfl
  | false => rfl
theorem zK65 {k n : Nat} {z : Int} {L : List Int} : z_spk (zD65 k n z L) = none := by
  unfold zD65
  cases Nat.beq k 34 with
  | true => rfl
  | false => rfl
def zD66 (k n : Nat) (z : Int) (L : List Int) : Instr := bif Nat.beq k 35 then .astore_n 0 else .nop
def zS66 (T : zTb) (fl : Bool) (M : zM) (pc k n : Nat) (z : Int) (L : List Int) (len : Nat) (st : zS) : zR := bif Nat.beq k 35 then z_g len 1 (z_sto z_kr M.2.2.1 0 st) else none
theorem zE66 {T : zTb} {fl : Bool} {M : zM} {pc k n : Nat} {z : Int} {L : List Int} {len : Nat} {st : zS} : zS66 T fl M pc k n z L len st = zstep T fl M pc (zD66 k n z L) len st := by
  unfold zS66 zD66
  cases Nat.beq k 35 with
  | true => exact rfl
  | false => rfl
theorem zK66 {k n : Nat} {z : Int} {L : List Int} : z_spk (zD66 k n z L) = none := by
  unfold zD66
  cases Nat.beq k 35 with
  | true => rfl
  | false => rfl
def zD67 (k n : Nat) (z : Int) (L : List Int) : Instr := bif Nat.beq k 36 then .astore_n 1 else .nop
def zS67 (T : zTb) (fl : Bool) (M : zM) (pc k n : Nat) (z : Int) (L : List Int) (len : Nat) (st : zS) : zR := bif Nat.beq k 36 then z_g len 1 (z_sto z_kr M.2.2.1 1 st) else none
theorem zE67 {T : zTb} {fl : Bool} {M : zM} {pc k n : Nat} {z : Int} {L : List Int} {len : Nat} {st : zS} : zS67 T fl M pc k n z L len st = zstep T fl M pc (zD67 k n z L) len st := by
  unfold zS67 zD67
  cases Nat.beq k 36 with
  | true => exact rfl
  | false => rfl
theorem zK67 {k n : Nat} {z : Int} {L : List Int} : z_spk (zD67 k n z L) = none := by
  unfold zD67
  cases Nat.beq k 36 with
  | true => rfl
  | false => rfl
def zD68 (k n : Nat) (z : Int) (L : List Int) : Instr := bif Nat.blt k 36 then zD66 k n z L else zD67 k n z L
def zS68 (T : zTb) (fl : Bool) (M : zM) (pc k n : Nat) (z : Int) (L : List Int) (len : Nat) (st : zS) : zR := bif Nat.blt k 36 then zS66 T fl M pc k n z L len st else zS67 T fl M pc k n z L len st
theorem zE68 {T : zTb} {fl : Bool} {M : zM} {pc k n : Nat} {z : Int} {L : List Int} {len : Nat} {st : zS} : zS68 T fl M pc k n z L len st = zstep T fl M pc (zD68 k n z L) len st := by
  unfold zS68 zD68
  cases Nat.blt k 36 with
  | true => exact zE66 (n := n) (z := z) (L := L)
  | false => exact zE67 (n := n) (z := z) (L := L)
theorem zK68 {k n : Nat} {z : Int} {L : List Int} : z_spk (zD68 k n z L) = none := by
  unfold zD68
  cases Nat.blt k 36 with
  | true => exact zK66 (n := n) (z := z) (L := L)
  | false => exact zK67 (n := n) (z := z) (L := L)
def zD69 (k n : Nat) (z : Int) (L : List Int) : Instr := bif Nat.blt k 35 then zD65 k n z L else zD68 k n z L
def zS69 (T : zTb) (fl : Bool) (M : zM) (pc k n : Nat) (z : Int) (L : List Int) (len : Nat) (st : zS) : zR := bif Nat.blt k 35 then zS65 T fl M pc k n z L len st else zS68 T fl M pc k n z L len st
theorem zE69 {T : zTb} {fl : Bool} {M : zM} {pc k n : Nat} {z : Int} {L : List Int} {len : Nat} {st : zS} : zS69 T fl M pc k n z L len st = zstep T fl M pc (zD69 k n z L) len st := by
  unfold zS69 zD69
  cases Nat.blt k 35 with
  | true => exact zE65 (n := n) (z := z) (L := L)
  | false => exact zE68 (n := n) (z := z) (L := L)
theorem zK69 {k n : Nat} {z : Int} {L : List Int} : z_spk (zD69 k n z L) = none := by
  unfold zD69
  cases Nat.blt k 35 with
  | true => exact zK65 (n := n) (z := z) (L := L)
  | false => exact zK68 (n := n) (z := z) (L := L)
def zD70 (k n : Nat) (z : Int) (L : List Int) : Instr := bif Nat.blt k 34 then zD64 k n z L else zD69 k n z L
def zS70 (T : zTb) (fl : Bool) (M : zM) (pc k n : Nat) (z : Int) (L : List Int) (len : Nat) (st : zS) : zR := bif Nat.blt k 34 then zS64 T fl M pc k n z L len st else zS69 T fl M pc k n z L len st
theorem zE70 {T : zTb} {fl : Bool} {M : zM} {pc k n : Nat} {z : Int} {L : List Int} {len : Nat} {st : zS} : zS70 T fl M pc k n z L len st = zstep T fl M pc (zD70 k n z L) len st := by
  unfold zS70 zD70
  cases Nat.blt k 34 with
  | true => exact zE64 (n := n) (z := z) (L := L)
  | false => exact zE69 (n := n) (z := z) (L := L)
theorem zK70 {k n : Nat} {z : Int} {L : List Int} : z_spk (zD70 k n z L) = none := by
  unfold zD70
  cases Nat.blt k 34 with
  | true => exact zK64 (n := n) (z := z) (L := L)
  | false => exact zK69 (n := n) (z := z) (L := L)
def zD71 (k n : Nat) (z : Int) (L : List Int) : Instr := bif Nat.blt k 31 then zD59 k n z L else zD70 k n z L
def zS71 (T : zTb) (fl : Bool) (M : zM) (pc k n : Nat) (z : Int) (L : List Int) (len : Nat) (st : zS) : zR := bif Nat.blt k 31 then zS59 T fl M pc k n z L len st else zS70 T fl M pc k n z L len st
theorem zE71 {T : zTb} {fl : Bool} {M : zM} {pc k n : Nat} {z : Int} {L : List Int} {len : Nat} {st : zS} : zS71 T fl M pc k n z L len st = zstep T fl M pc (zD71 k n z L) len st := by
  unfold zS71 zD71
  cases Nat.blt k 31 with
  | true => exact zE59 (n := n) (z := z) (L := L)
  | false => exact zE70 (n := n) (z := z) (L := L)
theorem zK71 {k n : Nat} {z : Int} {L : List Int} : z_spk (zD71 k n z L) = none := by
  unfold zD71
  cases Nat.blt k 31 with
  | true => exact zK59 (n := n) (z := z) (L := L)
  | false => exact zK70 (n := n) (z := z) (L := L)
def zD72 (k n : Nat) (z : Int) (L : List Int) : Instr := bif Nat.beq k 37 then .astore_n 2 else .nop
def zS72 (T : zTb) (fl : Bool) (M : zM) (pc k n : Nat) (z : Int) (L : List Int) (len : Nat) (st : zS) : zR := bif Nat.beq k 37 then z_g len 1 (z_sto z_kr M.2.2.1 2 st) else none
theorem zE72 {T : zTb} {fl : Bool} {M : zM} {pc k n : Nat} {z : Int} {L : List Int} {len : Nat} {st : zS} : zS72 T fl M pc k n z L len st = zstep T fl M pc (zD72 k n z L) len st := by
  unfold zS72 zD72
  cases Nat.beq k 37 with
  | true => exact rfl
  | false => rfl
theorem zK72 {k n : Nat} {z : Int} {L : List Int} : z_spk (zD72 k n z L) = none := by
  unfold zD72
  cases Nat.beq k 37 with
  | true => rfl
  | false => rfl
def zD73 (k n : Nat) (z : Int) (L : List Int) : Instr := bif Nat.beq k 38 then .astore_n 3 else .nop
def zS73 (T : zTb) (fl : Bool) (M : zM) (pc k n : Nat) (z : Int) (L : List Int) (len : Nat) (st : zS) : zR := bif Nat.beq k 38 then z_g len 1 (z_sto z_kr M.2.2.1 3 st) else none
theorem zE73 {T : zTb} {fl : Bool} {M : zM} {pc k n : Nat} {z : Int} {L : List Int} {len : Nat} {st : zS} : zS73 T fl M pc k n z L len st = zstep T fl M pc (zD73 k n z L) len st := by
  unfold zS73 zD73
  cases Nat.beq k 38 with
  | true => exact rfl
  | false => rfl
theorem zK73 {k n : Nat} {z : Int} {L : List Int} : z_spk (zD73 k n z L) = none := by
  unfold zD73
  cases Nat.beq k 38 with
  | true => rfl
  | false => rfl
def zD74 (k n : Nat) (z : Int) (L : List Int) : Instr := bif Nat.beq k 39 then .iinc n z else .nop
def zS74 (T : zTb) (fl : Bool) (M : zM) (pc k n : Nat) (z : Int) (L : List Int) (len : Nat) (st : zS) : zR := bif Nat.beq k 39 then z_g len 3 (z_inc M.2.2.1 n z st) else none
theorem zE74 {T : zTb} {fl : Bool} {M : zM} {pc k n : Nat} {z : Int} {L : List Int} {len : Nat} {st : zS} : zS74 T fl M pc k n z L len st = zstep T fl M pc (zD74 k n z L) len st := by
  unfold zS74 zD74
  cases Nat.beq k 39 with
  | true => exact rfl
  | false => rfl
theorem zK74 {k n : Nat} {z : Int} {L : List Int} : z_spk (zD74 k n z L) = none := by
  unfold zD74
  cases Nat.beq k 39 with
  | true => rfl
  | false => rfl
def zD75 (k n : Nat) (z : Int) (L : List Int) : Instr := bif Nat.blt k 39 then zD73 k n z L else zD74 k n z L
def zS75 (T : zTb) (fl : Bool) (M : zM) (pc k n : Nat) (z : Int) (L : List Int) (len : Nat) (st : zS) : zR := bif Nat.blt k 39 then zS73 T fl M pc k n z L len st else zS74 T fl M pc k n z L len st
theorem zE75 {T : zTb} {fl : Bool} {M : zM} {pc k n : Nat} {z : Int} {L : List Int} {len : Nat} {st : zS} : zS75 T fl M pc k n z L len st = zstep T fl M pc (zD75 k n z L) len st := by
  unfold zS75 zD75
  cases Nat.blt k 39 with
  | true => exact zE73 (n := n) (z := z) (L := L)
  | false => exact zE74 (n := n) (z := z) (L := L)
theorem zK75 {k n : Nat} {z : Int} {L : List Int} : z_spk (zD75 k n z L) = none := by
  unfold zD75
  cases Nat.blt k 39 with
  | true => exact zK73 (n := n) (z := z) (L := L)
  | false => exact zK74 (n := n) (z := z) (L := L)
def zD76 (k n : Nat) (z : Int) (L : List Int) : Instr := bif Nat.blt k 38 then zD72 k n z L else zD75 k n z L
def zS76 (T : zTb) (fl : Bool) (M : zM) (pc k n : Nat) (z : Int) (L : List Int) (len : Nat) (st : zS) : zR := bif Nat.blt k 38 then zS72 T fl M pc k n z L len st else zS75 T fl M pc k n z L len st
theorem zE76 {T : zTb} {fl : Bool} {M : zM} {pc k n : Nat} {z : Int} {L : List Int} {len : Nat} {st : zS} : zS76 T fl M pc k n z L len st = zstep T fl M pc (zD76 k n z L) len st := by
  unfold zS76 zD76
  cases Nat.blt k 38 with
  | true => exact zE72 (n := n) (z := z) (L := L)
  | false => exact zE75 (n := n) (z := z) (L := L)
theorem zK76 {k n : Nat} {z : Int} {L : List Int} : z_spk (zD76 k n z L) = none := by
  unfold zD76
  cases Nat.blt k 38 with
  | true => exact zK72 (n := n) (z := z) (L := L)
  | false => exact zK75 (n := n) (z := z) (L := L)
def zD77 (k n : Nat) (z : Int) (L : List Int) : Instr := bif Nat.beq k 40 then .iadd else .nop
def zS77 (T : zTb) (fl : Bool) (M : zM) (pc k n : Nat) (z : Int) (L : List Int) (len : Nat) (st : zS) : zR := bif Nat.beq k 40 then z_g len 1 (z_bo 0 0 (z_add 0) st) else none
theorem zE77 {T : zTb} {fl : Bool} {M : zM} {pc k n : Nat} {z : Int} {L : List Int} {len : Nat} {st : zS} : zS77 T fl M pc k n z L len st = zstep T fl M pc (zD77 k n z L) len st := by
  unfold zS77 zD77
  cases Nat.beq k 40 with
  | true => exact rfl
  | false => rfl
theorem zK77 {k n : Nat} {z : Int} {L : List Int} : z_spk (zD77 k n z L) = none := by
  unfold zD77
  cases Nat.beq k 40 with
  | true => rfl
  | false => rfl
def zD78 (k n : Nat) (z : Int) (L : List Int) : Instr := bif Nat.beq k 41 then .isub else .nop
def zS78 (T : zTb) (fl : Bool) (M : zM) (pc k n : Nat) (z : Int) (L : List Int) (len : Nat) (st : zS) : zR := bif Nat.beq k 41 then z_g len 1 (z_bo 0 0 (z_sub 0) st) else none
theorem zE78 {T : zTb} {fl : Bool} {M : zM} {pc k n : Nat} {z : Int} {L : List Int} {len : Nat} {st : zS} : zS78 T fl M pc k n z L len st = zstep T fl M pc (zD78 k n z L) len st := by
  unfold zS78 zD78
  cases Nat.beq k 41 with
  | true => exact rfl
  | false => rfl
theorem zK78 {k n : Nat} {z : Int} {L : List Int} : z_spk (zD78 k n z L) = none := by
  unfold zD78
  cases Nat.beq k 41 with
  | true => rfl
  | false => rfl
def zD79 (k n : Nat) (z : Int) (L : List Int) : Instr := bif Nat.beq k 42 then .imul else .nop
def zS79 (T : zTb) (fl : Bool) (M : zM) (pc k n : Nat) (z : Int) (L : List Int) (len : Nat) (st : zS) : zR := bif Nat.beq k 42 then z_g len 1 (z_bo 0 0 (z_fold 0 (cfI fun a b => a * b)) st) else none
theorem zE79 {T : zTb} {fl : Bool} {M : zM} {pc k n : Nat} {z : Int} {L : List Int} {len : Nat} {st : zS} : zS79 T fl M pc k n z L len st = zstep T fl M pc (zD79 k n z L) len st := by
  unfold zS79 zD79
  cases Nat.beq k 42 with
  | true => exact rfl
  | false => rfl
theorem zK79 {k n : Nat} {z : Int} {L : List Int} : z_spk (zD79 k n z L) = none := by
  unfold zD79
  cases Nat.beq k 42 with
  | true => rfl
  | false => rfl
def zD80 (k n : Nat) (z : Int) (L : List Int) : Instr := bif Nat.blt k 42 then zD78 k n z L else zD79 k n z L
def zS80 (T : zTb) (fl : Bool) (M : zM) (pc k n : Nat) (z : Int) (L : List Int) (len : Nat) (st : zS) : zR := bif Nat.blt k 42 then zS78 T fl M pc k n z L len st else zS79 T fl M pc k n z L len st
theorem zE80 {T : zTb} {fl : Bool} {M : zM} {pc k n : Nat} {z : Int} {L : List Int} {len : Nat} {st : zS} : zS80 T fl M pc k n z L len st = zstep T fl M pc (zD80 k n z L) len st := by
  unfold zS80 zD80
  cases Nat.blt k 42 with
  | true => exact zE78 (n := n) (z := z) (L := L)
  | false => exact zE79 (n := n) (z := z) (L := L)
theorem zK80 {k n : Nat} {z : Int} {L : List Int} : z_spk (zD80 k n z L) = none := by
  unfold zD80
  cases Nat.blt k 42 with
  | true => exact zK78 (n := n) (z := z) (L := L)
  | false => exact zK79 (n := n) (z := z) (L := L)
def zD81 (k n : Nat) (z : Int) (L : List Int) : Instr := bif Nat.blt k 41 then zD77 k n z L else zD80 k n z L
def zS81 (T : zTb) (fl : Bool) (M : zM) (pc k n : Nat) (z : Int) (L : List Int) (len : Nat) (st : zS) : zR := bif Nat.blt k 41 then zS77 T fl M pc k n z L len st else zS80 T fl M pc k n z L len st
theorem zE81 {T : zTb} {fl : Bool} {M : zM} {pc k n : Nat} {z : Int} {L : List Int} {len : Nat} {st : zS} : zS81 T fl M pc k n z L len st = zstep T fl M pc (zD81 k n z L) len st := by
  unfold zS81 zD81
  cases Nat.blt k 41 with
  | true => exact zE77 (n := n) (z := z) (L := L)
  | false => exact zE80 (n := n) (z := z) (L := L)
theorem zK81 {k n : Nat} {z : Int} {L : List Int} : z_spk (zD81 k n z L) = none := by
  unfold zD81
  cases Nat.blt k 41 with
  | true => exact zK77 (n := n) (z := z) (L := L)
  | false => exact zK80 (n := n) (z := z) (L := L)
def zD82 (k n : Nat) (z : Int) (L : List Int) : Instr := bif Nat.blt k 40 then zD76 k n z L else zD81 k n z L
def zS82 (T : zTb) (fl : Bool) (M : zM) (pc k n : Nat) (z : Int) (L : List Int) (len : Nat) (st : zS) : zR := bif Nat.blt k 40 then zS76 T fl M pc k n z L len st else zS81 T fl M pc k n z L len st
theorem zE82 {T : zTb} {fl : Bool} {M : zM} {pc k n : Nat} {z : Int} {L : List Int} {len : Nat} {st : zS} : zS82 T fl M pc k n z L len st = zstep T fl M pc (zD82 k n z L) len st := by
  unfold zS82 zD82
  cases Nat.blt k 40 with
  | true => exact zE76 (n := n) (z := z) (L := L)
  | false => exact zE81 (n := n) (z := z) (L := L)
theorem zK82 {k n : Nat} {z : Int} {L : List Int} : z_spk (zD82 k n z L) = none := by
  unfold zD82
  cases Nat.blt k 40 with
  | true => exact zK76 (n := n) (z := z) (L := L)
  | false => exact zK81 (n := n) (z := z) (L := L)
def zD83 (k n : Nat) (z : Int) (L : List Int) : Instr := bif Nat.beq k 43 then .iand else .nop
def zS83 (T : zTb) (fl : Bool) (M : zM) (pc k n : Nat) (z : Int) (L : List Int) (len : Nat) (st : zS) : zR := bif Nat.beq k 43 then z_g len 1 (z_or (z_ian fl st) (z_bo 0 0 (z_fold 0 (cfI fun a b => a &&& b)) st)) else none
theorem zE83 {T : zTb} {fl : Bool} {M : zM} {pc k n : Nat} {z : Int} {L : List Int} {len : Nat} {st : zS} : zS83 T fl M pc k n z L len st = zstep T fl M pc (zD83 k n z L) len st := by
  unfold zS83 zD83
  cases Nat.beq k 43 with
  | true => exact rfl
  | false => rfl
theorem zK83 {k n : Nat} {z : Int} {L : List Int} : z_spk (zD83 k n z L) = none := by
  unfold zD83
  cases Nat.beq k 43 with
  | true => rfl
  | false => rfl
def zD84 (k n : Nat) (z : Int) (L : List Int) : Instr := bif Nat.beq k 44 then .ior else .nop
def zS84 (T : zTb) (fl : Bool) (M : zM) (pc k n : Nat) (z : Int) (L : List Int) (len : Nat) (st : zS) : zR := bif Nat.beq k 44 then z_g len 1 (z_bo 0 0 (z_fold 0 (cfI fun a b => a ||| b)) st) else none
theorem zE84 {T : zTb} {fl : Bool} {M : zM} {pc k n : Nat} {z : Int} {L : List Int} {len : Nat} {st : zS} : zS84 T fl M pc k n z L len st = zstep T fl M pc (zD84 k n z L) len st := by
  unfold zS84 zD84
  cases Nat.beq k 44 with
  | true => exact rfl
  | false => rfl
theorem zK84 {k n : Nat} {z : Int} {L : List Int} : z_spk (zD84 k n z L) = none := by
  unfold zD84
  cases Nat.beq k 44 with
  | true => rfl
  | false => rfl
def zD85 (k n : Nat) (z : Int) (L : List Int) : Instr := bif Nat.beq k 45 then .ixor else .nop
def zS85 (T : zTb) (fl : Bool) (M : zM) (pc k n : Nat) (z : Int) (L : List Int) (len : Nat) (st : zS) : zR := bif Nat.beq k 45 then z_g len 1 (z_bo 0 0 (z_fold 0 (cfI fun a b => a ^^^ b)) st) else none
theorem zE85 {T : zTb} {fl : Bool} {M : zM} {pc k n : Nat} {z : Int} {L : List Int} {len : Nat} {st : zS} : zS85 T fl M pc k n z L len st = zstep T fl M pc (zD85 k n z L) len st := by
  unfold zS85 zD85
  cases Nat.beq k 45 with
  | true => exact rfl
  | false => rfl
theorem zK85 {k n : Nat} {z : Int} {L : List Int} : z_spk (zD85 k n z L) = none := by
  unfold zD85
  cases Nat.beq k 45 with
  | true => rfl
  | false => rfl
def zD86 (k n : Nat) (z : Int) (L : List Int) : Instr := bif Nat.blt k 45 then zD84 k n z L else zD85 k n z L
def zS86 (T : zTb) (fl : Bool) (M : zM) (pc k n : Nat) (z : Int) (L : List Int) (len : Nat) (st : zS) : zR := bif Nat.blt k 45 then zS84 T fl M pc k n z L len st else zS85 T fl M pc k n z L len st
theorem zE86 {T : zTb} {fl : Bool} {M : zM} {pc k n : Nat} {z : Int} {L : List Int} {len : Nat} {st : zS} : zS86 T fl M pc k n z L len st = zstep T fl M pc (zD86 k n z L) len st := by
  unfold zS86 zD86
  cases Nat.blt k 45 with
  | true => exact zE84 (n := n) (z := z) (L := L)
  | false => exact zE85 (n := n) (z := z) (L := L)
theorem zK86 {k n : Nat} {z : Int} {L : List Int} : z_spk (zD86 k n z L) = none := by
  unfold zD86
  cases Nat.blt k 45 with
  | true => exact zK84 (n := n) (z := z) (L := L)
  | false => exact zK85 (n := n) (z := z) (L := L)
def zD87 (k n : Nat) (z : Int) (L : List Int) : Instr := bif Nat.blt k 44 then zD83 k n z L else zD86 k n z L
def zS87 (T : zTb) (fl : Bool) (M : zM) (pc k n : Nat) (z : Int) (L : List Int) (len : Nat) (st : zS) : zR := bif Nat.blt k 44 then zS83 T fl M pc k n z L len st else zS86 T fl M pc k n z L len st
theorem zE87 {T : zTb} {fl : Bool} {M : zM} {pc k n : Nat} {z : Int} {L : List Int} {len : Nat} {st : zS} : zS87 T fl M pc k n z L len st = zstep T fl M pc (zD87 k n z L) len st := by
  unfold zS87 zD87
  cases Nat.blt k 44 with
  | true => exact zE83 (n := n) (z := z) (L := L)
  | false => exact zE86 (n := n) (z := z) (L := L)
theorem zK87 {k n : Nat} {z : Int} {L : List Int} : z_spk (zD87 k n z L) = none := by
  unfold zD87
  cases Nat.blt k 44 with
  | true => exact zK83 (n := n) (z := z) (L := L)
  | false => exact zK86 (n := n) (z := z) (L := L)
def zD88 (k n : Nat) (z : Int) (L : List Int) : Instr := bif Nat.beq k 46 then .ishl else .nop
def zS88 (T : zTb) (fl : Bool) (M : zM) (pc k n : Nat) (z : Int) (L : List Int) (len : Nat) (st : zS) : zR := bif Nat.beq k 46 then z_g len 1 (z_bo 0 0 (z_fold 0 (cfI fun a b => a <<< (b &&& 31))) st) else none
theorem zE88 {T : zTb} {fl : Bool} {M : zM} {pc k n : Nat} {z : Int} {L : List Int} {len : Nat} {st : zS} : zS88 T fl M pc k n z L len st = zstep T fl M pc (zD88 k n z L) len st := by
  unfold zS88 zD88
  cases Nat.beq k 46 with
  | true => exact rfl
  | false => rfl
theorem zK88 {k n : Nat} {z : Int} {L : List Int} : z_spk (zD88 k n z L) = none := by
  unfold zD88
  cases Nat.beq k 46 with
  | true => rfl
  | false => rfl
def zD89 (k n : Nat) (z : Int) (L : List Int) : Instr := bif Nat.beq k 47 then .ishr else .nop
def zS89 (T : zTb) (fl : Bool) (M : zM) (pc k n : Nat) (z : Int) (L : List Int) (len : Nat) (st : zS) : zR := bif Nat.beq k 47 then z_g len 1 (z_bo 0 0 (z_fold 0 (cfI fun a b => a >>> (b &&& 31))) st) else none
theorem zE89 {T : zTb} {fl : Bool} {M : zM} {pc k n : Nat} {z : Int} {L : List Int} {len : Nat} {st : zS} : zS89 T fl M pc k n z L len st = zstep T fl M pc (zD89 k n z L) len st := by
  unfold zS89 zD89
  cases Nat.beq k 47 with
  | true => exact rfl
  | false => rfl
theorem zK89 {k n : Nat} {z : Int} {L : List Int} : z_spk (zD89 k n z L) = none := by
  unfold zD89
  cases Nat.beq k 47 with
  | true => rfl
  | false => rfl
def zD90 (k n : Nat) (z : Int) (L : List Int) : Instr := bif Nat.blt k 47 then zD88 k n z L else zD89 k n z L
def zS90 (T : zTb) (fl : Bool) (M : zM) (pc k n : Nat) (z : Int) (L : List Int) (len : Nat) (st : zS) : zR := bif Nat.blt k 47 then zS88 T fl M pc k n z L len st else zS89 T fl M pc k n z L len st
theorem zE90 {T : zTb} {fl : Bool} {M : zM} {pc k n : Nat} {z : Int} {L : List Int} {len : Nat} {st : zS} : zS90 T fl M pc k n z L len st = zstep T fl M pc (zD90 k n z L) len st := by
  unfold zS90 zD90
  cases Nat.blt k 47 with
  | true => exact zE88 (n := n) (z := z) (L := L)
  | false => exact zE89 (n := n) (z := z) (L := L)
theorem zK90 {k n : Nat} {z : Int} {L : List Int} : z_spk (zD90 k n z L) = none := by
  unfold zD90
  cases Nat.blt k 47 with
  | true => exact zK88 (n := n) (z := z) (L := L)
  | false => exact zK89 (n := n) (z := z) (L := L)
def zD91 (k n : Nat) (z : Int) (L : List Int) : Instr := bif Nat.beq k 48 then .idiv else .nop
def zS91 (T : zTb) (fl : Bool) (M : zM) (pc k n : Nat) (z : Int) (L : List Int) (len : Nat) (st : zS) : zR := bif Nat.beq k 48 then z_g len 1 (z_bo 0 0 (z_foldD 0 (cfI fun a b => a / b)) st) else none
theorem zE91 {T : zTb} {fl : Bool} {M : zM} {pc k n : Nat} {z : Int} {L : List Int} {len : Nat} {st : zS} : zS91 T fl M pc k n z L len st = zstep T fl M pc (zD91 k n z L) len st := by
  unfold zS91 zD91
  cases Nat.beq k 48 with
  | true => exact rfl
  | false => rfl
theorem zK91 {k n : Nat} {z : Int} {L : List Int} : z_spk (zD91 k n z L) = none := by
  unfold zD91
  cases Nat.beq k 48 with
  | true => rfl
  | false => rfl
def zD92 (k n : Nat) (z : Int) (L : List Int) : Instr := bif Nat.beq k 49 then .irem else .nop
def zS92 (T : zTb) (fl : Bool) (M : zM) (pc k n : Nat) (z : Int) (L : List Int) (len : Nat) (st : zS) : zR := bif Nat.beq k 49 then z_g len 1 (z_bo 0 0 (z_foldD 0 (cfI fun a b => a - a / b * b)) st) else none
theorem zE92 {T : zTb} {fl : Bool} {M : zM} {pc k n : Nat} {z : Int} {L : List Int} {len : Nat} {st : zS} : zS92 T fl M pc k n z L len st = zstep T fl M pc (zD92 k n z L) len st := by
  unfold zS92 zD92
  cases Nat.beq k 49 with
  | true => exact rfl
  | false => rfl
theorem zK92 {k n : Nat} {z : Int} {L : List Int} : z_spk (zD92 k n z L) = none := by
  unfold zD92
  cases Nat.beq k 49 with
  | true => rfl
  | false => rfl
def zD93 (k n : Nat) (z : Int) (L : List Int) : Instr := bif Nat.blt k 49 then zD91 k n z L else zD92 k n z L
def zS93 (T : zTb) (fl : Bool) (M : zM) (pc k n : Nat) (z : Int) (L : List Int) (len : Nat) (st : zS) : zR := bif Nat.blt k 49 then zS91 T fl M pc k n z L len st else zS92 T fl M pc k n z L len st
theorem zE93 {T : zTb} {fl : Bool} {M : zM} {pc k n : Nat} {z : Int} {L : List Int} {len : Nat} {st : zS} : zS93 T fl M pc k n z L len st = zstep T fl M pc (zD93 k n z L) len st := by
  unfold zS93 zD93
  cases Nat.blt k 49 with
  | true => exact zE91 (n := n) (z := z) (L := L)
  | false => exact zE92 (n := n) (z := z) (L := L)
theorem zK93 {k n : Nat} {z : Int} {L : List Int} : z_spk (zD93 k n z L) = none := by
  unfold zD93
  cases Nat.blt k 49 with
  | true => exact zK91 (n := n) (z := z) (L := L)
  | false => exact zK92 (n := n) (z := z) (L := L)
def zD94 (k n : Nat) (z : Int) (L : List Int) : Instr := bif Nat.blt k 48 then zD90 k n z L else zD93 k n z L
def zS94 (T : zTb) (fl : Bool) (M : zM) (pc k n : Nat) (z : Int) (L : List Int) (len : Nat) (st : zS) : zR := bif Nat.blt k 48 then zS90 T fl M pc k n z L len st else zS93 T fl M pc k n z L len st
theorem zE94 {T : zTb} {fl : Bool} {M : zM} {pc k n : Nat} {z : Int} {L : List Int} {len : Nat} {st : zS} : zS94 T fl M pc k n z L len st = zstep T fl M pc (zD94 k n z L) len st := by
  unfold zS94 zD94
  cases Nat.blt k 48 with
  | true => exact zE90 (n := n) (z := z) (L := L)
  | false => exact zE93 (n := n) (z := z) (L := L)
theorem zK94 {k n : Nat} {z : Int} {L : List Int} : z_spk (zD94 k n z L) = none := by
  unfold zD94
  cases Nat.blt k 48 with
  | true => exact zK90 (n := n) (z := z) (L := L)
  | false => exact zK93 (n := n) (z := z) (L := L)
def zD95 (k n : Nat) (z : Int) (L : List Int) : Instr := bif Nat.blt k 46 then zD87 k n z L else zD94 k n z L
def zS95 (T : zTb) (fl : Bool) (M : zM) (pc k n : Nat) (z : Int) (L : List Int) (len : Nat) (st : zS) : zR := bif Nat.blt k 46 then zS87 T fl M pc k n z L len st else zS94 T fl M pc k n z L len st
theorem zE95 {T : zTb} {fl : Bool} {M : zM} {pc k n : Nat} {z : Int} {L : List Int} {len : Nat} {st : zS} : zS95 T fl M pc k n z L len st = zstep T fl M pc (zD95 k n z L) len st := by
  unfold zS95 zD95
  cases Nat.blt k 46 with
  | true => exact zE87 (n := n) (z := z) (L := L)
  | false => exact zE94 (n := n) (z := z) (L := L)
theorem zK95 {k n : Nat} {z : Int} {L : List Int} : z_spk (zD95 k n z L) = none := by
  unfold zD95
  cases Nat.blt k 46 with
  | true => exact zK87 (n := n) (z := z) (L := L)
  | false => exact zK94 (n := n) (z := z) (L := L)
def zD96 (k n : Nat) (z : Int) (L : List Int) : Instr := bif Nat.blt k 43 then zD82 k n z L else zD95 k n z L
def zS96 (T : zTb) (fl : Bool) (M : zM) (pc k n : Nat) (z : Int) (L : List Int) (len : Nat) (st : zS) : zR := bif Nat.blt k 43 then zS82 T fl M pc k n z L len st else zS95 T fl M pc k n z L len st
theorem zE96 {T : zTb} {fl : Bool} {M : zM} {pc k n : Nat} {z : Int} {L : List Int} {len : Nat} {st : zS} : zS96 T fl M pc k n z L len st = zstep T fl M pc (zD96 k n z L) len st := by
  unfold zS96 zD96
  cases Nat.blt k 43 with
  | true => exact zE82 (n := n) (z := z) (L := L)
  | false => exact zE95 (n := n) (z := z) (L := L)
theorem zK96 {k n : Nat} {z : Int} {L : List Int} : z_spk (zD96 k n z L) = none := by
  unfold zD96
  cases Nat.blt k 43 with
  | true => exact zK82 (n := n) (z := z) (L := L)
  | false => exact zK95 (n := n) (z := z) (L := L)
def zD97 (k n : Nat) (z : Int) (L : List Int) : Instr := bif Nat.blt k 37 then zD71 k n z L else zD96 k n z L
def zS97 (T : zTb) (fl : Bool) (M : zM) (pc k n : Nat) (z : Int) (L : List Int) (len : Nat) (st : zS) : zR := bif Nat.blt k 37 then zS71 T fl M pc k n z L len st else zS96 T fl M pc k n z L len st
theorem zE97 {T : zTb} {fl : Bool} {M : zM} {pc k n : Nat} {z : Int} {L : List Int} {len : Nat} {st : zS} : zS97 T fl M pc k n z L len st = zstep T fl M pc (zD97 k n z L) len st := by
  unfold zS97 zD97
  cases Nat.blt k 37 with
  | true => exact zE71 (n := n) (z := z) (L := L)
  | false => exact zE96 (n := n) (z := z) (L := L)
theorem zK97 {k n : Nat} {z : Int} {L : List Int} : z_spk (zD97 k n z L) = none := by
  unfold zD97
  cases Nat.blt k 37 with
  | true => exact zK71 (n := n) (z := z) (L := L)
  | false => exact zK96 (n := n) (z := z) (L := L)
def zD98 (k n : Nat) (z : Int) (L : List Int) : Instr := bif Nat.blt k 25 then zD48 k n z L else zD97 k n z L
def zS98 (T : zTb) (fl : Bool) (M : zM) (pc k n : Nat) (z : Int) (L : List Int) (len : Nat) (st : zS) : zR := bif Nat.blt k 25 then zS48 T fl M pc k n z L len st else zS97 T fl M pc k n z L len st
theorem zE98 {T : zTb} {fl : Bool} {M : zM} {pc k n : Nat} {z : Int} {L : List Int} {len : Nat} {st : zS} : zS98 T fl M pc k n z L len st = zstep T fl M pc (zD98 k n z L) len st := by
  unfold zS98 zD98
  cases Nat.blt k 25 with
  | true => exact zE48 (n := n) (z := z) (L := L)
  | false => exact zE97 (n := n) (z := z) (L := L)
theorem zK98 {k n : Nat} {z : Int} {L : List Int} : z_spk (zD98 k n z L) = none := by
  unfold zD98
  cases Nat.blt k 25 with
  | true => exact zK48 (n := n) (z := z) (L := L)
  | false => exact zK97 (n := n) (z := z) (L := L)
def zD99 (k n : Nat) (z : Int) (L : List Int) : Instr := bif Nat.beq k 50 then .ladd else .nop
def zS99 (T : zTb) (fl : Bool) (M : zM) (pc k n : Nat) (z : Int) (L : List Int) (len : Nat) (st : zS) : zR := bif Nat.beq k 50 then z_g len 1 (z_bo 1 1 (z_add 1) st) else none
theorem zE99 {T : zTb} {fl : Bool} {M : zM} {pc k n : Nat} {z : Int} {L : List Int} {len : Nat} {st : zS} : zS99 T fl M pc k n z L len st = zstep T fl M pc (zD99 k n z L) len st := by
  unfold zS99 zD99
  cases Nat.beq k 50 with
  | true => exact rfl
  | false => rfl
theorem zK99 {k n : Nat} {z : Int} {L : List Int} : z_spk (zD99 k n z L) = none := by
  unfold zD99
  cases Nat.beq k 50 with
  | true => rfl
  | false => rfl
def zD100 (k n : Nat) (z : Int) (L : List Int) : Instr := bif Nat.beq k 51 then .lsub else .nop
def zS100 (T : zTb) (fl : Bool) (M : zM) (pc k n : Nat) (z : Int) (L : List Int) (len : Nat) (st : zS) : zR := bif Nat.beq k 51 then z_g len 1 (z_bo 1 1 (z_sub 1) st) else none
theorem zE100 {T : zTb} {fl : Bool} {M : zM} {pc k n : Nat} {z : Int} {L : List Int} {len : Nat} {st : zS} : zS100 T fl M pc k n z L len st = zstep T fl M pc (zD100 k n z L) len st := by
  unfold zS100 zD100
  cases Nat.beq k 51 with
  | true => exact rfl
  | false => rfl
theorem zK100 {k n : Nat} {z : Int} {L : List Int} : z_spk (zD100 k n z L) = none := by
  unfold zD100
  cases Nat.beq k 51 with
  | true => rfl
  | false => rfl
def zD101 (k n : Nat) (z : Int) (L : List Int) : Instr := bif Nat.beq k 52 then .lmul else .nop
def zS101 (T : zTb) (fl : Bool) (M : zM) (pc k n : Nat) (z : Int) (L : List Int) (len : Nat) (st : zS) : zR := bif Nat.beq k 52 then z_g len 1 (z_bo 1 1 (z_fold 1 (cfL fun a b => a * b)) st) else none
theorem zE101 {T : zTb} {fl : Bool} {M : zM} {pc k n : Nat} {z : Int} {L : List Int} {len : Nat} {st : zS} : zS101 T fl M pc k n z L len st = zstep T fl M pc (zD101 k n z L) len st := by
  unfold zS101 zD101
  cases Nat.beq k 52 with
  | true => exact rfl
  | false => rfl
theorem zK101 {k n : Nat} {z : Int} {L : List Int} : z_spk (zD101 k n z L) = none := by
  unfold zD101
  cases Nat.beq k 52 with
  | true => rfl
  | false => rfl
def zD102 (k n : Nat) (z : Int) (L : List Int) : Instr := bif Nat.blt k 52 then zD100 k n z L else zD101 k n z L
def zS102 (T : zTb) (fl : Bool) (M : zM) (pc k n : Nat) (z : Int) (L : List Int) (len : Nat) (st : zS) : zR := bif Nat.blt k 52 then zS100 T fl M pc k n z L len st else zS101 T fl M pc k n z L len st
theorem zE102 {T : zTb} {fl : Bool} {M : zM} {pc k n : Nat} {z : Int} {L : List Int} {len : Nat} {st : zS} : zS102 T fl M pc k n z L len st = zstep T fl M pc (zD102 k n z L) len st := by
  unfold zS102 zD102
  cases Nat.blt k 52 with
  | true => exact zE100 (n := n) (z := z) (L := L)
  | false => exact zE101 (n := n) (z := z) (L := L)
theorem zK102 {k n : Nat} {z : Int} {L : List Int} : z_spk (zD102 k n z L) = none := by
  unfold zD102
  cases Nat.blt k 52 with
  | true => exact zK100 (n := n) (z := z) (L := L)
  | false => exact zK101 (n := n) (z := z) (L := L)
def zD103 (k n : Nat) (z : Int) (L : List Int) : Instr := bif Nat.blt k 51 then zD99 k n z L else zD102 k n z L
def zS103 (T : zTb) (fl : Bool) (M : zM) (pc k n : Nat) (z : Int) (L : List Int) (len : Nat) (st : zS) : zR := bif Nat.blt k 51 then zS99 T fl M pc k n z L len st else zS102 T fl M pc k n z L len st
theorem zE103 {T : zTb} {fl : Bool} {M : zM} {pc k n : Nat} {z : Int} {L : List Int} {len : Nat} {st : zS} : zS103 T fl M pc k n z L len st = zstep T fl M pc (zD103 k n z L) len st := by
  unfold zS103 zD103
  cases Nat.blt k 51 with
  | true => exact zE99 (n := n) (z := z) (L := L)
  | false => exact zE102 (n := n) (z := z) (L := L)
theorem zK103 {k n : Nat} {z : Int} {L : List Int} : z_spk (zD103 k n z L) = none := by
  unfold zD103
  cases Nat.blt k 51 with
  | true => exact zK99 (n := n) (z := z) (L := L)
  | false => exact zK102 (n := n) (z := z) (L := L)
def zD104 (k n : Nat) (z : Int) (L : List Int) : Instr := bif Nat.beq k 53 then .land else .nop
def zS104 (T : zTb) (fl : Bool) (M : zM) (pc k n : Nat) (z : Int) (L : List Int) (len : Nat) (st : zS) : zR := bif Nat.beq k 53 then z_g len 1 (z_bo 1 1 (z_fold 1 (cfL fun a b => a &&& b)) st) else none
theorem zE104 {T : zTb} {fl : Bool} {M : zM} {pc k n : Nat} {z : Int} {L : List Int} {len : Nat} {st : zS} : zS104 T fl M pc k n z L len st = zstep T fl M pc (zD104 k n z L) len st := by
  unfold zS104 zD104
  cases Nat.beq k 53 with
  | true => exact rfl
  | false => rfl
theorem zK104 {k n : Nat} {z : Int} {L : List Int} : z_spk (zD104 k n z L) = none := by
  unfold zD104
  cases Nat.beq k 53 with
  | true => rfl
  | false => rfl
def zD105 (k n : Nat) (z : Int) (L : List Int) : Instr := bif Nat.beq k 54 then .lor else .nop
def zS105 (T : zTb) (fl : Bool) (M : zM) (pc k n : Nat) (z : Int) (L : List Int) (len : Nat) (st : zS) : zR := bif Nat.beq k 54 then z_g len 1 (z_bo 1 1 (z_fold 1 (cfL fun a b => a ||| b)) st) else none
theorem zE105 {T : zTb} {fl : Bool} {M : zM} {pc k n : Nat} {z : Int} {L : List Int} {len : Nat} {st : zS} : zS105 T fl M pc k n z L len st = zstep T fl M pc (zD105 k n z L) len st := by
  unfold zS105 zD105
  cases Nat.beq k 54 with
  | true => exact rfl
  | false => rfl
theorem zK105 {k n : Nat} {z : Int} {L : List Int} : z_spk (zD105 k n z L) = none := by
  unfold zD105
  cases Nat.beq k 54 with
  | true => rfl
  | false => rfl
def zD106 (k n : Nat) (z : Int) (L : List Int) : Instr := bif Nat.beq k 55 then .ldiv else .nop
def zS106 (T : zTb) (fl : Bool) (M : zM) (pc k n : Nat) (z : Int) (L : List Int) (len : Nat) (st : zS) : zR := bif Nat.beq k 55 then z_g len 1 (z_bo 1 1 (z_foldD 1 (cfL fun a b => a / b)) st) else none
theorem zE106 {T : zTb} {fl : Bool} {M : zM} {pc k n : Nat} {z : Int} {L : List Int} {len : Nat} {st : zS} : zS106 T fl M pc k n z L len st = zstep T fl M pc (zD106 k n z L) len st := by
  unfold zS106 zD106
  cases Nat.beq k 55 with
  | true => exact rfl
  | false => rfl
theorem zK106 {k n : Nat} {z : Int} {L : List Int} : z_spk (zD106 k n z L) = none := by
  unfold zD106
  cases Nat.beq k 55 with
  | true => rfl
  | false => rfl
def zD107 (k n : Nat) (z : Int) (L : List Int) : Instr := bif Nat.blt k 55 then zD105 k n z L else zD106 k n z L
def zS107 (T : zTb) (fl : Bool) (M : zM) (pc k n : Nat) (z : Int) (L : List Int) (len : Nat) (st : zS) : zR := bif Nat.blt k 55 then zS105 T fl M pc k n z L len st else zS106 T fl M pc k n z L len st
theorem zE107 {T : zTb} {fl : Bool} {M : zM} {pc k n : Nat} {z : Int} {L : List Int} {len : Nat} {st : zS} : zS107 T fl M pc k n z L len st = zstep T fl M pc (zD107 k n z L) len st := by
  unfold zS107 zD107
  cases Nat.blt k 55 with
  | true => exact zE105 (n := n) (z := z) (L := L)
  | false => exact zE106 (n := n) (z := z) (L := L)
theorem zK107 {k n : Nat} {z : Int} {L : List Int} : z_spk (zD107 k n z L) = none := by
  unfold zD107
  cases Nat.blt k 55 with
  | true => exact zK105 (n := n) (z := z) (L := L)
  | false => exact zK106 (n := n) (z := z) (L := L)
def zD108 (k n : Nat) (z : Int) (L : List Int) : Instr := bif Nat.blt k 54 then zD104 k n z L else zD107 k n z L
def zS108 (T : zTb) (fl : Bool) (M : zM) (pc k n : Nat) (z : Int) (L : List Int) (len : Nat) (st : zS) : zR := bif Nat.blt k 54 then zS104 T fl M pc k n z L len st else zS107 T fl M pc k n z L len st
theorem zE108 {T : zTb} {fl : Bool} {M : zM} {pc k n : Nat} {z : Int} {L : List Int} {len : Nat} {st : zS} : zS108 T fl M pc k n z L len st = zstep T fl M pc (zD108 k n z L) len st := by
  unfold zS108 zD108
  cases Nat.blt k 54 with
  | true => exact zE104 (n := n) (z := z) (L := L)
  | false => exact zE107 (n := n) (z := z) (L := L)
theorem zK108 {k n : Nat} {z : Int} {L : List Int} : z_spk (zD108 k n z L) = none := by
  unfold zD108
  cases Nat.blt k 54 with
  | true => exact zK104 (n := n) (z := z) (L := L)
  | false => exact zK107 (n := n) (z := z) (L := L)
def zD109 (k n : Nat) (z : Int) (L : List Int) : Instr := bif Nat.blt k 53 then zD103 k n z L else zD108 k n z L
def zS109 (T : zTb) (fl : Bool) (M : zM) (pc k n : Nat) (z : Int) (L : List Int) (len : Nat) (st : zS) : zR := bif Nat.blt k 53 then zS103 T fl M pc k n z L len st else zS108 T fl M pc k n z L len st
theorem zE109 {T : zTb} {fl : Bool} {M : zM} {pc k n : Nat} {z : Int} {L : List Int} {len : Nat} {st : zS} : zS109 T fl M pc k n z L len st = zstep T fl M pc (zD109 k n z L) len st := by
  unfold zS109 zD109
  cases Nat.blt k 53 with
  | true => exact zE103 (n := n) (z := z) (L := L)
  | false => exact zE108 (n := n) (z := z) (L := L)
theorem zK109 {k n : Nat} {z : Int} {L : List Int} : z_spk (zD109 k n z L) = none := by
  unfold zD109
  cases Nat.blt k 53 with
  | true => exact zK103 (n := n) (z := z) (L := L)
  | false => exact zK108 (n := n) (z := z) (L := L)
def zD110 (k n : Nat) (z : Int) (L : List Int) : Instr := bif Nat.beq k 56 then .lrem else .nop
def zS110 (T : zTb) (fl : Bool) (M : zM) (pc k n : Nat) (z : Int) (L : List Int) (len : Nat) (st : zS) : zR := bif Nat.beq k 56 then z_g len 1 (z_bo 1 1 (z_foldD 1 (cfL fun a b => a - a / b * b)) st) else none
theorem zE110 {T : zTb} {fl : Bool} {M : zM} {pc k n : Nat} {z : Int} {L : List Int} {len : Nat} {st : zS} : zS110 T fl M pc k n z L len st = zstep T fl M pc (zD110 k n z L) len st := by
  unfold zS110 zD110
  cases Nat.beq k 56 with
  | true => exact rfl
  | false => rfl
theorem zK110 {k n : Nat} {z : Int} {L : List Int} : z_spk (zD110 k n z L) = none := by
  unfold zD110
  cases Nat.beq k 56 with
  | true => rfl
  | false => rfl
def zD111 (k n : Nat) (z : Int) (L : List Int) : Instr := bif Nat.beq k 57 then .lshl else .nop
def zS111 (T : zTb) (fl : Bool) (M : zM) (pc k n : Nat) (z : Int) (L : List Int) (len : Nat) (st : zS) : zR := bif Nat.beq k 57 then z_g len 1 (z_bo 1 0 (z_fold 1 (cfS fun a b => a <<< (b.toInt64 &&& 63))) st) else none
theorem zE111 {T : zTb} {fl : Bool} {M : zM} {pc k n : Nat} {z : Int} {L : List Int} {len : Nat} {st : zS} : zS111 T fl M pc k n z L len st = zstep T fl M pc (zD111 k n z L) len st := by
  unfold zS111 zD111
  cases Nat.beq k 57 with
  | true => exact rfl
  | false => rfl
theorem zK111 {k n : Nat} {z : Int} {L : List Int} : z_spk (zD111 k n z L) = none := by
  unfold zD111
  cases Nat.beq k 57 with
  | true => rfl
  | false => rfl
def zD112 (k n : Nat) (z : Int) (L : List Int) : Instr := bif Nat.beq k 58 then .lshr else .nop
def zS112 (T : zTb) (fl : Bool) (M : zM) (pc k n : Nat) (z : Int) (L : List Int) (len : Nat) (st : zS) : zR := bif Nat.beq k 58 then z_g len 1 (z_bo 1 0 (z_fold 1 (cfS fun a b => a >>> (b.toInt64 &&& 63))) st) else none
theorem zE112 {T : zTb} {fl : Bool} {M : zM} {pc k n : Nat} {z : Int} {L : List Int} {len : Nat} {st : zS} : zS112 T fl M pc k n z L len st = zstep T fl M pc (zD112 k n z L) len st := by
  unfold zS112 zD112
  cases Nat.beq k 58 with
  | true => exact rfl
  | false => rfl
theorem zK112 {k n : Nat} {z : Int} {L : List Int} : z_spk (zD112 k n z L) = none := by
  unfold zD112
  cases Nat.beq k 58 with
  | true => rfl
  | false => rfl
def zD113 (k n : Nat) (z : Int) (L : List Int) : Instr := bif Nat.blt k 58 then zD111 k n z L else zD112 k n z L
def zS113 (T : zTb) (fl : Bool) (M : zM) (pc k n : Nat) (z : Int) (L : List Int) (len : Nat) (st : zS) : zR := bif Nat.blt k 58 then zS111 T fl M pc k n z L len st else zS112 T fl M pc k n z L len st
theorem zE113 {T : zTb} {fl : Bool} {M : zM} {pc k n : Nat} {z : Int} {L : List Int} {len : Nat} {st : zS} : zS113 T fl M pc k n z L len st = zstep T fl M pc (zD113 k n z L) len st := by
  unfold zS113 zD113
  cases Nat.blt k 58 with
  | true => exact zE111 (n := n) (z := z) (L := L)
  | false => exact zE112 (n := n) (z := z) (L := L)
theorem zK113 {k n : Nat} {z : Int} {L : List Int} : z_spk (zD113 k n z L) = none := by
  unfold zD113
  cases Nat.blt k 58 with
  | true => exact zK111 (n := n) (z := z) (L := L)
  | false => exact zK112 (n := n) (z := z) (L := L)
def zD114 (k n : Nat) (z : Int) (L : List Int) : Instr := bif Nat.blt k 57 then zD110 k n z L else zD113 k n z L
def zS114 (T : zTb) (fl : Bool) (M : zM) (pc k n : Nat) (z : Int) (L : List Int) (len : Nat) (st : zS) : zR := bif Nat.blt k 57 then zS110 T fl M pc k n z L len st else zS113 T fl M pc k n z L len st
theorem zE114 {T : zTb} {fl : Bool} {M : zM} {pc k n : Nat} {z : Int} {L : List Int} {len : Nat} {st : zS} : zS114 T fl M pc k n z L len st = zstep T fl M pc (zD114 k n z L) len st := by
  unfold zS114 zD114
  cases Nat.blt k 57 with
  | true => exact zE110 (n := n) (z := z) (L := L)
  | false => exact zE113 (n := n) (z := z) (L := L)
theorem zK114 {k n : Nat} {z : Int} {L : List Int} : z_spk (zD114 k n z L) = none := by
  unfold zD114
  cases Nat.blt k 57 with
  | true => exact zK110 (n := n) (z := z) (L := L)
  | false => exact zK113 (n := n) (z := z) (L := L)
def zD115 (k n : Nat) (z : Int) (L : List Int) : Instr := bif Nat.beq k 59 then .i2l else .nop
def zS115 (T : zTb) (fl : Bool) (M : zM) (pc k n : Nat) (z : Int) (L : List Int) (len : Nat) (st : zS) : zR := bif Nat.beq k 59 then z_g len 1 (z_uo 0 z_i2l st) else none
theorem zE115 {T : zTb} {fl : Bool} {M : zM} {pc k n : Nat} {z : Int} {L : List Int} {len : Nat} {st : zS} : zS115 T fl M pc k n z L len st = zstep T fl M pc (zD115 k n z L) len st := by
  unfold zS115 zD115
  cases Nat.beq k 59 with
  | true => exact rfl
  | false => rfl
theorem zK115 {k n : Nat} {z : Int} {L : List Int} : z_spk (zD115 k n z L) = none := by
  unfold zD115
  cases Nat.beq k 59 with
  | true => rfl
  | false => rfl
def zD116 (k n : Nat) (z : Int) (L : List Int) : Instr := bif Nat.beq k 60 then .l2i else .nop
def zS116 (T : zTb) (fl : Bool) (M : zM) (pc k n : Nat) (z : Int) (L : List Int) (len : Nat) (st : zS) : zR := bif Nat.beq k 60 then z_g len 1 (z_uo 1 z_l2i st) else none
theorem zE116 {T : zTb} {fl : Bool} {M : zM} {pc k n : Nat} {z : Int} {L : List Int} {len : Nat} {st : zS} : zS116 T fl M pc k n z L len st = zstep T fl M pc (zD116 k n z L) len st := by
  unfold zS116 zD116
  cases Nat.beq k 60 with
  | true => exact rfl
  | false => rfl
theorem zK116 {k n : Nat} {z : Int} {L : List Int} : z_spk (zD116 k n z L) = none := by
  unfold zD116
  cases Nat.beq k 60 with
  | true => rfl
  | false => rfl
def zD117 (k n : Nat) (z : Int) (L : List Int) : Instr := bif Nat.beq k 61 then .i2b else .nop
def zS117 (T : zTb) (fl : Bool) (M : zM) (pc k n : Nat) (z : Int) (L : List Int) (len : Nat) (st : zS) : zR := bif Nat.beq k 61 then z_g len 1 (z_uo 0 z_i2b st) else none
theorem zE117 {T : zTb} {fl : Bool} {M : zM} {pc k n : Nat} {z : Int} {L : List Int} {len : Nat} {st : zS} : zS117 T fl M pc k n z L len st = zstep T fl M pc (zD117 k n z L) len st := by
  unfold zS117 zD117
  cases Nat.beq k 61 with
  | true => exact rfl
  | false => rfl
theorem zK117 {k n : Nat} {z : Int} {L : List Int} : z_spk (zD117 k n z L) = none := by
  unfold zD117
  cases Nat.beq k 61 with
  | true => rfl
  | false => rfl
def zD118 (k n : Nat) (z : Int) (L : List Int) : Instr := bif Nat.blt k 61 then zD116 k n z L else zD117 k n z L
def zS118 (T : zTb) (fl : Bool) (M : zM) (pc k n : Nat) (z : Int) (L : List Int) (len : Nat) (st : zS) : zR := bif Nat.blt k 61 then zS116 T fl M pc k n z L len st else zS117 T fl M pc k n z L len st
theorem zE118 {T : zTb} {fl : Bool} {M : zM} {pc k n : Nat} {z : Int} {L : List Int} {len : Nat} {st : zS} : zS118 T fl M pc k n z L len st = zstep T fl M pc (zD118 k n z L) len st := by
  unfold zS118 zD118
  cases Nat.blt k 61 with
  | true => exact zE116 (n := n) (z := z) (L := L)
  | false => exact zE117 (n := n) (z := z) (L := L)
theorem zK118 {k n : Nat} {z : Int} {L : List Int} : z_spk (zD118 k n z L) = none := by
  unfold zD118
  cases Nat.blt k 61 with
  | true => exact zK116 (n := n) (z := z) (L := L)
  | false => exact zK117 (n := n) (z := z) (L := L)
def zD119 (k n : Nat) (z : Int) (L : List Int) : Instr := bif Nat.blt k 60 then zD115 k n z L else zD118 k n z L
def zS119 (T : zTb) (fl : Bool) (M : zM) (pc k n : Nat) (z : Int) (L : List Int) (len : Nat) (st : zS) : zR := bif Nat.blt k 60 then zS115 T fl M pc k n z L len st else zS118 T fl M pc k n z L len st
theorem zE119 {T : zTb} {fl : Bool} {M : zM} {pc k n : Nat} {z : Int} {L : List Int} {len : Nat} {st : zS} : zS119 T fl M pc k n z L len st = zstep T fl M pc (zD119 k n z L) len st := by
  unfold zS119 zD119
  cases Nat.blt k 60 with
  | true => exact zE115 (n := n) (z := z) (L := L)
  | false => exact zE118 (n := n) (z := z) (L := L)
theorem zK119 {k n : Nat} {z : Int} {L : List Int} : z_spk (zD119 k n z L) = none := by
  unfold zD119
  cases Nat.blt k 60 with
  | true => exact zK115 (n := n) (z := z) (L := L)
  | false => exact zK118 (n := n) (z := z) (L := L)
def zD120 (k n : Nat) (z : Int) (L : List Int) : Instr := bif Nat.blt k 59 then zD114 k n z L else zD119 k n z L
def zS120 (T : zTb) (fl : Bool) (M : zM) (pc k n : Nat) (z : Int) (L : List Int) (len : Nat) (st : zS) : zR := bif Nat.blt k 59 then zS114 T fl M pc k n z L len st else zS119 T fl M pc k n z L len st
theorem zE120 {T : zTb} {fl : Bool} {M : zM} {pc k n : Nat} {z : Int} {L : List Int} {len : Nat} {st : zS} : zS120 T fl M pc k n z L len st = zstep T fl M pc (zD120 k n z L) len st := by
  unfold zS120 zD120
  cases Nat.blt k 59 with
  | true => exact zE114 (n := n) (z := z) (L := L)
  | false => exact zE119 (n := n) (z := z) (L := L)
theorem zK120 {k n : Nat} {z : Int} {L : List Int} : z_spk (zD120 k n z L) = none := by
  unfold zD120
  cases Nat.blt k 59 with
  | true => exact zK114 (n := n) (z := z) (L := L)
  | false => exact zK119 (n := n) (z := z) (L := L)
def zD121 (k n : Nat) (z : Int) (L : List Int) : Instr := bif Nat.blt k 56 then zD109 k n z L else zD120 k n z L
def zS121 (T : zTb) (fl : Bool) (M : zM) (pc k n : Nat) (z : Int) (L : List Int) (len : Nat) (st : zS) : zR := bif Nat.blt k 56 then zS109 T fl M pc k n z L len st else zS120 T fl M pc k n z L len st
theorem zE121 {T : zTb} {fl : Bool} {M : zM} {pc k n : Nat} {z : Int} {L : List Int} {len : Nat} {st : zS} : zS121 T fl M pc k n z L len st = zstep T fl M pc (zD121 k n z L) len st := by
  unfold zS121 zD121
  cases Nat.blt k 56 with
  | true => exact zE109 (n := n) (z := z) (L := L)
  | false => exact zE120 (n := n) (z := z) (L := L)
theorem zK121 {k n : Nat} {z : Int} {L : List Int} : z_spk (zD121 k n z L) = none := by
  unfold zD121
  cases Nat.blt k 56 with
  | true => exact zK109 (n := n) (z := z) (L := L)
  | false => exact zK120 (n := n) (z := z) (L := L)
def zD122 (k n : Nat) (z : Int) (L : List Int) : Instr := bif Nat.beq k 62 then .dup else .nop
def zS122 (T : zTb) (fl : Bool) (M : zM) (pc k n : Nat) (z : Int) (L : List Int) (len : Nat) (st : zS) : zR := bif Nat.beq k 62 then z_g len 1 (z_rest z_dup st) else none
theorem zE122 {T : zTb} {fl : Bool} {M : zM} {pc k n : Nat} {z : Int} {L : List Int} {len : Nat} {st : zS} : zS122 T fl M pc k n z L len st = zstep T fl M pc (zD122 k n z L) len st := by
  unfold zS122 zD122
  cases Nat.beq k 62 with
  | true => exact rfl
  | false => rfl
theorem zK122 {k n : Nat} {z : Int} {L : List Int} : z_spk (zD122 k n z L) = none := by
  unfold zD122
  cases Nat.beq k 62 with
  | true => rfl
  | false => rfl
def zD123 (k n : Nat) (z : Int) (L : List Int) : Instr := bif Nat.beq k 63 then .pop else .nop
def zS123 (T : zTb) (fl : Bool) (M : zM) (pc k n : Nat) (z : Int) (L : List Int) (len : Nat) (st : zS) : zR := bif Nat.beq k 63 then z_g len 1 (z_rest z_pop st) else none
theorem zE123 {T : zTb} {fl : Bool} {M : zM} {pc k n : Nat} {z : Int} {L : List Int} {len : Nat} {st : zS} : zS123 T fl M pc k n z L len st = zstep T fl M pc (zD123 k n z L) len st := by
  unfold zS123 zD123
  cases Nat.beq k 63 with
  | true => exact rfl
  | false => rfl
theorem zK123 {k n : Nat} {z : Int} {L : List Int} : z_spk (zD123 k n z L) = none := by
  unfold zD123
  cases Nat.beq k 63 with
  | true => rfl
  | false => rfl
def zD124 (k n : Nat) (z : Int) (L : List Int) : Instr := bif Nat.beq k 64 then .pop2 else .nop
def zS124 (T : zTb) (fl : Bool) (M : zM) (pc k n : Nat) (z : Int) (L : List Int) (len : Nat) (st : zS) : zR := bif Nat.beq k 64 then z_g len 1 (z_rest z_pop2 st) else none
theorem zE124 {T : zTb} {fl : Bool} {M : zM} {pc k n : Nat} {z : Int} {L : List Int} {len : Nat} {st : zS} : zS124 T fl M pc k n z L len st = zstep T fl M pc (zD124 k n z L) len st := by
  unfold zS124 zD124
  cases Nat.beq k 64 with
  | true => exact rfl
  | false => rfl
theorem zK124 {k n : Nat} {z : Int} {L : List Int} : z_spk (zD124 k n z L) = none := by
  unfold zD124
  cases Nat.beq k 64 with
  | true => rfl
  | false => rfl
def zD125 (k n : Nat) (z : Int) (L : List Int) : Instr := bif Nat.blt k 64 then zD123 k n z L else zD124 k n z L
def zS125 (T : zTb) (fl : Bool) (M : zM) (pc k n : Nat) (z : Int) (L : List Int) (len : Nat) (st : zS) : zR := bif Nat.blt k 64 then zS123 T fl M pc k n z L len st else zS124 T fl M pc k n z L len st
theorem zE125 {T : zTb} {fl : Bool} {M : zM} {pc k n : Nat} {z : Int} {L : List Int} {len : Nat} {st : zS} : zS125 T fl M pc k n z L len st = zstep T fl M pc (zD125 k n z L) len st := by
  unfold zS125 zD125
  cases Nat.blt k 64 with
  | true => exact zE123 (n := n) (z := z) (L := L)
  | false => exact zE124 (n := n) (z := z) (L := L)
theorem zK125 {k n : Nat} {z : Int} {L : List Int} : z_spk (zD125 k n z L) = none := by
  unfold zD125
  cases Nat.blt k 64 with
  | true => exact zK123 (n := n) (z := z) (L := L)
  | false => exact zK124 (n := n) (z := z) (L := L)
def zD126 (k n : Nat) (z : Int) (L : List Int) : Instr := bif Nat.blt k 63 then zD122 k n z L else zD125 k n z L
def zS126 (T : zTb) (fl : Bool) (M : zM) (pc k n : Nat) (z : Int) (L : List Int) (len : Nat) (st : zS) : zR := bif Nat.blt k 63 then zS122 T fl M pc k n z L len st else zS125 T fl M pc k n z L len st
theorem zE126 {T : zTb} {fl : Bool} {M : zM} {pc k n : Nat} {z : Int} {L : List Int} {len : Nat} {st : zS} : zS126 T fl M pc k n z L len st = zstep T fl M pc (zD126 k n z L) len st := by
  unfold zS126 zD126
  cases Nat.blt k 63 with
  | true => exact zE122 (n := n) (z := z) (L := L)
  | false => exact zE125 (n := n) (z := z) (L := L)
theorem zK126 {k n : Nat} {z : Int} {L : List Int} : z_spk (zD126 k n z L) = none := by
  unfold zD126
  cases Nat.blt k 63 with
  | true => exact zK122 (n := n) (z := z) (L := L)
  | false => exact zK125 (n := n) (z := z) (L := L)
def zD127 (k n : Nat) (z : Int) (L : List Int) : Instr := bif Nat.beq k 65 then .dup2 else .nop
def zS127 (T : zTb) (fl : Bool) (M : zM) (pc k n : Nat) (z : Int) (L : List Int) (len : Nat) (st : zS) : zR := bif Nat.beq k 65 then z_g len 1 (z_rest z_dup2 st) else none
theorem zE127 {T : zTb} {fl : Bool} {M : zM} {pc k n : Nat} {z : Int} {L : List Int} {len : Nat} {st : zS} : zS127 T fl M pc k n z L len st = zstep T fl M pc (zD127 k n z L) len st := by
  unfold zS127 zD127
  cases Nat.beq k 65 with
  | true => exact rfl
  | false => rfl
theorem zK127 {k n : Nat} {z : Int} {L : List Int} : z_spk (zD127 k n z L) = none := by
  unfold zD127
  cases Nat.beq k 65 with
  | true => rfl
  | false => rfl
def zD128 (k n : Nat) (z : Int) (L : List Int) : Instr := bif Nat.beq k 66 then .lcmp else .nop
def zS128 (T : zTb) (fl : Bool) (M : zM) (pc k n : Nat) (z : Int) (L : List Int) (len : Nat) (st : zS) : zR := bif Nat.beq k 66 then z_g len 1 (z_lcmp st) else none
theorem zE128 {T : zTb} {fl : Bool} {M : zM} {pc k n : Nat} {z : Int} {L : List Int} {len : Nat} {st : zS} : zS128 T fl M pc k n z L len st = zstep T fl M pc (zD128 k n z L) len st := by
  unfold zS128 zD128
  cases Nat.beq k 66 with
  | true => exact rfl
  | false => rfl
theorem zK128 {k n : Nat} {z : Int} {L : List Int} : z_spk (zD128 k n z L) = none := by
  unfold zD128
  cases Nat.beq k 66 with
  | true => rfl
  | false => rfl
def zD129 (k n : Nat) (z : Int) (L : List Int) : Instr := bif Nat.beq k 67 then .iaload else .nop
def zS129 (T : zTb) (fl : Bool) (M : zM) (pc k n : Nat) (z : Int) (L : List Int) (len : Nat) (st : zS) : zR := bif Nat.beq k 67 then z_g len 1 (z_or (z_ald z_t1 0 T.1 st) (z_sld fl st)) else none
theorem zE129 {T : zTb} {fl : Bool} {M : zM} {pc k n : Nat} {z : Int} {L : List Int} {len : Nat} {st : zS} : zS129 T fl M pc k n z L len st = zstep T fl M pc (zD129 k n z L) len st := by
  unfold zS129 zD129
  cases Nat.beq k 67 with
  | true => exact rfl
  | false => rfl
theorem zK129 {k n : Nat} {z : Int} {L : List Int} : z_spk (zD129 k n z L) = none := by
  unfold zD129
  cases Nat.beq k 67 with
  | true => rfl
  | false => rfl
def zD130 (k n : Nat) (z : Int) (L : List Int) : Instr := bif Nat.blt k 67 then zD128 k n z L else zD129 k n z L
def zS130 (T : zTb) (fl : Bool) (M : zM) (pc k n : Nat) (z : Int) (L : List Int) (len : Nat) (st : zS) : zR := bif Nat.blt k 67 then zS128 T fl M pc k n z L len st else zS129 T fl M pc k n z L len st
theorem zE130 {T : zTb} {fl : Bool} {M : zM} {pc k n : Nat} {z : Int} {L : List Int} {len : Nat} {st : zS} : zS130 T fl M pc k n z L len st = zstep T fl M pc (zD130 k n z L) len st := by
  unfold zS130 zD130
  cases Nat.blt k 67 with
  | true => exact zE128 (n := n) (z := z) (L := L)
  | false => exact zE129 (n := n) (z := z) (L := L)
theorem zK130 {k n : Nat} {z : Int} {L : List Int} : z_spk (zD130 k n z L) = none := by
  unfold zD130
  cases Nat.blt k 67 with
  | true => exact zK128 (n := n) (z := z) (L := L)
  | false => exact zK129 (n := n) (z := z) (L := L)
def zD131 (k n : Nat) (z : Int) (L : List Int) : Instr := bif Nat.blt k 66 then zD127 k n z L else zD130 k n z L
def zS131 (T : zTb) (fl : Bool) (M : zM) (pc k n : Nat) (z : Int) (L : List Int) (len : Nat) (st : zS) : zR := bif Nat.blt k 66 then zS127 T fl M pc k n z L len st else zS130 T fl M pc k n z L len st
theorem zE131 {T : zTb} {fl : Bool} {M : zM} {pc k n : Nat} {z : Int} {L : List Int} {len : Nat} {st : zS} : zS131 T fl M pc k n z L len st = zstep T fl M pc (zD131 k n z L) len st := by
  unfold zS131 zD131
  cases Nat.blt k 66 with
  | true => exact zE127 (n := n) (z := z) (L := L)
  | false => exact zE130 (n := n) (z := z) (L := L)
theorem zK131 {k n : Nat} {z : Int} {L : List Int} : z_spk (zD131 k n z L) = none := by
  unfold zD131
  cases Nat.blt k 66 with
  | true => exact zK127 (n := n) (z := z) (L := L)
  | false => exact zK130 (n := n) (z := z) (L := L)
def zD132 (k n : Nat) (z : Int) (L : List Int) : Instr := bif Nat.blt k 65 then zD126 k n z L else zD131 k n z L
def zS132 (T : zTb) (fl : Bool) (M : zM) (pc k n : Nat) (z : Int) (L : List Int) (len : Nat) (st : zS) : zR := bif Nat.blt k 65 then zS126 T fl M pc k n z L len st else zS131 T fl M pc k n z L len st
theorem zE132 {T : zTb} {fl : Bool} {M : zM} {pc k n : Nat} {z : Int} {L : List Int} {len : Nat} {st : zS} : zS132 T fl M pc k n z L len st = zstep T fl M pc (zD132 k n z L) len st := by
  unfold zS132 zD132
  cases Nat.blt k 65 with
  | true => exact zE126 (n := n) (z := z) (L := L)
  | false => exact zE131 (n := n) (z := z) (L := L)
theorem zK132 {k n : Nat} {z : Int} {L : List Int} : z_spk (zD132 k n z L) = none := by
  unfold zD132
  cases Nat.blt k 65 with
  | true => exact zK126 (n := n) (z := z) (L := L)
  | false => exact zK131 (n := n) (z := z) (L := L)
def zD133 (k n : Nat) (z : Int) (L : List Int) : Instr := bif Nat.beq k 68 then .laload else .nop
def zS133 (T : zTb) (fl : Bool) (M : zM) (pc k n : Nat) (z : Int) (L : List Int) (len : Nat) (st : zS) : zR := bif Nat.beq k 68 then z_g len 1 (z_ald z_t2 1 T.1 st) else none
theorem zE133 {T : zTb} {fl : Bool} {M : zM} {pc k n : Nat} {z : Int} {L : List Int} {len : Nat} {st : zS} : zS133 T fl M pc k n z L len st = zstep T fl M pc (zD133 k n z L) len st := by
  unfold zS133 zD133
  cases Nat.beq k 68 with
  | true => exact rfl
  | false => rfl
theorem zK133 {k n : Nat} {z : Int} {L : List Int} : z_spk (zD133 k n z L) = none := by
  unfold zD133
  cases Nat.beq k 68 with
  | true => rfl
  | false => rfl
def zD134 (k n : Nat) (z : Int) (L : List Int) : Instr := bif Nat.beq k 69 then .baload else .nop
def zS134 (T : zTb) (fl : Bool) (M : zM) (pc k n : Nat) (z : Int) (L : List Int) (len : Nat) (st : zS) : zR := bif Nat.beq k 69 then z_g len 1 (z_ald z_t34 0 T.1 st) else none
theorem zE134 {T : zTb} {fl : Bool} {M : zM} {pc k n : Nat} {z : Int} {L : List Int} {len : Nat} {st : zS} : zS134 T fl M pc k n z L len st = zstep T fl M pc (zD134 k n z L) len st := by
  unfold zS134 zD134
  cases Nat.beq k 69 with
  | true => exact rfl
  | false => rfl
theorem zK134 {k n : Nat} {z : Int} {L : List Int} : z_spk (zD134 k n z L) = none := by
  unfold zD134
  cases Nat.beq k 69 with
  | true => rfl
  | false => rfl
def zD135 (k n : Nat) (z : Int) (L : List Int) : Instr := bif Nat.beq k 70 then .aaload else .nop
def zS135 (T : zTb) (fl : Bool) (M : zM) (pc k n : Nat) (z : Int) (L : List Int) (len : Nat) (st : zS) : zR := bif Nat.beq k 70 then z_g len 1 (z_ald (z_t5b T.2.2.1) 0 T.1 st) else none
theorem zE135 {T : zTb} {fl : Bool} {M : zM} {pc k n : Nat} {z : Int} {L : List Int} {len : Nat} {st : zS} : zS135 T fl M pc k n z L len st = zstep T fl M pc (zD135 k n z L) len st := by
  unfold zS135 zD135
  cases Nat.beq k 70 with
  | true => exact rfl
  | false => rfl
theorem zK135 {k n : Nat} {z : Int} {L : List Int} : z_spk (zD135 k n z L) = none := by
  unfold zD135
  cases Nat.beq k 70 with
  | true => rfl
  | false => rfl
def zD136 (k n : Nat) (z : Int) (L : List Int) : Instr := bif Nat.blt k 70 then zD134 k n z L else zD135 k n z L
def zS136 (T : zTb) (fl : Bool) (M : zM) (pc k n : Nat) (z : Int) (L : List Int) (len : Nat) (st : zS) : zR := bif Nat.blt k 70 then zS134 T fl M pc k n z L len st else zS135 T fl M pc k n z L len st
theorem zE136 {T : zTb} {fl : Bool} {M : zM} {pc k n : Nat} {z : Int} {L : List Int} {len : Nat} {st : zS} : zS136 T fl M pc k n z L len st = zstep T fl M pc (zD136 k n z L) len st := by
  unfold zS136 zD136
  cases Nat.blt k 70 with
  | true => exact zE134 (n := n) (z := z) (L := L)
  | false => exact zE135 (n := n) (z := z) (L := L)
theorem zK136 {k n : Nat} {z : Int} {L : List Int} : z_spk (zD136 k n z L) = none := by
  unfold zD136
  cases Nat.blt k 70 with
  | true => exact zK134 (n := n) (z := z) (L := L)
  | false => exact zK135 (n := n) (z := z) (L := L)
def zD137 (k n : Nat) (z : Int) (L : List Int) : Instr := bif Nat.blt k 69 then zD133 k n z L else zD136 k n z L
def zS137 (T : zTb) (fl : Bool) (M : zM) (pc k n : Nat) (z : Int) (L : List Int) (len : Nat) (st : zS) : zR := bif Nat.blt k 69 then zS133 T fl M pc k n z L len st else zS136 T fl M pc k n z L len st
theorem zE137 {T : zTb} {fl : Bool} {M : zM} {pc k n : Nat} {z : Int} {L : List Int} {len : Nat} {st : zS} : zS137 T fl M pc k n z L len st = zstep T fl M pc (zD137 k n z L) len st := by
  unfold zS137 zD137
  cases Nat.blt k 69 with
  | true => exact zE133 (n := n) (z := z) (L := L)
  | false => exact zE136 (n := n) (z := z) (L := L)
theorem zK137 {k n : Nat} {z : Int} {L : List Int} : z_spk (zD137 k n z L) = none := by
  unfold zD137
  cases Nat.blt k 69 with
  | true => exact zK133 (n := n) (z := z) (L := L)
  | false => exact zK136 (n := n) (z := z) (L := L)
def zD138 (k n : Nat) (z : Int) (L : List Int) : Instr := bif Nat.beq k 71 then .arraylength else .nop
def zS138 (T : zTb) (fl : Bool) (M : zM) (pc k n : Nat) (z : Int) (L : List Int) (len : Nat) (st : zS) : zR := bif Nat.beq k 71 then z_g len 1 (z_alen T.1 T.2.2.1 st) else none
theorem zE138 {T : zTb} {fl : Bool} {M : zM} {pc k n : Nat} {z : Int} {L : List Int} {len : Nat} {st : zS} : zS138 T fl M pc k n z L len st = zstep T fl M pc (zD138 k n z L) len st := by
  unfold zS138 zD138
  cases Nat.beq k 71 with
  | true => exact rfl
  | false => rfl
theorem zK138 {k n : Nat} {z : Int} {L : List Int} : z_spk (zD138 k n z L) = none := by
  unfold zD138
  cases Nat.beq k 71 with
  | true => rfl
  | false => rfl
def zD139 (k n : Nat) (z : Int) (L : List Int) : Instr := bif Nat.beq k 72 then .iastore else .nop
def zS139 (T : zTb) (fl : Bool) (M : zM) (pc k n : Nat) (z : Int) (L : List Int) (len : Nat) (st : zS) : zR := bif Nat.beq k 72 then z_g len 1 (z_ast z_t1 0 z_vl z_vh T.1 st) else none
theorem zE139 {T : zTb} {fl : Bool} {M : zM} {pc k n : Nat} {z : Int} {L : List Int} {len : Nat} {st : zS} : zS139 T fl M pc k n z L len st = zstep T fl M pc (zD139 k n z L) len st := by
  unfold zS139 zD139
  cases Nat.beq k 72 with
  | true => exact rfl
  | false => rfl
theorem zK139 {k n : Nat} {z : Int} {L : List Int} : z_spk (zD139 k n z L) = none := by
  unfold zD139
  cases Nat.beq k 72 with
  | true => rfl
  | false => rfl
def zD140 (k n : Nat) (z : Int) (L : List Int) : Instr := bif Nat.blt k 72 then zD138 k n z L else zD139 k n z L
def zS140 (T : zTb) (fl : Bool) (M : zM) (pc k n : Nat) (z : Int) (L : List Int) (len : Nat) (st : zS) : zR := bif Nat.blt k 72 then zS138 T fl M pc k n z L len st else zS139 T fl M pc k n z L len st
theorem zE140 {T : zTb} {fl : Bool} {M : zM} {pc k n : Nat} {z : Int} {L : List Int} {len : Nat} {st : zS} : zS140 T fl M pc k n z L len st = zstep T fl M pc (zD140 k n z L) len st := by
  unfold zS140 zD140
  cases Nat.blt k 72 with
  | true => exact zE138 (n := n) (z := z) (L := L)
  | false => exact zE139 (n := n) (z := z) (L := L)
theorem zK140 {k n : Nat} {z : Int} {L : List Int} : z_spk (zD140 k n z L) = none := by
  unfold zD140
  cases Nat.blt k 72 with
  | true => exact zK138 (n := n) (z := z) (L := L)
  | false => exact zK139 (n := n) (z := z) (L := L)
def zD141 (k n : Nat) (z : Int) (L : List Int) : Instr := bif Nat.beq k 73 then .bastore else .nop
def zS141 (T : zTb) (fl : Bool) (M : zM) (pc k n : Nat) (z : Int) (L : List Int) (len : Nat) (st : zS) : zR := bif Nat.beq k 73 then z_g len 1 (z_ast z_t34 0 z_vl z_vh T.1 st) else none
theorem zE141 {T : zTb} {fl : Bool} {M : zM} {pc k n : Nat} {z : Int} {L : List Int} {len : Nat} {st : zS} : zS141 T fl M pc k n z L len st = zstep T fl M pc (zD141 k n z L) len st := by
  unfold zS141 zD141
  cases Nat.beq k 73 with
  | true => exact rfl
  | false => rfl
theorem zK141 {k n : Nat} {z : Int} {L : List Int} : z_spk (zD141 k n z L) = none := by
  unfold zD141
  cases Nat.beq k 73 with
  | true => rfl
  | false => rfl
def zD142 (k n : Nat) (z : Int) (L : List Int) : Instr := bif Nat.beq k 74 then .lastore else .nop
def zS142 (T : zTb) (fl : Bool) (M : zM) (pc k n : Nat) (z : Int) (L : List Int) (len : Nat) (st : zS) : zR := bif Nat.beq k 74 then z_g len 1 (z_ast z_t2 1 z_vlL z_vhL T.1 st) else none
theorem zE142 {T : zTb} {fl : Bool} {M : zM} {pc k n : Nat} {z : Int} {L : List Int} {len : Nat} {st : zS} : zS142 T fl M pc k n z L len st = zstep T fl M pc (zD142 k n z L) len st := by
  unfold zS142 zD142
  cases Nat.beq k 74 with
  | true => exact rfl
  | false => rfl
theorem zK142 {k n : Nat} {z : Int} {L : List Int} : z_spk (zD142 k n z L) = none := by
  unfold zD142
  cases Nat.beq k 74 with
  | true => rfl
  | false => rfl
def zD143 (k n : Nat) (z : Int) (L : List Int) : Instr := bif Nat.blt k 74 then zD141 k n z L else zD142 k n z L
def zS143 (T : zTb) (fl : Bool) (M : zM) (pc k n : Nat) (z : Int) (L : List Int) (len : Nat) (st : zS) : zR := bif Nat.blt k 74 then zS141 T fl M pc k n z L len st else zS142 T fl M pc k n z L len st
theorem zE143 {T : zTb} {fl : Bool} {M : zM} {pc k n : Nat} {z : Int} {L : List Int} {len : Nat} {st : zS} : zS143 T fl M pc k n z L len st = zstep T fl M pc (zD143 k n z L) len st := by
  unfold zS143 zD143
  cases Nat.blt k 74 with
  | true => exact zE141 (n := n) (z := z) (L := L)
  | false => exact zE142 (n := n) (z := z) (L := L)
theorem zK143 {k n : Nat} {z : Int} {L : List Int} : z_spk (zD143 k n z L) = none := by
  unfold zD143
  cases Nat.blt k 74 with
  | true => exact zK141 (n := n) (z := z) (L := L)
  | false => exact zK142 (n := n) (z := z) (L := L)
def zD144 (k n : Nat) (z : Int) (L : List Int) : Instr := bif Nat.blt k 73 then zD140 k n z L else zD143 k n z L
def zS144 (T : zTb) (fl : Bool) (M : zM) (pc k n : Nat) (z : Int) (L : List Int) (len : Nat) (st : zS) : zR := bif Nat.blt k 73 then zS140 T fl M pc k n z L len st else zS143 T fl M pc k n z L len st
theorem zE144 {T : zTb} {fl : Bool} {M : zM} {pc k n : Nat} {z : Int} {L : List Int} {len : Nat} {st : zS} : zS144 T fl M pc k n z L len st = zstep T fl M pc (zD144 k n z L) len st := by
  unfold zS144 zD144
  cases Nat.blt k 73 with
  | true => exact zE140 (n := n) (z := z) (L := L)
  | false => exact zE143 (n := n) (z := z) (L := L)
theorem zK144 {k n : Nat} {z : Int} {L : List Int} : z_spk (zD144 k n z L) = none := by
  unfold zD144
  cases Nat.blt k 73 with
  | true => exact zK140 (n := n) (z := z) (L := L)
  | false => exact zK143 (n := n) (z := z) (L := L)
def zD145 (k n : Nat) (z : Int) (L : List Int) : Instr := bif Nat.blt k 71 then zD137 k n z L else zD144 k n z L
def zS145 (T : zTb) (fl : Bool) (M : zM) (pc k n : Nat) (z : Int) (L : List Int) (len : Nat) (st : zS) : zR := bif Nat.blt k 71 then zS137 T fl M pc k n z L len st else zS144 T fl M pc k n z L len st
theorem zE145 {T : zTb} {fl : Bool} {M : zM} {pc k n : Nat} {z : Int} {L : List Int} {len : Nat} {st : zS} : zS145 T fl M pc k n z L len st = zstep T fl M pc (zD145 k n z L) len st := by
  unfold zS145 zD145
  cases Nat.blt k 71 with
  | true => exact zE137 (n := n) (z := z) (L := L)
  | false => exact zE144 (n := n) (z := z) (L := L)
theorem zK145 {k n : Nat} {z : Int} {L : List Int} : z_spk (zD145 k n z L) = none := by
  unfold zD145
  cases Nat.blt k 71 with
  | true => exact zK137 (n := n) (z := z) (L := L)
  | false => exact zK144 (n := n) (z := z) (L := L)
def zD146 (k n : Nat) (z : Int) (L : List Int) : Instr := bif Nat.blt k 68 then zD132 k n z L else zD145 k n z L
def zS146 (T : zTb) (fl : Bool) (M : zM) (pc k n : Nat) (z : Int) (L : List Int) (len : Nat) (st : zS) : zR := bif Nat.blt k 68 then zS132 T fl M pc k n z L len st else zS145 T fl M pc k n z L len st
theorem zE146 {T : zTb} {fl : Bool} {M : zM} {pc k n : Nat} {z : Int} {L : List Int} {len : Nat} {st : zS} : zS146 T fl M pc k n z L len st = zstep T fl M pc (zD146 k n z L) len st := by
  unfold zS146 zD146
  cases Nat.blt k 68 with
  | true => exact zE132 (n := n) (z := z) (L := L)
  | false => exact zE145 (n := n) (z := z) (L := L)
theorem zK146 {k n : Nat} {z : Int} {L : List Int} : z_spk (zD146 k n z L) = none := by
  unfold zD146
  cases Nat.blt k 68 with
  | true => exact zK132 (n := n) (z := z) (L := L)
  | false => exact zK145 (n := n) (z := z) (L := L)
def zD147 (k n : Nat) (z : Int) (L : List Int) : Instr := bif Nat.blt k 62 then zD121 k n z L else zD146 k n z L
def zS147 (T : zTb) (fl : Bool) (M : zM) (pc k n : Nat) (z : Int) (L : List Int) (len : Nat) (st : zS) : zR := bif Nat.blt k 62 then zS121 T fl M pc k n z L len st else zS146 T fl M pc k n z L len st
theorem zE147 {T : zTb} {fl : Bool} {M : zM} {pc k n : Nat} {z : Int} {L : List Int} {len : Nat} {st : zS} : zS147 T fl M pc k n z L len st = zstep T fl M pc (zD147 k n z L) len st := by
  unfold zS147 zD147
  cases Nat.blt k 62 with
  | true => exact zE121 (n := n) (z := z) (L := L)
  | false => exact zE146 (n := n) (z := z) (L := L)
theorem zK147 {k n : Nat} {z : Int} {L : List Int} : z_spk (zD147 k n z L) = none := by
  unfold zD147
  cases Nat.blt k 62 with
  | true => exact zK121 (n := n) (z := z) (L := L)
  | false => exact zK146 (n := n) (z := z) (L := L)
def zD148 (k n : Nat) (z : Int) (L : List Int) : Instr := bif Nat.beq k 75 then .aastore else .nop
def zS148 (T : zTb) (fl : Bool) (M : zM) (pc k n : Nat) (z : Int) (L : List Int) (len : Nat) (st : zS) : zR := bif Nat.beq k 75 then z_g len 1 (z_aast T.1 T.2.2.2.2.2.2.2.2.2.1 st) else none
theorem zE148 {T : zTb} {fl : Bool} {M : zM} {pc k n : Nat} {z : Int} {L : List Int} {len : Nat} {st : zS} : zS148 T fl M pc k n z L len st = zstep T fl M pc (zD148 k n z L) len st := by
  unfold zS148 zD148
  cases Nat.beq k 75 with
  | true => exact rfl
  | false => rfl
theorem zK148 {k n : Nat} {z : Int} {L : List Int} : z_spk (zD148 k n z L) = none := by
  unfold zD148
  cases Nat.beq k 75 with
  | true => rfl
  | false => rfl
def zD149 (k n : Nat) (z : Int) (L : List Int) : Instr := bif Nat.beq k 76 then .if_icmp .eq z else .nop
def zS149 (T : zTb) (fl : Bool) (M : zM) (pc k n : Nat) (z : Int) (L : List Int) (len : Nat) (st : zS) : zR := bif Nat.beq k 76 then z_g len 3 (z_icmp .eq pc z st) else none
theorem zE149 {T : zTb} {fl : Bool} {M : zM} {pc k n : Nat} {z : Int} {L : List Int} {len : Nat} {st : zS} : zS149 T fl M pc k n z L len st = zstep T fl M pc (zD149 k n z L) len st := by
  unfold zS149 zD149
  cases Nat.beq k 76 with
  | true => exact rfl
  | false => rfl
theorem zK149 {k n : Nat} {z : Int} {L : List Int} : z_spk (zD149 k n z L) = none := by
  unfold zD149
  cases Nat.beq k 76 with
  | true => rfl
  | false => rfl
def zD150 (k n : Nat) (z : Int) (L : List Int) : Instr := bif Nat.beq k 77 then .if_icmp .ne z else .nop
def zS150 (T : zTb) (fl : Bool) (M : zM) (pc k n : Nat) (z : Int) (L : List Int) (len : Nat) (st : zS) : zR := bif Nat.beq k 77 then z_g len 3 (z_icmp .ne pc z st) else none
theorem zE150 {T : zTb} {fl : Bool} {M : zM} {pc k n : Nat} {z : Int} {L : List Int} {len : Nat} {st : zS} : zS150 T fl M pc k n z L len st = zstep T fl M pc (zD150 k n z L) len st := by
  unfold zS150 zD150
  cases Nat.beq k 77 with
  | true => exact rfl
  | false => rfl
theorem zK150 {k n : Nat} {z : Int} {L : List Int} : z_spk (zD150 k n z L) = none := by
  unfold zD150
  cases Nat.beq k 77 with
  | true => rfl
  | false => rfl
def zD151 (k n : Nat) (z : Int) (L : List Int) : Instr := bif Nat.blt k 77 then zD149 k n z L else zD150 k n z L
def zS151 (T : zTb) (fl : Bool) (M : zM) (pc k n : Nat) (z : Int) (L : List Int) (len : Nat) (st : zS) : zR := bif Nat.blt k 77 then zS149 T fl M pc k n z L len st else zS150 T fl M pc k n z L len st
theorem zE151 {T : zTb} {fl : Bool} {M : zM} {pc k n : Nat} {z : Int} {L : List Int} {len : Nat} {st : zS} : zS151 T fl M pc k n z L len st = zstep T fl M pc (zD151 k n z L) len st := by
  unfold zS151 zD151
  cases Nat.blt k 77 with
  | true => exact zE149 (n := n) (z := z) (L := L)
  | false => exact zE150 (n := n) (z := z) (L := L)
theorem zK151 {k n : Nat} {z : Int} {L : List Int} : z_spk (zD151 k n z L) = none := by
  unfold zD151
  cases Nat.blt k 77 with
  | true => exact zK149 (n := n) (z := z) (L := L)
  | false => exact zK150 (n := n) (z := z) (L := L)
def zD152 (k n : Nat) (z : Int) (L : List Int) : Instr := bif Nat.blt k 76 then zD148 k n z L else zD151 k n z L
def zS152 (T : zTb) (fl : Bool) (M : zM) (pc k n : Nat) (z : Int) (L : List Int) (len : Nat) (st : zS) : zR := bif Nat.blt k 76 then zS148 T fl M pc k n z L len st else zS151 T fl M pc k n z L len st
theorem zE152 {T : zTb} {fl : Bool} {M : zM} {pc k n : Nat} {z : Int} {L : List Int} {len : Nat} {st : zS} : zS152 T fl M pc k n z L len st = zstep T fl M pc (zD152 k n z L) len st := by
  unfold zS152 zD152
  cases Nat.blt k 76 with
  | true => exact zE148 (n := n) (z := z) (L := L)
  | false => exact zE151 (n := n) (z := z) (L := L)
theorem zK152 {k n : Nat} {z : Int} {L : List Int} : z_spk (zD152 k n z L) = none := by
  unfold zD152
  cases Nat.blt k 76 with
  | true => exact zK148 (n := n) (z := z) (L := L)
  | false => exact zK151 (n := n) (z := z) (L := L)
def zD153 (k n : Nat) (z : Int) (L : List Int) : Instr := bif Nat.beq k 78 then .if_icmp .lt z else .nop
def zS153 (T : zTb) (fl : Bool) (M : zM) (pc k n : Nat) (z : Int) (L : List Int) (len : Nat) (st : zS) : zR := bif Nat.beq k 78 then z_g len 3 (z_icmp .lt pc z st) else none
theorem zE153 {T : zTb} {fl : Bool} {M : zM} {pc k n : Nat} {z : Int} {L : List Int} {len : Nat} {st : zS} : zS153 T fl M pc k n z L len st = zstep T fl M pc (zD153 k n z L) len st := by
  unfold zS153 zD153
  cases Nat.beq k 78 with
  | true => exact rfl
  | false => rfl
theorem zK153 {k n : Nat} {z : Int} {L : List Int} : z_spk (zD153 k n z L) = none := by
  unfold zD153
  cases Nat.beq k 78 with
  | true => rfl
  | false => rfl
def zD154 (k n : Nat) (z : Int) (L : List Int) : Instr := bif Nat.beq k 79 then .if_icmp .ge z else .nop
def zS154 (T : zTb) (fl : Bool) (M : zM) (pc k n : Nat) (z : Int) (L : List Int) (len : Nat) (st : zS) : zR := bif Nat.beq k 79 then z_g len 3 (z_icmp .ge pc z st) else none
theorem zE154 {T : zTb} {fl : Bool} {M : zM} {pc k n : Nat} {z : Int} {L : List Int} {len : Nat} {st : zS} : zS154 T fl M pc k n z L len st = zstep T fl M pc (zD154 k n z L) len st := by
  unfold zS154 zD154
  cases Nat.beq k 79 with
  | true => exact rfl
  | false => rfl
theorem zK154 {k n : Nat} {z : Int} {L : List Int} : z_spk (zD154 k n z L) = none := by
  unfold zD154
  cases Nat.beq k 79 with
  | true => rfl
  | false => rfl
def zD155 (k n : Nat) (z : Int) (L : List Int) : Instr := bif Nat.beq k 80 then .if_icmp .gt z else .nop
def zS155 (T : zTb) (fl : Bool) (M : zM) (pc k n : Nat) (z : Int) (L : List Int) (len : Nat) (st : zS) : zR := bif Nat.beq k 80 then z_g len 3 (z_icmp .gt pc z st) else none
theorem zE155 {T : zTb} {fl : Bool} {M : zM} {pc k n : Nat} {z : Int} {L : List Int} {len : Nat} {st : zS} : zS155 T fl M pc k n z L len st = zstep T fl M pc (zD155 k n z L) len st := by
  unfold zS155 zD155
  cases Nat.beq k 80 with
  | true => exact rfl
  | false => rfl
theorem zK155 {k n : Nat} {z : Int} {L : List Int} : z_spk (zD155 k n z L) = none := by
  unfold zD155
  cases Nat.beq k 80 with
  | true => rfl
  | false => rfl
def zD156 (k n : Nat) (z : Int) (L : List Int) : Instr := bif Nat.blt k 80 then zD154 k n z L else zD155 k n z L
def zS156 (T : zTb) (fl : Bool) (M : zM) (pc k n : Nat) (z : Int) (L : List Int) (len : Nat) (st : zS) : zR := bif Nat.blt k 80 then zS154 T fl M pc k n z L len st else zS155 T fl M pc k n z L len st
theorem zE156 {T : zTb} {fl : Bool} {M : zM} {pc k n : Nat} {z : Int} {L : List Int} {len : Nat} {st : zS} : zS156 T fl M pc k n z L len st = zstep T fl M pc (zD156 k n z L) len st := by
  unfold zS156 zD156
  cases Nat.blt k 80 with
  | true => exact zE154 (n := n) (z := z) (L := L)
  | false => exact zE155 (n := n) (z := z) (L := L)
theorem zK156 {k n : Nat} {z : Int} {L : List Int} : z_spk (zD156 k n z L) = none := by
  unfold zD156
  cases Nat.blt k 80 with
  | true => exact zK154 (n := n) (z := z) (L := L)
  | false => exact zK155 (n := n) (z := z) (L := L)
def zD157 (k n : Nat) (z : Int) (L : List Int) : Instr := bif Nat.blt k 79 then zD153 k n z L else zD156 k n z L
def zS157 (T : zTb) (fl : Bool) (M : zM) (pc k n : Nat) (z : Int) (L : List Int) (len : Nat) (st : zS) : zR := bif Nat.blt k 79 then zS153 T fl M pc k n z L len st else zS156 T fl M pc k n z L len st
theorem zE157 {T : zTb} {fl : Bool} {M : zM} {pc k n : Nat} {z : Int} {L : List Int} {len : Nat} {st : zS} : zS157 T fl M pc k n z L len st = zstep T fl M pc (zD157 k n z L) len st := by
  unfold zS157 zD157
  cases Nat.blt k 79 with
  | true => exact zE153 (n := n) (z := z) (L := L)
  | false => exact zE156 (n := n) (z := z) (L := L)
theorem zK157 {k n : Nat} {z : Int} {L : List Int} : z_spk (zD157 k n z L) = none := by
  unfold zD157
  cases Nat.blt k 79 with
  | true => exact zK153 (n := n) (z := z) (L := L)
  | false => exact zK156 (n := n) (z := z) (L := L)
def zD158 (k n : Nat) (z : Int) (L : List Int) : Instr := bif Nat.blt k 78 then zD152 k n z L else zD157 k n z L
def zS158 (T : zTb) (fl : Bool) (M : zM) (pc k n : Nat) (z : Int) (L : List Int) (len : Nat) (st : zS) : zR := bif Nat.blt k 78 then zS152 T fl M pc k n z L len st else zS157 T fl M pc k n z L len st
theorem zE158 {T : zTb} {fl : Bool} {M : zM} {pc k n : Nat} {z : Int} {L : List Int} {len : Nat} {st : zS} : zS158 T fl M pc k n z L len st = zstep T fl M pc (zD158 k n z L) len st := by
  unfold zS158 zD158
  cases Nat.blt k 78 with
  | true => exact zE152 (n := n) (z := z) (L := L)
  | false => exact zE157 (n := n) (z := z) (L := L)
theorem zK158 {k n : Nat} {z : Int} {L : List Int} : z_spk (zD158 k n z L) = none := by
  unfold zD158
  cases Nat.blt k 78 with
  | true => exact zK152 (n := n) (z := z) (L := L)
  | false => exact zK157 (n := n) (z := z) (L := L)
def zD159 (k n : Nat) (z : Int) (L : List Int) : Instr := bif Nat.beq k 81 then .if_icmp .le z else .nop
def zS159 (T : zTb) (fl : Bool) (M : zM) (pc k n : Nat) (z : Int) (L : List Int) (len : Nat) (st : zS) : zR := bif Nat.beq k 81 then z_g len 3 (z_icmp .le pc z st) else none
theorem zE159 {T : zTb} {fl : Bool} {M : zM} {pc k n : Nat} {z : Int} {L : List Int} {len : Nat} {st : zS} : zS159 T fl M pc k n z L len st = zstep T fl M pc (zD159 k n z L) len st := by
  unfold zS159 zD159
  cases Nat.beq k 81 with
  | true => exact rfl
  | false => rfl
theorem zK159 {k n : Nat} {z : Int} {L : List Int} : z_spk (zD159 k n z L) = none := by
  unfold zD159
  cases Nat.beq k 81 with
  | true => rfl
  | false => rfl
def zD160 (k n : Nat) (z : Int) (L : List Int) : Instr := bif Nat.beq k 82 then .ifCond .eq z else .nop
def zS160 (T : zTb) (fl : Bool) (M : zM) (pc k n : Nat) (z : Int) (L : List Int) (len : Nat) (st : zS) : zR := bif Nat.beq k 82 then z_g len 3 (z_if .eq pc z st) else none
theorem zE160 {T : zTb} {fl : Bool} {M : zM} {pc k n : Nat} {z : Int} {L : List Int} {len : Nat} {st : zS} : zS160 T fl M pc k n z L len st = zstep T fl M pc (zD160 k n z L) len st := by
  unfold zS160 zD160
  cases Nat.beq k 82 with
  | true => exact rfl
  | false => rfl
theorem zK160 {k n : Nat} {z : Int} {L : List Int} : z_spk (zD160 k n z L) = none := by
  unfold zD160
  cases Nat.beq k 82 with
  | true => rfl
  | false => rfl
def zD161 (k n : Nat) (z : Int) (L : List Int) : Instr := bif Nat.beq k 83 then .ifCond .ne z else .nop
def zS161 (T : zTb) (fl : Bool) (M : zM) (pc k n : Nat) (z : Int) (L : List Int) (len : Nat) (st : zS) : zR := bif Nat.beq k 83 then z_g len 3 (z_if .ne pc z st) else none
theorem zE161 {T : zTb} {fl : Bool} {M : zM} {pc k n : Nat} {z : Int} {L : List Int} {len : Nat} {st : zS} : zS161 T fl M pc k n z L len st = zstep T fl M pc (zD161 k n z L) len st := by
  unfold zS161 zD161
  cases Nat.beq k 83 with
  | true => exact rfl
  | false => rfl
theorem zK161 {k n : Nat} {z : Int} {L : List Int} : z_spk (zD161 k n z L) = none := by
  unfold zD161
  cases Nat.beq k 83 with
  | true => rfl
  | false => rfl
def zD162 (k n : Nat) (z : Int) (L : List Int) : Instr := bif Nat.blt k 83 then zD160 k n z L else zD161 k n z L
def zS162 (T : zTb) (fl : Bool) (M : zM) (pc k n : Nat) (z : Int) (L : List Int) (len : Nat) (st : zS) : zR := bif Nat.blt k 83 then zS160 T fl M pc k n z L len st else zS161 T fl M pc k n z L len st
theorem zE162 {T : zTb} {fl : Bool} {M : zM} {pc k n : Nat} {z : Int} {L : List Int} {len : Nat} {st : zS} : zS162 T fl M pc k n z L len st = zstep T fl M pc (zD162 k n z L) len st := by
  unfold zS162 zD162
  cases Nat.blt k 83 with
  | true => exact zE160 (n := n) (z := z) (L := L)
  | false => exact zE161 (n := n) (z := z) (L := L)
theorem zK162 {k n : Nat} {z : Int} {L : List Int} : z_spk (zD162 k n z L) = none := by
  unfold zD162
  cases Nat.blt k 83 with
  | true => exact zK160 (n := n) (z := z) (L := L)
  | false => exact zK161 (n := n) (z := z) (L := L)
def zD163 (k n : Nat) (z : Int) (L : List Int) : Instr := bif Nat.blt k 82 then zD159 k n z L else zD162 k n z L
def zS163 (T : zTb) (fl : Bool) (M : zM) (pc k n : Nat) (z : Int) (L : List Int) (len : Nat) (st : zS) : zR := bif Nat.blt k 82 then zS159 T fl M pc k n z L len st else zS162 T fl M pc k n z L len st
theorem zE163 {T : zTb} {fl : Bool} {M : zM} {pc k n : Nat} {z : Int} {L : List Int} {len : Nat} {st : zS} : zS163 T fl M pc k n z L len st = zstep T fl M pc (zD163 k n z L) len st := by
  unfold zS163 zD163
  cases Nat.blt k 82 with
  | true => exact zE159 (n := n) (z := z) (L := L)
  | false => exact zE162 (n := n) (z := z) (L := L)
theorem zK163 {k n : Nat} {z : Int} {L : List Int} : z_spk (zD163 k n z L) = none := by
  unfold zD163
  cases Nat.blt k 82 with
  | true => exact zK159 (n := n) (z := z) (L := L)
  | false => exact zK162 (n := n) (z := z) (L := L)
def zD164 (k n : Nat) (z : Int) (L : List Int) : Instr := bif Nat.beq k 84 then .ifCond .lt z else .nop
def zS164 (T : zTb) (fl : Bool) (M : zM) (pc k n : Nat) (z : Int) (L : List Int) (len : Nat) (st : zS) : zR := bif Nat.beq k 84 then z_g len 3 (z_if .lt pc z st) else none
theorem zE164 {T : zTb} {fl : Bool} {M : zM} {pc k n : Nat} {z : Int} {L : List Int} {len : Nat} {st : zS} : zS164 T fl M pc k n z L len st = zstep T fl M pc (zD164 k n z L) len st := by
  unfold zS164 zD164
  cases Nat.beq k 84 with
  | true => exact rfl
  | false => rfl
theorem zK164 {k n : Nat} {z : Int} {L : List Int} : z_spk (zD164 k n z L) = none := by
  unfold zD164
  cases Nat.beq k 84 with
  | true => rfl
  | false => rfl
def zD165 (k n : Nat) (z : Int) (L : List Int) : Instr := bif Nat.beq k 85 then .ifCond .ge z else .nop
def zS165 (T : zTb) (fl : Bool) (M : zM) (pc k n : Nat) (z : Int) (L : List Int) (len : Nat) (st : zS) : zR := bif Nat.beq k 85 then z_g len 3 (z_if .ge pc z st) else none
theorem zE165 {T : zTb} {fl : Bool} {M : zM} {pc k n : Nat} {z : Int} {L : List Int} {len : Nat} {st : zS} : zS165 T fl M pc k n z L len st = zstep T fl M pc (zD165 k n z L) len st := by
  unfold zS165 zD165
  cases Nat.beq k 85 with
  | true => exact rfl
  | false => rfl
theorem zK165 {k n : Nat} {z : Int} {L : List Int} : z_spk (zD165 k n z L) = none := by
  unfold zD165
  cases Nat.beq k 85 with
  | true => rfl
  | false => rfl
def zD166 (k n : Nat) (z : Int) (L : List Int) : Instr := bif Nat.beq k 86 then .ifCond .gt z else .nop
def zS166 (T : zTb) (fl : Bool) (M : zM) (pc k n : Nat) (z : Int) (L : List Int) (len : Nat) (st : zS) : zR := bif Nat.beq k 86 then z_g len 3 (z_if .gt pc z st) else none
theorem zE166 {T : zTb} {fl : Bool} {M : zM} {pc k n : Nat} {z : Int} {L : List Int} {len : Nat} {st : zS} : zS166 T fl M pc k n z L len st = zstep T fl M pc (zD166 k n z L) len st := by
  unfold zS166 zD166
  cases Nat.beq k 86 with
  | true => exact rfl
  | false => rfl
theorem zK166 {k n : Nat} {z : Int} {L : List Int} : z_spk (zD166 k n z L) = none := by
  unfold zD166
  cases Nat.beq k 86 with
  | true => rfl
  | false => rfl
def zD167 (k n : Nat) (z : Int) (L : List Int) : Instr := bif Nat.blt k 86 then zD165 k n z L else zD166 k n z L
def zS167 (T : zTb) (fl : Bool) (M : zM) (pc k n : Nat) (z : Int) (L : List Int) (len : Nat) (st : zS) : zR := bif Nat.blt k 86 then zS165 T fl M pc k n z L len st else zS166 T fl M pc k n z L len st
theorem zE167 {T : zTb} {fl : Bool} {M : zM} {pc k n : Nat} {z : Int} {L : List Int} {len : Nat} {st : zS} : zS167 T fl M pc k n z L len st = zstep T fl M pc (zD167 k n z L) len st := by
  unfold zS167 zD167
  cases Nat.blt k 86 with
  | true => exact zE165 (n := n) (z := z) (L := L)
  | false => exact zE166 (n := n) (z := z) (L := L)
theorem zK167 {k n : Nat} {z : Int} {L : List Int} : z_spk (zD167 k n z L) = none := by
  unfold zD167
  cases Nat.blt k 86 with
  | true => exact zK165 (n := n) (z := z) (L := L)
  | false => exact zK166 (n := n) (z := z) (L := L)
def zD168 (k n : Nat) (z : Int) (L : List Int) : Instr := bif Nat.blt k 85 then zD164 k n z L else zD167 k n z L
def zS168 (T : zTb) (fl : Bool) (M : zM) (pc k n : Nat) (z : Int) (L : List Int) (len : Nat) (st : zS) : zR := bif Nat.blt k 85 then zS164 T fl M pc k n z L len st else zS167 T fl M pc k n z L len st
theorem zE168 {T : zTb} {fl : Bool} {M : zM} {pc k n : Nat} {z : Int} {L : List Int} {len : Nat} {st : zS} : zS168 T fl M pc k n z L len st = zstep T fl M pc (zD168 k n z L) len st := by
  unfold zS168 zD168
  cases Nat.blt k 85 with
  | true => exact zE164 (n := n) (z := z) (L := L)
  | false => exact zE167 (n := n) (z := z) (L := L)
theorem zK168 {k n : Nat} {z : Int} {L : List Int} : z_spk (zD168 k n z L) = none := by
  unfold zD168
  cases Nat.blt k 85 with
  | true => exact zK164 (n := n) (z := z) (L := L)
  | false => exact zK167 (n := n) (z := z) (L := L)
def zD169 (k n : Nat) (z : Int) (L : List Int) : Instr := bif Nat.blt k 84 then zD163 k n z L else zD168 k n z L
def zS169 (T : zTb) (fl : Bool) (M : zM) (pc k n : Nat) (z : Int) (L : List Int) (len : Nat) (st : zS) : zR := bif Nat.blt k 84 then zS163 T fl M pc k n z L len st else zS168 T fl M pc k n z L len st
theorem zE169 {T : zTb} {fl : Bool} {M : zM} {pc k n : Nat} {z : Int} {L : List Int} {len : Nat} {st : zS} : zS169 T fl M pc k n z L len st = zstep T fl M pc (zD169 k n z L) len st := by
  unfold zS169 zD169
  cases Nat.blt k 84 with
  | true => exact zE163 (n := n) (z := z) (L := L)
  | false => exact zE168 (n := n) (z := z) (L := L)
theorem zK169 {k n : Nat} {z : Int} {L : List Int} : z_spk (zD169 k n z L) = none := by
  unfold zD169
  cases Nat.blt k 84 with
  | true => exact zK163 (n := n) (z := z) (L := L)
  | false => exact zK168 (n := n) (z := z) (L := L)
def zD170 (k n : Nat) (z : Int) (L : List Int) : Instr := bif Nat.blt k 81 then zD158 k n z L else zD169 k n z L
def zS170 (T : zTb) (fl : Bool) (M : zM) (pc k n : Nat) (z : Int) (L : List Int) (len : Nat) (st : zS) : zR := bif Nat.blt k 81 then zS158 T fl M pc k n z L len st else zS169 T fl M pc k n z L len st
theorem zE170 {T : zTb} {fl : Bool} {M : zM} {pc k n : Nat} {z : Int} {L : List Int} {len : Nat} {st : zS} : zS170 T fl M pc k n z L len st = zstep T fl M pc (zD170 k n z L) len st := by
  unfold zS170 zD170
  cases Nat.blt k 81 with
  | true => exact zE158 (n := n) (z := z) (L := L)
  | false => exact zE169 (n := n) (z := z) (L := L)
theorem zK170 {k n : Nat} {z : Int} {L : List Int} : z_spk (zD170 k n z L) = none := by
  unfold zD170
  cases Nat.blt k 81 with
  | true => exact zK158 (n := n) (z := z) (L := L)
  | false => exact zK169 (n := n) (z := z) (L := L)
def zD171 (k n : Nat) (z : Int) (L : List Int) : Instr := bif Nat.beq k 87 then .ifCond .le z else .nop
def zS171 (T : zTb) (fl : Bool) (M : zM) (pc k n : Nat) (z : Int) (L : List Int) (len : Nat) (st : zS) : zR := bif Nat.beq k 87 then z_g len 3 (z_if .le pc z st) else none
theorem zE171 {T : zTb} {fl : Bool} {M : zM} {pc k n : Nat} {z : Int} {L : List Int} {len : Nat} {st : zS} : zS171 T fl M pc k n z L len st = zstep T fl M pc (zD171 k n z L) len st := by
  unfold zS171 zD171
  cases Nat.beq k 87 with
  | true => exact rfl
  | false => rfl
theorem zK171 {k n : Nat} {z : Int} {L : List Int} : z_spk (zD171 k n z L) = none := by
  unfold zD171
  cases Nat.beq k 87 with
  | true => rfl
  | false => rfl
def zD172 (k n : Nat) (z : Int) (L : List Int) : Instr := bif Nat.beq k 88 then .goto z else .nop
def zS172 (T : zTb) (fl : Bool) (M : zM) (pc k n : Nat) (z : Int) (L : List Int) (len : Nat) (st : zS) : zR := bif Nat.beq k 88 then z_g len 3 (z_goto pc z st) else none
theorem zE172 {T : zTb} {fl : Bool} {M : zM} {pc k n : Nat} {z : Int} {L : List Int} {len : Nat} {st : zS} : zS172 T fl M pc k n z L len st = zstep T fl M pc (zD172 k n z L) len st := by
  unfold zS172 zD172
  cases Nat.beq k 88 with
  | true => exact rfl
  | false => rfl
theorem zK172 {k n : Nat} {z : Int} {L : List Int} : z_spk (zD172 k n z L) = none := by
  unfold zD172
  cases Nat.beq k 88 with
  | true => rfl
  | false => rfl
def zD173 (k n : Nat) (z : Int) (L : List Int) : Instr := bif Nat.beq k 89 then z_ts z L else .nop
def zS173 (T : zTb) (fl : Bool) (M : zM) (pc k n : Nat) (z : Int) (L : List Int) (len : Nat) (st : zS) : zR := bif Nat.beq k 89 then z_tsC pc z L st else none
theorem zE173 {T : zTb} {fl : Bool} {M : zM} {pc k n : Nat} {z : Int} {L : List Int} {len : Nat} {st : zS} : zS173 T fl M pc k n z L len st = zstep T fl M pc (zD173 k n z L) len st := by
  unfold zS173 zD173
  cases Nat.beq k 89 with
  | true => exact z_tsC_eq
  | false => rfl
theorem zK173 {k n : Nat} {z : Int} {L : List Int} : z_spk (zD173 k n z L) = none := by
  unfold zD173
  cases Nat.beq k 89 with
  | true => unfold z_ts; cases L with
    | nil => rfl
    | cons a r => cases r with
      | nil => rfl
      | cons b t => rfl
  | false => rfl
def zD174 (k n : Nat) (z : Int) (L : List Int) : Instr := bif Nat.blt k 89 then zD172 k n z L else zD173 k n z L
def zS174 (T : zTb) (fl : Bool) (M : zM) (pc k n : Nat) (z : Int) (L : List Int) (len : Nat) (st : zS) : zR := bif Nat.blt k 89 then zS172 T fl M pc k n z L len st else zS173 T fl M pc k n z L len st
theorem zE174 {T : zTb} {fl : Bool} {M : zM} {pc k n : Nat} {z : Int} {L : List Int} {len : Nat} {st : zS} : zS174 T fl M pc k n z L len st = zstep T fl M pc (zD174 k n z L) len st := by
  unfold zS174 zD174
  cases Nat.blt k 89 with
  | true => exact zE172 (n := n) (z := z) (L := L)
  | false => exact zE173 (n := n) (z := z) (L := L)
theorem zK174 {k n : Nat} {z : Int} {L : List Int} : z_spk (zD174 k n z L) = none := by
  unfold zD174
  cases Nat.blt k 89 with
  | true => exact zK172 (n := n) (z := z) (L := L)
  | false => exact zK173 (n := n) (z := z) (L := L)
def zD175 (k n : Nat) (z : Int) (L : List Int) : Instr := bif Nat.blt k 88 then zD171 k n z L else zD174 k n z L
def zS175 (T : zTb) (fl : Bool) (M : zM) (pc k n : Nat) (z : Int) (L : List Int) (len : Nat) (st : zS) : zR := bif Nat.blt k 88 then zS171 T fl M pc k n z L len st else zS174 T fl M pc k n z L len st
theorem zE175 {T : zTb} {fl : Bool} {M : zM} {pc k n : Nat} {z : Int} {L : List Int} {len : Nat} {st : zS} : zS175 T fl M pc k n z L len st = zstep T fl M pc (zD175 k n z L) len st := by
  unfold zS175 zD175
  cases Nat.blt k 88 with
  | true => exact zE171 (n := n) (z := z) (L := L)
  | false => exact zE174 (n := n) (z := z) (L := L)
theorem zK175 {k n : Nat} {z : Int} {L : List Int} : z_spk (zD175 k n z L) = none := by
  unfold zD175
  cases Nat.blt k 88 with
  | true => exact zK171 (n := n) (z := z) (L := L)
  | false => exact zK174 (n := n) (z := z) (L := L)
def zD176 (k n : Nat) (z : Int) (L : List Int) : Instr := bif Nat.beq k 90 then .lookupswitch z (z_prs L).toArray else .nop
def zS176 (T : zTb) (fl : Bool) (M : zM) (pc k n : Nat) (z : Int) (L : List Int) (len : Nat) (st : zS) : zR := bif Nat.beq k 90 then z_lsw pc z (z_prs L).toArray st else none
theorem zE176 {T : zTb} {fl : Bool} {M : zM} {pc k n : Nat} {z : Int} {L : List Int} {len : Nat} {st : zS} : zS176 T fl M pc k n z L len st = zstep T fl M pc (zD176 k n z L) len st := by
  unfold zS176 zD176
  cases Nat.beq k 90 with
  | true => exact rfl
  | false => rfl
theorem zK176 {k n : Nat} {z : Int} {L : List Int} : z_spk (zD176 k n z L) = none := by
  unfold zD176
  cases Nat.beq k 90 with
  | true => rfl
  | false => rfl
def zD177 (k n : Nat) (z : Int) (L : List Int) : Instr := bif Nat.beq k 91 then .getfield n else .nop
def zS177 (T : zTb) (fl : Bool) (M : zM) (pc k n : Nat) (z : Int) (L : List Int) (len : Nat) (st : zS) : zR := bif Nat.beq k 91 then z_g len 3 (z_get T.1 T.2.2.2.1 M.2.2.2.2.2.2.2.1 n st) else none
theorem zE177 {T : zTb} {fl : Bool} {M : zM} {pc k n : Nat} {z : Int} {L : List Int} {len : Nat} {st : zS} : zS177 T fl M pc k n z L len st = zstep T fl M pc (zD177 k n z L) len st := by
  unfold zS177 zD177
  cases Nat.beq k 91 with
  | true => exact rfl
  | false => rfl
theorem zK177 {k n : Nat} {z : Int} {L : List Int} : z_spk (zD177 k n z L) = none := by
  unfold zD177
  cases Nat.beq k 91 with
  | true => rfl
  | false => rfl
def zD178 (k n : Nat) (z : Int) (L : List Int) : Instr := bif Nat.beq k 92 then .putfield n else .nop
def zS178 (T : zTb) (fl : Bool) (M : zM) (pc k n : Nat) (z : Int) (L : List Int) (len : Nat) (st : zS) : zR := bif Nat.beq k 92 then z_g len 3 (z_putf T.2.1 T.1 T.2.2.2.1 M.2.2.2.2.2.2.2.1 M.2.2.2.2.2.2.2.2 n st) else none
theorem zE178 {T : zTb} {fl : Bool} {M : zM} {pc k n : Nat} {z : Int} {L : List Int} {len : Nat} {st : zS} : zS178 T fl M pc k n z L len st = zstep T fl M pc (zD178 k n z L) len st := by
  unfold zS178 zD178
  cases Nat.beq k 92 with
  | true => exact rfl
  | false => rfl
theorem zK178 {k n : Nat} {z : Int} {L : List Int} : z_spk (zD178 k n z L) = none := by
  unfold zD178
  cases Nat.beq k 92 with
  | true => rfl
  | false => rfl
def zD179 (k n : Nat) (z : Int) (L : List Int) : Instr := bif Nat.blt k 92 then zD177 k n z L else zD178 k n z L
def zS179 (T : zTb) (fl : Bool) (M : zM) (pc k n : Nat) (z : Int) (L : List Int) (len : Nat) (st : zS) : zR := bif Nat.blt k 92 then zS177 T fl M pc k n z L len st else zS178 T fl M pc k n z L len st
theorem zE179 {T : zTb} {fl : Bool} {M : zM} {pc k n : Nat} {z : Int} {L : List Int} {len : Nat} {st : zS} : zS179 T fl M pc k n z L len st = zstep T fl M pc (zD179 k n z L) len st := by
  unfold zS179 zD179
  cases Nat.blt k 92 with
  | true => exact zE177 (n := n) (z := z) (L := L)
  | false => exact zE178 (n := n) (z := z) (L := L)
theorem zK179 {k n : Nat} {z : Int} {L : List Int} : z_spk (zD179 k n z L) = none := by
  unfold zD179
  cases Nat.blt k 92 with
  | true => exact zK177 (n := n) (z := z) (L := L)
  | false => exact zK178 (n := n) (z := z) (L := L)
def zD180 (k n : Nat) (z : Int) (L : List Int) : Instr := bif Nat.blt k 91 then zD176 k n z L else zD179 k n z L
def zS180 (T : zTb) (fl : Bool) (M : zM) (pc k n : Nat) (z : Int) (L : List Int) (len : Nat) (st : zS) : zR := bif Nat.blt k 91 then zS176 T fl M pc k n z L len st else zS179 T fl M pc k n z L len st
theorem zE180 {T : zTb} {fl : Bool} {M : zM} {pc k n : Nat} {z : Int} {L : List Int} {len : Nat} {st : zS} : zS180 T fl M pc k n z L len st = zstep T fl M pc (zD180 k n z L) len st := by
  unfold zS180 zD180
  cases Nat.blt k 91 with
  | true => exact zE176 (n := n) (z := z) (L := L)
  | false => exact zE179 (n := n) (z := z) (L := L)
theorem zK180 {k n : Nat} {z : Int} {L : List Int} : z_spk (zD180 k n z L) = none := by
  unfold zD180
  cases Nat.blt k 91 with
  | true => exact zK176 (n := n) (z := z) (L := L)
  | false => exact zK179 (n := n) (z := z) (L := L)
def zD181 (k n : Nat) (z : Int) (L : List Int) : Instr := bif Nat.blt k 90 then zD175 k n z L else zD180 k n z L
def zS181 (T : zTb) (fl : Bool) (M : zM) (pc k n : Nat) (z : Int) (L : List Int) (len : Nat) (st : zS) : zR := bif Nat.blt k 90 then zS175 T fl M pc k n z L len st else zS180 T fl M pc k n z L len st
theorem zE181 {T : zTb} {fl : Bool} {M : zM} {pc k n : Nat} {z : Int} {L : List Int} {len : Nat} {st : zS} : zS181 T fl M pc k n z L len st = zstep T fl M pc (zD181 k n z L) len st := by
  unfold zS181 zD181
  cases Nat.blt k 90 with
  | true => exact zE175 (n := n) (z := z) (L := L)
  | false => exact zE180 (n := n) (z := z) (L := L)
theorem zK181 {k n : Nat} {z : Int} {L : List Int} : z_spk (zD181 k n z L) = none := by
  unfold zD181
  cases Nat.blt k 90 with
  | true => exact zK175 (n := n) (z := z) (L := L)
  | false => exact zK180 (n := n) (z := z) (L := L)
def zD182 (k n : Nat) (z : Int) (L : List Int) : Instr := bif Nat.beq k 93 then .new n else .nop
def zS182 (T : zTb) (fl : Bool) (M : zM) (pc k n : Nat) (z : Int) (L : List Int) (len : Nat) (st : zS) : zR := bif Nat.beq k 93 then z_g len 3 (z_new T.1 T.2.2.2.2.1 M.2.2.2.2.2.2.2.1 M.2.2.2.2.2.1 M.2.2.2.2.2.2.1 n st) else none
theorem zE182 {T : zTb} {fl : Bool} {M : zM} {pc k n : Nat} {z : Int} {L : List Int} {len : Nat} {st : zS} : zS182 T fl M pc k n z L len st = zstep T fl M pc (zD182 k n z L) len st := by
  unfold zS182 zD182
  cases Nat.beq k 93 with
  | true => exact rfl
  | false => rfl
theorem zK182 {k n : Nat} {z : Int} {L : List Int} : z_spk (zD182 k n z L) = none := by
  unfold zD182
  cases Nat.beq k 93 with
  | true => rfl
  | false => rfl
def zD183 (k n : Nat) (z : Int) (L : List Int) : Instr := bif Nat.beq k 94 then .anewarray n else .nop
def zS183 (T : zTb) (fl : Bool) (M : zM) (pc k n : Nat) (z : Int) (L : List Int) (len : Nat) (st : zS) : zR := bif Nat.beq k 94 then z_g len 3 (z_anew T.1 T.2.2.2.2.2.1 M.2.2.2.2.2.2.2.1 M.2.2.2.2.2.1 M.2.2.2.2.2.2.1 n st) else none
theorem zE183 {T : zTb} {fl : Bool} {M : zM} {pc k n : Nat} {z : Int} {L : List Int} {len : Nat} {st : zS} : zS183 T fl M pc k n z L len st = zstep T fl M pc (zD183 k n z L) len st := by
  unfold zS183 zD183
  cases Nat.beq k 94 with
  | true => exact rfl
  | false => rfl
theorem zK183 {k n : Nat} {z : Int} {L : List Int} : z_spk (zD183 k n z L) = none := by
  unfold zD183
  cases Nat.beq k 94 with
  | true => rfl
  | false => rfl
def zD184 (k n : Nat) (z : Int) (L : List Int) : Instr := bif Nat.beq k 95 then .newarray .int else .nop
def zS184 (T : zTb) (fl : Bool) (M : zM) (pc k n : Nat) (z : Int) (L : List Int) (len : Nat) (st : zS) : zR := bif Nat.beq k 95 then z_g len 2 (z_newa T.1 M.2.2.2.2.2.1 M.2.2.2.2.2.2.1 .int st) else none
theorem zE184 {T : zTb} {fl : Bool} {M : zM} {pc k n : Nat} {z : Int} {L : List Int} {len : Nat} {st : zS} : zS184 T fl M pc k n z L len st = zstep T fl M pc (zD184 k n z L) len st := by
  unfold zS184 zD184
  cases Nat.beq k 95 with
  | true => exact rfl
  | false => rfl
theorem zK184 {k n : Nat} {z : Int} {L : List Int} : z_spk (zD184 k n z L) = none := by
  unfold zD184
  cases Nat.beq k 95 with
  | true => rfl
  | false => rfl
def zD185 (k n : Nat) (z : Int) (L : List Int) : Instr := bif Nat.blt k 95 then zD183 k n z L else zD184 k n z L
def zS185 (T : zTb) (fl : Bool) (M : zM) (pc k n : Nat) (z : Int) (L : List Int) (len : Nat) (st : zS) : zR := bif Nat.blt k 95 then zS183 T fl M pc k n z L len st else zS184 T fl M pc k n z L len st
theorem zE185 {T : zTb} {fl : Bool} {M : zM} {pc k n : Nat} {z : Int} {L : List Int} {len : Nat} {st : zS} : zS185 T fl M pc k n z L len st = zstep T fl M pc (zD185 k n z L) len st := by
  unfold zS185 zD185
  cases Nat.blt k 95 with
  | true => exact zE183 (n := n) (z := z) (L := L)
  | false => exact zE184 (n := n) (z := z) (L := L)
theorem zK185 {k n : Nat} {z : Int} {L : List Int} : z_spk (zD185 k n z L) = none := by
  unfold zD185
  cases Nat.blt k 95 with
  | true => exact zK183 (n := n) (z := z) (L := L)
  | false => exact zK184 (n := n) (z := z) (L := L)
def zD186 (k n : Nat) (z : Int) (L : List Int) : Instr := bif Nat.blt k 94 then zD182 k n z L else zD185 k n z L
def zS186 (T : zTb) (fl : Bool) (M : zM) (pc k n : Nat) (z : Int) (L : List Int) (len : Nat) (st : zS) : zR := bif Nat.blt k 94 then zS182 T fl M pc k n z L len st else zS185 T fl M pc k n z L len st
theorem zE186 {T : zTb} {fl : Bool} {M : zM} {pc k n : Nat} {z : Int} {L : List Int} {len : Nat} {st : zS} : zS186 T fl M pc k n z L len st = zstep T fl M pc (zD186 k n z L) len st := by
  unfold zS186 zD186
  cases Nat.blt k 94 with
  | true => exact zE182 (n := n) (z := z) (L := L)
  | false => exact zE185 (n := n) (z := z) (L := L)
theorem zK186 {k n : Nat} {z : Int} {L : List Int} : z_spk (zD186 k n z L) = none := by
  unfold zD186
  cases Nat.blt k 94 with
  | true => exact zK182 (n := n) (z := z) (L := L)
  | false => exact zK185 (n := n) (z := z) (L := L)
def zD187 (k n : Nat) (z : Int) (L : List Int) : Instr := bif Nat.beq k 96 then .newarray .long else .nop
def zS187 (T : zTb) (fl : Bool) (M : zM) (pc k n : Nat) (z : Int) (L : List Int) (len : Nat) (st : zS) : zR := bif Nat.beq k 96 then z_g len 2 (z_newa T.1 M.2.2.2.2.2.1 M.2.2.2.2.2.2.1 .long st) else none
theorem zE187 {T : zTb} {fl : Bool} {M : zM} {pc k n : Nat} {z : Int} {L : List Int} {len : Nat} {st : zS} : zS187 T fl M pc k n z L len st = zstep T fl M pc (zD187 k n z L) len st := by
  unfold zS187 zD187
  cases Nat.beq k 96 with
  | true => exact rfl
  | false => rfl
theorem zK187 {k n : Nat} {z : Int} {L : List Int} : z_spk (zD187 k n z L) = none := by
  unfold zD187
  cases Nat.beq k 96 with
  | true => rfl
  | false => rfl
def zD188 (k n : Nat) (z : Int) (L : List Int) : Instr := bif Nat.beq k 97 then .newarray .byte else .nop
def zS188 (T : zTb) (fl : Bool) (M : zM) (pc k n : Nat) (z : Int) (L : List Int) (len : Nat) (st : zS) : zR := bif Nat.beq k 97 then z_g len 2 (z_newa T.1 M.2.2.2.2.2.1 M.2.2.2.2.2.2.1 .byte st) else none
theorem zE188 {T : zTb} {fl : Bool} {M : zM} {pc k n : Nat} {z : Int} {L : List Int} {len : Nat} {st : zS} : zS188 T fl M pc k n z L len st = zstep T fl M pc (zD188 k n z L) len st := by
  unfold zS188 zD188
  cases Nat.beq k 97 with
  | true => exact rfl
  | false => rfl
theorem zK188 {k n : Nat} {z : Int} {L : List Int} : z_spk (zD188 k n z L) = none := by
  unfold zD188
  cases Nat.beq k 97 with
  | true => rfl
  | false => rfl
def zD189 (k n : Nat) (z : Int) (L : List Int) : Instr := bif Nat.blt k 97 then zD187 k n z L else zD188 k n z L
def zS189 (T : zTb) (fl : Bool) (M : zM) (pc k n : Nat) (z : Int) (L : List Int) (len : Nat) (st : zS) : zR := bif Nat.blt k 97 then zS187 T fl M pc k n z L len st else zS188 T fl M pc k n z L len st
theorem zE189 {T : zTb} {fl : Bool} {M : zM} {pc k n : Nat} {z : Int} {L : List Int} {len : Nat} {st : zS} : zS189 T fl M pc k n z L len st = zstep T fl M pc (zD189 k n z L) len st := by
  unfold zS189 zD189
  cases Nat.blt k 97 with
  | true => exact zE187 (n := n) (z := z) (L := L)
  | false => exact zE188 (n := n) (z := z) (L := L)
theorem zK189 {k n : Nat} {z : Int} {L : List Int} : z_spk (zD189 k n z L) = none := by
  unfold zD189
  cases Nat.blt k 97 with
  | true => exact zK187 (n := n) (z := z) (L := L)
  | false => exact zK188 (n := n) (z := z) (L := L)
def zD190 (k n : Nat) (z : Int) (L : List Int) : Instr := bif Nat.beq k 98 then .newarray .boolean else .nop
def zS190 (T : zTb) (fl : Bool) (M : zM) (pc k n : Nat) (z : Int) (L : List Int) (len : Nat) (st : zS) : zR := bif Nat.beq k 98 then z_g len 2 (z_newa T.1 M.2.2.2.2.2.1 M.2.2.2.2.2.2.1 .boolean st) else none
theorem zE190 {T : zTb} {fl : Bool} {M : zM} {pc k n : Nat} {z : Int} {L : List Int} {len : Nat} {st : zS} : zS190 T fl M pc k n z L len st = zstep T fl M pc (zD190 k n z L) len st := by
  unfold zS190 zD190
  cases Nat.beq k 98 with
  | true => exact rfl
  | false => rfl
theorem zK190 {k n : Nat} {z : Int} {L : List Int} : z_spk (zD190 k n z L) = none := by
  unfold zD190
  cases Nat.beq k 98 with
  | true => rfl
  | false => rfl
def zD191 (k n : Nat) (z : Int) (L : List Int) : Instr := bif Nat.beq k 99 then .multianewarray n 2 else .nop
def zS191 (T : zTb) (fl : Bool) (M : zM) (pc k n : Nat) (z : Int) (L : List Int) (len : Nat) (st : zS) : zR := bif Nat.beq k 99 then z_g len 4 (z_mna T.1 T.2.2.2.2.2.2.1 M.2.2.2.2.2.2.2.1 M.2.2.2.2.2.1 M.2.2.2.2.2.2.1 n st) else none
theorem zE191 {T : zTb} {fl : Bool} {M : zM} {pc k n : Nat} {z : Int} {L : List Int} {len : Nat} {st : zS} : zS191 T fl M pc k n z L len st = zstep T fl M pc (zD191 k n z L) len st := by
  unfold zS191 zD191
  cases Nat.beq k 99 with
  | true => exact rfl
  | false => rfl
theorem zK191 {k n : Nat} {z : Int} {L : List Int} : z_spk (zD191 k n z L) = none := by
  unfold zD191
  cases Nat.beq k 99 with
  | true => rfl
  | false => rfl
def zD192 (k n : Nat) (z : Int) (L : List Int) : Instr := bif Nat.blt k 99 then zD190 k n z L else zD191 k n z L
def zS192 (T : zTb) (fl : Bool) (M : zM) (pc k n : Nat) (z : Int) (L : List Int) (len : Nat) (st : zS) : zR := bif Nat.blt k 99 then zS190 T fl M pc k n z L len st else zS191 T fl M pc k n z L len st
theorem zE192 {T : zTb} {fl : Bool} {M : zM} {pc k n : Nat} {z : Int} {L : List Int} {len : Nat} {st : zS} : zS192 T fl M pc k n z L len st = zstep T fl M pc (zD192 k n z L) len st := by
  unfold zS192 zD192
  cases Nat.blt k 99 with
  | true => exact zE190 (n := n) (z := z) (L := L)
  | false => exact zE191 (n := n) (z := z) (L := L)
theorem zK192 {k n : Nat} {z : Int} {L : List Int} : z_spk (zD192 k n z L) = none := by
  unfold zD192
  cases Nat.blt k 99 with
  | true => exact zK190 (n := n) (z := z) (L := L)
  | false => exact zK191 (n := n) (z := z) (L := L)
def zD193 (k n : Nat) (z : Int) (L : List Int) : Instr := bif Nat.blt k 98 then zD189 k n z L else zD192 k n z L
def zS193 (T : zTb) (fl : Bool) (M : zM) (pc k n : Nat) (z : Int) (L : List Int) (len : Nat) (st : zS) : zR := bif Nat.blt k 98 then zS189 T fl M pc k n z L len st else zS192 T fl M pc k n z L len st
theorem zE193 {T : zTb} {fl : Bool} {M : zM} {pc k n : Nat} {z : Int} {L : List Int} {len : Nat} {st : zS} : zS193 T fl M pc k n z L len st = zstep T fl M pc (zD193 k n z L) len st := by
  unfold zS193 zD193
  cases Nat.blt k 98 with
  | true => exact zE189 (n := n) (z := z) (L := L)
  | false => exact zE192 (n := n) (z := z) (L := L)
theorem zK193 {k n : Nat} {z : Int} {L : List Int} : z_spk (zD193 k n z L) = none := by
  unfold zD193
  cases Nat.blt k 98 with
  | true => exact zK189 (n := n) (z := z) (L := L)
  | false => exact zK192 (n := n) (z := z) (L := L)
def zD194 (k n : Nat) (z : Int) (L : List Int) : Instr := bif Nat.blt k 96 then zD186 k n z L else zD193 k n z L
def zS194 (T : zTb) (fl : Bool) (M : zM) (pc k n : Nat) (z : Int) (L : List Int) (len : Nat) (st : zS) : zR := bif Nat.blt k 96 then zS186 T fl M pc k n z L len st else zS193 T fl M pc k n z L len st
theorem zE194 {T : zTb} {fl : Bool} {M : zM} {pc k n : Nat} {z : Int} {L : List Int} {len : Nat} {st : zS} : zS194 T fl M pc k n z L len st = zstep T fl M pc (zD194 k n z L) len st := by
  unfold zS194 zD194
  cases Nat.blt k 96 with
  | true => exact zE186 (n := n) (z := z) (L := L)
  | false => exact zE193 (n := n) (z := z) (L := L)
theorem zK194 {k n : Nat} {z : Int} {L : List Int} : z_spk (zD194 k n z L) = none := by
  unfold zD194
  cases Nat.blt k 96 with
  | true => exact zK186 (n := n) (z := z) (L := L)
  | false => exact zK193 (n := n) (z := z) (L := L)
def zD195 (k n : Nat) (z : Int) (L : List Int) : Instr := bif Nat.blt k 93 then zD181 k n z L else zD194 k n z L
def zS195 (T : zTb) (fl : Bool) (M : zM) (pc k n : Nat) (z : Int) (L : List Int) (len : Nat) (st : zS) : zR := bif Nat.blt k 93 then zS181 T fl M pc k n z L len st else zS194 T fl M pc k n z L len st
theorem zE195 {T : zTb} {fl : Bool} {M : zM} {pc k n : Nat} {z : Int} {L : List Int} {len : Nat} {st : zS} : zS195 T fl M pc k n z L len st = zstep T fl M pc (zD195 k n z L) len st := by
  unfold zS195 zD195
  cases Nat.blt k 93 with
  | true => exact zE181 (n := n) (z := z) (L := L)
  | false => exact zE194 (n := n) (z := z) (L := L)
theorem zK195 {k n : Nat} {z : Int} {L : List Int} : z_spk (zD195 k n z L) = none := by
  unfold zD195
  cases Nat.blt k 93 with
  | true => exact zK181 (n := n) (z := z) (L := L)
  | false => exact zK194 (n := n) (z := z) (L := L)
def zD196 (k n : Nat) (z : Int) (L : List Int) : Instr := bif Nat.blt k 87 then zD170 k n z L else zD195 k n z L
def zS196 (T : zTb) (fl : Bool) (M : zM) (pc k n : Nat) (z : Int) (L : List Int) (len : Nat) (st : zS) : zR := bif Nat.blt k 87 then zS170 T fl M pc k n z L len st else zS195 T fl M pc k n z L len st
theorem zE196 {T : zTb} {fl : Bool} {M : zM} {pc k n : Nat} {z : Int} {L : List Int} {len : Nat} {st : zS} : zS196 T fl M pc k n z L len st = zstep T fl M pc (zD196 k n z L) len st := by
  unfold zS196 zD196
  cases Nat.blt k 87 with
  | true => exact zE170 (n := n) (z := z) (L := L)
  | false => exact zE195 (n := n) (z := z) (L := L)
theorem zK196 {k n : Nat} {z : Int} {L : List Int} : z_spk (zD196 k n z L) = none := by
  unfold zD196
  cases Nat.blt k 87 with
  | true => exact zK170 (n := n) (z := z) (L := L)
  | false => exact zK195 (n := n) (z := z) (L := L)
def zD197 (k n : Nat) (z : Int) (L : List Int) : Instr := bif Nat.blt k 75 then zD147 k n z L else zD196 k n z L
def zS197 (T : zTb) (fl : Bool) (M : zM) (pc k n : Nat) (z : Int) (L : List Int) (len : Nat) (st : zS) : zR := bif Nat.blt k 75 then zS147 T fl M pc k n z L len st else zS196 T fl M pc k n z L len st
theorem zE197 {T : zTb} {fl : Bool} {M : zM} {pc k n : Nat} {z : Int} {L : List Int} {len : Nat} {st : zS} : zS197 T fl M pc k n z L len st = zstep T fl M pc (zD197 k n z L) len st := by
  unfold zS197 zD197
  cases Nat.blt k 75 with
  | true => exact zE147 (n := n) (z := z) (L := L)
  | false => exact zE196 (n := n) (z := z) (L := L)
theorem zK197 {k n : Nat} {z : Int} {L : List Int} : z_spk (zD197 k n z L) = none := by
  unfold zD197
  cases Nat.blt k 75 with
  | true => exact zK147 (n := n) (z := z) (L := L)
  | false => exact zK196 (n := n) (z := z) (L := L)
def zD198 (k n : Nat) (z : Int) (L : List Int) : Instr := bif Nat.blt k 50 then zD98 k n z L else zD197 k n z L
def zS198 (T : zTb) (fl : Bool) (M : zM) (pc k n : Nat) (z : Int) (L : List Int) (len : Nat) (st : zS) : zR := bif Nat.blt k 50 then zS98 T fl M pc k n z L len st else zS197 T fl M pc k n z L len st
theorem zE198 {T : zTb} {fl : Bool} {M : zM} {pc k n : Nat} {z : Int} {L : List Int} {len : Nat} {st : zS} : zS198 T fl M pc k n z L len st = zstep T fl M pc (zD198 k n z L) len st := by
  unfold zS198 zD198
  cases Nat.blt k 50 with
  | true => exact zE98 (n := n) (z := z) (L := L)
  | false => exact zE197 (n := n) (z := z) (L := L)
theorem zK198 {k n : Nat} {z : Int} {L : List Int} : z_spk (zD198 k n z L) = none := by
  unfold zD198
  cases Nat.blt k 50 with
  | true => exact zK98 (n := n) (z := z) (L := L)
  | false => exact zK197 (n := n) (z := z) (L := L)
def zD199 (k n : Nat) (z : Int) (L : List Int) : Instr := bif Nat.beq k 100 then .return_ else .nop
def zS199 (T : zTb) (fl : Bool) (M : zM) (pc k n : Nat) (z : Int) (L : List Int) (len : Nat) (st : zS) : zR := bif Nat.beq k 100 then none else none
theorem zE199 {T : zTb} {fl : Bool} {M : zM} {pc k n : Nat} {z : Int} {L : List Int} {len : Nat} {st : zS} : zS199 T fl M pc k n z L len st = zstep T fl M pc (zD199 k n z L) len st := by
  unfold zS199 zD199
  cases Nat.beq k 100 with
  | true => exact rfl
  | false => rfl
theorem zK199 {k n : Nat} {z : Int} {L : List Int} : z_spk (zD199 k n z L) = bif Nat.beq k 100 then some (0, 0) else none := by
  unfold zD199
  cases Nat.beq k 100 with
  | true => rfl
  | false => rfl
def zR199 (k n : Nat) : Option (Nat × Nat) := bif Nat.beq k 100 then some (0, 0) else none
def zD200 (k n : Nat) (z : Int) (L : List Int) : Instr := bif Nat.beq k 101 then .ireturn else .nop
def zS200 (T : zTb) (fl : Bool) (M : zM) (pc k n : Nat) (z : Int) (L : List Int) (len : Nat) (st : zS) : zR := bif Nat.beq k 101 then none else none
theorem zE200 {T : zTb} {fl : Bool} {M : zM} {pc k n : Nat} {z : Int} {L : List Int} {len : Nat} {st : zS} : zS200 T fl M pc k n z L len st = zstep T fl M pc (zD200 k n z L) len st := by
  unfold zS200 zD200
  cases Nat.beq k 101 with
  | true => exact rfl
  | false => rfl
theorem zK200 {k n : Nat} {z : Int} {L : List Int} : z_spk (zD200 k n z L) = bif Nat.beq k 101 then some (1, 0) else none := by
  unfold zD200
  cases Nat.beq k 101 with
  | true => rfl
  | false => rfl
def zR200 (k n : Nat) : Option (Nat × Nat) := bif Nat.beq k 101 then some (1, 0) else none
def zD201 (k n : Nat) (z : Int) (L : List Int) : Instr := bif Nat.beq k 102 then .lreturn else .nop
def zS201 (T : zTb) (fl : Bool) (M : zM) (pc k n : Nat) (z : Int) (L : List Int) (len : Nat) (st : zS) : zR := bif Nat.beq k 102 then none else none
theorem zE201 {T : zTb} {fl : Bool} {M : zM} {pc k n : Nat} {z : Int} {L : List Int} {len : Nat} {st : zS} : zS201 T fl M pc k n z L len st = zstep T fl M pc (zD201 k n z L) len st := by
  unfold zS201 zD201
  cases Nat.beq k 102 with
  | true => exact rfl
  | false => rfl
theorem zK201 {k n : Nat} {z : Int} {L : List Int} : z_spk (zD201 k n z L) = bif Nat.beq k 102 then some (2, 0) else none := by
  unfold zD201
  cases Nat.beq k 102 with
  | true => rfl
  | false => rfl
def zR201 (k n : Nat) : Option (Nat × Nat) := bif Nat.beq k 102 then some (2, 0) else none
def zD202 (k n : Nat) (z : Int) (L : List Int) : Instr := bif Nat.blt k 102 then zD200 k n z L else zD201 k n z L
def zS202 (T : zTb) (fl : Bool) (M : zM) (pc k n : Nat) (z : Int) (L : List Int) (len : Nat) (st : zS) : zR := bif Nat.blt k 102 then zS200 T fl M pc k n z L len st else zS201 T fl M pc k n z L len st
theorem zE202 {T : zTb} {fl : Bool} {M : zM} {pc k n : Nat} {z : Int} {L : List Int} {len : Nat} {st : zS} : zS202 T fl M pc k n z L len st = zstep T fl M pc (zD202 k n z L) len st := by
  unfold zS202 zD202
  cases Nat.blt k 102 with
  | true => exact zE200 (n := n) (z := z) (L := L)
  | false => exact zE201 (n := n) (z := z) (L := L)
def zR202 (k n : Nat) : Option (Nat × Nat) := bif Nat.blt k 102 then zR200 k n else zR201 k n
theorem zK202 {k n : Nat} {z : Int} {L : List Int} : z_spk (zD202 k n z L) = zR202 k n := by
  unfold zD202 zR202
  cases Nat.blt k 102 with
  | true => exact zK200 (n := n) (z := z) (L := L)
  | false => exact zK201 (n := n) (z := z) (L := L)
def zD203 (k n : Nat) (z : Int) (L : List Int) : Instr := bif Nat.blt k 101 then zD199 k n z L else zD202 k n z L
def zS203 (T : zTb) (fl : Bool) (M : zM) (pc k n : Nat) (z : Int) (L : List Int) (len : Nat) (st : zS) : zR := bif Nat.blt k 101 then zS199 T fl M pc k n z L len st else zS202 T fl M pc k n z L len st
theorem zE203 {T : zTb} {fl : Bool} {M : zM} {pc k n : Nat} {z : Int} {L : List Int} {len : Nat} {st : zS} : zS203 T fl M pc k n z L len st = zstep T fl M pc (zD203 k n z L) len st := by
  unfold zS203 zD203
  cases Nat.blt k 101 with
  | true => exact zE199 (n := n) (z := z) (L := L)
  | false => exact zE202 (n := n) (z := z) (L := L)
def zR203 (k n : Nat) : Option (Nat × Nat) := bif Nat.blt k 101 then zR199 k n else zR202 k n
theorem zK203 {k n : Nat} {z : Int} {L : List Int} : z_spk (zD203 k n z L) = zR203 k n := by
  unfold zD203 zR203
  cases Nat.blt k 101 with
  | true => exact zK199 (n := n) (z := z) (L := L)
  | false => exact zK202 (n := n) (z := z) (L := L)
def zD204 (k n : Nat) (z : Int) (L : List Int) : Instr := bif Nat.beq k 103 then .invokevirtual n else .nop
def zS204 (T : zTb) (fl : Bool) (M : zM) (pc k n : Nat) (z : Int) (L : List Int) (len : Nat) (st : zS) : zR := bif Nat.beq k 103 then none else none
theorem zE204 {T : zTb} {fl : Bool} {M : zM} {pc k n : Nat} {z : Int} {L : List Int} {len : Nat} {st : zS} : zS204 T fl M pc k n z L len st = zstep T fl M pc (zD204 k n z L) len st := by
  unfold zS204 zD204
  cases Nat.beq k 103 with
  | true => exact rfl
  | false => rfl
theorem zK204 {k n : Nat} {z : Int} {L : List Int} : z_spk (zD204 k n z L) = bif Nat.beq k 103 then some (4, n) else none := by
  unfold zD204
  cases Nat.beq k 103 with
  | true => rfl
  | false => rfl
def zR204 (k n : Nat) : Option (Nat × Nat) := bif Nat.beq k 103 then some (4, n) else none
def zD205 (k n : Nat) (z : Int) (L : List Int) : Instr := bif Nat.beq k 104 then .invokestatic n else .nop
def zS205 (T : zTb) (fl : Bool) (M : zM) (pc k n : Nat) (z : Int) (L : List Int) (len : Nat) (st : zS) : zR := bif Nat.beq k 104 then none else none
theorem zE205 {T : zTb} {fl : Bool} {M : zM} {pc k n : Nat} {z : Int} {L : List Int} {len : Nat} {st : zS} : zS205 T fl M pc k n z L len st = zstep T fl M pc (zD205 k n z L) len st := by
  unfold zS205 zD205
  cases Nat.beq k 104 with
  | true => exact rfl
  | false => rfl
theorem zK205 {k n : Nat} {z : Int} {L : List Int} : z_spk (zD205 k n z L) = bif Nat.beq k 104 then some (5, n) else none := by
  unfold zD205
  cases Nat.beq k 104 with
  | true => rfl
  | false => rfl
def zR205 (k n : Nat) : Option (Nat × Nat) := bif Nat.beq k 104 then some (5, n) else none
def zD206 (k n : Nat) (z : Int) (L : List Int) : Instr := bif Nat.beq k 105 then .invokespecial n else .nop
def zS206 (T : zTb) (fl : Bool) (M : zM) (pc k n : Nat) (z : Int) (L : List Int) (len : Nat) (st : zS) : zR := bif Nat.beq k 105 then none else none
theorem zE206 {T : zTb} {fl : Bool} {M : zM} {pc k n : Nat} {z : Int} {L : List Int} {len : Nat} {st : zS} : zS206 T fl M pc k n z L len st = zstep T fl M pc (zD206 k n z L) len st := by
  unfold zS206 zD206
  cases Nat.beq k 105 with
  | true => exact rfl
  | false => rfl
theorem zK206 {k n : Nat} {z : Int} {L : List Int} : z_spk (zD206 k n z L) = bif Nat.beq k 105 then some (6, n) else none := by
  unfold zD206
  cases Nat.beq k 105 with
  | true => rfl
  | false => rfl
def zR206 (k n : Nat) : Option (Nat × Nat) := bif Nat.beq k 105 then some (6, n) else none
def zD207 (k n : Nat) (z : Int) (L : List Int) : Instr := bif Nat.blt k 105 then zD205 k n z L else zD206 k n z L
def zS207 (T : zTb) (fl : Bool) (M : zM) (pc k n : Nat) (z : Int) (L : List Int) (len : Nat) (st : zS) : zR := bif Nat.blt k 105 then zS205 T fl M pc k n z L len st else zS206 T fl M pc k n z L len st
theorem zE207 {T : zTb} {fl : Bool} {M : zM} {pc k n : Nat} {z : Int} {L : List Int} {len : Nat} {st : zS} : zS207 T fl M pc k n z L len st = zstep T fl M pc (zD207 k n z L) len st := by
  unfold zS207 zD207
  cases Nat.blt k 105 with
  | true => exact zE205 (n := n) (z := z) (L := L)
  | false => exact zE206 (n := n) (z := z) (L := L)
def zR207 (k n : Nat) : Option (Nat × Nat) := bif Nat.blt k 105 then zR205 k n else zR206 k n
theorem zK207 {k n : Nat} {z : Int} {L : List Int} : z_spk (zD207 k n z L) = zR207 k n := by
  unfold zD207 zR207
  cases Nat.blt k 105 with
  | true => exact zK205 (n := n) (z := z) (L := L)
  | false => exact zK206 (n := n) (z := z) (L := L)
def zD208 (k n : Nat) (z : Int) (L : List Int) : Instr := bif Nat.blt k 104 then zD204 k n z L else zD207 k n z L
def zS208 (T : zTb) (fl : Bool) (M : zM) (pc k n : Nat) (z : Int) (L : List Int) (len : Nat) (st : zS) : zR := bif Nat.blt k 104 then zS204 T fl M pc k n z L len st else zS207 T fl M pc k n z L len st
theorem zE208 {T : zTb} {fl : Bool} {M : zM} {pc k n : Nat} {z : Int} {L : List Int} {len : Nat} {st : zS} : zS208 T fl M pc k n z L len st = zstep T fl M pc (zD208 k n z L) len st := by
  unfold zS208 zD208
  cases Nat.blt k 104 with
  | true => exact zE204 (n := n) (z := z) (L := L)
  | false => exact zE207 (n := n) (z := z) (L := L)
def zR208 (k n : Nat) : Option (Nat × Nat) := bif Nat.blt k 104 then zR204 k n else zR207 k n
theorem zK208 {k n : Nat} {z : Int} {L : List Int} : z_spk (zD208 k n z L) = zR208 k n := by
  unfold zD208 zR208
  cases Nat.blt k 104 with
  | true => exact zK204 (n := n) (z := z) (L := L)
  | false => exact zK207 (n := n) (z := z) (L := L)
def zD209 (k n : Nat) (z : Int) (L : List Int) : Instr := bif Nat.blt k 103 then zD203 k n z L else zD208 k n z L
def zS209 (T : zTb) (fl : Bool) (M : zM) (pc k n : Nat) (z : Int) (L : List Int) (len : Nat) (st : zS) : zR := bif Nat.blt k 103 then zS203 T fl M pc k n z L len st else zS208 T fl M pc k n z L len st
theorem zE209 {T : zTb} {fl : Bool} {M : zM} {pc k n : Nat} {z : Int} {L : List Int} {len : Nat} {st : zS} : zS209 T fl M pc k n z L len st = zstep T fl M pc (zD209 k n z L) len st := by
  unfold zS209 zD209
  cases Nat.blt k 103 with
  | true => exact zE203 (n := n) (z := z) (L := L)
  | false => exact zE208 (n := n) (z := z) (L := L)
def zR209 (k n : Nat) : Option (Nat × Nat) := bif Nat.blt k 103 then zR203 k n else zR208 k n
theorem zK209 {k n : Nat} {z : Int} {L : List Int} : z_spk (zD209 k n z L) = zR209 k n := by
  unfold zD209 zR209
  cases Nat.blt k 103 with
  | true => exact zK203 (n := n) (z := z) (L := L)
  | false => exact zK208 (n := n) (z := z) (L := L)
def zD210 (k n : Nat) (z : Int) (L : List Int) : Instr := bif Nat.blt k 100 then zD198 k n z L else zD209 k n z L
def zS210 (T : zTb) (fl : Bool) (M : zM) (pc k n : Nat) (z : Int) (L : List Int) (len : Nat) (st : zS) : zR := bif Nat.blt k 100 then zS198 T fl M pc k n z L len st else zS209 T fl M pc k n z L len st
theorem zE210 {T : zTb} {fl : Bool} {M : zM} {pc k n : Nat} {z : Int} {L : List Int} {len : Nat} {st : zS} : zS210 T fl M pc k n z L len st = zstep T fl M pc (zD210 k n z L) len st := by
  unfold zS210 zD210
  cases Nat.blt k 100 with
  | true => exact zE198 (n := n) (z := z) (L := L)
  | false => exact zE209 (n := n) (z := z) (L := L)
def zR210 (k n : Nat) : Option (Nat × Nat) := bif Nat.blt k 100 then none else zR209 k n
theorem zK210 {k n : Nat} {z : Int} {L : List Int} : z_spk (zD210 k n z L) = zR210 k n := by
  unfold zD210 zR210
  cases Nat.blt k 100 with
  | true => exact zK198 (n := n) (z := z) (L := L)
  | false => exact zK209 (n := n) (z := z) (L := L)
def zdec (o : zQ) : Instr := zD210 o.1 o.2.1 o.2.2.1 o.2.2.2
def zstepC (T : zTb) (fl : Bool) (M : zM) (pc : Nat) (o : zQ) (len : Nat) (st : zS) : zR := match o with
  | (k, n, z, L) => zS210 T fl M pc k n z L len st
def z_spkC (o : zQ) : Option (Nat × Nat) := match o with
  | (k, n, _, _) => zR210 k n
theorem zstepC_eq {T : zTb} {fl : Bool} {M : zM} {pc : Nat} {o : zQ} {len : Nat} {st : zS} : zstepC T fl M pc o len st = zstep T fl M pc (zdec o) len st := zE210 (n := o.2.1) (z := o.2.2.1) (L := o.2.2.2)
theorem z_spkC_eq {o : zQ} : z_spkC o = z_spk (zdec o) := (zK210 (n := o.2.1) (z := o.2.2.1) (L := o.2.2.2)).symm
end
section
/-! ===== a whole run, calls gone into ===== -/
/-- an end: intervals, what is given back, known cells -/
abbrev zOu : Type := zI × Option zV × zO
def z_all {α β : Type} (k : α → Option (List β)) : List α → Option (List β)
  | [] => some []
  | [a] => k a
  | a :: r => match k a with
    | none => none
    | some x => (match z_all k r with
      | none => none
      | some y => some (x ++ y))
theorem z_all_ok {α β : Type} {k : α → Option (List β)} : ∀ (q : List α) (o : List β), z_all k q = some o → ∀ a ∈ q, ∃ o', k a = some o' ∧ ∀ x ∈ o', x ∈ o
  | [], _, _, a, ha => by cases ha
  | [a'], o, h, a, ha => by
    rw [List.mem_singleton] at ha
    subst ha
    exact ⟨o, h, fun _ hx => hx⟩
  | a' :: b' :: r, o, h, a, ha => by
    unfold z_all at h
    split at h
    next => cases h
    next x hx =>
      split at h
      next => cases h
      next y hy =>
        cases h
        rcases List.mem_cons.mp ha with q | q
        · subst q; exact ⟨x, hx, fun _ hz => List.mem_append_left _ hz⟩
        · obtain ⟨o', h1, h2⟩ := z_all_ok (b' :: r) y hy a q
          exact ⟨o', h1, fun z hz => List.mem_append_right _ (h2 z hz)⟩
def z_drop (prog : List zP) (t : Nat) : List zP := match prog with
  | [] => []
  | e :: r => if Nat.beq e.1 t then e :: r else z_drop r t
theorem z_drop_mem {prog : List zP} {t : Nat} : ∀ e ∈ z_drop prog t, e ∈ prog := by
  induction prog with
  | nil => intro e he; cases he
  | cons a r ih =>
    intro e he
    unfold z_drop at he
    split at he
    · exact he
    · exact List.mem_cons_of_mem _ (ih e he)
def z_rt (M : zM) (k : Nat) (st : zS) : Option (List zOu) := match st with
  | (cu, su, iv, _, sk, ov) => if Nat.ble cu M.2.2.2.2.2.1 && Nat.ble su M.2.2.2.2.2.2.1 then (match k, M.2.2.2.1, sk with
    | 0, none, [] => some [(iv, none, ov)]
    | 1, some .int, [v] => if v.1 = 0 then some [(iv, some v, ov)] else none
    | 1, some .boolean, [v] => if v.1 = 0 then (match z_bd iv v with
      | some q => if 0 ≤ q.1 ∧ q.2 ≤ 1 then some [(iv, some v, ov)] else none
      | none => none) else none
    | 2, some .long, [v] => if v.1 = 1 then some [(iv, some v, ov)] else none
    | _, _, _ => none) else none
def z_ca4 (q : List (Nat × Nat × Nat × Nat)) (k : Nat) : Option (Nat × Nat × Nat) := match q with
  | [] => none
  | (i, a) :: r => if Nat.beq i k then some a else z_ca4 r k
def z_ct (CT : List (List (Nat × Nat × Nat × Nat))) (cn idx : Nat) : Option (Nat × Nat × Nat) := match CT[cn]? with
  | some q => z_ca4 q idx
  | none => none
def z_arg (i : Nat) (vs : List zV) : zL := match vs with
  | [] => []
  | v :: r => (i, v) :: z_arg (if Nat.beq v.1 1 then i + 2 else i + 1) r
def z_wd2 (vs : List zV) : Nat := match vs with
  | [] => 0
  | v :: r => (if Nat.beq v.1 1 then 2 else 1) + z_wd2 r
/-- the callee's values, and what is left below them -/
def z_pre (G : List zC) (knd na : Nat) (cn' : Nat) (sk : List zV) : Option (List zV × List zV) := if Nat.blt sk.length na then none else match knd with
  | 1 => some ((sk.take na).reverse, sk.drop na)
  | 0 => (match sk.drop na with
    | o :: r => if o.1 = 2 then (match G[o.2.1]? with
      | some g => if g.1 = 0 ∧ g.2.1 = cn' then some (o :: (sk.take na).reverse, r) else none
      | none => none) else none
    | [] => none)
  | 2 => (match sk.drop na with
    | o :: r => if o.1 = 2 then some (o :: (sk.take na).reverse, r) else none
    | [] => none)
  | _ => none
/-- which instruction a call of a kind is -/
def z_kd (knd k : Nat) : Bool := match knd with
  | 0 => Nat.beq k 4
  | 1 => Nat.beq k 5
  | 2 => Nat.beq k 6
  | 3 => Nat.beq k 5
  | 4 => Nat.beq k 6
  | _ => false
abbrev z_ncw : Nat := nativeFrameWords "java/lang/System" "arraycopy" 5 + 11
abbrev zRc : Type := Nat → Nat → zM → Nat → List zP → zS → Option (List zOu)
def zxS (rec : zRc) (fr lo : Nat) (M : zM) (pc len : Nat) (nxt : List zP) (r : zR) : Option (List zOu) := match r with
  | none => none
  | some ss => z_all (fun q => match q.1 with
    | none => rec fr lo M (pc + len) nxt q.2
    | some t => rec fr lo M t (z_drop M.2.2.2.2.1 t) q.2) ss
def zxM (rec : zRc) (T : zTb) (fr lo : Nat) (M : zM) (pc : Nat) (nxt : List zP) (knd na : Nat) (M' : zM) (cu su : Nat) (iv : zI) (lv : zL) (sk : List zV) (ov : zO) : Option (List zOu) := match z_pre T.1 knd na M'.2.2.2.2.2.2.2.1 sk with
  | some (as, rest) => if Nat.ble (z_wd2 as) M'.2.2.1 && Nat.ble (z_wd2 rest) 8 && Nat.ble (8 + (M'.2.2.1 + 11)) lo && Nat.ble (cu + M'.2.2.2.2.2.1) M.2.2.2.2.2.1 && Nat.ble (su + M'.2.2.2.2.2.2.1) M.2.2.2.2.2.2.1 then (match rec (fr - 1) (lo - (8 + (M'.2.2.1 + 11))) M' 0 M'.2.2.2.2.1 (0, 0, iv, z_arg 0 as, [], ov) with
    | none => none
    | some outs => z_all (fun o => rec fr lo M (pc + 3) nxt (cu + M'.2.2.2.2.2.1, su + M'.2.2.2.2.2.2.1, o.1, lv, o.2.1.toList ++ rest, o.2.2)) outs) else none
  | none => none
def zxC (rec : zRc) (T : zTb) (fr lo : Nat) (M : zM) (pc len : Nat) (nxt : List zP) (k idx : Nat) (st : zS) : Option (List zOu) := match st, z_ct T.2.2.2.2.2.2.2.2.2.2.2 M.2.2.2.2.2.2.2.1 idx with
  | (cu, su, iv, lv, sk, ov), some (knd, mi, na) => if Nat.beq len 3 && z_kd knd k && Nat.blt 0 fr then (match knd with
    | 3 => if Nat.ble (z_wd2 (sk.drop 5) + z_ncw) lo then (match z_copy T.1 st with
      | some [(none, st')] => rec fr lo M (pc + 3) nxt st'
      | _ => none) else none
    | 4 => (match sk with
      | o :: r => if (o.1 = 2) ∧ Nat.ble (z_wd2 r + 12) lo = true then rec fr lo M (pc + 3) nxt (cu, su, iv, lv, r, ov) else none
      | [] => none)
    | _ => (match T.2.2.2.2.2.2.2.2.2.2.1[mi]? with
      | some M' => zxM rec T fr lo M pc nxt knd na M' cu su iv lv sk ov
      | none => none)) else none
  | _, none => none
def zxI (rec : zRc) (T : zTb) (fl : Bool) (fr lo : Nat) (M : zM) (pc : Nat) (o : zQ) (len : Nat) (nxt : List zP) (st : zS) : Option (List zOu) := match z_spkC o with
  | none => zxS rec fr lo M pc len nxt (zstepC T fl M pc o len st)
  | some (k, idx) => if Nat.ble k 2 then (if Nat.beq len 1 then z_rt M k st else none) else zxC rec T fr lo M pc len nxt k idx st
def zxB (rec : zRc) (T : zTb) (fl : Bool) (fr lo : Nat) (M : zM) (pc : Nat) (cur : List zP) (st : zS) : Option (List zOu) := match cur with
  | [] => none
  | (pc', o, len) :: nxt => if Nat.beq pc' pc then zxI rec T fl fr lo M pc' o len nxt st else none
def zx (T : zTb) (fl : Bool) : Nat → zRc
  | 0, _, _, _, _, _, _ => none
  | f + 1, fr, lo, M, pc, cur, st => zxB (zx T fl f) T fl fr lo M pc cur st
/-- what holds of an end -/
def zEnd (G : List zC) (cl : List vw_C) (cA : Nat → ClassId) (D : va_G) (A : Nat → Prop) (b sl : Nat) (xs : Nat → Int32) (fl : Bool) (o : zOu) (ρ : Nat → Int) (ad : Nat → Nat) (ws : va_W) (H : Heap) : Prop :=
  ziv o.1 ρ ∧ (∀ v, o.2.1 = some v → zok o.2.2.length o.1 ρ v) ∧ (∀ (p9 i9 : Nat) (v : zV), z_lk o.2.2 p9 i9 = some v → zok o.2.2.length o.1 ρ v) ∧ z_wd G cA o.2.2 ad b ρ ws ∧ va_P D cl ws H ∧ va_D A ws ∧ zSc sl xs fl ρ ∧ 9 < o.1.length
/-- an end lies behind a beginning -/
def zBh (k n : Nat) (ρ : Nat → Int) (ad : Nat → Nat) (o : zOu) (ρ' : Nat → Int) (ad' : Nat → Nat) : Prop := (∀ i, i < k → ρ' i = ρ i) ∧ (∀ q, q < n → ad' q = ad q) ∧ k ≤ o.1.length ∧ n ≤ o.2.2.length
def zMOk (zN : List String) (Ts : List Jvm.Cond) (M : zM) : Prop := zN[M.2.2.2.2.2.2.2.1]? = some M.1.cls ∧ (∀ e ∈ M.2.2.2.2.1, decode M.2.1 e.1 = .ok (zdec e.2.1, e.2.2)) ∧ (M.2.2.2.2.2.2.2.2 = true → M.1.name = "<init>")
def zMTOk (zN : List String) (Ts : List Jvm.Cond) (MT : List zM) : Prop := ∀ (mi : Nat) (M : zM), MT[mi]? = some M → zMOk zN Ts M ∧ plainName M.1.cls = true ∧ Jvm.Cond.code M.1 M.2.1 M.2.2.1 M.2.2.2.1 ∈ Ts
def zCTOk (zN : List String) (Ts : List Jvm.Cond) (MT : List zM) (CT : List (List (Nat × Nat × Nat × Nat))) : Prop := ∀ (cn idx knd mi na : Nat) (own : String), z_ct CT cn idx = some (knd, mi, na) → zN[cn]? = some own →
  (knd = 3 → Jvm.Cond.methodLink own idx arraycopyName ∈ Ts ∧ Jvm.Cond.native arraycopyName ∈ Ts ∧ Jvm.Cond.static arraycopyName ∈ Ts ∧ Jvm.Cond.initialized "java/lang/System" ∈ Ts) ∧
  (knd = 4 → Jvm.Cond.methodLink own idx objectInit ∈ Ts ∧ Jvm.Cond.instanceMethod objectInit ∈ Ts ∧ Jvm.Cond.code objectInit ⟨#[0xb1]⟩ 1 none ∈ Ts) ∧
  (knd ≤ 2 → ∀ M : zM, MT[mi]? = some M → Jvm.Cond.methodLink own idx M.1 ∈ Ts ∧ Jvm.Cond.initialized M.1.cls ∈ Ts ∧ (M.1.cls ≠ "java/lang/invoke/MethodHandle" ∧ M.1.cls ≠ "java/lang/invoke/VarHandle") ∧ (parseMethodDescriptor M.1.desc).map (fun d => d.parameters.length) = some na ∧ (knd = 0 → Jvm.Cond.instanceMethod M.1 ∈ Ts ∧ Jvm.Cond.selects M.1.cls M.1 M.1 ∈ Ts) ∧ (knd = 1 → Jvm.Cond.static M.1 ∈ Ts) ∧ (knd = 2 → M.1.name = "<init>" ∧ Jvm.Cond.instanceMethod M.1 ∈ Ts ∧ M.2.2.2.1 = none))
/-- all tables -/
def zAllOk (T : zTb) (zN : List String) (Ts : List Jvm.Cond) (cA : Nat → ClassId) (tys : List (ClassId × FieldType)) : Prop := zTbOk T zN Ts cA tys ∧ zMTOk zN Ts T.2.2.2.2.2.2.2.2.2.2.1 ∧ zCTOk zN Ts T.2.2.2.2.2.2.2.2.2.2.1 T.2.2.2.2.2.2.2.2.2.2.2 ∧ (∀ w ∈ Ts, (w.onTables && w.keeps) = true ∨ ∃ ty, w = .arrayClass ty)
/-- the way to a method's end: the last instruction, and what is due there -/
def zRt (k : Nat) (i : Instr) : Prop := (k = 0 ∧ i = .return_) ∨ (k = 1 ∧ i = .ireturn) ∨ (k = 2 ∧ i = .lreturn)
theorem z_spk_ok {i : Instr} {k idx : Nat} (h : z_spk i = some (k, idx)) : (k ≤ 2 → zRt k i) ∧ (k = 4 → i = .invokevirtual idx) ∧ (k = 5 → i = .invokestatic idx) ∧ (k = 6 → i = .invokespecial idx) := by
  cases i
  case return_ => cases h; exact ⟨fun _ => Or.inl ⟨rfl, rfl⟩, fun h => by omega, fun h => by omega, fun h => by omega⟩
  case ireturn => cases h; exact ⟨fun _ => Or.inr (Or.inl ⟨rfl, rfl⟩), fun h => by omega, fun h => by omega, fun h => by omega⟩
  case lreturn => cases h; exact ⟨fun _ => Or.inr (Or.inr ⟨rfl, rfl⟩), fun h => by omega, fun h => by omega, fun h => by omega⟩
  case invokevirtual k => cases h; exact ⟨fun h => by omega, fun _ => rfl, fun h => by omega, fun h => by omega⟩
  case invokestatic k => cases h; exact ⟨fun h => by omega, fun h => by omega, fun _ => rfl, fun h => by omega⟩
  case invokespecial k => cases h; exact ⟨fun h => by omega, fun h => by omega, fun h => by omega, fun _ => rfl⟩
  all_goals (change (none : Option (Nat × Nat)) = some (k, idx) at h; cases h)
theorem z_arg_map {ad : Nat → Nat} {b : Nat} {ρ : Nat → Int} : ∀ (vs : List zV) (i : Nat), lv_args i (vs.map (zcv ad b ρ)) = (z_arg i vs).map fun q => (q.1, zcv ad b ρ q.2)
  | [], _ => rfl
  | v :: r, i => by
    show (i, zcv ad b ρ v) :: lv_args (if (zcv ad b ρ v).category = 2 then i + 2 else i + 1) (r.map (zcv ad b ρ)) = (i, zcv ad b ρ v) :: (z_arg (if Nat.beq v.1 1 then i + 2 else i + 1) r).map fun q => (q.1, zcv ad b ρ q.2)
    have hc := z_cat (b := b) (ad := ad) (ρ := ρ) v
    have e : (if (zcv ad b ρ v).category = 2 then i + 2 else i + 1) = (if Nat.beq v.1 1 then i + 2 else i + 1) := by
      cases hb : Nat.beq v.1 1
      · rw [hb] at hc
        rw [if_neg (fun q => by rw [q] at hc; cases hc)]; rfl
      · rw [hb] at hc
        rw [if_pos (eq_of_beq hc)]; rfl
    rw [e, z_arg_map r]
theorem z_arg_mem {vs : List zV} : ∀ (i : Nat), ∀ q ∈ z_arg i vs, q.2 ∈ vs := by
  induction vs with
  | nil => intro i q hq; cases hq
  | cons v r ih =>
    intro i q hq
    rcases List.mem_cons.mp hq with h | h
    · subst h; exact List.mem_cons_self
    · exact List.mem_cons_of_mem _ (ih _ q h)
theorem z_wd2_cat {ad : Nat → Nat} {b : Nat} {ρ : Nat → Int} : ∀ vs : List zV, ((vs.map (zcv ad b ρ)).map fun v => v.category).sum = z_wd2 vs
  | [] => rfl
  | v :: r => by
    show (zcv ad b ρ v).category + ((r.map (zcv ad b ρ)).map fun v => v.category).sum = (if Nat.beq v.1 1 then 2 else 1) + z_wd2 r
    rw [z_wd2_cat r]
    have hc := z_cat (b := b) (ad := ad) (ρ := ρ) v
    cases hb : Nat.beq v.1 1
    · rw [z_cat1 (by rw [hb]; exact Bool.false_ne_true)]; rfl
    · rw [z_cat2 hb]; rfl
theorem z_wd2_sl {ad : Nat → Nat} {b : Nat} {ρ : Nat → Int} : ∀ vs : List zV, (lg_sl (vs.map (zcv ad b ρ))).length = z_wd2 vs
  | [] => rfl
  | v :: r => by
    have ih := z_wd2_sl (ad := ad) (b := b) (ρ := ρ) r
    unfold lg_sl at ih ⊢
    rw [List.map_cons, List.flatMap_cons, List.length_append, ih]
    show _ = (if Nat.beq v.1 1 then 2 else 1) + z_wd2 r
    cases hb : Nat.beq v.1 1
    · rw [z_cat1 (by rw [hb]; exact Bool.false_ne_true)]; rfl
    · rw [z_cat2 hb]; rfl
theorem z_go {p : Program} {l : Launch} {e : Env} {R : Room} {s : State} {m : MethodId} {args : Array Value} {below : List Frame} {meth : Method} {c : Code} {Q : State → Prop} {H : Heap} {locs : List Loc} {cells slots mc ms : Nat} {g : JFrame} {rest : List Value} {Qa : State → Outcome → State → Prop} {free : Addr → Prop} (hr : CallRun p l e R s m args below meth c H locs cells slots mc ms g rest Qa free)
    (kk : ∀ (v : Option Value) (st₀ t : State) (L : List Loc), st₀.heap = H → (∀ q ∈ L, free q.base) → Qa st₀ (.returned v) t → W p l e R s m args below meth c t.heap (locs ++ L) (cells + mc) (slots + ms) Q { g with pc := g.pc + 3, stack := v.toList ++ rest }) : W p l e R s m args below meth c H locs cells slots Q g := by
  intro T hT X
  obtain ⟨v, st₀, t, T', L, h0, X', hL, e1, hq, st⟩ := hr T hT X
  obtain ⟨t2, a1, b1⟩ := kk v st₀ t L h0 hL hq T' e1 X'
  exact ⟨t2, st t2 a1, b1⟩
end
section
/-! ===== a run that the checker passes is a run of the machine ===== -/
def zRv (M : zM) (kk : Nat) (o : zOu) (ρ : Nat → Int) : Prop := (kk = 0 ∧ M.2.2.2.1 = none ∧ o.2.1 = none) ∨ (kk = 1 ∧ ∃ v, o.2.1 = some v ∧ v.1 = 0 ∧ (M.2.2.2.1 = some .int ∨ (M.2.2.2.1 = some .boolean ∧ 0 ≤ z_val ρ v ∧ z_val ρ v ≤ 1))) ∨ (kk = 2 ∧ ∃ v, o.2.1 = some v ∧ v.1 = 1 ∧ M.2.2.2.1 = some .long)
theorem z_rt_ok {M : zM} {k : Nat} {st : zS} {outs : List zOu} (h : z_rt M k st = some outs) : ∃ o : zOu, outs = [o] ∧ o.1 = st.2.2.1 ∧ o.2.2 = st.2.2.2.2.2 ∧ st.2.2.2.2.1 = o.2.1.toList ∧ st.1 ≤ M.2.2.2.2.2.1 ∧ st.2.1 ≤ M.2.2.2.2.2.2.1 ∧ ∀ ρ, ziv st.2.2.1 ρ → zRv M k o ρ := by
  obtain ⟨cu, su, iv, lv, sk, ov⟩ := st
  unfold z_rt at h
  dsimp only at h
  split at h
  next hb =>
    rw [Bool.and_eq_true] at hb
    have b1 := Nat.le_of_ble_eq_true hb.1
    have b2 := Nat.le_of_ble_eq_true hb.2
    split at h
    next hr => cases h; exact ⟨_, rfl, rfl, rfl, rfl, b1, b2, fun ρ _ => Or.inl ⟨rfl, hr, rfl⟩⟩
    next v hr =>
      split at h
      next hv => cases h; exact ⟨_, rfl, rfl, rfl, rfl, b1, b2, fun ρ _ => Or.inr (Or.inl ⟨rfl, v, rfl, hv, Or.inl hr⟩)⟩
      next => cases h
    next v hr =>
      split at h
      next hv =>
        split at h
        next q hq =>
          split at h
          next hc =>
            cases h
            refine ⟨_, rfl, rfl, rfl, rfl, b1, b2, fun ρ hi => Or.inr (Or.inl ⟨rfl, v, rfl, hv, Or.inr ⟨hr, ?_⟩⟩)⟩
            have := z_bd_ok hq hi
            exact ⟨by omega, by omega⟩
          next => cases h
        next => cases h
      next => cases h
    next v hr =>
      split at h
      next hv => cases h; exact ⟨_, rfl, rfl, rfl, rfl, b1, b2, fun ρ _ => Or.inr (Or.inr ⟨rfl, v, rfl, hv, hr⟩)⟩
      next => cases h
    next => cases h
  next => cases h
/-- what is due at each end -/
def zDue (p : Program) (l : Launch) (e : Env) (R : Room) (s : State) (m : MethodId) (args : Array Value) (below : List Frame) (meth : Method) (c : Code) (Q : State → Prop) (D : va_G) (A : Nat → Prop) (cA : Nat → ClassId) (b sl : Nat) (xs : Nat → Int32) (fl : Bool) (T : zTb) (M : zM) (k n : Nat) (ρ : Nat → Int) (ad : Nat → Nat) (outs : List zOu) : Prop :=
  ∀ o ∈ outs, ∀ (ρ' : Nat → Int) (ad' : Nat → Nat) (ws' : va_W) (H' : Heap) (locs' : List Loc) (ls' : Array Slot) (pc' kk cu su : Nat) (i : Instr), zBh k n ρ ad o ρ' ad' → zEnd T.1 T.2.1 cA D A b sl xs fl o ρ' ad' ws' H' → va_S A s.heap H' locs' → zRt kk i → zRv M kk o ρ' → decode M.2.1 pc' = .ok (i, 1) → cu ≤ M.2.2.2.2.2.1 → su ≤ M.2.2.2.2.2.2.1 → W p l e R s m args below meth c H' locs' cu su Q (F0 m pc' ls' (o.2.1.toList.map (zcv ad' b ρ')))
/-- the claim of the run at a fuel -/
def zSd (l : Launch) (T : zTb) (zN : List String) (Ts : List Jvm.Cond) (D : va_G) (A : Nat → Prop) (cA : Nat → ClassId) (tys : List (ClassId × FieldType)) (b sl : Nat) (xs : Nat → Int32) (fl : Bool) (f : Nat) : Prop :=
  ∀ (fr lo : Nat) (M : zM) (pc : Nat) (cur : List zP) (st : zS) (outs : List zOu), zx T fl f fr lo M pc cur st = some outs → zMOk zN Ts M → (∀ e ∈ cur, e ∈ M.2.2.2.2.1) →
    ∀ (p : Program) (e : Env) (R : Room) (s : State) (m : MethodId) (args : Array Value) (below : List Frame) (meth : Method) (c : Code) (Q : State → Prop), zCx p R s m args meth c T Ts D A tys b sl xs s.heap M → fr ≤ R.frames → lo ≤ R.locals →
    ∀ (ρ : Nat → Int) (ad : Nat → Nat) (ws : va_W) (H : Heap) (locs : List Loc) (ls : Array Slot), z_gs D T.2.1 A cA T.1 b sl xs fl s.heap M.2.2.1 st ρ ad ws H locs ls → zDue p l e R s m args below meth c Q D A cA b sl xs fl T M st.2.2.1.length st.2.2.2.2.2.length ρ ad outs →
    W p l e R s m args below meth c H locs st.1 st.2.1 Q (F0 m pc ls (st.2.2.2.2.1.map (zcv ad b ρ)))
theorem zBh.tr {k n k' n' : Nat} {ρ ρ' ρ'' : Nat → Int} {ad ad' ad'' : Nat → Nat} {o : zOu} (h : zBh k' n' ρ' ad' o ρ'' ad'') (h1 : ∀ i, i < k → ρ' i = ρ i) (h2 : ∀ q, q < n → ad' q = ad q) (h3 : k ≤ k') (h4 : n ≤ n') : zBh k n ρ ad o ρ'' ad'' :=
  ⟨fun i hi => (h.1 i (by omega)).trans (h1 i hi), fun q hq => (h.2.1 q (by omega)).trans (h2 q hq), by have := h.2.2.1; omega, by have := h.2.2.2; omega⟩
section ZMAIN
variable {l : Launch} {T : zTb} {zN : List String} {Ts : List Jvm.Cond} {D : va_G} {A : Nat → Prop} {cA : Nat → ClassId} {tys : List (ClassId × FieldType)} {b sl : Nat} {xs : Nat → Int32} {fl : Bool}
def zPc (T : zTb) (D : va_G) (A : Nat → Prop) (tys : List (ClassId × FieldType)) (b sl : Nat) (xs : Nat → Int32) (as : List zV) (ρ : Nat → Int) (ad : Nat → Nat) (ws : va_W) : Array Value → State → Prop := fun a U => a = (as.map (zcv ad b ρ)).toArray ∧ va_K D T.2.1 tys U ∧ va_P D T.2.1 ws U.heap ∧ (va_X b sl xs U U.heap ∧ zOv T.2.2.1 U) ∧ b < U.heap.size ∧ ∀ q : Nat, U.heap.size ≤ q → A q
def zQc (T : zTb) (D : va_G) (A : Nat → Prop) (cA : Nat → ClassId) (b sl : Nat) (xs : Nat → Int32) (fl : Bool) (iv : zI) (ov : zO) (ρ : Nat → Int) (ad : Nat → Nat) (outs : List zOu) : Array Value → State → Outcome → State → Prop := fun _ st oc t => va_F A st t ∧ ∃ o ∈ outs, ∃ (ρ' : Nat → Int) (ad' : Nat → Nat) (ws' : va_W), zBh iv.length ov.length ρ ad o ρ' ad' ∧ zEnd T.1 T.2.1 cA D A b sl xs fl o ρ' ad' ws' t.heap ∧ oc = .returned (o.2.1.map (zcv ad' b ρ'))
theorem z_narz2 {z : Int} (h1 : 0 ≤ z) (h2 : z ≤ 1) : narrow .boolean (.int (Int32.ofInt z)) = .int (Int32.ofInt z) := by
  rcases (show z = 0 ∨ z = 1 by omega) with rfl | rfl
  · decide
  · decide
set_option maxHeartbeats 4000000 in
theorem z_met (hAll : zAllOk T zN Ts cA tys) (hbA : ¬ A b) (hsl : sl ≤ 2147483647) {M : zM} (hM : zMOk zN Ts M) (hpl : plainName M.1.cls = true) {f fr lo : Nat} {iv : zI} {as : List zV} {ov : zO} {outs : List zOu} (hrun : zx T fl f fr lo M 0 M.2.2.2.2.1 (0, 0, iv, z_arg 0 as, [], ov) = some outs) (ih : zSd l T zN Ts D A cA tys b sl xs fl f)
    {ρ : Nat → Int} {ad : Nat → Nat} {ws : va_W} (hi : ziv iv ρ) (has : ∀ v ∈ as, zok ov.length iv ρ v) (hov : ∀ (p9 i9 : Nat) (v : zV), z_lk ov p9 i9 = some v → zok ov.length iv ρ v) (hw : z_wd T.1 cA ov ad b ρ ws) (hD : va_D A ws) (h1 : zSc sl xs fl ρ) (h2 : 9 < iv.length) (hwd : z_wd2 as ≤ M.2.2.1) :
    Met l M.1 (Jvm.Cond.code M.1 M.2.1 M.2.2.1 M.2.2.2.1 :: Ts) { frames := fr, cells := M.2.2.2.2.2.1, slots := M.2.2.2.2.2.2.1, locals := lo } (zPc T D A tys b sl xs as ρ ad ws) (zQc T D A cA b sl xs fl iv ov ρ ad outs) M.2.2.2.2.2.1 M.2.2.2.2.2.2.1 A := by
  refine Met.ofW (cc := M.2.1) (maxL := M.2.2.1) (ret := M.2.2.2.1) hpl rfl ?_
  intro p e s m args below meth c s₁ B hml hv
  obtain ⟨rfl, hK, hP, hX, hbl, hA⟩ := hv
  have hx := B.exec
  have hb := B.bytes
  have hr := B.returns
  have hts0 := atoms_spec (ws := Jvm.Cond.code M.1 M.2.1 M.2.2.1 M.2.2.2.1 :: Ts) B.pre
  have hts : ∀ w ∈ Ts, w.before (as.map (zcv ad b ρ)).toArray s = true := fun w h => hts0 w (List.mem_cons_of_mem _ h)
  have hown : s.vm.findClass M.1.cls = some m.cls := findClass_of_methodNamed B.named
  have hlocks := B.notSynchronized
  have hname : meth.name = M.1.name := (name_of_methodNamed B.named B.method).1
  have hl := lv_entry (as.map (zcv ad b ρ)) (n := M.2.2.1) (by rw [z_wd2_sl]; exact hwd)
  rw [z_arg_map] at hl
  rw [lg_entry_eq]
  generalize (lg_sl (as.map (zcv ad b ρ)) ++ List.replicate (M.2.2.1 - (lg_sl (as.map (zcv ad b ρ))).length) Slot.unset).toArray = ls at hl ⊢
  refine ih fr lo M 0 M.2.2.2.2.1 (0, 0, iv, z_arg 0 as, [], ov) outs hrun hM (fun _ h => h) p e _ s m _ below meth c _ ⟨hx, hb, hml, hr, hlocks, hown, hts, hK, fun h => by rw [hname]; exact hM.2.2 h, hX, hbl, hbA, hA, hsl, Nat.le_refl _, Nat.le_refl _⟩ (Nat.le_refl _) (Nat.le_refl _) ρ ad ws s.heap [] ls ⟨⟨hi, fun q hq => has _ (z_arg_mem 0 q hq), (fun v hv => absurd hv List.not_mem_nil), hov⟩, hl, hw, hP, hD, va_S.rf, h1, h2⟩ ?_
  intro o ho ρ' ad' ws' H' locs' ls' pc' kk cu su i hbh hend hS hrt hrv hd hcu hsu
  refine W.widen hcu hsu ?_
  have hq : ∀ (ov' : Option Value) (t : State), ov' = o.2.1.map (zcv ad' b ρ') → t.heap = H' → zQc T D A cA b sl xs fl iv ov ρ ad outs (as.map (zcv ad b ρ)).toArray s (.returned ov') t := fun ov' t e1 ht => ⟨hS.F ht, o, ho, ρ', ad', ws', hbh, by rw [ht]; exact hend, by rw [e1]⟩
  rcases hrv with ⟨rfl, r1, r2⟩ | ⟨rfl, v, r1, r2, r3⟩ | ⟨rfl, v, r1, r2, r3⟩
  · rcases hrt with ⟨-, rfl⟩ | ⟨q, -⟩ | ⟨q, -⟩
    · rw [r2]
      exact W.vret hx hb (hr.trans r1) (fun t ht _ => hq none t (by rw [r2]; rfl) ht) hS.2.2 hd
    · omega
    · omega
  · rcases hrt with ⟨q, -⟩ | ⟨-, rfl⟩ | ⟨q, -⟩
    · omega
    · rw [r1]
      show W _ _ _ _ _ _ _ _ _ _ _ _ _ _ _ (F0 m pc' ls' [zcv ad' b ρ' v])
      rw [z_cv0 r2]
      have hq2 : ∀ (t : State), t.heap = H' → zQc T D A cA b sl xs fl iv ov ρ ad outs (as.map (zcv ad b ρ)).toArray s (.returned (some (.int (Int32.ofInt (z_val ρ' v))))) t := fun t ht => hq _ t (by rw [r1]; show _ = some (zcv ad' b ρ' v); rw [z_cv0 r2]) ht
      rcases r3 with r3 | ⟨r3, r4, r5⟩
      · exact W.iret hx hb (hr.trans r3) (fun t ht _ => hq2 t ht) hS.2.2 hd
      · exact W.zret hx hb (hr.trans r3) (z_narz2 r4 r5) (fun t ht _ => hq2 t ht) hS.2.2 hd
    · omega
  · rcases hrt with ⟨q, -⟩ | ⟨q, -⟩ | ⟨-, rfl⟩
    · omega
    · omega
    · rw [r1]
      show W _ _ _ _ _ _ _ _ _ _ _ _ _ _ _ (F0 m pc' ls' [zcv ad' b ρ' v])
      rw [z_cv1 r2]
      exact W.lret hx hb (hr.trans r3) (fun t ht _ => hq _ t (by rw [r1]; show _ = some (zcv ad' b ρ' v); rw [z_cv1 r2]) ht) hS.2.2 hd
theorem z_blind {as : List zV} {ρ : Nat → Int} {ad : Nat → Nat} {ws : va_W} : FrameBlind (zPc T D A tys b sl xs as ρ ad ws) := fun a U g mk q => by
  obtain ⟨q1, q2, q3, q4, q5, q6⟩ := q
  exact ⟨q1, va_K.moved (u := U) (U := U.calling g mk a) (Vm.Alike.refl U.vm) q2, q3, ⟨va_X.moved (u := U) (U := U.calling g mk a) (Vm.Alike.refl U.vm) q4.1, q4.2.moved (u := U) (U := U.calling g mk a) (Vm.Alike.refl U.vm)⟩, q5, q6⟩
/-- behind a call -/
theorem z_back {p : Program} {e : Env} {R : Room} {s : State} {m : MethodId} {args : Array Value} {below : List Frame} {meth : Method} {c : Code} {Q : State → Prop} {M : zM} {f fr lo pc cu su mc ms : Nat} {nxt : List zP} {iv : zI} {lv : zL} {sk rest : List zV} {ov : zO} {outs outs' : List zOu} (ih : zSd l T zN Ts D A cA tys b sl xs fl f) (hM : zMOk zN Ts M) (hcur : ∀ e ∈ nxt, e ∈ M.2.2.2.2.1) (hC : zCx p R s m args meth c T Ts D A tys b sl xs s.heap M) (hfr : fr ≤ R.frames) (hlo : lo ≤ R.locals)
    {ρ : Nat → Int} {ad : Nat → Nat} {ws : va_W} {H : Heap} {locs : List Loc} {ls : Array Slot} (hg : z_gm D T.2.1 A cA T.1 b sl xs fl s.heap M.2.2.1 iv lv sk ov ρ ad ws H locs ls) (hsub : ∀ w ∈ rest, w ∈ sk) (hall : z_all (fun o : zOu => zx T fl f fr lo M (pc + 3) nxt (cu + mc, su + ms, o.1, lv, o.2.1.toList ++ rest, o.2.2)) outs' = some outs) (hdue : zDue p l e R s m args below meth c Q D A cA b sl xs fl T M iv.length ov.length ρ ad outs)
    {stk : List Value} {As : Array Value} (hr : CallRun p l e R s m args below meth c H locs cu su mc ms (F0 m pc ls stk) (rest.map (zcv ad b ρ)) (zQc T D A cA b sl xs fl iv ov ρ ad outs' As) A) : W p l e R s m args below meth c H locs cu su Q (F0 m pc ls stk) := by
  refine z_go hr (fun v st₀ t L h0 hL hq => ?_)
  obtain ⟨hF, o, ho, ρ', ad', ws', hbh, hend, hv⟩ := hq
  have hv := Outcome.returned.inj hv
  subst hv
  obtain ⟨o', ho', hso⟩ := z_all_ok outs' outs hall o ho
  obtain ⟨e1, e2, e3, e4⟩ := hbh
  obtain ⟨d1, d2, d3, d4, d5, d6, d7, d8⟩ := hend
  have up : ∀ v, zok ov.length iv ρ v → zok o.2.2.length o.1 ρ' v := fun v hv => zok_ext hv e1 e3 e4
  have hS : va_S A s.heap t.heap (locs ++ L) := by
    obtain ⟨s1, s2, s3⟩ := hg.2.2.2.2.2.1
    obtain ⟨f1, f2⟩ := hF
    rw [h0] at f1 f2
    refine ⟨Nat.le_trans s1 f1, fun q h1 h2 => ?_, fun q hq => ?_⟩
    · rw [f2 q (Nat.lt_of_lt_of_le h1 s1) h2]; exact s2 q h1 h2
    · rcases List.mem_append.mp hq with r | r
      · exact s3 q r
      · exact hL q r
  have hgs : z_gs D T.2.1 A cA T.1 b sl xs fl s.heap M.2.2.1 (cu + mc, su + ms, o.1, lv, o.2.1.toList ++ rest, o.2.2) ρ' ad' ws' t.heap (locs ++ L) ls := by
    refine ⟨⟨d1, fun q hq => up _ (hg.1.2.1 q hq), fun w hw => ?_, d3⟩, ?_, d4, d5, d6, hS, d7, d8⟩
    · rcases List.mem_append.mp hw with r | r
      · exact d2 w (Option.mem_toList.mp r)
      · exact up w (hg.1.2.2.1 w (hsub w r))
    · have e : (lv.map fun q => (q.1, zcv ad' b ρ' q.2)) = (lv.map fun q => (q.1, zcv ad b ρ q.2)) := List.map_congr_left (fun q hq => by rw [zcv_ext (hg.1.2.1 q hq) e1 e2])
      show lv_has ls M.2.2.1 (lv.map fun q => (q.1, zcv ad' b ρ' q.2))
      rw [e]; exact hg.2.1
  have hW := ih fr lo M (pc + 3) nxt _ o' ho' hM hcur p e R s m args below meth c Q hC hfr hlo ρ' ad' ws' t.heap (locs ++ L) ls hgs (fun o9 ho9 ρ9 ad9 ws9 H9 locs9 ls9 pc9 kk9 cu9 su9 i9 hbh9 => hdue o9 (hso o9 ho9) ρ9 ad9 ws9 H9 locs9 ls9 pc9 kk9 cu9 su9 i9 (hbh9.tr e1 e2 e3 e4))
  have es : (o.2.1.map (zcv ad' b ρ')).toList ++ rest.map (zcv ad b ρ) = (o.2.1.toList ++ rest).map (zcv ad' b ρ') := by
    rw [List.map_append, z_skm (fun w hw => hg.1.2.2.1 w (hsub w hw)) e1 e2]
    congr 1
    cases o.2.1 <;> rfl
  show W p l e R s m args below meth c t.heap (locs ++ L) (cu + mc) (su + ms) Q (F0 m (pc + 3) ls ((o.2.1.map (zcv ad' b ρ')).toList ++ rest.map (zcv ad b ρ)))
  rw [es]
  exact hW
end ZMAIN
end
section
section ZMAIN2
variable {l : Launch} {T : zTb} {zN : List String} {Ts : List Jvm.Cond} {D : va_G} {A : Nat → Prop} {cA : Nat → ClassId} {tys : List (ClassId × FieldType)} {b sl : Nat} {xs : Nat → Int32} {fl : Bool}
theorem z_len {sk : List zV} {na : Nat} (h : ¬ Nat.blt sk.length na = true) : na ≤ sk.length := by
  rcases Nat.lt_or_ge sk.length na with q | q
  · exact absurd (Nat.ble_eq_true_of_le q) h
  · exact q
theorem z_split {sk : List zV} {na : Nat} {ad : Nat → Nat} {ρ : Nat → Int} : sk.map (zcv ad b ρ) = (((sk.take na).reverse).map (zcv ad b ρ)).reverse ++ (sk.drop na).map (zcv ad b ρ) := by
  rw [← List.map_reverse, List.reverse_reverse, ← List.map_append, List.take_append_drop]
set_option maxHeartbeats 1000000 in
theorem z_sound (hAll : zAllOk T zN Ts cA tys) (hbA : ¬ A b) (hsl : sl ≤ 2147483647) : ∀ f : Nat, zSd l T zN Ts D A cA tys b sl xs fl f := by
  intro f
  induction f with
  | zero => intro fr lo M pc cur st outs h; unfold zx at h; cases h
  | succ f ih =>
    intro fr lo M pc cur st outs h hM hcur p e R s m args below meth c Q hC hfr hlo ρ ad ws H locs ls hg hdue
    rcases cur with _ | ⟨⟨pc', o, len⟩, nxt⟩
    · unfold zx zxB at h; cases h
    unfold zx zxB at h
    dsimp only at h
    split at h
    next hpc =>
      have epc : pc' = pc := Nat.eq_of_beq_eq_true hpc
      subst epc
      have hd : decode M.2.1 pc' = .ok (zdec o, len) := by
        have h9 := hM.2.1 (pc', o, len) (hcur (pc', o, len) List.mem_cons_self)
        dsimp only at h9
        exact h9
      have hcn : ∀ e ∈ nxt, e ∈ M.2.2.2.2.1 := fun e he => hcur e (List.mem_cons_of_mem _ he)
      unfold zxI at h
      rw [z_spkC_eq, zstepC_eq] at h
      clear hcur
      generalize zdec o = i at h hd
      split at h
      next hk =>
        unfold zxS at h
        split at h
        next => cases h
        next ss hs =>
          refine zstep_sound hAll.1 hC hM.1 hd hs ρ ad ws H locs ls hg (fun q hq ρ' ad' ws' H' locs' ls' hxt hg' => ?_)
          obtain ⟨o', ho', hsub⟩ := z_all_ok ss outs h q hq
          obtain ⟨t, st'⟩ := q
          have hdue' : zDue p l e R s m args below meth c Q D A cA b sl xs fl T M st'.2.2.1.length st'.2.2.2.2.2.length ρ' ad' o' := fun o9 ho9 ρ9 ad9 ws9 H9 locs9 ls9 pc9 kk9 cu9 su9 i9 hbh9 => hdue o9 (hsub o9 ho9) ρ9 ad9 ws9 H9 locs9 ls9 pc9 kk9 cu9 su9 i9 (hbh9.tr hxt.1 hxt.2.1 hxt.2.2.1 hxt.2.2.2)
          match t, ho' with
          | none, ho' => exact ih fr lo M (pc' + len) nxt st' o' ho' hM hcn p e R s m args below meth c Q hC hfr hlo ρ' ad' ws' H' locs' ls' hg' hdue'
          | some t, ho' => exact ih fr lo M t _ st' o' ho' hM (fun e he => z_drop_mem e he) p e R s m args below meth c Q hC hfr hlo ρ' ad' ws' H' locs' ls' hg' hdue'
      next k idx hk =>
        obtain ⟨k1, k2, k3, k4⟩ := z_spk_ok hk
        split at h
        next hk2 =>
          have hk2' : k ≤ 2 := Nat.le_of_ble_eq_true hk2
          split at h
          next hl1 =>
            have hl1' : len = 1 := Nat.eq_of_beq_eq_true hl1
            subst hl1'
            obtain ⟨o, rfl, o1, o2, o3, o4, o5, o6⟩ := z_rt_ok h
            rw [o3]
            refine hdue o (List.mem_singleton.mpr rfl) ρ ad ws H locs ls pc' k st.1 st.2.1 i ⟨fun _ _ => rfl, fun _ _ => rfl, by rw [o1]; exact Nat.le_refl _, by rw [o2]; exact Nat.le_refl _⟩ ⟨by rw [o1]; exact hg.1.1, fun v hv => ?_, by rw [o1, o2]; exact hg.1.2.2.2, by rw [o2]; exact hg.2.2.1, hg.2.2.2.1, hg.2.2.2.2.1, hg.2.2.2.2.2.2.1, by rw [o1]; exact hg.2.2.2.2.2.2.2⟩ hg.2.2.2.2.2.1 (k1 hk2') (o6 ρ hg.1.1) hd o4 o5
            rw [o1, o2]
            exact hg.1.2.2.1 v (by rw [o3, hv]; exact List.mem_singleton.mpr rfl)
          next => cases h
        next =>
          obtain ⟨cu, su, iv, lv, sk, ov⟩ := st
          unfold zxC at h
          split at h
          next cu0 su0 iv0 lv0 sk0 ov0 knd mi na est hct =>
            cases est
            split at h
            next hb3 =>
              rw [Bool.and_eq_true, Bool.and_eq_true] at hb3
              obtain ⟨⟨b1, b2⟩, b3⟩ := hb3
              have hlen : len = 3 := Nat.eq_of_beq_eq_true b1
              subst hlen
              have hfr1 : 1 ≤ fr := Nat.le_of_ble_eq_true b3
              obtain ⟨w3, w4, w02⟩ := hAll.2.2.1 _ _ _ _ _ _ hct hM.1
              obtain ⟨hx, hb, hml, hr, hlk, hown, hts, hK, hin, hX, hbl, hbA', hA, hsl', hR1, hR2⟩ := id hC
              split at h
              next =>
                -- a copy
                split at h
                next hcw =>
                  split at h
                  next st' hcp =>
                    obtain ⟨v1, v2, v3, v4⟩ := w3 rfl
                    have hi5 : i = .invokestatic idx := k3 (Nat.eq_of_beq_eq_true b2)
                    subst hi5
                    refine zs_copy (own := M.1.cls) (idx := idx) hx hb hml hK hAll.1.2.2.2.1 hown (hts _ v1) (hts _ v2) (hts _ v3) (hts _ v4) (Nat.le_trans hfr1 hfr) hlo (fun ad9 ρ9 => by rw [z_wd2_cat]; exact Nat.le_of_ble_eq_true hcw) hd hcp ρ ad ws H locs ls hg (fun q hq ρ' ad' ws' H' locs' ls' hxt hg' => ?_)
                    rw [List.mem_singleton] at hq
                    subst hq
                    exact ih fr lo M (pc' + 3) nxt st' outs h hM hcn p e R s m args below meth c Q hC hfr hlo ρ' ad' ws' H' locs' ls' hg' (fun o9 ho9 ρ9 ad9 ws9 H9 locs9 ls9 pc9 kk9 cu9 su9 i9 hbh9 => hdue o9 ho9 ρ9 ad9 ws9 H9 locs9 ls9 pc9 kk9 cu9 su9 i9 (hbh9.tr hxt.1 hxt.2.1 hxt.2.2.1 hxt.2.2.2))
                  next => cases h
                next => cases h
              next =>
                -- Object's own maker
                split at h
                next o r =>
                  split at h
                  next hc =>
                    obtain ⟨v1, v2, v3⟩ := w4 rfl
                    have hi6 : i = .invokespecial idx := k4 (Nat.eq_of_beq_eq_true b2)
                    subst hi6
                    show W p l e R s m args below meth c H locs cu su Q (F0 m pc' ls (zcv ad b ρ o :: r.map (zcv ad b ρ)))
                    rw [z_cv2 hc.1]
                    have hwr := Nat.le_of_ble_eq_true hc.2
                    have hcat := z_wd2_cat (ad := ad) (b := b) (ρ := ρ) r
                    refine W.objInit hx hb hown (hts _ v1) (hts _ v2) (hts _ v3) rfl (by rw [hml]; exact hg.2.1.1) rfl hd (Nat.le_trans hfr1 hfr) (by show 2 * 0 + ((r.map (zcv ad b ρ)).map fun v => v.category).sum + 12 ≤ R.locals; omega) ?_
                    exact ih fr lo M (pc' + 3) nxt (cu, su, iv, lv, r, ov) outs h hM hcn p e R s m args below meth c Q hC hfr hlo ρ ad ws H locs ls (hg.mv (fun _ _ => rfl) (Nat.le_refl _) hg.1.1 (fun w hw => hg.1.2.2.1 w (List.mem_cons_of_mem _ hw))) hdue
                  next => cases h
                next => cases h
              next hn3 hn4 =>
                split at h
                next M' hmt =>
                  unfold zxM at h
                  split at h
                  next as rest hpre =>
                    split at h
                    next hcond =>
                      rw [Bool.and_eq_true, Bool.and_eq_true, Bool.and_eq_true, Bool.and_eq_true] at hcond
                      obtain ⟨⟨⟨⟨c1, c2⟩, c3⟩, c4⟩, c5⟩ := hcond
                      have c1 := Nat.le_of_ble_eq_true c1
                      have c2 := Nat.le_of_ble_eq_true c2
                      have c3 := Nat.le_of_ble_eq_true c3
                      have c4 := Nat.le_of_ble_eq_true c4
                      have c5 := Nat.le_of_ble_eq_true c5
                      split at h
                      next => cases h
                      next outs' hrun =>
                        obtain ⟨hM', hpl', hcode'⟩ := hAll.2.1 mi M' hmt
                        have hknd : knd ≤ 2 := by
                          unfold z_pre at hpre
                          split at hpre
                          · cases hpre
                          · split at hpre
                            · omega
                            · omega
                            · omega
                            · cases hpre
                        obtain ⟨u1, u2, u3, u4, u5, u6, u7⟩ := w02 hknd M' hmt
                        -- the values of the call
                        have hass : (∀ v ∈ as, v ∈ sk) ∧ ∀ w ∈ rest, w ∈ sk := by
                          unfold z_pre at hpre
                          split at hpre
                          · cases hpre
                          · split at hpre
                            · cases hpre
                              exact ⟨fun v hv => List.mem_of_mem_take (List.mem_reverse.mp hv), fun w hw => List.mem_of_mem_drop hw⟩
                            · split at hpre
                              next o r hdr =>
                                split at hpre
                                · split at hpre
                                  · split at hpre
                                    · cases hpre
                                      refine ⟨fun v hv => ?_, fun w hw => List.mem_of_mem_drop (by rw [hdr]; exact List.mem_cons_of_mem _ hw)⟩
                                      rcases List.mem_cons.mp hv with q | q
                                      · subst q; exact List.mem_of_mem_drop (by rw [hdr]; exact List.mem_cons_self)
                                      · exact List.mem_of_mem_take (List.mem_reverse.mp q)
                                    · cases hpre
                                  · cases hpre
                                · cases hpre
                              next => cases hpre
                            · split at hpre
                              next o r hdr =>
                                split at hpre
                                · cases hpre
                                  refine ⟨fun v hv => ?_, fun w hw => List.mem_of_mem_drop (by rw [hdr]; exact List.mem_cons_of_mem _ hw)⟩
                                  rcases List.mem_cons.mp hv with q | q
                                  · subst q; exact List.mem_of_mem_drop (by rw [hdr]; exact List.mem_cons_self)
                                  · exact List.mem_of_mem_take (List.mem_reverse.mp q)
                                · cases hpre
                              next => cases hpre
                            · cases hpre
                        have hMet := z_met hAll hbA hsl hM' hpl' hrun ih hg.1.1 (fun v hv => hg.1.2.2.1 v (hass.1 v hv)) hg.1.2.2.2 hg.2.2.1 hg.2.2.2.2.1 hg.2.2.2.2.2.2.1 hg.2.2.2.2.2.2.2 c1
                        have hGood : GoodIn Ts (Jvm.Cond.code M'.1 M'.2.1 M'.2.2.1 M'.2.2.2.1 :: Ts) := fun w hw => by
                          rcases List.mem_cons.mp hw with q | q
                          · subst q; exact ⟨hcode', hAll.2.2.2 _ hcode'⟩
                          · exact ⟨q, hAll.2.2.2 _ q⟩
                        have hCB : CallB R s args M.1.cls idx M'.1 M'.2.1 M'.2.2.1 M'.2.2.2.1 (Jvm.Cond.code M'.1 M'.2.1 M'.2.2.1 M'.2.2.2.1 :: Ts) { frames := fr - 1, cells := M'.2.2.2.2.2.1, slots := M'.2.2.2.2.2.2.1, locals := lo - (8 + (M'.2.2.1 + 11)) } M'.2.2.2.2.2.1 M'.2.2.2.2.2.2.1 na :=
                          callB_of na hts hGood rfl rfl rfl (hts _ u2) (hts _ u1) ⟨u3.1, u3.2, u4⟩ ⟨by show fr - 1 + 1 ≤ R.frames; omega, by show 8 + (M'.2.2.1 + 11) + (lo - (8 + (M'.2.2.1 + 11))) ≤ R.locals; omega⟩
                        have hPcU : ∀ U : State, U.heap = H → s.WarmedH U.vm → zPc T D A tys b sl xs as ρ ad ws (as.map (zcv ad b ρ)).toArray U := fun U hU hW => ⟨rfl, va_K.moved hW.alike hK, by rw [hU]; exact hg.2.2.2.1, ⟨va_X.moved hW.alike (by rw [hU]; exact hX.1.kept (hg.2.2.2.2.2.1.2.1 b hbl hbA)), hX.2.moved hW.alike⟩, by rw [hU]; exact Nat.lt_of_lt_of_le hbl hg.2.2.2.2.2.1.1, fun q hq => hA q (by rw [hU] at hq; exact Nat.le_trans hg.2.2.2.2.2.1.1 hq)⟩
                        have hrest : 2 * (F0 m pc' ls (sk.map (zcv ad b ρ))).monitorRoom + ((rest.map (zcv ad b ρ)).map fun v => v.category).sum ≤ 8 := lv_room (by rw [z_wd2_cat]; exact c2)
                        have hfit : cu + M'.2.2.2.2.2.1 ≤ R.cells ∧ su + M'.2.2.2.2.2.2.1 ≤ R.slots := ⟨by omega, by omega⟩
                        have hfix : CallFix p m c M.2.1 M.2.2.1 s args Ts M.1.cls := ⟨hx, hb, hml, hown, hts⟩
                        show W p l e R s m args below meth c H locs cu su Q (F0 m pc' ls (sk.map (zcv ad b ρ)))
                        unfold z_pre at hpre
                        split at hpre
                        next => cases hpre
                        next hna =>
                          have hna := z_len hna
                          have htl : ((sk.take na).reverse.map (zcv ad b ρ)).length = na := by rw [List.length_map, List.length_reverse, List.length_take]; omega
                          split at hpre
                          next =>
                            -- static
                            cases hpre
                            have hi5 : i = .invokestatic idx := k3 (Nat.eq_of_beq_eq_true b2)
                            subst hi5
                            exact z_back ih hM hcn hC hfr hlo hg hass.2 h hdue (W.runS hfix hMet ⟨hCB, hts _ (u6 rfl)⟩ ⟨z_blind, hPcU⟩ rfl htl hg.2.1.1 z_split hrest hd hfit)
                          next =>
                            -- virtual
                            have hi4 : i = .invokevirtual idx := k2 (Nat.eq_of_beq_eq_true b2)
                            subst hi4
                            split at hpre
                            next o r hdr =>
                              split at hpre
                              next ho2 =>
                                split at hpre
                                next g hgp =>
                                  split at hpre
                                  next hgc =>
                                    cases hpre
                                    have hoo : o.2.1 < ov.length := by
                                      have := hg.1.2.2.1 o (hass.1 o List.mem_cons_self)
                                      unfold zok at this; rw [ho2] at this; exact this
                                    obtain ⟨e0, hq, he⟩ := z_wd_at hg.2.2.1 hoo hgp
                                    unfold z_en at he
                                    rw [hgc.1] at he
                                    obtain ⟨fs, rfl, -, -⟩ := he
                                    obtain ⟨C2, T2, N2, hcl2, -, -⟩ := hAll.1.2.1 _ g hgp hgc.1
                                    have hNC := (hAll.1.1 _ C2 T2 N2 hcl2).1
                                    rw [hgc.2, hM'.1] at hNC
                                    have hCe : M'.1.cls = C2 := Option.some.inj hNC
                                    have hrecv := va_recv hK hg.2.2.2.1 hcl2 hq
                                    have estk : sk.map (zcv ad b ρ) = ((sk.take na).reverse.map (zcv ad b ρ)).reverse ++ .ref (ad o.2.1) :: rest.map (zcv ad b ρ) := by
                                      rw [z_split (na := na), hdr, List.map_cons, z_cv2 ho2]
                                    have hPv : ∀ U : State, U.heap = H → s.WarmedH U.vm → zPc T D A tys b sl xs (o :: (sk.take na).reverse) ρ ad ws (Value.ref (ad o.2.1) :: (sk.take na).reverse.map (zcv ad b ρ)).toArray U := fun U hU hW => by
                                      have := hPcU U hU hW
                                      rw [List.map_cons, z_cv2 ho2] at this
                                      exact this
                                    exact z_back ih hM hcn hC hfr hlo hg hass.2 h hdue (W.runV hfix hMet ⟨hCB, hts _ (u5 rfl).1, hts _ (u5 rfl).2⟩ ⟨z_blind, by rw [hCe]; exact hrecv, hPv⟩ rfl htl hg.2.1.1 estk hrest hd hfit)
                                  next => cases hpre
                                next => cases hpre
                              next => cases hpre
                            next => cases hpre
                          next =>
                            -- makers
                            have hi6 : i = .invokespecial idx := k4 (Nat.eq_of_beq_eq_true b2)
                            subst hi6
                            split at hpre
                            next o r hdr =>
                              split at hpre
                              next ho2 =>
                                cases hpre
                                obtain ⟨y1, y2, y3⟩ := u7 rfl
                                have estk : sk.map (zcv ad b ρ) = ((sk.take na).reverse.map (zcv ad b ρ)).reverse ++ .ref (ad o.2.1) :: rest.map (zcv ad b ρ) := by
                                  rw [z_split (na := na), hdr, List.map_cons, z_cv2 ho2]
                                have hPv : ∀ U : State, U.heap = H → s.WarmedH U.vm → zPc T D A tys b sl xs (o :: (sk.take na).reverse) ρ ad ws (Value.ref (ad o.2.1) :: (sk.take na).reverse.map (zcv ad b ρ)).toArray U := fun U hU hW => by
                                  have := hPcU U hU hW
                                  rw [List.map_cons, z_cv2 ho2] at this
                                  exact this
                                rw [y3] at hCB hMet
                                exact z_back ih hM hcn hC hfr hlo hg hass.2 h hdue (W.runI hfix hMet ⟨hCB, y1, hts _ y2⟩ ⟨z_blind, hPv⟩ rfl htl hg.2.1.1 estk hrest hd hfit)
                              next => cases hpre
                            next => cases hpre
                          next => cases hpre
                    next => cases h
                  next => cases h
                next => cases h
            next => cases h
          next => cases h
    next => cases h
end ZMAIN2
end
section
/-! ===== the tables are held against the statement's words, by the kernel ===== -/
def zwl (k : Nat) : List Jvm.Cond := match k with
  | 0 => k2_sels lw_privs
  | 1 => tables_1_1
  | 2 => tables_1_2
  | 3 => tables_1_3
  | 4 => tables_1_4
  | 5 => tables_1_5
  | 6 => tables_1_6
  | 7 => tables_1_7
  | 8 => tables_1_8
  | 9 => tables_1_9
  | _ => []
theorem zwl_in {k : Nat} {w : Jvm.Cond} (h : w ∈ zwl k) : w ∈ lw_tbl := by
  unfold lw_tbl tables_1
  unfold zwl at h
  simp only [List.mem_append]
  split at h
  · exact Or.inl h
  · exact Or.inr (Or.inl h)
  · exact Or.inr (Or.inr (Or.inl h))
  · exact Or.inr (Or.inr (Or.inr (Or.inl h)))
  · exact Or.inr (Or.inr (Or.inr (Or.inr (Or.inl h))))
  · exact Or.inr (Or.inr (Or.inr (Or.inr (Or.inr (Or.inl h)))))
  · exact Or.inr (Or.inr (Or.inr (Or.inr (Or.inr (Or.inr (Or.inl h))))))
  · exact Or.inr (Or.inr (Or.inr (Or.inr (Or.inr (Or.inr (Or.inr (Or.inl h)))))))
  · exact Or.inr (Or.inr (Or.inr (Or.inr (Or.inr (Or.inr (Or.inr (Or.inr (Or.inl h))))))))
  · exact Or.inr (Or.inr (Or.inr (Or.inr (Or.inr (Or.inr (Or.inr (Or.inr (Or.inr h))))))))
  · cases h
def zTs : List Jvm.Cond := lw_tbl.filter goodWord
theorem zTs_good : ∀ w ∈ zTs, (w.onTables && w.keeps) = true ∨ ∃ ty, w = .arrayClass ty := fun w h => good_of_word (List.mem_filter.mp h).2
def zck (q : Nat × Nat) (w : Jvm.Cond) : Bool := decide ((zwl q.1)[q.2]? = some w) && goodWord w
theorem zck_ok {q : Nat × Nat} {w : Jvm.Cond} (h : zck q w = true) : w ∈ zTs := by
  unfold zck at h
  rw [Bool.and_eq_true] at h
  exact List.mem_filter.mpr ⟨zwl_in (List.mem_of_getElem? (of_decide_eq_true h.1)), h.2⟩
def zckl (q : List (Nat × Nat)) (ws : List Jvm.Cond) : Bool := match q, ws with
  | [], [] => true
  | a :: r, w :: t => zck a w && zckl r t
  | _, _ => false
theorem zckl_ok : ∀ (q : List (Nat × Nat)) (ws : List Jvm.Cond), zckl q ws = true → ∀ w ∈ ws, w ∈ zTs
  | _, [], _, w, h => by cases h
  | [], _ :: _, h, _, _ => by cases h
  | a :: r, w' :: t, h, w, hw => by
    unfold zckl at h
    rw [Bool.and_eq_true] at h
    rcases List.mem_cons.mp hw with q | q
    · subst q; exact zck_ok h.1
    · exact zckl_ok r t h.2 w q
/-- one row of a table -/
def zckr {α : Type} (words : String → α → Option (List Jvm.Cond)) (own : String) (L : List α) (I : List (List (Nat × Nat))) : Bool := match L, I with
  | [], _ => true
  | a :: r, i :: t => (match words own a with
    | some ws => zckl i ws
    | none => false) && zckr words own r t
  | _ :: _, [] => false
theorem zckr_ok {α : Type} {words : String → α → Option (List Jvm.Cond)} {own : String} : ∀ (L : List α) (I : List (List (Nat × Nat))), zckr words own L I = true → ∀ a ∈ L, ∃ ws, words own a = some ws ∧ ∀ w ∈ ws, w ∈ zTs
  | [], _, _, a, h => by cases h
  | _ :: _, [], h, _, _ => by cases h
  | a' :: r, i :: t, h, a, ha => by
    unfold zckr at h
    rw [Bool.and_eq_true] at h
    rcases List.mem_cons.mp ha with q | q
    · subst q
      have h1 := h.1
      split at h1
      next ws hws => exact ⟨ws, hws, zckl_ok i ws h1⟩
      next => cases h1
    · exact zckr_ok r t h.2 a q
def zckt {α : Type} (words : String → α → Option (List Jvm.Cond)) (zN : List String) (L : List (List α)) (I : List (List (List (Nat × Nat)))) : Bool := match zN, L, I with
  | _, [], _ => true
  | n :: zN', a :: r, i :: t => zckr words n a i && zckt words zN' r t
  | _, _, _ => false
theorem zckt_ok {α : Type} {words : String → α → Option (List Jvm.Cond)} : ∀ (zN : List String) (L : List (List α)) (I : List (List (List (Nat × Nat)))), zckt words zN L I = true → ∀ (cn : Nat) (q : List α) (own : String), L[cn]? = some q → zN[cn]? = some own → ∀ a ∈ q, ∃ ws, words own a = some ws ∧ ∀ w ∈ ws, w ∈ zTs
  | _, [], _, _, cn, q, own, hq, _, _, _ => by cases hq
  | [], _ :: _, _, h, _, _, _, _, _, _, _ => by unfold zckt at h; cases h
  | _ :: _, _ :: _, [], h, _, _, _, _, _, _, _ => by unfold zckt at h; cases h
  | n :: zN', a' :: r, i :: t, h, cn, q, own, hq, hn, a, ha => by
    unfold zckt at h
    rw [Bool.and_eq_true] at h
    match cn, hq, hn with
    | 0, hq, hn => cases hq; cases hn; exact zckr_ok _ _ h.1 a ha
    | cn + 1, hq, hn => exact zckt_ok zN' r t h.2 cn q own hq hn a ha
theorem z_as_mem {q : List (Nat × Nat × Nat)} {k a b : Nat} (h : z_as q k = some (a, b)) : (k, a, b) ∈ q := by
  induction q with
  | nil => cases h
  | cons e r ih =>
    obtain ⟨i, x, y⟩ := e
    unfold z_as at h
    split at h
    next hb => cases h; rw [Nat.eq_of_beq_eq_true hb]; exact List.mem_cons_self
    next => exact List.mem_cons_of_mem _ (ih h)
theorem z_fl_mem {FL : List (List (Nat × Nat × Nat))} {cn idx a b : Nat} (h : z_fl FL cn idx = some (a, b)) : ∃ q, FL[cn]? = some q ∧ (idx, a, b) ∈ q := by
  unfold z_fl at h
  split at h
  next q hq => exact ⟨q, hq, z_as_mem h⟩
  next => cases h
theorem z_ka_mem {q : List (Nat × Int)} {k : Nat} {v : Int} (h : z_ka q k = some v) : (k, v) ∈ q := by
  induction q with
  | nil => cases h
  | cons e r ih =>
    obtain ⟨i, x⟩ := e
    unfold z_ka at h
    split at h
    next hb => cases h; rw [Nat.eq_of_beq_eq_true hb]; exact List.mem_cons_self
    next => exact List.mem_cons_of_mem _ (ih h)
theorem z_kt_mem {KT : List (List (Nat × Int))} {cn idx : Nat} {v : Int} (h : z_kt KT cn idx = some v) : ∃ q, KT[cn]? = some q ∧ (idx, v) ∈ q := by
  unfold z_kt at h
  split at h
  next q hq => exact ⟨q, hq, z_ka_mem h⟩
  next => cases h
theorem z_ca4_mem {q : List (Nat × Nat × Nat × Nat)} {k : Nat} {a : Nat × Nat × Nat} (h : z_ca4 q k = some a) : (k, a) ∈ q := by
  induction q with
  | nil => cases h
  | cons e r ih =>
    obtain ⟨i, x⟩ := e
    unfold z_ca4 at h
    split at h
    next hb => cases h; rw [Nat.eq_of_beq_eq_true hb]; exact List.mem_cons_self
    next => exact List.mem_cons_of_mem _ (ih h)
theorem z_ct_mem {CT : List (List (Nat × Nat × Nat × Nat))} {cn idx : Nat} {a : Nat × Nat × Nat} (h : z_ct CT cn idx = some a) : ∃ q, CT[cn]? = some q ∧ (idx, a) ∈ q := by
  unfold z_ct at h
  split at h
  next q hq => exact ⟨q, hq, z_ca4_mem h⟩
  next => cases h
/-! the tables' words -/
def zwFL (cl : List vw_C) (own : String) (e : Nat × Nat × Nat) : Option (List Jvm.Cond) := match cl[e.2.1]? with
  | some (_, T, N) => if e.2.2 < N then some [.fieldLink own e.1 (T e.2.2).1 (T e.2.2).2.1 (T e.2.2).2.2.1] else none
  | none => none
theorem zFL_ok {cl : List vw_C} {zN : List String} {FL : List (List (Nat × Nat × Nat))} {I : List (List (List (Nat × Nat)))} (h : zckt (zwFL cl) zN FL I = true) : zFLOk cl zN FL zTs := by
  intro cn idx ci f own hf hn
  obtain ⟨q, hq, hm⟩ := z_fl_mem hf
  obtain ⟨ws, h1, h2⟩ := zckt_ok zN FL I h cn q own hq hn _ hm
  unfold zwFL at h1
  split at h1
  next C T N hcl =>
    split at h1
    next hlt => cases h1; exact ⟨C, T, N, hcl, hlt, h2 _ List.mem_cons_self⟩
    next => cases h1
  next => cases h1
def zwNW (cl : List vw_C) (own : String) (e : Nat × Nat × Nat) : Option (List Jvm.Cond) := match cl[e.2.1]? with
  | some (C, _, N) => if N = e.2.2 then some [.classLink own e.1 C, .instantiable C e.2.2, .initialized C] else none
  | none => none
theorem zNW_ok {cl : List vw_C} {zN : List String} {NW : List (List (Nat × Nat × Nat))} {I : List (List (List (Nat × Nat)))} (h : zckt (zwNW cl) zN NW I = true) : zNWOk cl zN NW zTs := by
  intro cn idx ci n own hf hn
  obtain ⟨q, hq, hm⟩ := z_fl_mem hf
  obtain ⟨ws, h1, h2⟩ := zckt_ok zN NW I h cn q own hq hn _ hm
  unfold zwNW at h1
  split at h1
  next C T N hcl =>
    split at h1
    next hlt =>
      cases h1
      refine ⟨C, T, ?_, h2 _ List.mem_cons_self, h2 _ (List.mem_cons_of_mem _ List.mem_cons_self), h2 _ (List.mem_cons_of_mem _ (List.mem_cons_of_mem _ List.mem_cons_self))⟩
      dsimp only at hcl hlt
      rw [← hlt]; exact hcl
    next => cases h1
  next => cases h1
def zwAN (tyl : List FieldType) (own : String) (e : Nat × Nat × Nat) : Option (List Jvm.Cond) := match tyl[e.2.1 - 1]? with
  | some (.object C) => if 5 ≤ e.2.1 then some [.classLink own e.1 C] else none
  | _ => none
theorem zAN_ok {tyl : List FieldType} {zN : List String} {AN : List (List (Nat × Nat × Nat))} {I : List (List (List (Nat × Nat)))} (h : zckt (zwAN tyl) zN AN I = true) : zANOk zN tyl AN zTs := by
  intro cn idx tag n own hf hn
  obtain ⟨q, hq, hm⟩ := z_fl_mem hf
  obtain ⟨ws, h1, h2⟩ := zckt_ok zN AN I h cn q own hq hn _ hm
  unfold zwAN at h1
  split at h1
  next C hcl =>
    split at h1
    next hlt => cases h1; exact ⟨hlt, C, hcl, h2 _ List.mem_cons_self⟩
    next => cases h1
  next => cases h1
def zwMN (tyl : List FieldType) (own : String) (e : Nat × Nat × Nat) : Option (List Jvm.Cond) := if 5 ≤ e.2.1 then (match e.2.2 with
  | 1 => if tyl[e.2.1 - 1]? = some (.array .int) then some [.classLink own e.1 ("[" ++ (FieldType.array .int).toString), .arrayClass .int] else none
  | 2 => if tyl[e.2.1 - 1]? = some (.array .long) then some [.classLink own e.1 ("[" ++ (FieldType.array .long).toString), .arrayClass .long] else none
  | _ => none) else none
theorem zMN_ok {tyl : List FieldType} {zN : List String} {MN : List (List (Nat × Nat × Nat))} {I : List (List (List (Nat × Nat)))} (h : zckt (zwMN tyl) zN MN I = true) : zMNOk zN tyl MN zTs := by
  intro cn idx tO tI own hf hn
  obtain ⟨q, hq, hm⟩ := z_fl_mem hf
  obtain ⟨ws, h1, h2⟩ := zckt_ok zN MN I h cn q own hq hn _ hm
  unfold zwMN at h1
  split at h1
  next h5 =>
    refine ⟨h5, ?_⟩
    split at h1
    next e1 =>
      split at h1
      next hlt => cases h1; exact Or.inl ⟨e1, hlt, h2 _ List.mem_cons_self, h2 _ (List.mem_cons_of_mem _ List.mem_cons_self)⟩
      next => cases h1
    next e1 =>
      split at h1
      next hlt => cases h1; exact Or.inr ⟨e1, hlt, h2 _ List.mem_cons_self, h2 _ (List.mem_cons_of_mem _ List.mem_cons_self)⟩
      next => cases h1
    next => cases h1
  next => cases h1
def zwKI (own : String) (e : Nat × Int) : Option (List Jvm.Cond) := some [.constant own e.1 (Int32.ofInt e.2)]
def zwKL (own : String) (e : Nat × Int) : Option (List Jvm.Cond) := some [.constantLong own e.1 (Int64.ofInt e.2)]
theorem zKI_ok {zN : List String} {KT : List (List (Nat × Int))} {I : List (List (List (Nat × Nat)))} (h : zckt zwKI zN KT I = true) : zKIOk zN KT zTs := by
  intro cn idx v own hf hn
  obtain ⟨q, hq, hm⟩ := z_kt_mem hf
  obtain ⟨ws, h1, h2⟩ := zckt_ok zN KT I h cn q own hq hn _ hm
  cases h1
  exact h2 _ List.mem_cons_self
theorem zKL_ok {zN : List String} {KT : List (List (Nat × Int))} {I : List (List (List (Nat × Nat)))} (h : zckt zwKL zN KT I = true) : zKLOk zN KT zTs := by
  intro cn idx v own hf hn
  obtain ⟨q, hq, hm⟩ := z_kt_mem hf
  obtain ⟨ws, h1, h2⟩ := zckt_ok zN KT I h cn q own hq hn _ hm
  cases h1
  exact h2 _ List.mem_cons_self
/-! calls -/
def zwC2 (k : Nat) (own : String) (i na : Nat) (M : zM) : Option (List Jvm.Cond) := if M.1.cls ≠ "java/lang/invoke/MethodHandle" ∧ M.1.cls ≠ "java/lang/invoke/VarHandle" ∧ (parseMethodDescriptor M.1.desc).map (fun d => d.parameters.length) = some na then (match k with
  | 0 => some [.methodLink own i M.1, .initialized M.1.cls, .instanceMethod M.1, .selects M.1.cls M.1 M.1]
  | 1 => some [.methodLink own i M.1, .initialized M.1.cls, .static M.1]
  | 2 => if M.1.name = "<init>" ∧ M.2.2.2.1 = none then some [.methodLink own i M.1, .initialized M.1.cls, .instanceMethod M.1] else none
  | _ => none) else none
def zwCT (MT : List zM) (own : String) (e : Nat × Nat × Nat × Nat) : Option (List Jvm.Cond) := if e.2.1 = 3 then some [.methodLink own e.1 arraycopyName, .native arraycopyName, .static arraycopyName, .initialized "java/lang/System"] else if e.2.1 = 4 then some [.methodLink own e.1 objectInit, .instanceMethod objectInit, .code objectInit ⟨#[0xb1]⟩ 1 none] else (match MT[e.2.2.1]? with
  | some M => zwC2 e.2.1 own e.1 e.2.2.2 M
  | none => none)
theorem zCT_ok {MT : List zM} {zN : List String} {CT : List (List (Nat × Nat × Nat × Nat))} {I : List (List (List (Nat × Nat)))} (h : zckt (zwCT MT) zN CT I = true) : zCTOk zN zTs MT CT := by
  intro cn idx knd mi na own hf hn
  obtain ⟨q, hq, hm⟩ := z_ct_mem hf
  obtain ⟨ws, h1, h2⟩ := zckt_ok zN CT I h cn q own hq hn _ hm
  refine ⟨fun e => ?_, fun e => ?_, fun e M hM => ?_⟩
  · subst e
    unfold zwCT at h1
    rw [if_pos rfl] at h1
    cases h1
    exact ⟨h2 _ List.mem_cons_self, h2 _ (List.mem_cons_of_mem _ List.mem_cons_self), h2 _ (List.mem_cons_of_mem _ (List.mem_cons_of_mem _ List.mem_cons_self)), h2 _ (List.mem_cons_of_mem _ (List.mem_cons_of_mem _ (List.mem_cons_of_mem _ List.mem_cons_self)))⟩
  · subst e
    unfold zwCT at h1
    rw [if_neg (by show ¬ (4:Nat) = 3; decide), if_pos rfl] at h1
    cases h1
    exact ⟨h2 _ List.mem_cons_self, h2 _ (List.mem_cons_of_mem _ List.mem_cons_self), h2 _ (List.mem_cons_of_mem _ (List.mem_cons_of_mem _ List.mem_cons_self))⟩
  · unfold zwCT at h1
    rw [if_neg (by show ¬ knd = 3; omega), if_neg (by show ¬ knd = 4; omega)] at h1
    dsimp only at h1
    rw [hM] at h1
    dsimp only at h1
    have main : ∃ rest, (M.1.cls ≠ "java/lang/invoke/MethodHandle" ∧ M.1.cls ≠ "java/lang/invoke/VarHandle" ∧ (parseMethodDescriptor M.1.desc).map (fun d => d.parameters.length) = some na) ∧ ws = .methodLink own idx M.1 :: .initialized M.1.cls :: rest ∧ (knd = 0 → rest = [.instanceMethod M.1, .selects M.1.cls M.1 M.1]) ∧ (knd = 1 → rest = [.static M.1]) ∧ (knd = 2 → rest = [.instanceMethod M.1] ∧ M.1.name = "<init>" ∧ M.2.2.2.1 = none) := by
      unfold zwC2 at h1
      split at h1
      next hc =>
        split at h1
        next => cases h1; exact ⟨_, hc, rfl, fun _ => rfl, fun h => by omega, fun h => by omega⟩
        next => cases h1; exact ⟨_, hc, rfl, fun h => by omega, fun _ => rfl, fun h => by omega⟩
        next =>
          split at h1
          next hc2 => cases h1; exact ⟨_, hc, rfl, fun h => by omega, fun h => by omega, fun _ => ⟨rfl, hc2⟩⟩
          next => cases h1
        next => cases h1
      next => cases h1
    obtain ⟨rest, hc, rfl, r0, r1, r2⟩ := main
    refine ⟨h2 _ List.mem_cons_self, h2 _ (List.mem_cons_of_mem _ List.mem_cons_self), ⟨hc.1, hc.2.1⟩, hc.2.2, fun k0 => ?_, fun k1 => ?_, fun k2 => ?_⟩
    · rw [r0 k0] at h2; exact ⟨h2 _ (List.mem_cons_of_mem _ (List.mem_cons_of_mem _ List.mem_cons_self)), h2 _ (List.mem_cons_of_mem _ (List.mem_cons_of_mem _ (List.mem_cons_of_mem _ List.mem_cons_self)))⟩
    · rw [r1 k1] at h2; exact h2 _ (List.mem_cons_of_mem _ (List.mem_cons_of_mem _ List.mem_cons_self))
    · rw [(r2 k2).1] at h2; exact ⟨(r2 k2).2.1, h2 _ (List.mem_cons_of_mem _ (List.mem_cons_of_mem _ List.mem_cons_self)), (r2 k2).2.2⟩
/-! methods -/
def zckd (c : ByteArray) (pr : List zP) : Bool := pr.all (fun e => decide (decode c e.1 = .ok (zdec e.2.1, e.2.2)))
theorem zckd_ok {c : ByteArray} {pr : List zP} (h : zckd c pr = true) : ∀ e ∈ pr, decode c e.1 = .ok (zdec e.2.1, e.2.2) := fun e he => of_decide_eq_true (List.all_eq_true.mp h e he)
theorem zckd_app {c : ByteArray} {a b : List zP} (ha : zckd c a = true) (hb : zckd c b = true) : zckd c (a ++ b) = true := by
  unfold zckd at ha hb ⊢
  rw [List.all_append, ha, hb]; rfl
def zckm (zN : List String) (q : (Nat × Nat) × zM) : Bool := decide (zN[q.2.2.2.2.2.2.2.2.1]? = some q.2.1.cls) && plainName q.2.1.cls && zck q.1 (.code q.2.1 q.2.2.1 q.2.2.2.1 q.2.2.2.2.1) && (!q.2.2.2.2.2.2.2.2.2 || decide (q.2.1.name = "<init>"))
theorem zckm_ok {zN : List String} {q : (Nat × Nat) × zM} (h : zckm zN q = true) (hd : zckd q.2.2.1 q.2.2.2.2.2.1 = true) : zMOk zN zTs q.2 ∧ plainName q.2.1.cls = true ∧ Jvm.Cond.code q.2.1 q.2.2.1 q.2.2.2.1 q.2.2.2.2.1 ∈ zTs := by
  unfold zckm at h
  rw [Bool.and_eq_true, Bool.and_eq_true, Bool.and_eq_true] at h
  obtain ⟨⟨⟨h1, h2⟩, h4⟩, h5⟩ := h
  refine ⟨⟨of_decide_eq_true h1, zckd_ok hd, fun hi => ?_⟩, h2, zck_ok h4⟩
  rw [hi] at h5
  exact of_decide_eq_true h5
theorem zMT_ok {zN : List String} {MTi : List ((Nat × Nat) × zM)} (h : MTi.all (zckm zN) = true) (hd : ∀ M ∈ MTi.map Prod.snd, zckd M.2.1 M.2.2.2.2.1 = true) : zMTOk zN zTs (MTi.map Prod.snd) := by
  intro mi M hM
  have hm := List.mem_of_getElem? hM
  rw [List.getElem?_map] at hM
  obtain ⟨q, hq, rfl⟩ := Option.map_eq_some_iff.mp hM
  exact zckm_ok (List.all_eq_true.mp h q (List.mem_of_getElem? hq)) (hd _ hm)
/-! the kinds of cells -/
def zckk (zN : List String) (ci : Nat) (r : vw_C) (ly : List (Nat × Nat)) : Bool := decide (zN[ci]? = some r.1) && (List.range r.2.2).all (fun k => (match ly[k]? with
    | some q => zck q (u_lay r.1 r.2.1 k)
    | none => false) && ((parseFieldDescriptor (r.2.1 k).2.2.1).isSome && (decide ((r.2.1 k).1 = r.1) && (List.range r.2.2).all (fun k2 => Nat.beq k k2 || decide ((r.2.1 k).2.1 ≠ (r.2.1 k2).2.1)))))
theorem zckk_ok {zN : List String} {ci : Nat} {C : String} {T : u_T} {N : Nat} {ly : List (Nat × Nat)} (h : zckk zN ci (C, T, N) ly = true) : zN[ci]? = some C ∧ (∀ w ∈ u_ws C T N, w ∈ zTs) ∧ (∃ ty0 : Nat → FieldType, ∀ k, k < N → parseFieldDescriptor (T k).2.2.1 = some (ty0 k)) ∧ (∀ a, a < N → ∀ b, b < N → a ≠ b → (T a).2.1 ≠ (T b).2.1) ∧ ∀ k, k < N → (T k).1 = C := by
  unfold zckk at h
  rw [Bool.and_eq_true] at h
  obtain ⟨h1, h2⟩ := h
  have hk : ∀ k, k < N → _ := fun k hk => List.all_eq_true.mp h2 k (List.mem_range.mpr hk)
  refine ⟨of_decide_eq_true h1, fun w hw => ?_, ⟨fun k => (parseFieldDescriptor (T k).2.2.1).getD .int, fun k hkN => ?_⟩, fun a ha b hb hab => ?_, fun k hkN => ?_⟩
  · unfold u_ws at hw
    obtain ⟨k, hkr, rfl⟩ := List.mem_map.mp hw
    have h3 := hk k (List.mem_range.mp hkr)
    rw [Bool.and_eq_true] at h3
    have h4 := h3.1
    split at h4
    next q hq => exact zck_ok h4
    next => cases h4
  · have h3 := hk k hkN
    rw [Bool.and_eq_true, Bool.and_eq_true] at h3
    have h4 := h3.2.1
    dsimp only at h4 ⊢
    cases hp : parseFieldDescriptor (T k).2.2.1 with
    | none => rw [hp] at h4; cases h4
    | some t => rfl
  · have h3 := hk a ha
    rw [Bool.and_eq_true, Bool.and_eq_true, Bool.and_eq_true] at h3
    have h4 := List.all_eq_true.mp h3.2.2.2 b (List.mem_range.mpr hb)
    rcases Bool.or_eq_true _ _ ▸ h4 with q | q
    · exact absurd (Nat.eq_of_beq_eq_true q) hab
    · exact of_decide_eq_true q
  · have h3 := hk k hkN
    rw [Bool.and_eq_true, Bool.and_eq_true, Bool.and_eq_true] at h3
    exact of_decide_eq_true h3.2.2.1
def zckc (zN : List String) (cl : List vw_C) (LY : List (List (Nat × Nat))) : Bool := (List.range cl.length).all (fun ci => match cl[ci]?, LY[ci]? with
  | some r, some ly => zckk zN ci r ly
  | _, _ => false)
theorem zCls_ok {zN : List String} {cl : List vw_C} {LY : List (List (Nat × Nat))} (h : zckc zN cl LY = true) : zClsOk cl zN zTs := by
  intro ci C T N hcl
  have hlt : ci < cl.length := (List.getElem?_eq_some_iff.mp hcl).1
  have h1 := List.all_eq_true.mp h ci (List.mem_range.mpr hlt)
  rw [hcl] at h1
  split at h1
  next r ly hr hly => cases hr; exact zckk_ok h1
  next => cases h1
def zckg (cl : List vw_C) (G : List zC) : Bool := G.all (fun g => if g.1 = 0 then (match cl[g.2.1]? with
  | some r => Nat.beq g.2.2.length r.2.2 && (List.range g.2.2.length).all (fun f => match g.2.2[f]?, parseFieldDescriptor (r.2.1 f).2.2.1 with
    | some sp, some ty => Nat.beq (z_tyk ty) sp.1
    | _, _ => false)
  | none => false) else true)
theorem zG_ok {cl : List vw_C} {G : List zC} (h : zckg cl G = true) : zGOk cl G := by
  intro p g hg h0
  have h1 := List.all_eq_true.mp h g (List.mem_of_getElem? hg)
  rw [if_pos h0] at h1
  split at h1
  next r hr =>
    obtain ⟨C, T, N⟩ := r
    rw [Bool.and_eq_true] at h1
    refine ⟨C, T, N, hr, Nat.eq_of_beq_eq_true h1.1, fun f sp hsp => ?_⟩
    have hf : f < g.2.2.length := (List.getElem?_eq_some_iff.mp hsp).1
    have h2 := List.all_eq_true.mp h1.2 f (List.mem_range.mpr hf)
    rw [hsp] at h2
    dsimp only at h2
    split at h2
    next sp' ty hs hty => cases hs; exact ⟨ty, hty, Nat.eq_of_beq_eq_true h2⟩
    next => cases h2
  next => cases h1
end
section
/-! ===== the tables of this program, and their places among the words ===== -/
def zN : List String := ["WindSigned$Acts", "WindSigned$Calendar", "WindSigned$Guesses", "WindSigned$Plain", "WindSigned$Setting", "WindSigned$Slots", "WindSigned$Tape", "WindSigned$Teller", "WindSigned$Tokens", "WindSigned$Trials", "WindSigned$Walk", "WindSigned", "WindSignedModel", "WindSignedLaw", "java/util/Arrays"]
def zF0 : u_T := fun k => match k with
  | 0 => ("WindSigned$Acts", "size", "I", false)
  | 1 => ("WindSigned$Acts", "kinds", "[I", true)
  | 2 => ("WindSigned$Acts", "firsts", "[I", true)
  | 3 => ("WindSigned$Acts", "seconds", "[I", true)
  | 4 => ("WindSigned$Acts", "actDays", "[I", true)
  | _ => ("", "", "", false)
def zF1 : u_T := fun k => match k with
  | 0 => ("WindSigned$Calendar", "directions", "[I", true)
  | 1 => ("WindSigned$Calendar", "forces", "[I", true)
  | 2 => ("WindSigned$Calendar", "numbersTold", "[I", true)
  | 3 => ("WindSigned$Calendar", "windStarts", "[I", true)
  | 4 => ("WindSigned$Calendar", "thingsReturned", "[I", true)
  | 5 => ("WindSigned$Calendar", "cellsReturned", "[I", true)
  | 6 => ("WindSigned$Calendar", "returnStarts", "[I", true)
  | 7 => ("WindSigned$Calendar", "winds", "I", false)
  | 8 => ("WindSigned$Calendar", "returns", "I", false)
  | _ => ("", "", "", false)
def zF2 : u_T := fun k => match k with
  | 0 => ("WindSigned$Guesses", "plain", "LWindSigned$Plain;", true)
  | 1 => ("WindSigned$Guesses", "slots", "LWindSigned$Slots;", true)
  | 2 => ("WindSigned$Guesses", "trials", "LWindSigned$Trials;", true)
  | 3 => ("WindSigned$Guesses", "fitting", "[Z", true)
  | 4 => ("WindSigned$Guesses", "ways", "[[I", true)
  | 5 => ("WindSigned$Guesses", "chosenDay", "I", false)
  | 6 => ("WindSigned$Guesses", "leftAtWorst", "I", false)
  | _ => ("", "", "", false)
def zF3 : u_T := fun k => match k with
  | 0 => ("WindSigned$Plain", "lines", "I", false)
  | 1 => ("WindSigned$Plain", "days", "I", false)
  | 2 => ("WindSigned$Plain", "lawTold", "I", false)
  | 3 => ("WindSigned$Plain", "odds", "I", false)
  | 4 => ("WindSigned$Plain", "wide", "I", false)
  | 5 => ("WindSigned$Plain", "high", "I", false)
  | 6 => ("WindSigned$Plain", "houses", "I", false)
  | 7 => ("WindSigned$Plain", "shelters", "I", false)
  | 8 => ("WindSigned$Plain", "things", "I", false)
  | 9 => ("WindSigned$Plain", "winds", "I", false)
  | 10 => ("WindSigned$Plain", "houseCells", "[I", true)
  | 11 => ("WindSigned$Plain", "shelterCells", "[I", true)
  | 12 => ("WindSigned$Plain", "thingWeights", "[I", true)
  | 13 => ("WindSigned$Plain", "thingCells", "[I", true)
  | 14 => ("WindSigned$Plain", "thingHouses", "[I", true)
  | 15 => ("WindSigned$Plain", "windDirections", "[I", true)
  | 16 => ("WindSigned$Plain", "windForces", "[I", true)
  | 17 => ("WindSigned$Plain", "windDays", "[I", true)
  | 18 => ("WindSigned$Plain", "acts", "LWindSigned$Acts;", true)
  | _ => ("", "", "", false)
def zF4 : u_T := fun k => match k with
  | 0 => ("WindSigned$Setting", "plain", "LWindSigned$Plain;", true)
  | 1 => ("WindSigned$Setting", "sheltered", "[Z", true)
  | 2 => ("WindSigned$Setting", "lawInForce", "I", false)
  | 3 => ("WindSigned$Setting", "windsBlowing", "I", false)
  | 4 => ("WindSigned$Setting", "moreDay", "I", false)
  | 5 => ("WindSigned$Setting", "moreDirection", "I", false)
  | 6 => ("WindSigned$Setting", "moreForce", "I", false)
  | _ => ("", "", "", false)
def zF5 : u_T := fun k => match k with
  | 0 => ("WindSigned$Slots", "rows", "[[J", true)
  | 1 => ("WindSigned$Slots", "widths", "[I", true)
  | 2 => ("WindSigned$Slots", "lengths", "[I", true)
  | _ => ("", "", "", false)
def zF6 : u_T := fun k => match k with
  | 0 => ("WindSigned$Tape", "bytes", "[B", true)
  | 1 => ("WindSigned$Tape", "length", "I", false)
  | _ => ("", "", "", false)
def zF7 : u_T := fun k => match k with
  | 0 => ("WindSigned$Teller", "tokens", "LWindSigned$Tokens;", true)
  | 1 => ("WindSigned$Teller", "draft", "LWindSigned$Plain;", true)
  | _ => ("", "", "", false)
def zF8 : u_T := fun k => match k with
  | 0 => ("WindSigned$Tokens", "tape", "LWindSigned$Tape;", true)
  | 1 => ("WindSigned$Tokens", "kind", "I", false)
  | 2 => ("WindSigned$Tokens", "stop", "I", false)
  | 3 => ("WindSigned$Tokens", "value", "I", false)
  | 4 => ("WindSigned$Tokens", "start", "I", false)
  | 5 => ("WindSigned$Tokens", "faultKind", "I", false)
  | 6 => ("WindSigned$Tokens", "faultPlace", "I", false)
  | _ => ("", "", "", false)
def zF9 : u_T := fun k => match k with
  | 0 => ("WindSigned$Trials", "plain", "LWindSigned$Plain;", true)
  | 1 => ("WindSigned$Trials", "worths", "[I", true)
  | 2 => ("WindSigned$Trials", "setting", "LWindSigned$Setting;", true)
  | 3 => ("WindSigned$Trials", "walk", "LWindSigned$Walk;", true)
  | _ => ("", "", "", false)
def zF10 : u_T := fun k => match k with
  | 0 => ("WindSigned$Walk", "plain", "LWindSigned$Plain;", true)
  | 1 => ("WindSigned$Walk", "calendar", "LWindSigned$Calendar;", true)
  | 2 => ("WindSigned$Walk", "setting", "LWindSigned$Setting;", true)
  | 3 => ("WindSigned$Walk", "thing", "I", false)
  | 4 => ("WindSigned$Walk", "weight", "I", false)
  | 5 => ("WindSigned$Walk", "cell", "I", false)
  | 6 => ("WindSigned$Walk", "places", "[I", true)
  | 7 => ("WindSigned$Walk", "daySteps", "[I", true)
  | 8 => ("WindSigned$Walk", "windsThatMove", "I", false)
  | 9 => ("WindSigned$Walk", "receivedDay", "I", false)
  | _ => ("", "", "", false)
def zF11 : u_T := fun k => match k with
  | 0 => ("WindSigned", "tape", "LWindSigned$Tape;", true)
  | 1 => ("WindSigned", "teller", "LWindSigned$Teller;", true)
  | 2 => ("WindSigned", "plain", "LWindSigned$Plain;", true)
  | 3 => ("WindSigned", "calendar", "LWindSigned$Calendar;", true)
  | 4 => ("WindSigned", "told", "LWindSigned$Setting;", true)
  | 5 => ("WindSigned", "walks", "[LWindSigned$Walk;", true)
  | 6 => ("WindSigned", "slots", "LWindSigned$Slots;", true)
  | 7 => ("WindSigned", "trials", "LWindSigned$Trials;", true)
  | 8 => ("WindSigned", "guesses", "LWindSigned$Guesses;", true)
  | 9 => ("WindSigned", "images", "[LWindSigned$Plain;", true)
  | 10 => ("WindSigned", "imageKept", "[Z", true)
  | 11 => ("WindSigned", "latestFault", "I", false)
  | 12 => ("WindSigned", "latestFaultPlace", "I", false)
  | _ => ("", "", "", false)
def zF12 : u_T := fun k => match k with
  | 0 => ("WindSignedModel", "thrown", "I", false)
  | 1 => ("WindSignedModel", "world", "[I", true)
  | 2 => ("WindSignedModel", "images", "[I", true)
  | 3 => ("WindSignedModel", "hasImage", "[Z", true)
  | 4 => ("WindSignedModel", "tape", "[B", true)
  | 5 => ("WindSignedModel", "taped", "I", false)
  | 6 => ("WindSignedModel", "five", "[I", true)
  | 7 => ("WindSignedModel", "size", "I", false)
  | 8 => ("WindSignedModel", "at", "I", false)
  | 9 => ("WindSignedModel", "from", "I", false)
  | 10 => ("WindSignedModel", "token", "I", false)
  | 11 => ("WindSignedModel", "value", "I", false)
  | 12 => ("WindSignedModel", "faultKind", "I", false)
  | 13 => ("WindSignedModel", "faultPlace", "I", false)
  | 14 => ("WindSignedModel", "fresh", "[I", true)
  | 15 => ("WindSignedModel", "weighsNow", "[I", true)
  | 16 => ("WindSignedModel", "isShelter", "[Z", true)
  | 17 => ("WindSignedModel", "lawNow", "I", false)
  | 18 => ("WindSignedModel", "blowSet", "I", false)
  | 19 => ("WindSignedModel", "moreDay", "I", false)
  | 20 => ("WindSignedModel", "moreWhere", "I", false)
  | 21 => ("WindSignedModel", "moreForce", "I", false)
  | 22 => ("WindSignedModel", "liesNow", "[I", true)
  | 23 => ("WindSignedModel", "liesAt", "[I", true)
  | 24 => ("WindSignedModel", "stepsIn", "[I", true)
  | 25 => ("WindSignedModel", "receivedOn", "[I", true)
  | 26 => ("WindSignedModel", "movedBy", "[I", true)
  | 27 => ("WindSignedModel", "fit", "[I", true)
  | 28 => ("WindSignedModel", "layBy", "[I", true)
  | 29 => ("WindSignedModel", "fitMany", "I", false)
  | 30 => ("WindSignedModel", "askWorst", "I", false)
  | 31 => ("WindSignedModel", "worthBy", "[I", true)
  | 32 => ("WindSignedModel", "oftenAll", "J", false)
  | 33 => ("WindSignedModel", "oftenSigned", "J", false)
  | 34 => ("WindSignedModel", "oftenSteps", "J", false)
  | 35 => ("WindSignedModel", "many", "[I", true)
  | 36 => ("WindSignedModel", "width", "[I", true)
  | 37 => ("WindSignedModel", "numbers", "[J", true)
  | 38 => ("WindSignedModel", "moving", "[J", true)
  | _ => ("", "", "", false)
def zcl : List vw_C := [("WindSigned$Acts", zF0, 5), ("WindSigned$Calendar", zF1, 9), ("WindSigned$Guesses", zF2, 7), ("WindSigned$Plain", zF3, 19), ("WindSigned$Setting", zF4, 7), ("WindSigned$Slots", zF5, 3), ("WindSigned$Tape", zF6, 2), ("WindSigned$Teller", zF7, 2), ("WindSigned$Tokens", zF8, 7), ("WindSigned$Trials", zF9, 4), ("WindSigned$Walk", zF10, 10), ("WindSigned", zF11, 13), ("WindSignedModel", zF12, 39)]
def ztyl : List FieldType := [.int, .long, .byte, .boolean, .object "WindSigned$Walk", .object "WindSigned$Plain", .array .long, .array .int]
def zp0 : List zP := [(0, (20, 0, 0, []), 1), (1, (105, 1, 0, []), 3), (4, (20, 0, 0, []), 1), (5, (93, 7, 0, []), 3), (8, (62, 0, 0, []), 1), (9, (105, 9, 0, []), 3), (12, (92, 10, 0, []), 3), (15, (20, 0, 0, []), 1), (16, (93, 16, 0, []), 3), (19, (62, 0, 0, []), 1), (20, (20, 0, 0, []), 1), (21, (91, 10, 0, []), 3), (24, (105, 18, 0, []), 3), (27, (92, 21, 0, []), 3), (30, (20, 0, 0, []), 1), (31, (93, 25, 0, []), 3), (34, (62, 0, 0, []), 1), (35, (105, 27, 0, []), 3), (38, (92, 28, 0, []), 3), (41, (20, 0, 0, []), 1), (42, (93, 32, 0, []), 3), (45, (62, 0, 0, []), 1), (46, (105, 34, 0, []), 3), (49, (92, 35, 0, []), 3), (52, (20, 0, 0, []), 1), (53, (93, 39, 0, []), 3), (56, (62, 0, 0, []), 1), (57, (20, 0, 0, []), 1), (58, (91, 28, 0, []), 3), (61, (105, 41, 0, []), 3), (64, (92, 44, 0, []), 3), (67, (20, 0, 0, []), 1), (68, (1, 0, 6, []), 2), (70, (94, 48, 0, []), 3), (73, (92, 50, 0, []), 3), (76, (0, 0, 0, []), 1), (77, (26, 0, 0, []), 1), (78, (11, 0, 0, []), 1), (79, (1, 0, 6, []), 2), (81, (79, 0, 34, []), 3), (84, (20, 0, 0, []), 1), (85, (91, 50, 0, []), 3), (88, (11, 0, 0, []), 1), (89, (93, 48, 0, []), 3), (92, (62, 0, 0, []), 1), (93, (20, 0, 0, []), 1), (94, (91, 28, 0, []), 3), (97, (20, 0, 0, []), 1), (98, (91, 35, 0, []), 3), (101, (20, 0, 0, []), 1), (102, (91, 44, 0, []), 3), (105, (105, 54, 0, []), 3), (108, (75, 0, 0, []), 1), (109, (39, 1, 1, []), 3), (112, (88, 0, (-34), []), 3), (115, (20, 0, 0, []), 1), (116, (93, 57, 0, []), 3), (119, (62, 0, 0, []), 1), (120, (105, 59, 0, []), 3), (123, (92, 60, 0, []), 3), (126, (20, 0, 0, []), 1), (127, (93, 64, 0, []), 3), (130, (62, 0, 0, []), 1), (131, (20, 0, 0, []), 1), (132, (91, 28, 0, []), 3), (135, (20, 0, 0, []), 1), (136, (91, 35, 0, []), 3), (139, (105, 66, 0, []), 3), (142, (92, 69, 0, []), 3), (145, (20, 0, 0, []), 1), (146, (93, 73, 0, []), 3), (149, (62, 0, 0, []), 1), (150, (20, 0, 0, []), 1), (151, (91, 28, 0, []), 3), (154, (20, 0, 0, []), 1), (155, (91, 60, 0, []), 3), (158, (20, 0, 0, []), 1), (159, (91, 69, 0, []), 3), (162, (105, 75, 0, []), 3), (165, (92, 78, 0, []), 3), (168, (20, 0, 0, []), 1), (169, (0, 0, 3, []), 1), (170, (94, 25, 0, []), 3), (173, (92, 82, 0, []), 3), (176, (20, 0, 0, []), 1), (177, (0, 0, 3, []), 1), (178, (98, 0, 0, []), 2), (180, (92, 86, 0, []), 3), (183, (0, 0, 0, []), 1), (184, (26, 0, 0, []), 1), (185, (11, 0, 0, []), 1), (186, (0, 0, 3, []), 1), (187, (79, 0, 22, []), 3), (190, (20, 0, 0, []), 1), (191, (91, 82, 0, []), 3), (194, (11, 0, 0, []), 1), (195, (93, 25, 0, []), 3), (198, (62, 0, 0, []), 1), (199, (105, 27, 0, []), 3), (202, (75, 0, 0, []), 1), (203, (39, 1, 1, []), 3), (206, (88, 0, (-21), []), 3), (209, (20, 0, 0, []), 1), (210, (0, 0, 0, []), 1), (211, (92, 90, 0, []), 3), (214, (20, 0, 0, []), 1), (215, (0, 0, (-1), []), 1), (216, (92, 94, 0, []), 3), (219, (100, 0, 0, []), 1)]
def zm0 : zM := (⟨"WindSigned", "<init>", "()V"⟩, prog_1_method_1_code, 2, none, zp0, 154, 3490, 11, true)
def zp1 : List zP := [(0, (20, 0, 0, []), 1), (1, (105, 1, 0, []), 3), (4, (20, 0, 0, []), 1), (5, (2, 0, 700, []), 3), (8, (97, 0, 0, []), 2), (10, (92, 9, 0, []), 3), (13, (20, 0, 0, []), 1), (14, (0, 0, 0, []), 1), (15, (92, 13, 0, []), 3), (18, (100, 0, 0, []), 1)]
def zm1 : zM := (⟨"WindSigned$Tape", "<init>", "()V"⟩, prog_8_method_1_code, 1, none, zp1, 1, 700, 6, true)
def zp2 : List zP := [(0, (20, 0, 0, []), 1), (1, (105, 3, 0, []), 3), (4, (20, 0, 0, []), 1), (5, (93, 9, 0, []), 3), (8, (62, 0, 0, []), 1), (9, (21, 0, 0, []), 1), (10, (105, 11, 0, []), 3), (13, (92, 14, 0, []), 3), (16, (20, 0, 0, []), 1), (17, (93, 20, 0, []), 3), (20, (62, 0, 0, []), 1), (21, (105, 22, 0, []), 3), (24, (92, 23, 0, []), 3), (27, (100, 0, 0, []), 1)]
def zm2 : zM := (⟨"WindSigned$Teller", "<init>", "(LWindSigned$Tape;)V"⟩, prog_9_method_1_code, 2, none, zp2, 15, 210, 7, true)
def zp3 : List zP := [(0, (20, 0, 0, []), 1), (1, (105, 3, 0, []), 3), (4, (20, 0, 0, []), 1), (5, (21, 0, 0, []), 1), (6, (92, 9, 0, []), 3), (9, (100, 0, 0, []), 1)]
def zm3 : zM := (⟨"WindSigned$Tokens", "<init>", "(LWindSigned$Tape;)V"⟩, prog_10_method_1_code, 2, none, zp3, 0, 0, 8, true)
def zp4 : List zP := [(0, (20, 0, 0, []), 1), (1, (105, 3, 0, []), 3), (4, (20, 0, 0, []), 1), (5, (1, 0, 6, []), 2), (7, (95, 0, 0, []), 2), (9, (92, 9, 0, []), 3), (12, (20, 0, 0, []), 1), (13, (1, 0, 8, []), 2), (15, (95, 0, 0, []), 2), (17, (92, 15, 0, []), 3), (20, (20, 0, 0, []), 1), (21, (1, 0, 6, []), 2), (23, (95, 0, 0, []), 2), (25, (92, 18, 0, []), 3), (28, (20, 0, 0, []), 1), (29, (1, 0, 6, []), 2), (31, (95, 0, 0, []), 2), (33, (92, 21, 0, []), 3), (36, (20, 0, 0, []), 1), (37, (1, 0, 6, []), 2), (39, (95, 0, 0, []), 2), (41, (92, 24, 0, []), 3), (44, (20, 0, 0, []), 1), (45, (1, 0, 9, []), 2), (47, (95, 0, 0, []), 2), (49, (92, 27, 0, []), 3), (52, (20, 0, 0, []), 1), (53, (1, 0, 9, []), 2), (55, (95, 0, 0, []), 2), (57, (92, 30, 0, []), 3), (60, (20, 0, 0, []), 1), (61, (1, 0, 9, []), 2), (63, (95, 0, 0, []), 2), (65, (92, 33, 0, []), 3), (68, (20, 0, 0, []), 1), (69, (93, 36, 0, []), 3), (72, (62, 0, 0, []), 1), (73, (105, 38, 0, []), 3), (76, (92, 39, 0, []), 3), (79, (100, 0, 0, []), 1)]
def zm4 : zM := (⟨"WindSigned$Plain", "<init>", "()V"⟩, prog_5_method_1_code, 1, none, zp4, 13, 184, 3, true)
def zp5 : List zP := [(0, (20, 0, 0, []), 1), (1, (105, 3, 0, []), 3), (4, (20, 0, 0, []), 1), (5, (1, 0, 30, []), 2), (7, (95, 0, 0, []), 2), (9, (92, 9, 0, []), 3), (12, (20, 0, 0, []), 1), (13, (1, 0, 30, []), 2), (15, (95, 0, 0, []), 2), (17, (92, 15, 0, []), 3), (20, (20, 0, 0, []), 1), (21, (1, 0, 30, []), 2), (23, (95, 0, 0, []), 2), (25, (92, 18, 0, []), 3), (28, (20, 0, 0, []), 1), (29, (1, 0, 30, []), 2), (31, (95, 0, 0, []), 2), (33, (92, 21, 0, []), 3), (36, (100, 0, 0, []), 1)]
def zm5 : zM := (⟨"WindSigned$Acts", "<init>", "()V"⟩, prog_2_method_1_code, 1, none, zp5, 4, 120, 0, true)
def zp6 : List zP := [(0, (20, 0, 0, []), 1), (1, (105, 3, 0, []), 3), (4, (20, 0, 0, []), 1), (5, (1, 0, 39, []), 2), (7, (95, 0, 0, []), 2), (9, (92, 9, 0, []), 3), (12, (20, 0, 0, []), 1), (13, (1, 0, 39, []), 2), (15, (95, 0, 0, []), 2), (17, (92, 15, 0, []), 3), (20, (20, 0, 0, []), 1), (21, (1, 0, 39, []), 2), (23, (95, 0, 0, []), 2), (25, (92, 18, 0, []), 3), (28, (20, 0, 0, []), 1), (29, (1, 0, 15, []), 2), (31, (95, 0, 0, []), 2), (33, (92, 21, 0, []), 3), (36, (20, 0, 0, []), 1), (37, (1, 0, 30, []), 2), (39, (95, 0, 0, []), 2), (41, (92, 24, 0, []), 3), (44, (20, 0, 0, []), 1), (45, (1, 0, 30, []), 2), (47, (95, 0, 0, []), 2), (49, (92, 27, 0, []), 3), (52, (20, 0, 0, []), 1), (53, (1, 0, 15, []), 2), (55, (95, 0, 0, []), 2), (57, (92, 30, 0, []), 3), (60, (100, 0, 0, []), 1)]
def zm6 : zM := (⟨"WindSigned$Calendar", "<init>", "()V"⟩, prog_3_method_1_code, 1, none, zp6, 7, 207, 1, true)
def zp7 : List zP := [(0, (20, 0, 0, []), 1), (1, (105, 3, 0, []), 3), (4, (20, 0, 0, []), 1), (5, (21, 0, 0, []), 1), (6, (92, 9, 0, []), 3), (9, (20, 0, 0, []), 1), (10, (1, 0, 100, []), 2), (12, (98, 0, 0, []), 2), (14, (92, 15, 0, []), 3), (17, (100, 0, 0, []), 1)]
def zm7 : zM := (⟨"WindSigned$Setting", "<init>", "(LWindSigned$Plain;)V"⟩, prog_6_method_1_code, 2, none, zp7, 1, 100, 4, true)
def zp8 : List zP := [(0, (20, 0, 0, []), 1), (1, (105, 3, 0, []), 3), (4, (20, 0, 0, []), 1), (5, (21, 0, 0, []), 1), (6, (92, 9, 0, []), 3), (9, (20, 0, 0, []), 1), (10, (22, 0, 0, []), 1), (11, (92, 15, 0, []), 3), (14, (20, 0, 0, []), 1), (15, (23, 0, 0, []), 1), (16, (92, 19, 0, []), 3), (19, (20, 0, 0, []), 1), (20, (1, 0, 15, []), 2), (22, (95, 0, 0, []), 2), (24, (92, 23, 0, []), 3), (27, (20, 0, 0, []), 1), (28, (1, 0, 14, []), 2), (30, (95, 0, 0, []), 2), (32, (92, 27, 0, []), 3), (35, (100, 0, 0, []), 1)]
def zm8 : zM := (⟨"WindSigned$Walk", "<init>", "(LWindSigned$Plain;LWindSigned$Calendar;LWindSigned$Setting;)V"⟩, prog_12_method_1_code, 4, none, zp8, 2, 29, 10, true)
def zp9 : List zP := [(0, (20, 0, 0, []), 1), (1, (105, 3, 0, []), 3), (4, (20, 0, 0, []), 1), (5, (0, 0, 4, []), 1), (6, (1, 0, 60, []), 2), (8, (99, 11, 0, []), 4), (12, (92, 13, 0, []), 3), (15, (20, 0, 0, []), 1), (16, (0, 0, 4, []), 1), (17, (95, 0, 0, []), 2), (19, (92, 16, 0, []), 3), (22, (20, 0, 0, []), 1), (23, (0, 0, 4, []), 1), (24, (95, 0, 0, []), 2), (26, (92, 20, 0, []), 3), (29, (20, 0, 0, []), 1), (30, (91, 20, 0, []), 3), (33, (0, 0, (-1), []), 1), (34, (104, 23, 0, []), 3), (37, (100, 0, 0, []), 1)]
def zm9 : zM := (⟨"WindSigned$Slots", "<init>", "()V"⟩, prog_7_method_1_code, 1, none, zp9, 7, 252, 5, true)
def zp10 : List zP := [(0, (0, 0, 0, []), 1), (1, (27, 0, 0, []), 1), (2, (20, 0, 0, []), 1), (3, (71, 0, 0, []), 1), (4, (28, 0, 0, []), 1), (5, (12, 0, 0, []), 1), (6, (13, 0, 0, []), 1), (7, (79, 0, 13, []), 3), (10, (20, 0, 0, []), 1), (11, (12, 0, 0, []), 1), (12, (11, 0, 0, []), 1), (13, (72, 0, 0, []), 1), (14, (39, 2, 1, []), 3), (17, (88, 0, (-12), []), 3), (20, (100, 0, 0, []), 1)]
def zm10 : zM := (⟨"java/util/Arrays", "fill", "([II)V"⟩, prog_21_method_103_code, 4, none, zp10, 0, 0, 14, false)
def zp11 : List zP := [(0, (20, 0, 0, []), 1), (1, (105, 3, 0, []), 3), (4, (20, 0, 0, []), 1), (5, (21, 0, 0, []), 1), (6, (92, 9, 0, []), 3), (9, (20, 0, 0, []), 1), (10, (93, 15, 0, []), 3), (13, (62, 0, 0, []), 1), (14, (21, 0, 0, []), 1), (15, (105, 17, 0, []), 3), (18, (92, 20, 0, []), 3), (21, (20, 0, 0, []), 1), (22, (2, 0, 256, []), 3), (25, (95, 0, 0, []), 2), (27, (92, 24, 0, []), 3), (30, (20, 0, 0, []), 1), (31, (93, 28, 0, []), 3), (34, (62, 0, 0, []), 1), (35, (21, 0, 0, []), 1), (36, (22, 0, 0, []), 1), (37, (20, 0, 0, []), 1), (38, (91, 20, 0, []), 3), (41, (105, 30, 0, []), 3), (44, (92, 33, 0, []), 3), (47, (100, 0, 0, []), 1)]
def zm11 : zM := (⟨"WindSigned$Trials", "<init>", "(LWindSigned$Plain;LWindSigned$Calendar;)V"⟩, prog_11_method_1_code, 3, none, zp11, 6, 402, 9, true)
def zp12 : List zP := [(0, (20, 0, 0, []), 1), (1, (105, 3, 0, []), 3), (4, (20, 0, 0, []), 1), (5, (21, 0, 0, []), 1), (6, (92, 9, 0, []), 3), (9, (20, 0, 0, []), 1), (10, (22, 0, 0, []), 1), (11, (92, 15, 0, []), 3), (14, (20, 0, 0, []), 1), (15, (23, 0, 0, []), 1), (16, (92, 19, 0, []), 3), (19, (20, 0, 0, []), 1), (20, (1, 0, 31, []), 2), (22, (98, 0, 0, []), 2), (24, (92, 23, 0, []), 3), (27, (20, 0, 0, []), 1), (28, (1, 0, 31, []), 2), (30, (1, 0, 15, []), 2), (32, (99, 27, 0, []), 4), (36, (92, 29, 0, []), 3), (39, (100, 0, 0, []), 1)]
def zm12 : zM := (⟨"WindSigned$Guesses", "<init>", "(LWindSigned$Plain;LWindSigned$Slots;LWindSigned$Trials;)V"⟩, prog_4_method_1_code, 4, none, zp12, 33, 527, 2, true)
def zp13 : List zP := [(0, (20, 0, 0, []), 1), (1, (105, 3, 0, []), 3), (4, (20, 0, 0, []), 1), (5, (1, 0, 100, []), 2), (7, (95, 0, 0, []), 2), (9, (92, 9, 0, []), 3), (12, (20, 0, 0, []), 1), (13, (2, 0, 300, []), 3), (16, (95, 0, 0, []), 2), (18, (92, 13, 0, []), 3), (21, (20, 0, 0, []), 1), (22, (0, 0, 3, []), 1), (23, (98, 0, 0, []), 2), (25, (92, 16, 0, []), 3), (28, (20, 0, 0, []), 1), (29, (2, 0, 700, []), 3), (32, (97, 0, 0, []), 2), (34, (92, 20, 0, []), 3), (37, (20, 0, 0, []), 1), (38, (0, 0, 5, []), 1), (39, (95, 0, 0, []), 2), (41, (92, 24, 0, []), 3), (44, (20, 0, 0, []), 1), (45, (0, 0, (-1), []), 1), (46, (92, 27, 0, []), 3), (49, (20, 0, 0, []), 1), (50, (1, 0, 100, []), 2), (52, (95, 0, 0, []), 2), (54, (92, 31, 0, []), 3), (57, (20, 0, 0, []), 1), (58, (1, 0, 6, []), 2), (60, (95, 0, 0, []), 2), (62, (92, 34, 0, []), 3), (65, (20, 0, 0, []), 1), (66, (1, 0, 100, []), 2), (68, (98, 0, 0, []), 2), (70, (92, 37, 0, []), 3), (73, (20, 0, 0, []), 1), (74, (1, 0, 6, []), 2), (76, (95, 0, 0, []), 2), (78, (92, 40, 0, []), 3), (81, (20, 0, 0, []), 1), (82, (1, 0, 90, []), 2), (84, (95, 0, 0, []), 2), (86, (92, 43, 0, []), 3), (89, (20, 0, 0, []), 1), (90, (1, 0, 84, []), 2), (92, (95, 0, 0, []), 2), (94, (92, 46, 0, []), 3), (97, (20, 0, 0, []), 1), (98, (1, 0, 6, []), 2), (100, (95, 0, 0, []), 2), (102, (92, 49, 0, []), 3), (105, (20, 0, 0, []), 1), (106, (1, 0, 6, []), 2), (108, (95, 0, 0, []), 2), (110, (92, 52, 0, []), 3), (113, (20, 0, 0, []), 1), (114, (1, 0, 31, []), 2), (116, (95, 0, 0, []), 2), (118, (92, 55, 0, []), 3), (121, (20, 0, 0, []), 1), (122, (2, 0, 465, []), 3), (125, (95, 0, 0, []), 2), (127, (92, 58, 0, []), 3), (130, (20, 0, 0, []), 1), (131, (2, 0, 256, []), 3), (134, (95, 0, 0, []), 2), (136, (92, 61, 0, []), 3), (139, (20, 0, 0, []), 1), (140, (0, 0, 4, []), 1), (141, (95, 0, 0, []), 2), (143, (62, 0, 0, []), 1), (144, (0, 0, 0, []), 1), (145, (0, 0, (-1), []), 1), (146, (72, 0, 0, []), 1), (147, (62, 0, 0, []), 1), (148, (0, 0, 1, []), 1), (149, (0, 0, (-1), []), 1), (150, (72, 0, 0, []), 1), (151, (62, 0, 0, []), 1), (152, (0, 0, 2, []), 1), (153, (0, 0, (-1), []), 1), (154, (72, 0, 0, []), 1), (155, (62, 0, 0, []), 1), (156, (0, 0, 3, []), 1), (157, (0, 0, (-1), []), 1), (158, (72, 0, 0, []), 1), (159, (92, 64, 0, []), 3), (162, (20, 0, 0, []), 1), (163, (0, 0, 4, []), 1), (164, (95, 0, 0, []), 2), (166, (92, 67, 0, []), 3), (169, (20, 0, 0, []), 1), (170, (2, 0, 240, []), 3), (173, (96, 0, 0, []), 2), (175, (92, 70, 0, []), 3), (178, (20, 0, 0, []), 1), (179, (1, 0, 60, []), 2), (181, (96, 0, 0, []), 2), (183, (92, 74, 0, []), 3), (186, (100, 0, 0, []), 1)]
def zm13 : zM := (⟨"WindSignedModel", "<init>", "()V"⟩, prog_14_method_1_code, 1, none, zp13, 20, 2566, 12, true)
def zp14 : List zP := [(0, (20, 0, 0, []), 1), (1, (91, 10, 0, []), 3), (4, (91, 97, 0, []), 3), (7, (1, 0, 20, []), 2), (9, (40, 0, 0, []), 1), (10, (2, 0, 700, []), 3), (13, (81, 0, 5, []), 3), (17, (101, 0, 0, []), 1), (18, (20, 0, 0, []), 1), (19, (91, 10, 0, []), 3), (22, (11, 0, 0, []), 1), (23, (103, 100, 0, []), 3), (26, (20, 0, 0, []), 1), (27, (91, 10, 0, []), 3), (30, (12, 0, 0, []), 1), (31, (103, 100, 0, []), 3), (34, (20, 0, 0, []), 1), (35, (91, 10, 0, []), 3), (38, (13, 0, 0, []), 1), (39, (103, 100, 0, []), 3), (42, (20, 0, 0, []), 1), (43, (91, 10, 0, []), 3), (46, (9, 4, 0, []), 2), (48, (103, 100, 0, []), 3), (51, (20, 0, 0, []), 1), (52, (91, 10, 0, []), 3), (55, (9, 5, 0, []), 2), (57, (103, 100, 0, []), 3), (60, (20, 0, 0, []), 1), (61, (91, 10, 0, []), 3), (64, (91, 97, 0, []), 3), (67, (101, 0, 0, []), 1)]
def zm14 : zM := (⟨"WindSigned", "feed", "(IIIII)I"⟩, prog_1_method_2_code, 6, (some .int), zp14, 0, 0, 11, false)
def zp15 : List zP := [(0, (20, 0, 0, []), 1), (1, (91, 13, 0, []), 3), (4, (0, 0, 4, []), 1), (5, (40, 0, 0, []), 1), (6, (2, 0, 700, []), 3), (9, (81, 0, 4, []), 3), (12, (100, 0, 0, []), 1), (13, (20, 0, 0, []), 1), (14, (91, 9, 0, []), 3), (17, (20, 0, 0, []), 1), (18, (91, 13, 0, []), 3), (21, (11, 0, 0, []), 1), (22, (1, 0, 24, []), 2), (24, (47, 0, 0, []), 1), (25, (61, 0, 0, []), 1), (26, (73, 0, 0, []), 1), (27, (20, 0, 0, []), 1), (28, (91, 9, 0, []), 3), (31, (20, 0, 0, []), 1), (32, (91, 13, 0, []), 3), (35, (0, 0, 1, []), 1), (36, (40, 0, 0, []), 1), (37, (11, 0, 0, []), 1), (38, (1, 0, 16, []), 2), (40, (47, 0, 0, []), 1), (41, (61, 0, 0, []), 1), (42, (73, 0, 0, []), 1), (43, (20, 0, 0, []), 1), (44, (91, 9, 0, []), 3), (47, (20, 0, 0, []), 1), (48, (91, 13, 0, []), 3), (51, (0, 0, 2, []), 1), (52, (40, 0, 0, []), 1), (53, (11, 0, 0, []), 1), (54, (1, 0, 8, []), 2), (56, (47, 0, 0, []), 1), (57, (61, 0, 0, []), 1), (58, (73, 0, 0, []), 1), (59, (20, 0, 0, []), 1), (60, (91, 9, 0, []), 3), (63, (20, 0, 0, []), 1), (64, (91, 13, 0, []), 3), (67, (0, 0, 3, []), 1), (68, (40, 0, 0, []), 1), (69, (11, 0, 0, []), 1), (70, (61, 0, 0, []), 1), (71, (73, 0, 0, []), 1), (72, (20, 0, 0, []), 1), (73, (62, 0, 0, []), 1), (74, (91, 13, 0, []), 3), (77, (0, 0, 4, []), 1), (78, (40, 0, 0, []), 1), (79, (92, 13, 0, []), 3), (82, (100, 0, 0, []), 1)]
def zm15 : zM := (⟨"WindSigned$Tape", "append", "(I)V"⟩, prog_8_method_2_code, 2, none, zp15, 0, 0, 6, false)
def zp16 : List zP := [(0, (20, 0, 0, []), 1), (1, (91, 102, 0, []), 3), (4, (1, 0, 20, []), 2), (6, (40, 0, 0, []), 1), (7, (2, 0, 700, []), 3), (10, (81, 0, 5, []), 3), (14, (101, 0, 0, []), 1), (15, (20, 0, 0, []), 1), (16, (91, 24, 0, []), 3), (19, (0, 0, 0, []), 1), (20, (11, 0, 0, []), 1), (21, (72, 0, 0, []), 1), (22, (20, 0, 0, []), 1), (23, (91, 24, 0, []), 3), (26, (0, 0, 1, []), 1), (27, (12, 0, 0, []), 1), (28, (72, 0, 0, []), 1), (29, (20, 0, 0, []), 1), (30, (91, 24, 0, []), 3), (33, (0, 0, 2, []), 1), (34, (13, 0, 0, []), 1), (35, (72, 0, 0, []), 1), (36, (20, 0, 0, []), 1), (37, (91, 24, 0, []), 3), (40, (0, 0, 3, []), 1), (41, (9, 4, 0, []), 2), (43, (72, 0, 0, []), 1), (44, (20, 0, 0, []), 1), (45, (91, 24, 0, []), 3), (48, (0, 0, 4, []), 1), (49, (9, 5, 0, []), 2), (51, (72, 0, 0, []), 1), (52, (0, 0, 0, []), 1), (53, (24, 6, 0, []), 2), (55, (9, 6, 0, []), 2), (57, (1, 0, 20, []), 2), (59, (79, 0, 42, []), 3), (62, (20, 0, 0, []), 1), (63, (91, 20, 0, []), 3), (66, (20, 0, 0, []), 1), (67, (91, 102, 0, []), 3), (70, (9, 6, 0, []), 2), (72, (40, 0, 0, []), 1), (73, (20, 0, 0, []), 1), (74, (91, 24, 0, []), 3), (77, (9, 6, 0, []), 2), (79, (0, 0, 4, []), 1), (80, (48, 0, 0, []), 1), (81, (67, 0, 0, []), 1), (82, (1, 0, 24, []), 2), (84, (1, 0, 8, []), 2), (86, (9, 6, 0, []), 2), (88, (0, 0, 4, []), 1), (89, (49, 0, 0, []), 1), (90, (42, 0, 0, []), 1), (91, (41, 0, 0, []), 1), (92, (47, 0, 0, []), 1), (93, (61, 0, 0, []), 1), (94, (73, 0, 0, []), 1), (95, (39, 6, 1, []), 3), (98, (88, 0, (-43), []), 3), (101, (20, 0, 0, []), 1), (102, (62, 0, 0, []), 1), (103, (91, 102, 0, []), 3), (106, (1, 0, 20, []), 2), (108, (40, 0, 0, []), 1), (109, (92, 102, 0, []), 3), (112, (20, 0, 0, []), 1), (113, (91, 102, 0, []), 3), (116, (101, 0, 0, []), 1)]
def zm16 : zM := (⟨"WindSignedModel", "feed", "(IIIII)I"⟩, prog_14_method_20_code, 7, (some .int), zp16, 0, 0, 12, false)
def zp17 : List zP := [(0, (20, 0, 0, []), 1), (1, (91, 60, 0, []), 3), (4, (11, 0, 0, []), 1), (5, (103, 403, 0, []), 3), (8, (82, 0, 14, []), 3), (11, (20, 0, 0, []), 1), (12, (91, 60, 0, []), 3), (15, (13, 0, 0, []), 1), (16, (103, 403, 0, []), 3), (19, (83, 0, 6, []), 3), (22, (1, 0, (-2), []), 2), (24, (101, 0, 0, []), 1), (25, (20, 0, 0, []), 1), (26, (91, 60, 0, []), 3), (29, (11, 0, 0, []), 1), (30, (103, 410, 0, []), 3), (33, (82, 0, 14, []), 3), (47, (1, 0, (-6), []), 2), (49, (101, 0, 0, []), 1), (73, (101, 0, 0, []), 1), (105, (101, 0, 0, []), 1), (133, (101, 0, 0, []), 1)]
def zm17 : zM := (⟨"WindSigned", "paste", "(IIIII)I"⟩, prog_1_method_73_code, 6, (some .int), zp17, 0, 0, 11, false)
def zp18 : List zP := [(0, (11, 0, 0, []), 1), (1, (84, 0, 12, []), 3), (4, (11, 0, 0, []), 1), (5, (0, 0, 4, []), 1), (6, (79, 0, 7, []), 3), (9, (0, 0, 1, []), 1), (10, (88, 0, 4, []), 3), (13, (0, 0, 0, []), 1), (14, (101, 0, 0, []), 1)]
def zm18 : zM := (⟨"WindSigned$Slots", "isSlot", "(I)Z"⟩, prog_7_method_2_code, 2, (some .boolean), zp18, 0, 0, 5, false)
def zp19 : List zP := [(0, (20, 0, 0, []), 1), (1, (91, 20, 0, []), 3), (4, (11, 0, 0, []), 1), (5, (67, 0, 0, []), 1), (6, (0, 0, (-1), []), 1), (7, (76, 0, 7, []), 3), (14, (0, 0, 0, []), 1), (15, (101, 0, 0, []), 1)]
def zm19 : zM := (⟨"WindSigned$Slots", "hasRow", "(I)Z"⟩, prog_7_method_3_code, 2, (some .boolean), zp19, 0, 0, 5, false)
def zp20 : List zP := [(0, (11, 0, 0, []), 1), (1, (104, 387, 0, []), 3), (4, (82, 0, 10, []), 3), (7, (13, 0, 0, []), 1), (8, (104, 387, 0, []), 3), (11, (83, 0, 6, []), 3), (14, (1, 0, (-2), []), 2), (16, (101, 0, 0, []), 1), (17, (20, 0, 0, []), 1), (18, (91, 64, 0, []), 3), (21, (11, 0, 0, []), 1), (22, (67, 0, 0, []), 1), (23, (0, 0, (-1), []), 1), (24, (76, 0, 13, []), 3), (37, (1, 0, (-6), []), 2), (39, (101, 0, 0, []), 1), (57, (101, 0, 0, []), 1), (109, (101, 0, 0, []), 1), (186, (101, 0, 0, []), 1)]
def zm20 : zM := (⟨"WindSignedModel", "paste", "(IIIII)I"⟩, prog_14_method_158_code, 7, (some .int), zp20, 0, 0, 12, false)
def zp21 : List zP := [(0, (10, 0, 0, []), 1), (1, (59, 0, 0, []), 1), (2, (3, 0, 0, []), 1), (3, (8, 378, 0, []), 3), (6, (104, 82, 0, []), 3), (9, (101, 0, 0, []), 1)]
def zm21 : zM := (⟨"WindSignedModel", "isSlot", "(I)Z"⟩, prog_14_method_154_code, 1, (some .boolean), zp21, 0, 0, 12, false)
def zp22 : List zP := [(0, (15, 0, 0, []), 1), (1, (17, 0, 0, []), 1), (2, (66, 0, 0, []), 1), (3, (84, 0, 14, []), 3), (6, (15, 0, 0, []), 1), (7, (14, 4, 0, []), 2), (9, (66, 0, 0, []), 1), (10, (86, 0, 7, []), 3), (13, (0, 0, 1, []), 1), (14, (88, 0, 4, []), 3), (17, (0, 0, 0, []), 1), (18, (101, 0, 0, []), 1)]
def zm22 : zM := (⟨"WindSignedModel", "in", "(JJJ)Z"⟩, prog_14_method_3_code, 6, (some .boolean), zp22, 0, 0, 12, false)
def zp23 : List zP := [(0, (20, 0, 0, []), 1), (1, (91, 60, 0, []), 3), (4, (11, 0, 0, []), 1), (5, (103, 403, 0, []), 3), (8, (83, 0, 6, []), 3), (11, (1, 0, (-2), []), 2), (13, (101, 0, 0, []), 1), (14, (20, 0, 0, []), 1), (15, (91, 60, 0, []), 3), (18, (11, 0, 0, []), 1), (19, (103, 410, 0, []), 3), (22, (83, 0, 6, []), 3), (25, (1, 0, (-6), []), 2), (27, (101, 0, 0, []), 1), (47, (101, 0, 0, []), 1), (59, (101, 0, 0, []), 1)]
def zm23 : zM := (⟨"WindSigned", "write", "(IIJ)I"⟩, prog_1_method_72_code, 5, (some .int), zp23, 0, 0, 11, false)
def zp24 : List zP := [(0, (11, 0, 0, []), 1), (1, (104, 387, 0, []), 3), (4, (83, 0, 6, []), 3), (7, (1, 0, (-2), []), 2), (9, (101, 0, 0, []), 1), (10, (20, 0, 0, []), 1), (11, (91, 64, 0, []), 3), (14, (11, 0, 0, []), 1), (15, (67, 0, 0, []), 1), (16, (0, 0, (-1), []), 1), (17, (77, 0, 6, []), 3), (20, (1, 0, (-6), []), 2), (22, (101, 0, 0, []), 1), (43, (101, 0, 0, []), 1), (66, (101, 0, 0, []), 1)]
def zm24 : zM := (⟨"WindSignedModel", "write", "(IIJ)I"⟩, prog_14_method_157_code, 5, (some .int), zp24, 0, 0, 12, false)
def zp25 : List zP := [(0, (20, 0, 0, []), 1), (1, (91, 60, 0, []), 3), (4, (11, 0, 0, []), 1), (5, (103, 403, 0, []), 3), (8, (82, 0, 18, []), 3), (11, (12, 0, 0, []), 1), (12, (84, 0, 14, []), 3), (15, (12, 0, 0, []), 1), (16, (0, 0, 4, []), 1), (17, (79, 0, 9, []), 3), (20, (13, 0, 0, []), 1), (21, (1, 0, 60, []), 2), (23, (81, 0, 6, []), 3), (26, (1, 0, (-2), []), 2), (28, (101, 0, 0, []), 1), (29, (13, 0, 0, []), 1), (30, (85, 0, 6, []), 3), (33, (1, 0, (-3), []), 2), (35, (101, 0, 0, []), 1), (36, (20, 0, 0, []), 1), (37, (91, 60, 0, []), 3), (40, (11, 0, 0, []), 1), (41, (12, 0, 0, []), 1), (42, (13, 0, 0, []), 1), (43, (103, 406, 0, []), 3), (46, (0, 0, 0, []), 1), (47, (101, 0, 0, []), 1)]
def zm25 : zM := (⟨"WindSigned", "row", "(III)I"⟩, prog_1_method_71_code, 4, (some .int), zp25, 0, 0, 11, false)
def zp26 : List zP := [(0, (20, 0, 0, []), 1), (1, (91, 13, 0, []), 3), (4, (11, 0, 0, []), 1), (5, (70, 0, 0, []), 1), (6, (3, 0, 0, []), 1), (7, (104, 33, 0, []), 3), (10, (20, 0, 0, []), 1), (11, (91, 16, 0, []), 3), (14, (11, 0, 0, []), 1), (15, (12, 0, 0, []), 1), (16, (72, 0, 0, []), 1), (17, (20, 0, 0, []), 1), (18, (91, 20, 0, []), 3), (21, (11, 0, 0, []), 1), (22, (13, 0, 0, []), 1), (23, (72, 0, 0, []), 1), (24, (100, 0, 0, []), 1)]
def zm26 : zM := (⟨"WindSigned$Slots", "lay", "(III)V"⟩, prog_7_method_6_code, 4, none, zp26, 0, 0, 5, false)
def zp27 : List zP := [(0, (0, 0, 0, []), 1), (1, (28, 0, 0, []), 1), (2, (20, 0, 0, []), 1), (3, (71, 0, 0, []), 1), (4, (24, 4, 0, []), 2), (6, (13, 0, 0, []), 1), (7, (9, 4, 0, []), 2), (9, (79, 0, 13, []), 3), (12, (20, 0, 0, []), 1), (13, (13, 0, 0, []), 1), (14, (16, 0, 0, []), 1), (15, (74, 0, 0, []), 1), (16, (39, 3, 1, []), 3), (19, (88, 0, (-13), []), 3), (22, (100, 0, 0, []), 1)]
def zm27 : zM := (⟨"java/util/Arrays", "fill", "([JJ)V"⟩, prog_21_method_101_code, 5, none, zp27, 0, 0, 14, false)
def zp28 : List zP := [(0, (11, 0, 0, []), 1), (1, (104, 387, 0, []), 3), (4, (82, 0, 21, []), 3), (7, (12, 0, 0, []), 1), (8, (59, 0, 0, []), 1), (9, (3, 0, 0, []), 1), (10, (8, 378, 0, []), 3), (13, (104, 82, 0, []), 3), (16, (82, 0, 9, []), 3), (19, (13, 0, 0, []), 1), (20, (1, 0, 60, []), 2), (22, (81, 0, 6, []), 3), (25, (1, 0, (-2), []), 2), (27, (101, 0, 0, []), 1), (28, (13, 0, 0, []), 1), (29, (85, 0, 6, []), 3), (32, (1, 0, (-3), []), 2), (34, (101, 0, 0, []), 1), (35, (20, 0, 0, []), 1), (36, (91, 64, 0, []), 3), (39, (11, 0, 0, []), 1), (40, (13, 0, 0, []), 1), (41, (72, 0, 0, []), 1), (42, (20, 0, 0, []), 1), (43, (91, 67, 0, []), 3), (46, (11, 0, 0, []), 1), (47, (12, 0, 0, []), 1), (48, (72, 0, 0, []), 1), (49, (0, 0, 0, []), 1), (50, (24, 4, 0, []), 2), (52, (9, 4, 0, []), 2), (54, (1, 0, 60, []), 2), (56, (79, 0, 22, []), 3), (59, (20, 0, 0, []), 1), (60, (91, 70, 0, []), 3), (63, (1, 0, 60, []), 2), (65, (11, 0, 0, []), 1), (66, (42, 0, 0, []), 1), (67, (9, 4, 0, []), 2), (69, (40, 0, 0, []), 1), (70, (3, 0, 0, []), 1), (71, (74, 0, 0, []), 1), (72, (39, 4, 1, []), 3), (75, (88, 0, (-23), []), 3), (78, (0, 0, 0, []), 1), (79, (101, 0, 0, []), 1)]
def zm28 : zM := (⟨"WindSignedModel", "row", "(III)I"⟩, prog_14_method_156_code, 5, (some .int), zp28, 0, 0, 12, false)
def zp29 : List zP := [(0, (11, 0, 0, []), 1), (1, (104, 400, 0, []), 3), (4, (83, 0, 6, []), 3), (7, (1, 0, (-2), []), 2), (9, (101, 0, 0, []), 1), (10, (20, 0, 0, []), 1), (11, (91, 86, 0, []), 3), (14, (11, 0, 0, []), 1), (15, (69, 0, 0, []), 1), (16, (83, 0, 6, []), 3), (19, (1, 0, (-6), []), 2), (21, (101, 0, 0, []), 1), (40, (101, 0, 0, []), 1)]
def zm29 : zM := (⟨"WindSigned", "back", "(I)I"⟩, prog_1_method_70_code, 2, (some .int), zp29, 0, 0, 11, false)
def zp30 : List zP := [(0, (10, 0, 0, []), 1), (1, (84, 0, 12, []), 3), (4, (10, 0, 0, []), 1), (5, (0, 0, 3, []), 1), (6, (79, 0, 7, []), 3), (9, (0, 0, 1, []), 1), (10, (88, 0, 4, []), 3), (13, (0, 0, 0, []), 1), (14, (101, 0, 0, []), 1)]
def zm30 : zM := (⟨"WindSigned", "isImage", "(I)Z"⟩, prog_1_method_84_code, 1, (some .boolean), zp30, 0, 0, 11, false)
def zp31 : List zP := [(0, (11, 0, 0, []), 1), (1, (59, 0, 0, []), 1), (2, (3, 0, 0, []), 1), (3, (8, 80, 0, []), 3), (6, (104, 82, 0, []), 3), (9, (83, 0, 6, []), 3), (12, (1, 0, (-2), []), 2), (14, (101, 0, 0, []), 1), (15, (20, 0, 0, []), 1), (16, (91, 16, 0, []), 3), (19, (11, 0, 0, []), 1), (20, (69, 0, 0, []), 1), (21, (83, 0, 6, []), 3), (24, (1, 0, (-6), []), 2), (26, (101, 0, 0, []), 1), (59, (101, 0, 0, []), 1)]
def zm31 : zM := (⟨"WindSignedModel", "back", "(I)I"⟩, prog_14_method_7_code, 3, (some .int), zp31, 0, 0, 12, false)
def zp32 : List zP := [(0, (11, 0, 0, []), 1), (1, (104, 400, 0, []), 3), (4, (83, 0, 6, []), 3), (7, (1, 0, (-2), []), 2), (9, (101, 0, 0, []), 1), (10, (20, 0, 0, []), 1), (11, (91, 82, 0, []), 3), (14, (11, 0, 0, []), 1), (15, (70, 0, 0, []), 1), (16, (20, 0, 0, []), 1), (17, (91, 28, 0, []), 3), (20, (103, 122, 0, []), 3), (23, (20, 0, 0, []), 1), (24, (91, 86, 0, []), 3), (27, (11, 0, 0, []), 1), (28, (0, 0, 1, []), 1), (29, (73, 0, 0, []), 1), (30, (0, 0, 0, []), 1), (31, (101, 0, 0, []), 1)]
def zm32 : zM := (⟨"WindSigned", "image", "(I)I"⟩, prog_1_method_69_code, 2, (some .int), zp32, 0, 0, 11, false)
def zp33 : List zP := [(0, (20, 0, 0, []), 1), (1, (21, 0, 0, []), 1), (2, (91, 43, 0, []), 3), (5, (92, 43, 0, []), 3), (8, (20, 0, 0, []), 1), (9, (21, 0, 0, []), 1), (10, (91, 47, 0, []), 3), (13, (92, 47, 0, []), 3), (16, (20, 0, 0, []), 1), (17, (21, 0, 0, []), 1), (18, (91, 50, 0, []), 3), (21, (92, 50, 0, []), 3), (24, (20, 0, 0, []), 1), (25, (21, 0, 0, []), 1), (26, (91, 53, 0, []), 3), (29, (92, 53, 0, []), 3), (32, (20, 0, 0, []), 1), (33, (21, 0, 0, []), 1), (34, (91, 56, 0, []), 3), (37, (92, 56, 0, []), 3), (40, (20, 0, 0, []), 1), (41, (21, 0, 0, []), 1), (42, (91, 59, 0, []), 3), (45, (92, 59, 0, []), 3), (48, (20, 0, 0, []), 1), (49, (21, 0, 0, []), 1), (50, (91, 62, 0, []), 3), (53, (92, 62, 0, []), 3), (56, (20, 0, 0, []), 1), (57, (21, 0, 0, []), 1), (58, (91, 65, 0, []), 3), (61, (92, 65, 0, []), 3), (64, (20, 0, 0, []), 1), (65, (21, 0, 0, []), 1), (66, (91, 68, 0, []), 3), (69, (92, 68, 0, []), 3), (72, (20, 0, 0, []), 1), (73, (21, 0, 0, []), 1), (74, (91, 71, 0, []), 3), (77, (92, 71, 0, []), 3), (80, (21, 0, 0, []), 1), (81, (91, 9, 0, []), 3), (84, (0, 0, 0, []), 1), (85, (20, 0, 0, []), 1), (86, (91, 9, 0, []), 3), (89, (0, 0, 0, []), 1), (90, (1, 0, 6, []), 2), (92, (104, 77, 0, []), 3), (95, (21, 0, 0, []), 1), (96, (91, 15, 0, []), 3), (99, (0, 0, 0, []), 1), (100, (20, 0, 0, []), 1), (101, (91, 15, 0, []), 3), (104, (0, 0, 0, []), 1), (105, (1, 0, 8, []), 2), (107, (104, 77, 0, []), 3), (110, (21, 0, 0, []), 1), (111, (91, 18, 0, []), 3), (114, (0, 0, 0, []), 1), (115, (20, 0, 0, []), 1), (116, (91, 18, 0, []), 3), (119, (0, 0, 0, []), 1), (120, (1, 0, 6, []), 2), (122, (104, 77, 0, []), 3), (125, (21, 0, 0, []), 1), (126, (91, 21, 0, []), 3), (129, (0, 0, 0, []), 1), (130, (20, 0, 0, []), 1), (131, (91, 21, 0, []), 3), (134, (0, 0, 0, []), 1), (135, (1, 0, 6, []), 2), (137, (104, 77, 0, []), 3), (140, (21, 0, 0, []), 1), (141, (91, 24, 0, []), 3), (144, (0, 0, 0, []), 1), (145, (20, 0, 0, []), 1), (146, (91, 24, 0, []), 3), (149, (0, 0, 0, []), 1), (150, (1, 0, 6, []), 2), (152, (104, 77, 0, []), 3), (155, (21, 0, 0, []), 1), (156, (91, 27, 0, []), 3), (159, (0, 0, 0, []), 1), (160, (20, 0, 0, []), 1), (161, (91, 27, 0, []), 3), (164, (0, 0, 0, []), 1), (165, (1, 0, 9, []), 2), (167, (104, 77, 0, []), 3), (170, (21, 0, 0, []), 1), (171, (91, 30, 0, []), 3), (174, (0, 0, 0, []), 1), (175, (20, 0, 0, []), 1), (176, (91, 30, 0, []), 3), (179, (0, 0, 0, []), 1), (180, (1, 0, 9, []), 2), (182, (104, 77, 0, []), 3), (185, (21, 0, 0, []), 1), (186, (91, 33, 0, []), 3), (189, (0, 0, 0, []), 1), (190, (20, 0, 0, []), 1), (191, (91, 33, 0, []), 3), (194, (0, 0, 0, []), 1), (195, (1, 0, 9, []), 2), (197, (104, 77, 0, []), 3), (200, (20, 0, 0, []), 1), (201, (91, 39, 0, []), 3), (204, (21, 0, 0, []), 1), (205, (91, 39, 0, []), 3), (208, (103, 83, 0, []), 3), (211, (100, 0, 0, []), 1)]
def zm33 : zM := (⟨"WindSigned$Plain", "copyFrom", "(LWindSigned$Plain;)V"⟩, prog_5_method_3_code, 2, none, zp33, 0, 0, 3, false)
def zp34 : List zP := [(0, (20, 0, 0, []), 1), (1, (21, 0, 0, []), 1), (2, (91, 24, 0, []), 3), (5, (92, 24, 0, []), 3), (8, (21, 0, 0, []), 1), (9, (91, 9, 0, []), 3), (12, (0, 0, 0, []), 1), (13, (20, 0, 0, []), 1), (14, (91, 9, 0, []), 3), (17, (0, 0, 0, []), 1), (18, (1, 0, 30, []), 2), (20, (104, 28, 0, []), 3), (23, (21, 0, 0, []), 1), (24, (91, 15, 0, []), 3), (27, (0, 0, 0, []), 1), (28, (20, 0, 0, []), 1), (29, (91, 15, 0, []), 3), (32, (0, 0, 0, []), 1), (33, (1, 0, 30, []), 2), (35, (104, 28, 0, []), 3), (38, (21, 0, 0, []), 1), (39, (91, 18, 0, []), 3), (42, (0, 0, 0, []), 1), (43, (20, 0, 0, []), 1), (44, (91, 18, 0, []), 3), (47, (0, 0, 0, []), 1), (48, (1, 0, 30, []), 2), (50, (104, 28, 0, []), 3), (53, (21, 0, 0, []), 1), (54, (91, 21, 0, []), 3), (57, (0, 0, 0, []), 1), (58, (20, 0, 0, []), 1), (59, (91, 21, 0, []), 3), (62, (0, 0, 0, []), 1), (63, (1, 0, 30, []), 2), (65, (104, 28, 0, []), 3), (68, (100, 0, 0, []), 1)]
def zm34 : zM := (⟨"WindSigned$Acts", "copyFrom", "(LWindSigned$Acts;)V"⟩, prog_2_method_3_code, 2, none, zp34, 0, 0, 0, false)
def zp35 : List zP := [(0, (11, 0, 0, []), 1), (1, (59, 0, 0, []), 1), (2, (3, 0, 0, []), 1), (3, (8, 80, 0, []), 3), (6, (104, 82, 0, []), 3), (9, (83, 0, 6, []), 3), (12, (1, 0, (-2), []), 2), (14, (101, 0, 0, []), 1), (15, (0, 0, 0, []), 1), (16, (27, 0, 0, []), 1), (17, (12, 0, 0, []), 1), (18, (1, 0, 100, []), 2), (20, (79, 0, 26, []), 3), (23, (20, 0, 0, []), 1), (24, (91, 13, 0, []), 3), (27, (1, 0, 100, []), 2), (29, (11, 0, 0, []), 1), (30, (42, 0, 0, []), 1), (31, (12, 0, 0, []), 1), (32, (40, 0, 0, []), 1), (33, (20, 0, 0, []), 1), (34, (91, 9, 0, []), 3), (37, (12, 0, 0, []), 1), (38, (67, 0, 0, []), 1), (39, (72, 0, 0, []), 1), (40, (39, 2, 1, []), 3), (43, (88, 0, (-26), []), 3), (46, (20, 0, 0, []), 1), (47, (91, 16, 0, []), 3), (50, (11, 0, 0, []), 1), (51, (0, 0, 1, []), 1), (52, (73, 0, 0, []), 1), (53, (0, 0, 0, []), 1), (54, (101, 0, 0, []), 1)]
def zm35 : zM := (⟨"WindSignedModel", "image", "(I)I"⟩, prog_14_method_6_code, 3, (some .int), zp35, 0, 0, 12, false)
def zp36 : List zP := [(0, (11, 0, 0, []), 1), (1, (89, 0, 174, [0, 12, 67, 75, 83, 91, 99, 107, 115, 123, 131, 139, 150, 158, 166]), 67), (68, (20, 0, 0, []), 1), (69, (91, 28, 0, []), 3), (72, (91, 227, 0, []), 3), (75, (101, 0, 0, []), 1), (76, (20, 0, 0, []), 1), (77, (91, 28, 0, []), 3), (80, (91, 385, 0, []), 3), (83, (101, 0, 0, []), 1), (84, (20, 0, 0, []), 1), (85, (91, 28, 0, []), 3), (88, (91, 388, 0, []), 3), (91, (101, 0, 0, []), 1), (92, (20, 0, 0, []), 1), (93, (91, 28, 0, []), 3), (96, (91, 391, 0, []), 3), (99, (101, 0, 0, []), 1), (100, (20, 0, 0, []), 1), (101, (91, 28, 0, []), 3), (104, (91, 394, 0, []), 3), (107, (101, 0, 0, []), 1), (108, (20, 0, 0, []), 1), (109, (91, 28, 0, []), 3), (112, (91, 219, 0, []), 3), (115, (101, 0, 0, []), 1), (116, (20, 0, 0, []), 1), (117, (91, 28, 0, []), 3), (120, (91, 329, 0, []), 3), (123, (101, 0, 0, []), 1), (124, (20, 0, 0, []), 1), (125, (91, 28, 0, []), 3), (128, (91, 199, 0, []), 3), (131, (101, 0, 0, []), 1), (132, (20, 0, 0, []), 1), (133, (91, 28, 0, []), 3), (136, (91, 271, 0, []), 3), (139, (101, 0, 0, []), 1), (140, (20, 0, 0, []), 1), (141, (91, 28, 0, []), 3), (144, (91, 360, 0, []), 3), (147, (91, 370, 0, []), 3), (150, (101, 0, 0, []), 1), (151, (20, 0, 0, []), 1), (152, (91, 28, 0, []), 3), (155, (91, 128, 0, []), 3), (158, (101, 0, 0, []), 1), (159, (20, 0, 0, []), 1), (160, (91, 10, 0, []), 3), (163, (91, 97, 0, []), 3), (166, (101, 0, 0, []), 1), (167, (20, 0, 0, []), 1), (168, (91, 60, 0, []), 3), (171, (103, 397, 0, []), 3), (174, (101, 0, 0, []), 1), (175, (0, 0, (-1), []), 1), (176, (101, 0, 0, []), 1)]
def zm36 : zM := (⟨"WindSigned", "count", "(I)I"⟩, prog_1_method_68_code, 2, (some .int), zp36, 0, 0, 11, false)
def zp37 : List zP := [(0, (0, 0, 0, []), 1), (1, (26, 0, 0, []), 1), (2, (0, 0, 0, []), 1), (3, (27, 0, 0, []), 1), (4, (12, 0, 0, []), 1), (5, (0, 0, 4, []), 1), (6, (79, 0, 25, []), 3), (9, (11, 0, 0, []), 1), (10, (20, 0, 0, []), 1), (11, (12, 0, 0, []), 1), (12, (103, 29, 0, []), 3), (15, (82, 0, 7, []), 3), (22, (0, 0, 0, []), 1), (23, (40, 0, 0, []), 1), (24, (26, 0, 0, []), 1), (25, (39, 2, 1, []), 3), (28, (88, 0, (-24), []), 3), (31, (11, 0, 0, []), 1), (32, (101, 0, 0, []), 1)]
def zm37 : zM := (⟨"WindSigned$Slots", "rowsHeld", "()I"⟩, prog_7_method_5_code, 3, (some .int), zp37, 0, 0, 5, false)
def zp38 : List zP := [(0, (11, 0, 0, []), 1), (1, (59, 0, 0, []), 1), (2, (3, 0, 0, []), 1), (3, (8, 100, 0, []), 3), (6, (104, 82, 0, []), 3), (9, (82, 0, 10, []), 3), (12, (20, 0, 0, []), 1), (13, (91, 9, 0, []), 3), (16, (11, 0, 0, []), 1), (17, (67, 0, 0, []), 1), (18, (101, 0, 0, []), 1), (19, (11, 0, 0, []), 1), (20, (1, 0, 11, []), 2), (22, (77, 0, 8, []), 3), (25, (20, 0, 0, []), 1), (26, (91, 102, 0, []), 3), (29, (101, 0, 0, []), 1), (30, (11, 0, 0, []), 1), (31, (1, 0, 12, []), 2), (33, (76, 0, 5, []), 3), (36, (0, 0, (-1), []), 1), (37, (101, 0, 0, []), 1), (38, (0, 0, 0, []), 1), (39, (27, 0, 0, []), 1), (40, (0, 0, 0, []), 1), (41, (28, 0, 0, []), 1), (42, (13, 0, 0, []), 1), (43, (0, 0, 4, []), 1), (44, (79, 0, 27, []), 3), (47, (12, 0, 0, []), 1), (48, (20, 0, 0, []), 1), (49, (91, 64, 0, []), 3), (52, (13, 0, 0, []), 1), (53, (67, 0, 0, []), 1), (54, (0, 0, (-1), []), 1), (55, (77, 0, 7, []), 3), (58, (0, 0, 0, []), 1), (59, (88, 0, 4, []), 3), (63, (40, 0, 0, []), 1), (64, (27, 0, 0, []), 1), (65, (39, 3, 1, []), 3), (68, (88, 0, (-26), []), 3), (71, (12, 0, 0, []), 1), (72, (101, 0, 0, []), 1)]
def zm38 : zM := (⟨"WindSignedModel", "count", "(I)I"⟩, prog_14_method_153_code, 4, (some .int), zp38, 0, 0, 12, false)
def zp39 : List zP := [(0, (20, 0, 0, []), 1), (1, (11, 0, 0, []), 1), (2, (103, 145, 0, []), 3), (5, (82, 0, 13, []), 3), (18, (1, 0, (-2), []), 2), (20, (101, 0, 0, []), 1), (36, (101, 0, 0, []), 1), (62, (101, 0, 0, []), 1)]
def zm39 : zM := (⟨"WindSigned", "rate", "(II)I"⟩, prog_1_method_67_code, 4, (some .int), zp39, 0, 0, 11, false)
def zp40 : List zP := [(0, (11, 0, 0, []), 1), (1, (84, 0, 18, []), 3), (4, (11, 0, 0, []), 1), (5, (20, 0, 0, []), 1), (6, (91, 28, 0, []), 3), (9, (91, 199, 0, []), 3), (12, (79, 0, 7, []), 3), (19, (0, 0, 0, []), 1), (20, (101, 0, 0, []), 1)]
def zm40 : zM := (⟨"WindSigned", "isThing", "(I)Z"⟩, prog_1_method_76_code, 2, (some .boolean), zp40, 0, 0, 11, false)
def zp41 : List zP := [(0, (20, 0, 0, []), 1), (1, (11, 0, 0, []), 1), (2, (103, 235, 0, []), 3), (5, (82, 0, 15, []), 3), (20, (1, 0, (-2), []), 2), (22, (101, 0, 0, []), 1), (35, (101, 0, 0, []), 1), (56, (101, 0, 0, []), 1)]
def zm41 : zM := (⟨"WindSignedModel", "rate", "(II)I"⟩, prog_14_method_152_code, 4, (some .int), zp41, 0, 0, 12, false)
def zp42 : List zP := [(0, (11, 0, 0, []), 1), (1, (59, 0, 0, []), 1), (2, (3, 0, 0, []), 1), (3, (20, 0, 0, []), 1), (4, (103, 94, 0, []), 3), (7, (0, 0, 1, []), 1), (8, (41, 0, 0, []), 1), (9, (59, 0, 0, []), 1), (10, (104, 82, 0, []), 3), (13, (101, 0, 0, []), 1)]
def zm42 : zM := (⟨"WindSignedModel", "isThing", "(I)Z"⟩, prog_14_method_15_code, 2, (some .boolean), zp42, 0, 0, 12, false)
def zp43 : List zP := [(0, (20, 0, 0, []), 1), (1, (91, 9, 0, []), 3), (4, (1, 0, 7, []), 2), (6, (67, 0, 0, []), 1), (7, (101, 0, 0, []), 1)]
def zm43 : zM := (⟨"WindSignedModel", "things", "()I"⟩, prog_14_method_10_code, 1, (some .int), zp43, 0, 0, 12, false)
def zp44 : List zP := [(0, (11, 0, 0, []), 1), (1, (104, 373, 0, []), 3), (4, (82, 0, 22, []), 3), (7, (12, 0, 0, []), 1), (8, (0, 0, 1, []), 1), (9, (78, 0, 17, []), 3), (12, (12, 0, 0, []), 1), (13, (1, 0, 20, []), 2), (15, (80, 0, 11, []), 3), (18, (20, 0, 0, []), 1), (19, (13, 0, 0, []), 1), (20, (103, 145, 0, []), 3), (23, (83, 0, 6, []), 3), (26, (1, 0, (-2), []), 2), (28, (101, 0, 0, []), 1), (74, (101, 0, 0, []), 1)]
def zm44 : zM := (⟨"WindSigned", "luck", "(III)I"⟩, prog_1_method_66_code, 6, (some .int), zp44, 0, 0, 11, false)
def zp45 : List zP := [(0, (10, 0, 0, []), 1), (1, (84, 0, 14, []), 3), (4, (10, 0, 0, []), 1), (5, (7, 437, 0, []), 3), (8, (80, 0, 7, []), 3), (11, (0, 0, 1, []), 1), (12, (88, 0, 4, []), 3), (15, (0, 0, 0, []), 1), (16, (101, 0, 0, []), 1)]
def zm45 : zM := (⟨"WindSigned", "isSeed", "(I)Z"⟩, prog_1_method_83_code, 1, (some .boolean), zp45, 0, 0, 11, false)
def zp46 : List zP := [(0, (11, 0, 0, []), 1), (1, (104, 477, 0, []), 3), (4, (82, 0, 23, []), 3), (7, (12, 0, 0, []), 1), (8, (59, 0, 0, []), 1), (9, (4, 0, 0, []), 1), (10, (8, 484, 0, []), 3), (13, (104, 82, 0, []), 3), (16, (82, 0, 11, []), 3), (19, (20, 0, 0, []), 1), (20, (13, 0, 0, []), 1), (21, (103, 235, 0, []), 3), (24, (83, 0, 6, []), 3), (27, (1, 0, (-2), []), 2), (29, (101, 0, 0, []), 1), (69, (101, 0, 0, []), 1)]
def zm46 : zM := (⟨"WindSignedModel", "luck", "(III)I"⟩, prog_14_method_151_code, 6, (some .int), zp46, 0, 0, 12, false)
def zp47 : List zP := [(0, (10, 0, 0, []), 1), (1, (59, 0, 0, []), 1), (2, (3, 0, 0, []), 1), (3, (8, 475, 0, []), 3), (6, (104, 82, 0, []), 3), (9, (101, 0, 0, []), 1)]
def zm47 : zM := (⟨"WindSignedModel", "isSeed", "(I)Z"⟩, prog_14_method_149_code, 1, (some .boolean), zp47, 0, 0, 12, false)
def zp48 : List zP := [(0, (20, 0, 0, []), 1), (1, (91, 28, 0, []), 3), (4, (103, 205, 0, []), 3), (7, (82, 0, 17, []), 3), (24, (1, 0, (-2), []), 2), (26, (101, 0, 0, []), 1), (52, (101, 0, 0, []), 1)]
def zm48 : zM := (⟨"WindSigned", "drawn", "(II)I"⟩, prog_1_method_65_code, 4, (some .int), zp48, 0, 0, 11, false)
def zp49 : List zP := [(0, (20, 0, 0, []), 1), (1, (91, 43, 0, []), 3), (4, (87, 0, 7, []), 3), (11, (0, 0, 0, []), 1), (12, (101, 0, 0, []), 1)]
def zm49 : zM := (⟨"WindSigned$Plain", "isTold", "()Z"⟩, prog_5_method_4_code, 1, (some .boolean), zp49, 0, 0, 3, false)
def zp50 : List zP := [(0, (20, 0, 0, []), 1), (1, (103, 86, 0, []), 3), (4, (82, 0, 20, []), 3), (24, (1, 0, (-2), []), 2), (26, (101, 0, 0, []), 1), (46, (101, 0, 0, []), 1)]
def zm50 : zM := (⟨"WindSignedModel", "drawn", "(II)I"⟩, prog_14_method_150_code, 4, (some .int), zp50, 0, 0, 12, false)
def zp51 : List zP := [(0, (20, 0, 0, []), 1), (1, (91, 9, 0, []), 3), (4, (1, 0, 10, []), 2), (6, (67, 0, 0, []), 1), (7, (87, 0, 7, []), 3), (14, (0, 0, 0, []), 1), (15, (101, 0, 0, []), 1)]
def zm51 : zM := (⟨"WindSignedModel", "isPlain", "()Z"⟩, prog_14_method_8_code, 1, (some .boolean), zp51, 0, 0, 12, false)
def zp52 : List zP := [(0, (20, 0, 0, []), 1), (1, (91, 28, 0, []), 3), (4, (103, 205, 0, []), 3), (7, (83, 0, 6, []), 3), (10, (1, 0, (-2), []), 2), (12, (101, 0, 0, []), 1), (40, (101, 0, 0, []), 1)]
def zm52 : zM := (⟨"WindSigned", "anew", "()I"⟩, prog_1_method_64_code, 2, (some .int), zp52, 0, 0, 11, false)
def zp53 : List zP := [(0, (20, 0, 0, []), 1), (1, (103, 86, 0, []), 3), (4, (83, 0, 6, []), 3), (7, (1, 0, (-2), []), 2), (9, (101, 0, 0, []), 1), (27, (101, 0, 0, []), 1)]
def zm53 : zM := (⟨"WindSignedModel", "anew", "()I"⟩, prog_14_method_147_code, 2, (some .int), zp53, 0, 0, 12, false)
def zp54 : List zP := [(0, (20, 0, 0, []), 1), (1, (91, 28, 0, []), 3), (4, (103, 205, 0, []), 3), (7, (83, 0, 6, []), 3), (10, (1, 0, (-2), []), 2), (12, (101, 0, 0, []), 1), (28, (101, 0, 0, []), 1), (59, (101, 0, 0, []), 1)]
def zm54 : zM := (⟨"WindSigned", "undo", "()I"⟩, prog_1_method_63_code, 1, (some .int), zp54, 0, 0, 11, false)
def zp55 : List zP := [(0, (20, 0, 0, []), 1), (1, (103, 86, 0, []), 3), (4, (83, 0, 6, []), 3), (7, (1, 0, (-2), []), 2), (9, (101, 0, 0, []), 1), (22, (101, 0, 0, []), 1), (41, (101, 0, 0, []), 1)]
def zm55 : zM := (⟨"WindSignedModel", "undo", "()I"⟩, prog_14_method_146_code, 1, (some .int), zp55, 0, 0, 12, false)
def zp56 : List zP := [(0, (20, 0, 0, []), 1), (1, (11, 0, 0, []), 1), (2, (103, 145, 0, []), 3), (5, (82, 0, 22, []), 3), (27, (1, 0, (-2), []), 2), (29, (101, 0, 0, []), 1), (49, (101, 0, 0, []), 1), (66, (101, 0, 0, []), 1)]
def zm56 : zM := (⟨"WindSigned", "brings", "(III)I"⟩, prog_1_method_62_code, 4, (some .int), zp56, 0, 0, 11, false)
def zp57 : List zP := [(0, (20, 0, 0, []), 1), (1, (11, 0, 0, []), 1), (2, (103, 235, 0, []), 3), (5, (82, 0, 21, []), 3), (26, (1, 0, (-2), []), 2), (28, (101, 0, 0, []), 1), (63, (101, 0, 0, []), 1)]
def zm57 : zM := (⟨"WindSignedModel", "brings", "(III)I"⟩, prog_14_method_145_code, 4, (some .int), zp57, 0, 0, 12, false)
def zp58 : List zP := [(0, (11, 0, 0, []), 1), (1, (104, 280, 0, []), 3), (4, (82, 0, 22, []), 3), (7, (12, 0, 0, []), 1), (8, (0, 0, 1, []), 1), (9, (78, 0, 17, []), 3), (12, (12, 0, 0, []), 1), (13, (1, 0, 40, []), 2), (15, (80, 0, 11, []), 3), (18, (20, 0, 0, []), 1), (19, (13, 0, 0, []), 1), (20, (103, 182, 0, []), 3), (23, (83, 0, 6, []), 3), (26, (1, 0, (-2), []), 2), (28, (101, 0, 0, []), 1), (48, (101, 0, 0, []), 1), (58, (101, 0, 0, []), 1)]
def zm58 : zM := (⟨"WindSigned", "blows", "(III)I"⟩, prog_1_method_61_code, 4, (some .int), zp58, 0, 0, 11, false)
def zp59 : List zP := [(0, (10, 0, 0, []), 1), (1, (84, 0, 12, []), 3), (4, (10, 0, 0, []), 1), (5, (0, 0, 4, []), 1), (6, (79, 0, 7, []), 3), (9, (0, 0, 1, []), 1), (10, (88, 0, 4, []), 3), (13, (0, 0, 0, []), 1), (14, (101, 0, 0, []), 1)]
def zm59 : zM := (⟨"WindSigned", "isDirection", "(I)Z"⟩, prog_1_method_81_code, 1, (some .boolean), zp59, 0, 0, 11, false)
def zp60 : List zP := [(0, (20, 0, 0, []), 1), (1, (91, 28, 0, []), 3), (4, (103, 205, 0, []), 3), (7, (82, 0, 22, []), 3), (29, (0, 0, 0, []), 1), (30, (101, 0, 0, []), 1)]
def zm60 : zM := (⟨"WindSigned", "isEarlyDay", "(I)Z"⟩, prog_1_method_79_code, 2, (some .boolean), zp60, 0, 0, 11, false)
def zp61 : List zP := [(0, (11, 0, 0, []), 1), (1, (59, 0, 0, []), 1), (2, (3, 0, 0, []), 1), (3, (8, 378, 0, []), 3), (6, (104, 82, 0, []), 3), (9, (82, 0, 24, []), 3), (12, (12, 0, 0, []), 1), (13, (59, 0, 0, []), 1), (14, (4, 0, 0, []), 1), (15, (8, 462, 0, []), 3), (18, (104, 82, 0, []), 3), (21, (82, 0, 12, []), 3), (24, (20, 0, 0, []), 1), (25, (13, 0, 0, []), 1), (26, (59, 0, 0, []), 1), (27, (103, 317, 0, []), 3), (30, (83, 0, 6, []), 3), (33, (1, 0, (-2), []), 2), (35, (101, 0, 0, []), 1), (70, (101, 0, 0, []), 1)]
def zm61 : zM := (⟨"WindSignedModel", "blows", "(III)I"⟩, prog_14_method_144_code, 4, (some .int), zp61, 0, 0, 12, false)
def zp62 : List zP := [(0, (20, 0, 0, []), 1), (1, (103, 86, 0, []), 3), (4, (82, 0, 22, []), 3), (26, (0, 0, 0, []), 1), (27, (101, 0, 0, []), 1)]
def zm62 : zM := (⟨"WindSignedModel", "isAhead", "(J)Z"⟩, prog_14_method_14_code, 3, (some .boolean), zp62, 0, 0, 12, false)
def zp63 : List zP := [(0, (20, 0, 0, []), 1), (1, (11, 0, 0, []), 1), (2, (103, 145, 0, []), 3), (5, (82, 0, 22, []), 3), (27, (8, 355, 0, []), 3), (30, (102, 0, 0, []), 1)]
def zm63 : zM := (⟨"WindSigned", "mean", "(II)J"⟩, prog_1_method_60_code, 3, (some .long), zp63, 0, 0, 11, false)
def zp64 : List zP := [(0, (20, 0, 0, []), 1), (1, (11, 0, 0, []), 1), (2, (103, 235, 0, []), 3), (5, (82, 0, 13, []), 3), (18, (8, 457, 0, []), 3), (21, (102, 0, 0, []), 1), (39, (102, 0, 0, []), 1)]
def zm64 : zM := (⟨"WindSignedModel", "mean", "(II)J"⟩, prog_14_method_142_code, 3, (some .long), zp64, 0, 0, 12, false)
def zp65 : List zP := [(0, (20, 0, 0, []), 1), (1, (11, 0, 0, []), 1), (2, (103, 145, 0, []), 3), (5, (82, 0, 22, []), 3), (27, (8, 355, 0, []), 3), (30, (102, 0, 0, []), 1)]
def zm65 : zM := (⟨"WindSigned", "chance", "(II)J"⟩, prog_1_method_59_code, 3, (some .long), zp65, 0, 0, 11, false)
def zp66 : List zP := [(0, (20, 0, 0, []), 1), (1, (11, 0, 0, []), 1), (2, (103, 235, 0, []), 3), (5, (82, 0, 13, []), 3), (18, (8, 457, 0, []), 3), (21, (102, 0, 0, []), 1), (39, (102, 0, 0, []), 1)]
def zm66 : zM := (⟨"WindSignedModel", "chance", "(II)J"⟩, prog_14_method_141_code, 3, (some .long), zp66, 0, 0, 12, false)
def zp67 : List zP := [(0, (20, 0, 0, []), 1), (1, (11, 0, 0, []), 1), (2, (12, 0, 0, []), 1), (3, (103, 341, 0, []), 3), (6, (82, 0, 18, []), 3), (24, (2, 0, (-1000), []), 3), (27, (101, 0, 0, []), 1), (40, (101, 0, 0, []), 1)]
def zm67 : zM := (⟨"WindSigned", "gets", "(IIII)I"⟩, prog_1_method_58_code, 5, (some .int), zp67, 0, 0, 11, false)
def zp68 : List zP := [(0, (20, 0, 0, []), 1), (1, (11, 0, 0, []), 1), (2, (103, 131, 0, []), 3), (5, (82, 0, 20, []), 3), (25, (0, 0, 0, []), 1), (26, (101, 0, 0, []), 1)]
def zm68 : zM := (⟨"WindSigned", "isPair", "(II)Z"⟩, prog_1_method_80_code, 3, (some .boolean), zp68, 0, 0, 11, false)
def zp69 : List zP := [(0, (11, 0, 0, []), 1), (1, (84, 0, 18, []), 3), (4, (11, 0, 0, []), 1), (5, (20, 0, 0, []), 1), (6, (91, 28, 0, []), 3), (9, (91, 219, 0, []), 3), (12, (79, 0, 7, []), 3), (19, (0, 0, 0, []), 1), (20, (101, 0, 0, []), 1)]
def zm69 : zM := (⟨"WindSigned", "isHouse", "(I)Z"⟩, prog_1_method_74_code, 2, (some .boolean), zp69, 0, 0, 11, false)
def zp70 : List zP := [(0, (20, 0, 0, []), 1), (1, (11, 0, 0, []), 1), (2, (12, 0, 0, []), 1), (3, (103, 440, 0, []), 3), (6, (82, 0, 37, []), 3), (43, (2, 0, (-1000), []), 3), (46, (101, 0, 0, []), 1)]
def zm70 : zM := (⟨"WindSignedModel", "gets", "(IIII)I"⟩, prog_14_method_139_code, 5, (some .int), zp70, 0, 0, 12, false)
def zp71 : List zP := [(0, (20, 0, 0, []), 1), (1, (11, 0, 0, []), 1), (2, (103, 228, 0, []), 3), (5, (82, 0, 20, []), 3), (25, (0, 0, 0, []), 1), (26, (101, 0, 0, []), 1)]
def zm71 : zM := (⟨"WindSignedModel", "areHouses", "(II)Z"⟩, prog_14_method_137_code, 3, (some .boolean), zp71, 0, 0, 12, false)
def zp72 : List zP := [(0, (11, 0, 0, []), 1), (1, (59, 0, 0, []), 1), (2, (3, 0, 0, []), 1), (3, (20, 0, 0, []), 1), (4, (103, 97, 0, []), 3), (7, (0, 0, 1, []), 1), (8, (41, 0, 0, []), 1), (9, (59, 0, 0, []), 1), (10, (104, 82, 0, []), 3), (13, (101, 0, 0, []), 1)]
def zm72 : zM := (⟨"WindSignedModel", "isHouse", "(I)Z"⟩, prog_14_method_16_code, 2, (some .boolean), zp72, 0, 0, 12, false)
def zp73 : List zP := [(0, (20, 0, 0, []), 1), (1, (91, 9, 0, []), 3), (4, (0, 0, 5, []), 1), (5, (67, 0, 0, []), 1), (6, (101, 0, 0, []), 1)]
def zm73 : zM := (⟨"WindSignedModel", "houses", "()I"⟩, prog_14_method_11_code, 1, (some .int), zp73, 0, 0, 12, false)
def zp74 : List zP := [(0, (20, 0, 0, []), 1), (1, (11, 0, 0, []), 1), (2, (12, 0, 0, []), 1), (3, (103, 341, 0, []), 3), (6, (82, 0, 15, []), 3), (21, (1, 0, (-2), []), 2), (23, (101, 0, 0, []), 1)]
def zm74 : zM := (⟨"WindSigned", "rests", "(II)I"⟩, prog_1_method_57_code, 3, (some .int), zp74, 0, 0, 11, false)
def zp75 : List zP := [(0, (20, 0, 0, []), 1), (1, (11, 0, 0, []), 1), (2, (12, 0, 0, []), 1), (3, (103, 440, 0, []), 3), (6, (83, 0, 6, []), 3), (9, (1, 0, (-2), []), 2), (11, (101, 0, 0, []), 1), (119, (101, 0, 0, []), 1)]
def zm75 : zM := (⟨"WindSignedModel", "rests", "(II)I"⟩, prog_14_method_138_code, 8, (some .int), zp75, 0, 0, 12, false)
def zp76 : List zP := [(0, (20, 0, 0, []), 1), (1, (11, 0, 0, []), 1), (2, (103, 139, 0, []), 3), (5, (82, 0, 22, []), 3), (27, (2, 0, (-1000), []), 3), (30, (101, 0, 0, []), 1)]
def zm76 : zM := (⟨"WindSigned", "share", "(II)I"⟩, prog_1_method_56_code, 3, (some .int), zp76, 0, 0, 11, false)
def zp77 : List zP := [(0, (11, 0, 0, []), 1), (1, (84, 0, 18, []), 3), (4, (11, 0, 0, []), 1), (5, (20, 0, 0, []), 1), (6, (91, 28, 0, []), 3), (9, (91, 329, 0, []), 3), (12, (79, 0, 7, []), 3), (19, (0, 0, 0, []), 1), (20, (101, 0, 0, []), 1)]
def zm77 : zM := (⟨"WindSigned", "isShelter", "(I)Z"⟩, prog_1_method_75_code, 2, (some .boolean), zp77, 0, 0, 11, false)
def zp78 : List zP := [(0, (20, 0, 0, []), 1), (1, (103, 304, 0, []), 3), (4, (20, 0, 0, []), 1), (5, (103, 232, 0, []), 3), (8, (28, 0, 0, []), 1), (9, (11, 0, 0, []), 1), (10, (59, 0, 0, []), 1), (11, (3, 0, 0, []), 1), (12, (13, 0, 0, []), 1), (13, (0, 0, 1, []), 1), (14, (41, 0, 0, []), 1), (15, (59, 0, 0, []), 1), (16, (104, 82, 0, []), 3), (19, (82, 0, 13, []), 3), (32, (2, 0, (-1000), []), 3), (35, (101, 0, 0, []), 1), (156, (101, 0, 0, []), 1)]
def zm78 : zM := (⟨"WindSignedModel", "share", "(II)I"⟩, prog_14_method_135_code, 7, (some .int), zp78, 0, 0, 12, false)
def zp79 : List zP := [(0, (20, 0, 0, []), 1), (1, (20, 0, 0, []), 1), (2, (91, 9, 0, []), 3), (5, (0, 0, 1, []), 1), (6, (67, 0, 0, []), 1), (7, (92, 247, 0, []), 3), (10, (20, 0, 0, []), 1), (11, (2, 0, 511, []), 3), (14, (92, 250, 0, []), 3), (17, (20, 0, 0, []), 1), (18, (0, 0, (-1), []), 1), (19, (92, 253, 0, []), 3), (22, (20, 0, 0, []), 1), (23, (20, 0, 0, []), 1), (24, (103, 256, 0, []), 3), (27, (103, 259, 0, []), 3), (30, (0, 0, 0, []), 1), (31, (26, 0, 0, []), 1), (32, (11, 0, 0, []), 1), (33, (1, 0, 6, []), 2), (35, (79, 0, 21, []), 3), (38, (20, 0, 0, []), 1), (39, (91, 34, 0, []), 3), (42, (11, 0, 0, []), 1), (43, (20, 0, 0, []), 1), (44, (11, 0, 0, []), 1), (45, (0, 0, 0, []), 1), (46, (103, 238, 0, []), 3), (49, (72, 0, 0, []), 1), (50, (39, 1, 1, []), 3), (53, (88, 0, (-21), []), 3), (56, (100, 0, 0, []), 1)]
def zm79 : zM := (⟨"WindSignedModel", "asItIs", "()V"⟩, prog_14_method_47_code, 2, none, zp79, 0, 0, 12, false)
def zp80 : List zP := [(0, (0, 0, 1, []), 1), (1, (20, 0, 0, []), 1), (2, (103, 232, 0, []), 3), (5, (46, 0, 0, []), 1), (6, (0, 0, 1, []), 1), (7, (41, 0, 0, []), 1), (8, (101, 0, 0, []), 1)]
def zm80 : zM := (⟨"WindSignedModel", "allShelters", "()I"⟩, prog_14_method_46_code, 1, (some .int), zp80, 0, 0, 12, false)
def zp81 : List zP := [(0, (20, 0, 0, []), 1), (1, (91, 9, 0, []), 3), (4, (1, 0, 6, []), 2), (6, (67, 0, 0, []), 1), (7, (101, 0, 0, []), 1)]
def zm81 : zM := (⟨"WindSignedModel", "shelters", "()I"⟩, prog_14_method_12_code, 1, (some .int), zp81, 0, 0, 12, false)
def zp82 : List zP := [(0, (0, 0, 0, []), 1), (1, (27, 0, 0, []), 1), (2, (12, 0, 0, []), 1), (3, (1, 0, 100, []), 2), (5, (79, 0, 16, []), 3), (8, (20, 0, 0, []), 1), (9, (91, 37, 0, []), 3), (12, (12, 0, 0, []), 1), (13, (0, 0, 0, []), 1), (14, (73, 0, 0, []), 1), (15, (39, 2, 1, []), 3), (18, (88, 0, (-16), []), 3), (21, (0, 0, 0, []), 1), (22, (27, 0, 0, []), 1), (23, (12, 0, 0, []), 1), (24, (20, 0, 0, []), 1), (25, (103, 232, 0, []), 3), (28, (79, 0, 33, []), 3), (61, (100, 0, 0, []), 1)]
def zm82 : zM := (⟨"WindSignedModel", "raise", "(I)V"⟩, prog_14_method_45_code, 3, none, zp82, 0, 0, 12, false)
def zp83 : List zP := [(0, (20, 0, 0, []), 1), (1, (91, 9, 0, []), 3), (4, (1, 0, 25, []), 2), (6, (0, 0, 3, []), 1), (7, (11, 0, 0, []), 1), (8, (42, 0, 0, []), 1), (9, (40, 0, 0, []), 1), (10, (12, 0, 0, []), 1), (11, (40, 0, 0, []), 1), (12, (67, 0, 0, []), 1), (13, (101, 0, 0, []), 1)]
def zm83 : zM := (⟨"WindSignedModel", "thingOf", "(II)I"⟩, prog_14_method_18_code, 3, (some .int), zp83, 0, 0, 12, false)
def zp84 : List zP := [(0, (20, 0, 0, []), 1), (1, (91, 28, 0, []), 3), (4, (103, 205, 0, []), 3), (7, (82, 0, 20, []), 3), (27, (1, 0, (-2), []), 2), (29, (101, 0, 0, []), 1), (38, (101, 0, 0, []), 1)]
def zm84 : zM := (⟨"WindSigned", "worth", "(I)I"⟩, prog_1_method_55_code, 2, (some .int), zp84, 0, 0, 11, false)
def zp85 : List zP := [(0, (20, 0, 0, []), 1), (1, (103, 304, 0, []), 3), (4, (20, 0, 0, []), 1), (5, (103, 86, 0, []), 3), (8, (82, 0, 25, []), 3), (33, (1, 0, (-2), []), 2), (35, (101, 0, 0, []), 1)]
def zm85 : zM := (⟨"WindSignedModel", "worth", "(I)I"⟩, prog_14_method_131_code, 2, (some .int), zp85, 0, 0, 12, false)
def zp86 : List zP := [(0, (20, 0, 0, []), 1), (1, (91, 28, 0, []), 3), (4, (103, 205, 0, []), 3), (7, (82, 0, 13, []), 3), (20, (1, 0, (-2), []), 2), (22, (101, 0, 0, []), 1)]
def zm86 : zM := (⟨"WindSigned", "law", "()I"⟩, prog_1_method_54_code, 1, (some .int), zp86, 0, 0, 11, false)
def zp87 : List zP := [(0, (20, 0, 0, []), 1), (1, (103, 310, 0, []), 3), (4, (83, 0, 6, []), 3), (7, (1, 0, (-2), []), 2), (9, (101, 0, 0, []), 1), (53, (101, 0, 0, []), 1)]
def zm87 : zM := (⟨"WindSignedModel", "law", "()I"⟩, prog_14_method_129_code, 4, (some .int), zp87, 0, 0, 12, false)
def zp88 : List zP := [(0, (20, 0, 0, []), 1), (1, (103, 304, 0, []), 3), (4, (20, 0, 0, []), 1), (5, (103, 307, 0, []), 3), (8, (20, 0, 0, []), 1), (9, (103, 86, 0, []), 3), (12, (101, 0, 0, []), 1)]
def zm88 : zM := (⟨"WindSignedModel", "asksPlain", "()Z"⟩, prog_14_method_59_code, 1, (some .boolean), zp88, 0, 0, 12, false)
def zp89 : List zP := [(0, (0, 0, 0, []), 1), (1, (26, 0, 0, []), 1), (2, (11, 0, 0, []), 1), (3, (1, 0, 6, []), 2), (5, (79, 0, 35, []), 3), (8, (20, 0, 0, []), 1), (9, (91, 40, 0, []), 3), (12, (11, 0, 0, []), 1), (13, (20, 0, 0, []), 1), (14, (11, 0, 0, []), 1), (15, (0, 0, 1, []), 1), (16, (103, 238, 0, []), 3), (19, (72, 0, 0, []), 1), (20, (20, 0, 0, []), 1), (21, (91, 49, 0, []), 3), (24, (11, 0, 0, []), 1), (25, (0, 0, (-1), []), 1), (26, (72, 0, 0, []), 1), (27, (20, 0, 0, []), 1), (28, (91, 52, 0, []), 3), (31, (11, 0, 0, []), 1), (32, (0, 0, 0, []), 1), (33, (72, 0, 0, []), 1), (34, (39, 1, 1, []), 3), (37, (88, 0, (-35), []), 3), (40, (0, 0, 0, []), 1), (41, (26, 0, 0, []), 1), (42, (11, 0, 0, []), 1), (43, (20, 0, 0, []), 1), (44, (103, 90, 0, []), 3), (47, (80, 0, 80, []), 3), (50, (0, 0, 0, []), 1), (51, (27, 0, 0, []), 1), (52, (12, 0, 0, []), 1), (53, (1, 0, 6, []), 2), (55, (79, 0, 26, []), 3), (58, (20, 0, 0, []), 1), (59, (91, 43, 0, []), 3), (62, (1, 0, 6, []), 2), (64, (11, 0, 0, []), 1), (65, (42, 0, 0, []), 1), (66, (12, 0, 0, []), 1), (67, (40, 0, 0, []), 1), (68, (20, 0, 0, []), 1), (69, (91, 40, 0, []), 3), (72, (12, 0, 0, []), 1), (73, (67, 0, 0, []), 1), (74, (72, 0, 0, []), 1), (75, (39, 2, 1, []), 3), (78, (88, 0, (-26), []), 3), (81, (11, 0, 0, []), 1), (82, (20, 0, 0, []), 1), (83, (103, 90, 0, []), 3), (86, (77, 0, 4, []), 3), (89, (100, 0, 0, []), 1), (127, (100, 0, 0, []), 1)]
def zm89 : zM := (⟨"WindSignedModel", "goAll", "()V"⟩, prog_14_method_58_code, 3, none, zp89, 0, 0, 12, false)
def zp90 : List zP := [(0, (20, 0, 0, []), 1), (1, (91, 9, 0, []), 3), (4, (0, 0, 0, []), 1), (5, (67, 0, 0, []), 1), (6, (101, 0, 0, []), 1)]
def zm90 : zM := (⟨"WindSignedModel", "days", "()I"⟩, prog_14_method_9_code, 1, (some .int), zp90, 0, 0, 12, false)
def zp91 : List zP := [(0, (20, 0, 0, []), 1), (1, (91, 28, 0, []), 3), (4, (103, 205, 0, []), 3), (7, (82, 0, 23, []), 3), (30, (1, 0, (-2), []), 2), (32, (101, 0, 0, []), 1)]
def zm91 : zM := (⟨"WindSigned", "by", "(I)I"⟩, prog_1_method_53_code, 2, (some .int), zp91, 0, 0, 11, false)
def zp92 : List zP := [(0, (20, 0, 0, []), 1), (1, (103, 310, 0, []), 3), (4, (82, 0, 15, []), 3), (19, (1, 0, (-2), []), 2), (21, (101, 0, 0, []), 1), (35, (101, 0, 0, []), 1)]
def zm92 : zM := (⟨"WindSignedModel", "by", "(I)I"⟩, prog_14_method_127_code, 2, (some .int), zp92, 0, 0, 12, false)
def zp93 : List zP := [(0, (20, 0, 0, []), 1), (1, (91, 78, 0, []), 3), (4, (11, 0, 0, []), 1), (5, (12, 0, 0, []), 1), (6, (103, 317, 0, []), 3), (9, (28, 0, 0, []), 1), (10, (13, 0, 0, []), 1), (11, (82, 0, 7, []), 3), (14, (13, 0, 0, []), 1), (15, (88, 0, 12, []), 3), (27, (101, 0, 0, []), 1)]
def zm93 : zM := (⟨"WindSigned", "laws", "(II)I"⟩, prog_1_method_52_code, 4, (some .int), zp93, 0, 0, 11, false)
def zp94 : List zP := [(0, (20, 0, 0, []), 1), (1, (91, 15, 0, []), 3), (4, (11, 0, 0, []), 1), (5, (103, 32, 0, []), 3), (8, (82, 0, 18, []), 3), (11, (12, 0, 0, []), 1), (12, (84, 0, 14, []), 3), (15, (12, 0, 0, []), 1), (16, (20, 0, 0, []), 1), (17, (91, 9, 0, []), 3), (20, (91, 38, 0, []), 3), (23, (78, 0, 6, []), 3), (26, (1, 0, (-2), []), 2), (28, (101, 0, 0, []), 1), (42, (101, 0, 0, []), 1), (57, (101, 0, 0, []), 1)]
def zm94 : zM := (⟨"WindSigned$Guesses", "refusalOf", "(II)I"⟩, prog_4_method_2_code, 3, (some .int), zp94, 0, 0, 2, false)
def zp95 : List zP := [(0, (20, 0, 0, []), 1), (1, (11, 0, 0, []), 1), (2, (12, 0, 0, []), 1), (3, (103, 396, 0, []), 3), (6, (28, 0, 0, []), 1), (7, (13, 0, 0, []), 1), (8, (85, 0, 5, []), 3), (11, (13, 0, 0, []), 1), (12, (101, 0, 0, []), 1), (68, (101, 0, 0, []), 1)]
def zm95 : zM := (⟨"WindSignedModel", "laws", "(II)I"⟩, prog_14_method_125_code, 5, (some .int), zp95, 0, 0, 12, false)
def zp96 : List zP := [(0, (11, 0, 0, []), 1), (1, (104, 387, 0, []), 3), (4, (82, 0, 11, []), 3), (7, (20, 0, 0, []), 1), (8, (12, 0, 0, []), 1), (9, (103, 235, 0, []), 3), (12, (83, 0, 6, []), 3), (15, (1, 0, (-2), []), 2), (17, (101, 0, 0, []), 1), (30, (101, 0, 0, []), 1), (44, (101, 0, 0, []), 1), (102, (101, 0, 0, []), 1), (114, (101, 0, 0, []), 1)]
def zm96 : zM := (⟨"WindSignedModel", "askSeen", "(II)I"⟩, prog_14_method_115_code, 4, (some .int), zp96, 0, 0, 12, false)
def zp97 : List zP := [(0, (20, 0, 0, []), 1), (1, (91, 78, 0, []), 3), (4, (11, 0, 0, []), 1), (5, (12, 0, 0, []), 1), (6, (103, 296, 0, []), 3), (9, (28, 0, 0, []), 1), (10, (13, 0, 0, []), 1), (11, (82, 0, 5, []), 3), (14, (13, 0, 0, []), 1), (15, (101, 0, 0, []), 1), (30, (101, 0, 0, []), 1)]
def zm97 : zM := (⟨"WindSigned", "leaves", "(II)I"⟩, prog_1_method_51_code, 4, (some .int), zp97, 0, 0, 11, false)
def zp98 : List zP := [(0, (20, 0, 0, []), 1), (1, (11, 0, 0, []), 1), (2, (12, 0, 0, []), 1), (3, (103, 86, 0, []), 3), (6, (28, 0, 0, []), 1), (7, (13, 0, 0, []), 1), (8, (82, 0, 5, []), 3), (11, (13, 0, 0, []), 1), (12, (101, 0, 0, []), 1), (89, (101, 0, 0, []), 1)]
def zm98 : zM := (⟨"WindSigned$Guesses", "tryWeights", "(II)I"⟩, prog_4_method_7_code, 5, (some .int), zp98, 0, 0, 2, false)
def zp99 : List zP := [(0, (20, 0, 0, []), 1), (1, (11, 0, 0, []), 1), (2, (12, 0, 0, []), 1), (3, (103, 405, 0, []), 3), (6, (28, 0, 0, []), 1), (7, (13, 0, 0, []), 1), (8, (85, 0, 5, []), 3), (11, (13, 0, 0, []), 1), (12, (101, 0, 0, []), 1), (22, (101, 0, 0, []), 1)]
def zm99 : zM := (⟨"WindSignedModel", "leaves", "(II)I"⟩, prog_14_method_124_code, 4, (some .int), zp99, 0, 0, 12, false)
def zp100 : List zP := [(0, (20, 0, 0, []), 1), (1, (11, 0, 0, []), 1), (2, (12, 0, 0, []), 1), (3, (103, 396, 0, []), 3), (6, (28, 0, 0, []), 1), (7, (13, 0, 0, []), 1), (8, (85, 0, 5, []), 3), (11, (13, 0, 0, []), 1), (12, (101, 0, 0, []), 1), (116, (101, 0, 0, []), 1)]
def zm100 : zM := (⟨"WindSignedModel", "layFits", "(II)I"⟩, prog_14_method_117_code, 6, (some .int), zp100, 0, 0, 12, false)
def zp101 : List zP := [(0, (20, 0, 0, []), 1), (1, (91, 78, 0, []), 3), (4, (11, 0, 0, []), 1), (5, (12, 0, 0, []), 1), (6, (103, 296, 0, []), 3), (9, (28, 0, 0, []), 1), (10, (13, 0, 0, []), 1), (11, (82, 0, 5, []), 3), (14, (13, 0, 0, []), 1), (15, (101, 0, 0, []), 1), (30, (101, 0, 0, []), 1)]
def zm101 : zM := (⟨"WindSigned", "ask", "(II)I"⟩, prog_1_method_50_code, 4, (some .int), zp101, 0, 0, 11, false)
def zp102 : List zP := [(0, (20, 0, 0, []), 1), (1, (11, 0, 0, []), 1), (2, (12, 0, 0, []), 1), (3, (103, 405, 0, []), 3), (6, (28, 0, 0, []), 1), (7, (13, 0, 0, []), 1), (8, (85, 0, 7, []), 3), (11, (13, 0, 0, []), 1), (12, (88, 0, 7, []), 3), (19, (101, 0, 0, []), 1)]
def zm102 : zM := (⟨"WindSignedModel", "ask", "(II)I"⟩, prog_14_method_123_code, 4, (some .int), zp102, 0, 0, 12, false)
def zp103 : List zP := [(0, (20, 0, 0, []), 1), (1, (91, 78, 0, []), 3), (4, (11, 0, 0, []), 1), (5, (12, 0, 0, []), 1), (6, (103, 296, 0, []), 3), (9, (28, 0, 0, []), 1), (10, (13, 0, 0, []), 1), (11, (82, 0, 7, []), 3), (14, (13, 0, 0, []), 1), (15, (88, 0, 10, []), 3), (25, (101, 0, 0, []), 1)]
def zm103 : zM := (⟨"WindSigned", "greatest", "(II)I"⟩, prog_1_method_49_code, 4, (some .int), zp103, 0, 0, 11, false)
def zp104 : List zP := [(0, (20, 0, 0, []), 1), (1, (11, 0, 0, []), 1), (2, (12, 0, 0, []), 1), (3, (103, 405, 0, []), 3), (6, (28, 0, 0, []), 1), (7, (13, 0, 0, []), 1), (8, (85, 0, 7, []), 3), (11, (13, 0, 0, []), 1), (12, (88, 0, 25, []), 3), (37, (101, 0, 0, []), 1)]
def zm104 : zM := (⟨"WindSignedModel", "greatest", "(II)I"⟩, prog_14_method_120_code, 4, (some .int), zp104, 0, 0, 12, false)
def zp105 : List zP := [(0, (20, 0, 0, []), 1), (1, (91, 78, 0, []), 3), (4, (11, 0, 0, []), 1), (5, (12, 0, 0, []), 1), (6, (103, 296, 0, []), 3), (9, (28, 0, 0, []), 1), (10, (13, 0, 0, []), 1), (11, (82, 0, 7, []), 3), (14, (13, 0, 0, []), 1), (15, (88, 0, 10, []), 3), (25, (101, 0, 0, []), 1)]
def zm105 : zM := (⟨"WindSigned", "least", "(II)I"⟩, prog_1_method_48_code, 4, (some .int), zp105, 0, 0, 11, false)
def zp106 : List zP := [(0, (20, 0, 0, []), 1), (1, (11, 0, 0, []), 1), (2, (12, 0, 0, []), 1), (3, (103, 405, 0, []), 3), (6, (28, 0, 0, []), 1), (7, (13, 0, 0, []), 1), (8, (85, 0, 7, []), 3), (11, (13, 0, 0, []), 1), (12, (88, 0, 20, []), 3), (32, (101, 0, 0, []), 1)]
def zm106 : zM := (⟨"WindSignedModel", "least", "(II)I"⟩, prog_14_method_119_code, 4, (some .int), zp106, 0, 0, 12, false)
def zp107 : List zP := [(0, (20, 0, 0, []), 1), (1, (91, 78, 0, []), 3), (4, (11, 0, 0, []), 1), (5, (12, 0, 0, []), 1), (6, (103, 296, 0, []), 3), (9, (28, 0, 0, []), 1), (10, (13, 0, 0, []), 1), (11, (82, 0, 7, []), 3), (14, (13, 0, 0, []), 1), (15, (88, 0, 10, []), 3), (25, (101, 0, 0, []), 1)]
def zm107 : zM := (⟨"WindSigned", "weights", "(II)I"⟩, prog_1_method_47_code, 4, (some .int), zp107, 0, 0, 11, false)
def zp108 : List zP := [(0, (20, 0, 0, []), 1), (1, (11, 0, 0, []), 1), (2, (12, 0, 0, []), 1), (3, (103, 405, 0, []), 3), (6, (28, 0, 0, []), 1), (7, (13, 0, 0, []), 1), (8, (85, 0, 7, []), 3), (11, (13, 0, 0, []), 1), (12, (88, 0, 7, []), 3), (19, (101, 0, 0, []), 1)]
def zm108 : zM := (⟨"WindSignedModel", "weights", "(II)I"⟩, prog_14_method_118_code, 4, (some .int), zp108, 0, 0, 12, false)
def zp109 : List zP := [(0, (20, 0, 0, []), 1), (1, (91, 28, 0, []), 3), (4, (103, 205, 0, []), 3), (7, (82, 0, 13, []), 3), (20, (1, 0, (-2), []), 2), (22, (101, 0, 0, []), 1)]
def zm109 : zM := (⟨"WindSigned", "burden", "()I"⟩, prog_1_method_46_code, 1, (some .int), zp109, 0, 0, 11, false)
def zp110 : List zP := [(0, (20, 0, 0, []), 1), (1, (103, 310, 0, []), 3), (4, (83, 0, 6, []), 3), (7, (1, 0, (-2), []), 2), (9, (101, 0, 0, []), 1), (70, (101, 0, 0, []), 1)]
def zm110 : zM := (⟨"WindSignedModel", "burden", "()I"⟩, prog_14_method_113_code, 4, (some .int), zp110, 0, 0, 12, false)
def zp111 : List zP := [(0, (20, 0, 0, []), 1), (1, (91, 28, 0, []), 3), (4, (103, 205, 0, []), 3), (7, (82, 0, 13, []), 3), (20, (1, 0, (-2), []), 2), (22, (101, 0, 0, []), 1)]
def zm111 : zM := (⟨"WindSigned", "blame", "()I"⟩, prog_1_method_45_code, 1, (some .int), zp111, 0, 0, 11, false)
def zp112 : List zP := [(0, (20, 0, 0, []), 1), (1, (103, 310, 0, []), 3), (4, (83, 0, 6, []), 3), (7, (1, 0, (-2), []), 2), (9, (101, 0, 0, []), 1), (72, (101, 0, 0, []), 1)]
def zm112 : zM := (⟨"WindSignedModel", "blame", "()I"⟩, prog_14_method_112_code, 4, (some .int), zp112, 0, 0, 12, false)
def zp113 : List zP := [(0, (20, 0, 0, []), 1), (1, (11, 0, 0, []), 1), (2, (103, 145, 0, []), 3), (5, (82, 0, 23, []), 3), (28, (1, 0, (-2), []), 2), (30, (101, 0, 0, []), 1)]
def zm113 : zM := (⟨"WindSigned", "bring", "(II)I"⟩, prog_1_method_44_code, 3, (some .int), zp113, 0, 0, 11, false)
def zp114 : List zP := [(0, (20, 0, 0, []), 1), (1, (11, 0, 0, []), 1), (2, (103, 235, 0, []), 3), (5, (82, 0, 11, []), 3), (16, (1, 0, (-2), []), 2), (18, (101, 0, 0, []), 1), (95, (101, 0, 0, []), 1)]
def zm114 : zM := (⟨"WindSignedModel", "bring", "(II)I"⟩, prog_14_method_111_code, 8, (some .int), zp114, 0, 0, 12, false)
def zp115 : List zP := [(0, (20, 0, 0, []), 1), (1, (11, 0, 0, []), 1), (2, (103, 145, 0, []), 3), (5, (82, 0, 27, []), 3), (32, (1, 0, (-2), []), 2), (34, (101, 0, 0, []), 1), (49, (101, 0, 0, []), 1)]
def zm115 : zM := (⟨"WindSigned", "blow", "(IIII)I"⟩, prog_1_method_43_code, 5, (some .int), zp115, 0, 0, 11, false)
def zp116 : List zP := [(0, (20, 0, 0, []), 1), (1, (11, 0, 0, []), 1), (2, (103, 235, 0, []), 3), (5, (82, 0, 33, []), 3), (38, (1, 0, (-2), []), 2), (40, (101, 0, 0, []), 1), (66, (101, 0, 0, []), 1)]
def zm116 : zM := (⟨"WindSignedModel", "blow", "(IIII)I"⟩, prog_14_method_110_code, 6, (some .int), zp116, 0, 0, 12, false)
def zp117 : List zP := [(0, (20, 0, 0, []), 1), (1, (11, 0, 0, []), 1), (2, (103, 145, 0, []), 3), (5, (82, 0, 14, []), 3), (19, (1, 0, (-2), []), 2), (21, (101, 0, 0, []), 1)]
def zm117 : zM := (⟨"WindSigned", "keeps", "(I)I"⟩, prog_1_method_42_code, 2, (some .int), zp117, 0, 0, 11, false)
def zp118 : List zP := [(0, (20, 0, 0, []), 1), (1, (11, 0, 0, []), 1), (2, (103, 235, 0, []), 3), (5, (82, 0, 11, []), 3), (16, (1, 0, (-2), []), 2), (18, (101, 0, 0, []), 1)]
def zm118 : zM := (⟨"WindSignedModel", "keeps", "(I)I"⟩, prog_14_method_108_code, 2, (some .int), zp118, 0, 0, 12, false)
def zp119 : List zP := [(0, (20, 0, 0, []), 1), (1, (11, 0, 0, []), 1), (2, (103, 145, 0, []), 3), (5, (83, 0, 6, []), 3), (8, (1, 0, (-2), []), 2), (10, (101, 0, 0, []), 1), (33, (101, 0, 0, []), 1)]
def zm119 : zM := (⟨"WindSigned", "keep", "(I)I"⟩, prog_1_method_41_code, 3, (some .int), zp119, 0, 0, 11, false)
def zp120 : List zP := [(0, (20, 0, 0, []), 1), (1, (11, 0, 0, []), 1), (2, (103, 235, 0, []), 3), (5, (83, 0, 6, []), 3), (8, (1, 0, (-2), []), 2), (10, (101, 0, 0, []), 1), (30, (101, 0, 0, []), 1)]
def zm120 : zM := (⟨"WindSignedModel", "keep", "(I)I"⟩, prog_14_method_107_code, 3, (some .int), zp120, 0, 0, 12, false)
def zp121 : List zP := [(0, (20, 0, 0, []), 1), (1, (91, 28, 0, []), 3), (4, (103, 205, 0, []), 3), (7, (83, 0, 6, []), 3), (10, (1, 0, (-2), []), 2), (12, (101, 0, 0, []), 1), (52, (101, 0, 0, []), 1)]
def zm121 : zM := (⟨"WindSigned", "strewn", "()I"⟩, prog_1_method_40_code, 3, (some .int), zp121, 0, 0, 11, false)
def zp122 : List zP := [(0, (20, 0, 0, []), 1), (1, (103, 310, 0, []), 3), (4, (83, 0, 6, []), 3), (7, (1, 0, (-2), []), 2), (9, (101, 0, 0, []), 1), (79, (101, 0, 0, []), 1)]
def zm122 : zM := (⟨"WindSignedModel", "strewn", "()I"⟩, prog_14_method_105_code, 5, (some .int), zp122, 0, 0, 12, false)
def zp123 : List zP := [(0, (20, 0, 0, []), 1), (1, (91, 28, 0, []), 3), (4, (103, 205, 0, []), 3), (7, (83, 0, 6, []), 3), (10, (1, 0, (-2), []), 2), (12, (101, 0, 0, []), 1), (49, (101, 0, 0, []), 1)]
def zm123 : zM := (⟨"WindSigned", "idle", "()I"⟩, prog_1_method_39_code, 3, (some .int), zp123, 0, 0, 11, false)
def zp124 : List zP := [(0, (20, 0, 0, []), 1), (1, (103, 310, 0, []), 3), (4, (83, 0, 6, []), 3), (7, (1, 0, (-2), []), 2), (9, (101, 0, 0, []), 1), (50, (101, 0, 0, []), 1)]
def zm124 : zM := (⟨"WindSignedModel", "idle", "()I"⟩, prog_14_method_104_code, 3, (some .int), zp124, 0, 0, 12, false)
def zp125 : List zP := [(0, (20, 0, 0, []), 1), (1, (11, 0, 0, []), 1), (2, (103, 157, 0, []), 3), (5, (82, 0, 11, []), 3), (16, (1, 0, (-2), []), 2), (18, (101, 0, 0, []), 1)]
def zm125 : zM := (⟨"WindSigned", "moves", "(I)I"⟩, prog_1_method_38_code, 2, (some .int), zp125, 0, 0, 11, false)
def zp126 : List zP := [(0, (11, 0, 0, []), 1), (1, (84, 0, 18, []), 3), (4, (11, 0, 0, []), 1), (5, (20, 0, 0, []), 1), (6, (91, 28, 0, []), 3), (9, (91, 271, 0, []), 3), (12, (79, 0, 7, []), 3), (19, (0, 0, 0, []), 1), (20, (101, 0, 0, []), 1)]
def zm126 : zM := (⟨"WindSigned", "isWind", "(I)Z"⟩, prog_1_method_77_code, 2, (some .boolean), zp126, 0, 0, 11, false)
def zp127 : List zP := [(0, (20, 0, 0, []), 1), (1, (103, 310, 0, []), 3), (4, (63, 0, 0, []), 1), (5, (11, 0, 0, []), 1), (6, (59, 0, 0, []), 1), (7, (3, 0, 0, []), 1), (8, (20, 0, 0, []), 1), (9, (91, 9, 0, []), 3), (12, (1, 0, 8, []), 2), (14, (67, 0, 0, []), 1), (15, (0, 0, 1, []), 1), (16, (41, 0, 0, []), 1), (17, (59, 0, 0, []), 1), (18, (104, 82, 0, []), 3), (21, (82, 0, 11, []), 3), (32, (1, 0, (-2), []), 2), (34, (101, 0, 0, []), 1)]
def zm127 : zM := (⟨"WindSignedModel", "moves", "(I)I"⟩, prog_14_method_103_code, 2, (some .int), zp127, 0, 0, 12, false)
def zp128 : List zP := [(0, (20, 0, 0, []), 1), (1, (11, 0, 0, []), 1), (2, (103, 145, 0, []), 3), (5, (82, 0, 15, []), 3), (20, (1, 0, (-2), []), 2), (22, (101, 0, 0, []), 1)]
def zm128 : zM := (⟨"WindSigned", "movers", "(I)I"⟩, prog_1_method_37_code, 2, (some .int), zp128, 0, 0, 11, false)
def zp129 : List zP := [(0, (20, 0, 0, []), 1), (1, (11, 0, 0, []), 1), (2, (103, 338, 0, []), 3), (5, (82, 0, 12, []), 3), (17, (1, 0, (-2), []), 2), (19, (101, 0, 0, []), 1)]
def zm129 : zM := (⟨"WindSignedModel", "movers", "(I)I"⟩, prog_14_method_101_code, 2, (some .int), zp129, 0, 0, 12, false)
def zp130 : List zP := [(0, (20, 0, 0, []), 1), (1, (103, 310, 0, []), 3), (4, (63, 0, 0, []), 1), (5, (20, 0, 0, []), 1), (6, (11, 0, 0, []), 1), (7, (103, 235, 0, []), 3), (10, (101, 0, 0, []), 1)]
def zm130 : zM := (⟨"WindSignedModel", "asksThing", "(I)Z"⟩, prog_14_method_62_code, 2, (some .boolean), zp130, 0, 0, 12, false)
def zp131 : List zP := [(0, (20, 0, 0, []), 1), (1, (91, 28, 0, []), 3), (4, (103, 205, 0, []), 3), (7, (83, 0, 6, []), 3), (10, (1, 0, (-2), []), 2), (12, (101, 0, 0, []), 1), (58, (101, 0, 0, []), 1)]
def zm131 : zM := (⟨"WindSigned", "gale", "()I"⟩, prog_1_method_36_code, 5, (some .int), zp131, 0, 0, 11, false)
def zp132 : List zP := [(0, (20, 0, 0, []), 1), (1, (103, 310, 0, []), 3), (4, (83, 0, 6, []), 3), (7, (1, 0, (-2), []), 2), (9, (101, 0, 0, []), 1), (59, (101, 0, 0, []), 1)]
def zm132 : zM := (⟨"WindSignedModel", "gale", "()I"⟩, prog_14_method_100_code, 3, (some .int), zp132, 0, 0, 12, false)
def zp133 : List zP := [(0, (20, 0, 0, []), 1), (1, (11, 0, 0, []), 1), (2, (103, 182, 0, []), 3), (5, (83, 0, 6, []), 3), (8, (1, 0, (-2), []), 2), (10, (101, 0, 0, []), 1), (59, (101, 0, 0, []), 1)]
def zm133 : zM := (⟨"WindSigned", "force", "(I)I"⟩, prog_1_method_35_code, 4, (some .int), zp133, 0, 0, 11, false)
def zp134 : List zP := [(0, (20, 0, 0, []), 1), (1, (11, 0, 0, []), 1), (2, (59, 0, 0, []), 1), (3, (103, 317, 0, []), 3), (6, (82, 0, 11, []), 3), (17, (1, 0, (-2), []), 2), (19, (101, 0, 0, []), 1)]
def zm134 : zM := (⟨"WindSignedModel", "force", "(I)I"⟩, prog_14_method_97_code, 2, (some .int), zp134, 0, 0, 12, false)
def zp135 : List zP := [(0, (20, 0, 0, []), 1), (1, (91, 28, 0, []), 3), (4, (103, 205, 0, []), 3), (7, (83, 0, 6, []), 3), (10, (1, 0, (-2), []), 2), (12, (101, 0, 0, []), 1), (67, (101, 0, 0, []), 1)]
def zm135 : zM := (⟨"WindSigned", "lull", "()I"⟩, prog_1_method_34_code, 5, (some .int), zp135, 0, 0, 11, false)
def zp136 : List zP := [(0, (20, 0, 0, []), 1), (1, (103, 86, 0, []), 3), (4, (83, 0, 6, []), 3), (7, (1, 0, (-2), []), 2), (9, (101, 0, 0, []), 1), (53, (101, 0, 0, []), 1)]
def zm136 : zM := (⟨"WindSignedModel", "lull", "()I"⟩, prog_14_method_99_code, 4, (some .int), zp136, 0, 0, 12, false)
def zp137 : List zP := [(0, (20, 0, 0, []), 1), (1, (91, 28, 0, []), 3), (4, (103, 205, 0, []), 3), (7, (82, 0, 10, []), 3), (17, (1, 0, (-2), []), 2), (19, (101, 0, 0, []), 1)]
def zm137 : zM := (⟨"WindSigned", "lulls", "()I"⟩, prog_1_method_33_code, 1, (some .int), zp137, 0, 0, 11, false)
def zp138 : List zP := [(0, (20, 0, 0, []), 1), (1, (103, 86, 0, []), 3), (4, (83, 0, 6, []), 3), (7, (1, 0, (-2), []), 2), (9, (101, 0, 0, []), 1), (47, (101, 0, 0, []), 1)]
def zm138 : zM := (⟨"WindSignedModel", "lulls", "()I"⟩, prog_14_method_98_code, 3, (some .int), zp138, 0, 0, 12, false)
def zp139 : List zP := [(0, (20, 0, 0, []), 1), (1, (11, 0, 0, []), 1), (2, (103, 145, 0, []), 3), (5, (82, 0, 11, []), 3), (16, (1, 0, (-2), []), 2), (18, (101, 0, 0, []), 1), (87, (101, 0, 0, []), 1)]
def zm139 : zM := (⟨"WindSigned", "lee", "(II)I"⟩, prog_1_method_32_code, 7, (some .int), zp139, 0, 0, 11, false)
def zp140 : List zP := [(0, (20, 0, 0, []), 1), (1, (12, 0, 0, []), 1), (2, (103, 320, 0, []), 3), (5, (82, 0, 11, []), 3), (16, (1, 0, (-2), []), 2), (18, (101, 0, 0, []), 1), (73, (101, 0, 0, []), 1)]
def zm140 : zM := (⟨"WindSignedModel", "lee", "(II)I"⟩, prog_14_method_95_code, 5, (some .int), zp140, 0, 0, 12, false)
def zp141 : List zP := [(0, (20, 0, 0, []), 1), (1, (103, 310, 0, []), 3), (4, (63, 0, 0, []), 1), (5, (20, 0, 0, []), 1), (6, (11, 0, 0, []), 1), (7, (59, 0, 0, []), 1), (8, (103, 313, 0, []), 3), (11, (101, 0, 0, []), 1)]
def zm141 : zM := (⟨"WindSignedModel", "asksDay", "(I)Z"⟩, prog_14_method_60_code, 2, (some .boolean), zp141, 0, 0, 12, false)
def zp142 : List zP := [(0, (20, 0, 0, []), 1), (1, (103, 86, 0, []), 3), (4, (82, 0, 20, []), 3), (24, (0, 0, 0, []), 1), (25, (101, 0, 0, []), 1)]
def zm142 : zM := (⟨"WindSignedModel", "isDay", "(J)Z"⟩, prog_14_method_13_code, 3, (some .boolean), zp142, 0, 0, 12, false)
def zp143 : List zP := [(0, (20, 0, 0, []), 1), (1, (11, 0, 0, []), 1), (2, (103, 145, 0, []), 3), (5, (83, 0, 6, []), 3), (8, (1, 0, (-2), []), 2), (10, (101, 0, 0, []), 1), (58, (101, 0, 0, []), 1)]
def zm143 : zM := (⟨"WindSigned", "mostly", "(I)I"⟩, prog_1_method_31_code, 6, (some .int), zp143, 0, 0, 11, false)
def zp144 : List zP := [(0, (20, 0, 0, []), 1), (1, (11, 0, 0, []), 1), (2, (103, 338, 0, []), 3), (5, (83, 0, 6, []), 3), (8, (1, 0, (-2), []), 2), (10, (101, 0, 0, []), 1), (92, (101, 0, 0, []), 1)]
def zm144 : zM := (⟨"WindSignedModel", "mostly", "(I)I"⟩, prog_14_method_87_code, 7, (some .int), zp144, 0, 0, 12, false)
def zp145 : List zP := [(0, (20, 0, 0, []), 1), (1, (11, 0, 0, []), 1), (2, (103, 169, 0, []), 3), (5, (83, 0, 6, []), 3), (8, (1, 0, (-2), []), 2), (10, (101, 0, 0, []), 1), (55, (101, 0, 0, []), 1)]
def zm145 : zM := (⟨"WindSigned", "edge", "(I)I"⟩, prog_1_method_30_code, 4, (some .int), zp145, 0, 0, 11, false)
def zp146 : List zP := [(0, (20, 0, 0, []), 1), (1, (91, 28, 0, []), 3), (4, (103, 205, 0, []), 3), (7, (82, 0, 22, []), 3), (29, (0, 0, 0, []), 1), (30, (101, 0, 0, []), 1)]
def zm146 : zM := (⟨"WindSigned", "isDay", "(I)Z"⟩, prog_1_method_78_code, 2, (some .boolean), zp146, 0, 0, 11, false)
def zp147 : List zP := [(0, (20, 0, 0, []), 1), (1, (11, 0, 0, []), 1), (2, (103, 320, 0, []), 3), (5, (83, 0, 6, []), 3), (8, (1, 0, (-2), []), 2), (10, (101, 0, 0, []), 1), (63, (101, 0, 0, []), 1)]
def zm147 : zM := (⟨"WindSignedModel", "edge", "(I)I"⟩, prog_14_method_94_code, 4, (some .int), zp147, 0, 0, 12, false)
def zp148 : List zP := [(0, (20, 0, 0, []), 1), (1, (11, 0, 0, []), 1), (2, (103, 169, 0, []), 3), (5, (83, 0, 6, []), 3), (8, (1, 0, (-2), []), 2), (10, (101, 0, 0, []), 1), (55, (101, 0, 0, []), 1)]
def zm148 : zM := (⟨"WindSigned", "under", "(I)I"⟩, prog_1_method_29_code, 4, (some .int), zp148, 0, 0, 11, false)
def zp149 : List zP := [(0, (20, 0, 0, []), 1), (1, (11, 0, 0, []), 1), (2, (103, 320, 0, []), 3), (5, (83, 0, 6, []), 3), (8, (1, 0, (-2), []), 2), (10, (101, 0, 0, []), 1), (64, (101, 0, 0, []), 1)]
def zm149 : zM := (⟨"WindSignedModel", "under", "(I)I"⟩, prog_14_method_92_code, 4, (some .int), zp149, 0, 0, 12, false)
def zp150 : List zP := [(0, (20, 0, 0, []), 1), (1, (11, 0, 0, []), 1), (2, (103, 169, 0, []), 3), (5, (83, 0, 6, []), 3), (8, (1, 0, (-2), []), 2), (10, (101, 0, 0, []), 1), (62, (101, 0, 0, []), 1)]
def zm150 : zM := (⟨"WindSigned", "heap", "(I)I"⟩, prog_1_method_28_code, 5, (some .int), zp150, 0, 0, 11, false)
def zp151 : List zP := [(0, (20, 0, 0, []), 1), (1, (11, 0, 0, []), 1), (2, (103, 320, 0, []), 3), (5, (83, 0, 6, []), 3), (8, (1, 0, (-2), []), 2), (10, (101, 0, 0, []), 1), (59, (101, 0, 0, []), 1)]
def zm151 : zM := (⟨"WindSignedModel", "heap", "(I)I"⟩, prog_14_method_91_code, 4, (some .int), zp151, 0, 0, 12, false)
def zp152 : List zP := [(0, (20, 0, 0, []), 1), (1, (11, 0, 0, []), 1), (2, (103, 145, 0, []), 3), (5, (82, 0, 11, []), 3), (16, (1, 0, (-2), []), 2), (18, (101, 0, 0, []), 1), (58, (101, 0, 0, []), 1), (66, (101, 0, 0, []), 1)]
def zm152 : zM := (⟨"WindSigned", "meet", "(II)I"⟩, prog_1_method_27_code, 5, (some .int), zp152, 0, 0, 11, false)
def zp153 : List zP := [(0, (20, 0, 0, []), 1), (1, (103, 310, 0, []), 3), (4, (63, 0, 0, []), 1), (5, (20, 0, 0, []), 1), (6, (11, 0, 0, []), 1), (7, (103, 235, 0, []), 3), (10, (82, 0, 11, []), 3), (21, (1, 0, (-2), []), 2), (23, (101, 0, 0, []), 1), (60, (101, 0, 0, []), 1), (68, (101, 0, 0, []), 1)]
def zm153 : zM := (⟨"WindSignedModel", "meet", "(II)I"⟩, prog_14_method_90_code, 4, (some .int), zp153, 0, 0, 12, false)
def zp154 : List zP := [(0, (20, 0, 0, []), 1), (1, (11, 0, 0, []), 1), (2, (103, 145, 0, []), 3), (5, (82, 0, 19, []), 3), (24, (1, 0, (-2), []), 2), (26, (101, 0, 0, []), 1), (66, (101, 0, 0, []), 1)]
def zm154 : zM := (⟨"WindSigned", "apart", "(III)I"⟩, prog_1_method_26_code, 6, (some .int), zp154, 0, 0, 11, false)
def zp155 : List zP := [(0, (20, 0, 0, []), 1), (1, (13, 0, 0, []), 1), (2, (103, 320, 0, []), 3), (5, (82, 0, 19, []), 3), (24, (1, 0, (-2), []), 2), (26, (101, 0, 0, []), 1), (66, (101, 0, 0, []), 1)]
def zm155 : zM := (⟨"WindSignedModel", "apart", "(III)I"⟩, prog_14_method_89_code, 4, (some .int), zp155, 0, 0, 12, false)
def zp156 : List zP := [(0, (20, 0, 0, []), 1), (1, (11, 0, 0, []), 1), (2, (103, 145, 0, []), 3), (5, (83, 0, 6, []), 3), (8, (1, 0, (-2), []), 2), (10, (101, 0, 0, []), 1), (66, (101, 0, 0, []), 1)]
def zm156 : zM := (⟨"WindSigned", "far", "(I)I"⟩, prog_1_method_25_code, 5, (some .int), zp156, 0, 0, 11, false)
def zp157 : List zP := [(0, (20, 0, 0, []), 1), (1, (11, 0, 0, []), 1), (2, (103, 338, 0, []), 3), (5, (83, 0, 6, []), 3), (8, (1, 0, (-2), []), 2), (10, (101, 0, 0, []), 1), (60, (101, 0, 0, []), 1)]
def zm157 : zM := (⟨"WindSignedModel", "far", "(I)I"⟩, prog_14_method_88_code, 4, (some .int), zp157, 0, 0, 12, false)
def zp158 : List zP := [(0, (20, 0, 0, []), 1), (1, (11, 0, 0, []), 1), (2, (103, 145, 0, []), 3), (5, (83, 0, 6, []), 3), (8, (1, 0, (-2), []), 2), (10, (101, 0, 0, []), 1), (34, (101, 0, 0, []), 1), (42, (101, 0, 0, []), 1)]
def zm158 : zM := (⟨"WindSigned", "home", "(I)I"⟩, prog_1_method_24_code, 3, (some .int), zp158, 0, 0, 11, false)
def zp159 : List zP := [(0, (20, 0, 0, []), 1), (1, (11, 0, 0, []), 1), (2, (103, 338, 0, []), 3), (5, (83, 0, 6, []), 3), (8, (1, 0, (-2), []), 2), (10, (101, 0, 0, []), 1), (37, (101, 0, 0, []), 1), (45, (101, 0, 0, []), 1)]
def zm159 : zM := (⟨"WindSignedModel", "home", "(I)I"⟩, prog_14_method_86_code, 3, (some .int), zp159, 0, 0, 12, false)
def zp160 : List zP := [(0, (20, 0, 0, []), 1), (1, (11, 0, 0, []), 1), (2, (103, 169, 0, []), 3), (5, (83, 0, 6, []), 3), (8, (1, 0, (-2), []), 2), (10, (101, 0, 0, []), 1), (66, (101, 0, 0, []), 1)]
def zm160 : zM := (⟨"WindSigned", "rich", "(I)I"⟩, prog_1_method_23_code, 6, (some .int), zp160, 0, 0, 11, false)
def zp161 : List zP := [(0, (20, 0, 0, []), 1), (1, (11, 0, 0, []), 1), (2, (103, 320, 0, []), 3), (5, (83, 0, 6, []), 3), (8, (1, 0, (-2), []), 2), (10, (101, 0, 0, []), 1), (58, (101, 0, 0, []), 1)]
def zm161 : zM := (⟨"WindSignedModel", "rich", "(I)I"⟩, prog_14_method_85_code, 4, (some .int), zp161, 0, 0, 12, false)
def zp162 : List zP := [(0, (20, 0, 0, []), 1), (1, (11, 0, 0, []), 1), (2, (103, 169, 0, []), 3), (5, (83, 0, 6, []), 3), (8, (1, 0, (-2), []), 2), (10, (101, 0, 0, []), 1), (48, (101, 0, 0, []), 1)]
def zm162 : zM := (⟨"WindSigned", "right", "(I)I"⟩, prog_1_method_22_code, 4, (some .int), zp162, 0, 0, 11, false)
def zp163 : List zP := [(0, (20, 0, 0, []), 1), (1, (11, 0, 0, []), 1), (2, (103, 320, 0, []), 3), (5, (82, 0, 11, []), 3), (16, (1, 0, (-2), []), 2), (18, (101, 0, 0, []), 1)]
def zm163 : zM := (⟨"WindSignedModel", "right", "(I)I"⟩, prog_14_method_84_code, 2, (some .int), zp163, 0, 0, 12, false)
def zp164 : List zP := [(0, (20, 0, 0, []), 1), (1, (11, 0, 0, []), 1), (2, (103, 131, 0, []), 3), (5, (82, 0, 20, []), 3), (25, (1, 0, (-2), []), 2), (27, (101, 0, 0, []), 1)]
def zm164 : zM := (⟨"WindSigned", "has", "(II)I"⟩, prog_1_method_21_code, 3, (some .int), zp164, 0, 0, 11, false)
def zp165 : List zP := [(0, (20, 0, 0, []), 1), (1, (12, 0, 0, []), 1), (2, (103, 320, 0, []), 3), (5, (82, 0, 20, []), 3), (25, (1, 0, (-2), []), 2), (27, (101, 0, 0, []), 1)]
def zm165 : zM := (⟨"WindSignedModel", "has", "(II)I"⟩, prog_14_method_81_code, 3, (some .int), zp165, 0, 0, 12, false)
def zp166 : List zP := [(0, (20, 0, 0, []), 1), (1, (11, 0, 0, []), 1), (2, (103, 145, 0, []), 3), (5, (82, 0, 20, []), 3), (25, (1, 0, (-2), []), 2), (27, (101, 0, 0, []), 1)]
def zm166 : zM := (⟨"WindSigned", "had", "(II)I"⟩, prog_1_method_20_code, 3, (some .int), zp166, 0, 0, 11, false)
def zp167 : List zP := [(0, (20, 0, 0, []), 1), (1, (12, 0, 0, []), 1), (2, (103, 320, 0, []), 3), (5, (82, 0, 20, []), 3), (25, (1, 0, (-2), []), 2), (27, (101, 0, 0, []), 1)]
def zm167 : zM := (⟨"WindSignedModel", "had", "(II)I"⟩, prog_14_method_79_code, 3, (some .int), zp167, 0, 0, 12, false)
def zp168 : List zP := [(0, (20, 0, 0, []), 1), (1, (11, 0, 0, []), 1), (2, (103, 169, 0, []), 3), (5, (82, 0, 12, []), 3), (17, (1, 0, (-2), []), 2), (19, (101, 0, 0, []), 1)]
def zm168 : zM := (⟨"WindSigned", "gone", "(I)I"⟩, prog_1_method_19_code, 2, (some .int), zp168, 0, 0, 11, false)
def zp169 : List zP := [(0, (20, 0, 0, []), 1), (1, (11, 0, 0, []), 1), (2, (103, 320, 0, []), 3), (5, (82, 0, 12, []), 3), (17, (1, 0, (-2), []), 2), (19, (101, 0, 0, []), 1)]
def zm169 : zM := (⟨"WindSignedModel", "gone", "(I)I"⟩, prog_14_method_77_code, 2, (some .int), zp169, 0, 0, 12, false)
def zp170 : List zP := [(0, (20, 0, 0, []), 1), (1, (91, 28, 0, []), 3), (4, (103, 205, 0, []), 3), (7, (83, 0, 6, []), 3), (10, (1, 0, (-2), []), 2), (12, (101, 0, 0, []), 1), (60, (101, 0, 0, []), 1)]
def zm170 : zM := (⟨"WindSigned", "heir", "()I"⟩, prog_1_method_18_code, 5, (some .int), zp170, 0, 0, 11, false)
def zp171 : List zP := [(0, (20, 0, 0, []), 1), (1, (103, 310, 0, []), 3), (4, (83, 0, 6, []), 3), (7, (1, 0, (-2), []), 2), (9, (101, 0, 0, []), 1), (49, (101, 0, 0, []), 1)]
def zm171 : zM := (⟨"WindSignedModel", "heir", "()I"⟩, prog_14_method_76_code, 3, (some .int), zp171, 0, 0, 12, false)
def zp172 : List zP := [(0, (20, 0, 0, []), 1), (1, (11, 0, 0, []), 1), (2, (103, 145, 0, []), 3), (5, (82, 0, 11, []), 3), (16, (1, 0, (-2), []), 2), (18, (101, 0, 0, []), 1)]
def zm172 : zM := (⟨"WindSigned", "waits", "(I)I"⟩, prog_1_method_17_code, 2, (some .int), zp172, 0, 0, 11, false)
def zp173 : List zP := [(0, (20, 0, 0, []), 1), (1, (11, 0, 0, []), 1), (2, (103, 338, 0, []), 3), (5, (82, 0, 11, []), 3), (16, (1, 0, (-2), []), 2), (18, (101, 0, 0, []), 1)]
def zm173 : zM := (⟨"WindSignedModel", "waits", "(I)I"⟩, prog_14_method_75_code, 2, (some .int), zp173, 0, 0, 12, false)
def zp174 : List zP := [(0, (20, 0, 0, []), 1), (1, (11, 0, 0, []), 1), (2, (103, 169, 0, []), 3), (5, (83, 0, 6, []), 3), (8, (1, 0, (-2), []), 2), (10, (101, 0, 0, []), 1), (62, (101, 0, 0, []), 1)]
def zm174 : zM := (⟨"WindSigned", "signed", "(I)I"⟩, prog_1_method_16_code, 5, (some .int), zp174, 0, 0, 11, false)
def zp175 : List zP := [(0, (20, 0, 0, []), 1), (1, (11, 0, 0, []), 1), (2, (103, 320, 0, []), 3), (5, (83, 0, 6, []), 3), (8, (1, 0, (-2), []), 2), (10, (101, 0, 0, []), 1), (60, (101, 0, 0, []), 1)]
def zm175 : zM := (⟨"WindSignedModel", "signed", "(I)I"⟩, prog_14_method_73_code, 4, (some .int), zp175, 0, 0, 12, false)
def zp176 : List zP := [(0, (20, 0, 0, []), 1), (1, (11, 0, 0, []), 1), (2, (103, 145, 0, []), 3), (5, (82, 0, 15, []), 3), (20, (1, 0, (-2), []), 2), (22, (101, 0, 0, []), 1)]
def zm176 : zM := (⟨"WindSigned", "received", "(I)I"⟩, prog_1_method_15_code, 2, (some .int), zp176, 0, 0, 11, false)
def zp177 : List zP := [(0, (20, 0, 0, []), 1), (1, (11, 0, 0, []), 1), (2, (103, 338, 0, []), 3), (5, (82, 0, 12, []), 3), (17, (1, 0, (-2), []), 2), (19, (101, 0, 0, []), 1)]
def zm177 : zM := (⟨"WindSignedModel", "received", "(I)I"⟩, prog_14_method_72_code, 2, (some .int), zp177, 0, 0, 12, false)
def zp178 : List zP := [(0, (20, 0, 0, []), 1), (1, (11, 0, 0, []), 1), (2, (103, 145, 0, []), 3), (5, (82, 0, 15, []), 3), (20, (1, 0, (-2), []), 2), (22, (101, 0, 0, []), 1)]
def zm178 : zM := (⟨"WindSigned", "worn", "(I)I"⟩, prog_1_method_14_code, 2, (some .int), zp178, 0, 0, 11, false)
def zp179 : List zP := [(0, (20, 0, 0, []), 1), (1, (11, 0, 0, []), 1), (2, (103, 338, 0, []), 3), (5, (82, 0, 11, []), 3), (16, (1, 0, (-2), []), 2), (18, (101, 0, 0, []), 1)]
def zm179 : zM := (⟨"WindSignedModel", "worn", "(I)I"⟩, prog_14_method_71_code, 2, (some .int), zp179, 0, 0, 12, false)
def zp180 : List zP := [(0, (20, 0, 0, []), 1), (1, (11, 0, 0, []), 1), (2, (103, 145, 0, []), 3), (5, (82, 0, 25, []), 3), (30, (1, 0, (-2), []), 2), (32, (101, 0, 0, []), 1)]
def zm180 : zM := (⟨"WindSigned", "steps", "(II)I"⟩, prog_1_method_13_code, 3, (some .int), zp180, 0, 0, 11, false)
def zp181 : List zP := [(0, (20, 0, 0, []), 1), (1, (12, 0, 0, []), 1), (2, (103, 332, 0, []), 3), (5, (82, 0, 25, []), 3), (30, (1, 0, (-2), []), 2), (32, (101, 0, 0, []), 1)]
def zm181 : zM := (⟨"WindSignedModel", "steps", "(II)I"⟩, prog_14_method_69_code, 3, (some .int), zp181, 0, 0, 12, false)
def zp182 : List zP := [(0, (20, 0, 0, []), 1), (1, (103, 310, 0, []), 3), (4, (63, 0, 0, []), 1), (5, (20, 0, 0, []), 1), (6, (11, 0, 0, []), 1), (7, (59, 0, 0, []), 1), (8, (103, 317, 0, []), 3), (11, (101, 0, 0, []), 1)]
def zm182 : zM := (⟨"WindSignedModel", "asksAhead", "(I)Z"⟩, prog_14_method_61_code, 2, (some .boolean), zp182, 0, 0, 12, false)
def zp183 : List zP := [(0, (20, 0, 0, []), 1), (1, (11, 0, 0, []), 1), (2, (103, 182, 0, []), 3), (5, (82, 0, 11, []), 3), (16, (1, 0, (-2), []), 2), (18, (101, 0, 0, []), 1)]
def zm183 : zM := (⟨"WindSigned", "moved", "(I)I"⟩, prog_1_method_12_code, 2, (some .int), zp183, 0, 0, 11, false)
def zp184 : List zP := [(0, (20, 0, 0, []), 1), (1, (11, 0, 0, []), 1), (2, (103, 332, 0, []), 3), (5, (82, 0, 11, []), 3), (16, (1, 0, (-2), []), 2), (18, (101, 0, 0, []), 1)]
def zm184 : zM := (⟨"WindSignedModel", "moved", "(I)I"⟩, prog_14_method_68_code, 2, (some .int), zp184, 0, 0, 12, false)
def zp185 : List zP := [(0, (20, 0, 0, []), 1), (1, (12, 0, 0, []), 1), (2, (103, 169, 0, []), 3), (5, (82, 0, 23, []), 3), (28, (1, 0, (-2), []), 2), (30, (101, 0, 0, []), 1)]
def zm185 : zM := (⟨"WindSigned", "here", "(II)I"⟩, prog_1_method_11_code, 3, (some .int), zp185, 0, 0, 11, false)
def zp186 : List zP := [(0, (20, 0, 0, []), 1), (1, (12, 0, 0, []), 1), (2, (103, 320, 0, []), 3), (5, (82, 0, 21, []), 3), (26, (1, 0, (-2), []), 2), (28, (101, 0, 0, []), 1)]
def zm186 : zM := (⟨"WindSignedModel", "here", "(II)I"⟩, prog_14_method_66_code, 3, (some .int), zp186, 0, 0, 12, false)
def zp187 : List zP := [(0, (20, 0, 0, []), 1), (1, (11, 0, 0, []), 1), (2, (103, 145, 0, []), 3), (5, (82, 0, 20, []), 3), (25, (1, 0, (-2), []), 2), (27, (101, 0, 0, []), 1)]
def zm187 : zM := (⟨"WindSigned", "at", "(II)I"⟩, prog_1_method_10_code, 3, (some .int), zp187, 0, 0, 11, false)
def zp188 : List zP := [(0, (20, 0, 0, []), 1), (1, (12, 0, 0, []), 1), (2, (103, 320, 0, []), 3), (5, (82, 0, 20, []), 3), (25, (1, 0, (-2), []), 2), (27, (101, 0, 0, []), 1)]
def zm188 : zM := (⟨"WindSignedModel", "at", "(II)I"⟩, prog_14_method_64_code, 3, (some .int), zp188, 0, 0, 12, false)
def zp189 : List zP := [(0, (20, 0, 0, []), 1), (1, (11, 0, 0, []), 1), (2, (103, 157, 0, []), 3), (5, (83, 0, 6, []), 3), (8, (1, 0, (-2), []), 2), (10, (101, 0, 0, []), 1), (49, (101, 0, 0, []), 1), (59, (101, 0, 0, []), 1), (69, (101, 0, 0, []), 1), (72, (101, 0, 0, []), 1)]
def zm189 : zM := (⟨"WindSigned", "wind", "(II)I"⟩, prog_1_method_9_code, 3, (some .int), zp189, 0, 0, 11, false)
def zp190 : List zP := [(0, (11, 0, 0, []), 1), (1, (59, 0, 0, []), 1), (2, (3, 0, 0, []), 1), (3, (20, 0, 0, []), 1), (4, (91, 9, 0, []), 3), (7, (1, 0, 8, []), 2), (9, (67, 0, 0, []), 1), (10, (0, 0, 1, []), 1), (11, (41, 0, 0, []), 1), (12, (59, 0, 0, []), 1), (13, (104, 82, 0, []), 3), (16, (82, 0, 24, []), 3), (40, (1, 0, (-2), []), 2), (42, (101, 0, 0, []), 1)]
def zm190 : zM := (⟨"WindSignedModel", "wind", "(II)I"⟩, prog_14_method_44_code, 3, (some .int), zp190, 0, 0, 12, false)
def zp191 : List zP := [(0, (20, 0, 0, []), 1), (1, (11, 0, 0, []), 1), (2, (103, 145, 0, []), 3), (5, (83, 0, 6, []), 3), (8, (1, 0, (-2), []), 2), (10, (101, 0, 0, []), 1), (49, (101, 0, 0, []), 1), (59, (101, 0, 0, []), 1), (69, (101, 0, 0, []), 1), (72, (101, 0, 0, []), 1)]
def zm191 : zM := (⟨"WindSigned", "thing", "(II)I"⟩, prog_1_method_8_code, 3, (some .int), zp191, 0, 0, 11, false)
def zp192 : List zP := [(0, (20, 0, 0, []), 1), (1, (11, 0, 0, []), 1), (2, (103, 235, 0, []), 3), (5, (82, 0, 24, []), 3), (29, (1, 0, (-2), []), 2), (31, (101, 0, 0, []), 1)]
def zm192 : zM := (⟨"WindSignedModel", "thing", "(II)I"⟩, prog_14_method_43_code, 3, (some .int), zp192, 0, 0, 12, false)
def zp193 : List zP := [(0, (20, 0, 0, []), 1), (1, (11, 0, 0, []), 1), (2, (103, 139, 0, []), 3), (5, (82, 0, 15, []), 3), (20, (1, 0, (-2), []), 2), (22, (101, 0, 0, []), 1)]
def zm193 : zM := (⟨"WindSigned", "shelter", "(I)I"⟩, prog_1_method_7_code, 2, (some .int), zp193, 0, 0, 11, false)
def zp194 : List zP := [(0, (11, 0, 0, []), 1), (1, (59, 0, 0, []), 1), (2, (3, 0, 0, []), 1), (3, (20, 0, 0, []), 1), (4, (103, 232, 0, []), 3), (7, (0, 0, 1, []), 1), (8, (41, 0, 0, []), 1), (9, (59, 0, 0, []), 1), (10, (104, 82, 0, []), 3), (13, (82, 0, 15, []), 3), (28, (1, 0, (-2), []), 2), (30, (101, 0, 0, []), 1)]
def zm194 : zM := (⟨"WindSignedModel", "shelter", "(I)I"⟩, prog_14_method_42_code, 2, (some .int), zp194, 0, 0, 12, false)
def zp195 : List zP := [(0, (20, 0, 0, []), 1), (1, (11, 0, 0, []), 1), (2, (103, 131, 0, []), 3), (5, (82, 0, 15, []), 3), (20, (1, 0, (-2), []), 2), (22, (101, 0, 0, []), 1)]
def zm195 : zM := (⟨"WindSigned", "house", "(I)I"⟩, prog_1_method_6_code, 2, (some .int), zp195, 0, 0, 11, false)
def zp196 : List zP := [(0, (20, 0, 0, []), 1), (1, (11, 0, 0, []), 1), (2, (103, 228, 0, []), 3), (5, (82, 0, 15, []), 3), (20, (1, 0, (-2), []), 2), (22, (101, 0, 0, []), 1)]
def zm196 : zM := (⟨"WindSignedModel", "house", "(I)I"⟩, prog_14_method_41_code, 2, (some .int), zp196, 0, 0, 12, false)
def zp197 : List zP := [(0, (11, 0, 0, []), 1), (1, (90, 0, 37, [0, 27, 1, 32]), 27), (28, (20, 0, 0, []), 1), (29, (91, 90, 0, []), 3), (32, (101, 0, 0, []), 1), (33, (20, 0, 0, []), 1), (34, (91, 94, 0, []), 3), (37, (101, 0, 0, []), 1), (38, (0, 0, (-1), []), 1), (39, (101, 0, 0, []), 1)]
def zm197 : zM := (⟨"WindSigned", "fault", "(I)I"⟩, prog_1_method_5_code, 2, (some .int), zp197, 0, 0, 11, false)
def zp198 : List zP := [(0, (11, 0, 0, []), 1), (1, (83, 0, 10, []), 3), (4, (20, 0, 0, []), 1), (5, (91, 139, 0, []), 3), (8, (88, 0, 16, []), 3), (11, (11, 0, 0, []), 1), (12, (0, 0, 1, []), 1), (13, (77, 0, 10, []), 3), (16, (20, 0, 0, []), 1), (17, (91, 27, 0, []), 3), (20, (88, 0, 4, []), 3), (23, (0, 0, (-1), []), 1), (24, (101, 0, 0, []), 1)]
def zm198 : zM := (⟨"WindSignedModel", "fault", "(I)I"⟩, prog_14_method_31_code, 2, (some .int), zp198, 0, 0, 12, false)
def zp199 : List zP := [(0, (20, 0, 0, []), 1), (1, (91, 21, 0, []), 3), (4, (103, 104, 0, []), 3), (7, (20, 0, 0, []), 1), (8, (20, 0, 0, []), 1), (9, (91, 21, 0, []), 3), (12, (91, 107, 0, []), 3), (15, (91, 111, 0, []), 3), (18, (92, 90, 0, []), 3), (21, (20, 0, 0, []), 1), (22, (20, 0, 0, []), 1), (23, (91, 21, 0, []), 3), (26, (91, 107, 0, []), 3), (29, (91, 116, 0, []), 3), (32, (92, 94, 0, []), 3), (35, (20, 0, 0, []), 1), (36, (91, 90, 0, []), 3), (39, (82, 0, 6, []), 3), (44, (101, 0, 0, []), 1), (45, (20, 0, 0, []), 1), (46, (91, 28, 0, []), 3), (49, (20, 0, 0, []), 1), (50, (91, 21, 0, []), 3), (53, (91, 119, 0, []), 3), (56, (103, 122, 0, []), 3), (59, (20, 0, 0, []), 1), (60, (91, 10, 0, []), 3), (63, (0, 0, 0, []), 1), (64, (92, 97, 0, []), 3), (67, (20, 0, 0, []), 1), (68, (103, 125, 0, []), 3), (71, (20, 0, 0, []), 1), (72, (91, 28, 0, []), 3), (75, (91, 128, 0, []), 3), (78, (101, 0, 0, []), 1)]
def zm199 : zM := (⟨"WindSigned", "plain", "()I"⟩, prog_1_method_4_code, 1, (some .int), zp199, 0, 0, 11, false)
def zp200 : List zP := [(0, (20, 0, 0, []), 1), (1, (91, 23, 0, []), 3), (4, (103, 27, 0, []), 3), (7, (20, 0, 0, []), 1), (8, (91, 14, 0, []), 3), (11, (103, 30, 0, []), 3), (14, (0, 0, 0, []), 1), (15, (26, 0, 0, []), 1), (16, (11, 0, 0, []), 1), (17, (2, 0, 700, []), 3), (20, (79, 0, 157, []), 3), (23, (20, 0, 0, []), 1), (24, (91, 14, 0, []), 3), (27, (103, 35, 0, []), 3), (30, (82, 0, 147, []), 3), (33, (20, 0, 0, []), 1), (34, (91, 14, 0, []), 3), (37, (103, 39, 0, []), 3), (40, (83, 0, 137, []), 3), (177, (100, 0, 0, []), 1)]
def zm200 : zM := (⟨"WindSigned$Teller", "tell", "()V"⟩, prog_9_method_2_code, 2, none, zp200, 0, 0, 7, false)
def zp201 : List zP := [(0, (20, 0, 0, []), 1), (1, (0, 0, 0, []), 1), (2, (92, 43, 0, []), 3), (5, (20, 0, 0, []), 1), (6, (0, 0, 0, []), 1), (7, (92, 47, 0, []), 3), (10, (20, 0, 0, []), 1), (11, (0, 0, 0, []), 1), (12, (92, 50, 0, []), 3), (15, (20, 0, 0, []), 1), (16, (0, 0, 0, []), 1), (17, (92, 53, 0, []), 3), (20, (20, 0, 0, []), 1), (21, (0, 0, 0, []), 1), (22, (92, 56, 0, []), 3), (25, (20, 0, 0, []), 1), (26, (0, 0, 0, []), 1), (27, (92, 59, 0, []), 3), (30, (20, 0, 0, []), 1), (31, (0, 0, 0, []), 1), (32, (92, 62, 0, []), 3), (35, (20, 0, 0, []), 1), (36, (0, 0, 0, []), 1), (37, (92, 65, 0, []), 3), (40, (20, 0, 0, []), 1), (41, (0, 0, 0, []), 1), (42, (92, 68, 0, []), 3), (45, (20, 0, 0, []), 1), (46, (0, 0, 0, []), 1), (47, (92, 71, 0, []), 3), (50, (20, 0, 0, []), 1), (51, (91, 39, 0, []), 3), (54, (0, 0, 0, []), 1), (55, (92, 74, 0, []), 3), (58, (100, 0, 0, []), 1)]
def zm201 : zM := (⟨"WindSigned$Plain", "clear", "()V"⟩, prog_5_method_2_code, 1, none, zp201, 0, 0, 3, false)
def zp202 : List zP := [(0, (20, 0, 0, []), 1), (1, (0, 0, 0, []), 1), (2, (92, 15, 0, []), 3), (5, (20, 0, 0, []), 1), (6, (0, 0, (-1), []), 1), (7, (92, 19, 0, []), 3), (10, (20, 0, 0, []), 1), (11, (0, 0, 0, []), 1), (12, (92, 22, 0, []), 3), (15, (20, 0, 0, []), 1), (16, (103, 25, 0, []), 3), (19, (100, 0, 0, []), 1)]
def zm202 : zM := (⟨"WindSigned$Tokens", "open", "()V"⟩, prog_10_method_2_code, 1, none, zp202, 0, 0, 8, false)
def zp203 : List zP := [(0, (20, 0, 0, []), 1), (1, (91, 15, 0, []), 3), (4, (82, 0, 4, []), 3), (7, (100, 0, 0, []), 1), (8, (20, 0, 0, []), 1), (9, (20, 0, 0, []), 1), (10, (91, 22, 0, []), 3), (13, (92, 31, 0, []), 3), (16, (20, 0, 0, []), 1), (17, (91, 31, 0, []), 3), (20, (20, 0, 0, []), 1), (21, (91, 9, 0, []), 3), (24, (91, 65, 0, []), 3), (27, (79, 0, 28, []), 3), (55, (20, 0, 0, []), 1), (56, (20, 0, 0, []), 1), (57, (91, 31, 0, []), 3), (60, (92, 22, 0, []), 3), (63, (20, 0, 0, []), 1), (64, (0, 0, 0, []), 1), (65, (92, 58, 0, []), 3), (68, (20, 0, 0, []), 1), (69, (20, 0, 0, []), 1), (70, (20, 0, 0, []), 1), (71, (91, 31, 0, []), 3), (74, (103, 67, 0, []), 3), (77, (92, 28, 0, []), 3), (80, (20, 0, 0, []), 1), (81, (91, 28, 0, []), 3), (84, (0, 0, 1, []), 1), (85, (76, 0, 11, []), 3), (88, (20, 0, 0, []), 1), (89, (91, 28, 0, []), 3), (92, (0, 0, 2, []), 1), (93, (77, 0, 7, []), 3), (100, (0, 0, 0, []), 1), (101, (26, 0, 0, []), 1), (102, (20, 0, 0, []), 1), (103, (91, 22, 0, []), 3), (106, (20, 0, 0, []), 1), (107, (91, 9, 0, []), 3), (110, (91, 65, 0, []), 3), (113, (79, 0, 86, []), 3), (199, (100, 0, 0, []), 1)]
def zm203 : zM := (⟨"WindSigned$Tokens", "advance", "()V"⟩, prog_10_method_10_code, 2, none, zp203, 0, 0, 8, false)
def zp204 : List zP := [(0, (11, 0, 0, []), 1), (1, (20, 0, 0, []), 1), (2, (91, 9, 0, []), 3), (5, (91, 65, 0, []), 3), (8, (78, 0, 5, []), 3), (11, (0, 0, 0, []), 1), (12, (101, 0, 0, []), 1), (36, (101, 0, 0, []), 1), (50, (101, 0, 0, []), 1), (64, (101, 0, 0, []), 1), (76, (101, 0, 0, []), 1)]
def zm204 : zM := (⟨"WindSigned$Tokens", "kindAt", "(I)I"⟩, prog_10_method_11_code, 3, (some .int), zp204, 0, 0, 8, false)
def zp205 : List zP := [(0, (20, 0, 0, []), 1), (1, (91, 15, 0, []), 3), (4, (83, 0, 7, []), 3), (7, (0, 0, 1, []), 1), (8, (88, 0, 4, []), 3), (12, (101, 0, 0, []), 1)]
def zm205 : zM := (⟨"WindSigned$Tokens", "isSound", "()Z"⟩, prog_10_method_3_code, 1, (some .boolean), zp205, 0, 0, 8, false)
def zp206 : List zP := [(0, (20, 0, 0, []), 1), (1, (91, 28, 0, []), 3), (4, (83, 0, 7, []), 3), (7, (0, 0, 1, []), 1), (8, (88, 0, 4, []), 3), (12, (101, 0, 0, []), 1)]
def zm206 : zM := (⟨"WindSigned$Tokens", "isOver", "()Z"⟩, prog_10_method_4_code, 1, (some .boolean), zp206, 0, 0, 8, false)
def zp207 : List zP := [(0, (20, 0, 0, []), 1), (1, (91, 35, 0, []), 3), (4, (20, 0, 0, []), 1), (5, (91, 28, 0, []), 3), (8, (103, 441, 0, []), 3), (11, (20, 0, 0, []), 1), (12, (91, 44, 0, []), 3), (15, (103, 444, 0, []), 3), (18, (0, 0, 0, []), 1), (19, (26, 0, 0, []), 1), (20, (11, 0, 0, []), 1), (21, (20, 0, 0, []), 1), (22, (91, 28, 0, []), 3), (25, (91, 199, 0, []), 3), (28, (79, 0, 28, []), 3), (56, (100, 0, 0, []), 1)]
def zm207 : zM := (⟨"WindSigned", "settle", "()V"⟩, prog_1_method_87_code, 2, none, zp207, 0, 0, 11, false)
def zp208 : List zP := [(0, (20, 0, 0, []), 1), (1, (0, 0, 0, []), 1), (2, (92, 33, 0, []), 3), (5, (20, 0, 0, []), 1), (6, (0, 0, 0, []), 1), (7, (92, 37, 0, []), 3), (10, (0, 0, 0, []), 1), (11, (27, 0, 0, []), 1), (12, (12, 0, 0, []), 1), (13, (21, 0, 0, []), 1), (14, (91, 40, 0, []), 3), (17, (79, 0, 48, []), 3), (65, (100, 0, 0, []), 1)]
def zm208 : zM := (⟨"WindSigned$Calendar", "arrange", "(LWindSigned$Plain;)V"⟩, prog_3_method_2_code, 3, none, zp208, 0, 0, 1, false)
def zp209 : List zP := [(0, (20, 0, 0, []), 1), (1, (20, 0, 0, []), 1), (2, (91, 9, 0, []), 3), (5, (91, 19, 0, []), 3), (8, (92, 25, 0, []), 3), (11, (20, 0, 0, []), 1), (12, (0, 0, 1, []), 1), (13, (20, 0, 0, []), 1), (14, (91, 9, 0, []), 3), (17, (91, 28, 0, []), 3), (20, (46, 0, 0, []), 1), (21, (0, 0, 1, []), 1), (22, (41, 0, 0, []), 1), (23, (92, 31, 0, []), 3), (26, (20, 0, 0, []), 1), (27, (0, 0, (-1), []), 1), (28, (92, 34, 0, []), 3), (31, (0, 0, 0, []), 1), (32, (26, 0, 0, []), 1), (33, (11, 0, 0, []), 1), (34, (1, 0, 100, []), 2), (36, (79, 0, 16, []), 3), (39, (20, 0, 0, []), 1), (40, (91, 15, 0, []), 3), (43, (11, 0, 0, []), 1), (44, (0, 0, 0, []), 1), (45, (73, 0, 0, []), 1), (46, (39, 1, 1, []), 3), (49, (88, 0, (-16), []), 3), (52, (0, 0, 0, []), 1), (53, (26, 0, 0, []), 1), (54, (11, 0, 0, []), 1), (55, (20, 0, 0, []), 1), (56, (91, 9, 0, []), 3), (59, (91, 37, 0, []), 3), (62, (79, 0, 22, []), 3), (84, (100, 0, 0, []), 1)]
def zm209 : zM := (⟨"WindSigned$Setting", "beAsTold", "()V"⟩, prog_6_method_2_code, 2, none, zp209, 0, 0, 4, false)
def zp210 : List zP := [(0, (20, 0, 0, []), 1), (1, (20, 0, 0, []), 1), (2, (91, 102, 0, []), 3), (5, (92, 105, 0, []), 3), (8, (20, 0, 0, []), 1), (9, (0, 0, 0, []), 1), (10, (92, 102, 0, []), 3), (13, (20, 0, 0, []), 1), (14, (0, 0, 0, []), 1), (15, (92, 108, 0, []), 3), (18, (20, 0, 0, []), 1), (19, (0, 0, 0, []), 1), (20, (92, 139, 0, []), 3), (23, (20, 0, 0, []), 1), (24, (0, 0, (-1), []), 1), (25, (92, 27, 0, []), 3), (28, (0, 0, 0, []), 1), (29, (26, 0, 0, []), 1), (30, (11, 0, 0, []), 1), (31, (1, 0, 100, []), 2), (33, (79, 0, 16, []), 3), (36, (20, 0, 0, []), 1), (37, (91, 31, 0, []), 3), (40, (11, 0, 0, []), 1), (41, (0, 0, 0, []), 1), (42, (72, 0, 0, []), 1), (43, (39, 1, 1, []), 3), (46, (88, 0, (-16), []), 3), (49, (20, 0, 0, []), 1), (50, (103, 158, 0, []), 3), (53, (20, 0, 0, []), 1), (54, (103, 142, 0, []), 3), (57, (82, 0, 17, []), 3), (60, (20, 0, 0, []), 1), (61, (91, 118, 0, []), 3), (64, (82, 0, 10, []), 3), (74, (20, 0, 0, []), 1), (75, (103, 142, 0, []), 3), (78, (83, 0, 6, []), 3), (83, (101, 0, 0, []), 1), (84, (0, 0, 0, []), 1), (85, (26, 0, 0, []), 1), (86, (11, 0, 0, []), 1), (87, (1, 0, 100, []), 2), (89, (79, 0, 21, []), 3), (92, (20, 0, 0, []), 1), (93, (91, 9, 0, []), 3), (96, (11, 0, 0, []), 1), (97, (20, 0, 0, []), 1), (98, (91, 31, 0, []), 3), (101, (11, 0, 0, []), 1), (102, (67, 0, 0, []), 1), (103, (72, 0, 0, []), 1), (104, (39, 1, 1, []), 3), (107, (88, 0, (-21), []), 3), (110, (20, 0, 0, []), 1), (111, (91, 9, 0, []), 3), (114, (1, 0, 10, []), 2), (116, (67, 0, 0, []), 1), (117, (101, 0, 0, []), 1)]
def zm210 : zM := (⟨"WindSignedModel", "plain", "()I"⟩, prog_14_method_40_code, 2, (some .int), zp210, 0, 0, 12, false)
def zp211 : List zP := [(0, (20, 0, 0, []), 1), (1, (20, 0, 0, []), 1), (2, (91, 108, 0, []), 3), (5, (103, 111, 0, []), 3), (8, (1, 0, 32, []), 2), (10, (76, 0, 16, []), 3), (13, (20, 0, 0, []), 1), (14, (20, 0, 0, []), 1), (15, (91, 108, 0, []), 3), (18, (103, 111, 0, []), 3), (21, (1, 0, 10, []), 2), (23, (77, 0, 16, []), 3), (39, (20, 0, 0, []), 1), (40, (20, 0, 0, []), 1), (41, (91, 108, 0, []), 3), (44, (92, 115, 0, []), 3), (47, (20, 0, 0, []), 1), (48, (20, 0, 0, []), 1), (49, (91, 108, 0, []), 3), (52, (103, 111, 0, []), 3), (55, (26, 0, 0, []), 1), (56, (11, 0, 0, []), 1), (57, (0, 0, (-1), []), 1), (58, (77, 0, 11, []), 3), (61, (20, 0, 0, []), 1), (62, (0, 0, 0, []), 1), (63, (92, 118, 0, []), 3), (66, (88, 0, 173, []), 3), (239, (100, 0, 0, []), 1)]
def zm211 : zM := (⟨"WindSignedModel", "advance", "()V"⟩, prog_14_method_23_code, 2, none, zp211, 0, 0, 12, false)
def zp212 : List zP := [(0, (11, 0, 0, []), 1), (1, (20, 0, 0, []), 1), (2, (91, 105, 0, []), 3), (5, (79, 0, 16, []), 3), (21, (0, 0, (-1), []), 1), (22, (101, 0, 0, []), 1)]
def zm212 : zM := (⟨"WindSignedModel", "see", "(I)I"⟩, prog_14_method_22_code, 2, (some .int), zp212, 0, 0, 12, false)
def zp213 : List zP := [(0, (20, 0, 0, []), 1), (1, (91, 139, 0, []), 3), (4, (83, 0, 7, []), 3), (7, (0, 0, 1, []), 1), (8, (88, 0, 4, []), 3), (12, (101, 0, 0, []), 1)]
def zm213 : zM := (⟨"WindSignedModel", "good", "()Z"⟩, prog_14_method_24_code, 1, (some .boolean), zp213, 0, 0, 12, false)
def zp214 : List zP := [(0, (11, 0, 0, []), 1), (1, (84, 0, 14, []), 3), (4, (11, 0, 0, []), 1), (5, (20, 0, 0, []), 1), (6, (91, 10, 0, []), 3), (9, (91, 97, 0, []), 3), (12, (81, 0, 5, []), 3), (15, (0, 0, (-1), []), 1), (16, (101, 0, 0, []), 1), (17, (20, 0, 0, []), 1), (18, (91, 10, 0, []), 3), (21, (11, 0, 0, []), 1), (22, (92, 97, 0, []), 3), (25, (11, 0, 0, []), 1), (26, (101, 0, 0, []), 1)]
def zm214 : zM := (⟨"WindSigned", "end", "(I)I"⟩, prog_1_method_3_code, 2, (some .int), zp214, 0, 0, 11, false)
def zp215 : List zP := [(0, (11, 0, 0, []), 1), (1, (59, 0, 0, []), 1), (2, (3, 0, 0, []), 1), (3, (20, 0, 0, []), 1), (4, (91, 102, 0, []), 3), (7, (59, 0, 0, []), 1), (8, (104, 82, 0, []), 3), (11, (83, 0, 5, []), 3), (14, (0, 0, (-1), []), 1), (15, (101, 0, 0, []), 1), (16, (20, 0, 0, []), 1), (17, (11, 0, 0, []), 1), (18, (92, 102, 0, []), 3), (21, (11, 0, 0, []), 1), (22, (101, 0, 0, []), 1)]
def zm215 : zM := (⟨"WindSignedModel", "end", "(I)I"⟩, prog_14_method_21_code, 2, (some .int), zp215, 0, 0, 12, false)
set_option maxRecDepth 100000 in
def zpL : List zP := [(0, (93, 7, 0, []), 3), (3, (62, 0, 0, []), 1), (4, (105, 9, 0, []), 3), (7, (36, 0, 0, []), 1), (8, (93, 10, 0, []), 3), (11, (62, 0, 0, []), 1), (12, (105, 12, 0, []), 3), (15, (37, 0, 0, []), 1), (16, (0, 0, 0, []), 1), (17, (28, 0, 0, []), 1), (18, (13, 0, 0, []), 1), (19, (20, 0, 0, []), 1), (20, (71, 0, 0, []), 1), (21, (1, 0, 6, []), 2), (23, (41, 0, 0, []), 1), (24, (80, 0, 2366, []), 3), (27, (20, 0, 0, []), 1), (28, (13, 0, 0, []), 1), (29, (67, 0, 0, []), 1), (30, (1, 0, 127, []), 2), (32, (43, 0, 0, []), 1), (33, (89, 0, 2351, [0, 71, 303, 366, 389, 402, 425, 448, 471, 504, 537, 570, 603, 626, 659, 682, 705, 728, 751, 764, 787, 820, 853, 876, 899, 922, 945, 988, 1021, 1044, 1067, 1090, 1113, 1146, 1159, 1172, 1195, 1208, 1231, 1254, 1267, 1280, 1303, 1326, 1379, 1412, 1425, 1438, 1471, 1504, 1537, 1570, 1603, 1636, 1659, 1672, 1695, 1728, 1761, 1814, 1848, 1882, 1925, 1968, 1981, 1994, 2027, 2070, 2103, 2126, 2149, 2172, 2215, 2288]), 303), (336, (21, 0, 0, []), 1), (337, (20, 0, 0, []), 1), (338, (13, 0, 0, []), 1), (339, (0, 0, 1, []), 1), (340, (40, 0, 0, []), 1), (341, (67, 0, 0, []), 1), (342, (20, 0, 0, []), 1), (343, (13, 0, 0, []), 1), (344, (0, 0, 2, []), 1), (345, (40, 0, 0, []), 1), (346, (67, 0, 0, []), 1), (347, (20, 0, 0, []), 1), (348, (13, 0, 0, []), 1), (349, (0, 0, 3, []), 1), (350, (40, 0, 0, []), 1), (351, (67, 0, 0, []), 1), (352, (20, 0, 0, []), 1), (353, (13, 0, 0, []), 1), (354, (0, 0, 4, []), 1), (355, (40, 0, 0, []), 1), (356, (67, 0, 0, []), 1), (357, (20, 0, 0, []), 1), (358, (13, 0, 0, []), 1), (359, (0, 0, 5, []), 1), (360, (40, 0, 0, []), 1), (361, (67, 0, 0, []), 1), (362, (103, 13, 0, []), 3), (365, (22, 0, 0, []), 1), (366, (20, 0, 0, []), 1), (367, (13, 0, 0, []), 1), (368, (0, 0, 1, []), 1), (369, (40, 0, 0, []), 1), (370, (67, 0, 0, []), 1), (371, (20, 0, 0, []), 1), (372, (13, 0, 0, []), 1), (373, (0, 0, 2, []), 1), (374, (40, 0, 0, []), 1), (375, (67, 0, 0, []), 1), (376, (20, 0, 0, []), 1), (377, (13, 0, 0, []), 1), (378, (0, 0, 3, []), 1), (379, (40, 0, 0, []), 1), (380, (67, 0, 0, []), 1), (381, (20, 0, 0, []), 1), (382, (13, 0, 0, []), 1), (383, (0, 0, 4, []), 1), (384, (40, 0, 0, []), 1), (385, (67, 0, 0, []), 1), (386, (20, 0, 0, []), 1), (387, (13, 0, 0, []), 1), (388, (0, 0, 5, []), 1), (389, (40, 0, 0, []), 1), (390, (67, 0, 0, []), 1), (391, (103, 17, 0, []), 3), (394, (76, 0, 1990, []), 3), (398, (101, 0, 0, []), 1), (399, (21, 0, 0, []), 1), (400, (20, 0, 0, []), 1), (401, (13, 0, 0, []), 1), (402, (0, 0, 1, []), 1), (403, (40, 0, 0, []), 1), (404, (67, 0, 0, []), 1), (405, (103, 18, 0, []), 3), (408, (22, 0, 0, []), 1), (409, (20, 0, 0, []), 1), (410, (13, 0, 0, []), 1), (411, (0, 0, 1, []), 1), (412, (40, 0, 0, []), 1), (413, (67, 0, 0, []), 1), (414, (103, 22, 0, []), 3), (417, (76, 0, 1967, []), 3), (421, (101, 0, 0, []), 1), (422, (21, 0, 0, []), 1), (423, (103, 23, 0, []), 3), (426, (22, 0, 0, []), 1), (427, (103, 27, 0, []), 3), (430, (76, 0, 1954, []), 3), (434, (101, 0, 0, []), 1), (435, (21, 0, 0, []), 1), (436, (20, 0, 0, []), 1), (437, (13, 0, 0, []), 1), (438, (0, 0, 1, []), 1), (439, (40, 0, 0, []), 1), (440, (67, 0, 0, []), 1), (441, (103, 28, 0, []), 3), (444, (22, 0, 0, []), 1), (445, (20, 0, 0, []), 1), (446, (13, 0, 0, []), 1), (447, (0, 0, 1, []), 1), (448, (40, 0, 0, []), 1), (449, (67, 0, 0, []), 1), (450, (103, 31, 0, []), 3), (453, (76, 0, 1931, []), 3), (457, (101, 0, 0, []), 1), (458, (21, 0, 0, []), 1), (459, (20, 0, 0, []), 1), (460, (13, 0, 0, []), 1), (461, (0, 0, 1, []), 1), (462, (40, 0, 0, []), 1), (463, (67, 0, 0, []), 1), (464, (103, 32, 0, []), 3), (467, (22, 0, 0, []), 1), (468, (20, 0, 0, []), 1), (469, (13, 0, 0, []), 1), (470, (0, 0, 1, []), 1), (471, (40, 0, 0, []), 1), (472, (67, 0, 0, []), 1), (473, (103, 35, 0, []), 3), (476, (76, 0, 1908, []), 3), (480, (101, 0, 0, []), 1), (481, (21, 0, 0, []), 1), (482, (20, 0, 0, []), 1), (483, (13, 0, 0, []), 1), (484, (0, 0, 1, []), 1), (485, (40, 0, 0, []), 1), (486, (67, 0, 0, []), 1), (487, (103, 36, 0, []), 3), (490, (22, 0, 0, []), 1), (491, (20, 0, 0, []), 1), (492, (13, 0, 0, []), 1), (493, (0, 0, 1, []), 1), (494, (40, 0, 0, []), 1), (495, (67, 0, 0, []), 1), (496, (103, 39, 0, []), 3), (499, (76, 0, 1885, []), 3), (503, (101, 0, 0, []), 1), (504, (21, 0, 0, []), 1), (505, (20, 0, 0, []), 1), (506, (13, 0, 0, []), 1), (507, (0, 0, 1, []), 1), (508, (40, 0, 0, []), 1), (509, (67, 0, 0, []), 1), (510, (20, 0, 0, []), 1), (511, (13, 0, 0, []), 1), (512, (0, 0, 2, []), 1), (513, (40, 0, 0, []), 1), (514, (67, 0, 0, []), 1), (515, (103, 40, 0, []), 3), (518, (22, 0, 0, []), 1), (519, (20, 0, 0, []), 1), (520, (13, 0, 0, []), 1), (521, (0, 0, 1, []), 1), (522, (40, 0, 0, []), 1), (523, (67, 0, 0, []), 1), (524, (20, 0, 0, []), 1), (525, (13, 0, 0, []), 1), (526, (0, 0, 2, []), 1), (527, (40, 0, 0, []), 1), (528, (67, 0, 0, []), 1), (529, (103, 44, 0, []), 3), (532, (76, 0, 1852, []), 3), (536, (101, 0, 0, []), 1), (537, (21, 0, 0, []), 1), (538, (20, 0, 0, []), 1), (539, (13, 0, 0, []), 1), (540, (0, 0, 1, []), 1), (541, (40, 0, 0, []), 1), (542, (67, 0, 0, []), 1), (543, (20, 0, 0, []), 1), (544, (13, 0, 0, []), 1), (545, (0, 0, 2, []), 1), (546, (40, 0, 0, []), 1), (547, (67, 0, 0, []), 1), (548, (103, 45, 0, []), 3), (551, (22, 0, 0, []), 1), (552, (20, 0, 0, []), 1), (553, (13, 0, 0, []), 1), (554, (0, 0, 1, []), 1), (555, (40, 0, 0, []), 1), (556, (67, 0, 0, []), 1), (557, (20, 0, 0, []), 1), (558, (13, 0, 0, []), 1), (559, (0, 0, 2, []), 1), (560, (40, 0, 0, []), 1), (561, (67, 0, 0, []), 1), (562, (103, 48, 0, []), 3), (565, (76, 0, 1819, []), 3), (569, (101, 0, 0, []), 1), (570, (21, 0, 0, []), 1), (571, (20, 0, 0, []), 1), (572, (13, 0, 0, []), 1), (573, (0, 0, 1, []), 1), (574, (40, 0, 0, []), 1), (575, (67, 0, 0, []), 1), (576, (20, 0, 0, []), 1), (577, (13, 0, 0, []), 1), (578, (0, 0, 2, []), 1), (579, (40, 0, 0, []), 1), (580, (67, 0, 0, []), 1), (581, (103, 49, 0, []), 3), (584, (22, 0, 0, []), 1), (585, (20, 0, 0, []), 1), (586, (13, 0, 0, []), 1), (587, (0, 0, 1, []), 1), (588, (40, 0, 0, []), 1), (589, (67, 0, 0, []), 1), (590, (20, 0, 0, []), 1), (591, (13, 0, 0, []), 1), (592, (0, 0, 2, []), 1), (593, (40, 0, 0, []), 1), (594, (67, 0, 0, []), 1), (595, (103, 52, 0, []), 3), (598, (76, 0, 1786, []), 3), (602, (101, 0, 0, []), 1), (603, (21, 0, 0, []), 1), (604, (20, 0, 0, []), 1), (605, (13, 0, 0, []), 1), (606, (0, 0, 1, []), 1), (607, (40, 0, 0, []), 1), (608, (67, 0, 0, []), 1), (609, (20, 0, 0, []), 1), (610, (13, 0, 0, []), 1), (611, (0, 0, 2, []), 1), (612, (40, 0, 0, []), 1), (613, (67, 0, 0, []), 1), (614, (103, 53, 0, []), 3), (617, (22, 0, 0, []), 1), (618, (20, 0, 0, []), 1), (619, (13, 0, 0, []), 1), (620, (0, 0, 1, []), 1), (621, (40, 0, 0, []), 1), (622, (67, 0, 0, []), 1), (623, (20, 0, 0, []), 1), (624, (13, 0, 0, []), 1), (625, (0, 0, 2, []), 1), (626, (40, 0, 0, []), 1), (627, (67, 0, 0, []), 1), (628, (103, 56, 0, []), 3), (631, (76, 0, 1753, []), 3), (635, (101, 0, 0, []), 1), (636, (21, 0, 0, []), 1), (637, (20, 0, 0, []), 1), (638, (13, 0, 0, []), 1), (639, (0, 0, 1, []), 1), (640, (40, 0, 0, []), 1), (641, (67, 0, 0, []), 1), (642, (103, 57, 0, []), 3), (645, (22, 0, 0, []), 1), (646, (20, 0, 0, []), 1), (647, (13, 0, 0, []), 1), (648, (0, 0, 1, []), 1), (649, (40, 0, 0, []), 1), (650, (67, 0, 0, []), 1), (651, (103, 60, 0, []), 3), (654, (76, 0, 1730, []), 3), (658, (101, 0, 0, []), 1), (659, (21, 0, 0, []), 1), (660, (20, 0, 0, []), 1), (661, (13, 0, 0, []), 1), (662, (0, 0, 1, []), 1), (663, (40, 0, 0, []), 1), (664, (67, 0, 0, []), 1), (665, (20, 0, 0, []), 1), (666, (13, 0, 0, []), 1), (667, (0, 0, 2, []), 1), (668, (40, 0, 0, []), 1), (669, (67, 0, 0, []), 1), (670, (103, 61, 0, []), 3), (673, (22, 0, 0, []), 1), (674, (20, 0, 0, []), 1), (675, (13, 0, 0, []), 1), (676, (0, 0, 1, []), 1), (677, (40, 0, 0, []), 1), (678, (67, 0, 0, []), 1), (679, (20, 0, 0, []), 1), (680, (13, 0, 0, []), 1), (681, (0, 0, 2, []), 1), (682, (40, 0, 0, []), 1), (683, (67, 0, 0, []), 1), (684, (103, 64, 0, []), 3), (687, (76, 0, 1697, []), 3), (691, (101, 0, 0, []), 1), (692, (21, 0, 0, []), 1), (693, (20, 0, 0, []), 1), (694, (13, 0, 0, []), 1), (695, (0, 0, 1, []), 1), (696, (40, 0, 0, []), 1), (697, (67, 0, 0, []), 1), (698, (103, 65, 0, []), 3), (701, (22, 0, 0, []), 1), (702, (20, 0, 0, []), 1), (703, (13, 0, 0, []), 1), (704, (0, 0, 1, []), 1), (705, (40, 0, 0, []), 1), (706, (67, 0, 0, []), 1), (707, (103, 68, 0, []), 3), (710, (76, 0, 1674, []), 3), (714, (101, 0, 0, []), 1), (715, (21, 0, 0, []), 1), (716, (20, 0, 0, []), 1), (717, (13, 0, 0, []), 1), (718, (0, 0, 1, []), 1), (719, (40, 0, 0, []), 1), (720, (67, 0, 0, []), 1), (721, (103, 69, 0, []), 3), (724, (22, 0, 0, []), 1), (725, (20, 0, 0, []), 1), (726, (13, 0, 0, []), 1), (727, (0, 0, 1, []), 1), (728, (40, 0, 0, []), 1), (729, (67, 0, 0, []), 1), (730, (103, 72, 0, []), 3), (733, (76, 0, 1651, []), 3), (737, (101, 0, 0, []), 1), (738, (21, 0, 0, []), 1), (739, (20, 0, 0, []), 1), (740, (13, 0, 0, []), 1), (741, (0, 0, 1, []), 1), (742, (40, 0, 0, []), 1), (743, (67, 0, 0, []), 1), (744, (103, 73, 0, []), 3), (747, (22, 0, 0, []), 1), (748, (20, 0, 0, []), 1), (749, (13, 0, 0, []), 1), (750, (0, 0, 1, []), 1), (751, (40, 0, 0, []), 1), (752, (67, 0, 0, []), 1), (753, (103, 76, 0, []), 3), (756, (76, 0, 1628, []), 3), (760, (101, 0, 0, []), 1), (761, (21, 0, 0, []), 1), (762, (20, 0, 0, []), 1), (763, (13, 0, 0, []), 1), (764, (0, 0, 1, []), 1), (765, (40, 0, 0, []), 1), (766, (67, 0, 0, []), 1), (767, (103, 77, 0, []), 3), (770, (22, 0, 0, []), 1), (771, (20, 0, 0, []), 1), (772, (13, 0, 0, []), 1), (773, (0, 0, 1, []), 1), (774, (40, 0, 0, []), 1), (775, (67, 0, 0, []), 1), (776, (103, 80, 0, []), 3), (779, (76, 0, 1605, []), 3), (783, (101, 0, 0, []), 1), (784, (21, 0, 0, []), 1), (785, (103, 81, 0, []), 3), (788, (22, 0, 0, []), 1), (789, (103, 84, 0, []), 3), (792, (76, 0, 1592, []), 3), (796, (101, 0, 0, []), 1), (797, (21, 0, 0, []), 1), (798, (20, 0, 0, []), 1), (799, (13, 0, 0, []), 1), (800, (0, 0, 1, []), 1), (801, (40, 0, 0, []), 1), (802, (67, 0, 0, []), 1), (803, (103, 85, 0, []), 3), (806, (22, 0, 0, []), 1), (807, (20, 0, 0, []), 1), (808, (13, 0, 0, []), 1), (809, (0, 0, 1, []), 1), (810, (40, 0, 0, []), 1), (811, (67, 0, 0, []), 1), (812, (103, 88, 0, []), 3), (815, (76, 0, 1569, []), 3), (819, (101, 0, 0, []), 1), (820, (21, 0, 0, []), 1), (821, (20, 0, 0, []), 1), (822, (13, 0, 0, []), 1), (823, (0, 0, 1, []), 1), (824, (40, 0, 0, []), 1), (825, (67, 0, 0, []), 1), (826, (20, 0, 0, []), 1), (827, (13, 0, 0, []), 1), (828, (0, 0, 2, []), 1), (829, (40, 0, 0, []), 1), (830, (67, 0, 0, []), 1), (831, (103, 89, 0, []), 3), (834, (22, 0, 0, []), 1), (835, (20, 0, 0, []), 1), (836, (13, 0, 0, []), 1), (837, (0, 0, 1, []), 1), (838, (40, 0, 0, []), 1), (839, (67, 0, 0, []), 1), (840, (20, 0, 0, []), 1), (841, (13, 0, 0, []), 1), (842, (0, 0, 2, []), 1), (843, (40, 0, 0, []), 1), (844, (67, 0, 0, []), 1), (845, (103, 92, 0, []), 3), (848, (76, 0, 1536, []), 3), (852, (101, 0, 0, []), 1), (853, (21, 0, 0, []), 1), (854, (20, 0, 0, []), 1), (855, (13, 0, 0, []), 1), (856, (0, 0, 1, []), 1), (857, (40, 0, 0, []), 1), (858, (67, 0, 0, []), 1), (859, (20, 0, 0, []), 1), (860, (13, 0, 0, []), 1), (861, (0, 0, 2, []), 1), (862, (40, 0, 0, []), 1), (863, (67, 0, 0, []), 1), (864, (103, 93, 0, []), 3), (867, (22, 0, 0, []), 1), (868, (20, 0, 0, []), 1), (869, (13, 0, 0, []), 1), (870, (0, 0, 1, []), 1), (871, (40, 0, 0, []), 1), (872, (67, 0, 0, []), 1), (873, (20, 0, 0, []), 1), (874, (13, 0, 0, []), 1), (875, (0, 0, 2, []), 1), (876, (40, 0, 0, []), 1), (877, (67, 0, 0, []), 1), (878, (103, 96, 0, []), 3), (881, (76, 0, 1503, []), 3), (885, (101, 0, 0, []), 1), (886, (21, 0, 0, []), 1), (887, (20, 0, 0, []), 1), (888, (13, 0, 0, []), 1), (889, (0, 0, 1, []), 1), (890, (40, 0, 0, []), 1), (891, (67, 0, 0, []), 1), (892, (103, 97, 0, []), 3), (895, (22, 0, 0, []), 1), (896, (20, 0, 0, []), 1), (897, (13, 0, 0, []), 1), (898, (0, 0, 1, []), 1), (899, (40, 0, 0, []), 1), (900, (67, 0, 0, []), 1), (901, (103, 100, 0, []), 3), (904, (76, 0, 1480, []), 3), (908, (101, 0, 0, []), 1), (909, (21, 0, 0, []), 1), (910, (20, 0, 0, []), 1), (911, (13, 0, 0, []), 1), (912, (0, 0, 1, []), 1), (913, (40, 0, 0, []), 1), (914, (67, 0, 0, []), 1), (915, (103, 101, 0, []), 3), (918, (22, 0, 0, []), 1), (919, (20, 0, 0, []), 1), (920, (13, 0, 0, []), 1), (921, (0, 0, 1, []), 1), (922, (40, 0, 0, []), 1), (923, (67, 0, 0, []), 1), (924, (103, 104, 0, []), 3), (927, (76, 0, 1457, []), 3), (931, (101, 0, 0, []), 1), (932, (21, 0, 0, []), 1), (933, (20, 0, 0, []), 1), (934, (13, 0, 0, []), 1), (935, (0, 0, 1, []), 1), (936, (40, 0, 0, []), 1), (937, (67, 0, 0, []), 1), (938, (103, 105, 0, []), 3), (941, (22, 0, 0, []), 1), (942, (20, 0, 0, []), 1), (943, (13, 0, 0, []), 1), (944, (0, 0, 1, []), 1), (945, (40, 0, 0, []), 1), (946, (67, 0, 0, []), 1), (947, (103, 108, 0, []), 3), (950, (76, 0, 1434, []), 3), (954, (101, 0, 0, []), 1), (955, (21, 0, 0, []), 1), (956, (20, 0, 0, []), 1), (957, (13, 0, 0, []), 1), (958, (0, 0, 1, []), 1), (959, (40, 0, 0, []), 1), (960, (67, 0, 0, []), 1), (961, (103, 109, 0, []), 3), (964, (22, 0, 0, []), 1), (965, (20, 0, 0, []), 1), (966, (13, 0, 0, []), 1), (967, (0, 0, 1, []), 1), (968, (40, 0, 0, []), 1), (969, (67, 0, 0, []), 1), (970, (103, 112, 0, []), 3), (973, (76, 0, 1411, []), 3), (977, (101, 0, 0, []), 1), (978, (21, 0, 0, []), 1), (979, (20, 0, 0, []), 1), (980, (13, 0, 0, []), 1), (981, (0, 0, 1, []), 1), (982, (40, 0, 0, []), 1), (983, (67, 0, 0, []), 1), (984, (20, 0, 0, []), 1), (985, (13, 0, 0, []), 1), (986, (0, 0, 2, []), 1), (987, (40, 0, 0, []), 1), (988, (67, 0, 0, []), 1), (989, (20, 0, 0, []), 1), (990, (13, 0, 0, []), 1), (991, (0, 0, 3, []), 1), (992, (40, 0, 0, []), 1), (993, (67, 0, 0, []), 1), (994, (103, 113, 0, []), 3), (997, (22, 0, 0, []), 1), (998, (20, 0, 0, []), 1), (999, (13, 0, 0, []), 1), (1000, (0, 0, 1, []), 1), (1001, (40, 0, 0, []), 1), (1002, (67, 0, 0, []), 1), (1003, (20, 0, 0, []), 1), (1004, (13, 0, 0, []), 1), (1005, (0, 0, 2, []), 1), (1006, (40, 0, 0, []), 1), (1007, (67, 0, 0, []), 1), (1008, (20, 0, 0, []), 1), (1009, (13, 0, 0, []), 1), (1010, (0, 0, 3, []), 1), (1011, (40, 0, 0, []), 1), (1012, (67, 0, 0, []), 1), (1013, (103, 117, 0, []), 3), (1016, (76, 0, 1368, []), 3), (1020, (101, 0, 0, []), 1), (1021, (21, 0, 0, []), 1), (1022, (20, 0, 0, []), 1), (1023, (13, 0, 0, []), 1), (1024, (0, 0, 1, []), 1), (1025, (40, 0, 0, []), 1), (1026, (67, 0, 0, []), 1), (1027, (20, 0, 0, []), 1), (1028, (13, 0, 0, []), 1), (1029, (0, 0, 2, []), 1), (1030, (40, 0, 0, []), 1), (1031, (67, 0, 0, []), 1), (1032, (103, 118, 0, []), 3), (1035, (22, 0, 0, []), 1), (1036, (20, 0, 0, []), 1), (1037, (13, 0, 0, []), 1), (1038, (0, 0, 1, []), 1), (1039, (40, 0, 0, []), 1), (1040, (67, 0, 0, []), 1), (1041, (20, 0, 0, []), 1), (1042, (13, 0, 0, []), 1), (1043, (0, 0, 2, []), 1), (1044, (40, 0, 0, []), 1), (1045, (67, 0, 0, []), 1), (1046, (103, 121, 0, []), 3), (1049, (76, 0, 1335, []), 3), (1053, (101, 0, 0, []), 1), (1054, (21, 0, 0, []), 1), (1055, (20, 0, 0, []), 1), (1056, (13, 0, 0, []), 1), (1057, (0, 0, 1, []), 1), (1058, (40, 0, 0, []), 1), (1059, (67, 0, 0, []), 1), (1060, (103, 122, 0, []), 3), (1063, (22, 0, 0, []), 1), (1064, (20, 0, 0, []), 1), (1065, (13, 0, 0, []), 1), (1066, (0, 0, 1, []), 1), (1067, (40, 0, 0, []), 1), (1068, (67, 0, 0, []), 1), (1069, (103, 125, 0, []), 3), (1072, (76, 0, 1312, []), 3), (1076, (101, 0, 0, []), 1), (1077, (21, 0, 0, []), 1), (1078, (20, 0, 0, []), 1), (1079, (13, 0, 0, []), 1), (1080, (0, 0, 1, []), 1), (1081, (40, 0, 0, []), 1), (1082, (67, 0, 0, []), 1), (1083, (103, 126, 0, []), 3), (1086, (22, 0, 0, []), 1), (1087, (20, 0, 0, []), 1), (1088, (13, 0, 0, []), 1), (1089, (0, 0, 1, []), 1), (1090, (40, 0, 0, []), 1), (1091, (67, 0, 0, []), 1), (1092, (103, 129, 0, []), 3), (1095, (76, 0, 1289, []), 3), (1099, (101, 0, 0, []), 1), (1100, (21, 0, 0, []), 1), (1101, (20, 0, 0, []), 1), (1102, (13, 0, 0, []), 1), (1103, (0, 0, 1, []), 1), (1104, (40, 0, 0, []), 1), (1105, (67, 0, 0, []), 1), (1106, (103, 130, 0, []), 3), (1109, (22, 0, 0, []), 1), (1110, (20, 0, 0, []), 1), (1111, (13, 0, 0, []), 1), (1112, (0, 0, 1, []), 1), (1113, (40, 0, 0, []), 1), (1114, (67, 0, 0, []), 1), (1115, (103, 133, 0, []), 3), (1118, (76, 0, 1266, []), 3), (1122, (101, 0, 0, []), 1), (1123, (21, 0, 0, []), 1), (1124, (20, 0, 0, []), 1), (1125, (13, 0, 0, []), 1), (1126, (0, 0, 1, []), 1), (1127, (40, 0, 0, []), 1), (1128, (67, 0, 0, []), 1), (1129, (103, 134, 0, []), 3), (1132, (22, 0, 0, []), 1), (1133, (20, 0, 0, []), 1), (1134, (13, 0, 0, []), 1), (1135, (0, 0, 1, []), 1), (1136, (40, 0, 0, []), 1), (1137, (67, 0, 0, []), 1), (1138, (103, 137, 0, []), 3), (1141, (76, 0, 1243, []), 3), (1145, (101, 0, 0, []), 1), (1146, (21, 0, 0, []), 1), (1147, (20, 0, 0, []), 1), (1148, (13, 0, 0, []), 1), (1149, (0, 0, 1, []), 1), (1150, (40, 0, 0, []), 1), (1151, (67, 0, 0, []), 1), (1152, (20, 0, 0, []), 1), (1153, (13, 0, 0, []), 1), (1154, (0, 0, 2, []), 1), (1155, (40, 0, 0, []), 1), (1156, (67, 0, 0, []), 1), (1157, (103, 138, 0, []), 3), (1160, (22, 0, 0, []), 1), (1161, (20, 0, 0, []), 1), (1162, (13, 0, 0, []), 1), (1163, (0, 0, 1, []), 1), (1164, (40, 0, 0, []), 1), (1165, (67, 0, 0, []), 1), (1166, (20, 0, 0, []), 1), (1167, (13, 0, 0, []), 1), (1168, (0, 0, 2, []), 1), (1169, (40, 0, 0, []), 1), (1170, (67, 0, 0, []), 1), (1171, (103, 141, 0, []), 3), (1174, (76, 0, 1210, []), 3), (1178, (101, 0, 0, []), 1), (1179, (21, 0, 0, []), 1), (1180, (103, 142, 0, []), 3), (1183, (22, 0, 0, []), 1), (1184, (103, 145, 0, []), 3), (1187, (76, 0, 1197, []), 3), (1191, (101, 0, 0, []), 1), (1192, (21, 0, 0, []), 1), (1193, (103, 146, 0, []), 3), (1196, (22, 0, 0, []), 1), (1197, (103, 149, 0, []), 3), (1200, (76, 0, 1184, []), 3), (1204, (101, 0, 0, []), 1), (1205, (21, 0, 0, []), 1), (1206, (20, 0, 0, []), 1), (1207, (13, 0, 0, []), 1), (1208, (0, 0, 1, []), 1), (1209, (40, 0, 0, []), 1), (1210, (67, 0, 0, []), 1), (1211, (103, 150, 0, []), 3), (1214, (22, 0, 0, []), 1), (1215, (20, 0, 0, []), 1), (1216, (13, 0, 0, []), 1), (1217, (0, 0, 1, []), 1), (1218, (40, 0, 0, []), 1), (1219, (67, 0, 0, []), 1), (1220, (103, 153, 0, []), 3), (1223, (76, 0, 1161, []), 3), (1227, (101, 0, 0, []), 1), (1228, (21, 0, 0, []), 1), (1229, (103, 154, 0, []), 3), (1232, (22, 0, 0, []), 1), (1233, (103, 157, 0, []), 3), (1236, (76, 0, 1148, []), 3), (1240, (101, 0, 0, []), 1), (1241, (21, 0, 0, []), 1), (1242, (20, 0, 0, []), 1), (1243, (13, 0, 0, []), 1), (1244, (0, 0, 1, []), 1), (1245, (40, 0, 0, []), 1), (1246, (67, 0, 0, []), 1), (1247, (103, 158, 0, []), 3), (1250, (22, 0, 0, []), 1), (1251, (20, 0, 0, []), 1), (1252, (13, 0, 0, []), 1), (1253, (0, 0, 1, []), 1), (1254, (40, 0, 0, []), 1), (1255, (67, 0, 0, []), 1), (1256, (103, 161, 0, []), 3), (1259, (76, 0, 1125, []), 3), (1263, (101, 0, 0, []), 1), (1264, (21, 0, 0, []), 1), (1265, (20, 0, 0, []), 1), (1266, (13, 0, 0, []), 1), (1267, (0, 0, 1, []), 1), (1268, (40, 0, 0, []), 1), (1269, (67, 0, 0, []), 1), (1270, (103, 162, 0, []), 3), (1273, (22, 0, 0, []), 1), (1274, (20, 0, 0, []), 1), (1275, (13, 0, 0, []), 1), (1276, (0, 0, 1, []), 1), (1277, (40, 0, 0, []), 1), (1278, (67, 0, 0, []), 1), (1279, (103, 165, 0, []), 3), (1282, (76, 0, 1102, []), 3), (1286, (101, 0, 0, []), 1), (1287, (21, 0, 0, []), 1), (1288, (103, 166, 0, []), 3), (1291, (22, 0, 0, []), 1), (1292, (103, 169, 0, []), 3), (1295, (76, 0, 1089, []), 3), (1299, (101, 0, 0, []), 1), (1300, (21, 0, 0, []), 1), (1301, (103, 170, 0, []), 3), (1304, (22, 0, 0, []), 1), (1305, (103, 173, 0, []), 3), (1308, (76, 0, 1076, []), 3), (1312, (101, 0, 0, []), 1), (1313, (21, 0, 0, []), 1), (1314, (20, 0, 0, []), 1), (1315, (13, 0, 0, []), 1), (1316, (0, 0, 1, []), 1), (1317, (40, 0, 0, []), 1), (1318, (67, 0, 0, []), 1), (1319, (103, 174, 0, []), 3), (1322, (22, 0, 0, []), 1), (1323, (20, 0, 0, []), 1), (1324, (13, 0, 0, []), 1), (1325, (0, 0, 1, []), 1), (1326, (40, 0, 0, []), 1), (1327, (67, 0, 0, []), 1), (1328, (103, 177, 0, []), 3), (1331, (76, 0, 1053, []), 3), (1335, (101, 0, 0, []), 1), (1336, (21, 0, 0, []), 1), (1337, (20, 0, 0, []), 1), (1338, (13, 0, 0, []), 1), (1339, (0, 0, 1, []), 1), (1340, (40, 0, 0, []), 1), (1341, (67, 0, 0, []), 1), (1342, (103, 178, 0, []), 3), (1345, (22, 0, 0, []), 1), (1346, (20, 0, 0, []), 1), (1347, (13, 0, 0, []), 1), (1348, (0, 0, 1, []), 1), (1349, (40, 0, 0, []), 1), (1350, (67, 0, 0, []), 1), (1351, (103, 181, 0, []), 3), (1354, (76, 0, 1030, []), 3), (1358, (101, 0, 0, []), 1), (1359, (21, 0, 0, []), 1), (1360, (20, 0, 0, []), 1), (1361, (13, 0, 0, []), 1), (1362, (0, 0, 1, []), 1), (1363, (40, 0, 0, []), 1), (1364, (67, 0, 0, []), 1), (1365, (20, 0, 0, []), 1), (1366, (13, 0, 0, []), 1), (1367, (0, 0, 2, []), 1), (1368, (40, 0, 0, []), 1), (1369, (67, 0, 0, []), 1), (1370, (20, 0, 0, []), 1), (1371, (13, 0, 0, []), 1), (1372, (0, 0, 3, []), 1), (1373, (40, 0, 0, []), 1), (1374, (67, 0, 0, []), 1), (1375, (20, 0, 0, []), 1), (1376, (13, 0, 0, []), 1), (1377, (0, 0, 4, []), 1), (1378, (40, 0, 0, []), 1), (1379, (67, 0, 0, []), 1), (1380, (103, 182, 0, []), 3), (1383, (22, 0, 0, []), 1), (1384, (20, 0, 0, []), 1), (1385, (13, 0, 0, []), 1), (1386, (0, 0, 1, []), 1), (1387, (40, 0, 0, []), 1), (1388, (67, 0, 0, []), 1), (1389, (20, 0, 0, []), 1), (1390, (13, 0, 0, []), 1), (1391, (0, 0, 2, []), 1), (1392, (40, 0, 0, []), 1), (1393, (67, 0, 0, []), 1), (1394, (20, 0, 0, []), 1), (1395, (13, 0, 0, []), 1), (1396, (0, 0, 3, []), 1), (1397, (40, 0, 0, []), 1), (1398, (67, 0, 0, []), 1), (1399, (20, 0, 0, []), 1), (1400, (13, 0, 0, []), 1), (1401, (0, 0, 4, []), 1), (1402, (40, 0, 0, []), 1), (1403, (67, 0, 0, []), 1), (1404, (103, 186, 0, []), 3), (1407, (76, 0, 977, []), 3), (1411, (101, 0, 0, []), 1), (1412, (21, 0, 0, []), 1), (1413, (20, 0, 0, []), 1), (1414, (13, 0, 0, []), 1), (1415, (0, 0, 1, []), 1), (1416, (40, 0, 0, []), 1), (1417, (67, 0, 0, []), 1), (1418, (20, 0, 0, []), 1), (1419, (13, 0, 0, []), 1), (1420, (0, 0, 2, []), 1), (1421, (40, 0, 0, []), 1), (1422, (67, 0, 0, []), 1), (1423, (103, 187, 0, []), 3), (1426, (22, 0, 0, []), 1), (1427, (20, 0, 0, []), 1), (1428, (13, 0, 0, []), 1), (1429, (0, 0, 1, []), 1), (1430, (40, 0, 0, []), 1), (1431, (67, 0, 0, []), 1), (1432, (20, 0, 0, []), 1), (1433, (13, 0, 0, []), 1), (1434, (0, 0, 2, []), 1), (1435, (40, 0, 0, []), 1), (1436, (67, 0, 0, []), 1), (1437, (103, 190, 0, []), 3), (1440, (76, 0, 944, []), 3), (1444, (101, 0, 0, []), 1), (1445, (21, 0, 0, []), 1), (1446, (103, 191, 0, []), 3), (1449, (22, 0, 0, []), 1), (1450, (103, 194, 0, []), 3), (1453, (76, 0, 931, []), 3), (1457, (101, 0, 0, []), 1), (1458, (21, 0, 0, []), 1), (1459, (103, 195, 0, []), 3), (1462, (22, 0, 0, []), 1), (1463, (103, 198, 0, []), 3), (1466, (76, 0, 918, []), 3), (1470, (101, 0, 0, []), 1), (1471, (21, 0, 0, []), 1), (1472, (20, 0, 0, []), 1), (1473, (13, 0, 0, []), 1), (1474, (0, 0, 1, []), 1), (1475, (40, 0, 0, []), 1), (1476, (67, 0, 0, []), 1), (1477, (20, 0, 0, []), 1), (1478, (13, 0, 0, []), 1), (1479, (0, 0, 2, []), 1), (1480, (40, 0, 0, []), 1), (1481, (67, 0, 0, []), 1), (1482, (103, 199, 0, []), 3), (1485, (22, 0, 0, []), 1), (1486, (20, 0, 0, []), 1), (1487, (13, 0, 0, []), 1), (1488, (0, 0, 1, []), 1), (1489, (40, 0, 0, []), 1), (1490, (67, 0, 0, []), 1), (1491, (20, 0, 0, []), 1), (1492, (13, 0, 0, []), 1), (1493, (0, 0, 2, []), 1), (1494, (40, 0, 0, []), 1), (1495, (67, 0, 0, []), 1), (1496, (103, 202, 0, []), 3), (1499, (76, 0, 885, []), 3), (1503, (101, 0, 0, []), 1), (1504, (21, 0, 0, []), 1), (1505, (20, 0, 0, []), 1), (1506, (13, 0, 0, []), 1), (1507, (0, 0, 1, []), 1), (1508, (40, 0, 0, []), 1), (1509, (67, 0, 0, []), 1), (1510, (20, 0, 0, []), 1), (1511, (13, 0, 0, []), 1), (1512, (0, 0, 2, []), 1), (1513, (40, 0, 0, []), 1), (1514, (67, 0, 0, []), 1), (1515, (103, 203, 0, []), 3), (1518, (22, 0, 0, []), 1), (1519, (20, 0, 0, []), 1), (1520, (13, 0, 0, []), 1), (1521, (0, 0, 1, []), 1), (1522, (40, 0, 0, []), 1), (1523, (67, 0, 0, []), 1), (1524, (20, 0, 0, []), 1), (1525, (13, 0, 0, []), 1), (1526, (0, 0, 2, []), 1), (1527, (40, 0, 0, []), 1), (1528, (67, 0, 0, []), 1), (1529, (103, 206, 0, []), 3), (1532, (76, 0, 852, []), 3), (1536, (101, 0, 0, []), 1), (1537, (21, 0, 0, []), 1), (1538, (20, 0, 0, []), 1), (1539, (13, 0, 0, []), 1), (1540, (0, 0, 1, []), 1), (1541, (40, 0, 0, []), 1), (1542, (67, 0, 0, []), 1), (1543, (20, 0, 0, []), 1), (1544, (13, 0, 0, []), 1), (1545, (0, 0, 2, []), 1), (1546, (40, 0, 0, []), 1), (1547, (67, 0, 0, []), 1), (1548, (103, 207, 0, []), 3), (1551, (22, 0, 0, []), 1), (1552, (20, 0, 0, []), 1), (1553, (13, 0, 0, []), 1), (1554, (0, 0, 1, []), 1), (1555, (40, 0, 0, []), 1), (1556, (67, 0, 0, []), 1), (1557, (20, 0, 0, []), 1), (1558, (13, 0, 0, []), 1), (1559, (0, 0, 2, []), 1), (1560, (40, 0, 0, []), 1), (1561, (67, 0, 0, []), 1), (1562, (103, 210, 0, []), 3), (1565, (76, 0, 819, []), 3), (1569, (101, 0, 0, []), 1), (1570, (21, 0, 0, []), 1), (1571, (20, 0, 0, []), 1), (1572, (13, 0, 0, []), 1), (1573, (0, 0, 1, []), 1), (1574, (40, 0, 0, []), 1), (1575, (67, 0, 0, []), 1), (1576, (20, 0, 0, []), 1), (1577, (13, 0, 0, []), 1), (1578, (0, 0, 2, []), 1), (1579, (40, 0, 0, []), 1), (1580, (67, 0, 0, []), 1), (1581, (103, 211, 0, []), 3), (1584, (22, 0, 0, []), 1), (1585, (20, 0, 0, []), 1), (1586, (13, 0, 0, []), 1), (1587, (0, 0, 1, []), 1), (1588, (40, 0, 0, []), 1), (1589, (67, 0, 0, []), 1), (1590, (20, 0, 0, []), 1), (1591, (13, 0, 0, []), 1), (1592, (0, 0, 2, []), 1), (1593, (40, 0, 0, []), 1), (1594, (67, 0, 0, []), 1), (1595, (103, 214, 0, []), 3), (1598, (76, 0, 786, []), 3), (1602, (101, 0, 0, []), 1), (1603, (21, 0, 0, []), 1), (1604, (20, 0, 0, []), 1), (1605, (13, 0, 0, []), 1), (1606, (0, 0, 1, []), 1), (1607, (40, 0, 0, []), 1), (1608, (67, 0, 0, []), 1), (1609, (20, 0, 0, []), 1), (1610, (13, 0, 0, []), 1), (1611, (0, 0, 2, []), 1), (1612, (40, 0, 0, []), 1), (1613, (67, 0, 0, []), 1), (1614, (103, 215, 0, []), 3), (1617, (22, 0, 0, []), 1), (1618, (20, 0, 0, []), 1), (1619, (13, 0, 0, []), 1), (1620, (0, 0, 1, []), 1), (1621, (40, 0, 0, []), 1), (1622, (67, 0, 0, []), 1), (1623, (20, 0, 0, []), 1), (1624, (13, 0, 0, []), 1), (1625, (0, 0, 2, []), 1), (1626, (40, 0, 0, []), 1), (1627, (67, 0, 0, []), 1), (1628, (103, 218, 0, []), 3), (1631, (76, 0, 753, []), 3), (1635, (101, 0, 0, []), 1), (1636, (21, 0, 0, []), 1), (1637, (20, 0, 0, []), 1), (1638, (13, 0, 0, []), 1), (1639, (0, 0, 1, []), 1), (1640, (40, 0, 0, []), 1), (1641, (67, 0, 0, []), 1), (1642, (20, 0, 0, []), 1), (1643, (13, 0, 0, []), 1), (1644, (0, 0, 2, []), 1), (1645, (40, 0, 0, []), 1), (1646, (67, 0, 0, []), 1), (1647, (103, 219, 0, []), 3), (1650, (22, 0, 0, []), 1), (1651, (20, 0, 0, []), 1), (1652, (13, 0, 0, []), 1), (1653, (0, 0, 1, []), 1), (1654, (40, 0, 0, []), 1), (1655, (67, 0, 0, []), 1), (1656, (20, 0, 0, []), 1), (1657, (13, 0, 0, []), 1), (1658, (0, 0, 2, []), 1), (1659, (40, 0, 0, []), 1), (1660, (67, 0, 0, []), 1), (1661, (103, 222, 0, []), 3), (1664, (76, 0, 720, []), 3), (1668, (101, 0, 0, []), 1), (1669, (21, 0, 0, []), 1), (1670, (20, 0, 0, []), 1), (1671, (13, 0, 0, []), 1), (1672, (0, 0, 1, []), 1), (1673, (40, 0, 0, []), 1), (1674, (67, 0, 0, []), 1), (1675, (103, 223, 0, []), 3), (1678, (22, 0, 0, []), 1), (1679, (20, 0, 0, []), 1), (1680, (13, 0, 0, []), 1), (1681, (0, 0, 1, []), 1), (1682, (40, 0, 0, []), 1), (1683, (67, 0, 0, []), 1), (1684, (103, 226, 0, []), 3), (1687, (76, 0, 697, []), 3), (1691, (101, 0, 0, []), 1), (1692, (21, 0, 0, []), 1), (1693, (103, 227, 0, []), 3), (1696, (22, 0, 0, []), 1), (1697, (103, 230, 0, []), 3), (1700, (76, 0, 684, []), 3), (1704, (101, 0, 0, []), 1), (1705, (21, 0, 0, []), 1), (1706, (20, 0, 0, []), 1), (1707, (13, 0, 0, []), 1), (1708, (0, 0, 1, []), 1), (1709, (40, 0, 0, []), 1), (1710, (67, 0, 0, []), 1), (1711, (103, 231, 0, []), 3), (1714, (22, 0, 0, []), 1), (1715, (20, 0, 0, []), 1), (1716, (13, 0, 0, []), 1), (1717, (0, 0, 1, []), 1), (1718, (40, 0, 0, []), 1), (1719, (67, 0, 0, []), 1), (1720, (103, 234, 0, []), 3), (1723, (76, 0, 661, []), 3), (1727, (101, 0, 0, []), 1), (1728, (21, 0, 0, []), 1), (1729, (20, 0, 0, []), 1), (1730, (13, 0, 0, []), 1), (1731, (0, 0, 1, []), 1), (1732, (40, 0, 0, []), 1), (1733, (67, 0, 0, []), 1), (1734, (20, 0, 0, []), 1), (1735, (13, 0, 0, []), 1), (1736, (0, 0, 2, []), 1), (1737, (40, 0, 0, []), 1), (1738, (67, 0, 0, []), 1), (1739, (103, 235, 0, []), 3), (1742, (22, 0, 0, []), 1), (1743, (20, 0, 0, []), 1), (1744, (13, 0, 0, []), 1), (1745, (0, 0, 1, []), 1), (1746, (40, 0, 0, []), 1), (1747, (67, 0, 0, []), 1), (1748, (20, 0, 0, []), 1), (1749, (13, 0, 0, []), 1), (1750, (0, 0, 2, []), 1), (1751, (40, 0, 0, []), 1), (1752, (67, 0, 0, []), 1), (1753, (103, 238, 0, []), 3), (1756, (76, 0, 628, []), 3), (1760, (101, 0, 0, []), 1), (1761, (21, 0, 0, []), 1), (1762, (20, 0, 0, []), 1), (1763, (13, 0, 0, []), 1), (1764, (0, 0, 1, []), 1), (1765, (40, 0, 0, []), 1), (1766, (67, 0, 0, []), 1), (1767, (20, 0, 0, []), 1), (1768, (13, 0, 0, []), 1), (1769, (0, 0, 2, []), 1), (1770, (40, 0, 0, []), 1), (1771, (67, 0, 0, []), 1), (1772, (103, 239, 0, []), 3), (1775, (22, 0, 0, []), 1), (1776, (20, 0, 0, []), 1), (1777, (13, 0, 0, []), 1), (1778, (0, 0, 1, []), 1), (1779, (40, 0, 0, []), 1), (1780, (67, 0, 0, []), 1), (1781, (20, 0, 0, []), 1), (1782, (13, 0, 0, []), 1), (1783, (0, 0, 2, []), 1), (1784, (40, 0, 0, []), 1), (1785, (67, 0, 0, []), 1), (1786, (103, 242, 0, []), 3), (1789, (76, 0, 595, []), 3), (1793, (101, 0, 0, []), 1), (1794, (21, 0, 0, []), 1), (1795, (20, 0, 0, []), 1), (1796, (13, 0, 0, []), 1), (1797, (0, 0, 1, []), 1), (1798, (40, 0, 0, []), 1), (1799, (67, 0, 0, []), 1), (1800, (20, 0, 0, []), 1), (1801, (13, 0, 0, []), 1), (1802, (0, 0, 2, []), 1), (1803, (40, 0, 0, []), 1), (1804, (67, 0, 0, []), 1), (1805, (20, 0, 0, []), 1), (1806, (13, 0, 0, []), 1), (1807, (0, 0, 3, []), 1), (1808, (40, 0, 0, []), 1), (1809, (67, 0, 0, []), 1), (1810, (20, 0, 0, []), 1), (1811, (13, 0, 0, []), 1), (1812, (0, 0, 4, []), 1), (1813, (40, 0, 0, []), 1), (1814, (67, 0, 0, []), 1), (1815, (103, 243, 0, []), 3), (1818, (22, 0, 0, []), 1), (1819, (20, 0, 0, []), 1), (1820, (13, 0, 0, []), 1), (1821, (0, 0, 1, []), 1), (1822, (40, 0, 0, []), 1), (1823, (67, 0, 0, []), 1), (1824, (20, 0, 0, []), 1), (1825, (13, 0, 0, []), 1), (1826, (0, 0, 2, []), 1), (1827, (40, 0, 0, []), 1), (1828, (67, 0, 0, []), 1), (1829, (20, 0, 0, []), 1), (1830, (13, 0, 0, []), 1), (1831, (0, 0, 3, []), 1), (1832, (40, 0, 0, []), 1), (1833, (67, 0, 0, []), 1), (1834, (20, 0, 0, []), 1), (1835, (13, 0, 0, []), 1), (1836, (0, 0, 4, []), 1), (1837, (40, 0, 0, []), 1), (1838, (67, 0, 0, []), 1), (1839, (103, 246, 0, []), 3), (1842, (76, 0, 542, []), 3), (1846, (101, 0, 0, []), 1), (1847, (21, 0, 0, []), 1), (1848, (20, 0, 0, []), 1), (1849, (13, 0, 0, []), 1), (1850, (0, 0, 1, []), 1), (1851, (40, 0, 0, []), 1), (1852, (67, 0, 0, []), 1), (1853, (20, 0, 0, []), 1), (1854, (13, 0, 0, []), 1), (1855, (0, 0, 2, []), 1), (1856, (40, 0, 0, []), 1), (1857, (67, 0, 0, []), 1), (1858, (103, 247, 0, []), 3), (1861, (22, 0, 0, []), 1), (1862, (20, 0, 0, []), 1), (1863, (13, 0, 0, []), 1), (1864, (0, 0, 1, []), 1), (1865, (40, 0, 0, []), 1), (1866, (67, 0, 0, []), 1), (1867, (20, 0, 0, []), 1), (1868, (13, 0, 0, []), 1), (1869, (0, 0, 2, []), 1), (1870, (40, 0, 0, []), 1), (1871, (67, 0, 0, []), 1), (1872, (103, 251, 0, []), 3), (1875, (66, 0, 0, []), 1), (1876, (82, 0, 508, []), 3), (1880, (101, 0, 0, []), 1), (1881, (21, 0, 0, []), 1), (1882, (20, 0, 0, []), 1), (1883, (13, 0, 0, []), 1), (1884, (0, 0, 1, []), 1), (1885, (40, 0, 0, []), 1), (1886, (67, 0, 0, []), 1), (1887, (20, 0, 0, []), 1), (1888, (13, 0, 0, []), 1), (1889, (0, 0, 2, []), 1), (1890, (40, 0, 0, []), 1), (1891, (67, 0, 0, []), 1), (1892, (103, 252, 0, []), 3), (1895, (22, 0, 0, []), 1), (1896, (20, 0, 0, []), 1), (1897, (13, 0, 0, []), 1), (1898, (0, 0, 1, []), 1), (1899, (40, 0, 0, []), 1), (1900, (67, 0, 0, []), 1), (1901, (20, 0, 0, []), 1), (1902, (13, 0, 0, []), 1), (1903, (0, 0, 2, []), 1), (1904, (40, 0, 0, []), 1), (1905, (67, 0, 0, []), 1), (1906, (103, 255, 0, []), 3), (1909, (66, 0, 0, []), 1), (1910, (82, 0, 474, []), 3), (1914, (101, 0, 0, []), 1), (1915, (21, 0, 0, []), 1), (1916, (20, 0, 0, []), 1), (1917, (13, 0, 0, []), 1), (1918, (0, 0, 1, []), 1), (1919, (40, 0, 0, []), 1), (1920, (67, 0, 0, []), 1), (1921, (20, 0, 0, []), 1), (1922, (13, 0, 0, []), 1), (1923, (0, 0, 2, []), 1), (1924, (40, 0, 0, []), 1), (1925, (67, 0, 0, []), 1), (1926, (20, 0, 0, []), 1), (1927, (13, 0, 0, []), 1), (1928, (0, 0, 3, []), 1), (1929, (40, 0, 0, []), 1), (1930, (67, 0, 0, []), 1), (1931, (103, 256, 0, []), 3), (1934, (22, 0, 0, []), 1), (1935, (20, 0, 0, []), 1), (1936, (13, 0, 0, []), 1), (1937, (0, 0, 1, []), 1), (1938, (40, 0, 0, []), 1), (1939, (67, 0, 0, []), 1), (1940, (20, 0, 0, []), 1), (1941, (13, 0, 0, []), 1), (1942, (0, 0, 2, []), 1), (1943, (40, 0, 0, []), 1), (1944, (67, 0, 0, []), 1), (1945, (20, 0, 0, []), 1), (1946, (13, 0, 0, []), 1), (1947, (0, 0, 3, []), 1), (1948, (40, 0, 0, []), 1), (1949, (67, 0, 0, []), 1), (1950, (103, 259, 0, []), 3), (1953, (76, 0, 431, []), 3), (1957, (101, 0, 0, []), 1), (1958, (21, 0, 0, []), 1), (1959, (20, 0, 0, []), 1), (1960, (13, 0, 0, []), 1), (1961, (0, 0, 1, []), 1), (1962, (40, 0, 0, []), 1), (1963, (67, 0, 0, []), 1), (1964, (20, 0, 0, []), 1), (1965, (13, 0, 0, []), 1), (1966, (0, 0, 2, []), 1), (1967, (40, 0, 0, []), 1), (1968, (67, 0, 0, []), 1), (1969, (20, 0, 0, []), 1), (1970, (13, 0, 0, []), 1), (1971, (0, 0, 3, []), 1), (1972, (40, 0, 0, []), 1), (1973, (67, 0, 0, []), 1), (1974, (103, 260, 0, []), 3), (1977, (22, 0, 0, []), 1), (1978, (20, 0, 0, []), 1), (1979, (13, 0, 0, []), 1), (1980, (0, 0, 1, []), 1), (1981, (40, 0, 0, []), 1), (1982, (67, 0, 0, []), 1), (1983, (20, 0, 0, []), 1), (1984, (13, 0, 0, []), 1), (1985, (0, 0, 2, []), 1), (1986, (40, 0, 0, []), 1), (1987, (67, 0, 0, []), 1), (1988, (20, 0, 0, []), 1), (1989, (13, 0, 0, []), 1), (1990, (0, 0, 3, []), 1), (1991, (40, 0, 0, []), 1), (1992, (67, 0, 0, []), 1), (1993, (103, 263, 0, []), 3), (1996, (76, 0, 388, []), 3), (2000, (101, 0, 0, []), 1), (2001, (21, 0, 0, []), 1), (2002, (103, 264, 0, []), 3), (2005, (22, 0, 0, []), 1), (2006, (103, 267, 0, []), 3), (2009, (76, 0, 375, []), 3), (2013, (101, 0, 0, []), 1), (2014, (21, 0, 0, []), 1), (2015, (103, 268, 0, []), 3), (2018, (22, 0, 0, []), 1), (2019, (103, 271, 0, []), 3), (2022, (76, 0, 362, []), 3), (2026, (101, 0, 0, []), 1), (2027, (21, 0, 0, []), 1), (2028, (20, 0, 0, []), 1), (2029, (13, 0, 0, []), 1), (2030, (0, 0, 1, []), 1), (2031, (40, 0, 0, []), 1), (2032, (67, 0, 0, []), 1), (2033, (20, 0, 0, []), 1), (2034, (13, 0, 0, []), 1), (2035, (0, 0, 2, []), 1), (2036, (40, 0, 0, []), 1), (2037, (67, 0, 0, []), 1), (2038, (103, 272, 0, []), 3), (2041, (22, 0, 0, []), 1), (2042, (20, 0, 0, []), 1), (2043, (13, 0, 0, []), 1), (2044, (0, 0, 1, []), 1), (2045, (40, 0, 0, []), 1), (2046, (67, 0, 0, []), 1), (2047, (20, 0, 0, []), 1), (2048, (13, 0, 0, []), 1), (2049, (0, 0, 2, []), 1), (2050, (40, 0, 0, []), 1), (2051, (67, 0, 0, []), 1), (2052, (103, 275, 0, []), 3), (2055, (76, 0, 329, []), 3), (2059, (101, 0, 0, []), 1), (2060, (21, 0, 0, []), 1), (2061, (20, 0, 0, []), 1), (2062, (13, 0, 0, []), 1), (2063, (0, 0, 1, []), 1), (2064, (40, 0, 0, []), 1), (2065, (67, 0, 0, []), 1), (2066, (20, 0, 0, []), 1), (2067, (13, 0, 0, []), 1), (2068, (0, 0, 2, []), 1), (2069, (40, 0, 0, []), 1), (2070, (67, 0, 0, []), 1), (2071, (20, 0, 0, []), 1), (2072, (13, 0, 0, []), 1), (2073, (0, 0, 3, []), 1), (2074, (40, 0, 0, []), 1), (2075, (67, 0, 0, []), 1), (2076, (103, 276, 0, []), 3), (2079, (22, 0, 0, []), 1), (2080, (20, 0, 0, []), 1), (2081, (13, 0, 0, []), 1), (2082, (0, 0, 1, []), 1), (2083, (40, 0, 0, []), 1), (2084, (67, 0, 0, []), 1), (2085, (20, 0, 0, []), 1), (2086, (13, 0, 0, []), 1), (2087, (0, 0, 2, []), 1), (2088, (40, 0, 0, []), 1), (2089, (67, 0, 0, []), 1), (2090, (20, 0, 0, []), 1), (2091, (13, 0, 0, []), 1), (2092, (0, 0, 3, []), 1), (2093, (40, 0, 0, []), 1), (2094, (67, 0, 0, []), 1), (2095, (103, 279, 0, []), 3), (2098, (76, 0, 286, []), 3), (2102, (101, 0, 0, []), 1), (2103, (21, 0, 0, []), 1), (2104, (20, 0, 0, []), 1), (2105, (13, 0, 0, []), 1), (2106, (0, 0, 1, []), 1), (2107, (40, 0, 0, []), 1), (2108, (67, 0, 0, []), 1), (2109, (20, 0, 0, []), 1), (2110, (13, 0, 0, []), 1), (2111, (0, 0, 2, []), 1), (2112, (40, 0, 0, []), 1), (2113, (67, 0, 0, []), 1), (2114, (103, 280, 0, []), 3), (2117, (22, 0, 0, []), 1), (2118, (20, 0, 0, []), 1), (2119, (13, 0, 0, []), 1), (2120, (0, 0, 1, []), 1), (2121, (40, 0, 0, []), 1), (2122, (67, 0, 0, []), 1), (2123, (20, 0, 0, []), 1), (2124, (13, 0, 0, []), 1), (2125, (0, 0, 2, []), 1), (2126, (40, 0, 0, []), 1), (2127, (67, 0, 0, []), 1), (2128, (103, 283, 0, []), 3), (2131, (76, 0, 253, []), 3), (2135, (101, 0, 0, []), 1), (2136, (21, 0, 0, []), 1), (2137, (20, 0, 0, []), 1), (2138, (13, 0, 0, []), 1), (2139, (0, 0, 1, []), 1), (2140, (40, 0, 0, []), 1), (2141, (67, 0, 0, []), 1), (2142, (103, 284, 0, []), 3), (2145, (22, 0, 0, []), 1), (2146, (20, 0, 0, []), 1), (2147, (13, 0, 0, []), 1), (2148, (0, 0, 1, []), 1), (2149, (40, 0, 0, []), 1), (2150, (67, 0, 0, []), 1), (2151, (103, 287, 0, []), 3), (2154, (76, 0, 230, []), 3), (2158, (101, 0, 0, []), 1), (2159, (21, 0, 0, []), 1), (2160, (20, 0, 0, []), 1), (2161, (13, 0, 0, []), 1), (2162, (0, 0, 1, []), 1), (2163, (40, 0, 0, []), 1), (2164, (67, 0, 0, []), 1), (2165, (103, 288, 0, []), 3), (2168, (22, 0, 0, []), 1), (2169, (20, 0, 0, []), 1), (2170, (13, 0, 0, []), 1), (2171, (0, 0, 1, []), 1), (2172, (40, 0, 0, []), 1), (2173, (67, 0, 0, []), 1), (2174, (103, 291, 0, []), 3), (2177, (76, 0, 207, []), 3), (2181, (101, 0, 0, []), 1), (2182, (21, 0, 0, []), 1), (2183, (20, 0, 0, []), 1), (2184, (13, 0, 0, []), 1), (2185, (0, 0, 1, []), 1), (2186, (40, 0, 0, []), 1), (2187, (67, 0, 0, []), 1), (2188, (103, 292, 0, []), 3), (2191, (22, 0, 0, []), 1), (2192, (20, 0, 0, []), 1), (2193, (13, 0, 0, []), 1), (2194, (0, 0, 1, []), 1), (2195, (40, 0, 0, []), 1), (2196, (67, 0, 0, []), 1), (2197, (103, 295, 0, []), 3), (2200, (76, 0, 184, []), 3), (2204, (101, 0, 0, []), 1), (2205, (21, 0, 0, []), 1), (2206, (20, 0, 0, []), 1), (2207, (13, 0, 0, []), 1), (2208, (0, 0, 1, []), 1), (2209, (40, 0, 0, []), 1), (2210, (67, 0, 0, []), 1), (2211, (20, 0, 0, []), 1), (2212, (13, 0, 0, []), 1), (2213, (0, 0, 2, []), 1), (2214, (40, 0, 0, []), 1), (2215, (67, 0, 0, []), 1), (2216, (20, 0, 0, []), 1), (2217, (13, 0, 0, []), 1), (2218, (0, 0, 3, []), 1), (2219, (40, 0, 0, []), 1), (2220, (67, 0, 0, []), 1), (2221, (103, 296, 0, []), 3), (2224, (22, 0, 0, []), 1), (2225, (20, 0, 0, []), 1), (2226, (13, 0, 0, []), 1), (2227, (0, 0, 1, []), 1), (2228, (40, 0, 0, []), 1), (2229, (67, 0, 0, []), 1), (2230, (20, 0, 0, []), 1), (2231, (13, 0, 0, []), 1), (2232, (0, 0, 2, []), 1), (2233, (40, 0, 0, []), 1), (2234, (67, 0, 0, []), 1), (2235, (20, 0, 0, []), 1), (2236, (13, 0, 0, []), 1), (2237, (0, 0, 3, []), 1), (2238, (40, 0, 0, []), 1), (2239, (67, 0, 0, []), 1), (2240, (103, 299, 0, []), 3), (2243, (76, 0, 141, []), 3), (2247, (101, 0, 0, []), 1), (2248, (21, 0, 0, []), 1), (2249, (20, 0, 0, []), 1), (2250, (13, 0, 0, []), 1), (2251, (0, 0, 1, []), 1), (2252, (40, 0, 0, []), 1), (2253, (67, 0, 0, []), 1), (2254, (20, 0, 0, []), 1), (2255, (13, 0, 0, []), 1), (2256, (0, 0, 2, []), 1), (2257, (40, 0, 0, []), 1), (2258, (67, 0, 0, []), 1), (2259, (20, 0, 0, []), 1), (2260, (13, 0, 0, []), 1), (2261, (0, 0, 3, []), 1), (2262, (40, 0, 0, []), 1), (2263, (67, 0, 0, []), 1), (2264, (59, 0, 0, []), 1), (2265, (1, 0, 32, []), 2), (2267, (57, 0, 0, []), 1), (2268, (20, 0, 0, []), 1), (2269, (13, 0, 0, []), 1), (2270, (0, 0, 4, []), 1), (2271, (40, 0, 0, []), 1), (2272, (67, 0, 0, []), 1), (2273, (59, 0, 0, []), 1), (2274, (8, 300, 0, []), 3), (2277, (53, 0, 0, []), 1), (2278, (54, 0, 0, []), 1), (2279, (103, 302, 0, []), 3), (2282, (22, 0, 0, []), 1), (2283, (20, 0, 0, []), 1), (2284, (13, 0, 0, []), 1), (2285, (0, 0, 1, []), 1), (2286, (40, 0, 0, []), 1), (2287, (67, 0, 0, []), 1), (2288, (20, 0, 0, []), 1), (2289, (13, 0, 0, []), 1), (2290, (0, 0, 2, []), 1), (2291, (40, 0, 0, []), 1), (2292, (67, 0, 0, []), 1), (2293, (20, 0, 0, []), 1), (2294, (13, 0, 0, []), 1), (2295, (0, 0, 3, []), 1), (2296, (40, 0, 0, []), 1), (2297, (67, 0, 0, []), 1), (2298, (59, 0, 0, []), 1), (2299, (1, 0, 32, []), 2), (2301, (57, 0, 0, []), 1), (2302, (20, 0, 0, []), 1), (2303, (13, 0, 0, []), 1), (2304, (0, 0, 4, []), 1), (2305, (40, 0, 0, []), 1), (2306, (67, 0, 0, []), 1), (2307, (59, 0, 0, []), 1), (2308, (8, 300, 0, []), 3), (2311, (53, 0, 0, []), 1), (2312, (54, 0, 0, []), 1), (2313, (103, 306, 0, []), 3), (2316, (76, 0, 68, []), 3), (2320, (101, 0, 0, []), 1), (2321, (21, 0, 0, []), 1), (2322, (20, 0, 0, []), 1), (2323, (13, 0, 0, []), 1), (2324, (0, 0, 1, []), 1), (2325, (40, 0, 0, []), 1), (2326, (67, 0, 0, []), 1), (2327, (20, 0, 0, []), 1), (2328, (13, 0, 0, []), 1), (2329, (0, 0, 2, []), 1), (2330, (40, 0, 0, []), 1), (2331, (67, 0, 0, []), 1), (2332, (20, 0, 0, []), 1), (2333, (13, 0, 0, []), 1), (2334, (0, 0, 3, []), 1), (2335, (40, 0, 0, []), 1), (2336, (67, 0, 0, []), 1), (2337, (20, 0, 0, []), 1), (2338, (13, 0, 0, []), 1), (2339, (0, 0, 4, []), 1), (2340, (40, 0, 0, []), 1), (2341, (67, 0, 0, []), 1), (2342, (20, 0, 0, []), 1), (2343, (13, 0, 0, []), 1), (2344, (0, 0, 5, []), 1), (2345, (40, 0, 0, []), 1), (2346, (67, 0, 0, []), 1), (2347, (103, 307, 0, []), 3), (2350, (22, 0, 0, []), 1), (2351, (20, 0, 0, []), 1), (2352, (13, 0, 0, []), 1), (2353, (0, 0, 1, []), 1), (2354, (40, 0, 0, []), 1), (2355, (67, 0, 0, []), 1), (2356, (20, 0, 0, []), 1), (2357, (13, 0, 0, []), 1), (2358, (0, 0, 2, []), 1), (2359, (40, 0, 0, []), 1), (2360, (67, 0, 0, []), 1), (2361, (20, 0, 0, []), 1), (2362, (13, 0, 0, []), 1), (2363, (0, 0, 3, []), 1), (2364, (40, 0, 0, []), 1), (2365, (67, 0, 0, []), 1), (2366, (20, 0, 0, []), 1), (2367, (13, 0, 0, []), 1), (2368, (0, 0, 4, []), 1), (2369, (40, 0, 0, []), 1), (2370, (67, 0, 0, []), 1), (2371, (20, 0, 0, []), 1), (2372, (13, 0, 0, []), 1), (2373, (0, 0, 5, []), 1), (2374, (40, 0, 0, []), 1), (2375, (67, 0, 0, []), 1), (2376, (103, 310, 0, []), 3), (2379, (76, 0, 5, []), 3), (2383, (101, 0, 0, []), 1), (2384, (39, 3, 6, []), 3), (2387, (88, 0, (-2369), []), 3), (2390, (0, 0, 1, []), 1), (2391, (101, 0, 0, []), 1)]
def zmL : zM := (x, code, 4, some .boolean, zpL, 600000, 7302250, 13, false)
def zMTi0 : List ((Nat × Nat) × zM) := [((1, 26), zm0), ((1, 34), zm1), ((1, 51), zm2), ((1, 57), zm3), ((1, 88), zm4), ((1, 94), zm5), ((2, 16), zm6), ((2, 59), zm7), ((2, 98), zm8), ((2, 141), zm9), ((2, 147), zm10), ((2, 168), zm11), ((2, 193), zm12), ((6, 172), zm13), ((3, 25), zm14), ((3, 29), zm15), ((7, 66), zm16), ((6, 162), zm17), ((5, 120), zm18), ((5, 124), zm19), ((9, 222), zm20), ((9, 52), zm21), ((7, 58), zm22), ((6, 150), zm23), ((9, 215), zm24), ((6, 138), zm25), ((6, 143), zm26), ((6, 146), zm27), ((9, 211), zm28), ((6, 134), zm29), ((6, 130), zm30), ((7, 62), zm31), ((6, 127), zm32), ((3, 181), zm33), ((3, 188), zm34), ((7, 54), zm35), ((6, 118), zm36), ((6, 122), zm37), ((9, 207), zm38), ((6, 114), zm39)]
def zMTi1 : List ((Nat × Nat) × zM) := [((4, 42), zm40), ((9, 202), zm41), ((7, 195), zm42), ((7, 199), zm43), ((6, 109), zm44), ((6, 88), zm45), ((9, 197), zm46), ((9, 184), zm47), ((6, 85), zm48), ((4, 62), zm49), ((9, 181), zm50), ((8, 46), zm51), ((6, 81), zm52), ((9, 177), zm53), ((6, 77), zm54), ((9, 173), zm55), ((6, 73), zm56), ((9, 169), zm57), ((6, 65), zm58), ((5, 60), zm59), ((4, 86), zm60), ((9, 160), zm61), ((8, 79), zm62), ((6, 57), zm63), ((9, 156), zm64), ((6, 39), zm65), ((9, 147), zm66), ((6, 34), zm67), ((6, 22), zm68), ((4, 26), zm69), ((9, 143), zm70), ((9, 135), zm71), ((7, 175), zm72), ((7, 179), zm73), ((6, 18), zm74), ((9, 131), zm75), ((5, 230), zm76), ((4, 34), zm77), ((9, 117), zm78), ((7, 227), zm79)]
def zMTi2 : List ((Nat × Nat) × zM) := [((7, 231), zm80), ((7, 187), zm81), ((7, 235), zm82), ((7, 203), zm83), ((5, 222), zm84), ((9, 109), zm85), ((5, 209), zm86), ((9, 101), zm87), ((7, 223), zm88), ((8, 2), zm89), ((8, 6), zm90), ((5, 201), zm91), ((9, 93), zm92), ((5, 192), zm93), ((5, 116), zm94), ((9, 89), zm95), ((9, 49), zm96), ((5, 188), zm97), ((5, 112), zm98), ((9, 85), zm99), ((9, 45), zm100), ((5, 170), zm101), ((9, 73), zm102), ((5, 162), zm103), ((9, 69), zm104), ((5, 154), zm105), ((9, 65), zm106), ((5, 108), zm107), ((9, 41), zm108), ((5, 96), zm109), ((9, 37), zm110), ((5, 84), zm111), ((9, 29), zm112), ((5, 75), zm113), ((9, 25), zm114), ((5, 57), zm115), ((9, 15), zm116), ((5, 53), zm117), ((9, 11), zm118), ((5, 31), zm119)]
def zMTi3 : List ((Nat × Nat) × zM) := [((9, 3), zm120), ((5, 23), zm121), ((8, 239), zm122), ((5, 19), zm123), ((8, 235), zm124), ((5, 11), zm125), ((4, 50), zm126), ((8, 227), zm127), ((5, 7), zm128), ((8, 223), zm129), ((8, 95), zm130), ((5, 3), zm131), ((8, 219), zm132), ((4, 239), zm133), ((8, 203), zm134), ((4, 234), zm135), ((8, 215), zm136), ((4, 226), zm137), ((8, 211), zm138), ((4, 220), zm139), ((8, 199), zm140), ((7, 219), zm141), ((8, 50), zm142), ((4, 212), zm143), ((8, 166), zm144), ((4, 203), zm145), ((4, 58), zm146), ((8, 191), zm147), ((4, 198), zm148), ((8, 187), zm149), ((4, 194), zm150), ((8, 183), zm151), ((4, 190), zm152), ((8, 179), zm153), ((4, 186), zm154), ((8, 175), zm155), ((4, 178), zm156), ((8, 170), zm157), ((4, 174), zm158), ((8, 162), zm159)]
def zMTi4 : List ((Nat × Nat) × zM) := [((4, 164), zm160), ((8, 155), zm161), ((4, 156), zm162), ((8, 147), zm163), ((4, 148), zm164), ((8, 139), zm165), ((4, 130), zm166), ((8, 127), zm167), ((4, 126), zm168), ((8, 123), zm169), ((4, 122), zm170), ((8, 119), zm171), ((4, 114), zm172), ((8, 111), zm173), ((4, 110), zm174), ((8, 107), zm175), ((4, 106), zm176), ((8, 103), zm177), ((4, 98), zm178), ((8, 91), zm179), ((4, 94), zm180), ((8, 87), zm181), ((8, 75), zm182), ((4, 82), zm183), ((8, 71), zm184), ((4, 70), zm185), ((8, 58), zm186), ((4, 54), zm187), ((7, 215), zm188), ((4, 46), zm189), ((7, 207), zm190), ((4, 38), zm191), ((7, 191), zm192), ((4, 30), zm193), ((7, 183), zm194), ((4, 22), zm195), ((7, 171), zm196), ((4, 18), zm197), ((7, 74), zm198), ((3, 37), zm199)]
def zMTi5 : List ((Nat × Nat) × zM) := [((3, 41), zm200), ((3, 45), zm201), ((3, 49), zm202), ((3, 53), zm203), ((3, 57), zm204), ((3, 65), zm205), ((3, 69), zm206), ((3, 193), zm207), ((3, 197), zm208), ((3, 213), zm209), ((7, 78), zm210), ((7, 82), zm211), ((7, 86), zm212), ((7, 96), zm213), ((3, 33), zm214), ((7, 70), zm215)]
def zMT : List zM := [zm0, zm1, zm2, zm3, zm4, zm5, zm6, zm7, zm8, zm9, zm10, zm11, zm12, zm13, zm14, zm15, zm16, zm17, zm18, zm19, zm20, zm21, zm22, zm23, zm24, zm25, zm26, zm27, zm28, zm29, zm30, zm31, zm32, zm33, zm34, zm35, zm36, zm37, zm38, zm39, zm40, zm41, zm42, zm43, zm44, zm45, zm46, zm47, zm48, zm49, zm50, zm51, zm52, zm53, zm54, zm55, zm56, zm57, zm58, zm59, zm60, zm61, zm62, zm63, zm64, zm65, zm66, zm67, zm68, zm69, zm70, zm71, zm72, zm73, zm74, zm75, zm76, zm77, zm78, zm79, zm80, zm81, zm82, zm83, zm84, zm85, zm86, zm87, zm88, zm89, zm90, zm91, zm92, zm93, zm94, zm95, zm96, zm97, zm98, zm99, zm100, zm101, zm102, zm103, zm104, zm105, zm106, zm107, zm108, zm109, zm110, zm111, zm112, zm113, zm114, zm115, zm116, zm117, zm118, zm119, zm120, zm121, zm122, zm123, zm124, zm125, zm126, zm127, zm128, zm129, zm130, zm131, zm132, zm133, zm134, zm135, zm136, zm137, zm138, zm139, zm140, zm141, zm142, zm143, zm144, zm145, zm146, zm147, zm148, zm149, zm150, zm151, zm152, zm153, zm154, zm155, zm156, zm157, zm158, zm159, zm160, zm161, zm162, zm163, zm164, zm165, zm166, zm167, zm168, zm169, zm170, zm171, zm172, zm173, zm174, zm175, zm176, zm177, zm178, zm179, zm180, zm181, zm182, zm183, zm184, zm185, zm186, zm187, zm188, zm189, zm190, zm191, zm192, zm193, zm194, zm195, zm196, zm197, zm198, zm199, zm200, zm201, zm202, zm203, zm204, zm205, zm206, zm207, zm208, zm209, zm210, zm211, zm212, zm213, zm214, zm215]
def zGG : List zC := [(0, 11, [(2, 0, 0), (2, 0, 0), (2, 0, 0), (2, 0, 0), (2, 0, 0), (2, 0, 0), (2, 0, 0), (2, 0, 0), (2, 0, 0), (2, 0, 0), (2, 0, 0), (0, (-2147483648), 2147483647), (0, (-2147483648), 2147483647)]), (0, 6, [(2, 0, 0), (0, (-2147483648), 2147483647)]), (3, 700, [(0, (-128), 127)]), (0, 7, [(2, 0, 0), (2, 0, 0)]), (0, 8, [(2, 0, 0), (0, (-2147483648), 2147483647), (0, (-2147483648), 2147483647), (0, (-2147483648), 2147483647), (0, (-2147483648), 2147483647), (0, (-2147483648), 2147483647), (0, (-2147483648), 2147483647)]), (0, 3, [(0, (-2147483648), 2147483647), (0, (-2147483648), 2147483647), (0, (-2147483648), 2147483647), (0, (-2147483648), 2147483647), (0, (-2147483648), 2147483647), (0, (-2147483648), 2147483647), (0, (-2147483648), 2147483647), (0, (-2147483648), 2147483647), (0, (-2147483648), 2147483647), (0, (-2147483648), 2147483647), (2, 0, 0), (2, 0, 0), (2, 0, 0), (2, 0, 0), (2, 0, 0), (2, 0, 0), (2, 0, 0), (2, 0, 0), (2, 0, 0)]), (1, 6, [(0, 0, 0)]), (1, 8, [(0, 0, 0)]), (1, 6, [(0, 0, 0)]), (1, 6, [(0, 0, 0)]), (1, 6, [(0, 0, 0)]), (1, 9, [(0, 0, 0)]), (1, 9, [(0, 0, 0)]), (1, 9, [(0, 0, 0)]), (0, 0, [(0, (-2147483648), 2147483647), (2, 0, 0), (2, 0, 0), (2, 0, 0), (2, 0, 0)]), (1, 30, [(0, 0, 0)]), (1, 30, [(0, 0, 0)]), (1, 30, [(0, 0, 0)]), (1, 30, [(0, 0, 0)]), (0, 3, [(0, (-2147483648), 2147483647), (0, (-2147483648), 2147483647), (0, (-2147483648), 2147483647), (0, (-2147483648), 2147483647), (0, (-2147483648), 2147483647), (0, (-2147483648), 2147483647), (0, (-2147483648), 2147483647), (0, (-2147483648), 2147483647), (0, (-2147483648), 2147483647), (0, (-2147483648), 2147483647), (2, 0, 0), (2, 0, 0), (2, 0, 0), (2, 0, 0), (2, 0, 0), (2, 0, 0), (2, 0, 0), (2, 0, 0), (2, 0, 0)]), (1, 6, [(0, 0, 0)]), (1, 8, [(0, 0, 0)]), (1, 6, [(0, 0, 0)]), (1, 6, [(0, 0, 0)]), (1, 6, [(0, 0, 0)]), (1, 9, [(0, 0, 0)]), (1, 9, [(0, 0, 0)]), (1, 9, [(0, 0, 0)]), (0, 0, [(0, (-2147483648), 2147483647), (2, 0, 0), (2, 0, 0), (2, 0, 0), (2, 0, 0)]), (1, 30, [(0, 0, 0)]), (1, 30, [(0, 0, 0)]), (1, 30, [(0, 0, 0)]), (1, 30, [(0, 0, 0)]), (0, 1, [(2, 0, 0), (2, 0, 0), (2, 0, 0), (2, 0, 0), (2, 0, 0), (2, 0, 0), (2, 0, 0), (0, (-2147483648), 2147483647), (0, (-2147483648), 2147483647)]), (1, 39, [(0, 0, 0)]), (1, 39, [(0, 0, 0)]), (1, 39, [(0, 0, 0)]), (1, 15, [(0, 0, 0)]), (1, 30, [(0, 0, 0)]), (1, 30, [(0, 0, 0)]), (1, 15, [(0, 0, 0)]), (0, 4, [(2, 0, 0), (2, 0, 0), (0, (-2147483648), 2147483647), (0, (-2147483648), 2147483647), (0, (-2147483648), 2147483647), (0, (-2147483648), 2147483647), (0, (-2147483648), 2147483647)]), (4, 100, [(0, 0, 0)]), (5, 6, [(2, 0, 0), (2, 0, 0)]), (0, 10, [(2, 0, 0), (2, 0, 0), (2, 0, 0), (0, (-2147483648), 2147483647), (0, (-2147483648), 2147483647), (0, (-2147483648), 2147483647), (2, 0, 0), (2, 0, 0), (0, (-2147483648), 2147483647), (0, (-2147483648), 2147483647)]), (1, 15, [(0, 0, 0)]), (1, 14, [(0, 0, 0)]), (0, 10, [(2, 0, 0), (2, 0, 0), (2, 0, 0), (0, (-2147483648), 2147483647), (0, (-2147483648), 2147483647), (0, (-2147483648), 2147483647), (2, 0, 0), (2, 0, 0), (0, (-2147483648), 2147483647), (0, (-2147483648), 2147483647)]), (1, 15, [(0, 0, 0)]), (1, 14, [(0, 0, 0)]), (0, 10, [(2, 0, 0), (2, 0, 0), (2, 0, 0), (0, (-2147483648), 2147483647), (0, (-2147483648), 2147483647), (0, (-2147483648), 2147483647), (2, 0, 0), (2, 0, 0), (0, (-2147483648), 2147483647), (0, (-2147483648), 2147483647)]), (1, 15, [(0, 0, 0)]), (1, 14, [(0, 0, 0)]), (0, 10, [(2, 0, 0), (2, 0, 0), (2, 0, 0), (0, (-2147483648), 2147483647), (0, (-2147483648), 2147483647), (0, (-2147483648), 2147483647), (2, 0, 0), (2, 0, 0), (0, (-2147483648), 2147483647), (0, (-2147483648), 2147483647)]), (1, 15, [(0, 0, 0)]), (1, 14, [(0, 0, 0)]), (0, 10, [(2, 0, 0), (2, 0, 0), (2, 0, 0), (0, (-2147483648), 2147483647), (0, (-2147483648), 2147483647), (0, (-2147483648), 2147483647), (2, 0, 0), (2, 0, 0), (0, (-2147483648), 2147483647), (0, (-2147483648), 2147483647)]), (1, 15, [(0, 0, 0)]), (1, 14, [(0, 0, 0)]), (0, 10, [(2, 0, 0), (2, 0, 0), (2, 0, 0), (0, (-2147483648), 2147483647), (0, (-2147483648), 2147483647), (0, (-2147483648), 2147483647), (2, 0, 0), (2, 0, 0), (0, (-2147483648), 2147483647), (0, (-2147483648), 2147483647)]), (1, 15, [(0, 0, 0)]), (1, 14, [(0, 0, 0)]), (0, 5, [(2, 0, 0), (2, 0, 0), (2, 0, 0)]), (7, 4, [(2, 0, 0), (2, 0, 0)]), (2, 60, [(1, 0, 0)]), (2, 60, [(1, 0, 0)]), (2, 60, [(1, 0, 0)]), (2, 60, [(1, 0, 0)]), (1, 4, [(0, (-2147483648), 2147483647), (0, (-2147483648), 2147483647), (0, (-2147483648), 2147483647), (0, (-2147483648), 2147483647)]), (1, 4, [(0, (-2147483648), 2147483647), (0, (-2147483648), 2147483647), (0, (-2147483648), 2147483647), (0, (-2147483648), 2147483647)]), (0, 9, [(2, 0, 0), (2, 0, 0), (2, 0, 0), (2, 0, 0)]), (0, 4, [(2, 0, 0), (2, 0, 0), (0, (-2147483648), 2147483647), (0, (-2147483648), 2147483647), (0, (-2147483648), 2147483647), (0, (-2147483648), 2147483647), (0, (-2147483648), 2147483647)]), (4, 100, [(0, 0, 0)]), (1, 256, [(0, 0, 0)]), (0, 10, [(2, 0, 0), (2, 0, 0), (2, 0, 0), (0, (-2147483648), 2147483647), (0, (-2147483648), 2147483647), (0, (-2147483648), 2147483647), (2, 0, 0), (2, 0, 0), (0, (-2147483648), 2147483647), (0, (-2147483648), 2147483647)]), (1, 15, [(0, 0, 0)]), (1, 14, [(0, 0, 0)]), (0, 2, [(2, 0, 0), (2, 0, 0), (2, 0, 0), (2, 0, 0), (2, 0, 0), (0, (-2147483648), 2147483647), (0, (-2147483648), 2147483647)]), (4, 31, [(0, 0, 0)]), (8, 31, [(2, 0, 0), (2, 0, 0)]), (1, 15, [(0, 0, 0)]), (1, 15, [(0, 0, 0)]), (1, 15, [(0, 0, 0)]), (1, 15, [(0, 0, 0)]), (1, 15, [(0, 0, 0)]), (1, 15, [(0, 0, 0)]), (1, 15, [(0, 0, 0)]), (1, 15, [(0, 0, 0)]), (1, 15, [(0, 0, 0)]), (1, 15, [(0, 0, 0)]), (1, 15, [(0, 0, 0)]), (1, 15, [(0, 0, 0)]), (1, 15, [(0, 0, 0)]), (1, 15, [(0, 0, 0)]), (1, 15, [(0, 0, 0)]), (1, 15, [(0, 0, 0)]), (1, 15, [(0, 0, 0)]), (1, 15, [(0, 0, 0)]), (1, 15, [(0, 0, 0)]), (1, 15, [(0, 0, 0)]), (1, 15, [(0, 0, 0)]), (1, 15, [(0, 0, 0)]), (1, 15, [(0, 0, 0)]), (1, 15, [(0, 0, 0)]), (1, 15, [(0, 0, 0)]), (1, 15, [(0, 0, 0)]), (1, 15, [(0, 0, 0)]), (1, 15, [(0, 0, 0)]), (1, 15, [(0, 0, 0)]), (1, 15, [(0, 0, 0)]), (1, 15, [(0, 0, 0)]), (6, 3, [(2, 0, 0), (2, 0, 0)]), (4, 3, [(0, (-2147483648), 2147483647), (0, (-2147483648), 2147483647), (0, (-2147483648), 2147483647)]), (0, 3, [(0, (-2147483648), 2147483647), (0, (-2147483648), 2147483647), (0, (-2147483648), 2147483647), (0, (-2147483648), 2147483647), (0, (-2147483648), 2147483647), (0, (-2147483648), 2147483647), (0, (-2147483648), 2147483647), (0, (-2147483648), 2147483647), (0, (-2147483648), 2147483647), (0, (-2147483648), 2147483647), (2, 0, 0), (2, 0, 0), (2, 0, 0), (2, 0, 0), (2, 0, 0), (2, 0, 0), (2, 0, 0), (2, 0, 0), (2, 0, 0)]), (1, 6, [(0, 0, 0)]), (1, 8, [(0, 0, 0)]), (1, 6, [(0, 0, 0)]), (1, 6, [(0, 0, 0)]), (1, 6, [(0, 0, 0)]), (1, 9, [(0, 0, 0)]), (1, 9, [(0, 0, 0)]), (1, 9, [(0, 0, 0)]), (0, 0, [(0, (-2147483648), 2147483647), (2, 0, 0), (2, 0, 0), (2, 0, 0), (2, 0, 0)]), (1, 30, [(0, 0, 0)]), (1, 30, [(0, 0, 0)]), (1, 30, [(0, 0, 0)]), (1, 30, [(0, 0, 0)]), (0, 3, [(0, (-2147483648), 2147483647), (0, (-2147483648), 2147483647), (0, (-2147483648), 2147483647), (0, (-2147483648), 2147483647), (0, (-2147483648), 2147483647), (0, (-2147483648), 2147483647), (0, (-2147483648), 2147483647), (0, (-2147483648), 2147483647), (0, (-2147483648), 2147483647), (0, (-2147483648), 2147483647), (2, 0, 0), (2, 0, 0), (2, 0, 0), (2, 0, 0), (2, 0, 0), (2, 0, 0), (2, 0, 0), (2, 0, 0), (2, 0, 0)]), (1, 6, [(0, 0, 0)]), (1, 8, [(0, 0, 0)]), (1, 6, [(0, 0, 0)]), (1, 6, [(0, 0, 0)]), (1, 6, [(0, 0, 0)]), (1, 9, [(0, 0, 0)]), (1, 9, [(0, 0, 0)]), (1, 9, [(0, 0, 0)]), (0, 0, [(0, (-2147483648), 2147483647), (2, 0, 0), (2, 0, 0), (2, 0, 0), (2, 0, 0)]), (1, 30, [(0, 0, 0)]), (1, 30, [(0, 0, 0)]), (1, 30, [(0, 0, 0)]), (1, 30, [(0, 0, 0)]), (0, 3, [(0, (-2147483648), 2147483647), (0, (-2147483648), 2147483647), (0, (-2147483648), 2147483647), (0, (-2147483648), 2147483647), (0, (-2147483648), 2147483647), (0, (-2147483648), 2147483647), (0, (-2147483648), 2147483647), (0, (-2147483648), 2147483647), (0, (-2147483648), 2147483647), (0, (-2147483648), 2147483647), (2, 0, 0), (2, 0, 0), (2, 0, 0), (2, 0, 0), (2, 0, 0), (2, 0, 0), (2, 0, 0), (2, 0, 0), (2, 0, 0)]), (1, 6, [(0, 0, 0)]), (1, 8, [(0, 0, 0)]), (1, 6, [(0, 0, 0)]), (1, 6, [(0, 0, 0)]), (1, 6, [(0, 0, 0)]), (1, 9, [(0, 0, 0)]), (1, 9, [(0, 0, 0)]), (1, 9, [(0, 0, 0)]), (0, 0, [(0, (-2147483648), 2147483647), (2, 0, 0), (2, 0, 0), (2, 0, 0), (2, 0, 0)]), (1, 30, [(0, 0, 0)]), (1, 30, [(0, 0, 0)]), (1, 30, [(0, 0, 0)]), (1, 30, [(0, 0, 0)]), (0, 12, [(0, (-2147483648), 2147483647), (2, 0, 0), (2, 0, 0), (2, 0, 0), (2, 0, 0), (0, (-2147483648), 2147483647), (2, 0, 0), (0, (-2147483648), 2147483647), (0, (-2147483648), 2147483647), (0, (-2147483648), 2147483647), (0, (-2147483648), 2147483647), (0, (-2147483648), 2147483647), (0, (-2147483648), 2147483647), (0, (-2147483648), 2147483647), (2, 0, 0), (2, 0, 0), (2, 0, 0), (0, (-2147483648), 2147483647), (0, (-2147483648), 2147483647), (0, (-2147483648), 2147483647), (0, (-2147483648), 2147483647), (0, (-2147483648), 2147483647), (2, 0, 0), (2, 0, 0), (2, 0, 0), (2, 0, 0), (2, 0, 0), (2, 0, 0), (2, 0, 0), (0, (-2147483648), 2147483647), (0, (-2147483648), 2147483647), (2, 0, 0), (1, (-9223372036854775808), 9223372036854775807), (1, (-9223372036854775808), 9223372036854775807), (1, (-9223372036854775808), 9223372036854775807), (2, 0, 0), (2, 0, 0), (2, 0, 0), (2, 0, 0)]), (1, 100, [(0, 0, 0)]), (1, 300, [(0, 0, 0)]), (4, 3, [(0, (-2147483648), 2147483647), (0, (-2147483648), 2147483647), (0, (-2147483648), 2147483647)]), (3, 700, [(0, (-128), 127)]), (1, 5, [(0, (-2147483648), 2147483647)]), (1, 100, [(0, 0, 0)]), (1, 6, [(0, 0, 0)]), (4, 100, [(0, 0, 0)]), (1, 6, [(0, 0, 0)]), (1, 90, [(0, 0, 0)]), (1, 84, [(0, 0, 0)]), (1, 6, [(0, (-1), 0)]), (1, 6, [(0, 0, 0)]), (1, 31, [(0, 0, 0)]), (1, 465, [(0, 0, 0)]), (1, 256, [(0, 0, 0)]), (1, 4, [(0, (-2147483648), 2147483647), (0, (-2147483648), 2147483647), (0, (-2147483648), 2147483647), (0, (-2147483648), 2147483647)]), (1, 4, [(0, (-2147483648), 2147483647), (0, (-2147483648), 2147483647), (0, (-2147483648), 2147483647), (0, (-2147483648), 2147483647)]), (2, 240, [(1, 0, 0)]), (2, 60, [(1, 0, 0)])]
def zFL : List (List (Nat × Nat × Nat)) := [[(9, 0, 1), (15, 0, 2), (18, 0, 3), (21, 0, 4), (24, 0, 0)], [(9, 1, 0), (15, 1, 1), (18, 1, 2), (21, 1, 3), (24, 1, 4), (27, 1, 5), (30, 1, 6), (33, 1, 7), (37, 1, 8), (40, 3, 1)], [(9, 2, 0), (15, 2, 1), (19, 2, 2), (23, 2, 3), (29, 2, 4), (38, 3, 8)], [(9, 3, 10), (15, 3, 11), (18, 3, 12), (21, 3, 13), (24, 3, 14), (27, 3, 15), (30, 3, 16), (33, 3, 17), (39, 3, 18), (43, 3, 0), (47, 3, 1), (50, 3, 2), (53, 3, 3), (56, 3, 4), (59, 3, 5), (62, 3, 6), (65, 3, 7), (68, 3, 8), (71, 3, 9), (74, 0, 0)], [(9, 4, 0), (15, 4, 1), (19, 3, 2), (25, 4, 2), (28, 3, 9), (31, 4, 3), (34, 4, 4), (37, 3, 7)], [(13, 5, 0), (16, 5, 1), (20, 5, 2)], [(9, 6, 0), (13, 6, 1)], [(14, 7, 0), (23, 7, 1)], [(9, 8, 0), (15, 8, 5), (19, 8, 6), (22, 8, 2), (28, 8, 1), (31, 8, 4), (58, 8, 3), (65, 6, 1)], [(9, 9, 0), (20, 9, 2), (24, 9, 1), (33, 9, 3)], [(9, 10, 0), (15, 10, 1), (19, 10, 2), (23, 10, 6), (27, 10, 7)], [(10, 11, 0), (21, 11, 1), (28, 11, 2), (35, 11, 3), (44, 11, 4), (50, 11, 5), (60, 11, 6), (69, 11, 7), (78, 11, 8), (82, 11, 9), (86, 11, 10), (90, 11, 11), (94, 11, 12), (97, 6, 1), (107, 7, 0), (111, 8, 5), (116, 8, 6), (119, 7, 1), (128, 3, 0), (199, 3, 8), (219, 3, 6), (227, 3, 1), (271, 3, 9), (329, 3, 7), (360, 3, 18), (370, 0, 0), (385, 3, 2), (388, 3, 3), (391, 3, 4), (394, 3, 5)], [(9, 12, 1), (13, 12, 2), (16, 12, 3), (20, 12, 4), (24, 12, 6), (27, 12, 13), (31, 12, 14), (34, 12, 15), (37, 12, 16), (40, 12, 22), (43, 12, 23), (46, 12, 24), (49, 12, 25), (52, 12, 26), (55, 12, 27), (58, 12, 28), (61, 12, 31), (64, 12, 35), (67, 12, 36), (70, 12, 37), (74, 12, 38), (102, 12, 5), (105, 12, 7), (108, 12, 8), (115, 12, 9), (118, 12, 10), (139, 12, 12), (247, 12, 17), (250, 12, 18), (253, 12, 19)], [], []]
def zFLi : List (List (List (Nat × Nat))) := [[[(1, 100)], [(1, 102)], [(1, 104)], [(1, 106)], [(1, 96)]], [[(2, 18)], [(2, 20)], [(2, 23)], [(2, 25)], [(2, 28)], [(2, 30)], [(2, 32)], [(2, 34)], [(2, 35)], [(1, 125)]], [[(2, 197)], [(2, 198)], [(2, 199)], [(2, 200)], [(2, 201)], [(1, 152)]], [[(1, 163)], [(1, 167)], [(1, 172)], [(1, 178)], [(1, 183)], [(1, 187)], [(1, 191)], [(1, 195)], [(1, 199)], [(1, 120)], [(1, 123)], [(1, 131)], [(1, 134)], [(1, 138)], [(1, 141)], [(1, 144)], [(1, 147)], [(1, 153)], [(1, 158)], [(1, 97)]], [[(2, 61)], [(2, 62)], [(1, 130)], [(2, 63)], [(1, 157)], [(2, 67)], [(2, 70)], [(1, 148)]], [[(2, 148)], [(2, 151)], [(2, 153)]], [[(1, 36)], [(1, 38)]], [[(2, 1)], [(2, 3)]], [[(1, 59)], [(1, 65)], [(1, 67)], [(1, 61)], [(1, 60)], [(1, 64)], [(1, 62)], [(1, 40)]], [[(2, 174)], [(2, 176)], [(2, 175)], [(2, 178)]], [[(2, 100)], [(2, 101)], [(2, 102)], [(2, 106)], [(2, 110)]], [[(2, 222)], [(2, 223)], [(2, 224)], [(2, 225)], [(2, 226)], [(2, 227)], [(2, 228)], [(2, 229)], [(2, 230)], [(2, 231)], [(2, 232)], [(2, 233)], [(2, 234)], [(1, 39)], [(2, 2)], [(1, 66)], [(1, 68)], [(2, 4)], [(1, 122)], [(1, 156)], [(1, 146)], [(1, 129)], [(1, 162)], [(1, 151)], [(1, 201)], [(1, 99)], [(1, 133)], [(1, 137)], [(1, 140)], [(1, 143)]], [[(6, 174)], [(6, 175)], [(6, 176)], [(6, 177)], [(6, 179)], [(6, 186)], [(6, 187)], [(6, 188)], [(6, 189)], [(6, 195)], [(6, 196)], [(6, 197)], [(6, 198)], [(6, 199)], [(6, 200)], [(6, 201)], [(6, 204)], [(6, 208)], [(6, 209)], [(6, 210)], [(6, 211)], [(6, 178)], [(6, 180)], [(6, 181)], [(6, 182)], [(6, 183)], [(6, 185)], [(6, 190)], [(6, 191)], [(6, 192)]], [], []]
def zNW : List (List (Nat × Nat × Nat)) := [[], [], [], [(36, 0, 5)], [], [], [], [(9, 8, 7), (20, 3, 19)], [], [(15, 4, 7), (28, 10, 10)], [], [(7, 6, 2), (16, 7, 2), (25, 3, 19), (32, 1, 9), (39, 4, 7), (48, 10, 10), (57, 5, 3), (64, 9, 4), (73, 2, 7)], [], [(7, 11, 13), (10, 12, 39)], []]
def zNWi : List (List (List (Nat × Nat))) := [[], [], [], [[(1, 90), (1, 91), (1, 6)]], [], [], [], [[(1, 53), (1, 54), (1, 4)], [(1, 84), (1, 85), (1, 5)]], [], [[(2, 170), (2, 56), (1, 8)], [(2, 172), (2, 95), (1, 9)]], [], [[(1, 30), (1, 31), (1, 2)], [(1, 47), (1, 48), (1, 3)], [(2, 10), (1, 85), (1, 5)], [(2, 12), (2, 13), (1, 7)], [(2, 55), (2, 56), (1, 8)], [(2, 93), (2, 95), (1, 9)], [(2, 137), (2, 138), (1, 10)], [(2, 164), (2, 165), (1, 12)], [(2, 189), (2, 190), (1, 13)]], [], [[(1, 22), (1, 23), (1, 1)], [(6, 168), (6, 169), (1, 14)]], []]
def zAN : List (List (Nat × Nat × Nat)) := [[], [], [], [], [], [], [], [], [], [], [], [(25, 6, 0), (48, 5, 0)], [], [], []]
def zANi : List (List (List (Nat × Nat))) := [[], [], [], [], [], [], [], [], [], [], [], [[(2, 10)], [(2, 93)]], [], [], []]
def zMN : List (List (Nat × Nat × Nat)) := [[], [], [(27, 8, 1)], [], [], [(11, 7, 2)], [], [], [], [], [], [], [], [], []]
def zMNi : List (List (List (Nat × Nat))) := [[], [], [[(2, 195), (1, 119)]], [], [], [[(2, 143), (2, 163)]], [], [], [], [], [], [], [], [], []]
def zKI : List (List (Nat × Int)) := [[], [], [], [], [], [], [], [], [], [], [], [(437, 2000000000)], [], [], []]
def zKIi : List (List (List (Nat × Nat))) := [[], [], [], [], [], [], [], [], [], [], [], [[(6, 89)]], [], [], []]
def zKL : List (List (Nat × Int)) := [[], [], [], [], [], [], [], [], [], [], [], [(355, (-2))], [(80, 2), (100, 10), (378, 3), (457, (-2)), (462, 40), (475, 2000000000), (484, 20)], [(300, 4294967295)], []]
def zKLi : List (List (List (Nat × Nat))) := [[], [], [], [], [], [], [], [], [], [], [], [[(6, 53)]], [[(7, 55)], [(8, 63)], [(9, 16)], [(9, 148)], [(9, 161)], [(9, 185)], [(9, 198)]], [[(9, 223)]], []]
def zCT : List (List (Nat × Nat × Nat × Nat)) := [[(3, 4, 0, 0), (28, 3, 0, 5)], [(3, 4, 0, 0)], [(3, 4, 0, 0), (32, 0, 18, 1), (86, 0, 94, 2)], [(3, 4, 0, 0), (38, 2, 5, 0), (77, 3, 0, 5), (83, 0, 34, 1)], [(3, 4, 0, 0)], [(3, 4, 0, 0), (23, 1, 10, 2), (29, 0, 19, 1), (33, 1, 27, 2)], [(1, 4, 0, 0)], [(3, 4, 0, 0), (11, 2, 3, 1), (22, 2, 4, 0), (27, 0, 201, 0), (30, 0, 202, 0), (35, 0, 205, 0), (39, 0, 206, 0)], [(3, 4, 0, 0), (25, 0, 203, 0), (67, 0, 204, 1)], [(3, 4, 0, 0), (17, 2, 7, 1), (30, 2, 8, 3)], [(3, 4, 0, 0)], [(1, 4, 0, 0), (9, 2, 1, 0), (18, 2, 2, 1), (27, 2, 4, 0), (34, 2, 6, 0), (41, 2, 7, 1), (54, 2, 8, 3), (59, 2, 9, 0), (66, 2, 11, 2), (75, 2, 12, 3), (100, 0, 15, 1), (104, 0, 200, 0), (122, 0, 33, 1), (125, 0, 207, 0), (131, 0, 69, 1), (139, 0, 77, 1), (145, 0, 40, 1), (157, 0, 126, 1), (169, 0, 146, 1), (182, 0, 60, 1), (205, 0, 49, 0), (280, 1, 59, 1), (296, 0, 98, 2), (317, 0, 94, 2), (341, 0, 68, 2), (373, 1, 45, 1), (397, 0, 37, 0), (400, 1, 30, 1), (403, 0, 18, 1), (406, 0, 26, 3), (410, 0, 19, 1), (441, 0, 208, 1), (444, 0, 209, 0)], [(3, 4, 0, 0), (82, 1, 22, 3), (86, 0, 51, 0), (90, 0, 90, 0), (94, 0, 43, 0), (97, 0, 73, 0), (111, 0, 212, 1), (142, 0, 213, 0), (158, 0, 211, 0), (228, 0, 72, 1), (232, 0, 81, 0), (235, 0, 42, 1), (238, 0, 83, 2), (256, 0, 80, 0), (259, 0, 82, 1), (304, 0, 79, 0), (307, 0, 89, 0), (310, 0, 88, 0), (313, 0, 142, 1), (317, 0, 62, 1), (320, 0, 141, 1), (332, 0, 182, 1), (338, 0, 130, 1), (387, 1, 21, 1), (396, 0, 96, 2), (405, 0, 100, 2), (440, 0, 71, 2), (477, 1, 47, 1)], [(9, 2, 0, 0), (12, 2, 13, 0), (13, 0, 14, 5), (17, 0, 16, 5), (18, 0, 214, 1), (22, 0, 215, 1), (23, 0, 199, 0), (27, 0, 210, 0), (28, 0, 197, 1), (31, 0, 198, 1), (32, 0, 195, 1), (35, 0, 196, 1), (36, 0, 193, 1), (39, 0, 194, 1), (40, 0, 191, 2), (44, 0, 192, 2), (45, 0, 189, 2), (48, 0, 190, 2), (49, 0, 187, 2), (52, 0, 188, 2), (53, 0, 185, 2), (56, 0, 186, 2), (57, 0, 183, 1), (60, 0, 184, 1), (61, 0, 180, 2), (64, 0, 181, 2), (65, 0, 178, 1), (68, 0, 179, 1), (69, 0, 176, 1), (72, 0, 177, 1), (73, 0, 174, 1), (76, 0, 175, 1), (77, 0, 172, 1), (80, 0, 173, 1), (81, 0, 170, 0), (84, 0, 171, 0), (85, 0, 168, 1), (88, 0, 169, 1), (89, 0, 166, 2), (92, 0, 167, 2), (93, 0, 164, 2), (96, 0, 165, 2), (97, 0, 162, 1), (100, 0, 163, 1), (101, 0, 160, 1), (104, 0, 161, 1), (105, 0, 158, 1), (108, 0, 159, 1), (109, 0, 156, 1), (112, 0, 157, 1), (113, 0, 154, 3), (117, 0, 155, 3), (118, 0, 152, 2), (121, 0, 153, 2), (122, 0, 150, 1), (125, 0, 151, 1), (126, 0, 148, 1), (129, 0, 149, 1), (130, 0, 145, 1), (133, 0, 147, 1), (134, 0, 143, 1), (137, 0, 144, 1), (138, 0, 139, 2), (141, 0, 140, 2), (142, 0, 137, 0), (145, 0, 138, 0), (146, 0, 135, 0), (149, 0, 136, 0), (150, 0, 133, 1), (153, 0, 134, 1), (154, 0, 131, 0), (157, 0, 132, 0), (158, 0, 128, 1), (161, 0, 129, 1), (162, 0, 125, 1), (165, 0, 127, 1), (166, 0, 123, 0), (169, 0, 124, 0), (170, 0, 121, 0), (173, 0, 122, 0), (174, 0, 119, 1), (177, 0, 120, 1), (178, 0, 117, 1), (181, 0, 118, 1), (182, 0, 115, 4), (186, 0, 116, 4), (187, 0, 113, 2), (190, 0, 114, 2), (191, 0, 111, 0), (194, 0, 112, 0), (195, 0, 109, 0), (198, 0, 110, 0), (199, 0, 107, 2), (202, 0, 108, 2), (203, 0, 105, 2), (206, 0, 106, 2), (207, 0, 103, 2), (210, 0, 104, 2), (211, 0, 101, 2), (214, 0, 102, 2), (215, 0, 97, 2), (218, 0, 99, 2), (219, 0, 93, 2), (222, 0, 95, 2), (223, 0, 91, 1), (226, 0, 92, 1), (227, 0, 86, 0), (230, 0, 87, 0), (231, 0, 84, 1), (234, 0, 85, 1), (235, 0, 76, 2), (238, 0, 78, 2), (239, 0, 74, 2), (242, 0, 75, 2), (243, 0, 67, 4), (246, 0, 70, 4), (247, 0, 65, 2), (251, 0, 66, 2), (252, 0, 63, 2), (255, 0, 64, 2), (256, 0, 58, 3), (259, 0, 61, 3), (260, 0, 56, 3), (263, 0, 57, 3), (264, 0, 54, 0), (267, 0, 55, 0), (268, 0, 52, 0), (271, 0, 53, 0), (272, 0, 48, 2), (275, 0, 50, 2), (276, 0, 44, 3), (279, 0, 46, 3), (280, 0, 39, 2), (283, 0, 41, 2), (284, 0, 36, 1), (287, 0, 38, 1), (288, 0, 32, 1), (291, 0, 35, 1), (292, 0, 29, 1), (295, 0, 31, 1), (296, 0, 25, 3), (299, 0, 28, 3), (302, 0, 23, 3), (306, 0, 24, 3), (307, 0, 17, 5), (310, 0, 20, 5)], []]
def zCTi : List (List (List (Nat × Nat))) := [[[(1, 95), (1, 28), (1, 29)], [(3, 189), (3, 184), (3, 183), (1, 20)]], [[(2, 17), (1, 28), (1, 29)]], [[(2, 194), (1, 28), (1, 29)], [(5, 117), (1, 10), (5, 118), (5, 119)], [(5, 113), (1, 13), (5, 114), (5, 115)]], [[(1, 89), (1, 28), (1, 29)], [(1, 92), (1, 6), (1, 93)], [(3, 182), (3, 184), (3, 183), (1, 20)], [(3, 185), (1, 6), (3, 186), (3, 187)]], [[(2, 60), (1, 28), (1, 29)]], [[(2, 142), (1, 28), (1, 29)], [(2, 145), (1, 11), (2, 146)], [(6, 123), (1, 10), (5, 122), (5, 123)], [(6, 144), (1, 11), (6, 145)]], [[(1, 35), (1, 28), (1, 29)]], [[(1, 52), (1, 28), (1, 29)], [(1, 55), (1, 4), (1, 56)], [(1, 86), (1, 5), (1, 87)], [(3, 42), (1, 5), (3, 43), (3, 44)], [(3, 46), (1, 4), (3, 47), (3, 48)], [(3, 62), (1, 4), (3, 63), (3, 64)], [(3, 66), (1, 4), (3, 67), (3, 68)]], [[(1, 58), (1, 28), (1, 29)], [(3, 50), (1, 4), (3, 52), (0, 0)], [(3, 54), (1, 4), (3, 56), (0, 1)]], [[(2, 169), (1, 28), (1, 29)], [(2, 171), (1, 8), (2, 58)], [(2, 173), (1, 9), (2, 97)]], [[(2, 99), (1, 28), (1, 29)]], [[(1, 27), (1, 28), (1, 29)], [(1, 32), (1, 2), (1, 33)], [(1, 49), (1, 3), (1, 50)], [(2, 11), (1, 5), (1, 87)], [(2, 14), (1, 7), (2, 15)], [(2, 57), (1, 8), (2, 58)], [(2, 96), (1, 9), (2, 97)], [(2, 139), (1, 10), (2, 140)], [(2, 166), (1, 12), (2, 167)], [(2, 191), (1, 13), (2, 192)], [(3, 26), (1, 2), (3, 27), (3, 28)], [(3, 38), (1, 3), (3, 39), (3, 40)], [(3, 178), (1, 5), (3, 179), (3, 180)], [(3, 190), (1, 1), (3, 192), (0, 8)], [(4, 23), (1, 1), (4, 25), (0, 15)], [(4, 31), (1, 1), (4, 33), (0, 16)], [(4, 39), (1, 1), (4, 41), (0, 17)], [(4, 47), (1, 1), (4, 49), (0, 18)], [(4, 55), (1, 1), (4, 57), (0, 19)], [(4, 83), (1, 1), (4, 85), (0, 22)], [(4, 59), (1, 5), (4, 60), (4, 61)], [(5, 58), (1, 1), (5, 59)], [(5, 109), (1, 13), (5, 110), (5, 111)], [(5, 193), (1, 13), (5, 114), (5, 115)], [(6, 19), (1, 1), (6, 21), (0, 42)], [(6, 86), (1, 1), (6, 87)], [(6, 119), (1, 10), (6, 120), (6, 121)], [(6, 128), (1, 1), (6, 129)], [(6, 139), (1, 10), (5, 118), (5, 119)], [(6, 140), (1, 10), (6, 141), (6, 142)], [(6, 151), (1, 10), (5, 122), (5, 123)], [(3, 194), (1, 7), (3, 195), (3, 196)], [(3, 210), (1, 8), (3, 211), (3, 212)]], [[(6, 173), (1, 28), (1, 29)], [(7, 56), (1, 14), (7, 57)], [(8, 43), (1, 14), (8, 45), (0, 82)], [(8, 3), (1, 14), (8, 5), (0, 75)], [(7, 196), (1, 14), (7, 198), (0, 66)], [(7, 176), (1, 14), (7, 178), (0, 63)], [(7, 83), (1, 14), (7, 85), (0, 46)], [(7, 93), (1, 14), (7, 95), (0, 47)], [(7, 79), (1, 14), (7, 81), (0, 45)], [(7, 172), (1, 14), (7, 174), (0, 62)], [(7, 184), (1, 14), (7, 186), (0, 64)], [(7, 192), (1, 14), (7, 194), (0, 65)], [(7, 200), (1, 14), (7, 202), (0, 67)], [(7, 228), (1, 14), (7, 230), (0, 72)], [(7, 232), (1, 14), (7, 234), (0, 73)], [(7, 224), (1, 14), (7, 226), (0, 71)], [(7, 239), (1, 14), (8, 1), (0, 74)], [(7, 220), (1, 14), (7, 222), (0, 70)], [(8, 47), (1, 14), (8, 49), (0, 83)], [(8, 76), (1, 14), (8, 78), (0, 88)], [(7, 216), (1, 14), (7, 218), (0, 69)], [(8, 72), (1, 14), (8, 74), (0, 87)], [(8, 92), (1, 14), (8, 94), (0, 90)], [(9, 50), (1, 14), (9, 51)], [(9, 46), (1, 14), (9, 48), (0, 103)], [(9, 42), (1, 14), (9, 44), (0, 102)], [(9, 132), (1, 14), (9, 134), (0, 111)], [(9, 182), (1, 14), (9, 183)]], [[(1, 24), (1, 1), (1, 25)], [(6, 170), (1, 14), (6, 171)], [(3, 22), (1, 1), (3, 23), (3, 24)], [(7, 63), (1, 14), (7, 64), (7, 65)], [(3, 30), (1, 1), (3, 31), (3, 32)], [(7, 67), (1, 14), (7, 68), (7, 69)], [(3, 34), (1, 1), (3, 35), (3, 36)], [(7, 75), (1, 14), (7, 76), (7, 77)], [(4, 15), (1, 1), (4, 16), (4, 17)], [(7, 71), (1, 14), (7, 72), (7, 73)], [(4, 19), (1, 1), (4, 20), (4, 21)], [(7, 168), (1, 14), (7, 169), (7, 170)], [(4, 27), (1, 1), (4, 28), (4, 29)], [(7, 180), (1, 14), (7, 181), (7, 182)], [(4, 35), (1, 1), (4, 36), (4, 37)], [(7, 188), (1, 14), (7, 189), (7, 190)], [(4, 43), (1, 1), (4, 44), (4, 45)], [(7, 204), (1, 14), (7, 205), (7, 206)], [(4, 51), (1, 1), (4, 52), (4, 53)], [(7, 212), (1, 14), (7, 213), (7, 214)], [(4, 67), (1, 1), (4, 68), (4, 69)], [(8, 55), (1, 14), (8, 56), (8, 57)], [(4, 79), (1, 1), (4, 80), (4, 81)], [(8, 68), (1, 14), (8, 69), (8, 70)], [(4, 91), (1, 1), (4, 92), (4, 93)], [(8, 84), (1, 14), (8, 85), (8, 86)], [(4, 95), (1, 1), (4, 96), (4, 97)], [(8, 88), (1, 14), (8, 89), (8, 90)], [(4, 103), (1, 1), (4, 104), (4, 105)], [(8, 100), (1, 14), (8, 101), (8, 102)], [(4, 107), (1, 1), (4, 108), (4, 109)], [(8, 104), (1, 14), (8, 105), (8, 106)], [(4, 111), (1, 1), (4, 112), (4, 113)], [(8, 108), (1, 14), (8, 109), (8, 110)], [(4, 119), (1, 1), (4, 120), (4, 121)], [(8, 116), (1, 14), (8, 117), (8, 118)], [(4, 123), (1, 1), (4, 124), (4, 125)], [(8, 120), (1, 14), (8, 121), (8, 122)], [(4, 127), (1, 1), (4, 128), (4, 129)], [(8, 124), (1, 14), (8, 125), (8, 126)], [(4, 145), (1, 1), (4, 146), (4, 147)], [(8, 136), (1, 14), (8, 137), (8, 138)], [(4, 153), (1, 1), (4, 154), (4, 155)], [(8, 144), (1, 14), (8, 145), (8, 146)], [(4, 161), (1, 1), (4, 162), (4, 163)], [(8, 152), (1, 14), (8, 153), (8, 154)], [(4, 171), (1, 1), (4, 172), (4, 173)], [(8, 159), (1, 14), (8, 160), (8, 161)], [(4, 175), (1, 1), (4, 176), (4, 177)], [(8, 167), (1, 14), (8, 168), (8, 169)], [(4, 183), (1, 1), (4, 184), (4, 185)], [(8, 172), (1, 14), (8, 173), (8, 174)], [(4, 187), (1, 1), (4, 188), (4, 189)], [(8, 176), (1, 14), (8, 177), (8, 178)], [(4, 191), (1, 1), (4, 192), (4, 193)], [(8, 180), (1, 14), (8, 181), (8, 182)], [(4, 195), (1, 1), (4, 196), (4, 197)], [(8, 184), (1, 14), (8, 185), (8, 186)], [(4, 200), (1, 1), (4, 201), (4, 202)], [(8, 188), (1, 14), (8, 189), (8, 190)], [(4, 209), (1, 1), (4, 210), (4, 211)], [(8, 163), (1, 14), (8, 164), (8, 165)], [(4, 217), (1, 1), (4, 218), (4, 219)], [(8, 196), (1, 14), (8, 197), (8, 198)], [(4, 223), (1, 1), (4, 224), (4, 225)], [(8, 208), (1, 14), (8, 209), (8, 210)], [(4, 231), (1, 1), (4, 232), (4, 233)], [(8, 212), (1, 14), (8, 213), (8, 214)], [(4, 236), (1, 1), (4, 237), (4, 238)], [(8, 200), (1, 14), (8, 201), (8, 202)], [(5, 0), (1, 1), (5, 1), (5, 2)], [(8, 216), (1, 14), (8, 217), (8, 218)], [(5, 4), (1, 1), (5, 5), (5, 6)], [(8, 220), (1, 14), (8, 221), (8, 222)], [(5, 8), (1, 1), (5, 9), (5, 10)], [(8, 224), (1, 14), (8, 225), (8, 226)], [(5, 16), (1, 1), (5, 17), (5, 18)], [(8, 232), (1, 14), (8, 233), (8, 234)], [(5, 20), (1, 1), (5, 21), (5, 22)], [(8, 236), (1, 14), (8, 237), (8, 238)], [(5, 28), (1, 1), (5, 29), (5, 30)], [(9, 0), (1, 14), (9, 1), (9, 2)], [(5, 50), (1, 1), (5, 51), (5, 52)], [(9, 8), (1, 14), (9, 9), (9, 10)], [(5, 54), (1, 1), (5, 55), (5, 56)], [(9, 12), (1, 14), (9, 13), (9, 14)], [(5, 72), (1, 1), (5, 73), (5, 74)], [(9, 22), (1, 14), (9, 23), (9, 24)], [(5, 81), (1, 1), (5, 82), (5, 83)], [(9, 26), (1, 14), (9, 27), (9, 28)], [(5, 93), (1, 1), (5, 94), (5, 95)], [(9, 34), (1, 14), (9, 35), (9, 36)], [(5, 105), (1, 1), (5, 106), (5, 107)], [(9, 38), (1, 14), (9, 39), (9, 40)], [(5, 151), (1, 1), (5, 152), (5, 153)], [(9, 62), (1, 14), (9, 63), (9, 64)], [(5, 159), (1, 1), (5, 160), (5, 161)], [(9, 66), (1, 14), (9, 67), (9, 68)], [(5, 167), (1, 1), (5, 168), (5, 169)], [(9, 70), (1, 14), (9, 71), (9, 72)], [(5, 185), (1, 1), (5, 186), (5, 187)], [(9, 82), (1, 14), (9, 83), (9, 84)], [(5, 189), (1, 1), (5, 190), (5, 191)], [(9, 86), (1, 14), (9, 87), (9, 88)], [(5, 198), (1, 1), (5, 199), (5, 200)], [(9, 90), (1, 14), (9, 91), (9, 92)], [(5, 206), (1, 1), (5, 207), (5, 208)], [(9, 98), (1, 14), (9, 99), (9, 100)], [(5, 219), (1, 1), (5, 220), (5, 221)], [(9, 106), (1, 14), (9, 107), (9, 108)], [(5, 227), (1, 1), (5, 228), (5, 229)], [(9, 114), (1, 14), (9, 115), (9, 116)], [(6, 15), (1, 1), (6, 16), (6, 17)], [(9, 128), (1, 14), (9, 129), (9, 130)], [(6, 31), (1, 1), (6, 32), (6, 33)], [(9, 140), (1, 14), (9, 141), (9, 142)], [(6, 36), (1, 1), (6, 37), (6, 38)], [(9, 144), (1, 14), (9, 145), (9, 146)], [(6, 54), (1, 1), (6, 55), (6, 56)], [(9, 153), (1, 14), (9, 154), (9, 155)], [(6, 62), (1, 1), (6, 63), (6, 64)], [(9, 157), (1, 14), (9, 158), (9, 159)], [(6, 70), (1, 1), (6, 71), (6, 72)], [(9, 166), (1, 14), (9, 167), (9, 168)], [(6, 74), (1, 1), (6, 75), (6, 76)], [(9, 170), (1, 14), (9, 171), (9, 172)], [(6, 78), (1, 1), (6, 79), (6, 80)], [(9, 174), (1, 14), (9, 175), (9, 176)], [(6, 82), (1, 1), (6, 83), (6, 84)], [(9, 178), (1, 14), (9, 179), (9, 180)], [(6, 106), (1, 1), (6, 107), (6, 108)], [(9, 194), (1, 14), (9, 195), (9, 196)], [(6, 111), (1, 1), (6, 112), (6, 113)], [(9, 199), (1, 14), (9, 200), (9, 201)], [(6, 115), (1, 1), (6, 116), (6, 117)], [(9, 204), (1, 14), (9, 205), (9, 206)], [(6, 124), (1, 1), (6, 125), (6, 126)], [(7, 51), (1, 14), (7, 52), (7, 53)], [(6, 131), (1, 1), (6, 132), (6, 133)], [(7, 59), (1, 14), (7, 60), (7, 61)], [(6, 135), (1, 1), (6, 136), (6, 137)], [(9, 208), (1, 14), (9, 209), (9, 210)], [(6, 147), (1, 1), (6, 148), (6, 149)], [(9, 212), (1, 14), (9, 213), (9, 214)], [(6, 159), (1, 1), (6, 160), (6, 161)], [(9, 219), (1, 14), (9, 220), (9, 221)]], []]
def ztc : List (Nat × Nat × Nat) := [(5, 10, 0), (6, 3, 0)]
def zLY : List (List (Nat × Nat)) := [[(1, 108), (1, 110), (1, 112), (1, 114), (1, 116)], [(2, 36), (2, 38), (2, 40), (2, 42), (2, 44), (2, 46), (2, 48), (2, 50), (2, 52)], [(2, 206), (2, 208), (2, 210), (2, 212), (2, 214), (2, 216), (2, 218)], [(1, 202), (1, 204), (1, 206), (1, 208), (1, 210), (1, 212), (1, 214), (1, 216), (1, 218), (1, 220), (1, 222), (1, 224), (1, 226), (1, 228), (1, 230), (1, 232), (1, 234), (1, 236), (1, 238)], [(2, 77), (2, 79), (2, 81), (2, 83), (2, 85), (2, 87), (2, 89)], [(2, 156), (2, 158), (2, 160)], [(1, 41), (1, 43)], [(2, 5), (2, 7)], [(1, 69), (1, 71), (1, 73), (1, 75), (1, 77), (1, 79), (1, 81)], [(2, 180), (2, 182), (2, 184), (2, 186)], [(2, 116), (2, 118), (2, 120), (2, 122), (2, 124), (2, 126), (2, 128), (2, 130), (2, 132), (2, 134)], [(2, 235), (2, 237), (2, 239), (3, 1), (3, 3), (3, 5), (3, 7), (3, 9), (3, 11), (3, 13), (3, 15), (3, 17), (3, 19)], [(6, 212), (6, 214), (6, 216), (6, 218), (6, 220), (6, 222), (6, 224), (6, 226), (6, 228), (6, 230), (6, 232), (6, 234), (6, 236), (6, 238), (7, 0), (7, 2), (7, 4), (7, 6), (7, 8), (7, 10), (7, 12), (7, 14), (7, 16), (7, 18), (7, 20), (7, 22), (7, 24), (7, 26), (7, 28), (7, 30), (7, 32), (7, 34), (7, 36), (7, 38), (7, 40), (7, 42), (7, 44), (7, 46), (7, 48)]]
def zTT : zTb := (zGG, zcl, ztyl, zFL, zNW, zAN, zMN, zKI, zKL, ztc, zMT, zCT)
end
section
theorem zok_cls : zClsOk zcl zN zTs := zCls_ok (LY := zLY) (by decide +kernel)
theorem zok_g : zGOk zcl zGG := zG_ok (by decide +kernel)
theorem zck_FL : zckt (zwFL zcl) zN zFL zFLi = true := by decide +kernel
theorem zck_NW : zckt (zwNW zcl) zN zNW zNWi = true := by decide +kernel
theorem zck_AN : zckt (zwAN ztyl) zN zAN zANi = true := by decide +kernel
theorem zck_MN : zckt (zwMN ztyl) zN zMN zMNi = true := by decide +kernel
theorem zck_KI : zckt zwKI zN zKI zKIi = true := by decide +kernel
theorem zck_KL : zckt zwKL zN zKL zKLi = true := by decide +kernel
theorem zck_CT : zckt (zwCT zMT) zN zCT zCTi = true := by decide +kernel
theorem zok_ar : zArOk zTs := by
  intro t ht
  cases t
  case boolean => exact zck_ok (q := (2, 92)) (by decide +kernel)
  case char => exact absurd ht (by decide)
  case float => exact absurd ht (by decide)
  case double => exact absurd ht (by decide)
  case byte => exact zck_ok (q := (1, 46)) (by decide +kernel)
  case short => exact absurd ht (by decide)
  case int => exact zck_ok (q := (1, 119)) (by decide +kernel)
  case long => exact zck_ok (q := (2, 163)) (by decide +kernel)
theorem zok_m0 : zMTi0.all (zckm zN) = true := by decide +kernel
theorem zok_m1 : zMTi1.all (zckm zN) = true := by decide +kernel
theorem zok_m2 : zMTi2.all (zckm zN) = true := by decide +kernel
theorem zok_m3 : zMTi3.all (zckm zN) = true := by decide +kernel
theorem zok_m4 : zMTi4.all (zckm zN) = true := by decide +kernel
theorem zok_m5 : zMTi5.all (zckm zN) = true := by decide +kernel
theorem zok_mi : (zMTi0 ++ (zMTi1 ++ (zMTi2 ++ (zMTi3 ++ (zMTi4 ++ (zMTi5)))))).all (zckm zN) = true := by
  rw [List.all_append, List.all_append, List.all_append, List.all_append, List.all_append]
  rw [zok_m0, zok_m1, zok_m2, zok_m3, zok_m4, zok_m5]
  rfl
end
section
theorem zd0 : zckd prog_1_method_1_code zp0 = true := by decide +kernel
theorem zd1 : zckd prog_8_method_1_code zp1 = true := by decide +kernel
theorem zd2 : zckd prog_9_method_1_code zp2 = true := by decide +kernel
theorem zd3 : zckd prog_10_method_1_code zp3 = true := by decide +kernel
theorem zd4 : zckd prog_5_method_1_code zp4 = true := by decide +kernel
theorem zd5 : zckd prog_2_method_1_code zp5 = true := by decide +kernel
theorem zd6 : zckd prog_3_method_1_code zp6 = true := by decide +kernel
theorem zd7 : zckd prog_6_method_1_code zp7 = true := by decide +kernel
theorem zd8 : zckd prog_12_method_1_code zp8 = true := by decide +kernel
theorem zd9 : zckd prog_7_method_1_code zp9 = true := by decide +kernel
theorem zd10 : zckd prog_21_method_103_code zp10 = true := by decide +kernel
theorem zd11 : zckd prog_11_method_1_code zp11 = true := by decide +kernel
theorem zd12 : zckd prog_4_method_1_code zp12 = true := by decide +kernel
theorem zd13 : zckd prog_14_method_1_code zp13 = true := by decide +kernel
theorem zd14 : zckd prog_1_method_2_code zp14 = true := by decide +kernel
theorem zd15 : zckd prog_8_method_2_code zp15 = true := by decide +kernel
theorem zd16 : zckd prog_14_method_20_code zp16 = true := by decide +kernel
theorem zd17 : zckd prog_1_method_73_code zp17 = true := by decide +kernel
theorem zd18 : zckd prog_7_method_2_code zp18 = true := by decide +kernel
theorem zd19 : zckd prog_7_method_3_code zp19 = true := by decide +kernel
theorem zd20 : zckd prog_14_method_158_code zp20 = true := by decide +kernel
theorem zd21 : zckd prog_14_method_154_code zp21 = true := by decide +kernel
theorem zd22 : zckd prog_14_method_3_code zp22 = true := by decide +kernel
theorem zd23 : zckd prog_1_method_72_code zp23 = true := by decide +kernel
theorem zd24 : zckd prog_14_method_157_code zp24 = true := by decide +kernel
theorem zd25 : zckd prog_1_method_71_code zp25 = true := by decide +kernel
theorem zd26 : zckd prog_7_method_6_code zp26 = true := by decide +kernel
theorem zd27 : zckd prog_21_method_101_code zp27 = true := by decide +kernel
theorem zd28 : zckd prog_14_method_156_code zp28 = true := by decide +kernel
theorem zd29 : zckd prog_1_method_70_code zp29 = true := by decide +kernel
theorem zd30 : zckd prog_1_method_84_code zp30 = true := by decide +kernel
theorem zd31 : zckd prog_14_method_7_code zp31 = true := by decide +kernel
theorem zd32 : zckd prog_1_method_69_code zp32 = true := by decide +kernel
theorem zd33 : zckd prog_5_method_3_code zp33 = true := by decide +kernel
theorem zd34 : zckd prog_2_method_3_code zp34 = true := by decide +kernel
theorem zd35 : zckd prog_14_method_6_code zp35 = true := by decide +kernel
theorem zd36 : zckd prog_1_method_68_code zp36 = true := by decide +kernel
theorem zd37 : zckd prog_7_method_5_code zp37 = true := by decide +kernel
theorem zd38 : zckd prog_14_method_153_code zp38 = true := by decide +kernel
theorem zd39 : zckd prog_1_method_67_code zp39 = true := by decide +kernel
theorem zd40 : zckd prog_1_method_76_code zp40 = true := by decide +kernel
theorem zd41 : zckd prog_14_method_152_code zp41 = true := by decide +kernel
theorem zd42 : zckd prog_14_method_15_code zp42 = true := by decide +kernel
theorem zd43 : zckd prog_14_method_10_code zp43 = true := by decide +kernel
theorem zd44 : zckd prog_1_method_66_code zp44 = true := by decide +kernel
theorem zd45 : zckd prog_1_method_83_code zp45 = true := by decide +kernel
theorem zd46 : zckd prog_14_method_151_code zp46 = true := by decide +kernel
theorem zd47 : zckd prog_14_method_149_code zp47 = true := by decide +kernel
theorem zd48 : zckd prog_1_method_65_code zp48 = true := by decide +kernel
theorem zd49 : zckd prog_5_method_4_code zp49 = true := by decide +kernel
theorem zd50 : zckd prog_14_method_150_code zp50 = true := by decide +kernel
theorem zd51 : zckd prog_14_method_8_code zp51 = true := by decide +kernel
theorem zd52 : zckd prog_1_method_64_code zp52 = true := by decide +kernel
theorem zd53 : zckd prog_14_method_147_code zp53 = true := by decide +kernel
theorem zd54 : zckd prog_1_method_63_code zp54 = true := by decide +kernel
theorem zd55 : zckd prog_14_method_146_code zp55 = true := by decide +kernel
theorem zd56 : zckd prog_1_method_62_code zp56 = true := by decide +kernel
theorem zd57 : zckd prog_14_method_145_code zp57 = true := by decide +kernel
theorem zd58 : zckd prog_1_method_61_code zp58 = true := by decide +kernel
theorem zd59 : zckd prog_1_method_81_code zp59 = true := by decide +kernel
theorem zd60 : zckd prog_1_method_79_code zp60 = true := by decide +kernel
theorem zd61 : zckd prog_14_method_144_code zp61 = true := by decide +kernel
theorem zd62 : zckd prog_14_method_14_code zp62 = true := by decide +kernel
theorem zd63 : zckd prog_1_method_60_code zp63 = true := by decide +kernel
theorem zd64 : zckd prog_14_method_142_code zp64 = true := by decide +kernel
theorem zd65 : zckd prog_1_method_59_code zp65 = true := by decide +kernel
theorem zd66 : zckd prog_14_method_141_code zp66 = true := by decide +kernel
theorem zd67 : zckd prog_1_method_58_code zp67 = true := by decide +kernel
theorem zd68 : zckd prog_1_method_80_code zp68 = true := by decide +kernel
theorem zd69 : zckd prog_1_method_74_code zp69 = true := by decide +kernel
theorem zd70 : zckd prog_14_method_139_code zp70 = true := by decide +kernel
theorem zd71 : zckd prog_14_method_137_code zp71 = true := by decide +kernel
theorem zd72 : zckd prog_14_method_16_code zp72 = true := by decide +kernel
theorem zd73 : zckd prog_14_method_11_code zp73 = true := by decide +kernel
theorem zd74 : zckd prog_1_method_57_code zp74 = true := by decide +kernel
theorem zd75 : zckd prog_14_method_138_code zp75 = true := by decide +kernel
theorem zd76 : zckd prog_1_method_56_code zp76 = true := by decide +kernel
theorem zd77 : zckd prog_1_method_75_code zp77 = true := by decide +kernel
theorem zd78 : zckd prog_14_method_135_code zp78 = true := by decide +kernel
theorem zd79 : zckd prog_14_method_47_code zp79 = true := by decide +kernel
theorem zd80 : zckd prog_14_method_46_code zp80 = true := by decide +kernel
theorem zd81 : zckd prog_14_method_12_code zp81 = true := by decide +kernel
theorem zd82 : zckd prog_14_method_45_code zp82 = true := by decide +kernel
theorem zd83 : zckd prog_14_method_18_code zp83 = true := by decide +kernel
theorem zd84 : zckd prog_1_method_55_code zp84 = true := by decide +kernel
theorem zd85 : zckd prog_14_method_131_code zp85 = true := by decide +kernel
theorem zd86 : zckd prog_1_method_54_code zp86 = true := by decide +kernel
theorem zd87 : zckd prog_14_method_129_code zp87 = true := by decide +kernel
theorem zd88 : zckd prog_14_method_59_code zp88 = true := by decide +kernel
theorem zd89 : zckd prog_14_method_58_code zp89 = true := by decide +kernel
theorem zd90 : zckd prog_14_method_9_code zp90 = true := by decide +kernel
theorem zd91 : zckd prog_1_method_53_code zp91 = true := by decide +kernel
theorem zd92 : zckd prog_14_method_127_code zp92 = true := by decide +kernel
theorem zd93 : zckd prog_1_method_52_code zp93 = true := by decide +kernel
theorem zd94 : zckd prog_4_method_2_code zp94 = true := by decide +kernel
theorem zd95 : zckd prog_14_method_125_code zp95 = true := by decide +kernel
theorem zd96 : zckd prog_14_method_115_code zp96 = true := by decide +kernel
theorem zd97 : zckd prog_1_method_51_code zp97 = true := by decide +kernel
theorem zd98 : zckd prog_4_method_7_code zp98 = true := by decide +kernel
theorem zd99 : zckd prog_14_method_124_code zp99 = true := by decide +kernel
theorem zd100 : zckd prog_14_method_117_code zp100 = true := by decide +kernel
theorem zd101 : zckd prog_1_method_50_code zp101 = true := by decide +kernel
theorem zd102 : zckd prog_14_method_123_code zp102 = true := by decide +kernel
theorem zd103 : zckd prog_1_method_49_code zp103 = true := by decide +kernel
theorem zd104 : zckd prog_14_method_120_code zp104 = true := by decide +kernel
theorem zd105 : zckd prog_1_method_48_code zp105 = true := by decide +kernel
theorem zd106 : zckd prog_14_method_119_code zp106 = true := by decide +kernel
theorem zd107 : zckd prog_1_method_47_code zp107 = true := by decide +kernel
theorem zd108 : zckd prog_14_method_118_code zp108 = true := by decide +kernel
theorem zd109 : zckd prog_1_method_46_code zp109 = true := by decide +kernel
theorem zd110 : zckd prog_14_method_113_code zp110 = true := by decide +kernel
theorem zd111 : zckd prog_1_method_45_code zp111 = true := by decide +kernel
theorem zd112 : zckd prog_14_method_112_code zp112 = true := by decide +kernel
theorem zd113 : zckd prog_1_method_44_code zp113 = true := by decide +kernel
theorem zd114 : zckd prog_14_method_111_code zp114 = true := by decide +kernel
theorem zd115 : zckd prog_1_method_43_code zp115 = true := by decide +kernel
theorem zd116 : zckd prog_14_method_110_code zp116 = true := by decide +kernel
theorem zd117 : zckd prog_1_method_42_code zp117 = true := by decide +kernel
theorem zd118 : zckd prog_14_method_108_code zp118 = true := by decide +kernel
theorem zd119 : zckd prog_1_method_41_code zp119 = true := by decide +kernel
theorem zd120 : zckd prog_14_method_107_code zp120 = true := by decide +kernel
theorem zd121 : zckd prog_1_method_40_code zp121 = true := by decide +kernel
theorem zd122 : zckd prog_14_method_105_code zp122 = true := by decide +kernel
theorem zd123 : zckd prog_1_method_39_code zp123 = true := by decide +kernel
theorem zd124 : zckd prog_14_method_104_code zp124 = true := by decide +kernel
theorem zd125 : zckd prog_1_method_38_code zp125 = true := by decide +kernel
theorem zd126 : zckd prog_1_method_77_code zp126 = true := by decide +kernel
theorem zd127 : zckd prog_14_method_103_code zp127 = true := by decide +kernel
theorem zd128 : zckd prog_1_method_37_code zp128 = true := by decide +kernel
theorem zd129 : zckd prog_14_method_101_code zp129 = true := by decide +kernel
theorem zd130 : zckd prog_14_method_62_code zp130 = true := by decide +kernel
theorem zd131 : zckd prog_1_method_36_code zp131 = true := by decide +kernel
theorem zd132 : zckd prog_14_method_100_code zp132 = true := by decide +kernel
theorem zd133 : zckd prog_1_method_35_code zp133 = true := by decide +kernel
theorem zd134 : zckd prog_14_method_97_code zp134 = true := by decide +kernel
theorem zd135 : zckd prog_1_method_34_code zp135 = true := by decide +kernel
theorem zd136 : zckd prog_14_method_99_code zp136 = true := by decide +kernel
theorem zd137 : zckd prog_1_method_33_code zp137 = true := by decide +kernel
theorem zd138 : zckd prog_14_method_98_code zp138 = true := by decide +kernel
theorem zd139 : zckd prog_1_method_32_code zp139 = true := by decide +kernel
theorem zd140 : zckd prog_14_method_95_code zp140 = true := by decide +kernel
theorem zd141 : zckd prog_14_method_60_code zp141 = true := by decide +kernel
theorem zd142 : zckd prog_14_method_13_code zp142 = true := by decide +kernel
theorem zd143 : zckd prog_1_method_31_code zp143 = true := by decide +kernel
theorem zd144 : zckd prog_14_method_87_code zp144 = true := by decide +kernel
theorem zd145 : zckd prog_1_method_30_code zp145 = true := by decide +kernel
theorem zd146 : zckd prog_1_method_78_code zp146 = true := by decide +kernel
theorem zd147 : zckd prog_14_method_94_code zp147 = true := by decide +kernel
theorem zd148 : zckd prog_1_method_29_code zp148 = true := by decide +kernel
theorem zd149 : zckd prog_14_method_92_code zp149 = true := by decide +kernel
theorem zd150 : zckd prog_1_method_28_code zp150 = true := by decide +kernel
theorem zd151 : zckd prog_14_method_91_code zp151 = true := by decide +kernel
theorem zd152 : zckd prog_1_method_27_code zp152 = true := by decide +kernel
theorem zd153 : zckd prog_14_method_90_code zp153 = true := by decide +kernel
theorem zd154 : zckd prog_1_method_26_code zp154 = true := by decide +kernel
theorem zd155 : zckd prog_14_method_89_code zp155 = true := by decide +kernel
theorem zd156 : zckd prog_1_method_25_code zp156 = true := by decide +kernel
theorem zd157 : zckd prog_14_method_88_code zp157 = true := by decide +kernel
theorem zd158 : zckd prog_1_method_24_code zp158 = true := by decide +kernel
theorem zd159 : zckd prog_14_method_86_code zp159 = true := by decide +kernel
theorem zd160 : zckd prog_1_method_23_code zp160 = true := by decide +kernel
theorem zd161 : zckd prog_14_method_85_code zp161 = true := by decide +kernel
theorem zd162 : zckd prog_1_method_22_code zp162 = true := by decide +kernel
theorem zd163 : zckd prog_14_method_84_code zp163 = true := by decide +kernel
theorem zd164 : zckd prog_1_method_21_code zp164 = true := by decide +kernel
theorem zd165 : zckd prog_14_method_81_code zp165 = true := by decide +kernel
theorem zd166 : zckd prog_1_method_20_code zp166 = true := by decide +kernel
theorem zd167 : zckd prog_14_method_79_code zp167 = true := by decide +kernel
theorem zd168 : zckd prog_1_method_19_code zp168 = true := by decide +kernel
theorem zd169 : zckd prog_14_method_77_code zp169 = true := by decide +kernel
theorem zd170 : zckd prog_1_method_18_code zp170 = true := by decide +kernel
theorem zd171 : zckd prog_14_method_76_code zp171 = true := by decide +kernel
theorem zd172 : zckd prog_1_method_17_code zp172 = true := by decide +kernel
theorem zd173 : zckd prog_14_method_75_code zp173 = true := by decide +kernel
theorem zd174 : zckd prog_1_method_16_code zp174 = true := by decide +kernel
theorem zd175 : zckd prog_14_method_73_code zp175 = true := by decide +kernel
theorem zd176 : zckd prog_1_method_15_code zp176 = true := by decide +kernel
theorem zd177 : zckd prog_14_method_72_code zp177 = true := by decide +kernel
theorem zd178 : zckd prog_1_method_14_code zp178 = true := by decide +kernel
theorem zd179 : zckd prog_14_method_71_code zp179 = true := by decide +kernel
theorem zd180 : zckd prog_1_method_13_code zp180 = true := by decide +kernel
theorem zd181 : zckd prog_14_method_69_code zp181 = true := by decide +kernel
theorem zd182 : zckd prog_14_method_61_code zp182 = true := by decide +kernel
theorem zd183 : zckd prog_1_method_12_code zp183 = true := by decide +kernel
theorem zd184 : zckd prog_14_method_68_code zp184 = true := by decide +kernel
theorem zd185 : zckd prog_1_method_11_code zp185 = true := by decide +kernel
theorem zd186 : zckd prog_14_method_66_code zp186 = true := by decide +kernel
theorem zd187 : zckd prog_1_method_10_code zp187 = true := by decide +kernel
theorem zd188 : zckd prog_14_method_64_code zp188 = true := by decide +kernel
theorem zd189 : zckd prog_1_method_9_code zp189 = true := by decide +kernel
theorem zd190 : zckd prog_14_method_44_code zp190 = true := by decide +kernel
theorem zd191 : zckd prog_1_method_8_code zp191 = true := by decide +kernel
theorem zd192 : zckd prog_14_method_43_code zp192 = true := by decide +kernel
theorem zd193 : zckd prog_1_method_7_code zp193 = true := by decide +kernel
theorem zd194 : zckd prog_14_method_42_code zp194 = true := by decide +kernel
theorem zd195 : zckd prog_1_method_6_code zp195 = true := by decide +kernel
theorem zd196 : zckd prog_14_method_41_code zp196 = true := by decide +kernel
theorem zd197 : zckd prog_1_method_5_code zp197 = true := by decide +kernel
theorem zd198 : zckd prog_14_method_31_code zp198 = true := by decide +kernel
theorem zd199 : zckd prog_1_method_4_code zp199 = true := by decide +kernel
theorem zd200 : zckd prog_9_method_2_code zp200 = true := by decide +kernel
theorem zd201 : zckd prog_5_method_2_code zp201 = true := by decide +kernel
theorem zd202 : zckd prog_10_method_2_code zp202 = true := by decide +kernel
theorem zd203 : zckd prog_10_method_10_code zp203 = true := by decide +kernel
theorem zd204 : zckd prog_10_method_11_code zp204 = true := by decide +kernel
theorem zd205 : zckd prog_10_method_3_code zp205 = true := by decide +kernel
theorem zd206 : zckd prog_10_method_4_code zp206 = true := by decide +kernel
theorem zd207 : zckd prog_1_method_87_code zp207 = true := by decide +kernel
theorem zd208 : zckd prog_3_method_2_code zp208 = true := by decide +kernel
theorem zd209 : zckd prog_6_method_2_code zp209 = true := by decide +kernel
theorem zd210 : zckd prog_14_method_40_code zp210 = true := by decide +kernel
theorem zd211 : zckd prog_14_method_23_code zp211 = true := by decide +kernel
theorem zd212 : zckd prog_14_method_22_code zp212 = true := by decide +kernel
theorem zd213 : zckd prog_14_method_24_code zp213 = true := by decide +kernel
theorem zd214 : zckd prog_1_method_3_code zp214 = true := by decide +kernel
theorem zd215 : zckd prog_14_method_21_code zp215 = true := by decide +kernel
set_option maxRecDepth 100000 in
theorem zok_d : ∀ M ∈ zMT, zckd M.2.1 M.2.2.2.2.1 = true := List.forall_mem_cons.mpr ⟨zd0, List.forall_mem_cons.mpr ⟨zd1, List.forall_mem_cons.mpr ⟨zd2, List.forall_mem_cons.mpr ⟨zd3, List.forall_mem_cons.mpr ⟨zd4, List.forall_mem_cons.mpr ⟨zd5, List.forall_mem_cons.mpr ⟨zd6, List.forall_mem_cons.mpr ⟨zd7, List.forall_mem_cons.mpr ⟨zd8, List.forall_mem_cons.mpr ⟨zd9, List.forall_mem_cons.mpr ⟨zd10, List.forall_mem_cons.mpr ⟨zd11, List.forall_mem_cons.mpr ⟨zd12, List.forall_mem_cons.mpr ⟨zd13, List.forall_mem_cons.mpr ⟨zd14, List.forall_mem_cons.mpr ⟨zd15, List.forall_mem_cons.mpr ⟨zd16, List.forall_mem_cons.mpr ⟨zd17, List.forall_mem_cons.mpr ⟨zd18, List.forall_mem_cons.mpr ⟨zd19, List.forall_mem_cons.mpr ⟨zd20, List.forall_mem_cons.mpr ⟨zd21, List.forall_mem_cons.mpr ⟨zd22, List.forall_mem_cons.mpr ⟨zd23, List.forall_mem_cons.mpr ⟨zd24, List.forall_mem_cons.mpr ⟨zd25, List.forall_mem_cons.mpr ⟨zd26, List.forall_mem_cons.mpr ⟨zd27, List.forall_mem_cons.mpr ⟨zd28, List.forall_mem_cons.mpr ⟨zd29, List.forall_mem_cons.mpr ⟨zd30, List.forall_mem_cons.mpr ⟨zd31, List.forall_mem_cons.mpr ⟨zd32, List.forall_mem_cons.mpr ⟨zd33, List.forall_mem_cons.mpr ⟨zd34, List.forall_mem_cons.mpr ⟨zd35, List.forall_mem_cons.mpr ⟨zd36, List.forall_mem_cons.mpr ⟨zd37, List.forall_mem_cons.mpr ⟨zd38, List.forall_mem_cons.mpr ⟨zd39, List.forall_mem_cons.mpr ⟨zd40, List.forall_mem_cons.mpr ⟨zd41, List.forall_mem_cons.mpr ⟨zd42, List.forall_mem_cons.mpr ⟨zd43, List.forall_mem_cons.mpr ⟨zd44, List.forall_mem_cons.mpr ⟨zd45, List.forall_mem_cons.mpr ⟨zd46, List.forall_mem_cons.mpr ⟨zd47, List.forall_mem_cons.mpr ⟨zd48, List.forall_mem_cons.mpr ⟨zd49, List.forall_mem_cons.mpr ⟨zd50, List.forall_mem_cons.mpr ⟨zd51, List.forall_mem_cons.mpr ⟨zd52, List.forall_mem_cons.mpr ⟨zd53, List.forall_mem_cons.mpr ⟨zd54, List.forall_mem_cons.mpr ⟨zd55, List.forall_mem_cons.mpr ⟨zd56, List.forall_mem_cons.mpr ⟨zd57, List.forall_mem_cons.mpr ⟨zd58, List.forall_mem_cons.mpr ⟨zd59, List.forall_mem_cons.mpr ⟨zd60, List.forall_mem_cons.mpr ⟨zd61, List.forall_mem_cons.mpr ⟨zd62, List.forall_mem_cons.mpr ⟨zd63, List.forall_mem_cons.mpr ⟨zd64, List.forall_mem_cons.mpr ⟨zd65, List.forall_mem_cons.mpr ⟨zd66, List.forall_mem_cons.mpr ⟨zd67, List.forall_mem_cons.mpr ⟨zd68, List.forall_mem_cons.mpr ⟨zd69, List.forall_mem_cons.mpr ⟨zd70, List.forall_mem_cons.mpr ⟨zd71, List.forall_mem_cons.mpr ⟨zd72, List.forall_mem_cons.mpr ⟨zd73, List.forall_mem_cons.mpr ⟨zd74, List.forall_mem_cons.mpr ⟨zd75, List.forall_mem_cons.mpr ⟨zd76, List.forall_mem_cons.mpr ⟨zd77, List.forall_mem_cons.mpr ⟨zd78, List.forall_mem_cons.mpr ⟨zd79, List.forall_mem_cons.mpr ⟨zd80, List.forall_mem_cons.mpr ⟨zd81, List.forall_mem_cons.mpr ⟨zd82, List.forall_mem_cons.mpr ⟨zd83, List.forall_mem_cons.mpr ⟨zd84, List.forall_mem_cons.mpr ⟨zd85, List.forall_mem_cons.mpr ⟨zd86, List.forall_mem_cons.mpr ⟨zd87, List.forall_mem_cons.mpr ⟨zd88, List.forall_mem_cons.mpr ⟨zd89, List.forall_mem_cons.mpr ⟨zd90, List.forall_mem_cons.mpr ⟨zd91, List.forall_mem_cons.mpr ⟨zd92, List.forall_mem_cons.mpr ⟨zd93, List.forall_mem_cons.mpr ⟨zd94, List.forall_mem_cons.mpr ⟨zd95, List.forall_mem_cons.mpr ⟨zd96, List.forall_mem_cons.mpr ⟨zd97, List.forall_mem_cons.mpr ⟨zd98, List.forall_mem_cons.mpr ⟨zd99, List.forall_mem_cons.mpr ⟨zd100, List.forall_mem_cons.mpr ⟨zd101, List.forall_mem_cons.mpr ⟨zd102, List.forall_mem_cons.mpr ⟨zd103, List.forall_mem_cons.mpr ⟨zd104, List.forall_mem_cons.mpr ⟨zd105, List.forall_mem_cons.mpr ⟨zd106, List.forall_mem_cons.mpr ⟨zd107, List.forall_mem_cons.mpr ⟨zd108, List.forall_mem_cons.mpr ⟨zd109, List.forall_mem_cons.mpr ⟨zd110, List.forall_mem_cons.mpr ⟨zd111, List.forall_mem_cons.mpr ⟨zd112, List.forall_mem_cons.mpr ⟨zd113, List.forall_mem_cons.mpr ⟨zd114, List.forall_mem_cons.mpr ⟨zd115, List.forall_mem_cons.mpr ⟨zd116, List.forall_mem_cons.mpr ⟨zd117, List.forall_mem_cons.mpr ⟨zd118, List.forall_mem_cons.mpr ⟨zd119, List.forall_mem_cons.mpr ⟨zd120, List.forall_mem_cons.mpr ⟨zd121, List.forall_mem_cons.mpr ⟨zd122, List.forall_mem_cons.mpr ⟨zd123, List.forall_mem_cons.mpr ⟨zd124, List.forall_mem_cons.mpr ⟨zd125, List.forall_mem_cons.mpr ⟨zd126, List.forall_mem_cons.mpr ⟨zd127, List.forall_mem_cons.mpr ⟨zd128, List.forall_mem_cons.mpr ⟨zd129, List.forall_mem_cons.mpr ⟨zd130, List.forall_mem_cons.mpr ⟨zd131, List.forall_mem_cons.mpr ⟨zd132, List.forall_mem_cons.mpr ⟨zd133, List.forall_mem_cons.mpr ⟨zd134, List.forall_mem_cons.mpr ⟨zd135, List.forall_mem_cons.mpr ⟨zd136, List.forall_mem_cons.mpr ⟨zd137, List.forall_mem_cons.mpr ⟨zd138, List.forall_mem_cons.mpr ⟨zd139, List.forall_mem_cons.mpr ⟨zd140, List.forall_mem_cons.mpr ⟨zd141, List.forall_mem_cons.mpr ⟨zd142, List.forall_mem_cons.mpr ⟨zd143, List.forall_mem_cons.mpr ⟨zd144, List.forall_mem_cons.mpr ⟨zd145, List.forall_mem_cons.mpr ⟨zd146, List.forall_mem_cons.mpr ⟨zd147, List.forall_mem_cons.mpr ⟨zd148, List.forall_mem_cons.mpr ⟨zd149, List.forall_mem_cons.mpr ⟨zd150, List.forall_mem_cons.mpr ⟨zd151, List.forall_mem_cons.mpr ⟨zd152, List.forall_mem_cons.mpr ⟨zd153, List.forall_mem_cons.mpr ⟨zd154, List.forall_mem_cons.mpr ⟨zd155, List.forall_mem_cons.mpr ⟨zd156, List.forall_mem_cons.mpr ⟨zd157, List.forall_mem_cons.mpr ⟨zd158, List.forall_mem_cons.mpr ⟨zd159, List.forall_mem_cons.mpr ⟨zd160, List.forall_mem_cons.mpr ⟨zd161, List.forall_mem_cons.mpr ⟨zd162, List.forall_mem_cons.mpr ⟨zd163, List.forall_mem_cons.mpr ⟨zd164, List.forall_mem_cons.mpr ⟨zd165, List.forall_mem_cons.mpr ⟨zd166, List.forall_mem_cons.mpr ⟨zd167, List.forall_mem_cons.mpr ⟨zd168, List.forall_mem_cons.mpr ⟨zd169, List.forall_mem_cons.mpr ⟨zd170, List.forall_mem_cons.mpr ⟨zd171, List.forall_mem_cons.mpr ⟨zd172, List.forall_mem_cons.mpr ⟨zd173, List.forall_mem_cons.mpr ⟨zd174, List.forall_mem_cons.mpr ⟨zd175, List.forall_mem_cons.mpr ⟨zd176, List.forall_mem_cons.mpr ⟨zd177, List.forall_mem_cons.mpr ⟨zd178, List.forall_mem_cons.mpr ⟨zd179, List.forall_mem_cons.mpr ⟨zd180, List.forall_mem_cons.mpr ⟨zd181, List.forall_mem_cons.mpr ⟨zd182, List.forall_mem_cons.mpr ⟨zd183, List.forall_mem_cons.mpr ⟨zd184, List.forall_mem_cons.mpr ⟨zd185, List.forall_mem_cons.mpr ⟨zd186, List.forall_mem_cons.mpr ⟨zd187, List.forall_mem_cons.mpr ⟨zd188, List.forall_mem_cons.mpr ⟨zd189, List.forall_mem_cons.mpr ⟨zd190, List.forall_mem_cons.mpr ⟨zd191, List.forall_mem_cons.mpr ⟨zd192, List.forall_mem_cons.mpr ⟨zd193, List.forall_mem_cons.mpr ⟨zd194, List.forall_mem_cons.mpr ⟨zd195, List.forall_mem_cons.mpr ⟨zd196, List.forall_mem_cons.mpr ⟨zd197, List.forall_mem_cons.mpr ⟨zd198, List.forall_mem_cons.mpr ⟨zd199, List.forall_mem_cons.mpr ⟨zd200, List.forall_mem_cons.mpr ⟨zd201, List.forall_mem_cons.mpr ⟨zd202, List.forall_mem_cons.mpr ⟨zd203, List.forall_mem_cons.mpr ⟨zd204, List.forall_mem_cons.mpr ⟨zd205, List.forall_mem_cons.mpr ⟨zd206, List.forall_mem_cons.mpr ⟨zd207, List.forall_mem_cons.mpr ⟨zd208, List.forall_mem_cons.mpr ⟨zd209, List.forall_mem_cons.mpr ⟨zd210, List.forall_mem_cons.mpr ⟨zd211, List.forall_mem_cons.mpr ⟨zd212, List.forall_mem_cons.mpr ⟨zd213, List.forall_mem_cons.mpr ⟨zd214, List.forall_mem_cons.mpr ⟨zd215, fun _ h => absurd h List.not_mem_nil⟩⟩⟩⟩⟩⟩⟩⟩⟩⟩⟩⟩⟩⟩⟩⟩⟩⟩⟩⟩⟩⟩⟩⟩⟩⟩⟩⟩⟩⟩⟩⟩⟩⟩⟩⟩⟩⟩⟩⟩⟩⟩⟩⟩⟩⟩⟩⟩⟩⟩⟩⟩⟩⟩⟩⟩⟩⟩⟩⟩⟩⟩⟩⟩⟩⟩⟩⟩⟩⟩⟩⟩⟩⟩⟩⟩⟩⟩⟩⟩⟩⟩⟩⟩⟩⟩⟩⟩⟩⟩⟩⟩⟩⟩⟩⟩⟩⟩⟩⟩⟩⟩⟩⟩⟩⟩⟩⟩⟩⟩⟩⟩⟩⟩⟩⟩⟩⟩⟩⟩⟩⟩⟩⟩⟩⟩⟩⟩⟩⟩⟩⟩⟩⟩⟩⟩⟩⟩⟩⟩⟩⟩⟩⟩⟩⟩⟩⟩⟩⟩⟩⟩⟩⟩⟩⟩⟩⟩⟩⟩⟩⟩⟩⟩⟩⟩⟩⟩⟩⟩⟩⟩⟩⟩⟩⟩⟩⟩⟩⟩⟩⟩⟩⟩⟩⟩⟩⟩⟩⟩⟩⟩⟩⟩⟩⟩⟩⟩⟩⟩⟩⟩⟩⟩⟩⟩⟩⟩⟩⟩⟩⟩⟩⟩⟩⟩
def zpL0 : List zP := [(0, (93, 7, 0, []), 3), (3, (62, 0, 0, []), 1), (4, (105, 9, 0, []), 3), (7, (36, 0, 0, []), 1), (8, (93, 10, 0, []), 3), (11, (62, 0, 0, []), 1), (12, (105, 12, 0, []), 3), (15, (37, 0, 0, []), 1), (16, (0, 0, 0, []), 1), (17, (28, 0, 0, []), 1), (18, (13, 0, 0, []), 1), (19, (20, 0, 0, []), 1), (20, (71, 0, 0, []), 1), (21, (1, 0, 6, []), 2), (23, (41, 0, 0, []), 1), (24, (80, 0, 2366, []), 3), (27, (20, 0, 0, []), 1), (28, (13, 0, 0, []), 1), (29, (67, 0, 0, []), 1), (30, (1, 0, 127, []), 2), (32, (43, 0, 0, []), 1), (33, (89, 0, 2351, [0, 71, 303, 366, 389, 402, 425, 448, 471, 504, 537, 570, 603, 626, 659, 682, 705, 728, 751, 764, 787, 820, 853, 876, 899, 922, 945, 988, 1021, 1044, 1067, 1090, 1113, 1146, 1159, 1172, 1195, 1208, 1231, 1254, 1267, 1280, 1303, 1326, 1379, 1412, 1425, 1438, 1471, 1504, 1537, 1570, 1603, 1636, 1659, 1672, 1695, 1728, 1761, 1814, 1848, 1882, 1925, 1968, 1981, 1994, 2027, 2070, 2103, 2126, 2149, 2172, 2215, 2288]), 303), (336, (21, 0, 0, []), 1), (337, (20, 0, 0, []), 1), (338, (13, 0, 0, []), 1), (339, (0, 0, 1, []), 1), (340, (40, 0, 0, []), 1), (341, (67, 0, 0, []), 1), (342, (20, 0, 0, []), 1), (343, (13, 0, 0, []), 1), (344, (0, 0, 2, []), 1), (345, (40, 0, 0, []), 1), (346, (67, 0, 0, []), 1), (347, (20, 0, 0, []), 1), (348, (13, 0, 0, []), 1), (349, (0, 0, 3, []), 1), (350, (40, 0, 0, []), 1), (351, (67, 0, 0, []), 1), (352, (20, 0, 0, []), 1), (353, (13, 0, 0, []), 1)]
theorem zdL0 : zckd code zpL0 = true := by decide +kernel
def zpL1 : List zP := [(354, (0, 0, 4, []), 1), (355, (40, 0, 0, []), 1), (356, (67, 0, 0, []), 1), (357, (20, 0, 0, []), 1), (358, (13, 0, 0, []), 1), (359, (0, 0, 5, []), 1), (360, (40, 0, 0, []), 1), (361, (67, 0, 0, []), 1), (362, (103, 13, 0, []), 3), (365, (22, 0, 0, []), 1), (366, (20, 0, 0, []), 1), (367, (13, 0, 0, []), 1), (368, (0, 0, 1, []), 1), (369, (40, 0, 0, []), 1), (370, (67, 0, 0, []), 1), (371, (20, 0, 0, []), 1), (372, (13, 0, 0, []), 1), (373, (0, 0, 2, []), 1), (374, (40, 0, 0, []), 1), (375, (67, 0, 0, []), 1), (376, (20, 0, 0, []), 1), (377, (13, 0, 0, []), 1), (378, (0, 0, 3, []), 1), (379, (40, 0, 0, []), 1), (380, (67, 0, 0, []), 1), (381, (20, 0, 0, []), 1), (382, (13, 0, 0, []), 1), (383, (0, 0, 4, []), 1), (384, (40, 0, 0, []), 1), (385, (67, 0, 0, []), 1), (386, (20, 0, 0, []), 1), (387, (13, 0, 0, []), 1), (388, (0, 0, 5, []), 1), (389, (40, 0, 0, []), 1), (390, (67, 0, 0, []), 1), (391, (103, 17, 0, []), 3), (394, (76, 0, 1990, []), 3), (398, (101, 0, 0, []), 1), (399, (21, 0, 0, []), 1), (400, (20, 0, 0, []), 1)]
theorem zdL1 : zckd code zpL1 = true := by decide +kernel
def zpL2 : List zP := [(401, (13, 0, 0, []), 1), (402, (0, 0, 1, []), 1), (403, (40, 0, 0, []), 1), (404, (67, 0, 0, []), 1), (405, (103, 18, 0, []), 3), (408, (22, 0, 0, []), 1), (409, (20, 0, 0, []), 1), (410, (13, 0, 0, []), 1), (411, (0, 0, 1, []), 1), (412, (40, 0, 0, []), 1), (413, (67, 0, 0, []), 1), (414, (103, 22, 0, []), 3), (417, (76, 0, 1967, []), 3), (421, (101, 0, 0, []), 1), (422, (21, 0, 0, []), 1), (423, (103, 23, 0, []), 3), (426, (22, 0, 0, []), 1), (427, (103, 27, 0, []), 3), (430, (76, 0, 1954, []), 3), (434, (101, 0, 0, []), 1), (435, (21, 0, 0, []), 1), (436, (20, 0, 0, []), 1), (437, (13, 0, 0, []), 1), (438, (0, 0, 1, []), 1), (439, (40, 0, 0, []), 1), (440, (67, 0, 0, []), 1), (441, (103, 28, 0, []), 3), (444, (22, 0, 0, []), 1), (445, (20, 0, 0, []), 1), (446, (13, 0, 0, []), 1), (447, (0, 0, 1, []), 1), (448, (40, 0, 0, []), 1), (449, (67, 0, 0, []), 1), (450, (103, 31, 0, []), 3), (453, (76, 0, 1931, []), 3), (457, (101, 0, 0, []), 1), (458, (21, 0, 0, []), 1), (459, (20, 0, 0, []), 1), (460, (13, 0, 0, []), 1), (461, (0, 0, 1, []), 1)]
theorem zdL2 : zckd code zpL2 = true := by decide +kernel
def zpL3 : List zP := [(462, (40, 0, 0, []), 1), (463, (67, 0, 0, []), 1), (464, (103, 32, 0, []), 3), (467, (22, 0, 0, []), 1), (468, (20, 0, 0, []), 1), (469, (13, 0, 0, []), 1), (470, (0, 0, 1, []), 1), (471, (40, 0, 0, []), 1), (472, (67, 0, 0, []), 1), (473, (103, 35, 0, []), 3), (476, (76, 0, 1908, []), 3), (480, (101, 0, 0, []), 1), (481, (21, 0, 0, []), 1), (482, (20, 0, 0, []), 1), (483, (13, 0, 0, []), 1), (484, (0, 0, 1, []), 1), (485, (40, 0, 0, []), 1), (486, (67, 0, 0, []), 1), (487, (103, 36, 0, []), 3), (490, (22, 0, 0, []), 1), (491, (20, 0, 0, []), 1), (492, (13, 0, 0, []), 1), (493, (0, 0, 1, []), 1), (494, (40, 0, 0, []), 1), (495, (67, 0, 0, []), 1), (496, (103, 39, 0, []), 3), (499, (76, 0, 1885, []), 3), (503, (101, 0, 0, []), 1), (504, (21, 0, 0, []), 1), (505, (20, 0, 0, []), 1), (506, (13, 0, 0, []), 1), (507, (0, 0, 1, []), 1), (508, (40, 0, 0, []), 1), (509, (67, 0, 0, []), 1), (510, (20, 0, 0, []), 1), (511, (13, 0, 0, []), 1), (512, (0, 0, 2, []), 1), (513, (40, 0, 0, []), 1), (514, (67, 0, 0, []), 1), (515, (103, 40, 0, []), 3)]
theorem zdL3 : zckd code zpL3 = true := by decide +kernel
def zpL4 : List zP := [(518, (22, 0, 0, []), 1), (519, (20, 0, 0, []), 1), (520, (13, 0, 0, []), 1), (521, (0, 0, 1, []), 1), (522, (40, 0, 0, []), 1), (523, (67, 0, 0, []), 1), (524, (20, 0, 0, []), 1), (525, (13, 0, 0, []), 1), (526, (0, 0, 2, []), 1), (527, (40, 0, 0, []), 1), (528, (67, 0, 0, []), 1), (529, (103, 44, 0, []), 3), (532, (76, 0, 1852, []), 3), (536, (101, 0, 0, []), 1), (537, (21, 0, 0, []), 1), (538, (20, 0, 0, []), 1), (539, (13, 0, 0, []), 1), (540, (0, 0, 1, []), 1), (541, (40, 0, 0, []), 1), (542, (67, 0, 0, []), 1), (543, (20, 0, 0, []), 1), (544, (13, 0, 0, []), 1), (545, (0, 0, 2, []), 1), (546, (40, 0, 0, []), 1), (547, (67, 0, 0, []), 1), (548, (103, 45, 0, []), 3), (551, (22, 0, 0, []), 1), (552, (20, 0, 0, []), 1), (553, (13, 0, 0, []), 1), (554, (0, 0, 1, []), 1), (555, (40, 0, 0, []), 1), (556, (67, 0, 0, []), 1), (557, (20, 0, 0, []), 1), (558, (13, 0, 0, []), 1), (559, (0, 0, 2, []), 1), (560, (40, 0, 0, []), 1), (561, (67, 0, 0, []), 1), (562, (103, 48, 0, []), 3), (565, (76, 0, 1819, []), 3), (569, (101, 0, 0, []), 1)]
theorem zdL4 : zckd code zpL4 = true := by decide +kernel
def zpL5 : List zP := [(570, (21, 0, 0, []), 1), (571, (20, 0, 0, []), 1), (572, (13, 0, 0, []), 1), (573, (0, 0, 1, []), 1), (574, (40, 0, 0, []), 1), (575, (67, 0, 0, []), 1), (576, (20, 0, 0, []), 1), (577, (13, 0, 0, []), 1), (578, (0, 0, 2, []), 1), (579, (40, 0, 0, []), 1), (580, (67, 0, 0, []), 1), (581, (103, 49, 0, []), 3), (584, (22, 0, 0, []), 1), (585, (20, 0, 0, []), 1), (586, (13, 0, 0, []), 1), (587, (0, 0, 1, []), 1), (588, (40, 0, 0, []), 1), (589, (67, 0, 0, []), 1), (590, (20, 0, 0, []), 1), (591, (13, 0, 0, []), 1), (592, (0, 0, 2, []), 1), (593, (40, 0, 0, []), 1), (594, (67, 0, 0, []), 1), (595, (103, 52, 0, []), 3), (598, (76, 0, 1786, []), 3), (602, (101, 0, 0, []), 1), (603, (21, 0, 0, []), 1), (604, (20, 0, 0, []), 1), (605, (13, 0, 0, []), 1), (606, (0, 0, 1, []), 1), (607, (40, 0, 0, []), 1), (608, (67, 0, 0, []), 1), (609, (20, 0, 0, []), 1), (610, (13, 0, 0, []), 1), (611, (0, 0, 2, []), 1), (612, (40, 0, 0, []), 1), (613, (67, 0, 0, []), 1), (614, (103, 53, 0, []), 3), (617, (22, 0, 0, []), 1), (618, (20, 0, 0, []), 1)]
theorem zdL5 : zckd code zpL5 = true := by decide +kernel
def zpL6 : List zP := [(619, (13, 0, 0, []), 1), (620, (0, 0, 1, []), 1), (621, (40, 0, 0, []), 1), (622, (67, 0, 0, []), 1), (623, (20, 0, 0, []), 1), (624, (13, 0, 0, []), 1), (625, (0, 0, 2, []), 1), (626, (40, 0, 0, []), 1), (627, (67, 0, 0, []), 1), (628, (103, 56, 0, []), 3), (631, (76, 0, 1753, []), 3), (635, (101, 0, 0, []), 1), (636, (21, 0, 0, []), 1), (637, (20, 0, 0, []), 1), (638, (13, 0, 0, []), 1), (639, (0, 0, 1, []), 1), (640, (40, 0, 0, []), 1), (641, (67, 0, 0, []), 1), (642, (103, 57, 0, []), 3), (645, (22, 0, 0, []), 1), (646, (20, 0, 0, []), 1), (647, (13, 0, 0, []), 1), (648, (0, 0, 1, []), 1), (649, (40, 0, 0, []), 1), (650, (67, 0, 0, []), 1), (651, (103, 60, 0, []), 3), (654, (76, 0, 1730, []), 3), (658, (101, 0, 0, []), 1), (659, (21, 0, 0, []), 1), (660, (20, 0, 0, []), 1), (661, (13, 0, 0, []), 1), (662, (0, 0, 1, []), 1), (663, (40, 0, 0, []), 1), (664, (67, 0, 0, []), 1), (665, (20, 0, 0, []), 1), (666, (13, 0, 0, []), 1), (667, (0, 0, 2, []), 1), (668, (40, 0, 0, []), 1), (669, (67, 0, 0, []), 1), (670, (103, 61, 0, []), 3)]
theorem zdL6 : zckd code zpL6 = true := by decide +kernel
def zpL7 : List zP := [(673, (22, 0, 0, []), 1), (674, (20, 0, 0, []), 1), (675, (13, 0, 0, []), 1), (676, (0, 0, 1, []), 1), (677, (40, 0, 0, []), 1), (678, (67, 0, 0, []), 1), (679, (20, 0, 0, []), 1), (680, (13, 0, 0, []), 1), (681, (0, 0, 2, []), 1), (682, (40, 0, 0, []), 1), (683, (67, 0, 0, []), 1), (684, (103, 64, 0, []), 3), (687, (76, 0, 1697, []), 3), (691, (101, 0, 0, []), 1), (692, (21, 0, 0, []), 1), (693, (20, 0, 0, []), 1), (694, (13, 0, 0, []), 1), (695, (0, 0, 1, []), 1), (696, (40, 0, 0, []), 1), (697, (67, 0, 0, []), 1), (698, (103, 65, 0, []), 3), (701, (22, 0, 0, []), 1), (702, (20, 0, 0, []), 1), (703, (13, 0, 0, []), 1), (704, (0, 0, 1, []), 1), (705, (40, 0, 0, []), 1), (706, (67, 0, 0, []), 1), (707, (103, 68, 0, []), 3), (710, (76, 0, 1674, []), 3), (714, (101, 0, 0, []), 1), (715, (21, 0, 0, []), 1), (716, (20, 0, 0, []), 1), (717, (13, 0, 0, []), 1), (718, (0, 0, 1, []), 1), (719, (40, 0, 0, []), 1), (720, (67, 0, 0, []), 1), (721, (103, 69, 0, []), 3), (724, (22, 0, 0, []), 1), (725, (20, 0, 0, []), 1), (726, (13, 0, 0, []), 1)]
theorem zdL7 : zckd code zpL7 = true := by decide +kernel
def zpL8 : List zP := [(727, (0, 0, 1, []), 1), (728, (40, 0, 0, []), 1), (729, (67, 0, 0, []), 1), (730, (103, 72, 0, []), 3), (733, (76, 0, 1651, []), 3), (737, (101, 0, 0, []), 1), (738, (21, 0, 0, []), 1), (739, (20, 0, 0, []), 1), (740, (13, 0, 0, []), 1), (741, (0, 0, 1, []), 1), (742, (40, 0, 0, []), 1), (743, (67, 0, 0, []), 1), (744, (103, 73, 0, []), 3), (747, (22, 0, 0, []), 1), (748, (20, 0, 0, []), 1), (749, (13, 0, 0, []), 1), (750, (0, 0, 1, []), 1), (751, (40, 0, 0, []), 1), (752, (67, 0, 0, []), 1), (753, (103, 76, 0, []), 3), (756, (76, 0, 1628, []), 3), (760, (101, 0, 0, []), 1), (761, (21, 0, 0, []), 1), (762, (20, 0, 0, []), 1), (763, (13, 0, 0, []), 1), (764, (0, 0, 1, []), 1), (765, (40, 0, 0, []), 1), (766, (67, 0, 0, []), 1), (767, (103, 77, 0, []), 3), (770, (22, 0, 0, []), 1), (771, (20, 0, 0, []), 1), (772, (13, 0, 0, []), 1), (773, (0, 0, 1, []), 1), (774, (40, 0, 0, []), 1), (775, (67, 0, 0, []), 1), (776, (103, 80, 0, []), 3), (779, (76, 0, 1605, []), 3), (783, (101, 0, 0, []), 1), (784, (21, 0, 0, []), 1), (785, (103, 81, 0, []), 3)]
theorem zdL8 : zckd code zpL8 = true := by decide +kernel
def zpL9 : List zP := [(788, (22, 0, 0, []), 1), (789, (103, 84, 0, []), 3), (792, (76, 0, 1592, []), 3), (796, (101, 0, 0, []), 1), (797, (21, 0, 0, []), 1), (798, (20, 0, 0, []), 1), (799, (13, 0, 0, []), 1), (800, (0, 0, 1, []), 1), (801, (40, 0, 0, []), 1), (802, (67, 0, 0, []), 1), (803, (103, 85, 0, []), 3), (806, (22, 0, 0, []), 1), (807, (20, 0, 0, []), 1), (808, (13, 0, 0, []), 1), (809, (0, 0, 1, []), 1), (810, (40, 0, 0, []), 1), (811, (67, 0, 0, []), 1), (812, (103, 88, 0, []), 3), (815, (76, 0, 1569, []), 3), (819, (101, 0, 0, []), 1), (820, (21, 0, 0, []), 1), (821, (20, 0, 0, []), 1), (822, (13, 0, 0, []), 1), (823, (0, 0, 1, []), 1), (824, (40, 0, 0, []), 1), (825, (67, 0, 0, []), 1), (826, (20, 0, 0, []), 1), (827, (13, 0, 0, []), 1), (828, (0, 0, 2, []), 1), (829, (40, 0, 0, []), 1), (830, (67, 0, 0, []), 1), (831, (103, 89, 0, []), 3), (834, (22, 0, 0, []), 1), (835, (20, 0, 0, []), 1), (836, (13, 0, 0, []), 1), (837, (0, 0, 1, []), 1), (838, (40, 0, 0, []), 1), (839, (67, 0, 0, []), 1), (840, (20, 0, 0, []), 1), (841, (13, 0, 0, []), 1)]
theorem zdL9 : zckd code zpL9 = true := by decide +kernel
def zpL10 : List zP := [(842, (0, 0, 2, []), 1), (843, (40, 0, 0, []), 1), (844, (67, 0, 0, []), 1), (845, (103, 92, 0, []), 3), (848, (76, 0, 1536, []), 3), (852, (101, 0, 0, []), 1), (853, (21, 0, 0, []), 1), (854, (20, 0, 0, []), 1), (855, (13, 0, 0, []), 1), (856, (0, 0, 1, []), 1), (857, (40, 0, 0, []), 1), (858, (67, 0, 0, []), 1), (859, (20, 0, 0, []), 1), (860, (13, 0, 0, []), 1), (861, (0, 0, 2, []), 1), (862, (40, 0, 0, []), 1), (863, (67, 0, 0, []), 1), (864, (103, 93, 0, []), 3), (867, (22, 0, 0, []), 1), (868, (20, 0, 0, []), 1), (869, (13, 0, 0, []), 1), (870, (0, 0, 1, []), 1), (871, (40, 0, 0, []), 1), (872, (67, 0, 0, []), 1), (873, (20, 0, 0, []), 1), (874, (13, 0, 0, []), 1), (875, (0, 0, 2, []), 1), (876, (40, 0, 0, []), 1), (877, (67, 0, 0, []), 1), (878, (103, 96, 0, []), 3), (881, (76, 0, 1503, []), 3), (885, (101, 0, 0, []), 1), (886, (21, 0, 0, []), 1), (887, (20, 0, 0, []), 1), (888, (13, 0, 0, []), 1), (889, (0, 0, 1, []), 1), (890, (40, 0, 0, []), 1), (891, (67, 0, 0, []), 1), (892, (103, 97, 0, []), 3), (895, (22, 0, 0, []), 1)]
theorem zdL10 : zckd code zpL10 = true := by decide +kernel
def zpL11 : List zP := [(896, (20, 0, 0, []), 1), (897, (13, 0, 0, []), 1), (898, (0, 0, 1, []), 1), (899, (40, 0, 0, []), 1), (900, (67, 0, 0, []), 1), (901, (103, 100, 0, []), 3), (904, (76, 0, 1480, []), 3), (908, (101, 0, 0, []), 1), (909, (21, 0, 0, []), 1), (910, (20, 0, 0, []), 1), (911, (13, 0, 0, []), 1), (912, (0, 0, 1, []), 1), (913, (40, 0, 0, []), 1), (914, (67, 0, 0, []), 1), (915, (103, 101, 0, []), 3), (918, (22, 0, 0, []), 1), (919, (20, 0, 0, []), 1), (920, (13, 0, 0, []), 1), (921, (0, 0, 1, []), 1), (922, (40, 0, 0, []), 1), (923, (67, 0, 0, []), 1), (924, (103, 104, 0, []), 3), (927, (76, 0, 1457, []), 3), (931, (101, 0, 0, []), 1), (932, (21, 0, 0, []), 1), (933, (20, 0, 0, []), 1), (934, (13, 0, 0, []), 1), (935, (0, 0, 1, []), 1), (936, (40, 0, 0, []), 1), (937, (67, 0, 0, []), 1), (938, (103, 105, 0, []), 3), (941, (22, 0, 0, []), 1), (942, (20, 0, 0, []), 1), (943, (13, 0, 0, []), 1), (944, (0, 0, 1, []), 1), (945, (40, 0, 0, []), 1), (946, (67, 0, 0, []), 1), (947, (103, 108, 0, []), 3), (950, (76, 0, 1434, []), 3), (954, (101, 0, 0, []), 1)]
theorem zdL11 : zckd code zpL11 = true := by decide +kernel
def zpL12 : List zP := [(955, (21, 0, 0, []), 1), (956, (20, 0, 0, []), 1), (957, (13, 0, 0, []), 1), (958, (0, 0, 1, []), 1), (959, (40, 0, 0, []), 1), (960, (67, 0, 0, []), 1), (961, (103, 109, 0, []), 3), (964, (22, 0, 0, []), 1), (965, (20, 0, 0, []), 1), (966, (13, 0, 0, []), 1), (967, (0, 0, 1, []), 1), (968, (40, 0, 0, []), 1), (969, (67, 0, 0, []), 1), (970, (103, 112, 0, []), 3), (973, (76, 0, 1411, []), 3), (977, (101, 0, 0, []), 1), (978, (21, 0, 0, []), 1), (979, (20, 0, 0, []), 1), (980, (13, 0, 0, []), 1), (981, (0, 0, 1, []), 1), (982, (40, 0, 0, []), 1), (983, (67, 0, 0, []), 1), (984, (20, 0, 0, []), 1), (985, (13, 0, 0, []), 1), (986, (0, 0, 2, []), 1), (987, (40, 0, 0, []), 1), (988, (67, 0, 0, []), 1), (989, (20, 0, 0, []), 1), (990, (13, 0, 0, []), 1), (991, (0, 0, 3, []), 1), (992, (40, 0, 0, []), 1), (993, (67, 0, 0, []), 1), (994, (103, 113, 0, []), 3), (997, (22, 0, 0, []), 1), (998, (20, 0, 0, []), 1), (999, (13, 0, 0, []), 1), (1000, (0, 0, 1, []), 1), (1001, (40, 0, 0, []), 1), (1002, (67, 0, 0, []), 1), (1003, (20, 0, 0, []), 1)]
theorem zdL12 : zckd code zpL12 = true := by decide +kernel
def zpL13 : List zP := [(1004, (13, 0, 0, []), 1), (1005, (0, 0, 2, []), 1), (1006, (40, 0, 0, []), 1), (1007, (67, 0, 0, []), 1), (1008, (20, 0, 0, []), 1), (1009, (13, 0, 0, []), 1), (1010, (0, 0, 3, []), 1), (1011, (40, 0, 0, []), 1), (1012, (67, 0, 0, []), 1), (1013, (103, 117, 0, []), 3), (1016, (76, 0, 1368, []), 3), (1020, (101, 0, 0, []), 1), (1021, (21, 0, 0, []), 1), (1022, (20, 0, 0, []), 1), (1023, (13, 0, 0, []), 1), (1024, (0, 0, 1, []), 1), (1025, (40, 0, 0, []), 1), (1026, (67, 0, 0, []), 1), (1027, (20, 0, 0, []), 1), (1028, (13, 0, 0, []), 1), (1029, (0, 0, 2, []), 1), (1030, (40, 0, 0, []), 1), (1031, (67, 0, 0, []), 1), (1032, (103, 118, 0, []), 3), (1035, (22, 0, 0, []), 1), (1036, (20, 0, 0, []), 1), (1037, (13, 0, 0, []), 1), (1038, (0, 0, 1, []), 1), (1039, (40, 0, 0, []), 1), (1040, (67, 0, 0, []), 1), (1041, (20, 0, 0, []), 1), (1042, (13, 0, 0, []), 1), (1043, (0, 0, 2, []), 1), (1044, (40, 0, 0, []), 1), (1045, (67, 0, 0, []), 1), (1046, (103, 121, 0, []), 3), (1049, (76, 0, 1335, []), 3), (1053, (101, 0, 0, []), 1), (1054, (21, 0, 0, []), 1), (1055, (20, 0, 0, []), 1)]
theorem zdL13 : zckd code zpL13 = true := by decide +kernel
def zpL14 : List zP := [(1056, (13, 0, 0, []), 1), (1057, (0, 0, 1, []), 1), (1058, (40, 0, 0, []), 1), (1059, (67, 0, 0, []), 1), (1060, (103, 122, 0, []), 3), (1063, (22, 0, 0, []), 1), (1064, (20, 0, 0, []), 1), (1065, (13, 0, 0, []), 1), (1066, (0, 0, 1, []), 1), (1067, (40, 0, 0, []), 1), (1068, (67, 0, 0, []), 1), (1069, (103, 125, 0, []), 3), (1072, (76, 0, 1312, []), 3), (1076, (101, 0, 0, []), 1), (1077, (21, 0, 0, []), 1), (1078, (20, 0, 0, []), 1), (1079, (13, 0, 0, []), 1), (1080, (0, 0, 1, []), 1), (1081, (40, 0, 0, []), 1), (1082, (67, 0, 0, []), 1), (1083, (103, 126, 0, []), 3), (1086, (22, 0, 0, []), 1), (1087, (20, 0, 0, []), 1), (1088, (13, 0, 0, []), 1), (1089, (0, 0, 1, []), 1), (1090, (40, 0, 0, []), 1), (1091, (67, 0, 0, []), 1), (1092, (103, 129, 0, []), 3), (1095, (76, 0, 1289, []), 3), (1099, (101, 0, 0, []), 1), (1100, (21, 0, 0, []), 1), (1101, (20, 0, 0, []), 1), (1102, (13, 0, 0, []), 1), (1103, (0, 0, 1, []), 1), (1104, (40, 0, 0, []), 1), (1105, (67, 0, 0, []), 1), (1106, (103, 130, 0, []), 3), (1109, (22, 0, 0, []), 1), (1110, (20, 0, 0, []), 1), (1111, (13, 0, 0, []), 1)]
theorem zdL14 : zckd code zpL14 = true := by decide +kernel
def zpL15 : List zP := [(1112, (0, 0, 1, []), 1), (1113, (40, 0, 0, []), 1), (1114, (67, 0, 0, []), 1), (1115, (103, 133, 0, []), 3), (1118, (76, 0, 1266, []), 3), (1122, (101, 0, 0, []), 1), (1123, (21, 0, 0, []), 1), (1124, (20, 0, 0, []), 1), (1125, (13, 0, 0, []), 1), (1126, (0, 0, 1, []), 1), (1127, (40, 0, 0, []), 1), (1128, (67, 0, 0, []), 1), (1129, (103, 134, 0, []), 3), (1132, (22, 0, 0, []), 1), (1133, (20, 0, 0, []), 1), (1134, (13, 0, 0, []), 1), (1135, (0, 0, 1, []), 1), (1136, (40, 0, 0, []), 1), (1137, (67, 0, 0, []), 1), (1138, (103, 137, 0, []), 3), (1141, (76, 0, 1243, []), 3), (1145, (101, 0, 0, []), 1), (1146, (21, 0, 0, []), 1), (1147, (20, 0, 0, []), 1), (1148, (13, 0, 0, []), 1), (1149, (0, 0, 1, []), 1), (1150, (40, 0, 0, []), 1), (1151, (67, 0, 0, []), 1), (1152, (20, 0, 0, []), 1), (1153, (13, 0, 0, []), 1), (1154, (0, 0, 2, []), 1), (1155, (40, 0, 0, []), 1), (1156, (67, 0, 0, []), 1), (1157, (103, 138, 0, []), 3), (1160, (22, 0, 0, []), 1), (1161, (20, 0, 0, []), 1), (1162, (13, 0, 0, []), 1), (1163, (0, 0, 1, []), 1), (1164, (40, 0, 0, []), 1), (1165, (67, 0, 0, []), 1)]
theorem zdL15 : zckd code zpL15 = true := by decide +kernel
def zpL16 : List zP := [(1166, (20, 0, 0, []), 1), (1167, (13, 0, 0, []), 1), (1168, (0, 0, 2, []), 1), (1169, (40, 0, 0, []), 1), (1170, (67, 0, 0, []), 1), (1171, (103, 141, 0, []), 3), (1174, (76, 0, 1210, []), 3), (1178, (101, 0, 0, []), 1), (1179, (21, 0, 0, []), 1), (1180, (103, 142, 0, []), 3), (1183, (22, 0, 0, []), 1), (1184, (103, 145, 0, []), 3), (1187, (76, 0, 1197, []), 3), (1191, (101, 0, 0, []), 1), (1192, (21, 0, 0, []), 1), (1193, (103, 146, 0, []), 3), (1196, (22, 0, 0, []), 1), (1197, (103, 149, 0, []), 3), (1200, (76, 0, 1184, []), 3), (1204, (101, 0, 0, []), 1), (1205, (21, 0, 0, []), 1), (1206, (20, 0, 0, []), 1), (1207, (13, 0, 0, []), 1), (1208, (0, 0, 1, []), 1), (1209, (40, 0, 0, []), 1), (1210, (67, 0, 0, []), 1), (1211, (103, 150, 0, []), 3), (1214, (22, 0, 0, []), 1), (1215, (20, 0, 0, []), 1), (1216, (13, 0, 0, []), 1), (1217, (0, 0, 1, []), 1), (1218, (40, 0, 0, []), 1), (1219, (67, 0, 0, []), 1), (1220, (103, 153, 0, []), 3), (1223, (76, 0, 1161, []), 3), (1227, (101, 0, 0, []), 1), (1228, (21, 0, 0, []), 1), (1229, (103, 154, 0, []), 3), (1232, (22, 0, 0, []), 1), (1233, (103, 157, 0, []), 3)]
theorem zdL16 : zckd code zpL16 = true := by decide +kernel
def zpL17 : List zP := [(1236, (76, 0, 1148, []), 3), (1240, (101, 0, 0, []), 1), (1241, (21, 0, 0, []), 1), (1242, (20, 0, 0, []), 1), (1243, (13, 0, 0, []), 1), (1244, (0, 0, 1, []), 1), (1245, (40, 0, 0, []), 1), (1246, (67, 0, 0, []), 1), (1247, (103, 158, 0, []), 3), (1250, (22, 0, 0, []), 1), (1251, (20, 0, 0, []), 1), (1252, (13, 0, 0, []), 1), (1253, (0, 0, 1, []), 1), (1254, (40, 0, 0, []), 1), (1255, (67, 0, 0, []), 1), (1256, (103, 161, 0, []), 3), (1259, (76, 0, 1125, []), 3), (1263, (101, 0, 0, []), 1), (1264, (21, 0, 0, []), 1), (1265, (20, 0, 0, []), 1), (1266, (13, 0, 0, []), 1), (1267, (0, 0, 1, []), 1), (1268, (40, 0, 0, []), 1), (1269, (67, 0, 0, []), 1), (1270, (103, 162, 0, []), 3), (1273, (22, 0, 0, []), 1), (1274, (20, 0, 0, []), 1), (1275, (13, 0, 0, []), 1), (1276, (0, 0, 1, []), 1), (1277, (40, 0, 0, []), 1), (1278, (67, 0, 0, []), 1), (1279, (103, 165, 0, []), 3), (1282, (76, 0, 1102, []), 3), (1286, (101, 0, 0, []), 1), (1287, (21, 0, 0, []), 1), (1288, (103, 166, 0, []), 3), (1291, (22, 0, 0, []), 1), (1292, (103, 169, 0, []), 3), (1295, (76, 0, 1089, []), 3), (1299, (101, 0, 0, []), 1)]
theorem zdL17 : zckd code zpL17 = true := by decide +kernel
def zpL18 : List zP := [(1300, (21, 0, 0, []), 1), (1301, (103, 170, 0, []), 3), (1304, (22, 0, 0, []), 1), (1305, (103, 173, 0, []), 3), (1308, (76, 0, 1076, []), 3), (1312, (101, 0, 0, []), 1), (1313, (21, 0, 0, []), 1), (1314, (20, 0, 0, []), 1), (1315, (13, 0, 0, []), 1), (1316, (0, 0, 1, []), 1), (1317, (40, 0, 0, []), 1), (1318, (67, 0, 0, []), 1), (1319, (103, 174, 0, []), 3), (1322, (22, 0, 0, []), 1), (1323, (20, 0, 0, []), 1), (1324, (13, 0, 0, []), 1), (1325, (0, 0, 1, []), 1), (1326, (40, 0, 0, []), 1), (1327, (67, 0, 0, []), 1), (1328, (103, 177, 0, []), 3), (1331, (76, 0, 1053, []), 3), (1335, (101, 0, 0, []), 1), (1336, (21, 0, 0, []), 1), (1337, (20, 0, 0, []), 1), (1338, (13, 0, 0, []), 1), (1339, (0, 0, 1, []), 1), (1340, (40, 0, 0, []), 1), (1341, (67, 0, 0, []), 1), (1342, (103, 178, 0, []), 3), (1345, (22, 0, 0, []), 1), (1346, (20, 0, 0, []), 1), (1347, (13, 0, 0, []), 1), (1348, (0, 0, 1, []), 1), (1349, (40, 0, 0, []), 1), (1350, (67, 0, 0, []), 1), (1351, (103, 181, 0, []), 3), (1354, (76, 0, 1030, []), 3), (1358, (101, 0, 0, []), 1), (1359, (21, 0, 0, []), 1), (1360, (20, 0, 0, []), 1)]
theorem zdL18 : zckd code zpL18 = true := by decide +kernel
def zpL19 : List zP := [(1361, (13, 0, 0, []), 1), (1362, (0, 0, 1, []), 1), (1363, (40, 0, 0, []), 1), (1364, (67, 0, 0, []), 1), (1365, (20, 0, 0, []), 1), (1366, (13, 0, 0, []), 1), (1367, (0, 0, 2, []), 1), (1368, (40, 0, 0, []), 1), (1369, (67, 0, 0, []), 1), (1370, (20, 0, 0, []), 1), (1371, (13, 0, 0, []), 1), (1372, (0, 0, 3, []), 1), (1373, (40, 0, 0, []), 1), (1374, (67, 0, 0, []), 1), (1375, (20, 0, 0, []), 1), (1376, (13, 0, 0, []), 1), (1377, (0, 0, 4, []), 1), (1378, (40, 0, 0, []), 1), (1379, (67, 0, 0, []), 1), (1380, (103, 182, 0, []), 3), (1383, (22, 0, 0, []), 1), (1384, (20, 0, 0, []), 1), (1385, (13, 0, 0, []), 1), (1386, (0, 0, 1, []), 1), (1387, (40, 0, 0, []), 1), (1388, (67, 0, 0, []), 1), (1389, (20, 0, 0, []), 1), (1390, (13, 0, 0, []), 1), (1391, (0, 0, 2, []), 1), (1392, (40, 0, 0, []), 1), (1393, (67, 0, 0, []), 1), (1394, (20, 0, 0, []), 1), (1395, (13, 0, 0, []), 1), (1396, (0, 0, 3, []), 1), (1397, (40, 0, 0, []), 1), (1398, (67, 0, 0, []), 1), (1399, (20, 0, 0, []), 1), (1400, (13, 0, 0, []), 1), (1401, (0, 0, 4, []), 1), (1402, (40, 0, 0, []), 1)]
theorem zdL19 : zckd code zpL19 = true := by decide +kernel
def zpL20 : List zP := [(1403, (67, 0, 0, []), 1), (1404, (103, 186, 0, []), 3), (1407, (76, 0, 977, []), 3), (1411, (101, 0, 0, []), 1), (1412, (21, 0, 0, []), 1), (1413, (20, 0, 0, []), 1), (1414, (13, 0, 0, []), 1), (1415, (0, 0, 1, []), 1), (1416, (40, 0, 0, []), 1), (1417, (67, 0, 0, []), 1), (1418, (20, 0, 0, []), 1), (1419, (13, 0, 0, []), 1), (1420, (0, 0, 2, []), 1), (1421, (40, 0, 0, []), 1), (1422, (67, 0, 0, []), 1), (1423, (103, 187, 0, []), 3), (1426, (22, 0, 0, []), 1), (1427, (20, 0, 0, []), 1), (1428, (13, 0, 0, []), 1), (1429, (0, 0, 1, []), 1), (1430, (40, 0, 0, []), 1), (1431, (67, 0, 0, []), 1), (1432, (20, 0, 0, []), 1), (1433, (13, 0, 0, []), 1), (1434, (0, 0, 2, []), 1), (1435, (40, 0, 0, []), 1), (1436, (67, 0, 0, []), 1), (1437, (103, 190, 0, []), 3), (1440, (76, 0, 944, []), 3), (1444, (101, 0, 0, []), 1), (1445, (21, 0, 0, []), 1), (1446, (103, 191, 0, []), 3), (1449, (22, 0, 0, []), 1), (1450, (103, 194, 0, []), 3), (1453, (76, 0, 931, []), 3), (1457, (101, 0, 0, []), 1), (1458, (21, 0, 0, []), 1), (1459, (103, 195, 0, []), 3), (1462, (22, 0, 0, []), 1), (1463, (103, 198, 0, []), 3)]
theorem zdL20 : zckd code zpL20 = true := by decide +kernel
def zpL21 : List zP := [(1466, (76, 0, 918, []), 3), (1470, (101, 0, 0, []), 1), (1471, (21, 0, 0, []), 1), (1472, (20, 0, 0, []), 1), (1473, (13, 0, 0, []), 1), (1474, (0, 0, 1, []), 1), (1475, (40, 0, 0, []), 1), (1476, (67, 0, 0, []), 1), (1477, (20, 0, 0, []), 1), (1478, (13, 0, 0, []), 1), (1479, (0, 0, 2, []), 1), (1480, (40, 0, 0, []), 1), (1481, (67, 0, 0, []), 1), (1482, (103, 199, 0, []), 3), (1485, (22, 0, 0, []), 1), (1486, (20, 0, 0, []), 1), (1487, (13, 0, 0, []), 1), (1488, (0, 0, 1, []), 1), (1489, (40, 0, 0, []), 1), (1490, (67, 0, 0, []), 1), (1491, (20, 0, 0, []), 1), (1492, (13, 0, 0, []), 1), (1493, (0, 0, 2, []), 1), (1494, (40, 0, 0, []), 1), (1495, (67, 0, 0, []), 1), (1496, (103, 202, 0, []), 3), (1499, (76, 0, 885, []), 3), (1503, (101, 0, 0, []), 1), (1504, (21, 0, 0, []), 1), (1505, (20, 0, 0, []), 1), (1506, (13, 0, 0, []), 1), (1507, (0, 0, 1, []), 1), (1508, (40, 0, 0, []), 1), (1509, (67, 0, 0, []), 1), (1510, (20, 0, 0, []), 1), (1511, (13, 0, 0, []), 1), (1512, (0, 0, 2, []), 1), (1513, (40, 0, 0, []), 1), (1514, (67, 0, 0, []), 1), (1515, (103, 203, 0, []), 3)]
theorem zdL21 : zckd code zpL21 = true := by decide +kernel
def zpL22 : List zP := [(1518, (22, 0, 0, []), 1), (1519, (20, 0, 0, []), 1), (1520, (13, 0, 0, []), 1), (1521, (0, 0, 1, []), 1), (1522, (40, 0, 0, []), 1), (1523, (67, 0, 0, []), 1), (1524, (20, 0, 0, []), 1), (1525, (13, 0, 0, []), 1), (1526, (0, 0, 2, []), 1), (1527, (40, 0, 0, []), 1), (1528, (67, 0, 0, []), 1), (1529, (103, 206, 0, []), 3), (1532, (76, 0, 852, []), 3), (1536, (101, 0, 0, []), 1), (1537, (21, 0, 0, []), 1), (1538, (20, 0, 0, []), 1), (1539, (13, 0, 0, []), 1), (1540, (0, 0, 1, []), 1), (1541, (40, 0, 0, []), 1), (1542, (67, 0, 0, []), 1), (1543, (20, 0, 0, []), 1), (1544, (13, 0, 0, []), 1), (1545, (0, 0, 2, []), 1), (1546, (40, 0, 0, []), 1), (1547, (67, 0, 0, []), 1), (1548, (103, 207, 0, []), 3), (1551, (22, 0, 0, []), 1), (1552, (20, 0, 0, []), 1), (1553, (13, 0, 0, []), 1), (1554, (0, 0, 1, []), 1), (1555, (40, 0, 0, []), 1), (1556, (67, 0, 0, []), 1), (1557, (20, 0, 0, []), 1), (1558, (13, 0, 0, []), 1), (1559, (0, 0, 2, []), 1), (1560, (40, 0, 0, []), 1), (1561, (67, 0, 0, []), 1), (1562, (103, 210, 0, []), 3), (1565, (76, 0, 819, []), 3), (1569, (101, 0, 0, []), 1)]
theorem zdL22 : zckd code zpL22 = true := by decide +kernel
def zpL23 : List zP := [(1570, (21, 0, 0, []), 1), (1571, (20, 0, 0, []), 1), (1572, (13, 0, 0, []), 1), (1573, (0, 0, 1, []), 1), (1574, (40, 0, 0, []), 1), (1575, (67, 0, 0, []), 1), (1576, (20, 0, 0, []), 1), (1577, (13, 0, 0, []), 1), (1578, (0, 0, 2, []), 1), (1579, (40, 0, 0, []), 1), (1580, (67, 0, 0, []), 1), (1581, (103, 211, 0, []), 3), (1584, (22, 0, 0, []), 1), (1585, (20, 0, 0, []), 1), (1586, (13, 0, 0, []), 1), (1587, (0, 0, 1, []), 1), (1588, (40, 0, 0, []), 1), (1589, (67, 0, 0, []), 1), (1590, (20, 0, 0, []), 1), (1591, (13, 0, 0, []), 1), (1592, (0, 0, 2, []), 1), (1593, (40, 0, 0, []), 1), (1594, (67, 0, 0, []), 1), (1595, (103, 214, 0, []), 3), (1598, (76, 0, 786, []), 3), (1602, (101, 0, 0, []), 1), (1603, (21, 0, 0, []), 1), (1604, (20, 0, 0, []), 1), (1605, (13, 0, 0, []), 1), (1606, (0, 0, 1, []), 1), (1607, (40, 0, 0, []), 1), (1608, (67, 0, 0, []), 1), (1609, (20, 0, 0, []), 1), (1610, (13, 0, 0, []), 1), (1611, (0, 0, 2, []), 1), (1612, (40, 0, 0, []), 1), (1613, (67, 0, 0, []), 1), (1614, (103, 215, 0, []), 3), (1617, (22, 0, 0, []), 1), (1618, (20, 0, 0, []), 1)]
theorem zdL23 : zckd code zpL23 = true := by decide +kernel
def zpL24 : List zP := [(1619, (13, 0, 0, []), 1), (1620, (0, 0, 1, []), 1), (1621, (40, 0, 0, []), 1), (1622, (67, 0, 0, []), 1), (1623, (20, 0, 0, []), 1), (1624, (13, 0, 0, []), 1), (1625, (0, 0, 2, []), 1), (1626, (40, 0, 0, []), 1), (1627, (67, 0, 0, []), 1), (1628, (103, 218, 0, []), 3), (1631, (76, 0, 753, []), 3), (1635, (101, 0, 0, []), 1), (1636, (21, 0, 0, []), 1), (1637, (20, 0, 0, []), 1), (1638, (13, 0, 0, []), 1), (1639, (0, 0, 1, []), 1), (1640, (40, 0, 0, []), 1), (1641, (67, 0, 0, []), 1), (1642, (20, 0, 0, []), 1), (1643, (13, 0, 0, []), 1), (1644, (0, 0, 2, []), 1), (1645, (40, 0, 0, []), 1), (1646, (67, 0, 0, []), 1), (1647, (103, 219, 0, []), 3), (1650, (22, 0, 0, []), 1), (1651, (20, 0, 0, []), 1), (1652, (13, 0, 0, []), 1), (1653, (0, 0, 1, []), 1), (1654, (40, 0, 0, []), 1), (1655, (67, 0, 0, []), 1), (1656, (20, 0, 0, []), 1), (1657, (13, 0, 0, []), 1), (1658, (0, 0, 2, []), 1), (1659, (40, 0, 0, []), 1), (1660, (67, 0, 0, []), 1), (1661, (103, 222, 0, []), 3), (1664, (76, 0, 720, []), 3), (1668, (101, 0, 0, []), 1), (1669, (21, 0, 0, []), 1), (1670, (20, 0, 0, []), 1)]
theorem zdL24 : zckd code zpL24 = true := by decide +kernel
def zpL25 : List zP := [(1671, (13, 0, 0, []), 1), (1672, (0, 0, 1, []), 1), (1673, (40, 0, 0, []), 1), (1674, (67, 0, 0, []), 1), (1675, (103, 223, 0, []), 3), (1678, (22, 0, 0, []), 1), (1679, (20, 0, 0, []), 1), (1680, (13, 0, 0, []), 1), (1681, (0, 0, 1, []), 1), (1682, (40, 0, 0, []), 1), (1683, (67, 0, 0, []), 1), (1684, (103, 226, 0, []), 3), (1687, (76, 0, 697, []), 3), (1691, (101, 0, 0, []), 1), (1692, (21, 0, 0, []), 1), (1693, (103, 227, 0, []), 3), (1696, (22, 0, 0, []), 1), (1697, (103, 230, 0, []), 3), (1700, (76, 0, 684, []), 3), (1704, (101, 0, 0, []), 1), (1705, (21, 0, 0, []), 1), (1706, (20, 0, 0, []), 1), (1707, (13, 0, 0, []), 1), (1708, (0, 0, 1, []), 1), (1709, (40, 0, 0, []), 1), (1710, (67, 0, 0, []), 1), (1711, (103, 231, 0, []), 3), (1714, (22, 0, 0, []), 1), (1715, (20, 0, 0, []), 1), (1716, (13, 0, 0, []), 1), (1717, (0, 0, 1, []), 1), (1718, (40, 0, 0, []), 1), (1719, (67, 0, 0, []), 1), (1720, (103, 234, 0, []), 3), (1723, (76, 0, 661, []), 3), (1727, (101, 0, 0, []), 1), (1728, (21, 0, 0, []), 1), (1729, (20, 0, 0, []), 1), (1730, (13, 0, 0, []), 1), (1731, (0, 0, 1, []), 1)]
theorem zdL25 : zckd code zpL25 = true := by decide +kernel
def zpL26 : List zP := [(1732, (40, 0, 0, []), 1), (1733, (67, 0, 0, []), 1), (1734, (20, 0, 0, []), 1), (1735, (13, 0, 0, []), 1), (1736, (0, 0, 2, []), 1), (1737, (40, 0, 0, []), 1), (1738, (67, 0, 0, []), 1), (1739, (103, 235, 0, []), 3), (1742, (22, 0, 0, []), 1), (1743, (20, 0, 0, []), 1), (1744, (13, 0, 0, []), 1), (1745, (0, 0, 1, []), 1), (1746, (40, 0, 0, []), 1), (1747, (67, 0, 0, []), 1), (1748, (20, 0, 0, []), 1), (1749, (13, 0, 0, []), 1), (1750, (0, 0, 2, []), 1), (1751, (40, 0, 0, []), 1), (1752, (67, 0, 0, []), 1), (1753, (103, 238, 0, []), 3), (1756, (76, 0, 628, []), 3), (1760, (101, 0, 0, []), 1), (1761, (21, 0, 0, []), 1), (1762, (20, 0, 0, []), 1), (1763, (13, 0, 0, []), 1), (1764, (0, 0, 1, []), 1), (1765, (40, 0, 0, []), 1), (1766, (67, 0, 0, []), 1), (1767, (20, 0, 0, []), 1), (1768, (13, 0, 0, []), 1), (1769, (0, 0, 2, []), 1), (1770, (40, 0, 0, []), 1), (1771, (67, 0, 0, []), 1), (1772, (103, 239, 0, []), 3), (1775, (22, 0, 0, []), 1), (1776, (20, 0, 0, []), 1), (1777, (13, 0, 0, []), 1), (1778, (0, 0, 1, []), 1), (1779, (40, 0, 0, []), 1), (1780, (67, 0, 0, []), 1)]
theorem zdL26 : zckd code zpL26 = true := by decide +kernel
def zpL27 : List zP := [(1781, (20, 0, 0, []), 1), (1782, (13, 0, 0, []), 1), (1783, (0, 0, 2, []), 1), (1784, (40, 0, 0, []), 1), (1785, (67, 0, 0, []), 1), (1786, (103, 242, 0, []), 3), (1789, (76, 0, 595, []), 3), (1793, (101, 0, 0, []), 1), (1794, (21, 0, 0, []), 1), (1795, (20, 0, 0, []), 1), (1796, (13, 0, 0, []), 1), (1797, (0, 0, 1, []), 1), (1798, (40, 0, 0, []), 1), (1799, (67, 0, 0, []), 1), (1800, (20, 0, 0, []), 1), (1801, (13, 0, 0, []), 1), (1802, (0, 0, 2, []), 1), (1803, (40, 0, 0, []), 1), (1804, (67, 0, 0, []), 1), (1805, (20, 0, 0, []), 1), (1806, (13, 0, 0, []), 1), (1807, (0, 0, 3, []), 1), (1808, (40, 0, 0, []), 1), (1809, (67, 0, 0, []), 1), (1810, (20, 0, 0, []), 1), (1811, (13, 0, 0, []), 1), (1812, (0, 0, 4, []), 1), (1813, (40, 0, 0, []), 1), (1814, (67, 0, 0, []), 1), (1815, (103, 243, 0, []), 3), (1818, (22, 0, 0, []), 1), (1819, (20, 0, 0, []), 1), (1820, (13, 0, 0, []), 1), (1821, (0, 0, 1, []), 1), (1822, (40, 0, 0, []), 1), (1823, (67, 0, 0, []), 1), (1824, (20, 0, 0, []), 1), (1825, (13, 0, 0, []), 1), (1826, (0, 0, 2, []), 1), (1827, (40, 0, 0, []), 1)]
theorem zdL27 : zckd code zpL27 = true := by decide +kernel
def zpL28 : List zP := [(1828, (67, 0, 0, []), 1), (1829, (20, 0, 0, []), 1), (1830, (13, 0, 0, []), 1), (1831, (0, 0, 3, []), 1), (1832, (40, 0, 0, []), 1), (1833, (67, 0, 0, []), 1), (1834, (20, 0, 0, []), 1), (1835, (13, 0, 0, []), 1), (1836, (0, 0, 4, []), 1), (1837, (40, 0, 0, []), 1), (1838, (67, 0, 0, []), 1), (1839, (103, 246, 0, []), 3), (1842, (76, 0, 542, []), 3), (1846, (101, 0, 0, []), 1), (1847, (21, 0, 0, []), 1), (1848, (20, 0, 0, []), 1), (1849, (13, 0, 0, []), 1), (1850, (0, 0, 1, []), 1), (1851, (40, 0, 0, []), 1), (1852, (67, 0, 0, []), 1), (1853, (20, 0, 0, []), 1), (1854, (13, 0, 0, []), 1), (1855, (0, 0, 2, []), 1), (1856, (40, 0, 0, []), 1), (1857, (67, 0, 0, []), 1), (1858, (103, 247, 0, []), 3), (1861, (22, 0, 0, []), 1), (1862, (20, 0, 0, []), 1), (1863, (13, 0, 0, []), 1), (1864, (0, 0, 1, []), 1), (1865, (40, 0, 0, []), 1), (1866, (67, 0, 0, []), 1), (1867, (20, 0, 0, []), 1), (1868, (13, 0, 0, []), 1), (1869, (0, 0, 2, []), 1), (1870, (40, 0, 0, []), 1), (1871, (67, 0, 0, []), 1), (1872, (103, 251, 0, []), 3), (1875, (66, 0, 0, []), 1), (1876, (82, 0, 508, []), 3)]
theorem zdL28 : zckd code zpL28 = true := by decide +kernel
def zpL29 : List zP := [(1880, (101, 0, 0, []), 1), (1881, (21, 0, 0, []), 1), (1882, (20, 0, 0, []), 1), (1883, (13, 0, 0, []), 1), (1884, (0, 0, 1, []), 1), (1885, (40, 0, 0, []), 1), (1886, (67, 0, 0, []), 1), (1887, (20, 0, 0, []), 1), (1888, (13, 0, 0, []), 1), (1889, (0, 0, 2, []), 1), (1890, (40, 0, 0, []), 1), (1891, (67, 0, 0, []), 1), (1892, (103, 252, 0, []), 3), (1895, (22, 0, 0, []), 1), (1896, (20, 0, 0, []), 1), (1897, (13, 0, 0, []), 1), (1898, (0, 0, 1, []), 1), (1899, (40, 0, 0, []), 1), (1900, (67, 0, 0, []), 1), (1901, (20, 0, 0, []), 1), (1902, (13, 0, 0, []), 1), (1903, (0, 0, 2, []), 1), (1904, (40, 0, 0, []), 1), (1905, (67, 0, 0, []), 1), (1906, (103, 255, 0, []), 3), (1909, (66, 0, 0, []), 1), (1910, (82, 0, 474, []), 3), (1914, (101, 0, 0, []), 1), (1915, (21, 0, 0, []), 1), (1916, (20, 0, 0, []), 1), (1917, (13, 0, 0, []), 1), (1918, (0, 0, 1, []), 1), (1919, (40, 0, 0, []), 1), (1920, (67, 0, 0, []), 1), (1921, (20, 0, 0, []), 1), (1922, (13, 0, 0, []), 1), (1923, (0, 0, 2, []), 1), (1924, (40, 0, 0, []), 1), (1925, (67, 0, 0, []), 1), (1926, (20, 0, 0, []), 1)]
theorem zdL29 : zckd code zpL29 = true := by decide +kernel
def zpL30 : List zP := [(1927, (13, 0, 0, []), 1), (1928, (0, 0, 3, []), 1), (1929, (40, 0, 0, []), 1), (1930, (67, 0, 0, []), 1), (1931, (103, 256, 0, []), 3), (1934, (22, 0, 0, []), 1), (1935, (20, 0, 0, []), 1), (1936, (13, 0, 0, []), 1), (1937, (0, 0, 1, []), 1), (1938, (40, 0, 0, []), 1), (1939, (67, 0, 0, []), 1), (1940, (20, 0, 0, []), 1), (1941, (13, 0, 0, []), 1), (1942, (0, 0, 2, []), 1), (1943, (40, 0, 0, []), 1), (1944, (67, 0, 0, []), 1), (1945, (20, 0, 0, []), 1), (1946, (13, 0, 0, []), 1), (1947, (0, 0, 3, []), 1), (1948, (40, 0, 0, []), 1), (1949, (67, 0, 0, []), 1), (1950, (103, 259, 0, []), 3), (1953, (76, 0, 431, []), 3), (1957, (101, 0, 0, []), 1), (1958, (21, 0, 0, []), 1), (1959, (20, 0, 0, []), 1), (1960, (13, 0, 0, []), 1), (1961, (0, 0, 1, []), 1), (1962, (40, 0, 0, []), 1), (1963, (67, 0, 0, []), 1), (1964, (20, 0, 0, []), 1), (1965, (13, 0, 0, []), 1), (1966, (0, 0, 2, []), 1), (1967, (40, 0, 0, []), 1), (1968, (67, 0, 0, []), 1), (1969, (20, 0, 0, []), 1), (1970, (13, 0, 0, []), 1), (1971, (0, 0, 3, []), 1), (1972, (40, 0, 0, []), 1), (1973, (67, 0, 0, []), 1)]
theorem zdL30 : zckd code zpL30 = true := by decide +kernel
def zpL31 : List zP := [(1974, (103, 260, 0, []), 3), (1977, (22, 0, 0, []), 1), (1978, (20, 0, 0, []), 1), (1979, (13, 0, 0, []), 1), (1980, (0, 0, 1, []), 1), (1981, (40, 0, 0, []), 1), (1982, (67, 0, 0, []), 1), (1983, (20, 0, 0, []), 1), (1984, (13, 0, 0, []), 1), (1985, (0, 0, 2, []), 1), (1986, (40, 0, 0, []), 1), (1987, (67, 0, 0, []), 1), (1988, (20, 0, 0, []), 1), (1989, (13, 0, 0, []), 1), (1990, (0, 0, 3, []), 1), (1991, (40, 0, 0, []), 1), (1992, (67, 0, 0, []), 1), (1993, (103, 263, 0, []), 3), (1996, (76, 0, 388, []), 3), (2000, (101, 0, 0, []), 1), (2001, (21, 0, 0, []), 1), (2002, (103, 264, 0, []), 3), (2005, (22, 0, 0, []), 1), (2006, (103, 267, 0, []), 3), (2009, (76, 0, 375, []), 3), (2013, (101, 0, 0, []), 1), (2014, (21, 0, 0, []), 1), (2015, (103, 268, 0, []), 3), (2018, (22, 0, 0, []), 1), (2019, (103, 271, 0, []), 3), (2022, (76, 0, 362, []), 3), (2026, (101, 0, 0, []), 1), (2027, (21, 0, 0, []), 1), (2028, (20, 0, 0, []), 1), (2029, (13, 0, 0, []), 1), (2030, (0, 0, 1, []), 1), (2031, (40, 0, 0, []), 1), (2032, (67, 0, 0, []), 1), (2033, (20, 0, 0, []), 1), (2034, (13, 0, 0, []), 1)]
theorem zdL31 : zckd code zpL31 = true := by decide +kernel
def zpL32 : List zP := [(2035, (0, 0, 2, []), 1), (2036, (40, 0, 0, []), 1), (2037, (67, 0, 0, []), 1), (2038, (103, 272, 0, []), 3), (2041, (22, 0, 0, []), 1), (2042, (20, 0, 0, []), 1), (2043, (13, 0, 0, []), 1), (2044, (0, 0, 1, []), 1), (2045, (40, 0, 0, []), 1), (2046, (67, 0, 0, []), 1), (2047, (20, 0, 0, []), 1), (2048, (13, 0, 0, []), 1), (2049, (0, 0, 2, []), 1), (2050, (40, 0, 0, []), 1), (2051, (67, 0, 0, []), 1), (2052, (103, 275, 0, []), 3), (2055, (76, 0, 329, []), 3), (2059, (101, 0, 0, []), 1), (2060, (21, 0, 0, []), 1), (2061, (20, 0, 0, []), 1), (2062, (13, 0, 0, []), 1), (2063, (0, 0, 1, []), 1), (2064, (40, 0, 0, []), 1), (2065, (67, 0, 0, []), 1), (2066, (20, 0, 0, []), 1), (2067, (13, 0, 0, []), 1), (2068, (0, 0, 2, []), 1), (2069, (40, 0, 0, []), 1), (2070, (67, 0, 0, []), 1), (2071, (20, 0, 0, []), 1), (2072, (13, 0, 0, []), 1), (2073, (0, 0, 3, []), 1), (2074, (40, 0, 0, []), 1), (2075, (67, 0, 0, []), 1), (2076, (103, 276, 0, []), 3), (2079, (22, 0, 0, []), 1), (2080, (20, 0, 0, []), 1), (2081, (13, 0, 0, []), 1), (2082, (0, 0, 1, []), 1), (2083, (40, 0, 0, []), 1)]
theorem zdL32 : zckd code zpL32 = true := by decide +kernel
def zpL33 : List zP := [(2084, (67, 0, 0, []), 1), (2085, (20, 0, 0, []), 1), (2086, (13, 0, 0, []), 1), (2087, (0, 0, 2, []), 1), (2088, (40, 0, 0, []), 1), (2089, (67, 0, 0, []), 1), (2090, (20, 0, 0, []), 1), (2091, (13, 0, 0, []), 1), (2092, (0, 0, 3, []), 1), (2093, (40, 0, 0, []), 1), (2094, (67, 0, 0, []), 1), (2095, (103, 279, 0, []), 3), (2098, (76, 0, 286, []), 3), (2102, (101, 0, 0, []), 1), (2103, (21, 0, 0, []), 1), (2104, (20, 0, 0, []), 1), (2105, (13, 0, 0, []), 1), (2106, (0, 0, 1, []), 1), (2107, (40, 0, 0, []), 1), (2108, (67, 0, 0, []), 1), (2109, (20, 0, 0, []), 1), (2110, (13, 0, 0, []), 1), (2111, (0, 0, 2, []), 1), (2112, (40, 0, 0, []), 1), (2113, (67, 0, 0, []), 1), (2114, (103, 280, 0, []), 3), (2117, (22, 0, 0, []), 1), (2118, (20, 0, 0, []), 1), (2119, (13, 0, 0, []), 1), (2120, (0, 0, 1, []), 1), (2121, (40, 0, 0, []), 1), (2122, (67, 0, 0, []), 1), (2123, (20, 0, 0, []), 1), (2124, (13, 0, 0, []), 1), (2125, (0, 0, 2, []), 1), (2126, (40, 0, 0, []), 1), (2127, (67, 0, 0, []), 1), (2128, (103, 283, 0, []), 3), (2131, (76, 0, 253, []), 3), (2135, (101, 0, 0, []), 1)]
theorem zdL33 : zckd code zpL33 = true := by decide +kernel
def zpL34 : List zP := [(2136, (21, 0, 0, []), 1), (2137, (20, 0, 0, []), 1), (2138, (13, 0, 0, []), 1), (2139, (0, 0, 1, []), 1), (2140, (40, 0, 0, []), 1), (2141, (67, 0, 0, []), 1), (2142, (103, 284, 0, []), 3), (2145, (22, 0, 0, []), 1), (2146, (20, 0, 0, []), 1), (2147, (13, 0, 0, []), 1), (2148, (0, 0, 1, []), 1), (2149, (40, 0, 0, []), 1), (2150, (67, 0, 0, []), 1), (2151, (103, 287, 0, []), 3), (2154, (76, 0, 230, []), 3), (2158, (101, 0, 0, []), 1), (2159, (21, 0, 0, []), 1), (2160, (20, 0, 0, []), 1), (2161, (13, 0, 0, []), 1), (2162, (0, 0, 1, []), 1), (2163, (40, 0, 0, []), 1), (2164, (67, 0, 0, []), 1), (2165, (103, 288, 0, []), 3), (2168, (22, 0, 0, []), 1), (2169, (20, 0, 0, []), 1), (2170, (13, 0, 0, []), 1), (2171, (0, 0, 1, []), 1), (2172, (40, 0, 0, []), 1), (2173, (67, 0, 0, []), 1), (2174, (103, 291, 0, []), 3), (2177, (76, 0, 207, []), 3), (2181, (101, 0, 0, []), 1), (2182, (21, 0, 0, []), 1), (2183, (20, 0, 0, []), 1), (2184, (13, 0, 0, []), 1), (2185, (0, 0, 1, []), 1), (2186, (40, 0, 0, []), 1), (2187, (67, 0, 0, []), 1), (2188, (103, 292, 0, []), 3), (2191, (22, 0, 0, []), 1)]
theorem zdL34 : zckd code zpL34 = true := by decide +kernel
def zpL35 : List zP := [(2192, (20, 0, 0, []), 1), (2193, (13, 0, 0, []), 1), (2194, (0, 0, 1, []), 1), (2195, (40, 0, 0, []), 1), (2196, (67, 0, 0, []), 1), (2197, (103, 295, 0, []), 3), (2200, (76, 0, 184, []), 3), (2204, (101, 0, 0, []), 1), (2205, (21, 0, 0, []), 1), (2206, (20, 0, 0, []), 1), (2207, (13, 0, 0, []), 1), (2208, (0, 0, 1, []), 1), (2209, (40, 0, 0, []), 1), (2210, (67, 0, 0, []), 1), (2211, (20, 0, 0, []), 1), (2212, (13, 0, 0, []), 1), (2213, (0, 0, 2, []), 1), (2214, (40, 0, 0, []), 1), (2215, (67, 0, 0, []), 1), (2216, (20, 0, 0, []), 1), (2217, (13, 0, 0, []), 1), (2218, (0, 0, 3, []), 1), (2219, (40, 0, 0, []), 1), (2220, (67, 0, 0, []), 1), (2221, (103, 296, 0, []), 3), (2224, (22, 0, 0, []), 1), (2225, (20, 0, 0, []), 1), (2226, (13, 0, 0, []), 1), (2227, (0, 0, 1, []), 1), (2228, (40, 0, 0, []), 1), (2229, (67, 0, 0, []), 1), (2230, (20, 0, 0, []), 1), (2231, (13, 0, 0, []), 1), (2232, (0, 0, 2, []), 1), (2233, (40, 0, 0, []), 1), (2234, (67, 0, 0, []), 1), (2235, (20, 0, 0, []), 1), (2236, (13, 0, 0, []), 1), (2237, (0, 0, 3, []), 1), (2238, (40, 0, 0, []), 1)]
theorem zdL35 : zckd code zpL35 = true := by decide +kernel
def zpL36 : List zP := [(2239, (67, 0, 0, []), 1), (2240, (103, 299, 0, []), 3), (2243, (76, 0, 141, []), 3), (2247, (101, 0, 0, []), 1), (2248, (21, 0, 0, []), 1), (2249, (20, 0, 0, []), 1), (2250, (13, 0, 0, []), 1), (2251, (0, 0, 1, []), 1), (2252, (40, 0, 0, []), 1), (2253, (67, 0, 0, []), 1), (2254, (20, 0, 0, []), 1), (2255, (13, 0, 0, []), 1), (2256, (0, 0, 2, []), 1), (2257, (40, 0, 0, []), 1), (2258, (67, 0, 0, []), 1), (2259, (20, 0, 0, []), 1), (2260, (13, 0, 0, []), 1), (2261, (0, 0, 3, []), 1), (2262, (40, 0, 0, []), 1), (2263, (67, 0, 0, []), 1), (2264, (59, 0, 0, []), 1), (2265, (1, 0, 32, []), 2), (2267, (57, 0, 0, []), 1), (2268, (20, 0, 0, []), 1), (2269, (13, 0, 0, []), 1), (2270, (0, 0, 4, []), 1), (2271, (40, 0, 0, []), 1), (2272, (67, 0, 0, []), 1), (2273, (59, 0, 0, []), 1), (2274, (8, 300, 0, []), 3), (2277, (53, 0, 0, []), 1), (2278, (54, 0, 0, []), 1), (2279, (103, 302, 0, []), 3), (2282, (22, 0, 0, []), 1), (2283, (20, 0, 0, []), 1), (2284, (13, 0, 0, []), 1), (2285, (0, 0, 1, []), 1), (2286, (40, 0, 0, []), 1), (2287, (67, 0, 0, []), 1), (2288, (20, 0, 0, []), 1)]
theorem zdL36 : zckd code zpL36 = true := by decide +kernel
def zpL37 : List zP := [(2289, (13, 0, 0, []), 1), (2290, (0, 0, 2, []), 1), (2291, (40, 0, 0, []), 1), (2292, (67, 0, 0, []), 1), (2293, (20, 0, 0, []), 1), (2294, (13, 0, 0, []), 1), (2295, (0, 0, 3, []), 1), (2296, (40, 0, 0, []), 1), (2297, (67, 0, 0, []), 1), (2298, (59, 0, 0, []), 1), (2299, (1, 0, 32, []), 2), (2301, (57, 0, 0, []), 1), (2302, (20, 0, 0, []), 1), (2303, (13, 0, 0, []), 1), (2304, (0, 0, 4, []), 1), (2305, (40, 0, 0, []), 1), (2306, (67, 0, 0, []), 1), (2307, (59, 0, 0, []), 1), (2308, (8, 300, 0, []), 3), (2311, (53, 0, 0, []), 1), (2312, (54, 0, 0, []), 1), (2313, (103, 306, 0, []), 3), (2316, (76, 0, 68, []), 3), (2320, (101, 0, 0, []), 1), (2321, (21, 0, 0, []), 1), (2322, (20, 0, 0, []), 1), (2323, (13, 0, 0, []), 1), (2324, (0, 0, 1, []), 1), (2325, (40, 0, 0, []), 1), (2326, (67, 0, 0, []), 1), (2327, (20, 0, 0, []), 1), (2328, (13, 0, 0, []), 1), (2329, (0, 0, 2, []), 1), (2330, (40, 0, 0, []), 1), (2331, (67, 0, 0, []), 1), (2332, (20, 0, 0, []), 1), (2333, (13, 0, 0, []), 1), (2334, (0, 0, 3, []), 1), (2335, (40, 0, 0, []), 1), (2336, (67, 0, 0, []), 1)]
theorem zdL37 : zckd code zpL37 = true := by decide +kernel
def zpL38 : List zP := [(2337, (20, 0, 0, []), 1), (2338, (13, 0, 0, []), 1), (2339, (0, 0, 4, []), 1), (2340, (40, 0, 0, []), 1), (2341, (67, 0, 0, []), 1), (2342, (20, 0, 0, []), 1), (2343, (13, 0, 0, []), 1), (2344, (0, 0, 5, []), 1), (2345, (40, 0, 0, []), 1), (2346, (67, 0, 0, []), 1), (2347, (103, 307, 0, []), 3), (2350, (22, 0, 0, []), 1), (2351, (20, 0, 0, []), 1), (2352, (13, 0, 0, []), 1), (2353, (0, 0, 1, []), 1), (2354, (40, 0, 0, []), 1), (2355, (67, 0, 0, []), 1), (2356, (20, 0, 0, []), 1), (2357, (13, 0, 0, []), 1), (2358, (0, 0, 2, []), 1), (2359, (40, 0, 0, []), 1), (2360, (67, 0, 0, []), 1), (2361, (20, 0, 0, []), 1), (2362, (13, 0, 0, []), 1), (2363, (0, 0, 3, []), 1), (2364, (40, 0, 0, []), 1), (2365, (67, 0, 0, []), 1), (2366, (20, 0, 0, []), 1), (2367, (13, 0, 0, []), 1), (2368, (0, 0, 4, []), 1), (2369, (40, 0, 0, []), 1), (2370, (67, 0, 0, []), 1), (2371, (20, 0, 0, []), 1), (2372, (13, 0, 0, []), 1), (2373, (0, 0, 5, []), 1), (2374, (40, 0, 0, []), 1), (2375, (67, 0, 0, []), 1), (2376, (103, 310, 0, []), 3), (2379, (76, 0, 5, []), 3), (2383, (101, 0, 0, []), 1)]
theorem zdL38 : zckd code zpL38 = true := by decide +kernel
def zpL39 : List zP := [(2384, (39, 3, 6, []), 3), (2387, (88, 0, (-2369), []), 3), (2390, (0, 0, 1, []), 1), (2391, (101, 0, 0, []), 1)]
theorem zdL39 : zckd code zpL39 = true := by decide +kernel
end
section
def zbq : List zP → List zP → Bool
  | [], [] => true
  | a :: x, b :: y => decide (a = b) && zbq x y
  | _, _ => false
theorem zbq_ok : ∀ {x y : List zP}, zbq x y = true → x = y
  | [], [], _ => rfl
  | a :: x, b :: y, h => by
    unfold zbq at h
    rw [Bool.and_eq_true] at h
    rw [of_decide_eq_true h.1, zbq_ok h.2]
  | [], _ :: _, h => by cases h
  | _ :: _, [], h => by cases h
theorem zpL_eq : zpL = zpL0 ++ (zpL1 ++ (zpL2 ++ (zpL3 ++ (zpL4 ++ (zpL5 ++ (zpL6 ++ (zpL7 ++ (zpL8 ++ (zpL9 ++ (zpL10 ++ (zpL11 ++ (zpL12 ++ (zpL13 ++ (zpL14 ++ (zpL15 ++ (zpL16 ++ (zpL17 ++ (zpL18 ++ (zpL19 ++ (zpL20 ++ (zpL21 ++ (zpL22 ++ (zpL23 ++ (zpL24 ++ (zpL25 ++ (zpL26 ++ (zpL27 ++ (zpL28 ++ (zpL29 ++ (zpL30 ++ (zpL31 ++ (zpL32 ++ (zpL33 ++ (zpL34 ++ (zpL35 ++ (zpL36 ++ (zpL37 ++ (zpL38 ++ (zpL39))))))))))))))))))))))))))))))))))))))) := zbq_ok (by decide +kernel)
theorem zd_law : zckd code zpL = true := by rw [zpL_eq]; exact zckd_app zdL0 (zckd_app zdL1 (zckd_app zdL2 (zckd_app zdL3 (zckd_app zdL4 (zckd_app zdL5 (zckd_app zdL6 (zckd_app zdL7 (zckd_app zdL8 (zckd_app zdL9 (zckd_app zdL10 (zckd_app zdL11 (zckd_app zdL12 (zckd_app zdL13 (zckd_app zdL14 (zckd_app zdL15 (zckd_app zdL16 (zckd_app zdL17 (zckd_app zdL18 (zckd_app zdL19 (zckd_app zdL20 (zckd_app zdL21 (zckd_app zdL22 (zckd_app zdL23 (zckd_app zdL24 (zckd_app zdL25 (zckd_app zdL26 (zckd_app zdL27 (zckd_app zdL28 (zckd_app zdL29 (zckd_app zdL30 (zckd_app zdL31 (zckd_app zdL32 (zckd_app zdL33 (zckd_app zdL34 (zckd_app zdL35 (zckd_app zdL36 (zckd_app zdL37 (zckd_app zdL38 (zdL39)))))))))))))))))))))))))))))))))))))))
theorem zok_mt : zMTOk zN zTs zMT := zMT_ok zok_mi zok_d
theorem zok_law : zMOk zN zTs zmL := ⟨by decide +kernel, zckd_ok zd_law, fun h => by cases h⟩
end
section
def zOnes (o : Option (List zOu)) : Bool := match o with
  | some l => l.all (fun q => decide (q.2.1 = some (0, 0, 1)))
  | none => false
def ziv5 : zI := Prod.mk 10 (fun i => match i with
  | 0 => (0, 0)
  | 1 => (0, 5)
  | 8 => (0, 0)
  | 9 => (0, 0)
  | _ => (-2147483648, 2147483647))
def zivr (lo hi : Int) : zI := Prod.mk 10 (fun i => match i with
  | 0 => (0, 0)
  | 1 => (6, 6)
  | 8 => (0, 0)
  | 9 => (lo, hi)
  | _ => (-2147483648, 2147483647))
theorem zrun5 : zOnes (zx zTT false 300 15 562 zmL 0 zpL (0, 0, ziv5, [(0, (4, 0, 0))], [], z_o0)) = true := by decide +kernel
end
section
/-! THE CLAIM OUT OF ONE WALK OF THE LAW'S BODY. Your part is whole_start (and what it stands on); all else here is the same for every law, but numbers. -/
def R_law : String := "WindSignedLaw"
def lw_P (b : Addr) (xs : List Int32) (args : Array Value) (s : State) : Prop := args = #[.ref b] ∧ s.IntsAt b xs ∧ xs.length ≤ 6 ∧ (Jvm.Cond.and given_1 narrow_1).before args s = true
def lw_Q (_ : Array Value) (s : State) (o : Outcome) (t : State) : Prop := o = .returned (some (.int 1)) ∧ Framed s o t [] 600000 7302250
def lw_Z (below : List Frame) (a : Array Value) (s : State) : State → Prop := fun t => ∃ o, t.status = .running ∧ Ended t below o ∧ lw_Q a s o t
/-- the law's own end, with 1 on the stack, nothing written that was there before, its room as the claim has it -/
theorem lw_ret {p : Program} {l : Launch} {e : Env} {s : State} {m : MethodId} {below : List Frame} {meth : Method} {c : Code} {b : Nat} (hx : p.tables.exec = Jvm.exec) (hb : c.code = code) (hr : meth.sig.returnType = ret) (hlocks : meth.locks = false) {pc : Nat} {H : Heap} {ls : Array Slot} (hdg : decode code pc = .ok (.ireturn, 1)) : W p l e room_1 s m #[Value.ref b] below meth c H [] 600000 7302250 (lw_Z below #[Value.ref b] s) (F0 m pc ls [.int 1]) := by
  intro T hT X
  obtain ⟨fs, hret, hrun, hended, hW, hframe⟩ := X.leave (v := some (.int 1)) (hlocks := hlocks) (fun h => by rw [hr] at h; cases h)
  have hmeth' : T.vm.method? m = some meth := X.method'
  refine ⟨T.setFrames fs, ?_, .returned (some (.int 1)), hrun, hended, rfl, ⟨_, rfl⟩, hW, hframe⟩
  jvm_step X.here [X.here.top, hx, hb, hdg, hmeth', hr, ret, narrow_b1]
  (try refine ⟨rfl, ?_⟩); (try refine ⟨rfl, ?_⟩)
  first | (intro acts; rw [hret _ acts rfl rfl rfl]) | rw [hret _ _ rfl rfl rfl]
  exact Steps.refl _
/-- what holds at the law's entry: the machine, the code, the tables' words (any of lw_tbl by 'hts w (by decide +kernel)'), the script of L ints xs at the cell b, what the Statement gives of the start (any of its parts by flat_of_before) -/
def lw_At (p : Program) (s : State) (m : MethodId) (meth : Method) (c : Code) (b L : Nat) (xs : Nat → Int32) : Prop :=
  p.tables.exec = Jvm.exec ∧ c.code = code ∧ meth.sig.returnType = ret ∧ c.maxLocals = 4 ∧ s.vm.findClass R_law = some m.cls ∧ (∀ w ∈ lw_tbl, w.before #[Value.ref b] s = true) ∧ va_X b L xs s s.heap ∧ b < s.heap.size ∧ meth.locks = false ∧ (Jvm.Cond.and given_1 narrow_1).before #[Value.ref b] s = true
end
section
def zIN : List (Nat × Nat) := [(1, 91), (2, 13), (2, 190), (1, 85), (2, 56), (2, 138), (1, 31), (1, 48), (1, 54), (2, 165), (2, 95), (1, 23), (6, 169)]
def zckn : Bool := (List.range zcl.length).all (fun c => match zcl[c]?, zIN[c]? with
  | some q, some i => zck i (.instantiable q.1 q.2.2)
  | _, _ => false)
theorem zckn_ok : zckn = true := by decide +kernel
theorem z_tbl {w : Jvm.Cond} (h : w ∈ zTs) : w ∈ lw_tbl := (List.mem_filter.mp h).1
/-- an array's class, by its words -/
theorem z_arrp {args : Array Value} {s : State} {ty : FieldType} (h : (Jvm.Cond.arrayClass ty).before args s = true) (hty : ty = .int ∨ ty = .long ∨ ty = .byte ∨ ty = .boolean) : ∃ cA : ClassId, ArrOfT s cA ty ∧ va_RA s cA ty := by
  obtain ⟨c, k, comp, h1, h2, h3⟩ := Cond.arrayClass_spec h
  refine ⟨c, fun N z => ⟨(fun k h => by cases h), k, h2, comp, h3⟩, ?_⟩
  rcases hty with rfl | rfl | rfl | rfl
  · exact h1
  · exact h1
  · exact h1
  · exact h1
theorem z_arro {args : Array Value} {s : State} {C : String} (h : (Jvm.Cond.arrayOver (.object C)).before args s = true) : ∃ cA : ClassId, ArrOfT s cA (.object C) ∧ va_RA s cA (.object C) := by
  obtain ⟨comp, c, k, h1, -, h2, h3, h4⟩ := Cond.arrayOver_spec h
  exact ⟨c, fun N z => ⟨(fun k h => by cases h), k, h2, comp, h3⟩, k, comp, h2, h3, h1, h4⟩
theorem z_arra {args : Array Value} {s : State} {t : FieldType} (h : (Jvm.Cond.arrayOver (.array t)).before args s = true) : ∃ cA : ClassId, ArrOfT s cA (.array t) ∧ va_RA s cA (.array t) := by
  obtain ⟨comp, c, k, h1, -, h2, h3, h4⟩ := Jvm.Stand.arrayOver_specB h
  exact ⟨c, fun N z => ⟨(fun k h => by cases h), k, h2, comp, h3⟩, h4⟩
def zcA (a : List ClassId) : Nat → ClassId := fun k => a.getD (k - 1) 0
theorem z_tc : zTcOk zcl ztyl ztc := by
  intro t ci z h _
  have hm := z_as_mem h
  simp only [ztc, List.mem_cons, List.not_mem_nil, or_false] at hm
  rcases hm with e | e
  · cases e; exact ⟨_, rfl, rfl⟩
  · cases e; exact ⟨_, rfl, rfl⟩
theorem z_ty8 (a : Nat → ClassId) : zTyOk a ztyl [(a 1, .int), (a 2, .long), (a 3, .byte), (a 4, .boolean), (a 5, .object "WindSigned$Walk"), (a 6, .object "WindSigned$Plain"), (a 7, .array .long), (a 8, .array .int)] := by
  refine ⟨rfl, rfl, rfl, rfl, fun k t hk ht => ?_, fun k t ht => ?_⟩
  · match k, hk, ht with
    | 4, _, ht => cases ht; rfl
    | 5, _, ht => cases ht; rfl
    | 6, _, ht => cases ht; rfl
    | 7, _, ht => cases ht; rfl
    | k + 8, _, ht => cases ht
  · match k, ht with
    | 0, ht => cases ht; rfl
    | 1, ht => cases ht; rfl
    | 2, ht => cases ht; rfl
    | 3, ht => cases ht; rfl
    | 4, ht => cases ht; rfl
    | 5, ht => cases ht; rfl
    | 6, ht => cases ht; rfl
    | 7, ht => cases ht; rfl
    | k + 8, ht => cases ht
theorem z_allok (a : Nat → ClassId) : zAllOk zTT zN zTs a [(a 1, .int), (a 2, .long), (a 3, .byte), (a 4, .boolean), (a 5, .object "WindSigned$Walk"), (a 6, .object "WindSigned$Plain"), (a 7, .array .long), (a 8, .array .int)] :=
  ⟨⟨zok_cls, zok_g, zFL_ok zck_FL, z_ty8 a, zNW_ok zck_NW, zAN_ok zck_AN, zMN_ok zck_MN, zKI_ok zck_KI, zKL_ok zck_KL, z_tc, zok_ar⟩, zok_mt, zCT_ok zck_CT, zTs_good⟩
theorem z_cls {args : Array Value} {s : State} (hts : ∀ w ∈ lw_tbl, w.before args s = true) : ∃ D : va_G, ∀ (c : Nat) (q : vw_C), zcl[c]? = some q → u_Kn s q.1 q.2.1 q.2.2 (D.1 c) (D.2 c) := by
  have h : ∀ c : Nat, ∃ d : ClassId × (Nat → Nat), ∀ q : vw_C, zcl[c]? = some q → u_Kn s q.1 q.2.1 q.2.2 d.1 d.2 := by
    intro c
    cases hc : zcl[c]? with
    | none => exact ⟨(0, fun _ => 0), fun q hq => by cases hq⟩
    | some q =>
      obtain ⟨C, T, N⟩ := q
      have hlt : c < zcl.length := (List.getElem?_eq_some_iff.mp hc).1
      have h1 := List.all_eq_true.mp zckn_ok c (List.mem_range.mpr hlt)
      rw [hc] at h1
      split at h1
      next q' i hq' hi =>
        cases hq'
        obtain ⟨cC, iS, hk⟩ := u_known (C := C) (T := T) (N := N) (n := N) hts (fun w hw => z_tbl ((zok_cls c C T N hc).2.1 w hw)) (hts _ (z_tbl (zck_ok h1)))
        exact ⟨(cC, iS), fun q hq => by cases hq; exact hk⟩
      next => cases h1
  obtain ⟨d, hd⟩ := Classical.axiomOfChoice h
  exact ⟨(fun c => (d c).1, fun c => (d c).2), fun c q hq => hd c q hq⟩
def zrho (L : Nat) (xs : Nat → Int32) : Nat → Int := fun i => match i with
  | 1 => (L : Int)
  | 2 => (xs 0).toInt
  | 3 => (xs 1).toInt
  | 4 => (xs 2).toInt
  | 5 => (xs 3).toInt
  | 6 => (xs 4).toInt
  | 7 => (xs 5).toInt
  | 9 => if L = 6 then (xs 0 &&& 127).toInt else 0
  | _ => 0
theorem z_a127 (v : Int32) : 0 ≤ (v &&& 127).toInt ∧ (v &&& 127).toInt ≤ 127 := by
  have h : ∀ w : BitVec 32, 0 ≤ (w &&& 127#32).toInt ∧ (w &&& 127#32).toInt ≤ 127 := fun w => by
    have h1 : (w &&& 127#32).toNat ≤ 127 := by rw [BitVec.toNat_and]; exact Nat.and_le_right
    rw [BitVec.toInt_eq_toNat_of_lt (by omega)]
    omega
  exact h v.toBitVec
theorem z_iv5 {L : Nat} {xs : Nat → Int32} (h : L ≤ 5) : ziv ziv5 (zrho L xs) := by
  refine ⟨rfl, by decide, fun i q hq => ?_⟩
  match i, hq with
  | 0, hq => cases hq; exact ⟨Int.le_refl _, Int.le_refl _⟩
  | 1, hq => cases hq; exact ⟨Int.natCast_nonneg L, by show (L : Int) ≤ 5; omega⟩
  | 2, hq => cases hq; exact z_r32 _
  | 3, hq => cases hq; exact z_r32 _
  | 4, hq => cases hq; exact z_r32 _
  | 5, hq => cases hq; exact z_r32 _
  | 6, hq => cases hq; exact z_r32 _
  | 7, hq => cases hq; exact z_r32 _
  | 8, hq => cases hq; exact ⟨Int.le_refl _, Int.le_refl _⟩
  | 9, hq => cases hq; show (0 : Int) ≤ (if L = 6 then (xs 0 &&& 127).toInt else 0) ∧ (if L = 6 then (xs 0 &&& 127).toInt else 0) ≤ (0 : Int); rw [if_neg (by omega)]; exact ⟨Int.le_refl _, Int.le_refl _⟩
  | i + 10, hq => cases hq
theorem z_iv6 {xs : Nat → Int32} {lo hi : Int} (h : lo ≤ (xs 0 &&& 127).toInt ∧ (xs 0 &&& 127).toInt ≤ hi) : ziv (zivr lo hi) (zrho 6 xs) := by
  refine ⟨rfl, Nat.succ_pos 9, fun i q hq => ?_⟩
  match i, hq with
  | 0, hq => cases hq; exact ⟨Int.le_refl _, Int.le_refl _⟩
  | 1, hq => cases hq; exact ⟨Int.le_refl _, Int.le_refl _⟩
  | 2, hq => cases hq; exact z_r32 _
  | 3, hq => cases hq; exact z_r32 _
  | 4, hq => cases hq; exact z_r32 _
  | 5, hq => cases hq; exact z_r32 _
  | 6, hq => cases hq; exact z_r32 _
  | 7, hq => cases hq; exact z_r32 _
  | 8, hq => cases hq; exact ⟨Int.le_refl _, Int.le_refl _⟩
  | 9, hq => cases hq; exact h
  | i + 10, hq => cases hq
theorem z_sc6 {xs : Nat → Int32} {fl : Bool} : zSc 6 xs fl (zrho 6 xs) := by
  refine ⟨rfl, fun _ => ⟨Int.le_refl _, Int.le_refl _, fun j hj => ?_, rfl⟩⟩
  match j, hj with
  | 0, _ => rfl
  | 1, _ => rfl
  | 2, _ => rfl
  | 3, _ => rfl
  | 4, _ => rfl
  | 5, _ => rfl
  | j + 6, hj => omega
set_option maxHeartbeats 1000000 in
theorem z_start {p : Program} {e : Env} {s : State} {m : MethodId} {below : List Frame} {meth : Method} {c : Code} (l : Launch) {b L : Nat} {xs : Nat → Int32} (hL : L ≤ 6) (C0 : lw_At p s m meth c b L xs) {fl : Bool} {f : Nat} {iv : zI} {ρ : Nat → Int} (hrun : zOnes (zx zTT fl f 15 562 zmL 0 zpL (0, 0, iv, [(0, (4, 0, 0))], [], z_o0)) = true) (hiv : ziv iv ρ) (hsc : zSc L xs fl ρ) (hlen : 9 < iv.length) : W p l e room_1 s m #[Value.ref b] below meth c s.heap [] 0 0 (lw_Z below #[Value.ref b] s) (entryFrame m ([Value.ref b] : List Value).toArray 4) := by
  obtain ⟨hx, hb, hr, hml, hown, hts, hX, hbl, hlocks, -⟩ := C0
  cases hz : zx zTT fl f 15 562 zmL 0 zpL (0, 0, iv, [(0, (4, 0, 0))], [], z_o0) with
  | none => rw [hz] at hrun; cases hrun
  | some outs =>
    rw [hz] at hrun
    have hones : ∀ o ∈ outs, o.2.1 = some (0, 0, 1) := fun o ho => of_decide_eq_true (List.all_eq_true.mp hrun o ho)
    obtain ⟨D, hD⟩ := z_cls hts
    obtain ⟨a1, q1⟩ := z_arrp (hts _ (z_tbl (zok_ar .int (by decide)))) (Or.inl rfl)
    obtain ⟨a2, q2⟩ := z_arrp (hts _ (z_tbl (zok_ar .long (by decide)))) (Or.inr (Or.inl rfl))
    obtain ⟨a3, q3⟩ := z_arrp (hts _ (z_tbl (zok_ar .byte (by decide)))) (Or.inr (Or.inr (Or.inl rfl)))
    obtain ⟨a4, q4⟩ := z_arrp (hts _ (z_tbl (zok_ar .boolean (by decide)))) (Or.inr (Or.inr (Or.inr rfl)))
    have w5 : (Jvm.Cond.arrayOver (.object "WindSigned$Walk")).before #[Value.ref b] s = true := hts _ (zwl_in (k := 2) (List.mem_of_getElem? (i := 94) (by decide +kernel)))
    have w6 : (Jvm.Cond.arrayOver (.object "WindSigned$Plain")).before #[Value.ref b] s = true := hts _ (zwl_in (k := 2) (List.mem_of_getElem? (i := 221) (by decide +kernel)))
    have w7 : (Jvm.Cond.arrayOver (.array .long)).before #[Value.ref b] s = true := hts _ (zwl_in (k := 2) (List.mem_of_getElem? (i := 144) (by decide +kernel)))
    have w8 : (Jvm.Cond.arrayOver (.array .int)).before #[Value.ref b] s = true := hts _ (zwl_in (k := 2) (List.mem_of_getElem? (i := 196) (by decide +kernel)))
    obtain ⟨a5, q5⟩ := z_arro w5
    obtain ⟨a6, q6⟩ := z_arro w6
    obtain ⟨a7, q7⟩ := z_arra w7
    obtain ⟨a8, q8⟩ := z_arra w8
    have hK : va_K D zcl [(zcA [a1, a2, a3, a4, a5, a6, a7, a8] 1, .int), (zcA [a1, a2, a3, a4, a5, a6, a7, a8] 2, .long), (zcA [a1, a2, a3, a4, a5, a6, a7, a8] 3, .byte), (zcA [a1, a2, a3, a4, a5, a6, a7, a8] 4, .boolean), (zcA [a1, a2, a3, a4, a5, a6, a7, a8] 5, .object "WindSigned$Walk"), (zcA [a1, a2, a3, a4, a5, a6, a7, a8] 6, .object "WindSigned$Plain"), (zcA [a1, a2, a3, a4, a5, a6, a7, a8] 7, .array .long), (zcA [a1, a2, a3, a4, a5, a6, a7, a8] 8, .array .int)] s := by
      refine ⟨hD, fun k q hk => ?_⟩
      match k, hk with
      | 0, hk => cases hk; exact q1
      | 1, hk => cases hk; exact q2
      | 2, hk => cases hk; exact q3
      | 3, hk => cases hk; exact q4
      | 4, hk => cases hk; exact q5
      | 5, hk => cases hk; exact q6
      | 6, hk => cases hk; exact q7
      | 7, hk => cases hk; exact q8
      | k + 8, hk => cases hk
    have hOv : zOv ztyl s := by
      intro k t hk ht
      match k, hk, ht with
      | 4, _, ht => cases ht; exact w5
      | 5, _, ht => cases ht; exact w6
      | 6, _, ht => cases ht; exact w7
      | 7, _, ht => cases ht; exact w8
      | k + 8, _, ht => cases ht
    have hbA : ¬ s.heap.size ≤ b := Nat.not_le.mpr hbl
    have hl := lv_entry ([((4, 0, 0) : zV)].map (zcv (fun _ => 0) b ρ)) (n := 4) (by rw [z_wd2_sl]; decide)
    rw [z_arg_map] at hl
    rw [lg_entry_eq]
    have e1 : ([((4, 0, 0) : zV)].map (zcv (fun _ => 0) b ρ)) = [Value.ref b] := rfl
    rw [e1] at hl
    generalize (lg_sl ([Value.ref b] : List Value) ++ List.replicate (4 - (lg_sl ([Value.ref b] : List Value)).length) Slot.unset).toArray = ls at hl ⊢
    refine z_sound (l := l) (D := D) (A := fun q => s.heap.size ≤ q) (b := b) (sl := L) (xs := xs) (fl := fl) (z_allok (zcA [a1, a2, a3, a4, a5, a6, a7, a8])) hbA (by omega) f 15 562 zmL 0 zpL (0, 0, iv, [(0, (4, 0, 0))], [], z_o0) outs hz zok_law (fun _ h => h) p e room_1 s m #[Value.ref b] below meth c (lw_Z below #[Value.ref b] s) ⟨hx, hb, hml, hr, hlocks, hown, fun w hw => hts w (z_tbl hw), hK, (fun h => by cases h), ⟨hX, hOv⟩, hbl, hbA, fun _ h => h, by omega, Nat.le_refl _, Nat.le_refl _⟩ (Nat.le_refl _) (Nat.le_refl _) ρ (fun _ => 0) [] s.heap [] ls ⟨⟨hiv, fun q hq => ?_, (fun v hv => absurd hv List.not_mem_nil), (fun _ _ _ hv => (z_o0_lk hv).elim)⟩, hl, ⟨rfl, (fun k q hk => by cases hk)⟩, (fun k q hk => by cases hk), ⟨(fun i j p q hi => by cases hi), (fun k q hk => by cases hk)⟩, va_S.rf, hsc, hlen⟩ ?_
    · rw [List.mem_singleton] at hq
      subst hq
      exact trivial
    · intro o ho ρ' ad' ws' H' locs' ls' pc' kk cu su i hbh hend hS hrt hrv hd hcu hsu
      have eo := hones o ho
      rw [eo]
      have ev : zcv ad' b ρ' (0, 0, 1) = .int 1 := by
        show Value.int (Int32.ofInt (ρ' 0 + 1)) = .int 1
        rw [hend.1.1]; rfl
      show W p l e room_1 s m #[Value.ref b] below meth c H' locs' cu su (lw_Z below #[Value.ref b] s) (F0 m pc' ls' [zcv ad' b ρ' (0, 0, 1)])
      rw [ev]
      have hk1 : i = .ireturn := by
        rcases hrv with ⟨r0, r1, r2⟩ | ⟨r0, v, r1, r2, r3⟩ | ⟨r0, v, r1, r2, r3⟩
        · rw [eo] at r2; cases r2
        · rcases hrt with ⟨q, -⟩ | ⟨-, q⟩ | ⟨q, -⟩
          · omega
          · exact q
          · omega
        · rw [eo] at r1; cases r1; cases r2
      subst hk1
      refine va_forget (fun q hq => hS.2.2 q hq) ?_
      exact W.widen hcu hsu (lw_ret hx hb hr hlocks hd)
end
section
theorem zrn69 : zOnes (zx zTT true 949 15 562 zmL 0 zpL (0, 0, zivr 69 69, [(0, (4, 0, 0))], [], z_o0)) = true := by decide +kernel
end
section
theorem zrn2 : zOnes (zx zTT true 2390 15 562 zmL 0 zpL (0, 0, zivr 2 2, [(0, (4, 0, 0))], [], z_o0)) = true := by decide +kernel
theorem zrn67 : zOnes (zx zTT true 1776 15 562 zmL 0 zpL (0, 0, zivr 67 67, [(0, (4, 0, 0))], [], z_o0)) = true := by decide +kernel
theorem zrn68 : zOnes (zx zTT true 300 15 562 zmL 0 zpL (0, 0, zivr 68 68, [(0, (4, 0, 0))], [], z_o0)) = true := by decide +kernel
end
section
theorem zrn12 : zOnes (zx zTT true 1101 15 562 zmL 0 zpL (0, 0, zivr 12 12, [(0, (4, 0, 0))], [], z_o0)) = true := by decide +kernel
theorem zrn13 : zOnes (zx zTT true 1101 15 562 zmL 0 zpL (0, 0, zivr 13 13, [(0, (4, 0, 0))], [], z_o0)) = true := by decide +kernel
theorem zrn25 : zOnes (zx zTT true 1107 15 562 zmL 0 zpL (0, 0, zivr 25 25, [(0, (4, 0, 0))], [], z_o0)) = true := by decide +kernel
end
section
theorem zrn15 : zOnes (zx zTT true 1101 15 562 zmL 0 zpL (0, 0, zivr 15 15, [(0, (4, 0, 0))], [], z_o0)) = true := by decide +kernel
theorem zrn22 : zOnes (zx zTT true 1101 15 562 zmL 0 zpL (0, 0, zivr 22 22, [(0, (4, 0, 0))], [], z_o0)) = true := by decide +kernel
theorem zrn23 : zOnes (zx zTT true 1101 15 562 zmL 0 zpL (0, 0, zivr 23 23, [(0, (4, 0, 0))], [], z_o0)) = true := by decide +kernel
end
section
theorem zrn24 : zOnes (zx zTT true 1121 15 562 zmL 0 zpL (0, 0, zivr 24 24, [(0, (4, 0, 0))], [], z_o0)) = true := by decide +kernel
theorem zrn29 : zOnes (zx zTT true 1101 15 562 zmL 0 zpL (0, 0, zivr 29 29, [(0, (4, 0, 0))], [], z_o0)) = true := by decide +kernel
theorem zrn35 : zOnes (zx zTT true 1101 15 562 zmL 0 zpL (0, 0, zivr 35 35, [(0, (4, 0, 0))], [], z_o0)) = true := by decide +kernel
end
section
theorem zrn8 : zOnes (zx zTT true 1111 15 562 zmL 0 zpL (0, 0, zivr 8 8, [(0, (4, 0, 0))], [], z_o0)) = true := by decide +kernel
theorem zrn11 : zOnes (zx zTT true 1111 15 562 zmL 0 zpL (0, 0, zivr 11 11, [(0, (4, 0, 0))], [], z_o0)) = true := by decide +kernel
theorem zrn36 : zOnes (zx zTT true 1097 15 562 zmL 0 zpL (0, 0, zivr 36 36, [(0, (4, 0, 0))], [], z_o0)) = true := by decide +kernel
end
section
theorem zrn18 : zOnes (zx zTT true 1111 15 562 zmL 0 zpL (0, 0, zivr 18 18, [(0, (4, 0, 0))], [], z_o0)) = true := by decide +kernel
theorem zrn19 : zOnes (zx zTT true 1111 15 562 zmL 0 zpL (0, 0, zivr 19 19, [(0, (4, 0, 0))], [], z_o0)) = true := by decide +kernel
theorem zrn30 : zOnes (zx zTT true 1111 15 562 zmL 0 zpL (0, 0, zivr 30 30, [(0, (4, 0, 0))], [], z_o0)) = true := by decide +kernel
end
section
theorem zrn9 : zOnes (zx zTT true 1111 15 562 zmL 0 zpL (0, 0, zivr 9 9, [(0, (4, 0, 0))], [], z_o0)) = true := by decide +kernel
theorem zrn10 : zOnes (zx zTT true 1101 15 562 zmL 0 zpL (0, 0, zivr 10 10, [(0, (4, 0, 0))], [], z_o0)) = true := by decide +kernel
theorem zrn50 : zOnes (zx zTT true 300 15 562 zmL 0 zpL (0, 0, zivr 50 50, [(0, (4, 0, 0))], [], z_o0)) = true := by decide +kernel
theorem zrn54 : zOnes (zx zTT true 1104 15 562 zmL 0 zpL (0, 0, zivr 54 54, [(0, (4, 0, 0))], [], z_o0)) = true := by decide +kernel
theorem zrn64 : zOnes (zx zTT true 300 15 562 zmL 0 zpL (0, 0, zivr 64 64, [(0, (4, 0, 0))], [], z_o0)) = true := by decide +kernel
end
section
theorem zrn14 : zOnes (zx zTT true 1101 15 562 zmL 0 zpL (0, 0, zivr 14 14, [(0, (4, 0, 0))], [], z_o0)) = true := by decide +kernel
theorem zrn17 : zOnes (zx zTT true 1101 15 562 zmL 0 zpL (0, 0, zivr 17 17, [(0, (4, 0, 0))], [], z_o0)) = true := by decide +kernel
theorem zrn20 : zOnes (zx zTT true 1101 15 562 zmL 0 zpL (0, 0, zivr 20 20, [(0, (4, 0, 0))], [], z_o0)) = true := by decide +kernel
theorem zrn21 : zOnes (zx zTT true 1101 15 562 zmL 0 zpL (0, 0, zivr 21 21, [(0, (4, 0, 0))], [], z_o0)) = true := by decide +kernel
theorem zrn26 : zOnes (zx zTT true 1101 15 562 zmL 0 zpL (0, 0, zivr 26 26, [(0, (4, 0, 0))], [], z_o0)) = true := by decide +kernel
end
section
theorem zrn16 : zOnes (zx zTT true 1087 15 562 zmL 0 zpL (0, 0, zivr 16 16, [(0, (4, 0, 0))], [], z_o0)) = true := by decide +kernel
theorem zrn27 : zOnes (zx zTT true 1101 15 562 zmL 0 zpL (0, 0, zivr 27 27, [(0, (4, 0, 0))], [], z_o0)) = true := by decide +kernel
theorem zrn28 : zOnes (zx zTT true 1101 15 562 zmL 0 zpL (0, 0, zivr 28 28, [(0, (4, 0, 0))], [], z_o0)) = true := by decide +kernel
theorem zrn34 : zOnes (zx zTT true 1087 15 562 zmL 0 zpL (0, 0, zivr 34 34, [(0, (4, 0, 0))], [], z_o0)) = true := by decide +kernel
theorem zrn51 : zOnes (zx zTT true 1097 15 562 zmL 0 zpL (0, 0, zivr 51 51, [(0, (4, 0, 0))], [], z_o0)) = true := by decide +kernel
end
section
theorem zrn37 : zOnes (zx zTT true 1087 15 562 zmL 0 zpL (0, 0, zivr 37 37, [(0, (4, 0, 0))], [], z_o0)) = true := by decide +kernel
theorem zrn38 : zOnes (zx zTT true 1087 15 562 zmL 0 zpL (0, 0, zivr 38 38, [(0, (4, 0, 0))], [], z_o0)) = true := by decide +kernel
theorem zrn43 : zOnes (zx zTT true 1087 15 562 zmL 0 zpL (0, 0, zivr 43 43, [(0, (4, 0, 0))], [], z_o0)) = true := by decide +kernel
theorem zrn44 : zOnes (zx zTT true 1087 15 562 zmL 0 zpL (0, 0, zivr 44 44, [(0, (4, 0, 0))], [], z_o0)) = true := by decide +kernel
theorem zrn52 : zOnes (zx zTT true 1087 15 562 zmL 0 zpL (0, 0, zivr 52 52, [(0, (4, 0, 0))], [], z_o0)) = true := by decide +kernel
end
section
theorem zrn0 : zOnes (zx zTT true 683 15 562 zmL 0 zpL (0, 0, zivr 0 0, [(0, (4, 0, 0))], [], z_o0)) = true := by decide +kernel
theorem zrn45 : zOnes (zx zTT true 300 15 562 zmL 0 zpL (0, 0, zivr 45 45, [(0, (4, 0, 0))], [], z_o0)) = true := by decide +kernel
theorem zrn53 : zOnes (zx zTT true 1094 15 562 zmL 0 zpL (0, 0, zivr 53 53, [(0, (4, 0, 0))], [], z_o0)) = true := by decide +kernel
theorem zrn56 : zOnes (zx zTT true 300 15 562 zmL 0 zpL (0, 0, zivr 56 56, [(0, (4, 0, 0))], [], z_o0)) = true := by decide +kernel
theorem zrn59 : zOnes (zx zTT true 300 15 562 zmL 0 zpL (0, 0, zivr 59 59, [(0, (4, 0, 0))], [], z_o0)) = true := by decide +kernel
theorem zrn66 : zOnes (zx zTT true 300 15 562 zmL 0 zpL (0, 0, zivr 66 66, [(0, (4, 0, 0))], [], z_o0)) = true := by decide +kernel
theorem zrn71 : zOnes (zx zTT true 300 15 562 zmL 0 zpL (0, 0, zivr 71 71, [(0, (4, 0, 0))], [], z_o0)) = true := by decide +kernel
end
section
theorem zrn41 : zOnes (zx zTT true 300 15 562 zmL 0 zpL (0, 0, zivr 41 41, [(0, (4, 0, 0))], [], z_o0)) = true := by decide +kernel
theorem zrn46 : zOnes (zx zTT true 300 15 562 zmL 0 zpL (0, 0, zivr 46 46, [(0, (4, 0, 0))], [], z_o0)) = true := by decide +kernel
theorem zrn47 : zOnes (zx zTT true 300 15 562 zmL 0 zpL (0, 0, zivr 47 47, [(0, (4, 0, 0))], [], z_o0)) = true := by decide +kernel
theorem zrn48 : zOnes (zx zTT true 300 15 562 zmL 0 zpL (0, 0, zivr 48 48, [(0, (4, 0, 0))], [], z_o0)) = true := by decide +kernel
theorem zrn49 : zOnes (zx zTT true 300 15 562 zmL 0 zpL (0, 0, zivr 49 49, [(0, (4, 0, 0))], [], z_o0)) = true := by decide +kernel
theorem zrn55 : zOnes (zx zTT true 300 15 562 zmL 0 zpL (0, 0, zivr 55 55, [(0, (4, 0, 0))], [], z_o0)) = true := by decide +kernel
theorem zrn57 : zOnes (zx zTT true 300 15 562 zmL 0 zpL (0, 0, zivr 57 57, [(0, (4, 0, 0))], [], z_o0)) = true := by decide +kernel
theorem zrn60 : zOnes (zx zTT true 300 15 562 zmL 0 zpL (0, 0, zivr 60 60, [(0, (4, 0, 0))], [], z_o0)) = true := by decide +kernel
theorem zrn70 : zOnes (zx zTT true 300 15 562 zmL 0 zpL (0, 0, zivr 70 70, [(0, (4, 0, 0))], [], z_o0)) = true := by decide +kernel
end
section
theorem zrn1 : zOnes (zx zTT true 300 15 562 zmL 0 zpL (0, 0, zivr 1 1, [(0, (4, 0, 0))], [], z_o0)) = true := by decide +kernel
theorem zrn3 : zOnes (zx zTT true 300 15 562 zmL 0 zpL (0, 0, zivr 3 3, [(0, (4, 0, 0))], [], z_o0)) = true := by decide +kernel
theorem zrn4 : zOnes (zx zTT true 300 15 562 zmL 0 zpL (0, 0, zivr 4 4, [(0, (4, 0, 0))], [], z_o0)) = true := by decide +kernel
theorem zrn5 : zOnes (zx zTT true 300 15 562 zmL 0 zpL (0, 0, zivr 5 5, [(0, (4, 0, 0))], [], z_o0)) = true := by decide +kernel
theorem zrn6 : zOnes (zx zTT true 300 15 562 zmL 0 zpL (0, 0, zivr 6 6, [(0, (4, 0, 0))], [], z_o0)) = true := by decide +kernel
theorem zrn7 : zOnes (zx zTT true 300 15 562 zmL 0 zpL (0, 0, zivr 7 7, [(0, (4, 0, 0))], [], z_o0)) = true := by decide +kernel
theorem zrn39 : zOnes (zx zTT true 300 15 562 zmL 0 zpL (0, 0, zivr 39 39, [(0, (4, 0, 0))], [], z_o0)) = true := by decide +kernel
theorem zrn40 : zOnes (zx zTT true 300 15 562 zmL 0 zpL (0, 0, zivr 40 40, [(0, (4, 0, 0))], [], z_o0)) = true := by decide +kernel
theorem zrn42 : zOnes (zx zTT true 300 15 562 zmL 0 zpL (0, 0, zivr 42 42, [(0, (4, 0, 0))], [], z_o0)) = true := by decide +kernel
theorem zrn58 : zOnes (zx zTT true 300 15 562 zmL 0 zpL (0, 0, zivr 58 58, [(0, (4, 0, 0))], [], z_o0)) = true := by decide +kernel
theorem zrn65 : zOnes (zx zTT true 300 15 562 zmL 0 zpL (0, 0, zivr 65 65, [(0, (4, 0, 0))], [], z_o0)) = true := by decide +kernel
end
section
theorem zrn31 : zOnes (zx zTT true 300 15 562 zmL 0 zpL (0, 0, zivr 31 31, [(0, (4, 0, 0))], [], z_o0)) = true := by decide +kernel
theorem zrn32 : zOnes (zx zTT true 300 15 562 zmL 0 zpL (0, 0, zivr 32 32, [(0, (4, 0, 0))], [], z_o0)) = true := by decide +kernel
theorem zrn33 : zOnes (zx zTT true 300 15 562 zmL 0 zpL (0, 0, zivr 33 33, [(0, (4, 0, 0))], [], z_o0)) = true := by decide +kernel
theorem zrn61 : zOnes (zx zTT true 300 15 562 zmL 0 zpL (0, 0, zivr 61 61, [(0, (4, 0, 0))], [], z_o0)) = true := by decide +kernel
theorem zrn62 : zOnes (zx zTT true 300 15 562 zmL 0 zpL (0, 0, zivr 62 62, [(0, (4, 0, 0))], [], z_o0)) = true := by decide +kernel
theorem zrn63 : zOnes (zx zTT true 300 15 562 zmL 0 zpL (0, 0, zivr 63 63, [(0, (4, 0, 0))], [], z_o0)) = true := by decide +kernel
theorem zrn72 : zOnes (zx zTT true 300 15 562 zmL 0 zpL (0, 0, zivr 72 127, [(0, (4, 0, 0))], [], z_o0)) = true := by decide +kernel
end
section
theorem zall6 (x : Int) (h0 : 0 ≤ x) (h9 : x ≤ 127) : ∃ (lo hi : Int) (f : Nat), (lo ≤ x ∧ x ≤ hi) ∧ zOnes (zx zTT true f 15 562 zmL 0 zpL (0, 0, zivr lo hi, [(0, (4, 0, 0))], [], z_o0)) = true := by
  by_cases h : x ≤ 0
  · exact ⟨0, 0, 683, ⟨h0, h⟩, zrn0⟩
  replace h0 : 1 ≤ x := by omega
  clear h
  by_cases h : x ≤ 1
  · exact ⟨1, 1, 300, ⟨h0, h⟩, zrn1⟩
  replace h0 : 2 ≤ x := by omega
  clear h
  by_cases h : x ≤ 2
  · exact ⟨2, 2, 2390, ⟨h0, h⟩, zrn2⟩
  replace h0 : 3 ≤ x := by omega
  clear h
  by_cases h : x ≤ 3
  · exact ⟨3, 3, 300, ⟨h0, h⟩, zrn3⟩
  replace h0 : 4 ≤ x := by omega
  clear h
  by_cases h : x ≤ 4
  · exact ⟨4, 4, 300, ⟨h0, h⟩, zrn4⟩
  replace h0 : 5 ≤ x := by omega
  clear h
  by_cases h : x ≤ 5
  · exact ⟨5, 5, 300, ⟨h0, h⟩, zrn5⟩
  replace h0 : 6 ≤ x := by omega
  clear h
  by_cases h : x ≤ 6
  · exact ⟨6, 6, 300, ⟨h0, h⟩, zrn6⟩
  replace h0 : 7 ≤ x := by omega
  clear h
  by_cases h : x ≤ 7
  · exact ⟨7, 7, 300, ⟨h0, h⟩, zrn7⟩
  replace h0 : 8 ≤ x := by omega
  clear h
  by_cases h : x ≤ 8
  · exact ⟨8, 8, 1111, ⟨h0, h⟩, zrn8⟩
  replace h0 : 9 ≤ x := by omega
  clear h
  by_cases h : x ≤ 9
  · exact ⟨9, 9, 1111, ⟨h0, h⟩, zrn9⟩
  replace h0 : 10 ≤ x := by omega
  clear h
  by_cases h : x ≤ 10
  · exact ⟨10, 10, 1101, ⟨h0, h⟩, zrn10⟩
  replace h0 : 11 ≤ x := by omega
  clear h
  by_cases h : x ≤ 11
  · exact ⟨11, 11, 1111, ⟨h0, h⟩, zrn11⟩
  replace h0 : 12 ≤ x := by omega
  clear h
  by_cases h : x ≤ 12
  · exact ⟨12, 12, 1101, ⟨h0, h⟩, zrn12⟩
  replace h0 : 13 ≤ x := by omega
  clear h
  by_cases h : x ≤ 13
  · exact ⟨13, 13, 1101, ⟨h0, h⟩, zrn13⟩
  replace h0 : 14 ≤ x := by omega
  clear h
  by_cases h : x ≤ 14
  · exact ⟨14, 14, 1101, ⟨h0, h⟩, zrn14⟩
  replace h0 : 15 ≤ x := by omega
  clear h
  by_cases h : x ≤ 15
  · exact ⟨15, 15, 1101, ⟨h0, h⟩, zrn15⟩
  replace h0 : 16 ≤ x := by omega
  clear h
  by_cases h : x ≤ 16
  · exact ⟨16, 16, 1087, ⟨h0, h⟩, zrn16⟩
  replace h0 : 17 ≤ x := by omega
  clear h
  by_cases h : x ≤ 17
  · exact ⟨17, 17, 1101, ⟨h0, h⟩, zrn17⟩
  replace h0 : 18 ≤ x := by omega
  clear h
  by_cases h : x ≤ 18
  · exact ⟨18, 18, 1111, ⟨h0, h⟩, zrn18⟩
  replace h0 : 19 ≤ x := by omega
  clear h
  by_cases h : x ≤ 19
  · exact ⟨19, 19, 1111, ⟨h0, h⟩, zrn19⟩
  replace h0 : 20 ≤ x := by omega
  clear h
  by_cases h : x ≤ 20
  · exact ⟨20, 20, 1101, ⟨h0, h⟩, zrn20⟩
  replace h0 : 21 ≤ x := by omega
  clear h
  by_cases h : x ≤ 21
  · exact ⟨21, 21, 1101, ⟨h0, h⟩, zrn21⟩
  replace h0 : 22 ≤ x := by omega
  clear h
  by_cases h : x ≤ 22
  · exact ⟨22, 22, 1101, ⟨h0, h⟩, zrn22⟩
  replace h0 : 23 ≤ x := by omega
  clear h
  by_cases h : x ≤ 23
  · exact ⟨23, 23, 1101, ⟨h0, h⟩, zrn23⟩
  replace h0 : 24 ≤ x := by omega
  clear h
  by_cases h : x ≤ 24
  · exact ⟨24, 24, 1121, ⟨h0, h⟩, zrn24⟩
  replace h0 : 25 ≤ x := by omega
  clear h
  by_cases h : x ≤ 25
  · exact ⟨25, 25, 1107, ⟨h0, h⟩, zrn25⟩
  replace h0 : 26 ≤ x := by omega
  clear h
  by_cases h : x ≤ 26
  · exact ⟨26, 26, 1101, ⟨h0, h⟩, zrn26⟩
  replace h0 : 27 ≤ x := by omega
  clear h
  by_cases h : x ≤ 27
  · exact ⟨27, 27, 1101, ⟨h0, h⟩, zrn27⟩
  replace h0 : 28 ≤ x := by omega
  clear h
  by_cases h : x ≤ 28
  · exact ⟨28, 28, 1101, ⟨h0, h⟩, zrn28⟩
  replace h0 : 29 ≤ x := by omega
  clear h
  by_cases h : x ≤ 29
  · exact ⟨29, 29, 1101, ⟨h0, h⟩, zrn29⟩
  replace h0 : 30 ≤ x := by omega
  clear h
  by_cases h : x ≤ 30
  · exact ⟨30, 30, 1111, ⟨h0, h⟩, zrn30⟩
  replace h0 : 31 ≤ x := by omega
  clear h
  by_cases h : x ≤ 31
  · exact ⟨31, 31, 300, ⟨h0, h⟩, zrn31⟩
  replace h0 : 32 ≤ x := by omega
  clear h
  by_cases h : x ≤ 32
  · exact ⟨32, 32, 300, ⟨h0, h⟩, zrn32⟩
  replace h0 : 33 ≤ x := by omega
  clear h
  by_cases h : x ≤ 33
  · exact ⟨33, 33, 300, ⟨h0, h⟩, zrn33⟩
  replace h0 : 34 ≤ x := by omega
  clear h
  by_cases h : x ≤ 34
  · exact ⟨34, 34, 1087, ⟨h0, h⟩, zrn34⟩
  replace h0 : 35 ≤ x := by omega
  clear h
  by_cases h : x ≤ 35
  · exact ⟨35, 35, 1101, ⟨h0, h⟩, zrn35⟩
  replace h0 : 36 ≤ x := by omega
  clear h
  by_cases h : x ≤ 36
  · exact ⟨36, 36, 1097, ⟨h0, h⟩, zrn36⟩
  replace h0 : 37 ≤ x := by omega
  clear h
  by_cases h : x ≤ 37
  · exact ⟨37, 37, 1087, ⟨h0, h⟩, zrn37⟩
  replace h0 : 38 ≤ x := by omega
  clear h
  by_cases h : x ≤ 38
  · exact ⟨38, 38, 1087, ⟨h0, h⟩, zrn38⟩
  replace h0 : 39 ≤ x := by omega
  clear h
  by_cases h : x ≤ 39
  · exact ⟨39, 39, 300, ⟨h0, h⟩, zrn39⟩
  replace h0 : 40 ≤ x := by omega
  clear h
  by_cases h : x ≤ 40
  · exact ⟨40, 40, 300, ⟨h0, h⟩, zrn40⟩
  replace h0 : 41 ≤ x := by omega
  clear h
  by_cases h : x ≤ 41
  · exact ⟨41, 41, 300, ⟨h0, h⟩, zrn41⟩
  replace h0 : 42 ≤ x := by omega
  clear h
  by_cases h : x ≤ 42
  · exact ⟨42, 42, 300, ⟨h0, h⟩, zrn42⟩
  replace h0 : 43 ≤ x := by omega
  clear h
  by_cases h : x ≤ 43
  · exact ⟨43, 43, 1087, ⟨h0, h⟩, zrn43⟩
  replace h0 : 44 ≤ x := by omega
  clear h
  by_cases h : x ≤ 44
  · exact ⟨44, 44, 1087, ⟨h0, h⟩, zrn44⟩
  replace h0 : 45 ≤ x := by omega
  clear h
  by_cases h : x ≤ 45
  · exact ⟨45, 45, 300, ⟨h0, h⟩, zrn45⟩
  replace h0 : 46 ≤ x := by omega
  clear h
  by_cases h : x ≤ 46
  · exact ⟨46, 46, 300, ⟨h0, h⟩, zrn46⟩
  replace h0 : 47 ≤ x := by omega
  clear h
  by_cases h : x ≤ 47
  · exact ⟨47, 47, 300, ⟨h0, h⟩, zrn47⟩
  replace h0 : 48 ≤ x := by omega
  clear h
  by_cases h : x ≤ 48
  · exact ⟨48, 48, 300, ⟨h0, h⟩, zrn48⟩
  replace h0 : 49 ≤ x := by omega
  clear h
  by_cases h : x ≤ 49
  · exact ⟨49, 49, 300, ⟨h0, h⟩, zrn49⟩
  replace h0 : 50 ≤ x := by omega
  clear h
  by_cases h : x ≤ 50
  · exact ⟨50, 50, 300, ⟨h0, h⟩, zrn50⟩
  replace h0 : 51 ≤ x := by omega
  clear h
  by_cases h : x ≤ 51
  · exact ⟨51, 51, 1097, ⟨h0, h⟩, zrn51⟩
  replace h0 : 52 ≤ x := by omega
  clear h
  by_cases h : x ≤ 52
  · exact ⟨52, 52, 1087, ⟨h0, h⟩, zrn52⟩
  replace h0 : 53 ≤ x := by omega
  clear h
  by_cases h : x ≤ 53
  · exact ⟨53, 53, 1094, ⟨h0, h⟩, zrn53⟩
  replace h0 : 54 ≤ x := by omega
  clear h
  by_cases h : x ≤ 54
  · exact ⟨54, 54, 1104, ⟨h0, h⟩, zrn54⟩
  replace h0 : 55 ≤ x := by omega
  clear h
  by_cases h : x ≤ 55
  · exact ⟨55, 55, 300, ⟨h0, h⟩, zrn55⟩
  replace h0 : 56 ≤ x := by omega
  clear h
  by_cases h : x ≤ 56
  · exact ⟨56, 56, 300, ⟨h0, h⟩, zrn56⟩
  replace h0 : 57 ≤ x := by omega
  clear h
  by_cases h : x ≤ 57
  · exact ⟨57, 57, 300, ⟨h0, h⟩, zrn57⟩
  replace h0 : 58 ≤ x := by omega
  clear h
  by_cases h : x ≤ 58
  · exact ⟨58, 58, 300, ⟨h0, h⟩, zrn58⟩
  replace h0 : 59 ≤ x := by omega
  clear h
  by_cases h : x ≤ 59
  · exact ⟨59, 59, 300, ⟨h0, h⟩, zrn59⟩
  replace h0 : 60 ≤ x := by omega
  clear h
  by_cases h : x ≤ 60
  · exact ⟨60, 60, 300, ⟨h0, h⟩, zrn60⟩
  replace h0 : 61 ≤ x := by omega
  clear h
  by_cases h : x ≤ 61
  · exact ⟨61, 61, 300, ⟨h0, h⟩, zrn61⟩
  replace h0 : 62 ≤ x := by omega
  clear h
  by_cases h : x ≤ 62
  · exact ⟨62, 62, 300, ⟨h0, h⟩, zrn62⟩
  replace h0 : 63 ≤ x := by omega
  clear h
  by_cases h : x ≤ 63
  · exact ⟨63, 63, 300, ⟨h0, h⟩, zrn63⟩
  replace h0 : 64 ≤ x := by omega
  clear h
  by_cases h : x ≤ 64
  · exact ⟨64, 64, 300, ⟨h0, h⟩, zrn64⟩
  replace h0 : 65 ≤ x := by omega
  clear h
  by_cases h : x ≤ 65
  · exact ⟨65, 65, 300, ⟨h0, h⟩, zrn65⟩
  replace h0 : 66 ≤ x := by omega
  clear h
  by_cases h : x ≤ 66
  · exact ⟨66, 66, 300, ⟨h0, h⟩, zrn66⟩
  replace h0 : 67 ≤ x := by omega
  clear h
  by_cases h : x ≤ 67
  · exact ⟨67, 67, 1776, ⟨h0, h⟩, zrn67⟩
  replace h0 : 68 ≤ x := by omega
  clear h
  by_cases h : x ≤ 68
  · exact ⟨68, 68, 300, ⟨h0, h⟩, zrn68⟩
  replace h0 : 69 ≤ x := by omega
  clear h
  by_cases h : x ≤ 69
  · exact ⟨69, 69, 949, ⟨h0, h⟩, zrn69⟩
  replace h0 : 70 ≤ x := by omega
  clear h
  by_cases h : x ≤ 70
  · exact ⟨70, 70, 300, ⟨h0, h⟩, zrn70⟩
  replace h0 : 71 ≤ x := by omega
  clear h
  by_cases h : x ≤ 71
  · exact ⟨71, 71, 300, ⟨h0, h⟩, zrn71⟩
  replace h0 : 72 ≤ x := by omega
  clear h
  exact ⟨72, 127, 300, ⟨h0, h9⟩, zrn72⟩
end
section
theorem whole_start {p : Program} {e : Env} {s : State} {m : MethodId} {below : List Frame} {meth : Method} {c : Code} (l : Launch) (hflags : l.flags = flags0) {b L : Nat} {xs : Nat → Int32} (hL : L ≤ 6) (C0 : lw_At p s m meth c b L xs) : W p l e room_1 s m #[Value.ref b] below meth c s.heap [] 0 0 (lw_Z below #[Value.ref b] s) (entryFrame m ([Value.ref b] : List Value).toArray 4) := by
  rcases Nat.lt_or_ge L 6 with h | h
  · exact z_start (ρ := zrho L xs) l hL C0 zrun5 (z_iv5 (by omega)) ⟨rfl, fun h => by cases h⟩ (by decide)
  · have e6 : L = 6 := by omega
    subst e6
    obtain ⟨lo, hi, f, h1, h2⟩ := zall6 (xs 0 &&& 127).toInt (z_a127 _).1 (z_a127 _).2
    exact z_start (ρ := zrho 6 xs) l hL C0 h2 (z_iv6 h1) z_sc6 (Nat.lt_succ_self 9)
end
section
set_option maxHeartbeats 4000000 in
theorem lw_walk (l : Launch) (hflags : l.flags = flags0) (b : Addr) (xs : List Int32) : MetFree l x (headSpec (Jvm.Cond.code x code maxLocals ret :: tables_1) room_1) (lw_P b xs) (fun _ _ _ _ _ => True) lw_Q := by
  refine MetFree.of_bodyS (code := code) (maxLocals := maxLocals) (ret := ret) (by decide) ?_ ?_
  · intro args s m h hn
    obtain ⟨meth, c, h1, h2, h3, h4, h5, h6, -, -⟩ := Cond.code_spec hn (atoms_spec (ws := Jvm.Cond.code x code maxLocals ret :: tables_1) h _ List.mem_cons_self)
    exact ⟨meth, c, h1, h2, h3, h4, h5, h6⟩
  · intro p e s m args below meth c s₁ B hml0 hP _
    obtain ⟨rfl, hx, hbd, hgv⟩ := hP
    obtain ⟨scr, harrAt, hlist, hof, hsmall⟩ := hx
    obtain ⟨hcb, hkn, -, -⟩ := State.arrayAt?_spec harrAt
    have hown : s.vm.findClass R_law = some m.cls := findClass_of_methodNamed B.named
    have hts0 : ∀ c ∈ (Jvm.Cond.code x code maxLocals ret :: tables_1), c.before #[Value.ref b] s = true := atoms_spec (ws := Jvm.Cond.code x code maxLocals ret :: tables_1) B.pre
    have hts : ∀ w ∈ lw_tbl, w.before #[Value.ref b] s = true := k2_hts_sels lw_privs (fun w hw => hts0 w (List.mem_cons_of_mem _ hw)) lw_privs_ok
    have hml : c.maxLocals = 4 := B.maxLocals_eq (hts0 _ List.mem_cons_self)
    have X₀ : Stand p l e room_1 s m #[Value.ref b] below meth c s₁ [] 0 0 := Stand.of_body B
    have hh0 : s₁.heap = s.heap := by rw [B.state]; rfl
    have hsz : scr.slots.size = xs.length := by rw [← Array.length_toList, hlist, List.length_map]
    have hval : ∀ j : Nat, j < xs.length → scr.slots[j]? = some (.int (xs.getD j 0)) := fun j hj => by
      rw [← Array.getElem?_toList, hlist]
      simp [hj]
    have hbl : b < s.heap.size := (Array.getElem?_eq_some_iff.mp hcb).1
    have hX : va_X b xs.length (fun j => xs.getD j 0) s s.heap := ⟨scr, hcb, hof, hkn, hsz, hval⟩
    have K : W p l e room_1 s m #[Value.ref b] below meth c s₁.heap [] 0 0 (lw_Z below #[Value.ref b] s) (entryFrame m ([Value.ref b] : List Value).toArray 4) := by
      rw [hh0]
      exact whole_start l hflags hbd ⟨B.exec, B.bytes, B.returns, hml, hown, hts, hX, hbl, B.notSynchronized, hgv⟩
    obtain ⟨t, a1, o, b1, b2, b3⟩ := K s₁ rfl X₀
    exact ⟨t, o, a1, b1, b2, b3⟩
theorem lw_pre_spec {args : Array Value} {s : State} (h : (Jvm.Cond.and given_1 narrow_1).before args s = true) (hr : rest_1_c.before args s = true) : ∃ (b : Addr) (xs : List Int32), lw_P b xs args s := by
  have hs := flat_of_before _ h
  have hq := flat_of_before _ hr
  have hc : (Cond.count 1).before args s = true := hs _ (by decide +kernel)
  have harr : (Cond.arrayOf (.arg 0) .int).before args s = true := hs _ (by decide +kernel)
  have hle : (Cond.le (.length (.arg 0)) (.int 6)).before args s = true := hs _ (by decide +kernel)
  have hlen : (Cond.isInt (.length (.arg 0))).before args s = true := hq _ (by decide +kernel)
  have hall : (Cond.all (.arg 0) (.isInt (.elem (.arg 0) (.index 0)))).before args s = true := hq _ (by decide +kernel)
  obtain ⟨b, xs, hb, hx⟩ := State.ints_of_pre rfl harr hlen hall
  have hsm : xs.length < 2 ^ 31 := hx.choose_spec.2.2.2
  have hev : (Term.length (.arg 0)).eval args s none [] s = some (.int xs.length.toInt32) := hx.length_eval hb
  have hv := Cond.le_ints hev (show (Term.int 6).eval args s none [] s = some (.int 6) from rfl)
  have hd : xs.length.toInt32 ≤ 6 := by
    simpa [Cond.before, Cond.holds, hv] using hle
  have hN : xs.length ≤ 6 := (Int32.ofNat_le_ofNat hsm (by decide)).mp (show Int32.ofNat xs.length ≤ Int32.ofNat 6 from hd)
  exact ⟨b, xs, Cond.one_arg hc (show args[0]? = some (.ref b) from hb), hx, hN, h⟩
theorem lw_comes (l : Launch) (hflags : l.flags = flags0) : Comes l x (Jvm.Cond.code x code maxLocals ret :: tables_1) room_1 (fun tb e args s => Calls_1 tb e args s ∧ rest_1 tb e args s ∧ Pre_1 tb e args s)
    (fun _ _ args s o t => lw_Q args s o t) := by
  intro p e ha hc hk s m args below hf hfit hheap happ hpre
  obtain ⟨b, xs, hP⟩ := lw_pre_spec hpre.2.2 hpre.2.1
  obtain ⟨k, o, h1, h2, h3, hQ⟩ := lw_walk l hflags b xs p e ha hc hk s m args below hf ((Spec.applies_iff_loose hf).mp happ).1 hP trivial
  exact ⟨k, o, h1, h2, h3, hQ⟩
theorem lw_frame {s t : State} {o : Outcome} {args : Array Value} (h : Framed s o t [] 600000 7302250) :
    Framed s o t (fieldLocs frame_1_writes args s ++ arrayLocs frame_1_arrays args s ++ staticLocs frame_1_statics s) 600000 7302250 := h
theorem lw_limb (L : Cond) (hL : ∀ (args : Array Value) (s t : State), L.after args s (.returned (some (.int 1))) t = true) :
    ArmFor flags0 classFile x code maxLocals ret World_1 tables_1 room_1 Calls_1 rest_1 Pre_1
      (fun tb e a s o t => postC L tb e a s o t ∧ Framed s o t (fieldLocs frame_1_writes a s ++ arrayLocs frame_1_arrays a s ++ staticLocs frame_1_statics s) 600000 7302250) := by
  intro l hflags _ _ p e ha hc hk s m args below hf hfit hheap happ hpre
  obtain ⟨k, o, h1, h2, h3, rfl, hF⟩ := lw_comes l hflags p e ha hc hk s m args below hf hfit hheap happ hpre
  exact ⟨k, _, h1, h2, h3, hL args s _, lw_frame hF⟩
theorem i_vc : Claimed_1_1 ∧ Claimed_1_2 := ⟨lw_limb limb_1_1 (fun args s t => by simp [limb_1_1, Cond.after, Cond.holds, Cond.value]), lw_limb limb_1_2 (fun args s t => Cond.after_iff.mpr (by
  first | (rw [show limb_1_2 = Cond.eq .result (.int 1) from rfl, Cond.eq_ints (x := 1) (y := 1) rfl rfl]; simp; done) | (simp [limb_1_2, Cond.value, Term.eval]; done)))⟩
end
